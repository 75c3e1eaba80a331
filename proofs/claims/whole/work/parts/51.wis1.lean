/-! a state: twice the level, and 1 if it rained; what comes behind a month's leak -/
def sbl (S : wW) (rain : Int) (st : Nat) : Nat := (2 * lvB S (S 0 0) (S 0 1) (S 0 4) rain (st / 2 : Nat) (st % 2 : Nat) + wetF rain).toNat
theorem sbl_in {S : wW} (hS : hR S) {rain : Int} (hr : 0 ≤ rain ∧ rain ≤ 9) {st : Nat} (hs : (st : Int) ≤ 2 * S 0 1 + 1) : (sbl S rain st : Int) = 2 * lvB S (S 0 0) (S 0 1) (S 0 4) rain (st / 2 : Nat) (st % 2 : Nat) + wetF rain ∧ (sbl S rain st : Int) ≤ 2 * S 0 1 + 1 := by
  have hA := hS.2.1
  have hB := lvB_in (wet := (st % 2 : Nat)) hS (area := S 0 0) (size := S 0 1) (leak := S 0 4) (lv := (st / 2 : Nat)) (by omega) hr (by omega) hS.2.2.2.2.2.1.1
  have hw : wetF rain = 0 ∨ wetF rain = 1 := wetF_01 rain
  unfold sbl
  omega

def p_X9_stateBehindLeak (S : wW) : List wV → wW → Prop := fun av w => match av with
  | [.inr (.inr (some h)), .inl st, .inl rain] => h = 4 ∧ hR S ∧ hX S w ∧ (0 ≤ st ∧ st ≤ 2 * S 0 1 + 1) ∧ (0 ≤ rain ∧ rain ≤ 9)
  | _ => False
def q_X9_stateBehindLeak (S : wW) : List wV → wW → Int → wW → Prop := fun av w r w' => match av with
  | [.inr (.inr (some h)), .inl st, .inl rain] => r = sbl S rain st.toNat ∧ w' = w
  | _ => False
set_option maxRecDepth 100000 in
set_option maxHeartbeats 4000000 in
theorem c_X9_stateBehindLeak (S : wW) : w_Ct yX9_stateBehindLeak cX9_stateBehindLeak 5 1 0 0 (p_X9_stateBehindLeak S) (q_X9_stateBehindLeak S) := by
  refine w_met (own := RX9) (fl := w_fl9) (gs := w_gs9) (kl := w_kl9) (ki := w_ki9) (cs := []) (by decide +kernel) rfl ?_ w_flok9 w_gsok9 w_klok9 w_kiok9 ?_ ?_
  · intro av w h
    unfold p_X9_stateBehindLeak at h
    split at h
    · simp [w_pos, w_cat]
    · exact h.elim
  · exact fun _ h => absurd h List.not_mem_nil
  intro av w hp
  unfold p_X9_stateBehindLeak at hp
  split at hp
  case h_2 => exact hp.elim
  rename_i h st rain
  intro G hG
  simp only [w_ent, w_pos, w_cat, Nat.reduceEqDiff, ↓reduceIte, List.length_cons, List.length_nil, Nat.reduceAdd, Nat.reduceSub, List.cons_append, List.nil_append, List.replicate_succ, List.replicate_zero]
  obtain ⟨rfl, hS, hXw, hst, hrain⟩ := hp
  obtain ⟨st, rfl⟩ : ∃ n : Nat, st = n := ⟨st.toNat, by omega⟩
  obtain ⟨rain, rfl⟩ : ∃ n : Nat, rain = n := ⟨rain.toNat, by omega⟩
  have hA := hS.2.1
  have hSz := hS.2.2.1
  have hs := sbl_in hS hrain hst.2
  have s1 : w 5 1 = S 0 1 := hXw.2.1 1 (by decide)
  have s4 : w 5 4 = S 0 4 := hXw.2.1 4 (by decide)
  have hl := hS.2.2.2.2.2.1
  have hcm := hXw.2.2.2.2 rain (by omega)
  have hC : w 10 (10 * (st % 2) + rain) = lvC S (S 0 0) rain (st % 2 : Nat) := by
    have e : st % 2 = 0 ∨ st % 2 = 1 := by omega
    unfold lvC
    rcases e with e | e <;> rw [e]
    · rw [show 10 * 0 + rain = rain by omega]; exact hcm.1
    · exact hcm.2
  have hCr := lvC_in (wet := (st % 2 : Nat)) hS (area := S 0 0) (by omega) hrain
  have hi : (10 * ((st : Int) % 2) + rain).toNat = 10 * (st % 2) + rain := by omega
  have ha := w_and1 (x := (st : Int)) (by omega) (by omega)
  have hb := w_shr1 (x := (st : Int)) (by omega) (by omega)
  have fin : ∀ r : Int, r = (sbl S rain st : Int) → q_X9_stateBehindLeak S [vr 4, vi st, vi rain] w r w := fun r hr => by
    simp only [q_X9_stateBehindLeak, Int.toNat_natCast]
    exact ⟨hr, trivial⟩
  rw [hs.1] at fin
  unfold lvB lvO lvK wetF at fin
  (apply hG [] 2000; simp only [w_br_i, w_ite, w_all, w_all0, forall_eq, w_b0, w_b1, ↓reduceIte, w_ent, w_pos, List.replicate_succ, List.replicate_zero, wp_s, wk_s, w_lk_c, w_ld0, w_ldS, w_kp0, w_kp, w_s1, w_s2, w_to, w_if, w_call, w_sw, w_cat, w_cats, w_psh, w_fv, List.contains_cons, List.contains_nil, List.set_cons_zero, List.set_cons_succ, List.length_cons, List.length_nil, List.find?_cons, List.find?_nil, List.take_succ_cons, List.take_zero, List.drop_succ_cons, List.drop_zero, List.reverse_cons, List.reverse_nil, List.nil_append, List.cons_append, Option.map_some, Option.map_none, Nat.reduceAdd, Nat.reduceBEq, Nat.reduceEqDiff, Nat.reduceLT, Nat.reduceLeDiff, Nat.reduceSub, Int.reduceAdd, Int.reduceSub, Int.reduceMul, Int.reduceNeg, Int.reduceToNat, Int.reduceLT, Int.reduceLE, Int.reduceEq, Bool.false_eq_true, Bool.or_false, Bool.false_or, Bool.true_or, Bool.or_true, if_true, if_false, ite_true, ite_false, true_and, and_true, false_and, and_false, true_or, or_true, false_or, or_false, Int.cast_ofNat_Int, Int.toNat_natCast, Int.natCast_add, List.getElem?_cons_zero, List.getElem?_cons_succ, true_implies, forall_const, not_true_eq_false, not_false_eq_true, ne_eq, beq_iff_eq, imp_self, List.length_set, Nat.zero_add, Nat.add_zero, Int.zero_add, Int.add_zero, w1_aload_n_0, w1_getfield, w1_iconst, w1_iaload, w1_istore_n_3, w1_iload_n_1, w1_ishr, w1_bipush, w1_iand, w1_imul, w1_iload_n_2, w1_iadd, w1_istore, w1_iload, w1_iload_n_3, w1_if_icmp, w1_goto, w1_isub, w1_ifCond, w1_ireturn, dX9_stateBehindLeak_0, dX9_stateBehindLeak_1, dX9_stateBehindLeak_4, dX9_stateBehindLeak_5, dX9_stateBehindLeak_6, dX9_stateBehindLeak_7, dX9_stateBehindLeak_8, dX9_stateBehindLeak_9, dX9_stateBehindLeak_10, dX9_stateBehindLeak_11, dX9_stateBehindLeak_14, dX9_stateBehindLeak_16, dX9_stateBehindLeak_17, dX9_stateBehindLeak_18, dX9_stateBehindLeak_19, dX9_stateBehindLeak_20, dX9_stateBehindLeak_21, dX9_stateBehindLeak_22, dX9_stateBehindLeak_23, dX9_stateBehindLeak_24, dX9_stateBehindLeak_26, dX9_stateBehindLeak_28, dX9_stateBehindLeak_29, dX9_stateBehindLeak_32, dX9_stateBehindLeak_33, dX9_stateBehindLeak_36, dX9_stateBehindLeak_38, dX9_stateBehindLeak_39, dX9_stateBehindLeak_42, dX9_stateBehindLeak_43, dX9_stateBehindLeak_44, dX9_stateBehindLeak_45, dX9_stateBehindLeak_47, dX9_stateBehindLeak_49, dX9_stateBehindLeak_52, dX9_stateBehindLeak_53, dX9_stateBehindLeak_56, dX9_stateBehindLeak_57, dX9_stateBehindLeak_59, dX9_stateBehindLeak_60, dX9_stateBehindLeak_61, dX9_stateBehindLeak_64, dX9_stateBehindLeak_65, dX9_stateBehindLeak_68, dX9_stateBehindLeak_69, dX9_stateBehindLeak_70, w_flk9_158, w_flk9_325, w_kd_4, w_rf_4_0, w_rf_4_1, w_rf_4_2, w_rf_4_3, w_rf_4_4, w_rf_4_5, w_kd_5, w_ln_5, w_kd_10, w_ln_10, s1, s4, ha, hb, hi, hC])
  (repeat' (with_reducible (first | refine And.intro ?_ ?_ | intro _))) <;> (try (first | assumption | contradiction | exact Or.inl trivial | exact Or.inl rfl | exact Or.inr rfl | (simp only [inI, inL]; omega) | omega))
  all_goals (refine fin _ ?_; (repeat' split) <;> omega)
/-! what is short when g are given together, the worthiest use first: dC with nothing pumped, and the numbers of it -/
def wG (S : wW) (m : Int) (g : Int) : Int := dC S m 0 (dO S 1) g 0 (S 4 0).toNat
/-- all wants of a month -/
def wT (S : wW) (m : Int) : Int := dT S m (S 4 0).toNat
/-- wants and costs of the first i uses in the order by worth -/
def oT (S : wW) (m : Int) : Nat → Int
  | 0 => 0
  | i + 1 => oT S m i + dW S (dO S 1 i) m
def oC (S : wW) (m : Int) : Nat → Int
  | 0 => 0
  | i + 1 => oC S m i + dW S (dO S 1 i) m * S 3 (dO S 1 i)
theorem dg_0 (S : wW) (m : Int) (u : Nat) (l : Int) : dg S m 0 u l = if dW S u m < l then dW S u m else l := by simp [dg, dWh]
theorem oT_in {S : wW} (h : hR S) (m : Int) : ∀ i, i ≤ (S 4 0).toNat → 0 ≤ oT S m i ∧ oT S m i ≤ 24 * i
  | 0, _ => by simp [oT]
  | i + 1, hi => by
    have ih := oT_in h m i (by omega)
    have := dW_in h (dO_lt h 1 (i := i) (by omega)) m
    simp only [oT]
    omega
/-- as long as all wants are met -/
theorem dC_full {S : wW} (h : hR S) (m : Int) {l0 : Int} : ∀ i, i ≤ (S 4 0).toNat → oT S m i ≤ l0 → dL S m 0 (dO S 1) l0 i = l0 - oT S m i ∧ dC S m 0 (dO S 1) l0 0 i = 0
  | 0, _, _ => by simp [dL, dC, oT]
  | i + 1, hi, hl => by
    have hw := dW_in h (dO_lt h 1 (i := i) (by omega)) m
    simp only [oT] at hl
    have ih := dC_full h m (l0 := l0) i (by omega) (by omega)
    simp only [dL, dC, oT, dg_0, ih.1, ih.2]
    constructor
    · split <;> omega
    · rw [show dW S (dO S 1 i) m - (if dW S (dO S 1 i) m < l0 - oT S m i then dW S (dO S 1 i) m else l0 - oT S m i) = 0 by split <;> omega]
      simp
/-- and from the use on at which nothing is left -/
theorem dC_dry {S : wW} (h : hR S) (m : Int) {l0 : Int} {i : Nat} (hz : dL S m 0 (dO S 1) l0 i = 0) : ∀ j, i + j ≤ (S 4 0).toNat → dL S m 0 (dO S 1) l0 (i + j) = 0 ∧ dC S m 0 (dO S 1) l0 0 (i + j) = dC S m 0 (dO S 1) l0 0 i + (oC S m (i + j) - oC S m i)
  | 0, _ => ⟨hz, by simp⟩
  | j + 1, hj => by
    have ih := dC_dry h m hz j (by omega)
    have hw := dW_in h (dO_lt h 1 (i := i + j) (by omega)) m
    have e : dg S m 0 (dO S 1 (i + j)) 0 = 0 := by rw [dg_0]; split <;> omega
    show dL S m 0 (dO S 1) l0 (i + j + 1) = 0 ∧ dC S m 0 (dO S 1) l0 0 (i + j + 1) = _ + (oC S m (i + j + 1) - _)
    simp only [dL, dC, oC, ih.1, ih.2, e]
    constructor
    · rfl
    · rw [Int.sub_zero]; omega
/-- t of the wants of use i met, behind all of those ahead of it -/
theorem wG_at {S : wW} (h : hR S) (m : Int) {i : Nat} (hi : i < (S 4 0).toNat) {t : Int} (ht : 0 ≤ t ∧ t ≤ dW S (dO S 1 i) m) : wG S m (oT S m i + t) = oC S m (S 4 0).toNat - oC S m i - t * S 3 (dO S 1 i) := by
  have hf := dC_full h m (l0 := oT S m i + t) i (by omega) (by omega)
  have hd : dL S m 0 (dO S 1) (oT S m i + t) (i + 1) = 0 ∧ dC S m 0 (dO S 1) (oT S m i + t) 0 (i + 1) = (dW S (dO S 1 i) m - t) * S 3 (dO S 1 i) := by
    simp only [dL, dC, dg_0, hf.1, hf.2]
    rw [show oT S m i + t - oT S m i = t by omega, show (if dW S (dO S 1 i) m < t then dW S (dO S 1 i) m else t) = t by split <;> omega]
    constructor
    · omega
    · omega
  obtain ⟨j, hj⟩ : ∃ j, (S 4 0).toNat = i + 1 + j := ⟨(S 4 0).toNat - (i + 1), by omega⟩
  have hy := dC_dry h m hd.1 j (by omega)
  unfold wG
  rw [hj, hy.2, hd.2]
  simp only [oC, Int.sub_mul]
  omega
theorem wG_0 {S : wW} (h : hR S) (m : Int) : wG S m 0 = oC S m (S 4 0).toNat := by
  have := dC_dry h m (l0 := 0) (i := 0) rfl (S 4 0).toNat (by omega)
  unfold wG
  rw [show (S 4 0).toNat = 0 + (S 4 0).toNat by omega]
  rw [this.2]
  simp [dC, oC]
