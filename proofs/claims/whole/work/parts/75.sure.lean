/-! SURE and MEAN -/
def surN (S T : wW) (r : Nat) : Int := sm (vV S (rS S T r) 1 12) 402
def meaN (S T : wW) (r : Nat) : Int := KV S (rS S T r) 12
/-- what is kept with a rule -/
def cvR (S T w : wW) (r : Nat) : Prop := (-1 ≤ w (36 + r) 3 ∧ w (36 + r) 3 ≤ w 0 15) ∧ (-1 ≤ w (36 + r) 4 ∧ w (36 + r) 4 ≤ w 0 15) ∧ (w (36 + r) 3 = w 0 15 → w (36 + r) 5 = surN S T r) ∧ (w (36 + r) 4 = w 0 15 → w (36 + r) 6 = meaN S T r)
def cvI (S T w : wW) : Prop := ∀ r, r < 8 → (r < (T 4 2).toNat → cvR S T w r) ∧ ((T 4 2).toNat ≤ r → w (36 + r) 3 = -1 ∧ w (36 + r) 4 = -1)
def evC (S w w' : wW) : Prop := (∀ k i, (k < 56 ∨ 134 < k) → ¬ ((36 ≤ k ∧ k < 44) ∧ 3 ≤ i) → w' k i = w k i) ∧ wiI S w'
def surA (S T : wW) (i part : Int) : Int := if i < 0 ∨ T 4 2 ≤ i then -101 else if T 4 4 = 0 ∨ S 4 1 = 0 then -103 else if part < 0 ∨ 1 < part then -102 else trA (surN S T i.toNat) (wy S 12) part
def meaA (S T : wW) (i part : Int) : Int := if i < 0 ∨ T 4 2 ≤ i then -101 else if T 4 4 = 0 ∨ S 4 1 = 0 then -103 else if part < 0 ∨ 1 < part then -102 else trA (meaN S T i.toNat) (wy S 12) part
theorem rS_d {S T w : wW} {r : Nat} (hS : hR S) (h : rC T w r) (hp : w (36 + r) 1 = 3 → plW S w) : ∀ m s, m < 12 → s < nSt S → dE S (rX w (36 + r)) m s = dE S (rS S T r) m s ∧ dSh S (rX w (36 + r)) m s = dSh S (rS S T r) m s ∧ dCo S (rX w (36 + r)) m s = dCo S (rS S T r) m s := by
  intro m s hm hs
  have hSz := hS.2.2.1
  unfold nSt at hs
  exact d_like hS (rX_S h hp m hm _ _ ⟨by omega, by omega⟩ (by omega))
theorem surN_in {S T : wW} (hS : hR S) (hy : yR S) (r : Nat) : 0 ≤ surN S T r ∧ surN S T r ≤ 68719476736 := by
  have hSz := hS.2.2.1
  have h := vV_in hS hy (rS S T r) 1 12 (Nat.le_refl _)
  have h1 := h.2 402 (by unfold nSt; omega)
  have h2 := sm_nn (f := vV S (rS S T r) 1 12) 402 (fun s _ => h.1 s)
  have h3 := (pw8_12 12 (Nat.le_refl _)).2
  unfold surN
  omega
/-- a rule's numbers in range -/
def rT (T : wW) (r : Nat) : Prop := (0 ≤ T 5 r ∧ T 5 r ≤ 5) ∧ (0 ≤ T 6 r ∧ T 6 r ≤ 200) ∧ ∀ m, m < 12 → 0 ≤ T (40 + r) m ∧ T (40 + r) m ≤ 99
theorem rT_of {T w : wW} {r : Nat} (hr : rR w (36 + r)) (h : rC T w r) : rT T r := by
  refine ⟨by rw [← h.1]; exact hr.2.1, by rw [← h.2.1]; exact hr.2.2.1, fun m hm => ?_⟩
  have := hr.2.2.2 m hm
  rw [show 36 + r + 10 = 46 + r by omega, h.2.2 m hm] at this
  exact this
theorem okR_S {S T : wW} (hS : hR S) {r : Nat} (h : rT T r) : okR S (rS S T r) := by
  intro m lv wet hm l1 l2 hw
  have h05 := hS.2.2.2.2.2.2.1
  have hc := h.2.2 m hm
  have hpN := pNw_in hS m (lv := lv.toNat) (by omega)
  have hx := amF_le (fA S m (wy S (11 - m)) (wA S (11 - m)) wet.toNat lv.toNat) (pNw S m lv.toNat)
  have hx' : xA S m (wy S (11 - m)) (wA S (11 - m)) wet.toNat lv.toNat = amF (fA S m (wy S (11 - m)) (wA S (11 - m)) wet.toNat lv.toNat) (pNw S m lv.toNat) := rfl
  unfold okr zP ePump eMost
  have e0 : rS S T r m lv wet 0 = T 5 r := rfl
  have e1 : rS S T r m lv wet 1 = T 6 r := rfl
  have e2 : rS S T r m lv wet 2 = T (40 + r) m := rfl
  have e3 : rS S T r m lv wet 3 = (xA S m (wy S (11 - m)) (wA S (11 - m)) wet.toNat lv.toNat : Nat) := rfl
  have e4 : rS S T r m lv wet 4 = (gA S m (wy S (11 - m)) (wA S (11 - m)) wet.toNat (lv.toNat + xA S m (wy S (11 - m)) (wA S (11 - m)) wet.toNat lv.toNat) : Nat) := rfl
  have e5 : rS S T r m lv wet 5 = 72 := rfl
  rw [e0, e1, e2, e3, e4, e5]
  refine ⟨?_, by (repeat' split) <;> omega⟩
  have : 0 ≤ (if (m : Int) = 7 then 0 else S 0 5) := by split <;> omega
  (repeat' split) <;> omega
theorem meaN_in {S T : wW} {r : Nat} (hS : hR S) (hy : yR S) (h : rT T r) : 0 ≤ meaN S T r ∧ meaN S T r ≤ 2500000000000000 := by
  have h1 := KV_in hS hy (okR_S hS h) 12 (Nat.le_refl _)
  have h2 := bdK_in 12 (Nat.le_refl _)
  unfold meaN
  omega

def p_X9_sure (S T : wW) : List wV → wW → Prop := fun av w => match av with
  | [.inr (.inr (some this)), .inl i, .inl part] => this = 0 ∧ RQ S T w ∧ cvI S T w ∧ inI i ∧ inI part
  | _ => False
theorem h_X9_sure (S T : wW) : ∀ av w, (p_X9_sure S T) av w → ∃ a r, av = vr a :: r ∧ w_kd a = 100 + 9 := by
  intro av w h
  unfold p_X9_sure at h
  split at h
  · refine ⟨_, _, rfl, ?_⟩
    first | (rw [h.1]; rfl) | (rw [h]; rfl)
  · exact h.elim
def q_X9_sure (S T : wW) : List wV → wW → Int → wW → Prop := fun av w r w' => match av with
  | [.inr (.inr (some this)), .inl i, .inl part] => r = surA S T i part ∧ evC S w w' ∧ cvI S T w'
  | _ => False
set_option maxRecDepth 100000 in
set_option maxHeartbeats 4000000 in
theorem c_X9_sure (S T : wW) : w_Ct yX9_sure cX9_sure 4 2 6 146 (p_X9_sure S T) (q_X9_sure S T) := by
  refine w_met (own := RX9) (fl := w_fl9) (gs := w_gs9) (kl := w_kl9) (ki := w_ki9) (cs := [(152, (0, 2, 3, p_X9_isNoRule, q_X9_isNoRule)), (180, (0, 1, 3, p_X9_lacksHouseOrYear, q_X9_lacksHouseOrYear)), (194, (0, 2, 0, (p_X9_makeWise S), (q_X9_makeWise S))), (243, (0, 2, 2, (p_X0_waysNeverDry S), (q_X0_waysNeverDry S))), (250, (0, 3, 2, (p_X9_inLowestTerms S), (q_X9_inLowestTerms S)))]) (by decide +kernel) rfl ?_ w_flok9 w_gsok9 w_klok9 w_kiok9 ?_ ?_
  · intro av w h
    unfold p_X9_sure at h
    split at h
    · simp [w_pos, w_cat]
    · exact h.elim
  · exact List.forall_mem_cons.mpr ⟨⟨_, _, w_callV (own := RX9) (idx := 152) (ci := 9) c_X9_isNoRule rfl rfl h_X9_isNoRule (w_m3 46 (by decide +kernel) (by decide +kernel)) (w_m3 48 (by decide +kernel) (by decide +kernel)) (w_m0 10 (by decide +kernel) (by decide +kernel)) (w_m1 1 (by decide +kernel) (by decide +kernel)) (w_m3 49 (by decide +kernel) (by decide +kernel)) ⟨by decide +kernel, by decide +kernel, by decide +kernel⟩, by decide, by decide⟩, List.forall_mem_cons.mpr ⟨⟨_, _, w_callV (own := RX9) (idx := 180) (ci := 9) c_X9_lacksHouseOrYear rfl rfl h_X9_lacksHouseOrYear (w_m3 88 (by decide +kernel) (by decide +kernel)) (w_m3 90 (by decide +kernel) (by decide +kernel)) (w_m0 12 (by decide +kernel) (by decide +kernel)) (w_m1 1 (by decide +kernel) (by decide +kernel)) (w_m3 91 (by decide +kernel) (by decide +kernel)) ⟨by decide +kernel, by decide +kernel, by decide +kernel⟩, by decide, by decide⟩, List.forall_mem_cons.mpr ⟨⟨_, _, w_callV (own := RX9) (idx := 194) (ci := 9) (c_X9_makeWise S) rfl rfl (h_X9_makeWise S) (w_m3 96 (by decide +kernel) (by decide +kernel)) (w_m3 98 (by decide +kernel) (by decide +kernel)) (w_m0 14 (by decide +kernel) (by decide +kernel)) (w_m1 1 (by decide +kernel) (by decide +kernel)) (w_m3 99 (by decide +kernel) (by decide +kernel)) ⟨by decide +kernel, by decide +kernel, by decide +kernel⟩, by decide, by decide⟩, List.forall_mem_cons.mpr ⟨⟨_, _, w_callV (own := RX9) (idx := 243) (ci := 0) (c_X0_waysNeverDry S) rfl rfl (h_X0_waysNeverDry S) (w_m3 221 (by decide +kernel) (by decide +kernel)) (w_m3 222 (by decide +kernel) (by decide +kernel)) (w_m3 223 (by decide +kernel) (by decide +kernel)) (w_m1 11 (by decide +kernel) (by decide +kernel)) (w_m3 224 (by decide +kernel) (by decide +kernel)) ⟨by decide +kernel, by decide +kernel, by decide +kernel⟩, by decide, by decide⟩, List.forall_mem_cons.mpr ⟨⟨_, _, w_callV (own := RX9) (idx := 250) (ci := 9) (c_X9_inLowestTerms S) rfl rfl (h_X9_inLowestTerms S) (w_m4 10 (by decide +kernel) (by decide +kernel)) (w_m4 12 (by decide +kernel) (by decide +kernel)) (w_m0 27 (by decide +kernel) (by decide +kernel)) (w_m1 1 (by decide +kernel) (by decide +kernel)) (w_m4 13 (by decide +kernel) (by decide +kernel)) ⟨by decide +kernel, by decide +kernel, by decide +kernel⟩, by decide, by decide⟩, fun _ h => absurd h List.not_mem_nil⟩⟩⟩⟩⟩
  intro av w hp
  unfold p_X9_sure at hp
  split at hp
  case h_2 => exact hp.elim
  rename_i this i part
  intro G hG
  simp only [w_ent, w_pos, w_cat, Nat.reduceEqDiff, ↓reduceIte, List.length_cons, List.length_nil, Nat.reduceAdd, Nat.reduceSub, List.cons_append, List.nil_append, List.replicate_succ, List.replicate_zero]
  obtain ⟨rfl, hQ, hcv, hi, hpt⟩ := hp
  have hT0 : evC S w w := ⟨fun k i _ _ => rfl, hQ.2.2.2.2.1⟩
  obtain ⟨⟨hrc, hrc0⟩, ⟨hh, hh0⟩, ⟨hy, hyX⟩, hH, hwi, hru⟩ := hQ
  have hyc := hy.1
  have hy1 := hyX.1
  have e36 : (0 ≤ i ∧ i < T 4 2) → ¬ (T 4 4 = 0 ∨ S 4 1 = 0) → (0 ≤ part ∧ part ≤ 1) → G 36 [some (vr 0), some (vi i), some (vi part), none] [] w := by
    intro h1 h2 h3
    obtain ⟨hS, hXw⟩ := hH (by omega)
    obtain ⟨r, rfl⟩ : ∃ n : Nat, i = n := ⟨i.toNat, by omega⟩
    have hin := hru r (by omega)
    have hcr := (hcv r (by omega)).1 (by omega)
    have kr := w_kdr (a := 36 + r) (by omega)
    have hs := surN_in (T := T) hS hy r
    have hv := hwi.2.1
    have hv3 : inI (w (36 + r) 3) := ⟨by have := hcr.1.1; omega, by have := hcr.1.2; have := hv.2; omega⟩
    have e79 : ∀ w3 : wW, evC S w w3 → cvI S T w3 → w3 (36 + r) 5 = surN S T r → G 79 [some (vr 0), some (vi r), some (vi part), some (vr (36 + r))] [] w3 := by
      intro w3 h4 h5 h6
      have hyX3 : yX S w3 := yX_of hy hyX (fun k i hk => h4.1 k i (by omega) (by omega))
      have hpc : p_X9_inLowestTerms S [vr 0, vl (surN S T r), vi part] w3 := ⟨rfl, ⟨hy, hyX3, by omega⟩, ⟨hs.1, by omega⟩, hpt⟩
      (apply hG [] 2000; simp only [w_br_i, w_ite, w_all, w_all0, forall_eq, w_b0, w_b1, ↓reduceIte, w_ent, w_pos, List.replicate_succ, List.replicate_zero, wp_s, wk_s, w_lk_c, w_ld0, w_ldS, w_kp0, w_kp, w_s1, w_s2, w_to, w_if, w_call, w_sw, w_cat, w_cats, w_psh, w_fv, List.contains_cons, List.contains_nil, List.set_cons_zero, List.set_cons_succ, List.length_cons, List.length_nil, List.find?_cons, List.find?_nil, List.take_succ_cons, List.take_zero, List.drop_succ_cons, List.drop_zero, List.reverse_cons, List.reverse_nil, List.nil_append, List.cons_append, Option.map_some, Option.map_none, Nat.reduceAdd, Nat.reduceBEq, Nat.reduceEqDiff, Nat.reduceLT, Nat.reduceLeDiff, Nat.reduceSub, Int.reduceAdd, Int.reduceSub, Int.reduceMul, Int.reduceNeg, Int.reduceToNat, Int.reduceLT, Int.reduceLE, Int.reduceEq, Bool.false_eq_true, Bool.or_false, Bool.false_or, Bool.true_or, Bool.or_true, if_true, if_false, ite_true, ite_false, true_and, and_true, false_and, and_false, true_or, or_true, false_or, or_false, Int.cast_ofNat_Int, Int.toNat_natCast, Int.natCast_add, List.getElem?_cons_zero, List.getElem?_cons_succ, true_implies, forall_const, not_true_eq_false, not_false_eq_true, ne_eq, beq_iff_eq, imp_self, List.length_set, Nat.zero_add, Nat.add_zero, Int.zero_add, Int.add_zero, w1_aload_n_0, w1_iload_n_1, w1_invokevirtual, w1_ifCond, w1_ldc2_w, w1_lreturn, w1_iload_n_2, w1_iconst, w1_if_icmp, w1_getfield, w1_aaload, w1_astore_n_3, w1_aload_n_3, w1_putfield, w1_putfield2, dX9_sure_0, dX9_sure_1, dX9_sure_2, dX9_sure_5, dX9_sure_8, dX9_sure_11, dX9_sure_12, dX9_sure_13, dX9_sure_16, dX9_sure_19, dX9_sure_22, dX9_sure_23, dX9_sure_24, dX9_sure_27, dX9_sure_28, dX9_sure_29, dX9_sure_32, dX9_sure_35, dX9_sure_36, dX9_sure_37, dX9_sure_40, dX9_sure_41, dX9_sure_42, dX9_sure_43, dX9_sure_44, dX9_sure_47, dX9_sure_48, dX9_sure_51, dX9_sure_54, dX9_sure_55, dX9_sure_56, dX9_sure_59, dX9_sure_60, dX9_sure_61, dX9_sure_64, dX9_sure_65, dX9_sure_68, dX9_sure_71, dX9_sure_72, dX9_sure_73, dX9_sure_76, dX9_sure_79, dX9_sure_80, dX9_sure_81, dX9_sure_84, dX9_sure_85, dX9_sure_88, w_flk9_118, w_flk9_240, w_flk9_247, w_flk9_32, w_flk9_88, w_klk9_234, w_klk9_236, w_klk9_238, w_kd_0, w_rf_0_0, w_rf_0_1, w_rf_0_2, w_rf_0_3, w_rf_0_4, w_rf_0_5, w_rf_0_6, w_rf_0_7, w_rf_0_8, w_rf_0_9, w_rf_0_10, kr, h6, hpc, q_X9_inLowestTerms])
      (repeat' (with_reducible (first | refine And.intro ?_ ?_ | intro _))) <;> (try (first | assumption | contradiction | exact Or.inl trivial | exact Or.inl rfl | exact Or.inr rfl | (simp only [inI, inL]; omega) | omega))
      all_goals (refine ⟨?_, h4, h5⟩; unfold surA; rw [if_neg (by omega), if_neg h2, if_neg (by omega), Int.toNat_natCast])
    by_cases c : w (36 + r) 3 = w 0 15
    · have e := e79 w hT0 hcv (hcr.2.2.1 c)
      (apply hG [79] 2000; simp only [w_br_i, w_ite, w_all, w_all0, forall_eq, w_b0, w_b1, ↓reduceIte, w_ent, w_pos, List.replicate_succ, List.replicate_zero, wp_s, wk_s, w_lk_c, w_ld0, w_ldS, w_kp0, w_kp, w_s1, w_s2, w_to, w_if, w_call, w_sw, w_cat, w_cats, w_psh, w_fv, List.contains_cons, List.contains_nil, List.set_cons_zero, List.set_cons_succ, List.length_cons, List.length_nil, List.find?_cons, List.find?_nil, List.take_succ_cons, List.take_zero, List.drop_succ_cons, List.drop_zero, List.reverse_cons, List.reverse_nil, List.nil_append, List.cons_append, Option.map_some, Option.map_none, Nat.reduceAdd, Nat.reduceBEq, Nat.reduceEqDiff, Nat.reduceLT, Nat.reduceLeDiff, Nat.reduceSub, Int.reduceAdd, Int.reduceSub, Int.reduceMul, Int.reduceNeg, Int.reduceToNat, Int.reduceLT, Int.reduceLE, Int.reduceEq, Bool.false_eq_true, Bool.or_false, Bool.false_or, Bool.true_or, Bool.or_true, if_true, if_false, ite_true, ite_false, true_and, and_true, false_and, and_false, true_or, or_true, false_or, or_false, Int.cast_ofNat_Int, Int.toNat_natCast, Int.natCast_add, List.getElem?_cons_zero, List.getElem?_cons_succ, true_implies, forall_const, not_true_eq_false, not_false_eq_true, ne_eq, beq_iff_eq, imp_self, List.length_set, Nat.zero_add, Nat.add_zero, Int.zero_add, Int.add_zero, w1_aload_n_0, w1_iload_n_1, w1_invokevirtual, w1_ifCond, w1_ldc2_w, w1_lreturn, w1_iload_n_2, w1_iconst, w1_if_icmp, w1_getfield, w1_aaload, w1_astore_n_3, w1_aload_n_3, w1_putfield, w1_putfield2, dX9_sure_0, dX9_sure_1, dX9_sure_2, dX9_sure_5, dX9_sure_8, dX9_sure_11, dX9_sure_12, dX9_sure_13, dX9_sure_16, dX9_sure_19, dX9_sure_22, dX9_sure_23, dX9_sure_24, dX9_sure_27, dX9_sure_28, dX9_sure_29, dX9_sure_32, dX9_sure_35, dX9_sure_36, dX9_sure_37, dX9_sure_40, dX9_sure_41, dX9_sure_42, dX9_sure_43, dX9_sure_44, dX9_sure_47, dX9_sure_48, dX9_sure_51, dX9_sure_54, dX9_sure_55, dX9_sure_56, dX9_sure_59, dX9_sure_60, dX9_sure_61, dX9_sure_64, dX9_sure_65, dX9_sure_68, dX9_sure_71, dX9_sure_72, dX9_sure_73, dX9_sure_76, dX9_sure_79, dX9_sure_80, dX9_sure_81, dX9_sure_84, dX9_sure_85, dX9_sure_88, w_flk9_118, w_flk9_240, w_flk9_247, w_flk9_32, w_flk9_88, w_klk9_234, w_klk9_236, w_klk9_238, w_kd_0, w_rf_0_0, w_rf_0_1, w_rf_0_2, w_rf_0_3, w_rf_0_4, w_rf_0_5, w_rf_0_6, w_rf_0_7, w_rf_0_8, w_rf_0_9, w_rf_0_10, w_kd_35, w_ln_35, kr])
      (repeat' (with_reducible (first | refine And.intro ?_ ?_ | intro _))) <;> (try (first | assumption | contradiction | exact Or.inl trivial | exact Or.inl rfl | exact Or.inr rfl | (simp only [inI, inL]; omega) | omega))
      all_goals first
        | exact e
        | exact hv3.1
        | exact hv3.2
        | exact hv.1
        | exact hv.2
        | (exfalso; omega)
    · have hpc : p_X9_makeWise S [vr 0, vr (36 + r)] w := ⟨rfl, hS, hXw, ⟨hy, hyX⟩, hin.1, hwi⟩
      have e59 : ∀ r1 w1, q_X9_makeWise S [vr 0, vr (36 + r)] w r1 w1 → G 59 [some (vr 0), some (vi r), some (vi part), some (vr (36 + r))] [] w1 := by
        intro r1 w1 hq
        simp only [q_X9_makeWise] at hq
        obtain ⟨he, hwi1, hpl⟩ := hq
        have hX1 : hX S w1 := hX_of hXw (fun k i hk => he k i (by omega))
        have hy1' : yX S w1 := yX_of hy hyX (fun k i hk => he k i (by omega))
        have hr1 : rR w1 (36 + r) := rR_of hin.1 (fun k i hk => he k i (by omega))
        have hrc1 : rC T w1 r := rC_of (by omega) hin.2 (fun k i hk => he k i (by omega))
        have hpl1 : w1 (36 + r) 1 = 3 → plW S w1 := fun q => hpl (by rw [← he _ 1 (by omega)]; exact q)
        have hpc2 : p_X0_waysNeverDry S [vr 93, vr (36 + r)] w1 := ⟨rfl, hS, hX1, ⟨hy, hy1'⟩, hr1, plW_A hS hpl1⟩
        have e68 : ∀ r2 w2, q_X0_waysNeverDry S [vr 93, vr (36 + r)] w1 r2 w2 → G 68 [some (vr 0), some (vi r), some (vi part), some (vr (36 + r))] [vl r2, vr (36 + r)] w2 := by
          intro r2 w2 hq
          simp only [q_X0_waysNeverDry] at hq
          obtain ⟨he2, rfl⟩ := hq
          have hN : sm (vV S (rX w1 (36 + r)) 1 12) 402 = surN S T r := sm_c 402 (fun s _ => (KV_c (rS_d hS hrc1 hpl1) 1 12 (Nat.le_refl _)).1 s)
          rw [hN]
          have hfr : ∀ k i, (k < 56 ∨ 134 < k) → w2 k i = w k i := fun k i hk => by rw [he2 k i (by omega), he k i (by omega)]
          have u15 : w_up w2 (36 + r) 5 (surN S T r) 0 15 = w 0 15 := by rw [up_k (by omega), hfr 0 15 (by omega)]
          have hev3 : evC S w (w_up (w_up w2 (36 + r) 5 (surN S T r)) (36 + r) 3 (w 0 15)) := ⟨fun k i hk hn => by rw [up_ne (by omega), up_ne (by omega)]; exact hfr k i hk, wiI_of hwi1 (fun k i hk => by rw [up_ne (by omega), up_ne (by omega)]; exact he2 k i (by omega))⟩
          have hcv3 : cvI S T (w_up (w_up w2 (36 + r) 5 (surN S T r)) (36 + r) 3 (w 0 15)) := by
            intro r' h8
            refine ⟨fun hr' => ?_, fun hr' => ?_⟩
            rotate_left
            · obtain ⟨a, b⟩ := (hcv r' h8).2 hr'
              exact ⟨by rw [up_k (by omega), up_k (by omega), hfr _ _ (by omega)]; exact a, by rw [up_k (by omega), up_k (by omega), hfr _ _ (by omega)]; exact b⟩
            have hc' := (hcv r' h8).1 hr'
            by_cases q : r' = r
            · subst q
              refine ⟨?_, ?_, fun _ => ?_, fun h => ?_⟩
              · rw [up_eq, up_k (by omega), u15]; have := hc'.1; omega
              · rw [up_ne (by omega), up_ne (by omega), hfr _ _ (by omega), up_k (by omega), u15]; exact hc'.2.1
              · rw [up_ne (by omega), up_eq]
              · rw [up_ne (by omega), up_ne (by omega), hfr _ _ (by omega), up_k (by omega), u15] at h
                rw [up_ne (by omega), up_ne (by omega), hfr _ _ (by omega)]
                exact hc'.2.2.2 h
            · have hx : ∀ j, w_up (w_up w2 (36 + r) 5 (surN S T r)) (36 + r) 3 (w 0 15) (36 + r') j = w (36 + r') j := fun j => by rw [up_k (by omega), up_k (by omega), hfr _ _ (by omega)]
              unfold cvR
              rw [hx, hx, hx, hx, up_k (by omega), u15]
              exact hc'
          have e := e79 _ hev3 hcv3 (by rw [up_ne (by omega), up_eq])
          (apply hG [79] 2000; simp only [w_br_i, w_ite, w_all, w_all0, forall_eq, w_b0, w_b1, ↓reduceIte, w_ent, w_pos, List.replicate_succ, List.replicate_zero, wp_s, wk_s, w_lk_c, w_ld0, w_ldS, w_kp0, w_kp, w_s1, w_s2, w_to, w_if, w_call, w_sw, w_cat, w_cats, w_psh, w_fv, List.contains_cons, List.contains_nil, List.set_cons_zero, List.set_cons_succ, List.length_cons, List.length_nil, List.find?_cons, List.find?_nil, List.take_succ_cons, List.take_zero, List.drop_succ_cons, List.drop_zero, List.reverse_cons, List.reverse_nil, List.nil_append, List.cons_append, Option.map_some, Option.map_none, Nat.reduceAdd, Nat.reduceBEq, Nat.reduceEqDiff, Nat.reduceLT, Nat.reduceLeDiff, Nat.reduceSub, Int.reduceAdd, Int.reduceSub, Int.reduceMul, Int.reduceNeg, Int.reduceToNat, Int.reduceLT, Int.reduceLE, Int.reduceEq, Bool.false_eq_true, Bool.or_false, Bool.false_or, Bool.true_or, Bool.or_true, if_true, if_false, ite_true, ite_false, true_and, and_true, false_and, and_false, true_or, or_true, false_or, or_false, Int.cast_ofNat_Int, Int.toNat_natCast, Int.natCast_add, List.getElem?_cons_zero, List.getElem?_cons_succ, true_implies, forall_const, not_true_eq_false, not_false_eq_true, ne_eq, beq_iff_eq, imp_self, List.length_set, Nat.zero_add, Nat.add_zero, Int.zero_add, Int.add_zero, w1_aload_n_0, w1_iload_n_1, w1_invokevirtual, w1_ifCond, w1_ldc2_w, w1_lreturn, w1_iload_n_2, w1_iconst, w1_if_icmp, w1_getfield, w1_aaload, w1_astore_n_3, w1_aload_n_3, w1_putfield, w1_putfield2, dX9_sure_0, dX9_sure_1, dX9_sure_2, dX9_sure_5, dX9_sure_8, dX9_sure_11, dX9_sure_12, dX9_sure_13, dX9_sure_16, dX9_sure_19, dX9_sure_22, dX9_sure_23, dX9_sure_24, dX9_sure_27, dX9_sure_28, dX9_sure_29, dX9_sure_32, dX9_sure_35, dX9_sure_36, dX9_sure_37, dX9_sure_40, dX9_sure_41, dX9_sure_42, dX9_sure_43, dX9_sure_44, dX9_sure_47, dX9_sure_48, dX9_sure_51, dX9_sure_54, dX9_sure_55, dX9_sure_56, dX9_sure_59, dX9_sure_60, dX9_sure_61, dX9_sure_64, dX9_sure_65, dX9_sure_68, dX9_sure_71, dX9_sure_72, dX9_sure_73, dX9_sure_76, dX9_sure_79, dX9_sure_80, dX9_sure_81, dX9_sure_84, dX9_sure_85, dX9_sure_88, w_flk9_118, w_flk9_240, w_flk9_247, w_flk9_32, w_flk9_88, w_klk9_234, w_klk9_236, w_klk9_238, w_kd_0, w_rf_0_0, w_rf_0_1, w_rf_0_2, w_rf_0_3, w_rf_0_4, w_rf_0_5, w_rf_0_6, w_rf_0_7, w_rf_0_8, w_rf_0_9, w_rf_0_10, kr, u15])
          (repeat' (with_reducible (first | refine And.intro ?_ ?_ | intro _))) <;> (try (first | assumption | contradiction | exact Or.inl trivial | exact Or.inl rfl | exact Or.inr rfl | (simp only [inI, inL]; omega) | omega))
          all_goals exact e
        (apply hG [68] 2000; simp only [w_br_i, w_ite, w_all, w_all0, forall_eq, w_b0, w_b1, ↓reduceIte, w_ent, w_pos, List.replicate_succ, List.replicate_zero, wp_s, wk_s, w_lk_c, w_ld0, w_ldS, w_kp0, w_kp, w_s1, w_s2, w_to, w_if, w_call, w_sw, w_cat, w_cats, w_psh, w_fv, List.contains_cons, List.contains_nil, List.set_cons_zero, List.set_cons_succ, List.length_cons, List.length_nil, List.find?_cons, List.find?_nil, List.take_succ_cons, List.take_zero, List.drop_succ_cons, List.drop_zero, List.reverse_cons, List.reverse_nil, List.nil_append, List.cons_append, Option.map_some, Option.map_none, Nat.reduceAdd, Nat.reduceBEq, Nat.reduceEqDiff, Nat.reduceLT, Nat.reduceLeDiff, Nat.reduceSub, Int.reduceAdd, Int.reduceSub, Int.reduceMul, Int.reduceNeg, Int.reduceToNat, Int.reduceLT, Int.reduceLE, Int.reduceEq, Bool.false_eq_true, Bool.or_false, Bool.false_or, Bool.true_or, Bool.or_true, if_true, if_false, ite_true, ite_false, true_and, and_true, false_and, and_false, true_or, or_true, false_or, or_false, Int.cast_ofNat_Int, Int.toNat_natCast, Int.natCast_add, List.getElem?_cons_zero, List.getElem?_cons_succ, true_implies, forall_const, not_true_eq_false, not_false_eq_true, ne_eq, beq_iff_eq, imp_self, List.length_set, Nat.zero_add, Nat.add_zero, Int.zero_add, Int.add_zero, w1_aload_n_0, w1_iload_n_1, w1_invokevirtual, w1_ifCond, w1_ldc2_w, w1_lreturn, w1_iload_n_2, w1_iconst, w1_if_icmp, w1_getfield, w1_aaload, w1_astore_n_3, w1_aload_n_3, w1_putfield, w1_putfield2, dX9_sure_0, dX9_sure_1, dX9_sure_2, dX9_sure_5, dX9_sure_8, dX9_sure_11, dX9_sure_12, dX9_sure_13, dX9_sure_16, dX9_sure_19, dX9_sure_22, dX9_sure_23, dX9_sure_24, dX9_sure_27, dX9_sure_28, dX9_sure_29, dX9_sure_32, dX9_sure_35, dX9_sure_36, dX9_sure_37, dX9_sure_40, dX9_sure_41, dX9_sure_42, dX9_sure_43, dX9_sure_44, dX9_sure_47, dX9_sure_48, dX9_sure_51, dX9_sure_54, dX9_sure_55, dX9_sure_56, dX9_sure_59, dX9_sure_60, dX9_sure_61, dX9_sure_64, dX9_sure_65, dX9_sure_68, dX9_sure_71, dX9_sure_72, dX9_sure_73, dX9_sure_76, dX9_sure_79, dX9_sure_80, dX9_sure_81, dX9_sure_84, dX9_sure_85, dX9_sure_88, w_flk9_118, w_flk9_240, w_flk9_247, w_flk9_32, w_flk9_88, w_klk9_234, w_klk9_236, w_klk9_238, w_kd_0, w_rf_0_0, w_rf_0_1, w_rf_0_2, w_rf_0_3, w_rf_0_4, w_rf_0_5, w_rf_0_6, w_rf_0_7, w_rf_0_8, w_rf_0_9, w_rf_0_10, hpc2])
        (repeat' (with_reducible (first | refine And.intro ?_ ?_ | intro _))) <;> (try (first | assumption | contradiction | exact Or.inl trivial | exact Or.inl rfl | exact Or.inr rfl | (simp only [inI, inL]; omega) | omega))
        all_goals exact e68 _ _ (by assumption)
      (apply hG [59, 79] 2000; simp only [w_br_i, w_ite, w_all, w_all0, forall_eq, w_b0, w_b1, ↓reduceIte, w_ent, w_pos, List.replicate_succ, List.replicate_zero, wp_s, wk_s, w_lk_c, w_ld0, w_ldS, w_kp0, w_kp, w_s1, w_s2, w_to, w_if, w_call, w_sw, w_cat, w_cats, w_psh, w_fv, List.contains_cons, List.contains_nil, List.set_cons_zero, List.set_cons_succ, List.length_cons, List.length_nil, List.find?_cons, List.find?_nil, List.take_succ_cons, List.take_zero, List.drop_succ_cons, List.drop_zero, List.reverse_cons, List.reverse_nil, List.nil_append, List.cons_append, Option.map_some, Option.map_none, Nat.reduceAdd, Nat.reduceBEq, Nat.reduceEqDiff, Nat.reduceLT, Nat.reduceLeDiff, Nat.reduceSub, Int.reduceAdd, Int.reduceSub, Int.reduceMul, Int.reduceNeg, Int.reduceToNat, Int.reduceLT, Int.reduceLE, Int.reduceEq, Bool.false_eq_true, Bool.or_false, Bool.false_or, Bool.true_or, Bool.or_true, if_true, if_false, ite_true, ite_false, true_and, and_true, false_and, and_false, true_or, or_true, false_or, or_false, Int.cast_ofNat_Int, Int.toNat_natCast, Int.natCast_add, List.getElem?_cons_zero, List.getElem?_cons_succ, true_implies, forall_const, not_true_eq_false, not_false_eq_true, ne_eq, beq_iff_eq, imp_self, List.length_set, Nat.zero_add, Nat.add_zero, Int.zero_add, Int.add_zero, w1_aload_n_0, w1_iload_n_1, w1_invokevirtual, w1_ifCond, w1_ldc2_w, w1_lreturn, w1_iload_n_2, w1_iconst, w1_if_icmp, w1_getfield, w1_aaload, w1_astore_n_3, w1_aload_n_3, w1_putfield, w1_putfield2, dX9_sure_0, dX9_sure_1, dX9_sure_2, dX9_sure_5, dX9_sure_8, dX9_sure_11, dX9_sure_12, dX9_sure_13, dX9_sure_16, dX9_sure_19, dX9_sure_22, dX9_sure_23, dX9_sure_24, dX9_sure_27, dX9_sure_28, dX9_sure_29, dX9_sure_32, dX9_sure_35, dX9_sure_36, dX9_sure_37, dX9_sure_40, dX9_sure_41, dX9_sure_42, dX9_sure_43, dX9_sure_44, dX9_sure_47, dX9_sure_48, dX9_sure_51, dX9_sure_54, dX9_sure_55, dX9_sure_56, dX9_sure_59, dX9_sure_60, dX9_sure_61, dX9_sure_64, dX9_sure_65, dX9_sure_68, dX9_sure_71, dX9_sure_72, dX9_sure_73, dX9_sure_76, dX9_sure_79, dX9_sure_80, dX9_sure_81, dX9_sure_84, dX9_sure_85, dX9_sure_88, w_flk9_118, w_flk9_240, w_flk9_247, w_flk9_32, w_flk9_88, w_klk9_234, w_klk9_236, w_klk9_238, w_kd_0, w_rf_0_0, w_rf_0_1, w_rf_0_2, w_rf_0_3, w_rf_0_4, w_rf_0_5, w_rf_0_6, w_rf_0_7, w_rf_0_8, w_rf_0_9, w_rf_0_10, w_kd_35, w_ln_35, kr, hpc])
      (repeat' (with_reducible (first | refine And.intro ?_ ?_ | intro _))) <;> (try (first | assumption | contradiction | exact Or.inl trivial | exact Or.inl rfl | exact Or.inr rfl | (simp only [inI, inL]; omega) | omega))
      all_goals first
        | exact e59 _ _ (by assumption)
        | exact hv3.1
        | exact hv3.2
        | exact hv.1
        | exact hv.2
        | (exfalso; omega)
  (apply hG [36] 2000; simp only [w_br_i, w_ite, w_all, w_all0, forall_eq, w_b0, w_b1, ↓reduceIte, w_ent, w_pos, List.replicate_succ, List.replicate_zero, wp_s, wk_s, w_lk_c, w_ld0, w_ldS, w_kp0, w_kp, w_s1, w_s2, w_to, w_if, w_call, w_sw, w_cat, w_cats, w_psh, w_fv, List.contains_cons, List.contains_nil, List.set_cons_zero, List.set_cons_succ, List.length_cons, List.length_nil, List.find?_cons, List.find?_nil, List.take_succ_cons, List.take_zero, List.drop_succ_cons, List.drop_zero, List.reverse_cons, List.reverse_nil, List.nil_append, List.cons_append, Option.map_some, Option.map_none, Nat.reduceAdd, Nat.reduceBEq, Nat.reduceEqDiff, Nat.reduceLT, Nat.reduceLeDiff, Nat.reduceSub, Int.reduceAdd, Int.reduceSub, Int.reduceMul, Int.reduceNeg, Int.reduceToNat, Int.reduceLT, Int.reduceLE, Int.reduceEq, Bool.false_eq_true, Bool.or_false, Bool.false_or, Bool.true_or, Bool.or_true, if_true, if_false, ite_true, ite_false, true_and, and_true, false_and, and_false, true_or, or_true, false_or, or_false, Int.cast_ofNat_Int, Int.toNat_natCast, Int.natCast_add, List.getElem?_cons_zero, List.getElem?_cons_succ, true_implies, forall_const, not_true_eq_false, not_false_eq_true, ne_eq, beq_iff_eq, imp_self, List.length_set, Nat.zero_add, Nat.add_zero, Int.zero_add, Int.add_zero, w1_aload_n_0, w1_iload_n_1, w1_invokevirtual, w1_ifCond, w1_ldc2_w, w1_lreturn, w1_iload_n_2, w1_iconst, w1_if_icmp, w1_getfield, w1_aaload, w1_astore_n_3, w1_aload_n_3, w1_putfield, w1_putfield2, dX9_sure_0, dX9_sure_1, dX9_sure_2, dX9_sure_5, dX9_sure_8, dX9_sure_11, dX9_sure_12, dX9_sure_13, dX9_sure_16, dX9_sure_19, dX9_sure_22, dX9_sure_23, dX9_sure_24, dX9_sure_27, dX9_sure_28, dX9_sure_29, dX9_sure_32, dX9_sure_35, dX9_sure_36, dX9_sure_37, dX9_sure_40, dX9_sure_41, dX9_sure_42, dX9_sure_43, dX9_sure_44, dX9_sure_47, dX9_sure_48, dX9_sure_51, dX9_sure_54, dX9_sure_55, dX9_sure_56, dX9_sure_59, dX9_sure_60, dX9_sure_61, dX9_sure_64, dX9_sure_65, dX9_sure_68, dX9_sure_71, dX9_sure_72, dX9_sure_73, dX9_sure_76, dX9_sure_79, dX9_sure_80, dX9_sure_81, dX9_sure_84, dX9_sure_85, dX9_sure_88, w_flk9_118, w_flk9_240, w_flk9_247, w_flk9_32, w_flk9_88, w_klk9_234, w_klk9_236, w_klk9_238, w_kd_0, w_rf_0_0, w_rf_0_1, w_rf_0_2, w_rf_0_3, w_rf_0_4, w_rf_0_5, w_rf_0_6, w_rf_0_7, w_rf_0_8, w_rf_0_9, w_rf_0_10, p_X9_isNoRule, q_X9_isNoRule, p_X9_lacksHouseOrYear, q_X9_lacksHouseOrYear, hrc0, hh0, hy1])
  (repeat' (with_reducible (first | refine And.intro ?_ ?_ | intro _))) <;> (try (first | assumption | contradiction | exact Or.inl trivial | exact Or.inl rfl | exact Or.inr rfl | (simp only [inI, inL]; omega) | omega))
  all_goals first
    | exact e36 (by omega) (by omega) (by omega)
    | exact ⟨by unfold surA; (repeat' split) <;> first | rfl | (exfalso; omega), hT0, hcv⟩
def p_X9_mean (S T : wW) : List wV → wW → Prop := fun av w => match av with
  | [.inr (.inr (some this)), .inl i, .inl part] => this = 0 ∧ RQ S T w ∧ cvI S T w ∧ inI i ∧ inI part
  | _ => False
theorem h_X9_mean (S T : wW) : ∀ av w, (p_X9_mean S T) av w → ∃ a r, av = vr a :: r ∧ w_kd a = 100 + 9 := by
  intro av w h
  unfold p_X9_mean at h
  split at h
  · refine ⟨_, _, rfl, ?_⟩
    first | (rw [h.1]; rfl) | (rw [h]; rfl)
  · exact h.elim
def q_X9_mean (S T : wW) : List wV → wW → Int → wW → Prop := fun av w r w' => match av with
  | [.inr (.inr (some this)), .inl i, .inl part] => r = meaA S T i part ∧ evC S w w' ∧ cvI S T w'
  | _ => False
set_option maxRecDepth 100000 in
set_option maxHeartbeats 4000000 in
theorem c_X9_mean (S T : wW) : w_Ct yX9_mean cX9_mean 4 2 6 143 (p_X9_mean S T) (q_X9_mean S T) := by
  refine w_met (own := RX9) (fl := w_fl9) (gs := w_gs9) (kl := w_kl9) (ki := w_ki9) (cs := [(152, (0, 2, 3, p_X9_isNoRule, q_X9_isNoRule)), (180, (0, 1, 3, p_X9_lacksHouseOrYear, q_X9_lacksHouseOrYear)), (194, (0, 2, 0, (p_X9_makeWise S), (q_X9_makeWise S))), (257, (0, 2, 2, (p_X0_costOfAllWays S), (q_X0_costOfAllWays S))), (250, (0, 3, 2, (p_X9_inLowestTerms S), (q_X9_inLowestTerms S)))]) (by decide +kernel) rfl ?_ w_flok9 w_gsok9 w_klok9 w_kiok9 ?_ ?_
  · intro av w h
    unfold p_X9_mean at h
    split at h
    · simp [w_pos, w_cat]
    · exact h.elim
  · exact List.forall_mem_cons.mpr ⟨⟨_, _, w_callV (own := RX9) (idx := 152) (ci := 9) c_X9_isNoRule rfl rfl h_X9_isNoRule (w_m3 46 (by decide +kernel) (by decide +kernel)) (w_m3 48 (by decide +kernel) (by decide +kernel)) (w_m0 10 (by decide +kernel) (by decide +kernel)) (w_m1 1 (by decide +kernel) (by decide +kernel)) (w_m3 49 (by decide +kernel) (by decide +kernel)) ⟨by decide +kernel, by decide +kernel, by decide +kernel⟩, by decide, by decide⟩, List.forall_mem_cons.mpr ⟨⟨_, _, w_callV (own := RX9) (idx := 180) (ci := 9) c_X9_lacksHouseOrYear rfl rfl h_X9_lacksHouseOrYear (w_m3 88 (by decide +kernel) (by decide +kernel)) (w_m3 90 (by decide +kernel) (by decide +kernel)) (w_m0 12 (by decide +kernel) (by decide +kernel)) (w_m1 1 (by decide +kernel) (by decide +kernel)) (w_m3 91 (by decide +kernel) (by decide +kernel)) ⟨by decide +kernel, by decide +kernel, by decide +kernel⟩, by decide, by decide⟩, List.forall_mem_cons.mpr ⟨⟨_, _, w_callV (own := RX9) (idx := 194) (ci := 9) (c_X9_makeWise S) rfl rfl (h_X9_makeWise S) (w_m3 96 (by decide +kernel) (by decide +kernel)) (w_m3 98 (by decide +kernel) (by decide +kernel)) (w_m0 14 (by decide +kernel) (by decide +kernel)) (w_m1 1 (by decide +kernel) (by decide +kernel)) (w_m3 99 (by decide +kernel) (by decide +kernel)) ⟨by decide +kernel, by decide +kernel, by decide +kernel⟩, by decide, by decide⟩, List.forall_mem_cons.mpr ⟨⟨_, _, w_callV (own := RX9) (idx := 257) (ci := 0) (c_X0_costOfAllWays S) rfl rfl (h_X0_costOfAllWays S) (w_m4 18 (by decide +kernel) (by decide +kernel)) (w_m4 19 (by decide +kernel) (by decide +kernel)) (w_m4 20 (by decide +kernel) (by decide +kernel)) (w_m1 11 (by decide +kernel) (by decide +kernel)) (w_m4 21 (by decide +kernel) (by decide +kernel)) ⟨by decide +kernel, by decide +kernel, by decide +kernel⟩, by decide, by decide⟩, List.forall_mem_cons.mpr ⟨⟨_, _, w_callV (own := RX9) (idx := 250) (ci := 9) (c_X9_inLowestTerms S) rfl rfl (h_X9_inLowestTerms S) (w_m4 10 (by decide +kernel) (by decide +kernel)) (w_m4 12 (by decide +kernel) (by decide +kernel)) (w_m0 27 (by decide +kernel) (by decide +kernel)) (w_m1 1 (by decide +kernel) (by decide +kernel)) (w_m4 13 (by decide +kernel) (by decide +kernel)) ⟨by decide +kernel, by decide +kernel, by decide +kernel⟩, by decide, by decide⟩, fun _ h => absurd h List.not_mem_nil⟩⟩⟩⟩⟩
  intro av w hp
  unfold p_X9_mean at hp
  split at hp
  case h_2 => exact hp.elim
  rename_i this i part
  intro G hG
  simp only [w_ent, w_pos, w_cat, Nat.reduceEqDiff, ↓reduceIte, List.length_cons, List.length_nil, Nat.reduceAdd, Nat.reduceSub, List.cons_append, List.nil_append, List.replicate_succ, List.replicate_zero]
  obtain ⟨rfl, hQ, hcv, hi, hpt⟩ := hp
  have hT0 : evC S w w := ⟨fun k i _ _ => rfl, hQ.2.2.2.2.1⟩
  obtain ⟨⟨hrc, hrc0⟩, ⟨hh, hh0⟩, ⟨hy, hyX⟩, hH, hwi, hru⟩ := hQ
  have hyc := hy.1
  have hy1 := hyX.1
  have e36 : (0 ≤ i ∧ i < T 4 2) → ¬ (T 4 4 = 0 ∨ S 4 1 = 0) → (0 ≤ part ∧ part ≤ 1) → G 36 [some (vr 0), some (vi i), some (vi part), none] [] w := by
    intro h1 h2 h3
    obtain ⟨hS, hXw⟩ := hH (by omega)
    obtain ⟨r, rfl⟩ : ∃ n : Nat, i = n := ⟨i.toNat, by omega⟩
    have hin := hru r (by omega)
    have hcr := (hcv r (by omega)).1 (by omega)
    have kr := w_kdr (a := 36 + r) (by omega)
    have hv := hwi.2.1
    have hv3 : inI (w (36 + r) 4) := ⟨by have := hcr.2.1.1; omega, by have := hcr.2.1.2; have := hv.2; omega⟩
    have hs := meaN_in hS hy (rT_of hin.1 hin.2)
    have e79 : ∀ w3 : wW, evC S w w3 → cvI S T w3 → w3 (36 + r) 6 = meaN S T r → G 79 [some (vr 0), some (vi r), some (vi part), some (vr (36 + r))] [] w3 := by
      intro w3 h4 h5 h6
      have hyX3 : yX S w3 := yX_of hy hyX (fun k i hk => h4.1 k i (by omega) (by omega))
      have hpc : p_X9_inLowestTerms S [vr 0, vl (meaN S T r), vi part] w3 := ⟨rfl, ⟨hy, hyX3, by omega⟩, hs, hpt⟩
      (apply hG [] 2000; simp only [w_br_i, w_ite, w_all, w_all0, forall_eq, w_b0, w_b1, ↓reduceIte, w_ent, w_pos, List.replicate_succ, List.replicate_zero, wp_s, wk_s, w_lk_c, w_ld0, w_ldS, w_kp0, w_kp, w_s1, w_s2, w_to, w_if, w_call, w_sw, w_cat, w_cats, w_psh, w_fv, List.contains_cons, List.contains_nil, List.set_cons_zero, List.set_cons_succ, List.length_cons, List.length_nil, List.find?_cons, List.find?_nil, List.take_succ_cons, List.take_zero, List.drop_succ_cons, List.drop_zero, List.reverse_cons, List.reverse_nil, List.nil_append, List.cons_append, Option.map_some, Option.map_none, Nat.reduceAdd, Nat.reduceBEq, Nat.reduceEqDiff, Nat.reduceLT, Nat.reduceLeDiff, Nat.reduceSub, Int.reduceAdd, Int.reduceSub, Int.reduceMul, Int.reduceNeg, Int.reduceToNat, Int.reduceLT, Int.reduceLE, Int.reduceEq, Bool.false_eq_true, Bool.or_false, Bool.false_or, Bool.true_or, Bool.or_true, if_true, if_false, ite_true, ite_false, true_and, and_true, false_and, and_false, true_or, or_true, false_or, or_false, Int.cast_ofNat_Int, Int.toNat_natCast, Int.natCast_add, List.getElem?_cons_zero, List.getElem?_cons_succ, true_implies, forall_const, not_true_eq_false, not_false_eq_true, ne_eq, beq_iff_eq, imp_self, List.length_set, Nat.zero_add, Nat.add_zero, Int.zero_add, Int.add_zero, w1_aload_n_0, w1_iload_n_1, w1_invokevirtual, w1_ifCond, w1_ldc2_w, w1_lreturn, w1_iload_n_2, w1_iconst, w1_if_icmp, w1_getfield, w1_aaload, w1_astore_n_3, w1_aload_n_3, w1_putfield, w1_putfield2, dX9_mean_0, dX9_mean_1, dX9_mean_2, dX9_mean_5, dX9_mean_8, dX9_mean_11, dX9_mean_12, dX9_mean_13, dX9_mean_16, dX9_mean_19, dX9_mean_22, dX9_mean_23, dX9_mean_24, dX9_mean_27, dX9_mean_28, dX9_mean_29, dX9_mean_32, dX9_mean_35, dX9_mean_36, dX9_mean_37, dX9_mean_40, dX9_mean_41, dX9_mean_42, dX9_mean_43, dX9_mean_44, dX9_mean_47, dX9_mean_48, dX9_mean_51, dX9_mean_54, dX9_mean_55, dX9_mean_56, dX9_mean_59, dX9_mean_60, dX9_mean_61, dX9_mean_64, dX9_mean_65, dX9_mean_68, dX9_mean_71, dX9_mean_72, dX9_mean_73, dX9_mean_76, dX9_mean_79, dX9_mean_80, dX9_mean_81, dX9_mean_84, dX9_mean_85, dX9_mean_88, w_flk9_118, w_flk9_254, w_flk9_260, w_flk9_32, w_flk9_88, w_klk9_234, w_klk9_236, w_klk9_238, w_kd_0, w_rf_0_0, w_rf_0_1, w_rf_0_2, w_rf_0_3, w_rf_0_4, w_rf_0_5, w_rf_0_6, w_rf_0_7, w_rf_0_8, w_rf_0_9, w_rf_0_10, kr, h6, hpc, q_X9_inLowestTerms])
      (repeat' (with_reducible (first | refine And.intro ?_ ?_ | intro _))) <;> (try (first | assumption | contradiction | exact Or.inl trivial | exact Or.inl rfl | exact Or.inr rfl | (simp only [inI, inL]; omega) | omega))
      all_goals (refine ⟨?_, h4, h5⟩; unfold meaA; rw [if_neg (by omega), if_neg h2, if_neg (by omega), Int.toNat_natCast])
    by_cases c : w (36 + r) 4 = w 0 15
    · have e := e79 w hT0 hcv (hcr.2.2.2 c)
      (apply hG [79] 2000; simp only [w_br_i, w_ite, w_all, w_all0, forall_eq, w_b0, w_b1, ↓reduceIte, w_ent, w_pos, List.replicate_succ, List.replicate_zero, wp_s, wk_s, w_lk_c, w_ld0, w_ldS, w_kp0, w_kp, w_s1, w_s2, w_to, w_if, w_call, w_sw, w_cat, w_cats, w_psh, w_fv, List.contains_cons, List.contains_nil, List.set_cons_zero, List.set_cons_succ, List.length_cons, List.length_nil, List.find?_cons, List.find?_nil, List.take_succ_cons, List.take_zero, List.drop_succ_cons, List.drop_zero, List.reverse_cons, List.reverse_nil, List.nil_append, List.cons_append, Option.map_some, Option.map_none, Nat.reduceAdd, Nat.reduceBEq, Nat.reduceEqDiff, Nat.reduceLT, Nat.reduceLeDiff, Nat.reduceSub, Int.reduceAdd, Int.reduceSub, Int.reduceMul, Int.reduceNeg, Int.reduceToNat, Int.reduceLT, Int.reduceLE, Int.reduceEq, Bool.false_eq_true, Bool.or_false, Bool.false_or, Bool.true_or, Bool.or_true, if_true, if_false, ite_true, ite_false, true_and, and_true, false_and, and_false, true_or, or_true, false_or, or_false, Int.cast_ofNat_Int, Int.toNat_natCast, Int.natCast_add, List.getElem?_cons_zero, List.getElem?_cons_succ, true_implies, forall_const, not_true_eq_false, not_false_eq_true, ne_eq, beq_iff_eq, imp_self, List.length_set, Nat.zero_add, Nat.add_zero, Int.zero_add, Int.add_zero, w1_aload_n_0, w1_iload_n_1, w1_invokevirtual, w1_ifCond, w1_ldc2_w, w1_lreturn, w1_iload_n_2, w1_iconst, w1_if_icmp, w1_getfield, w1_aaload, w1_astore_n_3, w1_aload_n_3, w1_putfield, w1_putfield2, dX9_mean_0, dX9_mean_1, dX9_mean_2, dX9_mean_5, dX9_mean_8, dX9_mean_11, dX9_mean_12, dX9_mean_13, dX9_mean_16, dX9_mean_19, dX9_mean_22, dX9_mean_23, dX9_mean_24, dX9_mean_27, dX9_mean_28, dX9_mean_29, dX9_mean_32, dX9_mean_35, dX9_mean_36, dX9_mean_37, dX9_mean_40, dX9_mean_41, dX9_mean_42, dX9_mean_43, dX9_mean_44, dX9_mean_47, dX9_mean_48, dX9_mean_51, dX9_mean_54, dX9_mean_55, dX9_mean_56, dX9_mean_59, dX9_mean_60, dX9_mean_61, dX9_mean_64, dX9_mean_65, dX9_mean_68, dX9_mean_71, dX9_mean_72, dX9_mean_73, dX9_mean_76, dX9_mean_79, dX9_mean_80, dX9_mean_81, dX9_mean_84, dX9_mean_85, dX9_mean_88, w_flk9_118, w_flk9_254, w_flk9_260, w_flk9_32, w_flk9_88, w_klk9_234, w_klk9_236, w_klk9_238, w_kd_0, w_rf_0_0, w_rf_0_1, w_rf_0_2, w_rf_0_3, w_rf_0_4, w_rf_0_5, w_rf_0_6, w_rf_0_7, w_rf_0_8, w_rf_0_9, w_rf_0_10, w_kd_35, w_ln_35, kr])
      (repeat' (with_reducible (first | refine And.intro ?_ ?_ | intro _))) <;> (try (first | assumption | contradiction | exact Or.inl trivial | exact Or.inl rfl | exact Or.inr rfl | (simp only [inI, inL]; omega) | omega))
      all_goals first
        | exact e
        | exact hv3.1
        | exact hv3.2
        | exact hv.1
        | exact hv.2
        | (exfalso; omega)
    · have hpc : p_X9_makeWise S [vr 0, vr (36 + r)] w := ⟨rfl, hS, hXw, ⟨hy, hyX⟩, hin.1, hwi⟩
      have e59 : ∀ r1 w1, q_X9_makeWise S [vr 0, vr (36 + r)] w r1 w1 → G 59 [some (vr 0), some (vi r), some (vi part), some (vr (36 + r))] [] w1 := by
        intro r1 w1 hq
        simp only [q_X9_makeWise] at hq
        obtain ⟨he, hwi1, hpl⟩ := hq
        have hX1 : hX S w1 := hX_of hXw (fun k i hk => he k i (by omega))
        have hy1' : yX S w1 := yX_of hy hyX (fun k i hk => he k i (by omega))
        have hr1 : rR w1 (36 + r) := rR_of hin.1 (fun k i hk => he k i (by omega))
        have hrc1 : rC T w1 r := rC_of (by omega) hin.2 (fun k i hk => he k i (by omega))
        have hpl1 : w1 (36 + r) 1 = 3 → plW S w1 := fun q => hpl (by rw [← he _ 1 (by omega)]; exact q)
        have hpc2 : p_X0_costOfAllWays S [vr 93, vr (36 + r)] w1 := ⟨rfl, hS, hX1, ⟨hy, hy1'⟩, hr1, plW_A hS hpl1⟩
        have e68 : ∀ r2 w2, q_X0_costOfAllWays S [vr 93, vr (36 + r)] w1 r2 w2 → G 68 [some (vr 0), some (vi r), some (vi part), some (vr (36 + r))] [vl r2, vr (36 + r)] w2 := by
          intro r2 w2 hq
          simp only [q_X0_costOfAllWays] at hq
          obtain ⟨he2, rfl⟩ := hq
          have hN : KV S (rX w1 (36 + r)) 12 = meaN S T r := (KV_c (rS_d hS hrc1 hpl1) 0 12 (Nat.le_refl _)).2
          rw [hN]
          have hfr : ∀ k i, (k < 56 ∨ 134 < k) → w2 k i = w k i := fun k i hk => by rw [he2 k i (by omega), he k i (by omega)]
          have u15 : w_up w2 (36 + r) 6 (meaN S T r) 0 15 = w 0 15 := by rw [up_k (by omega), hfr 0 15 (by omega)]
          have hev3 : evC S w (w_up (w_up w2 (36 + r) 6 (meaN S T r)) (36 + r) 4 (w 0 15)) := ⟨fun k i hk hn => by rw [up_ne (by omega), up_ne (by omega)]; exact hfr k i hk, wiI_of hwi1 (fun k i hk => by rw [up_ne (by omega), up_ne (by omega)]; exact he2 k i (by omega))⟩
          have hcv3 : cvI S T (w_up (w_up w2 (36 + r) 6 (meaN S T r)) (36 + r) 4 (w 0 15)) := by
            intro r' h8
            refine ⟨fun hr' => ?_, fun hr' => ?_⟩
            rotate_left
            · obtain ⟨a, b⟩ := (hcv r' h8).2 hr'
              exact ⟨by rw [up_k (by omega), up_k (by omega), hfr _ _ (by omega)]; exact a, by rw [up_k (by omega), up_k (by omega), hfr _ _ (by omega)]; exact b⟩
            have hc' := (hcv r' h8).1 hr'
            by_cases q : r' = r
            · subst q
              refine ⟨?_, ?_, fun h => ?_, fun _ => ?_⟩
              · rw [up_ne (by omega), up_ne (by omega), hfr _ _ (by omega), up_k (by omega), u15]; exact hc'.1
              · rw [up_eq, up_k (by omega), u15]; have := hc'.1; omega
              · rw [up_ne (by omega), up_ne (by omega), hfr _ _ (by omega), up_k (by omega), u15] at h
                rw [up_ne (by omega), up_ne (by omega), hfr _ _ (by omega)]
                exact hc'.2.2.1 h
              · rw [up_ne (by omega), up_eq]
            · have hx : ∀ j, w_up (w_up w2 (36 + r) 6 (meaN S T r)) (36 + r) 4 (w 0 15) (36 + r') j = w (36 + r') j := fun j => by rw [up_k (by omega), up_k (by omega), hfr _ _ (by omega)]
              unfold cvR
              rw [hx, hx, hx, hx, up_k (by omega), u15]
              exact hc'
          have e := e79 _ hev3 hcv3 (by rw [up_ne (by omega), up_eq])
          (apply hG [79] 2000; simp only [w_br_i, w_ite, w_all, w_all0, forall_eq, w_b0, w_b1, ↓reduceIte, w_ent, w_pos, List.replicate_succ, List.replicate_zero, wp_s, wk_s, w_lk_c, w_ld0, w_ldS, w_kp0, w_kp, w_s1, w_s2, w_to, w_if, w_call, w_sw, w_cat, w_cats, w_psh, w_fv, List.contains_cons, List.contains_nil, List.set_cons_zero, List.set_cons_succ, List.length_cons, List.length_nil, List.find?_cons, List.find?_nil, List.take_succ_cons, List.take_zero, List.drop_succ_cons, List.drop_zero, List.reverse_cons, List.reverse_nil, List.nil_append, List.cons_append, Option.map_some, Option.map_none, Nat.reduceAdd, Nat.reduceBEq, Nat.reduceEqDiff, Nat.reduceLT, Nat.reduceLeDiff, Nat.reduceSub, Int.reduceAdd, Int.reduceSub, Int.reduceMul, Int.reduceNeg, Int.reduceToNat, Int.reduceLT, Int.reduceLE, Int.reduceEq, Bool.false_eq_true, Bool.or_false, Bool.false_or, Bool.true_or, Bool.or_true, if_true, if_false, ite_true, ite_false, true_and, and_true, false_and, and_false, true_or, or_true, false_or, or_false, Int.cast_ofNat_Int, Int.toNat_natCast, Int.natCast_add, List.getElem?_cons_zero, List.getElem?_cons_succ, true_implies, forall_const, not_true_eq_false, not_false_eq_true, ne_eq, beq_iff_eq, imp_self, List.length_set, Nat.zero_add, Nat.add_zero, Int.zero_add, Int.add_zero, w1_aload_n_0, w1_iload_n_1, w1_invokevirtual, w1_ifCond, w1_ldc2_w, w1_lreturn, w1_iload_n_2, w1_iconst, w1_if_icmp, w1_getfield, w1_aaload, w1_astore_n_3, w1_aload_n_3, w1_putfield, w1_putfield2, dX9_mean_0, dX9_mean_1, dX9_mean_2, dX9_mean_5, dX9_mean_8, dX9_mean_11, dX9_mean_12, dX9_mean_13, dX9_mean_16, dX9_mean_19, dX9_mean_22, dX9_mean_23, dX9_mean_24, dX9_mean_27, dX9_mean_28, dX9_mean_29, dX9_mean_32, dX9_mean_35, dX9_mean_36, dX9_mean_37, dX9_mean_40, dX9_mean_41, dX9_mean_42, dX9_mean_43, dX9_mean_44, dX9_mean_47, dX9_mean_48, dX9_mean_51, dX9_mean_54, dX9_mean_55, dX9_mean_56, dX9_mean_59, dX9_mean_60, dX9_mean_61, dX9_mean_64, dX9_mean_65, dX9_mean_68, dX9_mean_71, dX9_mean_72, dX9_mean_73, dX9_mean_76, dX9_mean_79, dX9_mean_80, dX9_mean_81, dX9_mean_84, dX9_mean_85, dX9_mean_88, w_flk9_118, w_flk9_254, w_flk9_260, w_flk9_32, w_flk9_88, w_klk9_234, w_klk9_236, w_klk9_238, w_kd_0, w_rf_0_0, w_rf_0_1, w_rf_0_2, w_rf_0_3, w_rf_0_4, w_rf_0_5, w_rf_0_6, w_rf_0_7, w_rf_0_8, w_rf_0_9, w_rf_0_10, kr, u15])
          (repeat' (with_reducible (first | refine And.intro ?_ ?_ | intro _))) <;> (try (first | assumption | contradiction | exact Or.inl trivial | exact Or.inl rfl | exact Or.inr rfl | (simp only [inI, inL]; omega) | omega))
          all_goals exact e
        (apply hG [68] 2000; simp only [w_br_i, w_ite, w_all, w_all0, forall_eq, w_b0, w_b1, ↓reduceIte, w_ent, w_pos, List.replicate_succ, List.replicate_zero, wp_s, wk_s, w_lk_c, w_ld0, w_ldS, w_kp0, w_kp, w_s1, w_s2, w_to, w_if, w_call, w_sw, w_cat, w_cats, w_psh, w_fv, List.contains_cons, List.contains_nil, List.set_cons_zero, List.set_cons_succ, List.length_cons, List.length_nil, List.find?_cons, List.find?_nil, List.take_succ_cons, List.take_zero, List.drop_succ_cons, List.drop_zero, List.reverse_cons, List.reverse_nil, List.nil_append, List.cons_append, Option.map_some, Option.map_none, Nat.reduceAdd, Nat.reduceBEq, Nat.reduceEqDiff, Nat.reduceLT, Nat.reduceLeDiff, Nat.reduceSub, Int.reduceAdd, Int.reduceSub, Int.reduceMul, Int.reduceNeg, Int.reduceToNat, Int.reduceLT, Int.reduceLE, Int.reduceEq, Bool.false_eq_true, Bool.or_false, Bool.false_or, Bool.true_or, Bool.or_true, if_true, if_false, ite_true, ite_false, true_and, and_true, false_and, and_false, true_or, or_true, false_or, or_false, Int.cast_ofNat_Int, Int.toNat_natCast, Int.natCast_add, List.getElem?_cons_zero, List.getElem?_cons_succ, true_implies, forall_const, not_true_eq_false, not_false_eq_true, ne_eq, beq_iff_eq, imp_self, List.length_set, Nat.zero_add, Nat.add_zero, Int.zero_add, Int.add_zero, w1_aload_n_0, w1_iload_n_1, w1_invokevirtual, w1_ifCond, w1_ldc2_w, w1_lreturn, w1_iload_n_2, w1_iconst, w1_if_icmp, w1_getfield, w1_aaload, w1_astore_n_3, w1_aload_n_3, w1_putfield, w1_putfield2, dX9_mean_0, dX9_mean_1, dX9_mean_2, dX9_mean_5, dX9_mean_8, dX9_mean_11, dX9_mean_12, dX9_mean_13, dX9_mean_16, dX9_mean_19, dX9_mean_22, dX9_mean_23, dX9_mean_24, dX9_mean_27, dX9_mean_28, dX9_mean_29, dX9_mean_32, dX9_mean_35, dX9_mean_36, dX9_mean_37, dX9_mean_40, dX9_mean_41, dX9_mean_42, dX9_mean_43, dX9_mean_44, dX9_mean_47, dX9_mean_48, dX9_mean_51, dX9_mean_54, dX9_mean_55, dX9_mean_56, dX9_mean_59, dX9_mean_60, dX9_mean_61, dX9_mean_64, dX9_mean_65, dX9_mean_68, dX9_mean_71, dX9_mean_72, dX9_mean_73, dX9_mean_76, dX9_mean_79, dX9_mean_80, dX9_mean_81, dX9_mean_84, dX9_mean_85, dX9_mean_88, w_flk9_118, w_flk9_254, w_flk9_260, w_flk9_32, w_flk9_88, w_klk9_234, w_klk9_236, w_klk9_238, w_kd_0, w_rf_0_0, w_rf_0_1, w_rf_0_2, w_rf_0_3, w_rf_0_4, w_rf_0_5, w_rf_0_6, w_rf_0_7, w_rf_0_8, w_rf_0_9, w_rf_0_10, hpc2])
        (repeat' (with_reducible (first | refine And.intro ?_ ?_ | intro _))) <;> (try (first | assumption | contradiction | exact Or.inl trivial | exact Or.inl rfl | exact Or.inr rfl | (simp only [inI, inL]; omega) | omega))
        all_goals exact e68 _ _ (by assumption)
      (apply hG [59, 79] 2000; simp only [w_br_i, w_ite, w_all, w_all0, forall_eq, w_b0, w_b1, ↓reduceIte, w_ent, w_pos, List.replicate_succ, List.replicate_zero, wp_s, wk_s, w_lk_c, w_ld0, w_ldS, w_kp0, w_kp, w_s1, w_s2, w_to, w_if, w_call, w_sw, w_cat, w_cats, w_psh, w_fv, List.contains_cons, List.contains_nil, List.set_cons_zero, List.set_cons_succ, List.length_cons, List.length_nil, List.find?_cons, List.find?_nil, List.take_succ_cons, List.take_zero, List.drop_succ_cons, List.drop_zero, List.reverse_cons, List.reverse_nil, List.nil_append, List.cons_append, Option.map_some, Option.map_none, Nat.reduceAdd, Nat.reduceBEq, Nat.reduceEqDiff, Nat.reduceLT, Nat.reduceLeDiff, Nat.reduceSub, Int.reduceAdd, Int.reduceSub, Int.reduceMul, Int.reduceNeg, Int.reduceToNat, Int.reduceLT, Int.reduceLE, Int.reduceEq, Bool.false_eq_true, Bool.or_false, Bool.false_or, Bool.true_or, Bool.or_true, if_true, if_false, ite_true, ite_false, true_and, and_true, false_and, and_false, true_or, or_true, false_or, or_false, Int.cast_ofNat_Int, Int.toNat_natCast, Int.natCast_add, List.getElem?_cons_zero, List.getElem?_cons_succ, true_implies, forall_const, not_true_eq_false, not_false_eq_true, ne_eq, beq_iff_eq, imp_self, List.length_set, Nat.zero_add, Nat.add_zero, Int.zero_add, Int.add_zero, w1_aload_n_0, w1_iload_n_1, w1_invokevirtual, w1_ifCond, w1_ldc2_w, w1_lreturn, w1_iload_n_2, w1_iconst, w1_if_icmp, w1_getfield, w1_aaload, w1_astore_n_3, w1_aload_n_3, w1_putfield, w1_putfield2, dX9_mean_0, dX9_mean_1, dX9_mean_2, dX9_mean_5, dX9_mean_8, dX9_mean_11, dX9_mean_12, dX9_mean_13, dX9_mean_16, dX9_mean_19, dX9_mean_22, dX9_mean_23, dX9_mean_24, dX9_mean_27, dX9_mean_28, dX9_mean_29, dX9_mean_32, dX9_mean_35, dX9_mean_36, dX9_mean_37, dX9_mean_40, dX9_mean_41, dX9_mean_42, dX9_mean_43, dX9_mean_44, dX9_mean_47, dX9_mean_48, dX9_mean_51, dX9_mean_54, dX9_mean_55, dX9_mean_56, dX9_mean_59, dX9_mean_60, dX9_mean_61, dX9_mean_64, dX9_mean_65, dX9_mean_68, dX9_mean_71, dX9_mean_72, dX9_mean_73, dX9_mean_76, dX9_mean_79, dX9_mean_80, dX9_mean_81, dX9_mean_84, dX9_mean_85, dX9_mean_88, w_flk9_118, w_flk9_254, w_flk9_260, w_flk9_32, w_flk9_88, w_klk9_234, w_klk9_236, w_klk9_238, w_kd_0, w_rf_0_0, w_rf_0_1, w_rf_0_2, w_rf_0_3, w_rf_0_4, w_rf_0_5, w_rf_0_6, w_rf_0_7, w_rf_0_8, w_rf_0_9, w_rf_0_10, w_kd_35, w_ln_35, kr, hpc])
      (repeat' (with_reducible (first | refine And.intro ?_ ?_ | intro _))) <;> (try (first | assumption | contradiction | exact Or.inl trivial | exact Or.inl rfl | exact Or.inr rfl | (simp only [inI, inL]; omega) | omega))
      all_goals first
        | exact e59 _ _ (by assumption)
        | exact hv3.1
        | exact hv3.2
        | exact hv.1
        | exact hv.2
        | (exfalso; omega)
  (apply hG [36] 2000; simp only [w_br_i, w_ite, w_all, w_all0, forall_eq, w_b0, w_b1, ↓reduceIte, w_ent, w_pos, List.replicate_succ, List.replicate_zero, wp_s, wk_s, w_lk_c, w_ld0, w_ldS, w_kp0, w_kp, w_s1, w_s2, w_to, w_if, w_call, w_sw, w_cat, w_cats, w_psh, w_fv, List.contains_cons, List.contains_nil, List.set_cons_zero, List.set_cons_succ, List.length_cons, List.length_nil, List.find?_cons, List.find?_nil, List.take_succ_cons, List.take_zero, List.drop_succ_cons, List.drop_zero, List.reverse_cons, List.reverse_nil, List.nil_append, List.cons_append, Option.map_some, Option.map_none, Nat.reduceAdd, Nat.reduceBEq, Nat.reduceEqDiff, Nat.reduceLT, Nat.reduceLeDiff, Nat.reduceSub, Int.reduceAdd, Int.reduceSub, Int.reduceMul, Int.reduceNeg, Int.reduceToNat, Int.reduceLT, Int.reduceLE, Int.reduceEq, Bool.false_eq_true, Bool.or_false, Bool.false_or, Bool.true_or, Bool.or_true, if_true, if_false, ite_true, ite_false, true_and, and_true, false_and, and_false, true_or, or_true, false_or, or_false, Int.cast_ofNat_Int, Int.toNat_natCast, Int.natCast_add, List.getElem?_cons_zero, List.getElem?_cons_succ, true_implies, forall_const, not_true_eq_false, not_false_eq_true, ne_eq, beq_iff_eq, imp_self, List.length_set, Nat.zero_add, Nat.add_zero, Int.zero_add, Int.add_zero, w1_aload_n_0, w1_iload_n_1, w1_invokevirtual, w1_ifCond, w1_ldc2_w, w1_lreturn, w1_iload_n_2, w1_iconst, w1_if_icmp, w1_getfield, w1_aaload, w1_astore_n_3, w1_aload_n_3, w1_putfield, w1_putfield2, dX9_mean_0, dX9_mean_1, dX9_mean_2, dX9_mean_5, dX9_mean_8, dX9_mean_11, dX9_mean_12, dX9_mean_13, dX9_mean_16, dX9_mean_19, dX9_mean_22, dX9_mean_23, dX9_mean_24, dX9_mean_27, dX9_mean_28, dX9_mean_29, dX9_mean_32, dX9_mean_35, dX9_mean_36, dX9_mean_37, dX9_mean_40, dX9_mean_41, dX9_mean_42, dX9_mean_43, dX9_mean_44, dX9_mean_47, dX9_mean_48, dX9_mean_51, dX9_mean_54, dX9_mean_55, dX9_mean_56, dX9_mean_59, dX9_mean_60, dX9_mean_61, dX9_mean_64, dX9_mean_65, dX9_mean_68, dX9_mean_71, dX9_mean_72, dX9_mean_73, dX9_mean_76, dX9_mean_79, dX9_mean_80, dX9_mean_81, dX9_mean_84, dX9_mean_85, dX9_mean_88, w_flk9_118, w_flk9_254, w_flk9_260, w_flk9_32, w_flk9_88, w_klk9_234, w_klk9_236, w_klk9_238, w_kd_0, w_rf_0_0, w_rf_0_1, w_rf_0_2, w_rf_0_3, w_rf_0_4, w_rf_0_5, w_rf_0_6, w_rf_0_7, w_rf_0_8, w_rf_0_9, w_rf_0_10, p_X9_isNoRule, q_X9_isNoRule, p_X9_lacksHouseOrYear, q_X9_lacksHouseOrYear, hrc0, hh0, hy1])
  (repeat' (with_reducible (first | refine And.intro ?_ ?_ | intro _))) <;> (try (first | assumption | contradiction | exact Or.inl trivial | exact Or.inl rfl | exact Or.inr rfl | (simp only [inI, inL]; omega) | omega))
  all_goals first
    | exact e36 (by omega) (by omega) (by omega)
    | exact ⟨by unfold meaA; (repeat' split) <;> first | rfl | (exfalso; omega), hT0, hcv⟩
