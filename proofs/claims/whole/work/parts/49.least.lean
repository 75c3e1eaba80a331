/-! the least size: by an ALL a greater tank makes no month dry -/
def dT (S : wW) (m : Int) : Nat → Int
  | 0 => 0
  | i + 1 => dT S m i + dW S i m
theorem dT_in {S : wW} (h : hR S) (m : Int) : ∀ i, i ≤ (S 4 0).toNat → 0 ≤ dT S m i ∧ dT S m i ≤ 24 * i
  | 0, _ => by simp [dT]
  | i + 1, hi => by
    have ih := dT_in h m i (by omega)
    have := dW_in h (u := i) (by omega) m
    simp only [dT]
    omega
/-- a less b, never below 0 -/
def po (a b : Int) : Int := if a < b then 0 else a - b
theorem dL_0 {S : wW} (h : hR S) (m : Int) {l0 : Int} (hl : 0 ≤ l0) : ∀ i, i ≤ (S 4 0).toNat → dL S m 0 (dO S 0) l0 i = po l0 (dT S m i) ∧ dK S m 0 (dO S 0) l0 i = dT S m i - (l0 - dL S m 0 (dO S 0) l0 i)
  | 0, _ => by
    simp only [dL, dK, dT]
    unfold po
    split <;> omega
  | i + 1, hi => by
    have ih := dL_0 h m hl i (by omega)
    have hw := dW_in h (u := i) (by omega) m
    have e : dO S 0 i = i := by simp [dO]
    have eg : ∀ l, dg S m 0 i l = if dW S i m < l then dW S i m else l := fun l => by simp [dg, dWh]
    have ih1 := ih.1
    simp only [dL, dK, dT, e]
    rw [ih.2, ih1, eg]
    unfold po
    constructor
    · (repeat' split) <;> omega
    · (repeat' split) <;> omega
theorem z_all {S : wW} (h : hR S) {size : Int} {r : Nat → Int} {m lv : Int} (hl : 0 ≤ lv) (h0 : r 0 = 0) (h5 : 72 ≤ r 5) : zE S size r m lv = po lv (dT S m (S 4 0).toNat) ∧ (0 < zK S size r m lv ↔ lv < dT S m (S 4 0).toNat) := by
  have hT := dT_in h m (S 4 0).toNat (Nat.le_refl _)
  have hn := h.1
  have eP : zP S size r m lv = 0 := by simp [zP, ePump, h0]
  have e3 : z3 S size r m lv = lv := by simp [z3, eP]
  have eH : zH S size r m lv = 0 := by simp [zH, h0]
  have eB : zB r = 0 := by simp [zB, h0]
  have e0 : z0 S size r m lv = eMin (r 5) lv := by simp [z0, e3, eMost, h0]
  have hm : 0 ≤ eMin (r 5) lv := by unfold eMin; split <;> omega
  have hd := dL_0 h m hm (S 4 0).toNat (Nat.le_refl _)
  unfold zE zK zG zL
  rw [e3, eH, eB, e0, hd.2, hd.1]
  unfold eMin po
  constructor
  · (repeat' split) <;> omega
  · (repeat' split) <;> omega
theorem lvB_mono {S : wW} {area s1 s2 leak rain l1 l2 wet : Int} (hs : s1 ≤ s2) (hl : l1 ≤ l2) : lvB S area s1 leak rain l1 wet ≤ lvB S area s2 leak rain l2 wet := by
  unfold lvB lvO lvK
  generalize lvC S area rain wet = C
  (repeat' split) <;> omega
theorem rnQ_mono {S : wW} {area s1 s2 : Int} {R : Nat → Int → Int → Nat → Int} {K : Nat} (h1 : okE (runE S area s1 R) K) (h2 : okE (runE S area s2 R) K) (hs : s1 ≤ s2) (h0 : ∀ m lv wet, R m lv wet 0 = 0 ∧ 72 ≤ R m lv wet 5) :
    ∀ k, k ≤ K → (rnQ (runE S area s1 R) k).1 ≤ (rnQ (runE S area s2 R) k).1 ∧ (rnQ (runE S area s1 R) k).2 = (rnQ (runE S area s2 R) k).2
  | 0, _ => ⟨hs, rfl⟩
  | k + 1, hk => by
    have ih := rnQ_mono h1 h2 hs h0 k (by omega)
    have b1 := rnB_in h1 (k := k) (by omega)
    have b2 := rnB_in h2 (k := k) (by omega)
    have hb : rnB (runE S area s1 R) k ≤ rnB (runE S area s2 R) k := by
      unfold rnB
      rw [ih.2]
      exact lvB_mono hs ih.1
    rw [rnQ_s, rnQ_s]
    refine ⟨?_, rfl⟩
    have z1 := z_all (S := S) (size := s1) (r := rnR (runE S area s1 R) k) (m := (k % 12 : Nat)) h1.1 b1.1.1 (h0 _ _ _).1 (h0 _ _ _).2
    have z2 := z_all (S := S) (size := s2) (r := rnR (runE S area s2 R) k) (m := (k % 12 : Nat)) h1.1 b2.1.1 (h0 _ _ _).1 (h0 _ _ _).2
    show zE S s1 _ _ _ ≤ zE S s2 _ _ _
    rw [z1.1, z2.1]
    unfold po
    (repeat' split) <;> omega
theorem rnD_anti {S : wW} {area s1 s2 : Int} {R : Nat → Int → Int → Nat → Int} {K : Nat} (h1 : okE (runE S area s1 R) K) (h2 : okE (runE S area s2 R) K) (hs : s1 ≤ s2) (h0 : ∀ m lv wet, R m lv wet 0 = 0 ∧ 72 ≤ R m lv wet 5) :
    ∀ k, k ≤ K → sm (rnD (runE S area s2 R)) k ≤ sm (rnD (runE S area s1 R)) k
  | 0, _ => Int.le_refl _
  | k + 1, hk => by
    have ih := rnD_anti h1 h2 hs h0 k (by omega)
    have hq := rnQ_mono h1 h2 hs h0 k (by omega)
    have b1 := rnB_in h1 (k := k) (by omega)
    have b2 := rnB_in h2 (k := k) (by omega)
    have hb : rnB (runE S area s1 R) k ≤ rnB (runE S area s2 R) k := by
      unfold rnB
      rw [hq.2]
      exact lvB_mono hs hq.1
    have z1 := z_all (S := S) (size := s1) (r := rnR (runE S area s1 R) k) (m := (k % 12 : Nat)) h1.1 b1.1.1 (h0 _ _ _).1 (h0 _ _ _).2
    have z2 := z_all (S := S) (size := s2) (r := rnR (runE S area s2 R) k) (m := (k % 12 : Nat)) h1.1 b2.1.1 (h0 _ _ _).1 (h0 _ _ _).2
    have e1 : rnK (runE S area s1 R) k = zK S s1 (rnR (runE S area s1 R) k) (k % 12 : Nat) (rnB (runE S area s1 R) k) := rfl
    have e2 : rnK (runE S area s2 R) k = zK S s2 (rnR (runE S area s2 R) k) (k % 12 : Nat) (rnB (runE S area s2 R) k) := rfl
    have : rnD (runE S area s2 R) k ≤ rnD (runE S area s1 R) k := by
      unfold rnD
      rw [e1, e2]
      (repeat' split) <;> omega
    simp only [sm]
    omega
theorem rnD_R {S : wW} {area size : Int} {lk : Nat → Int} {R R' : Nat → Int → Int → Nat → Int} {rain : Nat → Int} (h : ∀ m, m < 12 → ∀ lv wet, R m lv wet = R' m lv wet) : rnD (S, area, size, lk, R, rain) = rnD (S, area, size, lk, R', rain) := by
  funext k
  have e : rnK (S, area, size, lk, R, rain) k = rnK (S, area, size, lk, R', rain) k := by
    simp only [rnK, rnR, rnB, rnQ_R h k, h _ (Nat.mod_lt k (show 0 < 12 by decide))]
  unfold rnD
  rw [e]
/-- r is the least size with at most k dry months, or -1 -/
def isL (f : Nat → Int) (k r : Int) : Prop := (r = -1 ∧ ∀ s, s ≤ 200 → k < f s) ∨ ((0 ≤ r ∧ r ≤ 200) ∧ f r.toNat ≤ k ∧ ∀ s : Nat, (s : Int) < r → k < f s)
theorem isL_u {f : Nat → Int} {k r r' : Int} (h : isL f k r) (h' : isL f k r') : r = r' := by
  rcases h with ⟨rfl, h⟩ | ⟨hr, h1, h2⟩ <;> rcases h' with ⟨rfl, h'⟩ | ⟨hr', h1', h2'⟩
  · rfl
  · have := h r'.toNat (by omega); omega
  · have := h' r.toNat (by omega); omega
  · by_cases q : r < r'
    · have := h2' r.toNat (by omega); omega
    · by_cases q2 : r' < r
      · have := h2 r'.toNat (by omega); omega
      · omega
def dryN (S : wW) (R : Nat → Int → Int → Nat → Int) (s : Nat) : Int := sm (rnD (runE S (S 0 0) s R)) (monthsF S)
def p_X5_leastSize (S : wW) : List wV → wW → Prop := fun av w => match av with
  | [.inr (.inr (some this)), .inr (.inr (some a)), .inl k] => this = 90 ∧ hR S ∧ hX S w ∧ (yR S ∧ yX S w) ∧ rR w a ∧ w a 1 = 0 ∧ (0 ≤ k ∧ k ≤ 96)
  | _ => False
theorem h_X5_leastSize (S : wW) : ∀ av w, (p_X5_leastSize S) av w → ∃ a r, av = vr a :: r ∧ w_kd a = 100 + 5 := by
  intro av w h
  unfold p_X5_leastSize at h
  split at h
  · refine ⟨_, _, rfl, ?_⟩
    first | (rw [h.1]; rfl) | (rw [h]; rfl)
  · exact h.elim
def q_X5_leastSize (S : wW) : List wV → wW → Int → wW → Prop := fun av w r w' => match av with
  | [.inr (.inr (some this)), .inr (.inr (some a)), .inl k] => ev 88 92 w w' ∧ (∀ i, i ≠ 5 → w' 90 i = w 90 i) ∧ isL (dryN S (rX w a)) k r
  | _ => False
set_option maxRecDepth 100000 in
set_option maxHeartbeats 4000000 in
theorem c_X5_leastSize (S : wW) : w_Ct yX5_leastSize cX5_leastSize 7 1 5 122 (p_X5_leastSize S) (q_X5_leastSize S) := by
  refine w_met (own := RX5) (fl := w_fl5) (gs := w_gs5) (kl := w_kl5) (ki := w_ki5) (cs := [(90, (0, 4, 0, (p_X5_passAll S), (q_X5_passAll S)))]) (by decide +kernel) rfl ?_ w_flok5 w_gsok5 w_klok5 w_kiok5 ?_ ?_
  · intro av w h
    unfold p_X5_leastSize at h
    split at h
    · simp [w_pos, w_cat]
    · exact h.elim
  · exact List.forall_mem_cons.mpr ⟨⟨_, _, w_callV (own := RX5) (idx := 90) (ci := 5) (c_X5_passAll S) rfl rfl (h_X5_passAll S) (w_m3 189 (by decide +kernel) (by decide +kernel)) (w_m3 137 (by decide +kernel) (by decide +kernel)) (w_m3 138 (by decide +kernel) (by decide +kernel)) (w_m1 10 (by decide +kernel) (by decide +kernel)) (w_m3 139 (by decide +kernel) (by decide +kernel)) ⟨by decide +kernel, by decide +kernel, by decide +kernel⟩, by decide, by decide⟩, fun _ h => absurd h List.not_mem_nil⟩
  intro av w hp
  unfold p_X5_leastSize at hp
  split at hp
  case h_2 => exact hp.elim
  rename_i this a k
  intro G hG
  simp only [w_ent, w_pos, w_cat, Nat.reduceEqDiff, ↓reduceIte, List.length_cons, List.length_nil, Nat.reduceAdd, Nat.reduceSub, List.cons_append, List.nil_append, List.replicate_succ, List.replicate_zero]
  obtain ⟨rfl, hS, hXw, ⟨hy, hyX⟩, hr, h3, hk⟩ := hp
  have ha := hr.1
  have hA := hS.2.1
  have hpl : ∀ size, plA w a size := fun size => plA_no (by omega)
  have hanti : ∀ s1 s2 : Nat, s1 ≤ s2 → s2 ≤ 200 → dryN S (rX w a) s2 ≤ dryN S (rX w a) s1 := fun s1 s2 h12 h2 =>
    rnD_anti (okE_run hS hy hr (hpl s1) (by omega) (by omega)) (okE_run hS hy hr (hpl s2) (by omega) (by omega)) (by omega) (fun m lv wet => ⟨h3, by show (72 : Int) ≤ 72; decide⟩) (monthsF S) (Nat.le_refl _)
  have hdn : ∀ s : Nat, 0 ≤ dryN S (rX w a) s ∧ dryN S (rX w a) s ≤ 96 := fun s => by
    have := rnD_in (E := runE S (S 0 0) s (rX w a)) (monthsF S)
    have hm : monthsF S ≤ 96 := by unfold monthsF; have := hy.1; omega
    unfold dryN
    omega
  have e75 : ∀ (lo i : Nat) (x6 : Option wV) (w1 : wW), lo ≤ 201 → (∀ s, s < lo → k < dryN S (rX w a) s) → (lo = 201 ∨ dryN S (rX w a) lo ≤ k) → (ev 88 92 w w1 ∧ ∀ i, i ≠ 5 → w1 90 i = w 90 i) → G 75 [some (vr 90), some (vr a), some (vi k), some (vi lo), some (vi lo), some (vi i), x6] [] w1 := by
    intro lo i x6 w1 h1 h2 h4 hw1
    (apply hG [10] 2000; simp only [w_br_i, w_ite, w_all, w_all0, forall_eq, w_b0, w_b1, ↓reduceIte, w_ent, w_pos, List.replicate_succ, List.replicate_zero, wp_s, wk_s, w_lk_c, w_ld0, w_ldS, w_kp0, w_kp, w_s1, w_s2, w_to, w_if, w_call, w_sw, w_cat, w_cats, w_psh, w_fv, List.contains_cons, List.contains_nil, List.set_cons_zero, List.set_cons_succ, List.length_cons, List.length_nil, List.find?_cons, List.find?_nil, List.take_succ_cons, List.take_zero, List.drop_succ_cons, List.drop_zero, List.reverse_cons, List.reverse_nil, List.nil_append, List.cons_append, Option.map_some, Option.map_none, Nat.reduceAdd, Nat.reduceBEq, Nat.reduceEqDiff, Nat.reduceLT, Nat.reduceLeDiff, Nat.reduceSub, Int.reduceAdd, Int.reduceSub, Int.reduceMul, Int.reduceNeg, Int.reduceToNat, Int.reduceLT, Int.reduceLE, Int.reduceEq, Bool.false_eq_true, Bool.or_false, Bool.false_or, Bool.true_or, Bool.or_true, if_true, if_false, ite_true, ite_false, true_and, and_true, false_and, and_false, true_or, or_true, false_or, or_false, Int.cast_ofNat_Int, Int.toNat_natCast, Int.natCast_add, List.getElem?_cons_zero, List.getElem?_cons_succ, true_implies, forall_const, not_true_eq_false, not_false_eq_true, ne_eq, beq_iff_eq, imp_self, List.length_set, Nat.zero_add, Nat.add_zero, Int.zero_add, Int.add_zero, w1_iconst, w1_istore_n_3, w1_sipush, w1_istore, w1_iload, w1_bipush, w1_if_icmp, w1_iload_n_3, w1_iadd, w1_idiv, w1_aload_n_0, w1_aload_n_1, w1_getfield, w1_iaload, w1_invokevirtual, w1_iload_n_2, w1_goto, w1_iinc, w1_ireturn, dX5_leastSize_0, dX5_leastSize_1, dX5_leastSize_2, dX5_leastSize_5, dX5_leastSize_7, dX5_leastSize_8, dX5_leastSize_10, dX5_leastSize_12, dX5_leastSize_14, dX5_leastSize_17, dX5_leastSize_18, dX5_leastSize_20, dX5_leastSize_23, dX5_leastSize_24, dX5_leastSize_26, dX5_leastSize_27, dX5_leastSize_28, dX5_leastSize_29, dX5_leastSize_31, dX5_leastSize_32, dX5_leastSize_33, dX5_leastSize_34, dX5_leastSize_37, dX5_leastSize_40, dX5_leastSize_41, dX5_leastSize_42, dX5_leastSize_44, dX5_leastSize_47, dX5_leastSize_48, dX5_leastSize_51, dX5_leastSize_52, dX5_leastSize_53, dX5_leastSize_54, dX5_leastSize_57, dX5_leastSize_59, dX5_leastSize_61, dX5_leastSize_64, dX5_leastSize_66, dX5_leastSize_67, dX5_leastSize_68, dX5_leastSize_69, dX5_leastSize_72, dX5_leastSize_75, dX5_leastSize_76, dX5_leastSize_79, dX5_leastSize_82, dX5_leastSize_83, dX5_leastSize_86, dX5_leastSize_87, w_flk5_18, w_flk5_87, w_flk5_9, w_kd_90, w_rf_90_0, w_rf_90_1, w_rf_90_2, w_rf_90_3, w_rf_90_4])
    (repeat' (with_reducible (first | refine And.intro ?_ ?_ | intro _))) <;> (try (first | assumption | contradiction | exact Or.inl trivial | exact Or.inl rfl | exact Or.inr rfl | (simp only [inI, inL]; omega) | omega))
    all_goals (simp only [q_X5_leastSize]; refine ⟨hw1.1, hw1.2, ?_⟩)
    · exact Or.inr ⟨by omega, by rw [Int.toNat_natCast]; omega, fun s hs => h2 s (by omega)⟩
    · exact Or.inl ⟨rfl, fun s hs => h2 s (by omega)⟩
  have loop : ∀ n i : Nat, i + n = 10 → ∀ lo hi : Nat, lo ≤ hi → hi ≤ 201 → hi - lo < 2 ^ n → (∀ s, s < lo → k < dryN S (rX w a) s) → (hi = 201 ∨ dryN S (rX w a) hi ≤ k) → ∀ w1, (ev 88 92 w w1 ∧ ∀ i, i ≠ 5 → w1 90 i = w 90 i) → ∀ x6 : Option wV, G 10 [some (vr 90), some (vr a), some (vi k), some (vi lo), some (vi hi), some (vi i), x6] [] w1 := by
    intro n
    induction n with
    | zero =>
      intro i hi10 lo hi h1 h2 h5 h6 h7 w1 hw1 x6
      have e : lo = hi := by simp at h5; omega
      subst e
      have e := e75 lo i x6 w1 h2 h6 h7 hw1
      (apply hG [10, 75] 2000; simp only [w_br_i, w_ite, w_all, w_all0, forall_eq, w_b0, w_b1, ↓reduceIte, w_ent, w_pos, List.replicate_succ, List.replicate_zero, wp_s, wk_s, w_lk_c, w_ld0, w_ldS, w_kp0, w_kp, w_s1, w_s2, w_to, w_if, w_call, w_sw, w_cat, w_cats, w_psh, w_fv, List.contains_cons, List.contains_nil, List.set_cons_zero, List.set_cons_succ, List.length_cons, List.length_nil, List.find?_cons, List.find?_nil, List.take_succ_cons, List.take_zero, List.drop_succ_cons, List.drop_zero, List.reverse_cons, List.reverse_nil, List.nil_append, List.cons_append, Option.map_some, Option.map_none, Nat.reduceAdd, Nat.reduceBEq, Nat.reduceEqDiff, Nat.reduceLT, Nat.reduceLeDiff, Nat.reduceSub, Int.reduceAdd, Int.reduceSub, Int.reduceMul, Int.reduceNeg, Int.reduceToNat, Int.reduceLT, Int.reduceLE, Int.reduceEq, Bool.false_eq_true, Bool.or_false, Bool.false_or, Bool.true_or, Bool.or_true, if_true, if_false, ite_true, ite_false, true_and, and_true, false_and, and_false, true_or, or_true, false_or, or_false, Int.cast_ofNat_Int, Int.toNat_natCast, Int.natCast_add, List.getElem?_cons_zero, List.getElem?_cons_succ, true_implies, forall_const, not_true_eq_false, not_false_eq_true, ne_eq, beq_iff_eq, imp_self, List.length_set, Nat.zero_add, Nat.add_zero, Int.zero_add, Int.add_zero, w1_iconst, w1_istore_n_3, w1_sipush, w1_istore, w1_iload, w1_bipush, w1_if_icmp, w1_iload_n_3, w1_iadd, w1_idiv, w1_aload_n_0, w1_aload_n_1, w1_getfield, w1_iaload, w1_invokevirtual, w1_iload_n_2, w1_goto, w1_iinc, w1_ireturn, dX5_leastSize_0, dX5_leastSize_1, dX5_leastSize_2, dX5_leastSize_5, dX5_leastSize_7, dX5_leastSize_8, dX5_leastSize_10, dX5_leastSize_12, dX5_leastSize_14, dX5_leastSize_17, dX5_leastSize_18, dX5_leastSize_20, dX5_leastSize_23, dX5_leastSize_24, dX5_leastSize_26, dX5_leastSize_27, dX5_leastSize_28, dX5_leastSize_29, dX5_leastSize_31, dX5_leastSize_32, dX5_leastSize_33, dX5_leastSize_34, dX5_leastSize_37, dX5_leastSize_40, dX5_leastSize_41, dX5_leastSize_42, dX5_leastSize_44, dX5_leastSize_47, dX5_leastSize_48, dX5_leastSize_51, dX5_leastSize_52, dX5_leastSize_53, dX5_leastSize_54, dX5_leastSize_57, dX5_leastSize_59, dX5_leastSize_61, dX5_leastSize_64, dX5_leastSize_66, dX5_leastSize_67, dX5_leastSize_68, dX5_leastSize_69, dX5_leastSize_72, dX5_leastSize_75, dX5_leastSize_76, dX5_leastSize_79, dX5_leastSize_82, dX5_leastSize_83, dX5_leastSize_86, dX5_leastSize_87, w_flk5_18, w_flk5_87, w_flk5_9, w_kd_90, w_rf_90_0, w_rf_90_1, w_rf_90_2, w_rf_90_3, w_rf_90_4])
      (repeat' (with_reducible (first | refine And.intro ?_ ?_ | intro _))) <;> (try (first | assumption | contradiction | exact Or.inl trivial | exact Or.inl rfl | exact Or.inr rfl | (simp only [inI, inL]; omega) | omega))
      all_goals first
        | exact e
        | (exfalso; omega)
    | succ n ih =>
      intro i hi10 lo hi h1 h2 h5 h6 h7 w1 hw1 x6
      rw [Nat.pow_succ] at h5
      by_cases q : lo = hi
      · subst q
        have e := e75 lo i x6 w1 h2 h6 h7 hw1
        (apply hG [10, 75] 2000; simp only [w_br_i, w_ite, w_all, w_all0, forall_eq, w_b0, w_b1, ↓reduceIte, w_ent, w_pos, List.replicate_succ, List.replicate_zero, wp_s, wk_s, w_lk_c, w_ld0, w_ldS, w_kp0, w_kp, w_s1, w_s2, w_to, w_if, w_call, w_sw, w_cat, w_cats, w_psh, w_fv, List.contains_cons, List.contains_nil, List.set_cons_zero, List.set_cons_succ, List.length_cons, List.length_nil, List.find?_cons, List.find?_nil, List.take_succ_cons, List.take_zero, List.drop_succ_cons, List.drop_zero, List.reverse_cons, List.reverse_nil, List.nil_append, List.cons_append, Option.map_some, Option.map_none, Nat.reduceAdd, Nat.reduceBEq, Nat.reduceEqDiff, Nat.reduceLT, Nat.reduceLeDiff, Nat.reduceSub, Int.reduceAdd, Int.reduceSub, Int.reduceMul, Int.reduceNeg, Int.reduceToNat, Int.reduceLT, Int.reduceLE, Int.reduceEq, Bool.false_eq_true, Bool.or_false, Bool.false_or, Bool.true_or, Bool.or_true, if_true, if_false, ite_true, ite_false, true_and, and_true, false_and, and_false, true_or, or_true, false_or, or_false, Int.cast_ofNat_Int, Int.toNat_natCast, Int.natCast_add, List.getElem?_cons_zero, List.getElem?_cons_succ, true_implies, forall_const, not_true_eq_false, not_false_eq_true, ne_eq, beq_iff_eq, imp_self, List.length_set, Nat.zero_add, Nat.add_zero, Int.zero_add, Int.add_zero, w1_iconst, w1_istore_n_3, w1_sipush, w1_istore, w1_iload, w1_bipush, w1_if_icmp, w1_iload_n_3, w1_iadd, w1_idiv, w1_aload_n_0, w1_aload_n_1, w1_getfield, w1_iaload, w1_invokevirtual, w1_iload_n_2, w1_goto, w1_iinc, w1_ireturn, dX5_leastSize_0, dX5_leastSize_1, dX5_leastSize_2, dX5_leastSize_5, dX5_leastSize_7, dX5_leastSize_8, dX5_leastSize_10, dX5_leastSize_12, dX5_leastSize_14, dX5_leastSize_17, dX5_leastSize_18, dX5_leastSize_20, dX5_leastSize_23, dX5_leastSize_24, dX5_leastSize_26, dX5_leastSize_27, dX5_leastSize_28, dX5_leastSize_29, dX5_leastSize_31, dX5_leastSize_32, dX5_leastSize_33, dX5_leastSize_34, dX5_leastSize_37, dX5_leastSize_40, dX5_leastSize_41, dX5_leastSize_42, dX5_leastSize_44, dX5_leastSize_47, dX5_leastSize_48, dX5_leastSize_51, dX5_leastSize_52, dX5_leastSize_53, dX5_leastSize_54, dX5_leastSize_57, dX5_leastSize_59, dX5_leastSize_61, dX5_leastSize_64, dX5_leastSize_66, dX5_leastSize_67, dX5_leastSize_68, dX5_leastSize_69, dX5_leastSize_72, dX5_leastSize_75, dX5_leastSize_76, dX5_leastSize_79, dX5_leastSize_82, dX5_leastSize_83, dX5_leastSize_86, dX5_leastSize_87, w_flk5_18, w_flk5_87, w_flk5_9, w_kd_90, w_rf_90_0, w_rf_90_1, w_rf_90_2, w_rf_90_3, w_rf_90_4])
        (repeat' (with_reducible (first | refine And.intro ?_ ?_ | intro _))) <;> (try (first | assumption | contradiction | exact Or.inl trivial | exact Or.inl rfl | exact Or.inr rfl | (simp only [inI, inL]; omega) | omega))
        all_goals first
          | exact e
          | (exfalso; omega)
      · obtain ⟨mid, hmid⟩ : ∃ n : Nat, n = (lo + hi) / 2 := ⟨_, rfl⟩
        have s0 : w1 5 0 = S 0 0 := by rw [hw1.1 5 0 (by decide)]; exact hXw.2.1 0 (by decide)
        have hpc : p_X5_passAll S [vr 90, vr a, vi (S 0 0), vi mid] w1 := by
          refine ⟨rfl, hS, hX_ev hXw hw1.1, ⟨hy, ?_⟩, rR_ev hr hw1.1, plA_no (by rw [hw1.1 a 1 (by omega)]; omega), by omega, by omega⟩
          exact ⟨by rw [hw1.1 11 1 (by decide)]; exact hyX.1, fun y m hy' hm => by rw [hw1.1 _ _ (by have := hy.1; omega)]; exact hyX.2 y m hy' hm⟩
        have e47 : ∀ r w2, q_X5_passAll S [vr 90, vr a, vi (S 0 0), vi mid] w1 r w2 → G 47 [some (vr 90), some (vr a), some (vi k), some (vi lo), some (vi hi), some (vi i), some (vi mid)] [] w2 := by
          intro r w2 hq
          simp only [q_X5_passAll] at hq
          obtain ⟨hev, h90, h91, -⟩ := hq
          have h910 : w2 91 0 = dryN S (rX w a) mid := by
            rw [h91 0 (by decide)]
            show sm (rnD (runE S (S 0 0) mid (rX w1 a))) (monthsF S) = _
            rw [show rnD (runE S (S 0 0) mid (rX w1 a)) = rnD (runE S (S 0 0) mid (rX w a)) from rnD_R (fun m hm lv wet => rX_ev ha hm hw1.1 lv wet)]
            rfl
          have hd := hdn mid
          have hw2 : ev 88 92 w w2 ∧ ∀ i, i ≠ 5 → w2 90 i = w 90 i := ⟨fun k i hk => by rw [hev k i hk, hw1.1 k i hk], fun i hi => by rw [h90 i hi, hw1.2 i hi]⟩
          by_cases c : dryN S (rX w a) mid ≤ k
          · have e := ih (i + 1) (by omega) lo mid (by omega) (by omega) (by omega) h6 (Or.inr c) w2 hw2 (some (vi mid))
            simp only [Int.natCast_add, Int.cast_ofNat_Int] at e
            (apply hG [10] 2000; simp only [w_br_i, w_ite, w_all, w_all0, forall_eq, w_b0, w_b1, ↓reduceIte, w_ent, w_pos, List.replicate_succ, List.replicate_zero, wp_s, wk_s, w_lk_c, w_ld0, w_ldS, w_kp0, w_kp, w_s1, w_s2, w_to, w_if, w_call, w_sw, w_cat, w_cats, w_psh, w_fv, List.contains_cons, List.contains_nil, List.set_cons_zero, List.set_cons_succ, List.length_cons, List.length_nil, List.find?_cons, List.find?_nil, List.take_succ_cons, List.take_zero, List.drop_succ_cons, List.drop_zero, List.reverse_cons, List.reverse_nil, List.nil_append, List.cons_append, Option.map_some, Option.map_none, Nat.reduceAdd, Nat.reduceBEq, Nat.reduceEqDiff, Nat.reduceLT, Nat.reduceLeDiff, Nat.reduceSub, Int.reduceAdd, Int.reduceSub, Int.reduceMul, Int.reduceNeg, Int.reduceToNat, Int.reduceLT, Int.reduceLE, Int.reduceEq, Bool.false_eq_true, Bool.or_false, Bool.false_or, Bool.true_or, Bool.or_true, if_true, if_false, ite_true, ite_false, true_and, and_true, false_and, and_false, true_or, or_true, false_or, or_false, Int.cast_ofNat_Int, Int.toNat_natCast, Int.natCast_add, List.getElem?_cons_zero, List.getElem?_cons_succ, true_implies, forall_const, not_true_eq_false, not_false_eq_true, ne_eq, beq_iff_eq, imp_self, List.length_set, Nat.zero_add, Nat.add_zero, Int.zero_add, Int.add_zero, w1_iconst, w1_istore_n_3, w1_sipush, w1_istore, w1_iload, w1_bipush, w1_if_icmp, w1_iload_n_3, w1_iadd, w1_idiv, w1_aload_n_0, w1_aload_n_1, w1_getfield, w1_iaload, w1_invokevirtual, w1_iload_n_2, w1_goto, w1_iinc, w1_ireturn, dX5_leastSize_0, dX5_leastSize_1, dX5_leastSize_2, dX5_leastSize_5, dX5_leastSize_7, dX5_leastSize_8, dX5_leastSize_10, dX5_leastSize_12, dX5_leastSize_14, dX5_leastSize_17, dX5_leastSize_18, dX5_leastSize_20, dX5_leastSize_23, dX5_leastSize_24, dX5_leastSize_26, dX5_leastSize_27, dX5_leastSize_28, dX5_leastSize_29, dX5_leastSize_31, dX5_leastSize_32, dX5_leastSize_33, dX5_leastSize_34, dX5_leastSize_37, dX5_leastSize_40, dX5_leastSize_41, dX5_leastSize_42, dX5_leastSize_44, dX5_leastSize_47, dX5_leastSize_48, dX5_leastSize_51, dX5_leastSize_52, dX5_leastSize_53, dX5_leastSize_54, dX5_leastSize_57, dX5_leastSize_59, dX5_leastSize_61, dX5_leastSize_64, dX5_leastSize_66, dX5_leastSize_67, dX5_leastSize_68, dX5_leastSize_69, dX5_leastSize_72, dX5_leastSize_75, dX5_leastSize_76, dX5_leastSize_79, dX5_leastSize_82, dX5_leastSize_83, dX5_leastSize_86, dX5_leastSize_87, w_flk5_18, w_flk5_87, w_flk5_9, w_kd_90, w_rf_90_0, w_rf_90_1, w_rf_90_2, w_rf_90_3, w_rf_90_4, w_kd_91, w_ln_91, h910])
            (repeat' (with_reducible (first | refine And.intro ?_ ?_ | intro _))) <;> (try (first | assumption | contradiction | exact Or.inl trivial | exact Or.inl rfl | exact Or.inr rfl | (simp only [inI, inL]; omega) | omega))
            all_goals first
              | exact e
              | (exfalso; omega)
          · have e := ih (i + 1) (by omega) (mid + 1) hi (by omega) (by omega) (by omega) (fun s hs => by
              have := hanti s mid (by omega) (by omega)
              omega) h7 w2 hw2 (some (vi mid))
            simp only [Int.natCast_add, Int.cast_ofNat_Int] at e
            (apply hG [10] 2000; simp only [w_br_i, w_ite, w_all, w_all0, forall_eq, w_b0, w_b1, ↓reduceIte, w_ent, w_pos, List.replicate_succ, List.replicate_zero, wp_s, wk_s, w_lk_c, w_ld0, w_ldS, w_kp0, w_kp, w_s1, w_s2, w_to, w_if, w_call, w_sw, w_cat, w_cats, w_psh, w_fv, List.contains_cons, List.contains_nil, List.set_cons_zero, List.set_cons_succ, List.length_cons, List.length_nil, List.find?_cons, List.find?_nil, List.take_succ_cons, List.take_zero, List.drop_succ_cons, List.drop_zero, List.reverse_cons, List.reverse_nil, List.nil_append, List.cons_append, Option.map_some, Option.map_none, Nat.reduceAdd, Nat.reduceBEq, Nat.reduceEqDiff, Nat.reduceLT, Nat.reduceLeDiff, Nat.reduceSub, Int.reduceAdd, Int.reduceSub, Int.reduceMul, Int.reduceNeg, Int.reduceToNat, Int.reduceLT, Int.reduceLE, Int.reduceEq, Bool.false_eq_true, Bool.or_false, Bool.false_or, Bool.true_or, Bool.or_true, if_true, if_false, ite_true, ite_false, true_and, and_true, false_and, and_false, true_or, or_true, false_or, or_false, Int.cast_ofNat_Int, Int.toNat_natCast, Int.natCast_add, List.getElem?_cons_zero, List.getElem?_cons_succ, true_implies, forall_const, not_true_eq_false, not_false_eq_true, ne_eq, beq_iff_eq, imp_self, List.length_set, Nat.zero_add, Nat.add_zero, Int.zero_add, Int.add_zero, w1_iconst, w1_istore_n_3, w1_sipush, w1_istore, w1_iload, w1_bipush, w1_if_icmp, w1_iload_n_3, w1_iadd, w1_idiv, w1_aload_n_0, w1_aload_n_1, w1_getfield, w1_iaload, w1_invokevirtual, w1_iload_n_2, w1_goto, w1_iinc, w1_ireturn, dX5_leastSize_0, dX5_leastSize_1, dX5_leastSize_2, dX5_leastSize_5, dX5_leastSize_7, dX5_leastSize_8, dX5_leastSize_10, dX5_leastSize_12, dX5_leastSize_14, dX5_leastSize_17, dX5_leastSize_18, dX5_leastSize_20, dX5_leastSize_23, dX5_leastSize_24, dX5_leastSize_26, dX5_leastSize_27, dX5_leastSize_28, dX5_leastSize_29, dX5_leastSize_31, dX5_leastSize_32, dX5_leastSize_33, dX5_leastSize_34, dX5_leastSize_37, dX5_leastSize_40, dX5_leastSize_41, dX5_leastSize_42, dX5_leastSize_44, dX5_leastSize_47, dX5_leastSize_48, dX5_leastSize_51, dX5_leastSize_52, dX5_leastSize_53, dX5_leastSize_54, dX5_leastSize_57, dX5_leastSize_59, dX5_leastSize_61, dX5_leastSize_64, dX5_leastSize_66, dX5_leastSize_67, dX5_leastSize_68, dX5_leastSize_69, dX5_leastSize_72, dX5_leastSize_75, dX5_leastSize_76, dX5_leastSize_79, dX5_leastSize_82, dX5_leastSize_83, dX5_leastSize_86, dX5_leastSize_87, w_flk5_18, w_flk5_87, w_flk5_9, w_kd_90, w_rf_90_0, w_rf_90_1, w_rf_90_2, w_rf_90_3, w_rf_90_4, w_kd_91, w_ln_91, h910])
            (repeat' (with_reducible (first | refine And.intro ?_ ?_ | intro _))) <;> (try (first | assumption | contradiction | exact Or.inl trivial | exact Or.inl rfl | exact Or.inr rfl | (simp only [inI, inL]; omega) | omega))
            all_goals first
              | exact e
              | (exfalso; omega)
        have hmi : ((lo : Int) + hi) / 2 = mid := by omega
        have hmt : Int.tdiv ((lo : Int) + hi) 2 = mid := by rw [Int.tdiv_eq_ediv_of_nonneg (by omega)]; exact hmi
        (apply hG [10, 47, 75] 2000; simp only [w_br_i, w_ite, w_all, w_all0, forall_eq, w_b0, w_b1, ↓reduceIte, w_ent, w_pos, List.replicate_succ, List.replicate_zero, wp_s, wk_s, w_lk_c, w_ld0, w_ldS, w_kp0, w_kp, w_s1, w_s2, w_to, w_if, w_call, w_sw, w_cat, w_cats, w_psh, w_fv, List.contains_cons, List.contains_nil, List.set_cons_zero, List.set_cons_succ, List.length_cons, List.length_nil, List.find?_cons, List.find?_nil, List.take_succ_cons, List.take_zero, List.drop_succ_cons, List.drop_zero, List.reverse_cons, List.reverse_nil, List.nil_append, List.cons_append, Option.map_some, Option.map_none, Nat.reduceAdd, Nat.reduceBEq, Nat.reduceEqDiff, Nat.reduceLT, Nat.reduceLeDiff, Nat.reduceSub, Int.reduceAdd, Int.reduceSub, Int.reduceMul, Int.reduceNeg, Int.reduceToNat, Int.reduceLT, Int.reduceLE, Int.reduceEq, Bool.false_eq_true, Bool.or_false, Bool.false_or, Bool.true_or, Bool.or_true, if_true, if_false, ite_true, ite_false, true_and, and_true, false_and, and_false, true_or, or_true, false_or, or_false, Int.cast_ofNat_Int, Int.toNat_natCast, Int.natCast_add, List.getElem?_cons_zero, List.getElem?_cons_succ, true_implies, forall_const, not_true_eq_false, not_false_eq_true, ne_eq, beq_iff_eq, imp_self, List.length_set, Nat.zero_add, Nat.add_zero, Int.zero_add, Int.add_zero, w1_iconst, w1_istore_n_3, w1_sipush, w1_istore, w1_iload, w1_bipush, w1_if_icmp, w1_iload_n_3, w1_iadd, w1_idiv, w1_aload_n_0, w1_aload_n_1, w1_getfield, w1_iaload, w1_invokevirtual, w1_iload_n_2, w1_goto, w1_iinc, w1_ireturn, dX5_leastSize_0, dX5_leastSize_1, dX5_leastSize_2, dX5_leastSize_5, dX5_leastSize_7, dX5_leastSize_8, dX5_leastSize_10, dX5_leastSize_12, dX5_leastSize_14, dX5_leastSize_17, dX5_leastSize_18, dX5_leastSize_20, dX5_leastSize_23, dX5_leastSize_24, dX5_leastSize_26, dX5_leastSize_27, dX5_leastSize_28, dX5_leastSize_29, dX5_leastSize_31, dX5_leastSize_32, dX5_leastSize_33, dX5_leastSize_34, dX5_leastSize_37, dX5_leastSize_40, dX5_leastSize_41, dX5_leastSize_42, dX5_leastSize_44, dX5_leastSize_47, dX5_leastSize_48, dX5_leastSize_51, dX5_leastSize_52, dX5_leastSize_53, dX5_leastSize_54, dX5_leastSize_57, dX5_leastSize_59, dX5_leastSize_61, dX5_leastSize_64, dX5_leastSize_66, dX5_leastSize_67, dX5_leastSize_68, dX5_leastSize_69, dX5_leastSize_72, dX5_leastSize_75, dX5_leastSize_76, dX5_leastSize_79, dX5_leastSize_82, dX5_leastSize_83, dX5_leastSize_86, dX5_leastSize_87, w_flk5_18, w_flk5_87, w_flk5_9, w_kd_4, w_rf_4_0, w_rf_4_1, w_rf_4_2, w_rf_4_3, w_rf_4_4, w_rf_4_5, w_kd_5, w_ln_5, w_kd_90, w_rf_90_0, w_rf_90_1, w_rf_90_2, w_rf_90_3, w_rf_90_4, s0, hmi, hmt, hpc])
        (repeat' (with_reducible (first | refine And.intro ?_ ?_ | intro _))) <;> (try (first | assumption | contradiction | exact Or.inl trivial | exact Or.inl rfl | exact Or.inr rfl | (simp only [inI, inL]; omega) | omega))
        all_goals first
          | exact e47 _ _ (by assumption)
          | (exfalso; omega)
  have e := loop 10 0 rfl 0 201 (by decide) (by decide) (by decide) (fun s hs => by omega) (Or.inl rfl) w ⟨fun k i hk => rfl, fun i hi => rfl⟩ none
  simp only [Int.cast_ofNat_Int] at e
  (apply hG [10] 2000; simp only [w_br_i, w_ite, w_all, w_all0, forall_eq, w_b0, w_b1, ↓reduceIte, w_ent, w_pos, List.replicate_succ, List.replicate_zero, wp_s, wk_s, w_lk_c, w_ld0, w_ldS, w_kp0, w_kp, w_s1, w_s2, w_to, w_if, w_call, w_sw, w_cat, w_cats, w_psh, w_fv, List.contains_cons, List.contains_nil, List.set_cons_zero, List.set_cons_succ, List.length_cons, List.length_nil, List.find?_cons, List.find?_nil, List.take_succ_cons, List.take_zero, List.drop_succ_cons, List.drop_zero, List.reverse_cons, List.reverse_nil, List.nil_append, List.cons_append, Option.map_some, Option.map_none, Nat.reduceAdd, Nat.reduceBEq, Nat.reduceEqDiff, Nat.reduceLT, Nat.reduceLeDiff, Nat.reduceSub, Int.reduceAdd, Int.reduceSub, Int.reduceMul, Int.reduceNeg, Int.reduceToNat, Int.reduceLT, Int.reduceLE, Int.reduceEq, Bool.false_eq_true, Bool.or_false, Bool.false_or, Bool.true_or, Bool.or_true, if_true, if_false, ite_true, ite_false, true_and, and_true, false_and, and_false, true_or, or_true, false_or, or_false, Int.cast_ofNat_Int, Int.toNat_natCast, Int.natCast_add, List.getElem?_cons_zero, List.getElem?_cons_succ, true_implies, forall_const, not_true_eq_false, not_false_eq_true, ne_eq, beq_iff_eq, imp_self, List.length_set, Nat.zero_add, Nat.add_zero, Int.zero_add, Int.add_zero, w1_iconst, w1_istore_n_3, w1_sipush, w1_istore, w1_iload, w1_bipush, w1_if_icmp, w1_iload_n_3, w1_iadd, w1_idiv, w1_aload_n_0, w1_aload_n_1, w1_getfield, w1_iaload, w1_invokevirtual, w1_iload_n_2, w1_goto, w1_iinc, w1_ireturn, dX5_leastSize_0, dX5_leastSize_1, dX5_leastSize_2, dX5_leastSize_5, dX5_leastSize_7, dX5_leastSize_8, dX5_leastSize_10, dX5_leastSize_12, dX5_leastSize_14, dX5_leastSize_17, dX5_leastSize_18, dX5_leastSize_20, dX5_leastSize_23, dX5_leastSize_24, dX5_leastSize_26, dX5_leastSize_27, dX5_leastSize_28, dX5_leastSize_29, dX5_leastSize_31, dX5_leastSize_32, dX5_leastSize_33, dX5_leastSize_34, dX5_leastSize_37, dX5_leastSize_40, dX5_leastSize_41, dX5_leastSize_42, dX5_leastSize_44, dX5_leastSize_47, dX5_leastSize_48, dX5_leastSize_51, dX5_leastSize_52, dX5_leastSize_53, dX5_leastSize_54, dX5_leastSize_57, dX5_leastSize_59, dX5_leastSize_61, dX5_leastSize_64, dX5_leastSize_66, dX5_leastSize_67, dX5_leastSize_68, dX5_leastSize_69, dX5_leastSize_72, dX5_leastSize_75, dX5_leastSize_76, dX5_leastSize_79, dX5_leastSize_82, dX5_leastSize_83, dX5_leastSize_86, dX5_leastSize_87, w_flk5_18, w_flk5_87, w_flk5_9, w_kd_90, w_rf_90_0, w_rf_90_1, w_rf_90_2, w_rf_90_3, w_rf_90_4])
  (repeat' (with_reducible (first | refine And.intro ?_ ?_ | intro _))) <;> (try (first | assumption | contradiction | exact Or.inl trivial | exact Or.inl rfl | exact Or.inr rfl | (simp only [inI, inL]; omega) | omega))
