theorem sV_like {S : wW} {area size : Int} {R R' : Nat → Int → Int → Nat → Int} {K : Nat} (hok : okE (runE S area size R) K) (h : ∀ m, m < 12 → ∀ lv wet, (0 ≤ lv ∧ lv ≤ size) → (wet = 0 ∨ wet = 1) → rLk (R m lv wet) (R' m lv wet)) (j : Nat) : sm (sV (runE S area size R) j) K = sm (sV (runE S area size R') j) K := by
  refine sm_c K (fun k hk => ?_)
  obtain ⟨hP, hG, hK, hM, hS, hC, hO, hL, hD⟩ := rn_like hok h k hk
  unfold sV
  repeat' split
  · exact hD
  · exact hK
  · exact hM
  · exact hO
  · exact hP
  · exact hL
def runS (S T : wW) (r : Nat) : rE := runE S (S 0 0) (S 0 1) (rS S T r)
def paV (S T w : wW) (r : Nat) (w' : wW) : Prop := (∀ k i, (k < 56 ∨ 92 < k) → w' k i = w k i) ∧ wiI S w' ∧ (∀ j, j < 6 → w' 91 j = sm (sV (runS S T r) j) (monthsF S)) ∧ w' 91 6 = (rnQ (runS S T r) (monthsF S)).1 ∧ (∀ u, u < (S 4 0).toNat → w' 92 u = sm (rnS (runS S T r) u) (monthsF S)) ∧ w' 90 5 = rnF (runS S T r) (monthsF S)
def p_X9_passAllYears (S T : wW) : List wV → wW → Prop := fun av w => match av with
  | [.inr (.inr (some this)), .inr (.inr (some a))] => this = 0 ∧ hR S ∧ hX S w ∧ (yR S ∧ yX S w) ∧ rR w a ∧ wiI S w ∧ ∃ r, r < 8 ∧ a = 36 + r ∧ rC T w r
  | _ => False
theorem h_X9_passAllYears (S T : wW) : ∀ av w, (p_X9_passAllYears S T) av w → ∃ a r, av = vr a :: r ∧ w_kd a = 100 + 9 := by
  intro av w h
  unfold p_X9_passAllYears at h
  split at h
  · refine ⟨_, _, rfl, ?_⟩
    first | (rw [h.1]; rfl) | (rw [h]; rfl)
  · exact h.elim
def q_X9_passAllYears (S T : wW) : List wV → wW → Int → wW → Prop := fun av w r w' => match av with
  | [.inr (.inr (some this)), .inr (.inr (some a))] => paV S T w (a - 36) w'
  | _ => False
theorem yX_of {S w w1 : wW} (hy : yR S) (h : yX S w) (he : ∀ k i, (11 ≤ k ∧ k ≤ 20) → w1 k i = w k i) : yX S w1 := ⟨by rw [he 11 1 (by decide)]; exact h.1, fun y m hy' hm => by have := hy.1; rw [he _ _ (by omega)]; exact h.2 y m hy' hm⟩
theorem rR_of {w w1 : wW} {a : Nat} (h : rR w a) (he : ∀ k i, (36 ≤ k ∧ k ≤ 55) → w1 k i = w k i) : rR w1 a := by
  obtain ⟨h1, h2, h3, h4⟩ := h
  exact ⟨h1, by rw [he a 1 (by omega)]; exact h2, by rw [he a 2 (by omega)]; exact h3, fun m hm => by rw [he (a + 10) m (by omega)]; exact h4 m hm⟩
theorem rC_of {T w w1 : wW} {r : Nat} (hr : r < 8) (h : rC T w r) (he : ∀ k i, (36 ≤ k ∧ k ≤ 55) → w1 k i = w k i) : rC T w1 r := ⟨by rw [he _ 1 (by omega)]; exact h.1, by rw [he _ 2 (by omega)]; exact h.2.1, fun m hm => by rw [he _ m (by omega)]; exact h.2.2 m hm⟩
theorem wiI_of {S w w1 : wW} (h : wiI S w) (he : ∀ k i, (k = 0 ∧ i = 15 ∨ 56 ≤ k ∧ k ≤ 87) → w1 k i = w k i) : wiI S w1 := by
  obtain ⟨h1, h2, h3⟩ := h
  refine ⟨by rw [he 56 10 (by omega), he 0 15 (by omega)]; exact h1, by rw [he 0 15 (by omega)]; exact h2, fun q m hm wet lv hw hl => ?_⟩
  rw [he 56 10 (by omega), he 0 15 (by omega)] at q
  rw [he _ _ (by omega), he (71 + m) _ (by omega)]
  exact h3 q m hm wet lv hw hl
set_option maxRecDepth 100000 in
set_option maxHeartbeats 4000000 in
theorem c_X9_passAllYears (S T : wW) : w_Ct yX9_passAllYears cX9_passAllYears 2 0 5 122 (p_X9_passAllYears S T) (q_X9_passAllYears S T) := by
  refine w_met (own := RX9) (fl := w_fl9) (gs := w_gs9) (kl := w_kl9) (ki := w_ki9) (cs := [(194, (0, 2, 0, (p_X9_makeWise S), (q_X9_makeWise S))), (209, (0, 4, 0, (p_X5_passAll S), (q_X5_passAll S)))]) (by decide +kernel) rfl ?_ w_flok9 w_gsok9 w_klok9 w_kiok9 ?_ ?_
  · intro av w h
    unfold p_X9_passAllYears at h
    split at h
    · simp [w_pos, w_cat]
    · exact h.elim
  · exact List.forall_mem_cons.mpr ⟨⟨_, _, w_callV (own := RX9) (idx := 194) (ci := 9) (c_X9_makeWise S) rfl rfl (h_X9_makeWise S) (w_m3 96 (by decide +kernel) (by decide +kernel)) (w_m3 98 (by decide +kernel) (by decide +kernel)) (w_m0 14 (by decide +kernel) (by decide +kernel)) (w_m1 1 (by decide +kernel) (by decide +kernel)) (w_m3 99 (by decide +kernel) (by decide +kernel)) ⟨by decide +kernel, by decide +kernel, by decide +kernel⟩, by decide, by decide⟩, List.forall_mem_cons.mpr ⟨⟨_, _, w_callV (own := RX9) (idx := 209) (ci := 5) (c_X5_passAll S) rfl rfl (h_X5_passAll S) (w_m3 136 (by decide +kernel) (by decide +kernel)) (w_m3 137 (by decide +kernel) (by decide +kernel)) (w_m3 138 (by decide +kernel) (by decide +kernel)) (w_m1 10 (by decide +kernel) (by decide +kernel)) (w_m3 139 (by decide +kernel) (by decide +kernel)) ⟨by decide +kernel, by decide +kernel, by decide +kernel⟩, by decide, by decide⟩, fun _ h => absurd h List.not_mem_nil⟩⟩
  intro av w hp
  unfold p_X9_passAllYears at hp
  split at hp
  case h_2 => exact hp.elim
  rename_i this a
  intro G hG
  simp only [w_ent, w_pos, w_cat, Nat.reduceEqDiff, ↓reduceIte, List.length_cons, List.length_nil, Nat.reduceAdd, Nat.reduceSub, List.cons_append, List.nil_append, List.replicate_succ, List.replicate_zero]
  obtain ⟨rfl, hS, hXw, ⟨hy, hyX⟩, hr, hwi, r, hr8, rfl, hrc⟩ := hp
  have hA := hS.2.1
  have hpc : p_X9_makeWise S [vr 0, vr (36 + r)] w := ⟨rfl, hS, hXw, ⟨hy, hyX⟩, hr, hwi⟩
  have e5 : ∀ r1 w1, q_X9_makeWise S [vr 0, vr (36 + r)] w r1 w1 → G 5 [some (vr 0), some (vr (36 + r))] [] w1 := by
    intro r1 w1 hq
    simp only [q_X9_makeWise] at hq
    obtain ⟨he, hwi1, hpl⟩ := hq
    have s0 : w1 5 0 = S 0 0 := by rw [he 5 0 (by omega)]; exact hXw.2.1 0 (by decide)
    have s1 : w1 5 1 = S 0 1 := by rw [he 5 1 (by omega)]; exact hXw.2.1 1 (by decide)
    have hX1 : hX S w1 := hX_of hXw (fun k i hk => he k i (by omega))
    have hy1 : yX S w1 := yX_of hy hyX (fun k i hk => he k i (by omega))
    have hr1 : rR w1 (36 + r) := rR_of hr (fun k i hk => he k i (by omega))
    have hrc1 : rC T w1 r := rC_of hr8 hrc (fun k i hk => he k i (by omega))
    have hpl1 : w1 (36 + r) 1 = 3 → plW S w1 := fun q => hpl (by rw [← he _ 1 (by omega)]; exact q)
    have hpc2 : p_X5_passAll S [vr 90, vr (36 + r), vi (S 0 0), vi (S 0 1)] w1 := ⟨rfl, hS, hX1, ⟨hy, hy1⟩, hr1, plW_A hS hpl1, by omega, hS.2.2.1⟩
    have e31 : ∀ r2 w2, q_X5_passAll S [vr 90, vr (36 + r), vi (S 0 0), vi (S 0 1)] w1 r2 w2 → G 31 [some (vr 0), some (vr (36 + r))] [] w2 := by
      intro r2 w2 hq2
      simp only [q_X5_passAll] at hq2
      obtain ⟨g1, g2, g3, g4, g5, g6⟩ := hq2
      have hok := okE_run hS hy hr1 (plW_A hS hpl1) (show 0 ≤ S 0 0 ∧ S 0 0 ≤ 25 by omega) hS.2.2.1
      have hlk := rX_S hrc1 hpl1
      (apply hG [] 2000; simp only [w_br_i, w_ite, w_all, w_all0, forall_eq, w_b0, w_b1, ↓reduceIte, w_ent, w_pos, List.replicate_succ, List.replicate_zero, wp_s, wk_s, w_lk_c, w_ld0, w_ldS, w_kp0, w_kp, w_s1, w_s2, w_to, w_if, w_call, w_sw, w_cat, w_cats, w_psh, w_fv, List.contains_cons, List.contains_nil, List.set_cons_zero, List.set_cons_succ, List.length_cons, List.length_nil, List.find?_cons, List.find?_nil, List.take_succ_cons, List.take_zero, List.drop_succ_cons, List.drop_zero, List.reverse_cons, List.reverse_nil, List.nil_append, List.cons_append, Option.map_some, Option.map_none, Nat.reduceAdd, Nat.reduceBEq, Nat.reduceEqDiff, Nat.reduceLT, Nat.reduceLeDiff, Nat.reduceSub, Int.reduceAdd, Int.reduceSub, Int.reduceMul, Int.reduceNeg, Int.reduceToNat, Int.reduceLT, Int.reduceLE, Int.reduceEq, Bool.false_eq_true, Bool.or_false, Bool.false_or, Bool.true_or, Bool.or_true, if_true, if_false, ite_true, ite_false, true_and, and_true, false_and, and_false, true_or, or_true, false_or, or_false, Int.cast_ofNat_Int, Int.toNat_natCast, Int.natCast_add, List.getElem?_cons_zero, List.getElem?_cons_succ, true_implies, forall_const, not_true_eq_false, not_false_eq_true, ne_eq, beq_iff_eq, imp_self, List.length_set, Nat.zero_add, Nat.add_zero, Int.zero_add, Int.add_zero, w1_aload_n_0, w1_aload_n_1, w1_invokevirtual, w1_getfield, w1_iconst, w1_iaload, w1_return, dX9_passAllYears_0, dX9_passAllYears_1, dX9_passAllYears_2, dX9_passAllYears_5, dX9_passAllYears_6, dX9_passAllYears_9, dX9_passAllYears_10, dX9_passAllYears_11, dX9_passAllYears_14, dX9_passAllYears_17, dX9_passAllYears_18, dX9_passAllYears_19, dX9_passAllYears_20, dX9_passAllYears_23, dX9_passAllYears_26, dX9_passAllYears_27, dX9_passAllYears_28, dX9_passAllYears_31, w_flk9_158, w_flk9_19, w_flk9_81, w_kd_0, w_rf_0_0, w_rf_0_1, w_rf_0_2, w_rf_0_3, w_rf_0_4, w_rf_0_5, w_rf_0_6, w_rf_0_7, w_rf_0_8, w_rf_0_9, w_rf_0_10])
      (repeat' (with_reducible (first | refine And.intro ?_ ?_ | intro _))) <;> (try (first | assumption | contradiction | exact Or.inl trivial | exact Or.inl rfl | exact Or.inr rfl | (simp only [inI, inL]; omega) | omega))
      all_goals (simp only [q_X9_passAllYears]; rw [show 36 + r - 36 = r by omega]; refine ⟨fun k i hk => ?_, ?_, fun j hj => ?_, ?_, fun u hu => ?_, ?_⟩)
      · rw [g1 k i (by omega)]; exact he k i (by omega)
      · exact wiI_of hwi1 (fun k i hk => g1 k i (by omega))
      · rw [g3 j hj]; exact sV_like hok hlk j
      · rw [g4]; exact congrArg Prod.fst (rnQ_like hok hlk (monthsF S) (Nat.le_refl _))
      · rw [g5 u hu]; exact sm_c _ (fun k hk => (rn_like hok hlk k hk).2.2.2.2.1 u)
      · rw [g6]; exact rnF_c _ (fun k hk => (rn_like hok hlk k hk).2.2.1)
    (apply hG [31] 2000; simp only [w_br_i, w_ite, w_all, w_all0, forall_eq, w_b0, w_b1, ↓reduceIte, w_ent, w_pos, List.replicate_succ, List.replicate_zero, wp_s, wk_s, w_lk_c, w_ld0, w_ldS, w_kp0, w_kp, w_s1, w_s2, w_to, w_if, w_call, w_sw, w_cat, w_cats, w_psh, w_fv, List.contains_cons, List.contains_nil, List.set_cons_zero, List.set_cons_succ, List.length_cons, List.length_nil, List.find?_cons, List.find?_nil, List.take_succ_cons, List.take_zero, List.drop_succ_cons, List.drop_zero, List.reverse_cons, List.reverse_nil, List.nil_append, List.cons_append, Option.map_some, Option.map_none, Nat.reduceAdd, Nat.reduceBEq, Nat.reduceEqDiff, Nat.reduceLT, Nat.reduceLeDiff, Nat.reduceSub, Int.reduceAdd, Int.reduceSub, Int.reduceMul, Int.reduceNeg, Int.reduceToNat, Int.reduceLT, Int.reduceLE, Int.reduceEq, Bool.false_eq_true, Bool.or_false, Bool.false_or, Bool.true_or, Bool.or_true, if_true, if_false, ite_true, ite_false, true_and, and_true, false_and, and_false, true_or, or_true, false_or, or_false, Int.cast_ofNat_Int, Int.toNat_natCast, Int.natCast_add, List.getElem?_cons_zero, List.getElem?_cons_succ, true_implies, forall_const, not_true_eq_false, not_false_eq_true, ne_eq, beq_iff_eq, imp_self, List.length_set, Nat.zero_add, Nat.add_zero, Int.zero_add, Int.add_zero, w1_aload_n_0, w1_aload_n_1, w1_invokevirtual, w1_getfield, w1_iconst, w1_iaload, w1_return, dX9_passAllYears_0, dX9_passAllYears_1, dX9_passAllYears_2, dX9_passAllYears_5, dX9_passAllYears_6, dX9_passAllYears_9, dX9_passAllYears_10, dX9_passAllYears_11, dX9_passAllYears_14, dX9_passAllYears_17, dX9_passAllYears_18, dX9_passAllYears_19, dX9_passAllYears_20, dX9_passAllYears_23, dX9_passAllYears_26, dX9_passAllYears_27, dX9_passAllYears_28, dX9_passAllYears_31, w_flk9_158, w_flk9_19, w_flk9_81, w_kd_0, w_rf_0_0, w_rf_0_1, w_rf_0_2, w_rf_0_3, w_rf_0_4, w_rf_0_5, w_rf_0_6, w_rf_0_7, w_rf_0_8, w_rf_0_9, w_rf_0_10, w_kd_4, w_rf_4_0, w_rf_4_1, w_rf_4_2, w_rf_4_3, w_rf_4_4, w_rf_4_5, w_kd_5, w_ln_5, s0, s1, hpc2])
    (repeat' (with_reducible (first | refine And.intro ?_ ?_ | intro _))) <;> (try (first | assumption | contradiction | exact Or.inl trivial | exact Or.inl rfl | exact Or.inr rfl | (simp only [inI, inL]; omega) | omega))
    all_goals exact e31 _ _ (by assumption)
  (apply hG [5] 2000; simp only [w_br_i, w_ite, w_all, w_all0, forall_eq, w_b0, w_b1, ↓reduceIte, w_ent, w_pos, List.replicate_succ, List.replicate_zero, wp_s, wk_s, w_lk_c, w_ld0, w_ldS, w_kp0, w_kp, w_s1, w_s2, w_to, w_if, w_call, w_sw, w_cat, w_cats, w_psh, w_fv, List.contains_cons, List.contains_nil, List.set_cons_zero, List.set_cons_succ, List.length_cons, List.length_nil, List.find?_cons, List.find?_nil, List.take_succ_cons, List.take_zero, List.drop_succ_cons, List.drop_zero, List.reverse_cons, List.reverse_nil, List.nil_append, List.cons_append, Option.map_some, Option.map_none, Nat.reduceAdd, Nat.reduceBEq, Nat.reduceEqDiff, Nat.reduceLT, Nat.reduceLeDiff, Nat.reduceSub, Int.reduceAdd, Int.reduceSub, Int.reduceMul, Int.reduceNeg, Int.reduceToNat, Int.reduceLT, Int.reduceLE, Int.reduceEq, Bool.false_eq_true, Bool.or_false, Bool.false_or, Bool.true_or, Bool.or_true, if_true, if_false, ite_true, ite_false, true_and, and_true, false_and, and_false, true_or, or_true, false_or, or_false, Int.cast_ofNat_Int, Int.toNat_natCast, Int.natCast_add, List.getElem?_cons_zero, List.getElem?_cons_succ, true_implies, forall_const, not_true_eq_false, not_false_eq_true, ne_eq, beq_iff_eq, imp_self, List.length_set, Nat.zero_add, Nat.add_zero, Int.zero_add, Int.add_zero, w1_aload_n_0, w1_aload_n_1, w1_invokevirtual, w1_getfield, w1_iconst, w1_iaload, w1_return, dX9_passAllYears_0, dX9_passAllYears_1, dX9_passAllYears_2, dX9_passAllYears_5, dX9_passAllYears_6, dX9_passAllYears_9, dX9_passAllYears_10, dX9_passAllYears_11, dX9_passAllYears_14, dX9_passAllYears_17, dX9_passAllYears_18, dX9_passAllYears_19, dX9_passAllYears_20, dX9_passAllYears_23, dX9_passAllYears_26, dX9_passAllYears_27, dX9_passAllYears_28, dX9_passAllYears_31, w_flk9_158, w_flk9_19, w_flk9_81, w_kd_0, w_rf_0_0, w_rf_0_1, w_rf_0_2, w_rf_0_3, w_rf_0_4, w_rf_0_5, w_rf_0_6, w_rf_0_7, w_rf_0_8, w_rf_0_9, w_rf_0_10, hpc])
  (repeat' (with_reducible (first | refine And.intro ?_ ?_ | intro _))) <;> (try (first | assumption | contradiction | exact Or.inl trivial | exact Or.inl rfl | exact Or.inr rfl | (simp only [inI, inL]; omega) | omega))
  all_goals exact e5 _ _ (by assumption)
