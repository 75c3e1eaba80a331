def wiI (S w : wW) : Prop := (-1 ≤ w 56 10 ∧ w 56 10 ≤ w 0 15) ∧ inI (w 0 15) ∧ (w 56 10 = w 0 15 → plW S w)
def evW (w w1 : wW) : Prop := ∀ k i, (k < 56 ∨ 87 < k) → w1 k i = w k i


def p_X9_makeWise (S : wW) : List wV → wW → Prop := fun av w => match av with
  | [.inr (.inr (some this)), .inr (.inr (some a))] => this = 0 ∧ hR S ∧ hX S w ∧ (yR S ∧ yX S w) ∧ rR w a ∧ wiI S w
  | _ => False
theorem h_X9_makeWise (S : wW) : ∀ av w, (p_X9_makeWise S) av w → ∃ a r, av = vr a :: r ∧ w_kd a = 100 + 9 := by
  intro av w h
  unfold p_X9_makeWise at h
  split at h
  · refine ⟨_, _, rfl, ?_⟩
    first | (rw [h.1]; rfl) | (rw [h]; rfl)
  · exact h.elim
def q_X9_makeWise (S : wW) : List wV → wW → Int → wW → Prop := fun av w r w' => match av with
  | [.inr (.inr (some this)), .inr (.inr (some a))] => evW w w' ∧ wiI S w' ∧ (w a 1 = 3 → plW S w')
  | _ => False
set_option maxRecDepth 100000 in
set_option maxHeartbeats 4000000 in
theorem c_X9_makeWise (S : wW) : w_Ct yX9_makeWise cX9_makeWise 2 0 3 81 (p_X9_makeWise S) (q_X9_makeWise S) := by
  refine w_met (own := RX9) (fl := w_fl9) (gs := w_gs9) (kl := w_kl9) (ki := w_ki9) (cs := [(262, (0, 2, 0, (p_X7_bringUpTo S), (q_X7_bringUpTo S)))]) (by decide +kernel) rfl ?_ w_flok9 w_gsok9 w_klok9 w_kiok9 ?_ ?_
  · intro av w h
    unfold p_X9_makeWise at h
    split at h
    · simp [w_pos, w_cat]
    · exact h.elim
  · exact List.forall_mem_cons.mpr ⟨⟨_, _, w_callV (own := RX9) (idx := 262) (ci := 7) (c_X7_bringUpTo S) rfl rfl (h_X7_bringUpTo S) (w_m3 100 (by decide +kernel) (by decide +kernel)) (w_m3 101 (by decide +kernel) (by decide +kernel)) (w_m3 102 (by decide +kernel) (by decide +kernel)) (w_m1 8 (by decide +kernel) (by decide +kernel)) (w_m3 103 (by decide +kernel) (by decide +kernel)) ⟨by decide +kernel, by decide +kernel, by decide +kernel⟩, by decide, by decide⟩, fun _ h => absurd h List.not_mem_nil⟩
  intro av w hp
  unfold p_X9_makeWise at hp
  split at hp
  case h_2 => exact hp.elim
  rename_i this a
  intro G hG
  simp only [w_ent, w_pos, w_cat, Nat.reduceEqDiff, ↓reduceIte, List.length_cons, List.length_nil, Nat.reduceAdd, Nat.reduceSub, List.cons_append, List.nil_append, List.replicate_succ, List.replicate_zero]
  obtain ⟨rfl, hS, hXw, hy, hr, hwi⟩ := hp
  obtain ⟨ha, hk, -⟩ := hr
  have kd := w_kdr ha
  have hpc : p_X7_bringUpTo S [vr 56, vi (w 0 15)] w := ⟨rfl, hS, hXw, hy, hwi.2.1, by have := hwi.1; have := hwi.2.1; omega, hwi.2.2⟩
  by_cases c : w a 1 = 3
  · have e19 : ∀ r w2, q_X7_bringUpTo S [vr 56, vi (w 0 15)] w r w2 → G 19 [some (vr 0), some (vr a)] [] w2 := by
      intro r w2 hq
      simp only [q_X7_bringUpTo] at hq
      obtain ⟨h1, h2, h3, -⟩ := hq
      (apply hG [] 2000; simp only [w_br_i, w_ite, w_all, w_all0, forall_eq, w_b0, w_b1, ↓reduceIte, w_ent, w_pos, List.replicate_succ, List.replicate_zero, wp_s, wk_s, w_lk_c, w_ld0, w_ldS, w_kp0, w_kp, w_s1, w_s2, w_to, w_if, w_call, w_sw, w_cat, w_cats, w_psh, w_fv, List.contains_cons, List.contains_nil, List.set_cons_zero, List.set_cons_succ, List.length_cons, List.length_nil, List.find?_cons, List.find?_nil, List.take_succ_cons, List.take_zero, List.drop_succ_cons, List.drop_zero, List.reverse_cons, List.reverse_nil, List.nil_append, List.cons_append, Option.map_some, Option.map_none, Nat.reduceAdd, Nat.reduceBEq, Nat.reduceEqDiff, Nat.reduceLT, Nat.reduceLeDiff, Nat.reduceSub, Int.reduceAdd, Int.reduceSub, Int.reduceMul, Int.reduceNeg, Int.reduceToNat, Int.reduceLT, Int.reduceLE, Int.reduceEq, Bool.false_eq_true, Bool.or_false, Bool.false_or, Bool.true_or, Bool.or_true, if_true, if_false, ite_true, ite_false, true_and, and_true, false_and, and_false, true_or, or_true, false_or, or_false, Int.cast_ofNat_Int, Int.toNat_natCast, Int.natCast_add, List.getElem?_cons_zero, List.getElem?_cons_succ, true_implies, forall_const, not_true_eq_false, not_false_eq_true, ne_eq, beq_iff_eq, imp_self, List.length_set, Nat.zero_add, Nat.add_zero, Int.zero_add, Int.add_zero, w1_aload_n_1, w1_getfield, w1_iconst, w1_if_icmp, w1_aload_n_0, w1_invokevirtual, w1_return, dX9_makeWise_0, dX9_makeWise_1, dX9_makeWise_4, dX9_makeWise_5, dX9_makeWise_8, dX9_makeWise_9, dX9_makeWise_12, dX9_makeWise_13, dX9_makeWise_16, dX9_makeWise_19, w_flk9_118, w_flk9_143, w_flk9_63, w_kd_0, w_rf_0_0, w_rf_0_1, w_rf_0_2, w_rf_0_3, w_rf_0_4, w_rf_0_5, w_rf_0_6, w_rf_0_7, w_rf_0_8, w_rf_0_9, w_rf_0_10])
      (repeat' (with_reducible (first | refine And.intro ?_ ?_ | intro _))) <;> (try (first | assumption | contradiction | exact Or.inl trivial | exact Or.inl rfl | exact Or.inr rfl | (simp only [inI, inL]; omega) | omega))
      all_goals (simp only [q_X9_makeWise]; exact ⟨h3, ⟨by rw [h2, h3 0 15 (by omega)]; have := hwi.1; omega, by rw [h3 0 15 (by omega)]; exact hwi.2.1, fun _ => h1⟩, fun _ => h1⟩)
    (apply hG [19] 2000; simp only [w_br_i, w_ite, w_all, w_all0, forall_eq, w_b0, w_b1, ↓reduceIte, w_ent, w_pos, List.replicate_succ, List.replicate_zero, wp_s, wk_s, w_lk_c, w_ld0, w_ldS, w_kp0, w_kp, w_s1, w_s2, w_to, w_if, w_call, w_sw, w_cat, w_cats, w_psh, w_fv, List.contains_cons, List.contains_nil, List.set_cons_zero, List.set_cons_succ, List.length_cons, List.length_nil, List.find?_cons, List.find?_nil, List.take_succ_cons, List.take_zero, List.drop_succ_cons, List.drop_zero, List.reverse_cons, List.reverse_nil, List.nil_append, List.cons_append, Option.map_some, Option.map_none, Nat.reduceAdd, Nat.reduceBEq, Nat.reduceEqDiff, Nat.reduceLT, Nat.reduceLeDiff, Nat.reduceSub, Int.reduceAdd, Int.reduceSub, Int.reduceMul, Int.reduceNeg, Int.reduceToNat, Int.reduceLT, Int.reduceLE, Int.reduceEq, Bool.false_eq_true, Bool.or_false, Bool.false_or, Bool.true_or, Bool.or_true, if_true, if_false, ite_true, ite_false, true_and, and_true, false_and, and_false, true_or, or_true, false_or, or_false, Int.cast_ofNat_Int, Int.toNat_natCast, Int.natCast_add, List.getElem?_cons_zero, List.getElem?_cons_succ, true_implies, forall_const, not_true_eq_false, not_false_eq_true, ne_eq, beq_iff_eq, imp_self, List.length_set, Nat.zero_add, Nat.add_zero, Int.zero_add, Int.add_zero, w1_aload_n_1, w1_getfield, w1_iconst, w1_if_icmp, w1_aload_n_0, w1_invokevirtual, w1_return, dX9_makeWise_0, dX9_makeWise_1, dX9_makeWise_4, dX9_makeWise_5, dX9_makeWise_8, dX9_makeWise_9, dX9_makeWise_12, dX9_makeWise_13, dX9_makeWise_16, dX9_makeWise_19, w_flk9_118, w_flk9_143, w_flk9_63, w_kd_0, w_rf_0_0, w_rf_0_1, w_rf_0_2, w_rf_0_3, w_rf_0_4, w_rf_0_5, w_rf_0_6, w_rf_0_7, w_rf_0_8, w_rf_0_9, w_rf_0_10, kd, hpc])
    (repeat' (with_reducible (first | refine And.intro ?_ ?_ | intro _))) <;> (try (first | assumption | contradiction | exact Or.inl trivial | exact Or.inl rfl | exact Or.inr rfl | (simp only [inI, inL]; omega) | omega))
    all_goals first
      | exact e19 _ _ (by assumption)
      | (exfalso; omega)
  · (apply hG [] 2000; simp only [w_br_i, w_ite, w_all, w_all0, forall_eq, w_b0, w_b1, ↓reduceIte, w_ent, w_pos, List.replicate_succ, List.replicate_zero, wp_s, wk_s, w_lk_c, w_ld0, w_ldS, w_kp0, w_kp, w_s1, w_s2, w_to, w_if, w_call, w_sw, w_cat, w_cats, w_psh, w_fv, List.contains_cons, List.contains_nil, List.set_cons_zero, List.set_cons_succ, List.length_cons, List.length_nil, List.find?_cons, List.find?_nil, List.take_succ_cons, List.take_zero, List.drop_succ_cons, List.drop_zero, List.reverse_cons, List.reverse_nil, List.nil_append, List.cons_append, Option.map_some, Option.map_none, Nat.reduceAdd, Nat.reduceBEq, Nat.reduceEqDiff, Nat.reduceLT, Nat.reduceLeDiff, Nat.reduceSub, Int.reduceAdd, Int.reduceSub, Int.reduceMul, Int.reduceNeg, Int.reduceToNat, Int.reduceLT, Int.reduceLE, Int.reduceEq, Bool.false_eq_true, Bool.or_false, Bool.false_or, Bool.true_or, Bool.or_true, if_true, if_false, ite_true, ite_false, true_and, and_true, false_and, and_false, true_or, or_true, false_or, or_false, Int.cast_ofNat_Int, Int.toNat_natCast, Int.natCast_add, List.getElem?_cons_zero, List.getElem?_cons_succ, true_implies, forall_const, not_true_eq_false, not_false_eq_true, ne_eq, beq_iff_eq, imp_self, List.length_set, Nat.zero_add, Nat.add_zero, Int.zero_add, Int.add_zero, w1_aload_n_1, w1_getfield, w1_iconst, w1_if_icmp, w1_aload_n_0, w1_invokevirtual, w1_return, dX9_makeWise_0, dX9_makeWise_1, dX9_makeWise_4, dX9_makeWise_5, dX9_makeWise_8, dX9_makeWise_9, dX9_makeWise_12, dX9_makeWise_13, dX9_makeWise_16, dX9_makeWise_19, w_flk9_118, w_flk9_143, w_flk9_63, w_kd_0, w_rf_0_0, w_rf_0_1, w_rf_0_2, w_rf_0_3, w_rf_0_4, w_rf_0_5, w_rf_0_6, w_rf_0_7, w_rf_0_8, w_rf_0_9, w_rf_0_10, kd])
    (repeat' (with_reducible (first | refine And.intro ?_ ?_ | intro _))) <;> (try (first | assumption | contradiction | exact Or.inl trivial | exact Or.inl rfl | exact Or.inr rfl | (simp only [inI, inL]; omega) | omega))
    all_goals first
      | (simp only [q_X9_makeWise]; exact ⟨fun k i _ => rfl, hwi, fun h => absurd h c⟩)
      | exact ⟨fun k i _ => rfl, hwi, fun h => absurd h c⟩
      | (exfalso; omega)
