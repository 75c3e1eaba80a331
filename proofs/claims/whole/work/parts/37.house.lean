def o_ord (f : Nat → Int) (u : Nat) : List Nat :=
  if u = 1 then [0] else if u = 2 then (if f 0 < f 1 then [1, 0] else [0, 1]) else if u = 3 then
    (if f 0 < f 1 then (if f 0 < f 2 then (if f 1 < f 2 then [2, 1, 0] else [1, 2, 0]) else [1, 0, 2])
     else (if f 1 < f 2 then (if f 0 < f 2 then [2, 0, 1] else [0, 2, 1]) else [0, 1, 2])) else []
def p_X1_orderByWorth : List wV → wW → Prop := fun av w => match av with
  | [.inr (.inr (some this))] => this = 4 ∧ (0 ≤ w 4 6 ∧ w 4 6 ≤ 3) ∧ (inI (w 8 0) ∧ inI (w 8 1) ∧ inI (w 8 2))
  | _ => False
theorem h_X1_orderByWorth : ∀ av w, p_X1_orderByWorth av w → ∃ a r, av = vr a :: r ∧ w_kd a = 100 + 1 := by
  intro av w h
  unfold p_X1_orderByWorth at h
  split at h
  · refine ⟨_, _, rfl, ?_⟩
    first | (rw [h.1]; rfl) | (rw [h]; rfl)
  · exact h.elim
def q_X1_orderByWorth : List wV → wW → Int → wW → Prop := fun av w r w' => match av with
  | [.inr (.inr (some this))] => (∀ k i, k ≠ 9 → w' k i = w k i) ∧ ∀ j, j < (w 4 6).toNat → w' 9 j = ((o_ord (w 8) (w 4 6).toNat).getD j 0 : Nat)
  | _ => False
set_option maxRecDepth 100000 in
set_option maxHeartbeats 4000000 in
theorem c_X1_orderByWorth : w_Ct yX1_orderByWorth cX1_orderByWorth 4 0 0 0 p_X1_orderByWorth q_X1_orderByWorth := by
  refine w_met (own := RX1) (fl := w_fl1) (gs := w_gs1) (kl := w_kl1) (ki := w_ki1) (cs := []) (by decide +kernel) rfl ?_ w_flok1 w_gsok1 w_klok1 w_kiok1 ?_ ?_
  · intro av w h
    unfold p_X1_orderByWorth at h
    split at h
    · simp [w_pos, w_cat]
    · exact h.elim
  · exact fun _ h => absurd h List.not_mem_nil
  intro av w hp
  unfold p_X1_orderByWorth at hp
  split at hp
  case h_2 => exact hp.elim
  rename_i this
  intro G hG
  simp only [w_ent, w_pos, w_cat, Nat.reduceEqDiff, ↓reduceIte, List.length_cons, List.length_nil, Nat.reduceAdd, Nat.reduceSub, List.cons_append, List.nil_append, List.replicate_succ, List.replicate_zero]
  obtain ⟨rfl, hu, h0, h1, h2⟩ := hp
  have hne : ∀ (w0 : wW) (i : Nat) (v : Int) (k i' : Nat), k ≠ 9 → w_up w0 9 i v k i' = w0 k i' := fun w0 i v k i' h => up_k h
  have hcase : w 4 6 = 0 ∨ w 4 6 = 1 ∨ w 4 6 = 2 ∨ w 4 6 = 3 := by omega
  rcases hcase with hu | hu | hu | hu
  · (apply hG [] 2000; simp only [w_br_i, w_ite, w_all, w_all0, forall_eq, w_b0, w_b1, ↓reduceIte, w_ent, w_pos, List.replicate_succ, List.replicate_zero, wp_s, wk_s, w_lk_c, w_ld0, w_ldS, w_kp0, w_kp, w_s1, w_s2, w_to, w_if, w_call, w_sw, w_cat, w_cats, w_psh, w_fv, List.contains_cons, List.contains_nil, List.set_cons_zero, List.set_cons_succ, List.length_cons, List.length_nil, List.find?_cons, List.find?_nil, List.take_succ_cons, List.take_zero, List.drop_succ_cons, List.drop_zero, List.reverse_cons, List.reverse_nil, List.nil_append, List.cons_append, Option.map_some, Option.map_none, Nat.reduceAdd, Nat.reduceBEq, Nat.reduceEqDiff, Nat.reduceLT, Nat.reduceLeDiff, Nat.reduceSub, Int.reduceAdd, Int.reduceSub, Int.reduceMul, Int.reduceNeg, Int.reduceToNat, Int.reduceLT, Int.reduceLE, Int.reduceEq, Bool.false_eq_true, Bool.or_false, Bool.false_or, Bool.true_or, Bool.or_true, if_true, if_false, ite_true, ite_false, true_and, and_true, false_and, and_false, true_or, or_true, false_or, or_false, Int.cast_ofNat_Int, Int.toNat_natCast, Int.natCast_add, List.getElem?_cons_zero, List.getElem?_cons_succ, true_implies, forall_const, not_true_eq_false, not_false_eq_true, ne_eq, beq_iff_eq, imp_self, List.length_set, Nat.zero_add, Nat.add_zero, Int.zero_add, Int.add_zero, w1_iconst, w1_istore_n_1, w1_iload_n_1, w1_aload_n_0, w1_getfield, w1_if_icmp, w1_istore_n_2, w1_istore_n_3, w1_iload_n_3, w1_ifCond, w1_isub, w1_iaload, w1_iastore, w1_iinc, w1_goto, w1_iload_n_2, w1_return, dX1_orderByWorth_0, dX1_orderByWorth_1, dX1_orderByWorth_2, dX1_orderByWorth_3, dX1_orderByWorth_4, dX1_orderByWorth_7, dX1_orderByWorth_10, dX1_orderByWorth_11, dX1_orderByWorth_12, dX1_orderByWorth_13, dX1_orderByWorth_14, dX1_orderByWorth_15, dX1_orderByWorth_18, dX1_orderByWorth_19, dX1_orderByWorth_22, dX1_orderByWorth_23, dX1_orderByWorth_26, dX1_orderByWorth_27, dX1_orderByWorth_28, dX1_orderByWorth_29, dX1_orderByWorth_30, dX1_orderByWorth_31, dX1_orderByWorth_32, dX1_orderByWorth_35, dX1_orderByWorth_36, dX1_orderByWorth_37, dX1_orderByWorth_40, dX1_orderByWorth_41, dX1_orderByWorth_44, dX1_orderByWorth_45, dX1_orderByWorth_46, dX1_orderByWorth_49, dX1_orderByWorth_50, dX1_orderByWorth_51, dX1_orderByWorth_52, dX1_orderByWorth_53, dX1_orderByWorth_54, dX1_orderByWorth_55, dX1_orderByWorth_56, dX1_orderByWorth_57, dX1_orderByWorth_58, dX1_orderByWorth_61, dX1_orderByWorth_64, dX1_orderByWorth_65, dX1_orderByWorth_68, dX1_orderByWorth_69, dX1_orderByWorth_70, dX1_orderByWorth_71, dX1_orderByWorth_74, dX1_orderByWorth_77, w_flk1_21, w_flk1_24, w_flk1_51, w_kd_4, w_rf_4_0, w_rf_4_1, w_rf_4_2, w_rf_4_3, w_rf_4_4, w_rf_4_5, w_kd_8, w_ln_8, w_kd_9, w_ln_9, hu])
    (repeat' (with_reducible (first | refine And.intro ?_ ?_ | intro _))) <;> (try (first | assumption | contradiction | exact Or.inl trivial | exact Or.inl rfl | exact Or.inr rfl | (simp only [inI, inL]; omega) | omega))
    simp [q_X1_orderByWorth, hu]
  · (apply hG [] 2000; simp only [w_br_i, w_ite, w_all, w_all0, forall_eq, w_b0, w_b1, ↓reduceIte, w_ent, w_pos, List.replicate_succ, List.replicate_zero, wp_s, wk_s, w_lk_c, w_ld0, w_ldS, w_kp0, w_kp, w_s1, w_s2, w_to, w_if, w_call, w_sw, w_cat, w_cats, w_psh, w_fv, List.contains_cons, List.contains_nil, List.set_cons_zero, List.set_cons_succ, List.length_cons, List.length_nil, List.find?_cons, List.find?_nil, List.take_succ_cons, List.take_zero, List.drop_succ_cons, List.drop_zero, List.reverse_cons, List.reverse_nil, List.nil_append, List.cons_append, Option.map_some, Option.map_none, Nat.reduceAdd, Nat.reduceBEq, Nat.reduceEqDiff, Nat.reduceLT, Nat.reduceLeDiff, Nat.reduceSub, Int.reduceAdd, Int.reduceSub, Int.reduceMul, Int.reduceNeg, Int.reduceToNat, Int.reduceLT, Int.reduceLE, Int.reduceEq, Bool.false_eq_true, Bool.or_false, Bool.false_or, Bool.true_or, Bool.or_true, if_true, if_false, ite_true, ite_false, true_and, and_true, false_and, and_false, true_or, or_true, false_or, or_false, Int.cast_ofNat_Int, Int.toNat_natCast, Int.natCast_add, List.getElem?_cons_zero, List.getElem?_cons_succ, true_implies, forall_const, not_true_eq_false, not_false_eq_true, ne_eq, beq_iff_eq, imp_self, List.length_set, Nat.zero_add, Nat.add_zero, Int.zero_add, Int.add_zero, w1_iconst, w1_istore_n_1, w1_iload_n_1, w1_aload_n_0, w1_getfield, w1_if_icmp, w1_istore_n_2, w1_istore_n_3, w1_iload_n_3, w1_ifCond, w1_isub, w1_iaload, w1_iastore, w1_iinc, w1_goto, w1_iload_n_2, w1_return, dX1_orderByWorth_0, dX1_orderByWorth_1, dX1_orderByWorth_2, dX1_orderByWorth_3, dX1_orderByWorth_4, dX1_orderByWorth_7, dX1_orderByWorth_10, dX1_orderByWorth_11, dX1_orderByWorth_12, dX1_orderByWorth_13, dX1_orderByWorth_14, dX1_orderByWorth_15, dX1_orderByWorth_18, dX1_orderByWorth_19, dX1_orderByWorth_22, dX1_orderByWorth_23, dX1_orderByWorth_26, dX1_orderByWorth_27, dX1_orderByWorth_28, dX1_orderByWorth_29, dX1_orderByWorth_30, dX1_orderByWorth_31, dX1_orderByWorth_32, dX1_orderByWorth_35, dX1_orderByWorth_36, dX1_orderByWorth_37, dX1_orderByWorth_40, dX1_orderByWorth_41, dX1_orderByWorth_44, dX1_orderByWorth_45, dX1_orderByWorth_46, dX1_orderByWorth_49, dX1_orderByWorth_50, dX1_orderByWorth_51, dX1_orderByWorth_52, dX1_orderByWorth_53, dX1_orderByWorth_54, dX1_orderByWorth_55, dX1_orderByWorth_56, dX1_orderByWorth_57, dX1_orderByWorth_58, dX1_orderByWorth_61, dX1_orderByWorth_64, dX1_orderByWorth_65, dX1_orderByWorth_68, dX1_orderByWorth_69, dX1_orderByWorth_70, dX1_orderByWorth_71, dX1_orderByWorth_74, dX1_orderByWorth_77, w_flk1_21, w_flk1_24, w_flk1_51, w_kd_4, w_rf_4_0, w_rf_4_1, w_rf_4_2, w_rf_4_3, w_rf_4_4, w_rf_4_5, w_kd_8, w_ln_8, w_kd_9, w_ln_9, hu, w_up])
    (repeat' (with_reducible (first | refine And.intro ?_ ?_ | intro _))) <;> (try (first | assumption | contradiction | exact Or.inl trivial | exact Or.inl rfl | exact Or.inr rfl | (simp only [inI, inL]; omega) | omega))
    simp only [q_X1_orderByWorth, hu]
    refine ⟨fun k i hk => ?_, fun j hj => ?_⟩
    · simp [w_up, hk]
    · have e : j = 0 := by omega
      subst e
      rfl
  · (apply hG [] 2000; simp only [w_br_i, w_ite, w_all, w_all0, forall_eq, w_b0, w_b1, ↓reduceIte, w_ent, w_pos, List.replicate_succ, List.replicate_zero, wp_s, wk_s, w_lk_c, w_ld0, w_ldS, w_kp0, w_kp, w_s1, w_s2, w_to, w_if, w_call, w_sw, w_cat, w_cats, w_psh, w_fv, List.contains_cons, List.contains_nil, List.set_cons_zero, List.set_cons_succ, List.length_cons, List.length_nil, List.find?_cons, List.find?_nil, List.take_succ_cons, List.take_zero, List.drop_succ_cons, List.drop_zero, List.reverse_cons, List.reverse_nil, List.nil_append, List.cons_append, Option.map_some, Option.map_none, Nat.reduceAdd, Nat.reduceBEq, Nat.reduceEqDiff, Nat.reduceLT, Nat.reduceLeDiff, Nat.reduceSub, Int.reduceAdd, Int.reduceSub, Int.reduceMul, Int.reduceNeg, Int.reduceToNat, Int.reduceLT, Int.reduceLE, Int.reduceEq, Bool.false_eq_true, Bool.or_false, Bool.false_or, Bool.true_or, Bool.or_true, if_true, if_false, ite_true, ite_false, true_and, and_true, false_and, and_false, true_or, or_true, false_or, or_false, Int.cast_ofNat_Int, Int.toNat_natCast, Int.natCast_add, List.getElem?_cons_zero, List.getElem?_cons_succ, true_implies, forall_const, not_true_eq_false, not_false_eq_true, ne_eq, beq_iff_eq, imp_self, List.length_set, Nat.zero_add, Nat.add_zero, Int.zero_add, Int.add_zero, w1_iconst, w1_istore_n_1, w1_iload_n_1, w1_aload_n_0, w1_getfield, w1_if_icmp, w1_istore_n_2, w1_istore_n_3, w1_iload_n_3, w1_ifCond, w1_isub, w1_iaload, w1_iastore, w1_iinc, w1_goto, w1_iload_n_2, w1_return, dX1_orderByWorth_0, dX1_orderByWorth_1, dX1_orderByWorth_2, dX1_orderByWorth_3, dX1_orderByWorth_4, dX1_orderByWorth_7, dX1_orderByWorth_10, dX1_orderByWorth_11, dX1_orderByWorth_12, dX1_orderByWorth_13, dX1_orderByWorth_14, dX1_orderByWorth_15, dX1_orderByWorth_18, dX1_orderByWorth_19, dX1_orderByWorth_22, dX1_orderByWorth_23, dX1_orderByWorth_26, dX1_orderByWorth_27, dX1_orderByWorth_28, dX1_orderByWorth_29, dX1_orderByWorth_30, dX1_orderByWorth_31, dX1_orderByWorth_32, dX1_orderByWorth_35, dX1_orderByWorth_36, dX1_orderByWorth_37, dX1_orderByWorth_40, dX1_orderByWorth_41, dX1_orderByWorth_44, dX1_orderByWorth_45, dX1_orderByWorth_46, dX1_orderByWorth_49, dX1_orderByWorth_50, dX1_orderByWorth_51, dX1_orderByWorth_52, dX1_orderByWorth_53, dX1_orderByWorth_54, dX1_orderByWorth_55, dX1_orderByWorth_56, dX1_orderByWorth_57, dX1_orderByWorth_58, dX1_orderByWorth_61, dX1_orderByWorth_64, dX1_orderByWorth_65, dX1_orderByWorth_68, dX1_orderByWorth_69, dX1_orderByWorth_70, dX1_orderByWorth_71, dX1_orderByWorth_74, dX1_orderByWorth_77, w_flk1_21, w_flk1_24, w_flk1_51, w_kd_4, w_rf_4_0, w_rf_4_1, w_rf_4_2, w_rf_4_3, w_rf_4_4, w_rf_4_5, w_kd_8, w_ln_8, w_kd_9, w_ln_9, hu, w_up])
    have fin : ∀ w' : wW, (∀ k i, k ≠ 9 → w' k i = w k i) → (w' 9 0 = ((o_ord (w 8) 2).getD 0 0 : Nat)) → (w' 9 1 = ((o_ord (w 8) 2).getD 1 0 : Nat)) → q_X1_orderByWorth [vr 4] w 0 w' := by
      intro w' a1 a2 a3
      simp only [q_X1_orderByWorth, hu]
      refine ⟨a1, fun j hj => ?_⟩
      have e : j = 0 ∨ j = 1 := by omega
      rcases e with rfl | rfl
      · exact a2
      · exact a3
    (repeat' (with_reducible (first | refine And.intro ?_ ?_ | intro _))) <;> (try (first | assumption | contradiction | exact Or.inl trivial | exact Or.inl rfl | exact Or.inr rfl | (simp only [inI, inL]; omega) | omega))
    all_goals refine fin _ (fun k i hk => ?_) ?_ ?_
    all_goals first
      | (simp [w_up, hk]; done)
      | (simp [o_ord, w_up]; done)
      | (simp only [o_ord, w_up]; simp; (repeat' split) <;> first | rfl | (exfalso; omega) | simp)
  · (apply hG [] 2000; simp only [w_br_i, w_ite, w_all, w_all0, forall_eq, w_b0, w_b1, ↓reduceIte, w_ent, w_pos, List.replicate_succ, List.replicate_zero, wp_s, wk_s, w_lk_c, w_ld0, w_ldS, w_kp0, w_kp, w_s1, w_s2, w_to, w_if, w_call, w_sw, w_cat, w_cats, w_psh, w_fv, List.contains_cons, List.contains_nil, List.set_cons_zero, List.set_cons_succ, List.length_cons, List.length_nil, List.find?_cons, List.find?_nil, List.take_succ_cons, List.take_zero, List.drop_succ_cons, List.drop_zero, List.reverse_cons, List.reverse_nil, List.nil_append, List.cons_append, Option.map_some, Option.map_none, Nat.reduceAdd, Nat.reduceBEq, Nat.reduceEqDiff, Nat.reduceLT, Nat.reduceLeDiff, Nat.reduceSub, Int.reduceAdd, Int.reduceSub, Int.reduceMul, Int.reduceNeg, Int.reduceToNat, Int.reduceLT, Int.reduceLE, Int.reduceEq, Bool.false_eq_true, Bool.or_false, Bool.false_or, Bool.true_or, Bool.or_true, if_true, if_false, ite_true, ite_false, true_and, and_true, false_and, and_false, true_or, or_true, false_or, or_false, Int.cast_ofNat_Int, Int.toNat_natCast, Int.natCast_add, List.getElem?_cons_zero, List.getElem?_cons_succ, true_implies, forall_const, not_true_eq_false, not_false_eq_true, ne_eq, beq_iff_eq, imp_self, List.length_set, Nat.zero_add, Nat.add_zero, Int.zero_add, Int.add_zero, w1_iconst, w1_istore_n_1, w1_iload_n_1, w1_aload_n_0, w1_getfield, w1_if_icmp, w1_istore_n_2, w1_istore_n_3, w1_iload_n_3, w1_ifCond, w1_isub, w1_iaload, w1_iastore, w1_iinc, w1_goto, w1_iload_n_2, w1_return, dX1_orderByWorth_0, dX1_orderByWorth_1, dX1_orderByWorth_2, dX1_orderByWorth_3, dX1_orderByWorth_4, dX1_orderByWorth_7, dX1_orderByWorth_10, dX1_orderByWorth_11, dX1_orderByWorth_12, dX1_orderByWorth_13, dX1_orderByWorth_14, dX1_orderByWorth_15, dX1_orderByWorth_18, dX1_orderByWorth_19, dX1_orderByWorth_22, dX1_orderByWorth_23, dX1_orderByWorth_26, dX1_orderByWorth_27, dX1_orderByWorth_28, dX1_orderByWorth_29, dX1_orderByWorth_30, dX1_orderByWorth_31, dX1_orderByWorth_32, dX1_orderByWorth_35, dX1_orderByWorth_36, dX1_orderByWorth_37, dX1_orderByWorth_40, dX1_orderByWorth_41, dX1_orderByWorth_44, dX1_orderByWorth_45, dX1_orderByWorth_46, dX1_orderByWorth_49, dX1_orderByWorth_50, dX1_orderByWorth_51, dX1_orderByWorth_52, dX1_orderByWorth_53, dX1_orderByWorth_54, dX1_orderByWorth_55, dX1_orderByWorth_56, dX1_orderByWorth_57, dX1_orderByWorth_58, dX1_orderByWorth_61, dX1_orderByWorth_64, dX1_orderByWorth_65, dX1_orderByWorth_68, dX1_orderByWorth_69, dX1_orderByWorth_70, dX1_orderByWorth_71, dX1_orderByWorth_74, dX1_orderByWorth_77, w_flk1_21, w_flk1_24, w_flk1_51, w_kd_4, w_rf_4_0, w_rf_4_1, w_rf_4_2, w_rf_4_3, w_rf_4_4, w_rf_4_5, w_kd_8, w_ln_8, w_kd_9, w_ln_9, hu, w_up])
    have fin : ∀ w' : wW, (∀ k i, k ≠ 9 → w' k i = w k i) → (w' 9 0 = ((o_ord (w 8) 3).getD 0 0 : Nat)) → (w' 9 1 = ((o_ord (w 8) 3).getD 1 0 : Nat)) → (w' 9 2 = ((o_ord (w 8) 3).getD 2 0 : Nat)) → q_X1_orderByWorth [vr 4] w 0 w' := by
      intro w' a1 a2 a3 a4
      simp only [q_X1_orderByWorth, hu]
      refine ⟨a1, fun j hj => ?_⟩
      have e : j = 0 ∨ j = 1 ∨ j = 2 := by omega
      rcases e with rfl | rfl | rfl
      · exact a2
      · exact a3
      · exact a4
    (repeat' (with_reducible (first | refine And.intro ?_ ?_ | intro _))) <;> (try (first | assumption | contradiction | exact Or.inl trivial | exact Or.inl rfl | exact Or.inr rfl | (simp only [inI, inL]; omega) | omega))
    all_goals refine fin _ (fun k i hk => ?_) ?_ ?_ ?_
    all_goals first
      | (simp [w_up, hk]; done)
      | (simp [o_ord, w_up]; done)
      | (simp only [o_ord, w_up]; simp; (repeat' split) <;> first | rfl | (exfalso; omega) | simp)
