def o_ord (f : Nat → Int) (u : Nat) : List Nat :=
  if u = 1 then [0] else if u = 2 then (if f 0 < f 1 then [1, 0] else [0, 1]) else if u = 3 then
    (if f 0 < f 1 then (if f 0 < f 2 then (if f 1 < f 2 then [2, 1, 0] else [1, 2, 0]) else [1, 0, 2])
     else (if f 1 < f 2 then (if f 0 < f 2 then [2, 0, 1] else [0, 2, 1]) else [0, 1, 2])) else []
def p_X1_orderByWorth : List wV → wW → Prop := fun av w => match av with
  | [.inr (.inr (some this))] => this = 4 ∧ (0 ≤ w 4 6 ∧ w 4 6 ≤ 3) ∧ (inI (w 8 0) ∧ inI (w 8 1) ∧ inI (w 8 2))
  | _ => False
theorem h_X1_orderByWorth : ∀ av w, p_X1_orderByWorth av w → ∃ a r, av = vr a :: r ∧ w_kd a = 100 + 1 := by
  intro av w h
  unfold p_X1_orderByWorth at h
  split at h
  · refine ⟨_, _, rfl, ?_⟩
    first | (rw [h.1]; rfl) | (rw [h]; rfl)
  · exact h.elim
def q_X1_orderByWorth : List wV → wW → Int → wW → Prop := fun av w r w' => match av with
  | [.inr (.inr (some this))] => (∀ k i, k ≠ 9 → w' k i = w k i) ∧ ∀ j, j < (w 4 6).toNat → w' 9 j = ((o_ord (w 8) (w 4 6).toNat).getD j 0 : Nat)
  | _ => False
set_option maxRecDepth 100000 in
set_option maxHeartbeats 4000000 in
theorem c_X1_orderByWorth : w_Ct yX1_orderByWorth cX1_orderByWorth 4 0 0 0 p_X1_orderByWorth q_X1_orderByWorth := by
  refine w_met (own := RX1) (fl := w_fl1) (gs := w_gs1) (kl := w_kl1) (ki := w_ki1) (cs := []) (by decide +kernel) rfl ?_ w_flok1 w_gsok1 w_klok1 w_kiok1 ?_ ?_
  · intro av w h
    unfold p_X1_orderByWorth at h
    split at h
    · simp [w_pos, w_cat]
    · exact h.elim
  · exact fun _ h => absurd h List.not_mem_nil
  intro av w hp
  unfold p_X1_orderByWorth at hp
  split at hp
  case h_2 => exact hp.elim
  rename_i this
  intro G hG
  simp only [w_ent, w_pos, w_cat, Nat.reduceEqDiff, ↓reduceIte, List.length_cons, List.length_nil, Nat.reduceAdd, Nat.reduceSub, List.cons_append, List.nil_append, List.replicate_succ, List.replicate_zero]
  obtain ⟨rfl, hu, h0, h1, h2⟩ := hp
  have hne : ∀ (w0 : wW) (i : Nat) (v : Int) (k i' : Nat), k ≠ 9 → w_up w0 9 i v k i' = w0 k i' := fun w0 i v k i' h => up_k h
  have hcase : w 4 6 = 0 ∨ w 4 6 = 1 ∨ w 4 6 = 2 ∨ w 4 6 = 3 := by omega
  rcases hcase with hu | hu | hu | hu
  · (apply hG [] 2000; simp only [w_br_i, w_ite, w_all, w_all0, forall_eq, w_b0, w_b1, ↓reduceIte, w_ent, w_pos, List.replicate_succ, List.replicate_zero, wp_s, wk_s, w_lk_c, w_ld0, w_ldS, w_kp0, w_kp, w_s1, w_s2, w_to, w_if, w_call, w_sw, w_cat, w_cats, w_psh, w_fv, List.contains_cons, List.contains_nil, List.set_cons_zero, List.set_cons_succ, List.length_cons, List.length_nil, List.find?_cons, List.find?_nil, List.take_succ_cons, List.take_zero, List.drop_succ_cons, List.drop_zero, List.reverse_cons, List.reverse_nil, List.nil_append, List.cons_append, Option.map_some, Option.map_none, Nat.reduceAdd, Nat.reduceBEq, Nat.reduceEqDiff, Nat.reduceLT, Nat.reduceLeDiff, Nat.reduceSub, Int.reduceAdd, Int.reduceSub, Int.reduceMul, Int.reduceNeg, Int.reduceToNat, Int.reduceLT, Int.reduceLE, Int.reduceEq, Bool.false_eq_true, Bool.or_false, Bool.false_or, Bool.true_or, Bool.or_true, if_true, if_false, ite_true, ite_false, true_and, and_true, false_and, and_false, true_or, or_true, false_or, or_false, Int.cast_ofNat_Int, Int.toNat_natCast, Int.natCast_add, List.getElem?_cons_zero, List.getElem?_cons_succ, true_implies, forall_const, not_true_eq_false, not_false_eq_true, ne_eq, beq_iff_eq, imp_self, List.length_set, Nat.zero_add, Nat.add_zero, Int.zero_add, Int.add_zero, w1_iconst, w1_istore_n_1, w1_iload_n_1, w1_aload_n_0, w1_getfield, w1_if_icmp, w1_istore_n_2, w1_istore_n_3, w1_iload_n_3, w1_ifCond, w1_isub, w1_iaload, w1_iastore, w1_iinc, w1_goto, w1_iload_n_2, w1_return, dX1_orderByWorth_0, dX1_orderByWorth_1, dX1_orderByWorth_2, dX1_orderByWorth_3, dX1_orderByWorth_4, dX1_orderByWorth_7, dX1_orderByWorth_10, dX1_orderByWorth_11, dX1_orderByWorth_12, dX1_orderByWorth_13, dX1_orderByWorth_14, dX1_orderByWorth_15, dX1_orderByWorth_18, dX1_orderByWorth_19, dX1_orderByWorth_22, dX1_orderByWorth_23, dX1_orderByWorth_26, dX1_orderByWorth_27, dX1_orderByWorth_28, dX1_orderByWorth_29, dX1_orderByWorth_30, dX1_orderByWorth_31, dX1_orderByWorth_32, dX1_orderByWorth_35, dX1_orderByWorth_36, dX1_orderByWorth_37, dX1_orderByWorth_40, dX1_orderByWorth_41, dX1_orderByWorth_44, dX1_orderByWorth_45, dX1_orderByWorth_46, dX1_orderByWorth_49, dX1_orderByWorth_50, dX1_orderByWorth_51, dX1_orderByWorth_52, dX1_orderByWorth_53, dX1_orderByWorth_54, dX1_orderByWorth_55, dX1_orderByWorth_56, dX1_orderByWorth_57, dX1_orderByWorth_58, dX1_orderByWorth_61, dX1_orderByWorth_64, dX1_orderByWorth_65, dX1_orderByWorth_68, dX1_orderByWorth_69, dX1_orderByWorth_70, dX1_orderByWorth_71, dX1_orderByWorth_74, dX1_orderByWorth_77, w_flk1_21, w_flk1_24, w_flk1_51, w_kd_4, w_rf_4_0, w_rf_4_1, w_rf_4_2, w_rf_4_3, w_rf_4_4, w_rf_4_5, w_kd_8, w_ln_8, w_kd_9, w_ln_9, hu])
    (repeat' (with_reducible (first | refine And.intro ?_ ?_ | intro _))) <;> (try (first | assumption | contradiction | exact Or.inl trivial | exact Or.inl rfl | exact Or.inr rfl | (simp only [inI, inL]; omega) | omega))
    simp [q_X1_orderByWorth, hu]
  · (apply hG [] 2000; simp only [w_br_i, w_ite, w_all, w_all0, forall_eq, w_b0, w_b1, ↓reduceIte, w_ent, w_pos, List.replicate_succ, List.replicate_zero, wp_s, wk_s, w_lk_c, w_ld0, w_ldS, w_kp0, w_kp, w_s1, w_s2, w_to, w_if, w_call, w_sw, w_cat, w_cats, w_psh, w_fv, List.contains_cons, List.contains_nil, List.set_cons_zero, List.set_cons_succ, List.length_cons, List.length_nil, List.find?_cons, List.find?_nil, List.take_succ_cons, List.take_zero, List.drop_succ_cons, List.drop_zero, List.reverse_cons, List.reverse_nil, List.nil_append, List.cons_append, Option.map_some, Option.map_none, Nat.reduceAdd, Nat.reduceBEq, Nat.reduceEqDiff, Nat.reduceLT, Nat.reduceLeDiff, Nat.reduceSub, Int.reduceAdd, Int.reduceSub, Int.reduceMul, Int.reduceNeg, Int.reduceToNat, Int.reduceLT, Int.reduceLE, Int.reduceEq, Bool.false_eq_true, Bool.or_false, Bool.false_or, Bool.true_or, Bool.or_true, if_true, if_false, ite_true, ite_false, true_and, and_true, false_and, and_false, true_or, or_true, false_or, or_false, Int.cast_ofNat_Int, Int.toNat_natCast, Int.natCast_add, List.getElem?_cons_zero, List.getElem?_cons_succ, true_implies, forall_const, not_true_eq_false, not_false_eq_true, ne_eq, beq_iff_eq, imp_self, List.length_set, Nat.zero_add, Nat.add_zero, Int.zero_add, Int.add_zero, w1_iconst, w1_istore_n_1, w1_iload_n_1, w1_aload_n_0, w1_getfield, w1_if_icmp, w1_istore_n_2, w1_istore_n_3, w1_iload_n_3, w1_ifCond, w1_isub, w1_iaload, w1_iastore, w1_iinc, w1_goto, w1_iload_n_2, w1_return, dX1_orderByWorth_0, dX1_orderByWorth_1, dX1_orderByWorth_2, dX1_orderByWorth_3, dX1_orderByWorth_4, dX1_orderByWorth_7, dX1_orderByWorth_10, dX1_orderByWorth_11, dX1_orderByWorth_12, dX1_orderByWorth_13, dX1_orderByWorth_14, dX1_orderByWorth_15, dX1_orderByWorth_18, dX1_orderByWorth_19, dX1_orderByWorth_22, dX1_orderByWorth_23, dX1_orderByWorth_26, dX1_orderByWorth_27, dX1_orderByWorth_28, dX1_orderByWorth_29, dX1_orderByWorth_30, dX1_orderByWorth_31, dX1_orderByWorth_32, dX1_orderByWorth_35, dX1_orderByWorth_36, dX1_orderByWorth_37, dX1_orderByWorth_40, dX1_orderByWorth_41, dX1_orderByWorth_44, dX1_orderByWorth_45, dX1_orderByWorth_46, dX1_orderByWorth_49, dX1_orderByWorth_50, dX1_orderByWorth_51, dX1_orderByWorth_52, dX1_orderByWorth_53, dX1_orderByWorth_54, dX1_orderByWorth_55, dX1_orderByWorth_56, dX1_orderByWorth_57, dX1_orderByWorth_58, dX1_orderByWorth_61, dX1_orderByWorth_64, dX1_orderByWorth_65, dX1_orderByWorth_68, dX1_orderByWorth_69, dX1_orderByWorth_70, dX1_orderByWorth_71, dX1_orderByWorth_74, dX1_orderByWorth_77, w_flk1_21, w_flk1_24, w_flk1_51, w_kd_4, w_rf_4_0, w_rf_4_1, w_rf_4_2, w_rf_4_3, w_rf_4_4, w_rf_4_5, w_kd_8, w_ln_8, w_kd_9, w_ln_9, hu, w_up])
    (repeat' (with_reducible (first | refine And.intro ?_ ?_ | intro _))) <;> (try (first | assumption | contradiction | exact Or.inl trivial | exact Or.inl rfl | exact Or.inr rfl | (simp only [inI, inL]; omega) | omega))
    simp only [q_X1_orderByWorth, hu]
    refine ⟨fun k i hk => ?_, fun j hj => ?_⟩
    · simp [w_up, hk]
    · have e : j = 0 := by omega
      subst e
      rfl
  · (apply hG [] 2000; simp only [w_br_i, w_ite, w_all, w_all0, forall_eq, w_b0, w_b1, ↓reduceIte, w_ent, w_pos, List.replicate_succ, List.replicate_zero, wp_s, wk_s, w_lk_c, w_ld0, w_ldS, w_kp0, w_kp, w_s1, w_s2, w_to, w_if, w_call, w_sw, w_cat, w_cats, w_psh, w_fv, List.contains_cons, List.contains_nil, List.set_cons_zero, List.set_cons_succ, List.length_cons, List.length_nil, List.find?_cons, List.find?_nil, List.take_succ_cons, List.take_zero, List.drop_succ_cons, List.drop_zero, List.reverse_cons, List.reverse_nil, List.nil_append, List.cons_append, Option.map_some, Option.map_none, Nat.reduceAdd, Nat.reduceBEq, Nat.reduceEqDiff, Nat.reduceLT, Nat.reduceLeDiff, Nat.reduceSub, Int.reduceAdd, Int.reduceSub, Int.reduceMul, Int.reduceNeg, Int.reduceToNat, Int.reduceLT, Int.reduceLE, Int.reduceEq, Bool.false_eq_true, Bool.or_false, Bool.false_or, Bool.true_or, Bool.or_true, if_true, if_false, ite_true, ite_false, true_and, and_true, false_and, and_false, true_or, or_true, false_or, or_false, Int.cast_ofNat_Int, Int.toNat_natCast, Int.natCast_add, List.getElem?_cons_zero, List.getElem?_cons_succ, true_implies, forall_const, not_true_eq_false, not_false_eq_true, ne_eq, beq_iff_eq, imp_self, List.length_set, Nat.zero_add, Nat.add_zero, Int.zero_add, Int.add_zero, w1_iconst, w1_istore_n_1, w1_iload_n_1, w1_aload_n_0, w1_getfield, w1_if_icmp, w1_istore_n_2, w1_istore_n_3, w1_iload_n_3, w1_ifCond, w1_isub, w1_iaload, w1_iastore, w1_iinc, w1_goto, w1_iload_n_2, w1_return, dX1_orderByWorth_0, dX1_orderByWorth_1, dX1_orderByWorth_2, dX1_orderByWorth_3, dX1_orderByWorth_4, dX1_orderByWorth_7, dX1_orderByWorth_10, dX1_orderByWorth_11, dX1_orderByWorth_12, dX1_orderByWorth_13, dX1_orderByWorth_14, dX1_orderByWorth_15, dX1_orderByWorth_18, dX1_orderByWorth_19, dX1_orderByWorth_22, dX1_orderByWorth_23, dX1_orderByWorth_26, dX1_orderByWorth_27, dX1_orderByWorth_28, dX1_orderByWorth_29, dX1_orderByWorth_30, dX1_orderByWorth_31, dX1_orderByWorth_32, dX1_orderByWorth_35, dX1_orderByWorth_36, dX1_orderByWorth_37, dX1_orderByWorth_40, dX1_orderByWorth_41, dX1_orderByWorth_44, dX1_orderByWorth_45, dX1_orderByWorth_46, dX1_orderByWorth_49, dX1_orderByWorth_50, dX1_orderByWorth_51, dX1_orderByWorth_52, dX1_orderByWorth_53, dX1_orderByWorth_54, dX1_orderByWorth_55, dX1_orderByWorth_56, dX1_orderByWorth_57, dX1_orderByWorth_58, dX1_orderByWorth_61, dX1_orderByWorth_64, dX1_orderByWorth_65, dX1_orderByWorth_68, dX1_orderByWorth_69, dX1_orderByWorth_70, dX1_orderByWorth_71, dX1_orderByWorth_74, dX1_orderByWorth_77, w_flk1_21, w_flk1_24, w_flk1_51, w_kd_4, w_rf_4_0, w_rf_4_1, w_rf_4_2, w_rf_4_3, w_rf_4_4, w_rf_4_5, w_kd_8, w_ln_8, w_kd_9, w_ln_9, hu, w_up])
    have fin : ∀ w' : wW, (∀ k i, k ≠ 9 → w' k i = w k i) → (w' 9 0 = ((o_ord (w 8) 2).getD 0 0 : Nat)) → (w' 9 1 = ((o_ord (w 8) 2).getD 1 0 : Nat)) → q_X1_orderByWorth [vr 4] w 0 w' := by
      intro w' a1 a2 a3
      simp only [q_X1_orderByWorth, hu]
      refine ⟨a1, fun j hj => ?_⟩
      have e : j = 0 ∨ j = 1 := by omega
      rcases e with rfl | rfl
      · exact a2
      · exact a3
    (repeat' (with_reducible (first | refine And.intro ?_ ?_ | intro _))) <;> (try (first | assumption | contradiction | exact Or.inl trivial | exact Or.inl rfl | exact Or.inr rfl | (simp only [inI, inL]; omega) | omega))
    all_goals refine fin _ (fun k i hk => ?_) ?_ ?_
    all_goals first
      | (simp [w_up, hk]; done)
      | (simp [o_ord, w_up]; done)
      | (simp only [o_ord, w_up]; simp; (repeat' split) <;> first | rfl | (exfalso; omega) | simp)
  · (apply hG [] 2000; simp only [w_br_i, w_ite, w_all, w_all0, forall_eq, w_b0, w_b1, ↓reduceIte, w_ent, w_pos, List.replicate_succ, List.replicate_zero, wp_s, wk_s, w_lk_c, w_ld0, w_ldS, w_kp0, w_kp, w_s1, w_s2, w_to, w_if, w_call, w_sw, w_cat, w_cats, w_psh, w_fv, List.contains_cons, List.contains_nil, List.set_cons_zero, List.set_cons_succ, List.length_cons, List.length_nil, List.find?_cons, List.find?_nil, List.take_succ_cons, List.take_zero, List.drop_succ_cons, List.drop_zero, List.reverse_cons, List.reverse_nil, List.nil_append, List.cons_append, Option.map_some, Option.map_none, Nat.reduceAdd, Nat.reduceBEq, Nat.reduceEqDiff, Nat.reduceLT, Nat.reduceLeDiff, Nat.reduceSub, Int.reduceAdd, Int.reduceSub, Int.reduceMul, Int.reduceNeg, Int.reduceToNat, Int.reduceLT, Int.reduceLE, Int.reduceEq, Bool.false_eq_true, Bool.or_false, Bool.false_or, Bool.true_or, Bool.or_true, if_true, if_false, ite_true, ite_false, true_and, and_true, false_and, and_false, true_or, or_true, false_or, or_false, Int.cast_ofNat_Int, Int.toNat_natCast, Int.natCast_add, List.getElem?_cons_zero, List.getElem?_cons_succ, true_implies, forall_const, not_true_eq_false, not_false_eq_true, ne_eq, beq_iff_eq, imp_self, List.length_set, Nat.zero_add, Nat.add_zero, Int.zero_add, Int.add_zero, w1_iconst, w1_istore_n_1, w1_iload_n_1, w1_aload_n_0, w1_getfield, w1_if_icmp, w1_istore_n_2, w1_istore_n_3, w1_iload_n_3, w1_ifCond, w1_isub, w1_iaload, w1_iastore, w1_iinc, w1_goto, w1_iload_n_2, w1_return, dX1_orderByWorth_0, dX1_orderByWorth_1, dX1_orderByWorth_2, dX1_orderByWorth_3, dX1_orderByWorth_4, dX1_orderByWorth_7, dX1_orderByWorth_10, dX1_orderByWorth_11, dX1_orderByWorth_12, dX1_orderByWorth_13, dX1_orderByWorth_14, dX1_orderByWorth_15, dX1_orderByWorth_18, dX1_orderByWorth_19, dX1_orderByWorth_22, dX1_orderByWorth_23, dX1_orderByWorth_26, dX1_orderByWorth_27, dX1_orderByWorth_28, dX1_orderByWorth_29, dX1_orderByWorth_30, dX1_orderByWorth_31, dX1_orderByWorth_32, dX1_orderByWorth_35, dX1_orderByWorth_36, dX1_orderByWorth_37, dX1_orderByWorth_40, dX1_orderByWorth_41, dX1_orderByWorth_44, dX1_orderByWorth_45, dX1_orderByWorth_46, dX1_orderByWorth_49, dX1_orderByWorth_50, dX1_orderByWorth_51, dX1_orderByWorth_52, dX1_orderByWorth_53, dX1_orderByWorth_54, dX1_orderByWorth_55, dX1_orderByWorth_56, dX1_orderByWorth_57, dX1_orderByWorth_58, dX1_orderByWorth_61, dX1_orderByWorth_64, dX1_orderByWorth_65, dX1_orderByWorth_68, dX1_orderByWorth_69, dX1_orderByWorth_70, dX1_orderByWorth_71, dX1_orderByWorth_74, dX1_orderByWorth_77, w_flk1_21, w_flk1_24, w_flk1_51, w_kd_4, w_rf_4_0, w_rf_4_1, w_rf_4_2, w_rf_4_3, w_rf_4_4, w_rf_4_5, w_kd_8, w_ln_8, w_kd_9, w_ln_9, hu, w_up])
    have fin : ∀ w' : wW, (∀ k i, k ≠ 9 → w' k i = w k i) → (w' 9 0 = ((o_ord (w 8) 3).getD 0 0 : Nat)) → (w' 9 1 = ((o_ord (w 8) 3).getD 1 0 : Nat)) → (w' 9 2 = ((o_ord (w 8) 3).getD 2 0 : Nat)) → q_X1_orderByWorth [vr 4] w 0 w' := by
      intro w' a1 a2 a3 a4
      simp only [q_X1_orderByWorth, hu]
      refine ⟨a1, fun j hj => ?_⟩
      have e : j = 0 ∨ j = 1 ∨ j = 2 := by omega
      rcases e with rfl | rfl | rfl
      · exact a2
      · exact a3
      · exact a4
    (repeat' (with_reducible (first | refine And.intro ?_ ?_ | intro _))) <;> (try (first | assumption | contradiction | exact Or.inl trivial | exact Or.inl rfl | exact Or.inr rfl | (simp only [inI, inL]; omega) | omega))
    all_goals refine fin _ (fun k i hk => ?_) ?_ ?_ ?_
    all_goals first
      | (simp [w_up, hk]; done)
      | (simp [o_ord, w_up]; done)
      | (simp only [o_ord, w_up]; simp; (repeat' split) <;> first | rfl | (exfalso; omega) | simp)
def w_tk (w b : wW) : Nat → wW
  | 0 => b
  | n + 1 => w_up (w_up (w_up (w_tk w b n) 6 n (w 3 (7 + 3 * n))) 7 n (w 3 (8 + 3 * n))) 8 n (w 3 (9 + 3 * n))
theorem w_tk_ne (w b : wW) (k i : Nat) (h : k ≠ 6 ∧ k ≠ 7 ∧ k ≠ 8) : ∀ n, w_tk w b n k i = b k i
  | 0 => rfl
  | n + 1 => by simp [w_tk, w_up, h.1, h.2.1, h.2.2, w_tk_ne w b k i h n]
theorem w_tk_eq (w b : wW) (u : Nat) : ∀ n, u < n → w_tk w b n 6 u = w 3 (7 + 3 * u) ∧ w_tk w b n 7 u = w 3 (8 + 3 * u) ∧ w_tk w b n 8 u = w 3 (9 + 3 * u)
  | 0, h => by omega
  | n + 1, h => by
    by_cases e : u = n
    · subst e
      simp [w_tk, w_up]
    · have ih := w_tk_eq w b u n (by omega)
      simp [w_tk, w_up, e, ih]
def p_X1_takeOver : List wV → wW → Prop := fun av w => match av with
  | [.inr (.inr (some this)), .inr (.inr (some pg))] => this = 4 ∧ pg = 1 ∧ (1 ≤ w 1 3 ∧ w 1 3 ≤ 3) ∧ (0 ≤ w 3 0 ∧ w 3 0 ≤ 25) ∧ (0 ≤ w 3 2 ∧ w 3 2 ≤ 9) ∧ (0 ≤ w 3 3 ∧ w 3 3 ≤ 9) ∧ (∀ u, u < 3 → inI (w 3 (9 + 3 * u))) ∧ (∀ u, u < 3 → inI (w 8 u))
  | _ => False
theorem h_X1_takeOver : ∀ av w, p_X1_takeOver av w → ∃ a r, av = vr a :: r ∧ w_kd a = 100 + 1 := by
  intro av w h
  unfold p_X1_takeOver at h
  split at h
  · refine ⟨_, _, rfl, ?_⟩
    first | (rw [h.1]; rfl) | (rw [h]; rfl)
  · exact h.elim
def q_X1_takeOver : List wV → wW → Int → wW → Prop := fun av w r w' => match av with
  | [.inr (.inr (some this)), .inr (.inr (some pg))] => w' 4 6 = w 1 3 ∧ (∀ j, j < 7 → w' 5 j = w 3 j) ∧ (∀ u, u < (w 1 3).toNat → w' 6 u = w 3 (7 + 3 * u) ∧ w' 7 u = w 3 (8 + 3 * u) ∧ w' 8 u = w 3 (9 + 3 * u)) ∧
    (∀ j, j < (w 1 3).toNat → w' 9 j = ((o_ord (w' 8) (w 1 3).toNat).getD j 0 : Nat)) ∧ (∀ n, n < 10 → w' 10 n = o_comes (w 3 0) n (w 3 2) (w 3 3) 0 ∧ w' 10 (10 + n) = o_comes (w 3 0) n (w 3 2) (w 3 3) 1) ∧
    (∀ k i, (k < 5 ∨ 10 < k) → ¬ (k = 4 ∧ i = 6) → w' k i = w k i) ∧ ∀ u, u < 3 → inI (w' 8 u)
  | _ => False
set_option maxRecDepth 100000 in
set_option maxHeartbeats 4000000 in
theorem c_X1_takeOver : w_Ct yX1_takeOver cX1_takeOver 3 0 2 49 p_X1_takeOver q_X1_takeOver := by
  refine w_met (own := RX1) (fl := w_fl1) (gs := w_gs1) (kl := w_kl1) (ki := w_ki1) (cs := [(35, (1, 5, 0, w_preCp, w_postCp)), (45, (1, 2, 1, w_preMM, w_postMin)), (52, (0, 1, 0, p_X1_orderByWorth, q_X1_orderByWorth)), (55, (0, 1, 0, p_X1_settle, q_X1_settle))]) (by decide +kernel) rfl ?_ w_flok1 w_gsok1 w_klok1 w_kiok1 ?_ ?_
  · intro av w h
    unfold p_X1_takeOver at h
    split at h
    · simp [w_pos, w_cat]
    · exact h.elim
  · exact List.forall_mem_cons.mpr ⟨⟨_, _, w_callCp (own := RX1) (idx := 35) (w_m3 11 (by decide +kernel) (by decide +kernel)) (w_m3 12 (by decide +kernel) (by decide +kernel)) (w_m1 13 (by decide +kernel) (by decide +kernel)) (w_m3 13 (by decide +kernel) (by decide +kernel)), by decide, by decide⟩, List.forall_mem_cons.mpr ⟨⟨_, _, w_callMin (own := RX1) (idx := 45) (w_m3 14 (by decide +kernel) (by decide +kernel)) (w_m3 15 (by decide +kernel) (by decide +kernel)) (w_m1 14 (by decide +kernel) (by decide +kernel)) (w_m3 16 (by decide +kernel) (by decide +kernel)), by decide, by decide⟩, List.forall_mem_cons.mpr ⟨⟨_, _, w_callV (own := RX1) (idx := 52) (ci := 1) c_X1_orderByWorth rfl rfl h_X1_orderByWorth (w_m3 17 (by decide +kernel) (by decide +kernel)) (w_m3 19 (by decide +kernel) (by decide +kernel)) (w_m0 9 (by decide +kernel) (by decide +kernel)) (w_m1 3 (by decide +kernel) (by decide +kernel)) (w_m3 20 (by decide +kernel) (by decide +kernel)) ⟨by decide +kernel, by decide +kernel, by decide +kernel⟩, by decide, by decide⟩, List.forall_mem_cons.mpr ⟨⟨_, _, w_callV (own := RX1) (idx := 55) (ci := 1) c_X1_settle rfl rfl h_X1_settle (w_m3 21 (by decide +kernel) (by decide +kernel)) (w_m3 22 (by decide +kernel) (by decide +kernel)) (w_m3 23 (by decide +kernel) (by decide +kernel)) (w_m1 3 (by decide +kernel) (by decide +kernel)) (w_m3 24 (by decide +kernel) (by decide +kernel)) ⟨by decide +kernel, by decide +kernel, by decide +kernel⟩, by decide, by decide⟩, fun _ h => absurd h List.not_mem_nil⟩⟩⟩⟩
  intro av w hp
  unfold p_X1_takeOver at hp
  split at hp
  case h_2 => exact hp.elim
  rename_i this pg
  intro G hG
  simp only [w_ent, w_pos, w_cat, Nat.reduceEqDiff, ↓reduceIte, List.length_cons, List.length_nil, Nat.reduceAdd, Nat.reduceSub, List.cons_append, List.nil_append, List.replicate_succ, List.replicate_zero]
  obtain ⟨rfl, rfl, hu, h0, h2, h3, h9, h8⟩ := hp
  obtain ⟨nu, hnu⟩ : ∃ nu : Nat, w 1 3 = nu := ⟨(w 1 3).toNat, by omega⟩
  have hb3 : ∀ j, w_up (w_cpy w 3 0 5 0 7) 4 6 nu 3 j = w 3 j := fun j => by simp [w_up, w_cpy]
  have hb5 : ∀ j, j < 7 → w_up (w_cpy w 3 0 5 0 7) 4 6 nu 5 j = w 3 j := fun j hj => by simp [w_up, w_cpy, hj]
  have h13 : w_cpy w 3 0 5 0 7 1 3 = nu := by simp [w_cpy, hnu]
  have t3 : ∀ i j, w_tk w (w_up (w_cpy w 3 0 5 0 7) 4 6 nu) i 3 j = w 3 j := fun i j => by rw [w_tk_ne _ _ _ _ (by decide), hb3]
  have loop : ∀ n i : Nat, i + n = nu → G 29 [some (vr 4), some (vr 1), some (vi i)] [] (w_tk w (w_up (w_cpy w 3 0 5 0 7) 4 6 nu) i) := by
    intro n
    induction n with
    | zero =>
      intro i hi
      have e : i = nu := by omega
      subst e
      have hc : w_tk w (w_up (w_cpy w 3 0 5 0 7) 4 6 i) i 4 6 = i := by rw [w_tk_ne _ _ _ _ (by decide)]; simp [w_up]
      have e5 : ∀ j, j < 7 → w_tk w (w_up (w_cpy w 3 0 5 0 7) 4 6 i) i 5 j = w 3 j := fun j hj => by rw [w_tk_ne _ _ _ _ (by decide)]; exact hb5 j hj
      have e8 : ∀ u, u < 3 → inI (w_tk w (w_up (w_cpy w 3 0 5 0 7) 4 6 i) i 8 u) := by
        intro u hu3
        have key : ∀ n, w_tk w (w_up (w_cpy w 3 0 5 0 7) 4 6 i) n 8 u = w 3 (9 + 3 * u) ∨ w_tk w (w_up (w_cpy w 3 0 5 0 7) 4 6 i) n 8 u = w 8 u := by
          intro n
          induction n with
          | zero => right; simp [w_tk, w_up, w_cpy]
          | succ n ih =>
            by_cases q : u = n
            · left; subst q; simp [w_tk, w_up]
            · simpa [w_tk, w_up, q] using ih
        rcases key i with q | q
        · rw [q]; exact h9 u hu3
        · rw [q]; exact h8 u hu3
      have a0 := e8 0 (by decide)
      have a1 := e8 1 (by decide)
      have a2 := e8 2 (by decide)
      have e102 : ∀ (r : Int) (w2 : wW) (x2 : Option wV), q_X1_orderByWorth [vr 4] (w_tk w (w_up (w_cpy w 3 0 5 0 7) 4 6 i) i) r w2 → G 102 [some (vr 4), some (vr 1), x2] [] w2 := by
        intro r w2 x2 hw2
        simp only [q_X1_orderByWorth] at hw2
        obtain ⟨f1, f2⟩ := hw2
        have g5 : ∀ j, j < 7 → w2 5 j = w 3 j := fun j hj => by rw [f1 5 j (by decide)]; exact e5 j hj
        have q0 := g5 0 (by decide)
        have q2 := g5 2 (by decide)
        have q3 := g5 3 (by decide)
        (apply hG [29] 2000; simp only [w_br_i, w_ite, w_all, w_all0, forall_eq, w_b0, w_b1, ↓reduceIte, w_ent, w_pos, List.replicate_succ, List.replicate_zero, wp_s, wk_s, w_lk_c, w_ld0, w_ldS, w_kp0, w_kp, w_s1, w_s2, w_to, w_if, w_call, w_sw, w_cat, w_cats, w_psh, w_fv, List.contains_cons, List.contains_nil, List.set_cons_zero, List.set_cons_succ, List.length_cons, List.length_nil, List.find?_cons, List.find?_nil, List.take_succ_cons, List.take_zero, List.drop_succ_cons, List.drop_zero, List.reverse_cons, List.reverse_nil, List.nil_append, List.cons_append, Option.map_some, Option.map_none, Nat.reduceAdd, Nat.reduceBEq, Nat.reduceEqDiff, Nat.reduceLT, Nat.reduceLeDiff, Nat.reduceSub, Int.reduceAdd, Int.reduceSub, Int.reduceMul, Int.reduceNeg, Int.reduceToNat, Int.reduceLT, Int.reduceLE, Int.reduceEq, Bool.false_eq_true, Bool.or_false, Bool.false_or, Bool.true_or, Bool.or_true, if_true, if_false, ite_true, ite_false, true_and, and_true, false_and, and_false, true_or, or_true, false_or, or_false, Int.cast_ofNat_Int, Int.toNat_natCast, Int.natCast_add, List.getElem?_cons_zero, List.getElem?_cons_succ, true_implies, forall_const, not_true_eq_false, not_false_eq_true, ne_eq, beq_iff_eq, imp_self, List.length_set, Nat.zero_add, Nat.add_zero, Int.zero_add, Int.add_zero, w1_aload_n_1, w1_getfield, w1_iconst, w1_aload_n_0, w1_bipush, w1_invokestatic, w1_putfield, w1_putfield2, w1_istore_n_2, w1_iload_n_2, w1_if_icmp, w1_imul, w1_iadd, w1_iaload, w1_iastore, w1_iinc, w1_goto, w1_invokevirtual, w1_return, dX1_takeOver_0, dX1_takeOver_1, dX1_takeOver_4, dX1_takeOver_5, dX1_takeOver_6, dX1_takeOver_9, dX1_takeOver_10, dX1_takeOver_12, dX1_takeOver_15, dX1_takeOver_16, dX1_takeOver_17, dX1_takeOver_20, dX1_takeOver_21, dX1_takeOver_24, dX1_takeOver_27, dX1_takeOver_28, dX1_takeOver_29, dX1_takeOver_30, dX1_takeOver_31, dX1_takeOver_34, dX1_takeOver_37, dX1_takeOver_38, dX1_takeOver_41, dX1_takeOver_42, dX1_takeOver_43, dX1_takeOver_46, dX1_takeOver_48, dX1_takeOver_49, dX1_takeOver_50, dX1_takeOver_51, dX1_takeOver_52, dX1_takeOver_53, dX1_takeOver_54, dX1_takeOver_55, dX1_takeOver_58, dX1_takeOver_59, dX1_takeOver_60, dX1_takeOver_63, dX1_takeOver_65, dX1_takeOver_66, dX1_takeOver_67, dX1_takeOver_68, dX1_takeOver_69, dX1_takeOver_70, dX1_takeOver_71, dX1_takeOver_72, dX1_takeOver_73, dX1_takeOver_74, dX1_takeOver_77, dX1_takeOver_78, dX1_takeOver_79, dX1_takeOver_82, dX1_takeOver_84, dX1_takeOver_85, dX1_takeOver_86, dX1_takeOver_87, dX1_takeOver_88, dX1_takeOver_89, dX1_takeOver_90, dX1_takeOver_91, dX1_takeOver_92, dX1_takeOver_95, dX1_takeOver_98, dX1_takeOver_99, dX1_takeOver_102, dX1_takeOver_103, dX1_takeOver_106, w_flk1_15, w_flk1_18, w_flk1_21, w_flk1_30, w_flk1_41, w_flk1_51, w_flk1_9, w_kd_4, w_rf_4_0, w_rf_4_1, w_rf_4_2, w_rf_4_3, w_rf_4_4, w_rf_4_5, p_X1_settle, q_X1_settle])
        (repeat' (with_reducible (first | refine And.intro ?_ ?_ | intro _))) <;> (try (first | assumption | contradiction | exact Or.inl trivial | exact Or.inl rfl | exact Or.inr rfl | (simp only [inI, inL]; omega) | omega))
        simp only [q_X1_takeOver, hnu, Int.toNat_natCast]
        refine ⟨?_, ?_, ?_, ?_, ?_, ?_, ?_⟩
        · rw [w_settle_ne _ _ _ (by decide), f1 4 6 (by decide), hc]
        · intro j hj
          rw [w_settle_ne _ _ _ (by decide)]
          exact g5 j hj
        · intro u hu'
          rw [w_settle_ne _ _ _ (by decide), w_settle_ne _ _ _ (by decide), w_settle_ne _ _ _ (by decide), f1 6 u (by decide), f1 7 u (by decide), f1 8 u (by decide)]
          exact w_tk_eq _ _ _ _ hu'
        · intro j hj
          rw [w_settle_ne _ _ _ (by decide), f2 j (by rw [hc]; exact hj), hc, Int.toNat_natCast]
          have e : w_settle w2 10 8 = w_tk w (w_up (w_cpy w 3 0 5 0 7) 4 6 i) i 8 := by
            funext u
            rw [w_settle_ne _ _ _ (by decide), f1 8 u (by decide)]
          rw [e]
        · intro n hn
          rw [← q0, ← q2, ← q3]
          exact w_settle_lo _ _ _ hn (by decide)
        · intro k j hk hkj
          rw [w_settle_ne _ _ _ (by omega), f1 k j (by omega), w_tk_ne _ _ _ _ (by omega)]
          unfold w_up w_cpy
          rw [if_neg hkj, if_neg (by omega)]
        · intro u hu3
          rw [w_settle_ne _ _ _ (by decide), f1 8 u (by decide)]
          exact e8 u hu3
      (apply hG [29, 102] 2000; simp only [w_br_i, w_ite, w_all, w_all0, forall_eq, w_b0, w_b1, ↓reduceIte, w_ent, w_pos, List.replicate_succ, List.replicate_zero, wp_s, wk_s, w_lk_c, w_ld0, w_ldS, w_kp0, w_kp, w_s1, w_s2, w_to, w_if, w_call, w_sw, w_cat, w_cats, w_psh, w_fv, List.contains_cons, List.contains_nil, List.set_cons_zero, List.set_cons_succ, List.length_cons, List.length_nil, List.find?_cons, List.find?_nil, List.take_succ_cons, List.take_zero, List.drop_succ_cons, List.drop_zero, List.reverse_cons, List.reverse_nil, List.nil_append, List.cons_append, Option.map_some, Option.map_none, Nat.reduceAdd, Nat.reduceBEq, Nat.reduceEqDiff, Nat.reduceLT, Nat.reduceLeDiff, Nat.reduceSub, Int.reduceAdd, Int.reduceSub, Int.reduceMul, Int.reduceNeg, Int.reduceToNat, Int.reduceLT, Int.reduceLE, Int.reduceEq, Bool.false_eq_true, Bool.or_false, Bool.false_or, Bool.true_or, Bool.or_true, if_true, if_false, ite_true, ite_false, true_and, and_true, false_and, and_false, true_or, or_true, false_or, or_false, Int.cast_ofNat_Int, Int.toNat_natCast, Int.natCast_add, List.getElem?_cons_zero, List.getElem?_cons_succ, true_implies, forall_const, not_true_eq_false, not_false_eq_true, ne_eq, beq_iff_eq, imp_self, List.length_set, Nat.zero_add, Nat.add_zero, Int.zero_add, Int.add_zero, w1_aload_n_1, w1_getfield, w1_iconst, w1_aload_n_0, w1_bipush, w1_invokestatic, w1_putfield, w1_putfield2, w1_istore_n_2, w1_iload_n_2, w1_if_icmp, w1_imul, w1_iadd, w1_iaload, w1_iastore, w1_iinc, w1_goto, w1_invokevirtual, w1_return, dX1_takeOver_0, dX1_takeOver_1, dX1_takeOver_4, dX1_takeOver_5, dX1_takeOver_6, dX1_takeOver_9, dX1_takeOver_10, dX1_takeOver_12, dX1_takeOver_15, dX1_takeOver_16, dX1_takeOver_17, dX1_takeOver_20, dX1_takeOver_21, dX1_takeOver_24, dX1_takeOver_27, dX1_takeOver_28, dX1_takeOver_29, dX1_takeOver_30, dX1_takeOver_31, dX1_takeOver_34, dX1_takeOver_37, dX1_takeOver_38, dX1_takeOver_41, dX1_takeOver_42, dX1_takeOver_43, dX1_takeOver_46, dX1_takeOver_48, dX1_takeOver_49, dX1_takeOver_50, dX1_takeOver_51, dX1_takeOver_52, dX1_takeOver_53, dX1_takeOver_54, dX1_takeOver_55, dX1_takeOver_58, dX1_takeOver_59, dX1_takeOver_60, dX1_takeOver_63, dX1_takeOver_65, dX1_takeOver_66, dX1_takeOver_67, dX1_takeOver_68, dX1_takeOver_69, dX1_takeOver_70, dX1_takeOver_71, dX1_takeOver_72, dX1_takeOver_73, dX1_takeOver_74, dX1_takeOver_77, dX1_takeOver_78, dX1_takeOver_79, dX1_takeOver_82, dX1_takeOver_84, dX1_takeOver_85, dX1_takeOver_86, dX1_takeOver_87, dX1_takeOver_88, dX1_takeOver_89, dX1_takeOver_90, dX1_takeOver_91, dX1_takeOver_92, dX1_takeOver_95, dX1_takeOver_98, dX1_takeOver_99, dX1_takeOver_102, dX1_takeOver_103, dX1_takeOver_106, w_flk1_15, w_flk1_18, w_flk1_21, w_flk1_30, w_flk1_41, w_flk1_51, w_flk1_9, w_kd_4, w_rf_4_0, w_rf_4_1, w_rf_4_2, w_rf_4_3, w_rf_4_4, w_rf_4_5, hc, p_X1_orderByWorth])
      (repeat' (with_reducible (first | refine And.intro ?_ ?_ | intro _))) <;> (try (first | assumption | contradiction | exact Or.inl trivial | exact Or.inl rfl | exact Or.inr rfl | (simp only [inI, inL]; omega) | omega))
      all_goals first
        | exact e102 _ _ _ (by assumption)
        | skip
    | succ n ih =>
      intro i hi
      have e := ih (i + 1) (by omega)
      have hc : w_tk w (w_up (w_cpy w 3 0 5 0 7) 4 6 nu) i 4 6 = nu := by rw [w_tk_ne _ _ _ _ (by decide)]; simp [w_up]
      have t1 : (7 + 3 * (i : Int)).toNat = 7 + 3 * i := by omega
      have t2 : (7 + 3 * (i : Int) + 1).toNat = 8 + 3 * i := by omega
      have t4 : (7 + 3 * (i : Int) + 2).toNat = 9 + 3 * i := by omega
      have t5 : ∀ v, w_up (w_tk w (w_up (w_cpy w 3 0 5 0 7) 4 6 nu) i) 6 i v 3 (8 + 3 * i) = w 3 (8 + 3 * i) := fun v => by rw [up_k (by decide)]; exact t3 _ _
      have t6 : ∀ v u, w_up (w_up (w_tk w (w_up (w_cpy w 3 0 5 0 7) 4 6 nu) i) 6 i v) 7 i u 3 (9 + 3 * i) = w 3 (9 + 3 * i) := fun v u => by rw [up_k (by decide), up_k (by decide)]; exact t3 _ _
      simp only [w_tk, Int.natCast_add, Int.cast_ofNat_Int] at e
      (apply hG [29] 2000; simp only [w_br_i, w_ite, w_all, w_all0, forall_eq, w_b0, w_b1, ↓reduceIte, w_ent, w_pos, List.replicate_succ, List.replicate_zero, wp_s, wk_s, w_lk_c, w_ld0, w_ldS, w_kp0, w_kp, w_s1, w_s2, w_to, w_if, w_call, w_sw, w_cat, w_cats, w_psh, w_fv, List.contains_cons, List.contains_nil, List.set_cons_zero, List.set_cons_succ, List.length_cons, List.length_nil, List.find?_cons, List.find?_nil, List.take_succ_cons, List.take_zero, List.drop_succ_cons, List.drop_zero, List.reverse_cons, List.reverse_nil, List.nil_append, List.cons_append, Option.map_some, Option.map_none, Nat.reduceAdd, Nat.reduceBEq, Nat.reduceEqDiff, Nat.reduceLT, Nat.reduceLeDiff, Nat.reduceSub, Int.reduceAdd, Int.reduceSub, Int.reduceMul, Int.reduceNeg, Int.reduceToNat, Int.reduceLT, Int.reduceLE, Int.reduceEq, Bool.false_eq_true, Bool.or_false, Bool.false_or, Bool.true_or, Bool.or_true, if_true, if_false, ite_true, ite_false, true_and, and_true, false_and, and_false, true_or, or_true, false_or, or_false, Int.cast_ofNat_Int, Int.toNat_natCast, Int.natCast_add, List.getElem?_cons_zero, List.getElem?_cons_succ, true_implies, forall_const, not_true_eq_false, not_false_eq_true, ne_eq, beq_iff_eq, imp_self, List.length_set, Nat.zero_add, Nat.add_zero, Int.zero_add, Int.add_zero, w1_aload_n_1, w1_getfield, w1_iconst, w1_aload_n_0, w1_bipush, w1_invokestatic, w1_putfield, w1_putfield2, w1_istore_n_2, w1_iload_n_2, w1_if_icmp, w1_imul, w1_iadd, w1_iaload, w1_iastore, w1_iinc, w1_goto, w1_invokevirtual, w1_return, dX1_takeOver_0, dX1_takeOver_1, dX1_takeOver_4, dX1_takeOver_5, dX1_takeOver_6, dX1_takeOver_9, dX1_takeOver_10, dX1_takeOver_12, dX1_takeOver_15, dX1_takeOver_16, dX1_takeOver_17, dX1_takeOver_20, dX1_takeOver_21, dX1_takeOver_24, dX1_takeOver_27, dX1_takeOver_28, dX1_takeOver_29, dX1_takeOver_30, dX1_takeOver_31, dX1_takeOver_34, dX1_takeOver_37, dX1_takeOver_38, dX1_takeOver_41, dX1_takeOver_42, dX1_takeOver_43, dX1_takeOver_46, dX1_takeOver_48, dX1_takeOver_49, dX1_takeOver_50, dX1_takeOver_51, dX1_takeOver_52, dX1_takeOver_53, dX1_takeOver_54, dX1_takeOver_55, dX1_takeOver_58, dX1_takeOver_59, dX1_takeOver_60, dX1_takeOver_63, dX1_takeOver_65, dX1_takeOver_66, dX1_takeOver_67, dX1_takeOver_68, dX1_takeOver_69, dX1_takeOver_70, dX1_takeOver_71, dX1_takeOver_72, dX1_takeOver_73, dX1_takeOver_74, dX1_takeOver_77, dX1_takeOver_78, dX1_takeOver_79, dX1_takeOver_82, dX1_takeOver_84, dX1_takeOver_85, dX1_takeOver_86, dX1_takeOver_87, dX1_takeOver_88, dX1_takeOver_89, dX1_takeOver_90, dX1_takeOver_91, dX1_takeOver_92, dX1_takeOver_95, dX1_takeOver_98, dX1_takeOver_99, dX1_takeOver_102, dX1_takeOver_103, dX1_takeOver_106, w_flk1_15, w_flk1_18, w_flk1_21, w_flk1_30, w_flk1_41, w_flk1_51, w_flk1_9, w_kd_1, w_rf_1_0, w_rf_1_1, w_kd_3, w_ln_3, w_kd_4, w_rf_4_0, w_rf_4_1, w_rf_4_2, w_rf_4_3, w_rf_4_4, w_rf_4_5, w_kd_6, w_ln_6, w_kd_7, w_ln_7, w_kd_8, w_ln_8, hc, t1, t2, t3, t4, t5, t6])
      (repeat' (with_reducible (first | refine And.intro ?_ ?_ | intro _))) <;> (try (first | assumption | contradiction | exact Or.inl trivial | exact Or.inl rfl | exact Or.inr rfl | (simp only [inI, inL]; omega) | omega))
  have e := loop nu 0 (by omega)
  simp only [w_tk, hnu] at e
  (apply hG [29] 2000; simp only [w_br_i, w_ite, w_all, w_all0, forall_eq, w_b0, w_b1, ↓reduceIte, w_ent, w_pos, List.replicate_succ, List.replicate_zero, wp_s, wk_s, w_lk_c, w_ld0, w_ldS, w_kp0, w_kp, w_s1, w_s2, w_to, w_if, w_call, w_sw, w_cat, w_cats, w_psh, w_fv, List.contains_cons, List.contains_nil, List.set_cons_zero, List.set_cons_succ, List.length_cons, List.length_nil, List.find?_cons, List.find?_nil, List.take_succ_cons, List.take_zero, List.drop_succ_cons, List.drop_zero, List.reverse_cons, List.reverse_nil, List.nil_append, List.cons_append, Option.map_some, Option.map_none, Nat.reduceAdd, Nat.reduceBEq, Nat.reduceEqDiff, Nat.reduceLT, Nat.reduceLeDiff, Nat.reduceSub, Int.reduceAdd, Int.reduceSub, Int.reduceMul, Int.reduceNeg, Int.reduceToNat, Int.reduceLT, Int.reduceLE, Int.reduceEq, Bool.false_eq_true, Bool.or_false, Bool.false_or, Bool.true_or, Bool.or_true, if_true, if_false, ite_true, ite_false, true_and, and_true, false_and, and_false, true_or, or_true, false_or, or_false, Int.cast_ofNat_Int, Int.toNat_natCast, Int.natCast_add, List.getElem?_cons_zero, List.getElem?_cons_succ, true_implies, forall_const, not_true_eq_false, not_false_eq_true, ne_eq, beq_iff_eq, imp_self, List.length_set, Nat.zero_add, Nat.add_zero, Int.zero_add, Int.add_zero, w1_aload_n_1, w1_getfield, w1_iconst, w1_aload_n_0, w1_bipush, w1_invokestatic, w1_putfield, w1_putfield2, w1_istore_n_2, w1_iload_n_2, w1_if_icmp, w1_imul, w1_iadd, w1_iaload, w1_iastore, w1_iinc, w1_goto, w1_invokevirtual, w1_return, dX1_takeOver_0, dX1_takeOver_1, dX1_takeOver_4, dX1_takeOver_5, dX1_takeOver_6, dX1_takeOver_9, dX1_takeOver_10, dX1_takeOver_12, dX1_takeOver_15, dX1_takeOver_16, dX1_takeOver_17, dX1_takeOver_20, dX1_takeOver_21, dX1_takeOver_24, dX1_takeOver_27, dX1_takeOver_28, dX1_takeOver_29, dX1_takeOver_30, dX1_takeOver_31, dX1_takeOver_34, dX1_takeOver_37, dX1_takeOver_38, dX1_takeOver_41, dX1_takeOver_42, dX1_takeOver_43, dX1_takeOver_46, dX1_takeOver_48, dX1_takeOver_49, dX1_takeOver_50, dX1_takeOver_51, dX1_takeOver_52, dX1_takeOver_53, dX1_takeOver_54, dX1_takeOver_55, dX1_takeOver_58, dX1_takeOver_59, dX1_takeOver_60, dX1_takeOver_63, dX1_takeOver_65, dX1_takeOver_66, dX1_takeOver_67, dX1_takeOver_68, dX1_takeOver_69, dX1_takeOver_70, dX1_takeOver_71, dX1_takeOver_72, dX1_takeOver_73, dX1_takeOver_74, dX1_takeOver_77, dX1_takeOver_78, dX1_takeOver_79, dX1_takeOver_82, dX1_takeOver_84, dX1_takeOver_85, dX1_takeOver_86, dX1_takeOver_87, dX1_takeOver_88, dX1_takeOver_89, dX1_takeOver_90, dX1_takeOver_91, dX1_takeOver_92, dX1_takeOver_95, dX1_takeOver_98, dX1_takeOver_99, dX1_takeOver_102, dX1_takeOver_103, dX1_takeOver_106, w_flk1_15, w_flk1_18, w_flk1_21, w_flk1_30, w_flk1_41, w_flk1_51, w_flk1_9, w_kd_1, w_rf_1_0, w_rf_1_1, w_kd_3, w_ln_3, w_kd_4, w_rf_4_0, w_rf_4_1, w_rf_4_2, w_rf_4_3, w_rf_4_4, w_rf_4_5, w_kd_5, w_ln_5, w_preCp, w_postCp, w_preMM, w_postMin, h13])
  rw [if_neg (by omega)]
  (repeat' (with_reducible (first | refine And.intro ?_ ?_ | intro _))) <;> (try (first | assumption | contradiction | exact Or.inl trivial | exact Or.inl rfl | exact Or.inr rfl | (simp only [inI, inL]; omega) | omega))
