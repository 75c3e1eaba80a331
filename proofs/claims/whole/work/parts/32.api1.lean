def p_X9_blank : List wV → wW → Prop := fun av w => match av with
  | [.inr (.inr (some this))] => this = 0
  | _ => False
theorem h_X9_blank : ∀ av w, p_X9_blank av w → ∃ a r, av = vr a :: r ∧ w_kd a = 100 + 9 := by
  intro av w h
  unfold p_X9_blank at h
  split at h
  · refine ⟨_, _, rfl, ?_⟩
    first | (rw [h.1]; rfl) | (rw [h]; rfl)
  · exact h.elim
def q_X9_blank : List wV → wW → Int → wW → Prop := fun av w r w' => match av with
  | [.inr (.inr (some this))] => r = w 1 2 ∧ w' = w_up w 1 2 0
  | _ => False
set_option maxRecDepth 100000 in
set_option maxHeartbeats 4000000 in
theorem c_X9_blank : w_Ct yX9_blank cX9_blank 2 1 0 0 p_X9_blank q_X9_blank := by
  refine w_met (own := RX9) (fl := w_fl9) (gs := w_gs9) (kl := w_kl9) (ki := w_ki9) (cs := []) (by decide +kernel) rfl ?_ w_flok9 w_gsok9 w_klok9 w_kiok9 ?_ ?_
  · intro av w h
    unfold p_X9_blank at h
    split at h
    · simp [w_pos, w_cat]
    · exact h.elim
  · exact fun _ h => absurd h List.not_mem_nil
  intro av w hp
  unfold p_X9_blank at hp
  split at hp
  case h_2 => exact hp.elim
  rename_i this
  intro G hG
  simp only [w_ent, w_pos, w_cat, Nat.reduceEqDiff, ↓reduceIte, List.length_cons, List.length_nil, Nat.reduceAdd, Nat.reduceSub, List.cons_append, List.nil_append, List.replicate_succ, List.replicate_zero]
  subst hp
  (apply hG [] 2000; simp only [w_br_i, w_ite, w_all, w_all0, forall_eq, w_b0, w_b1, ↓reduceIte, w_ent, w_pos, List.replicate_succ, List.replicate_zero, wp_s, wk_s, w_lk_c, w_ld0, w_ldS, w_kp0, w_kp, w_s1, w_s2, w_to, w_if, w_call, w_sw, w_cat, w_cats, w_psh, w_fv, List.contains_cons, List.contains_nil, List.set_cons_zero, List.set_cons_succ, List.length_cons, List.length_nil, List.find?_cons, List.find?_nil, List.take_succ_cons, List.take_zero, List.drop_succ_cons, List.drop_zero, List.reverse_cons, List.reverse_nil, List.nil_append, List.cons_append, Option.map_some, Option.map_none, Nat.reduceAdd, Nat.reduceBEq, Nat.reduceEqDiff, Nat.reduceLT, Nat.reduceLeDiff, Nat.reduceSub, Int.reduceAdd, Int.reduceSub, Int.reduceMul, Int.reduceNeg, Int.reduceToNat, Int.reduceLT, Int.reduceLE, Int.reduceEq, Bool.false_eq_true, Bool.or_false, Bool.false_or, Bool.true_or, Bool.or_true, if_true, if_false, ite_true, ite_false, true_and, and_true, false_and, and_false, true_or, or_true, false_or, or_false, Int.cast_ofNat_Int, Int.toNat_natCast, Int.natCast_add, List.getElem?_cons_zero, List.getElem?_cons_succ, true_implies, forall_const, not_true_eq_false, not_false_eq_true, ne_eq, beq_iff_eq, imp_self, List.length_set, Nat.zero_add, Nat.add_zero, Int.zero_add, Int.add_zero, w1_aload_n_0, w1_getfield, w1_istore_n_1, w1_iconst, w1_putfield, w1_putfield2, w1_iload_n_1, w1_ireturn, dX9_blank_0, dX9_blank_1, dX9_blank_4, dX9_blank_7, dX9_blank_8, dX9_blank_9, dX9_blank_12, dX9_blank_13, dX9_blank_16, dX9_blank_17, w_flk9_12, w_flk9_96, w_kd_0, w_rf_0_0, w_rf_0_1, w_rf_0_2, w_rf_0_3, w_rf_0_4, w_rf_0_5, w_rf_0_6, w_rf_0_7, w_rf_0_8, w_rf_0_9, w_rf_0_10, w_kd_1, w_rf_1_0, w_rf_1_1]); (repeat' (with_reducible (first | refine And.intro ?_ ?_ | intro _))) <;> (first | assumption | contradiction | exact Or.inl trivial | exact Or.inl rfl | exact Or.inr rfl | (simp only [inI, inL]; omega) | omega | (simp only [q_X9_blank]; ((repeat' (first | refine And.intro ?_ ?_ | split)) <;> (first | rfl | trivial | assumption | contradiction | omega | (exfalso; omega)))))
def o_told (S12 S46 what a b c d : Int) : Int := if S12 = 0 then -103 else if 0 ≤ what ∧ what < 7 then a else if what = 7 then S46 else if what < 10 ∨ 32 < what ∨ 2 < what % 10 then -102 else if S46 ≤ what / 10 - 1 then -1 else if what % 10 = 0 then b else if what % 10 = 1 then c else d
def p_X9_houseTold : List wV → wW → Prop := fun av w => match av with
  | [.inr (.inr (some this)), .inl what] => this = 0 ∧ inI what ∧ inI (w 0 12) ∧ (0 ≤ w 4 6 ∧ w 4 6 ≤ 3)
  | _ => False
theorem h_X9_houseTold : ∀ av w, p_X9_houseTold av w → ∃ a r, av = vr a :: r ∧ w_kd a = 100 + 9 := by
  intro av w h
  unfold p_X9_houseTold at h
  split at h
  · refine ⟨_, _, rfl, ?_⟩
    first | (rw [h.1]; rfl) | (rw [h]; rfl)
  · exact h.elim
def q_X9_houseTold : List wV → wW → Int → wW → Prop := fun av w r w' => match av with
  | [.inr (.inr (some this)), .inl what] => r = o_told (w 0 12) (w 4 6) what (w 5 what.toNat) (w 6 (what / 10 - 1).toNat) (w 7 (what / 10 - 1).toNat) (w 8 (what / 10 - 1).toNat) ∧ w' = w
  | _ => False
set_option maxRecDepth 100000 in
set_option maxHeartbeats 4000000 in
theorem c_X9_houseTold : w_Ct yX9_houseTold cX9_houseTold 2 1 1 22 p_X9_houseTold q_X9_houseTold := by
  refine w_met (own := RX9) (fl := w_fl9) (gs := w_gs9) (kl := w_kl9) (ki := w_ki9) (cs := [(161, (0, 3, 1, p_X1_useTold, q_X1_useTold))]) (by decide +kernel) rfl ?_ w_flok9 w_gsok9 w_klok9 w_kiok9 ?_ ?_
  · intro av w h
    unfold p_X9_houseTold at h
    split at h
    · simp [w_pos, w_cat]
    · exact h.elim
  · exact List.forall_mem_cons.mpr ⟨⟨_, _, w_callV (own := RX9) (idx := 161) (ci := 1) c_X1_useTold rfl rfl h_X1_useTold (w_m3 62 (by decide +kernel) (by decide +kernel)) (w_m3 63 (by decide +kernel) (by decide +kernel)) (w_m3 64 (by decide +kernel) (by decide +kernel)) (w_m1 3 (by decide +kernel) (by decide +kernel)) (w_m3 65 (by decide +kernel) (by decide +kernel)) ⟨by decide +kernel, by decide +kernel, by decide +kernel⟩, by decide, by decide⟩, fun _ h => absurd h List.not_mem_nil⟩
  intro av w hp
  unfold p_X9_houseTold at hp
  split at hp
  case h_2 => exact hp.elim
  rename_i this what
  intro G hG
  simp only [w_ent, w_pos, w_cat, Nat.reduceEqDiff, ↓reduceIte, List.length_cons, List.length_nil, Nat.reduceAdd, Nat.reduceSub, List.cons_append, List.nil_append, List.replicate_succ, List.replicate_zero]
  obtain ⟨rfl, hp⟩ := hp
  (apply hG [64, 67] 2000; simp only [w_br_i, w_ite, w_all, w_all0, forall_eq, w_b0, w_b1, ↓reduceIte, w_ent, w_pos, List.replicate_succ, List.replicate_zero, wp_s, wk_s, w_lk_c, w_ld0, w_ldS, w_kp0, w_kp, w_s1, w_s2, w_to, w_if, w_call, w_sw, w_cat, w_cats, w_psh, w_fv, List.contains_cons, List.contains_nil, List.set_cons_zero, List.set_cons_succ, List.length_cons, List.length_nil, List.find?_cons, List.find?_nil, List.take_succ_cons, List.take_zero, List.drop_succ_cons, List.drop_zero, List.reverse_cons, List.reverse_nil, List.nil_append, List.cons_append, Option.map_some, Option.map_none, Nat.reduceAdd, Nat.reduceBEq, Nat.reduceEqDiff, Nat.reduceLT, Nat.reduceLeDiff, Nat.reduceSub, Int.reduceAdd, Int.reduceSub, Int.reduceMul, Int.reduceNeg, Int.reduceToNat, Int.reduceLT, Int.reduceLE, Int.reduceEq, Bool.false_eq_true, Bool.or_false, Bool.false_or, Bool.true_or, Bool.or_true, if_true, if_false, ite_true, ite_false, true_and, and_true, false_and, and_false, true_or, or_true, false_or, or_false, Int.cast_ofNat_Int, Int.toNat_natCast, Int.natCast_add, List.getElem?_cons_zero, List.getElem?_cons_succ, true_implies, forall_const, not_true_eq_false, not_false_eq_true, ne_eq, beq_iff_eq, imp_self, List.length_set, Nat.zero_add, Nat.add_zero, Int.zero_add, Int.add_zero, w1_aload_n_0, w1_getfield, w1_ifCond, w1_bipush, w1_ireturn, w1_iload_n_1, w1_if_icmp, w1_iaload, w1_irem, w1_iconst, w1_idiv, w1_isub, w1_invokevirtual, dX9_houseTold_0, dX9_houseTold_1, dX9_houseTold_4, dX9_houseTold_7, dX9_houseTold_9, dX9_houseTold_10, dX9_houseTold_11, dX9_houseTold_14, dX9_houseTold_15, dX9_houseTold_17, dX9_houseTold_20, dX9_houseTold_21, dX9_houseTold_24, dX9_houseTold_27, dX9_houseTold_28, dX9_houseTold_29, dX9_houseTold_30, dX9_houseTold_31, dX9_houseTold_33, dX9_houseTold_36, dX9_houseTold_37, dX9_houseTold_40, dX9_houseTold_43, dX9_houseTold_44, dX9_houseTold_45, dX9_houseTold_47, dX9_houseTold_50, dX9_houseTold_51, dX9_houseTold_53, dX9_houseTold_56, dX9_houseTold_57, dX9_houseTold_59, dX9_houseTold_60, dX9_houseTold_61, dX9_houseTold_64, dX9_houseTold_66, dX9_houseTold_67, dX9_houseTold_68, dX9_houseTold_71, dX9_houseTold_72, dX9_houseTold_74, dX9_houseTold_75, dX9_houseTold_76, dX9_houseTold_77, dX9_houseTold_78, dX9_houseTold_80, dX9_houseTold_81, dX9_houseTold_84, w_flk9_115, w_flk9_121, w_flk9_158, w_flk9_19, w_kd_0, w_rf_0_0, w_rf_0_1, w_rf_0_2, w_rf_0_3, w_rf_0_4, w_rf_0_5, w_rf_0_6, w_rf_0_7, w_rf_0_8, w_rf_0_9, w_rf_0_10, w_kd_4, w_rf_4_0, w_rf_4_1, w_rf_4_2, w_rf_4_3, w_rf_4_4, w_rf_4_5, w_kd_5, w_ln_5, p_X1_useTold, q_X1_useTold])
  have e64 : ¬ (0 ≤ what ∧ what < 7) → ¬ what = 7 → w 0 12 ≠ 0 → (what < 10 ∨ 32 < what ∨ 2 < what % 10) → G 64 [some (vr 0), some (vi what)] [] w := by
    intro h1 h2 h3 h4
    (apply hG [] 2000; simp only [w_br_i, w_ite, w_all, w_all0, forall_eq, w_b0, w_b1, ↓reduceIte, w_ent, w_pos, List.replicate_succ, List.replicate_zero, wp_s, wk_s, w_lk_c, w_ld0, w_ldS, w_kp0, w_kp, w_s1, w_s2, w_to, w_if, w_call, w_sw, w_cat, w_cats, w_psh, w_fv, List.contains_cons, List.contains_nil, List.set_cons_zero, List.set_cons_succ, List.length_cons, List.length_nil, List.find?_cons, List.find?_nil, List.take_succ_cons, List.take_zero, List.drop_succ_cons, List.drop_zero, List.reverse_cons, List.reverse_nil, List.nil_append, List.cons_append, Option.map_some, Option.map_none, Nat.reduceAdd, Nat.reduceBEq, Nat.reduceEqDiff, Nat.reduceLT, Nat.reduceLeDiff, Nat.reduceSub, Int.reduceAdd, Int.reduceSub, Int.reduceMul, Int.reduceNeg, Int.reduceToNat, Int.reduceLT, Int.reduceLE, Int.reduceEq, Bool.false_eq_true, Bool.or_false, Bool.false_or, Bool.true_or, Bool.or_true, if_true, if_false, ite_true, ite_false, true_and, and_true, false_and, and_false, true_or, or_true, false_or, or_false, Int.cast_ofNat_Int, Int.toNat_natCast, Int.natCast_add, List.getElem?_cons_zero, List.getElem?_cons_succ, true_implies, forall_const, not_true_eq_false, not_false_eq_true, ne_eq, beq_iff_eq, imp_self, List.length_set, Nat.zero_add, Nat.add_zero, Int.zero_add, Int.add_zero, w1_aload_n_0, w1_getfield, w1_ifCond, w1_bipush, w1_ireturn, w1_iload_n_1, w1_if_icmp, w1_iaload, w1_irem, w1_iconst, w1_idiv, w1_isub, w1_invokevirtual, dX9_houseTold_0, dX9_houseTold_1, dX9_houseTold_4, dX9_houseTold_7, dX9_houseTold_9, dX9_houseTold_10, dX9_houseTold_11, dX9_houseTold_14, dX9_houseTold_15, dX9_houseTold_17, dX9_houseTold_20, dX9_houseTold_21, dX9_houseTold_24, dX9_houseTold_27, dX9_houseTold_28, dX9_houseTold_29, dX9_houseTold_30, dX9_houseTold_31, dX9_houseTold_33, dX9_houseTold_36, dX9_houseTold_37, dX9_houseTold_40, dX9_houseTold_43, dX9_houseTold_44, dX9_houseTold_45, dX9_houseTold_47, dX9_houseTold_50, dX9_houseTold_51, dX9_houseTold_53, dX9_houseTold_56, dX9_houseTold_57, dX9_houseTold_59, dX9_houseTold_60, dX9_houseTold_61, dX9_houseTold_64, dX9_houseTold_66, dX9_houseTold_67, dX9_houseTold_68, dX9_houseTold_71, dX9_houseTold_72, dX9_houseTold_74, dX9_houseTold_75, dX9_houseTold_76, dX9_houseTold_77, dX9_houseTold_78, dX9_houseTold_80, dX9_houseTold_81, dX9_houseTold_84, w_flk9_115, w_flk9_121, w_flk9_158, w_flk9_19])
    simp only [q_X9_houseTold, o_told, if_neg h1, if_neg h2, if_neg h3, if_pos h4]
    ((repeat' (first | refine And.intro ?_ ?_ | split)) <;> (first | rfl | trivial | assumption | contradiction | omega | (exfalso; omega)))
  have e67 : ¬ (0 ≤ what ∧ what < 7) → ¬ what = 7 → w 0 12 ≠ 0 → ¬ (what < 10 ∨ 32 < what ∨ 2 < what % 10) → G 67 [some (vr 0), some (vi what)] [] w := by
    intro h1 h2 h3 h4
    have t1 : what.tdiv 10 = what / 10 := Int.tdiv_eq_ediv_of_nonneg (by omega)
    have t2 : what.tmod 10 = what % 10 := Int.tmod_eq_emod_of_nonneg (by omega)
    (apply hG [] 2000; simp only [w_br_i, w_ite, w_all, w_all0, forall_eq, w_b0, w_b1, ↓reduceIte, w_ent, w_pos, List.replicate_succ, List.replicate_zero, wp_s, wk_s, w_lk_c, w_ld0, w_ldS, w_kp0, w_kp, w_s1, w_s2, w_to, w_if, w_call, w_sw, w_cat, w_cats, w_psh, w_fv, List.contains_cons, List.contains_nil, List.set_cons_zero, List.set_cons_succ, List.length_cons, List.length_nil, List.find?_cons, List.find?_nil, List.take_succ_cons, List.take_zero, List.drop_succ_cons, List.drop_zero, List.reverse_cons, List.reverse_nil, List.nil_append, List.cons_append, Option.map_some, Option.map_none, Nat.reduceAdd, Nat.reduceBEq, Nat.reduceEqDiff, Nat.reduceLT, Nat.reduceLeDiff, Nat.reduceSub, Int.reduceAdd, Int.reduceSub, Int.reduceMul, Int.reduceNeg, Int.reduceToNat, Int.reduceLT, Int.reduceLE, Int.reduceEq, Bool.false_eq_true, Bool.or_false, Bool.false_or, Bool.true_or, Bool.or_true, if_true, if_false, ite_true, ite_false, true_and, and_true, false_and, and_false, true_or, or_true, false_or, or_false, Int.cast_ofNat_Int, Int.toNat_natCast, Int.natCast_add, List.getElem?_cons_zero, List.getElem?_cons_succ, true_implies, forall_const, not_true_eq_false, not_false_eq_true, ne_eq, beq_iff_eq, imp_self, List.length_set, Nat.zero_add, Nat.add_zero, Int.zero_add, Int.add_zero, w1_aload_n_0, w1_getfield, w1_ifCond, w1_bipush, w1_ireturn, w1_iload_n_1, w1_if_icmp, w1_iaload, w1_irem, w1_iconst, w1_idiv, w1_isub, w1_invokevirtual, dX9_houseTold_0, dX9_houseTold_1, dX9_houseTold_4, dX9_houseTold_7, dX9_houseTold_9, dX9_houseTold_10, dX9_houseTold_11, dX9_houseTold_14, dX9_houseTold_15, dX9_houseTold_17, dX9_houseTold_20, dX9_houseTold_21, dX9_houseTold_24, dX9_houseTold_27, dX9_houseTold_28, dX9_houseTold_29, dX9_houseTold_30, dX9_houseTold_31, dX9_houseTold_33, dX9_houseTold_36, dX9_houseTold_37, dX9_houseTold_40, dX9_houseTold_43, dX9_houseTold_44, dX9_houseTold_45, dX9_houseTold_47, dX9_houseTold_50, dX9_houseTold_51, dX9_houseTold_53, dX9_houseTold_56, dX9_houseTold_57, dX9_houseTold_59, dX9_houseTold_60, dX9_houseTold_61, dX9_houseTold_64, dX9_houseTold_66, dX9_houseTold_67, dX9_houseTold_68, dX9_houseTold_71, dX9_houseTold_72, dX9_houseTold_74, dX9_houseTold_75, dX9_houseTold_76, dX9_houseTold_77, dX9_houseTold_78, dX9_houseTold_80, dX9_houseTold_81, dX9_houseTold_84, w_flk9_115, w_flk9_121, w_flk9_158, w_flk9_19, w_kd_0, w_rf_0_0, w_rf_0_1, w_rf_0_2, w_rf_0_3, w_rf_0_4, w_rf_0_5, w_rf_0_6, w_rf_0_7, w_rf_0_8, w_rf_0_9, w_rf_0_10, w_kd_4, w_rf_4_0, w_rf_4_1, w_rf_4_2, w_rf_4_3, w_rf_4_4, w_rf_4_5, p_X1_useTold, q_X1_useTold, t1, t2])
    simp only [q_X9_houseTold, o_told, if_neg h1, if_neg h2, if_neg h3, if_neg h4]
    (repeat' (with_reducible (first | refine And.intro ?_ ?_ | intro _))) <;> (try (first | assumption | contradiction | exact Or.inl trivial | exact Or.inl rfl | exact Or.inr rfl | (simp only [inI, inL]; omega) | omega))
    all_goals first
      | trivial
      | ((repeat' (first | refine And.intro ?_ ?_ | split)) <;> (first | rfl | trivial | assumption | contradiction | omega | (exfalso; omega)))
  have t2 : 0 ≤ what → what.tmod 10 = what % 10 := fun h => Int.tmod_eq_emod_of_nonneg h
  (repeat' (with_reducible (first | refine And.intro ?_ ?_ | intro _))) <;> (try (first | assumption | contradiction | exact Or.inl trivial | exact Or.inl rfl | exact Or.inr rfl | (simp only [inI, inL]; omega) | omega))
  all_goals first
    | exact e64 (by omega) (by omega) (by omega) (by omega)
    | exact e67 (by omega) (by omega) (by omega) (by omega)
    | (simp only [q_X9_houseTold, o_told]; ((repeat' (first | refine And.intro ?_ ?_ | split)) <;> (first | rfl | trivial | assumption | contradiction | omega | (exfalso; omega))))
def w_settle (w : wW) : Nat → wW
  | 0 => w
  | n + 1 => w_up (w_up (w_settle w n) 10 n (o_comes (w 5 0) n (w 5 2) (w 5 3) 0)) 10 (10 + n) (o_comes (w 5 0) n (w 5 2) (w 5 3) 1)
theorem w_settle_ne (w : wW) (k i : Nat) (h : k ≠ 10) : ∀ n, w_settle w n k i = w k i
  | 0 => rfl
  | n + 1 => by simp [w_settle, w_up, h, w_settle_ne w k i h n]
theorem w_settle_lo (w : wW) (i : Nat) : ∀ n, i < n → n ≤ 10 → w_settle w n 10 i = o_comes (w 5 0) i (w 5 2) (w 5 3) 0 ∧ w_settle w n 10 (10 + i) = o_comes (w 5 0) i (w 5 2) (w 5 3) 1
  | 0, h, _ => by omega
  | n + 1, h, h2 => by
    by_cases e : i = n
    · subst e
      simp [w_settle, w_up]
    · have ih := w_settle_lo w i n (by omega) (by omega)
      simp only [w_settle, w_up]
      refine ⟨?_, ?_⟩
      · rw [if_neg (by omega), if_neg (by omega)]
        exact ih.1
      · rw [if_neg (by omega), if_neg (by omega)]
        exact ih.2
def p_X1_settle : List wV → wW → Prop := fun av w => match av with
  | [.inr (.inr (some this))] => this = 4 ∧ (0 ≤ w 5 0 ∧ w 5 0 ≤ 25) ∧ (0 ≤ w 5 2 ∧ w 5 2 ≤ 9) ∧ (0 ≤ w 5 3 ∧ w 5 3 ≤ 9)
  | _ => False
theorem h_X1_settle : ∀ av w, p_X1_settle av w → ∃ a r, av = vr a :: r ∧ w_kd a = 100 + 1 := by
  intro av w h
  unfold p_X1_settle at h
  split at h
  · refine ⟨_, _, rfl, ?_⟩
    first | (rw [h.1]; rfl) | (rw [h]; rfl)
  · exact h.elim
def q_X1_settle : List wV → wW → Int → wW → Prop := fun av w r w' => match av with
  | [.inr (.inr (some this))] => w' = w_settle w 10
  | _ => False
set_option maxRecDepth 100000 in
set_option maxHeartbeats 4000000 in
theorem c_X1_settle : w_Ct yX1_settle cX1_settle 2 0 1 24 p_X1_settle q_X1_settle := by
  refine w_met (own := RX1) (fl := w_fl1) (gs := w_gs1) (kl := w_kl1) (ki := w_ki1) (cs := [(58, (0, 4, 1, p_X1_comesBy, q_X1_comesBy))]) (by decide +kernel) rfl ?_ w_flok1 w_gsok1 w_klok1 w_kiok1 ?_ ?_
  · intro av w h
    unfold p_X1_settle at h
    split at h
    · simp [w_pos, w_cat]
    · exact h.elim
  · exact List.forall_mem_cons.mpr ⟨⟨_, _, w_callV (own := RX1) (idx := 58) (ci := 1) c_X1_comesBy rfl rfl h_X1_comesBy (w_m3 25 (by decide +kernel) (by decide +kernel)) (w_m3 26 (by decide +kernel) (by decide +kernel)) (w_m3 27 (by decide +kernel) (by decide +kernel)) (w_m1 3 (by decide +kernel) (by decide +kernel)) (w_m3 28 (by decide +kernel) (by decide +kernel)) ⟨by decide +kernel, by decide +kernel, by decide +kernel⟩, by decide, by decide⟩, fun _ h => absurd h List.not_mem_nil⟩
  intro av w hp
  unfold p_X1_settle at hp
  split at hp
  case h_2 => exact hp.elim
  rename_i this
  intro G hG
  simp only [w_ent, w_pos, w_cat, Nat.reduceEqDiff, ↓reduceIte, List.length_cons, List.length_nil, Nat.reduceAdd, Nat.reduceSub, List.cons_append, List.nil_append, List.replicate_succ, List.replicate_zero]
  obtain ⟨rfl, hp⟩ := hp
  have loop : ∀ n i : Nat, i + n = 10 → G 2 [some (vr 4), some (vi i)] [] (w_settle w i) := by
    intro n
    induction n with
    | zero =>
      intro i h2
      have e : i = 10 := by omega
      subst e
      (apply hG [2] 2000; simp only [w_br_i, w_ite, w_all, w_all0, forall_eq, w_b0, w_b1, ↓reduceIte, w_ent, w_pos, List.replicate_succ, List.replicate_zero, wp_s, wk_s, w_lk_c, w_ld0, w_ldS, w_kp0, w_kp, w_s1, w_s2, w_to, w_if, w_call, w_sw, w_cat, w_cats, w_psh, w_fv, List.contains_cons, List.contains_nil, List.set_cons_zero, List.set_cons_succ, List.length_cons, List.length_nil, List.find?_cons, List.find?_nil, List.take_succ_cons, List.take_zero, List.drop_succ_cons, List.drop_zero, List.reverse_cons, List.reverse_nil, List.nil_append, List.cons_append, Option.map_some, Option.map_none, Nat.reduceAdd, Nat.reduceBEq, Nat.reduceEqDiff, Nat.reduceLT, Nat.reduceLeDiff, Nat.reduceSub, Int.reduceAdd, Int.reduceSub, Int.reduceMul, Int.reduceNeg, Int.reduceToNat, Int.reduceLT, Int.reduceLE, Int.reduceEq, Bool.false_eq_true, Bool.or_false, Bool.false_or, Bool.true_or, Bool.or_true, if_true, if_false, ite_true, ite_false, true_and, and_true, false_and, and_false, true_or, or_true, false_or, or_false, Int.cast_ofNat_Int, Int.toNat_natCast, Int.natCast_add, List.getElem?_cons_zero, List.getElem?_cons_succ, true_implies, forall_const, not_true_eq_false, not_false_eq_true, ne_eq, beq_iff_eq, imp_self, List.length_set, Nat.zero_add, Nat.add_zero, Int.zero_add, Int.add_zero, w1_iconst, w1_istore_n_1, w1_iload_n_1, w1_bipush, w1_if_icmp, w1_aload_n_0, w1_getfield, w1_iaload, w1_invokevirtual, w1_iastore, w1_iadd, w1_iinc, w1_goto, w1_return, dX1_settle_0, dX1_settle_1, dX1_settle_2, dX1_settle_3, dX1_settle_5, dX1_settle_8, dX1_settle_9, dX1_settle_12, dX1_settle_13, dX1_settle_14, dX1_settle_15, dX1_settle_18, dX1_settle_19, dX1_settle_20, dX1_settle_21, dX1_settle_22, dX1_settle_25, dX1_settle_26, dX1_settle_27, dX1_settle_30, dX1_settle_32, dX1_settle_33, dX1_settle_34, dX1_settle_35, dX1_settle_36, dX1_settle_39, dX1_settle_40, dX1_settle_41, dX1_settle_42, dX1_settle_43, dX1_settle_46, dX1_settle_47, dX1_settle_50, dX1_settle_53, w_flk1_27, w_flk1_9, w_kd_4, w_rf_4_0, w_rf_4_1, w_rf_4_2, w_rf_4_3, w_rf_4_4, w_rf_4_5, w_kd_5, w_ln_5, w_kd_10, w_ln_10])
      (repeat' (with_reducible (first | refine And.intro ?_ ?_ | intro _))) <;> (try (first | assumption | contradiction | exact Or.inl trivial | exact Or.inl rfl | exact Or.inr rfl | (simp only [inI, inL]; omega) | omega))
      simp only [q_X1_settle]
    | succ n ih =>
      intro i h2
      have h50 := w_settle_ne w 5 0 (by decide) i
      have h52 := w_settle_ne w 5 2 (by decide) i
      have h53 := w_settle_ne w 5 3 (by decide) i
      have e := ih (i + 1) (by omega)
      simp only [w_settle, Int.natCast_add, Int.cast_ofNat_Int] at e
      have t1 : ((10 : Int) + (i : Int)).toNat = 10 + i := by omega
      have u5 : ∀ j v, w_up (w_settle w i) 10 i v 5 j = w_settle w i 5 j := fun j v => up_k (by decide)
      (apply hG [2] 2000; simp only [w_br_i, w_ite, w_all, w_all0, forall_eq, w_b0, w_b1, ↓reduceIte, w_ent, w_pos, List.replicate_succ, List.replicate_zero, wp_s, wk_s, w_lk_c, w_ld0, w_ldS, w_kp0, w_kp, w_s1, w_s2, w_to, w_if, w_call, w_sw, w_cat, w_cats, w_psh, w_fv, List.contains_cons, List.contains_nil, List.set_cons_zero, List.set_cons_succ, List.length_cons, List.length_nil, List.find?_cons, List.find?_nil, List.take_succ_cons, List.take_zero, List.drop_succ_cons, List.drop_zero, List.reverse_cons, List.reverse_nil, List.nil_append, List.cons_append, Option.map_some, Option.map_none, Nat.reduceAdd, Nat.reduceBEq, Nat.reduceEqDiff, Nat.reduceLT, Nat.reduceLeDiff, Nat.reduceSub, Int.reduceAdd, Int.reduceSub, Int.reduceMul, Int.reduceNeg, Int.reduceToNat, Int.reduceLT, Int.reduceLE, Int.reduceEq, Bool.false_eq_true, Bool.or_false, Bool.false_or, Bool.true_or, Bool.or_true, if_true, if_false, ite_true, ite_false, true_and, and_true, false_and, and_false, true_or, or_true, false_or, or_false, Int.cast_ofNat_Int, Int.toNat_natCast, Int.natCast_add, List.getElem?_cons_zero, List.getElem?_cons_succ, true_implies, forall_const, not_true_eq_false, not_false_eq_true, ne_eq, beq_iff_eq, imp_self, List.length_set, Nat.zero_add, Nat.add_zero, Int.zero_add, Int.add_zero, w1_iconst, w1_istore_n_1, w1_iload_n_1, w1_bipush, w1_if_icmp, w1_aload_n_0, w1_getfield, w1_iaload, w1_invokevirtual, w1_iastore, w1_iadd, w1_iinc, w1_goto, w1_return, dX1_settle_0, dX1_settle_1, dX1_settle_2, dX1_settle_3, dX1_settle_5, dX1_settle_8, dX1_settle_9, dX1_settle_12, dX1_settle_13, dX1_settle_14, dX1_settle_15, dX1_settle_18, dX1_settle_19, dX1_settle_20, dX1_settle_21, dX1_settle_22, dX1_settle_25, dX1_settle_26, dX1_settle_27, dX1_settle_30, dX1_settle_32, dX1_settle_33, dX1_settle_34, dX1_settle_35, dX1_settle_36, dX1_settle_39, dX1_settle_40, dX1_settle_41, dX1_settle_42, dX1_settle_43, dX1_settle_46, dX1_settle_47, dX1_settle_50, dX1_settle_53, w_flk1_27, w_flk1_9, w_kd_4, w_rf_4_0, w_rf_4_1, w_rf_4_2, w_rf_4_3, w_rf_4_4, w_rf_4_5, w_kd_5, w_ln_5, w_kd_10, w_ln_10, p_X1_comesBy, q_X1_comesBy, h50, h52, h53, u5, t1])
      (repeat' (with_reducible (first | refine And.intro ?_ ?_ | intro _))) <;> (try (first | assumption | contradiction | exact Or.inl trivial | exact Or.inl rfl | exact Or.inr rfl | (simp only [inI, inL]; omega) | omega))
  (apply hG [2] 2000; simp only [w_br_i, w_ite, w_all, w_all0, forall_eq, w_b0, w_b1, ↓reduceIte, w_ent, w_pos, List.replicate_succ, List.replicate_zero, wp_s, wk_s, w_lk_c, w_ld0, w_ldS, w_kp0, w_kp, w_s1, w_s2, w_to, w_if, w_call, w_sw, w_cat, w_cats, w_psh, w_fv, List.contains_cons, List.contains_nil, List.set_cons_zero, List.set_cons_succ, List.length_cons, List.length_nil, List.find?_cons, List.find?_nil, List.take_succ_cons, List.take_zero, List.drop_succ_cons, List.drop_zero, List.reverse_cons, List.reverse_nil, List.nil_append, List.cons_append, Option.map_some, Option.map_none, Nat.reduceAdd, Nat.reduceBEq, Nat.reduceEqDiff, Nat.reduceLT, Nat.reduceLeDiff, Nat.reduceSub, Int.reduceAdd, Int.reduceSub, Int.reduceMul, Int.reduceNeg, Int.reduceToNat, Int.reduceLT, Int.reduceLE, Int.reduceEq, Bool.false_eq_true, Bool.or_false, Bool.false_or, Bool.true_or, Bool.or_true, if_true, if_false, ite_true, ite_false, true_and, and_true, false_and, and_false, true_or, or_true, false_or, or_false, Int.cast_ofNat_Int, Int.toNat_natCast, Int.natCast_add, List.getElem?_cons_zero, List.getElem?_cons_succ, true_implies, forall_const, not_true_eq_false, not_false_eq_true, ne_eq, beq_iff_eq, imp_self, List.length_set, Nat.zero_add, Nat.add_zero, Int.zero_add, Int.add_zero, w1_iconst, w1_istore_n_1, w1_iload_n_1, w1_bipush, w1_if_icmp, w1_aload_n_0, w1_getfield, w1_iaload, w1_invokevirtual, w1_iastore, w1_iadd, w1_iinc, w1_goto, w1_return, dX1_settle_0, dX1_settle_1, dX1_settle_2, dX1_settle_3, dX1_settle_5, dX1_settle_8, dX1_settle_9, dX1_settle_12, dX1_settle_13, dX1_settle_14, dX1_settle_15, dX1_settle_18, dX1_settle_19, dX1_settle_20, dX1_settle_21, dX1_settle_22, dX1_settle_25, dX1_settle_26, dX1_settle_27, dX1_settle_30, dX1_settle_32, dX1_settle_33, dX1_settle_34, dX1_settle_35, dX1_settle_36, dX1_settle_39, dX1_settle_40, dX1_settle_41, dX1_settle_42, dX1_settle_43, dX1_settle_46, dX1_settle_47, dX1_settle_50, dX1_settle_53, w_flk1_27, w_flk1_9, w_kd_4, w_rf_4_0, w_rf_4_1, w_rf_4_2, w_rf_4_3, w_rf_4_4, w_rf_4_5])
  exact loop 10 0 rfl

def o_lst (what : Int) : Int := if what = 0 then 1 else 0
def o_mst (what : Int) : Int := if what = 0 then 20 else if what = 1 then 200 else if what = 5 then 5 else 9
theorem o_sv (what : Int) (h : 0 ≤ what ∧ what < 7) : w_sv 157 what.toNat = o_lst what ∧ w_sv 158 what.toNat = o_mst what := by
  have : ∀ n : Nat, n < 7 → w_sv 157 n = o_lst n ∧ w_sv 158 n = o_mst n := by decide +kernel
  have h2 := this what.toNat (by omega)
  rwa [Int.toNat_of_nonneg h.1] at h2
theorem o_lm (what : Int) : (0 ≤ o_lst what ∧ o_lst what ≤ 1) ∧ 5 ≤ o_mst what ∧ o_mst what ≤ 200 := by
  unfold o_lst o_mst
  ((repeat' (first | refine And.intro ?_ ?_ | split)) <;> (first | rfl | trivial | assumption | contradiction | omega | (exfalso; omega)))
def o_change (S12 what v was : Int) : Int := if S12 = 0 then -103 else if (0 ≤ what ∧ what < 7) ∧ o_lst what ≤ v ∧ v ≤ o_mst what then was else -102
def p_X9_change : List wV → wW → Prop := fun av w => match av with
  | [.inr (.inr (some this)), .inl what, .inl v] => this = 0 ∧ inI what ∧ inI v ∧ inI (w 0 12) ∧ (w 0 12 ≠ 0 → (0 ≤ w 5 0 ∧ w 5 0 ≤ 20) ∧ (0 ≤ w 5 2 ∧ w 5 2 ≤ 9) ∧ (0 ≤ w 5 3 ∧ w 5 3 ≤ 9))
  | _ => False
theorem h_X9_change : ∀ av w, p_X9_change av w → ∃ a r, av = vr a :: r ∧ w_kd a = 100 + 9 := by
  intro av w h
  unfold p_X9_change at h
  split at h
  · refine ⟨_, _, rfl, ?_⟩
    first | (rw [h.1]; rfl) | (rw [h]; rfl)
  · exact h.elim
def q_X9_change : List wV → wW → Int → wW → Prop := fun av w r w' => match av with
  | [.inr (.inr (some this)), .inl what, .inl v] => r = o_change (w 0 12) what v (w 5 what.toNat) ∧ w' = if w 0 12 ≠ 0 ∧ (0 ≤ what ∧ what < 7) ∧ o_lst what ≤ v ∧ v ≤ o_mst what then w_up (w_settle (w_up w 5 what.toNat v) 10) 0 15 (w 0 15 + 1) else w
  | _ => False
set_option maxRecDepth 100000 in
set_option maxHeartbeats 4000000 in
theorem c_X9_change : w_Ct yX9_change cX9_change 4 1 2 45 p_X9_change q_X9_change := by
  refine w_met (own := RX9) (fl := w_fl9) (gs := w_gs9) (kl := w_kl9) (ki := w_ki9) (cs := [(171, (0, 1, 0, p_X1_settle, q_X1_settle))]) (by decide +kernel) rfl ?_ w_flok9 w_gsok9 w_klok9 w_kiok9 ?_ ?_
  · intro av w h
    unfold p_X9_change at h
    split at h
    · simp [w_pos, w_cat]
    · exact h.elim
  · exact List.forall_mem_cons.mpr ⟨⟨_, _, w_callV (own := RX9) (idx := 171) (ci := 1) c_X1_settle rfl rfl h_X1_settle (w_m3 72 (by decide +kernel) (by decide +kernel)) (w_m3 22 (by decide +kernel) (by decide +kernel)) (w_m3 23 (by decide +kernel) (by decide +kernel)) (w_m1 3 (by decide +kernel) (by decide +kernel)) (w_m3 24 (by decide +kernel) (by decide +kernel)) ⟨by decide +kernel, by decide +kernel, by decide +kernel⟩, by decide, by decide⟩, fun _ h => absurd h List.not_mem_nil⟩
  intro av w hp
  unfold p_X9_change at hp
  split at hp
  case h_2 => exact hp.elim
  rename_i this what v
  intro G hG
  simp only [w_ent, w_pos, w_cat, Nat.reduceEqDiff, ↓reduceIte, List.length_cons, List.length_nil, Nat.reduceAdd, Nat.reduceSub, List.cons_append, List.nil_append, List.replicate_succ, List.replicate_zero]
  obtain ⟨rfl, hp⟩ := hp
  have hl := o_lm what
  have e41 : w 0 12 ≠ 0 → (0 ≤ what ∧ what < 7) → (o_lst what ≤ v ∧ v ≤ o_mst what) → G 41 [some (vr 0), some (vi what), some (vi v), none] [] w := by
    intro h1 h2 h3
    have h9 := hp.2.2.2 h1
    have u0 := w_settle_ne (w_up w 5 what.toNat v) 0 15 (by decide) 10
    have u1 : w_up w 5 what.toNat v 0 15 = w 0 15 := up_k (by decide)
    have a0 : 0 ≤ w_up w 5 what.toNat v 5 0 ∧ w_up w 5 what.toNat v 5 0 ≤ 20 := by
      unfold o_lst o_mst at h3
      unfold w_up
      split at h3 <;> split <;> omega
    have a2 : 0 ≤ w_up w 5 what.toNat v 5 2 ∧ w_up w 5 what.toNat v 5 2 ≤ 9 := by
      unfold o_lst o_mst at h3
      unfold w_up
      split
      · rw [if_neg (by omega), if_neg (by omega), if_neg (by omega), if_neg (by omega)] at h3
        omega
      · omega
    have a3 : 0 ≤ w_up w 5 what.toNat v 5 3 ∧ w_up w 5 what.toNat v 5 3 ≤ 9 := by
      unfold o_lst o_mst at h3
      unfold w_up
      split
      · rw [if_neg (by omega), if_neg (by omega), if_neg (by omega), if_neg (by omega)] at h3
        omega
      · omega
    (apply hG [] 2000; simp only [w_br_i, w_ite, w_all, w_all0, forall_eq, w_b0, w_b1, ↓reduceIte, w_ent, w_pos, List.replicate_succ, List.replicate_zero, wp_s, wk_s, w_lk_c, w_ld0, w_ldS, w_kp0, w_kp, w_s1, w_s2, w_to, w_if, w_call, w_sw, w_cat, w_cats, w_psh, w_fv, List.contains_cons, List.contains_nil, List.set_cons_zero, List.set_cons_succ, List.length_cons, List.length_nil, List.find?_cons, List.find?_nil, List.take_succ_cons, List.take_zero, List.drop_succ_cons, List.drop_zero, List.reverse_cons, List.reverse_nil, List.nil_append, List.cons_append, Option.map_some, Option.map_none, Nat.reduceAdd, Nat.reduceBEq, Nat.reduceEqDiff, Nat.reduceLT, Nat.reduceLeDiff, Nat.reduceSub, Int.reduceAdd, Int.reduceSub, Int.reduceMul, Int.reduceNeg, Int.reduceToNat, Int.reduceLT, Int.reduceLE, Int.reduceEq, Bool.false_eq_true, Bool.or_false, Bool.false_or, Bool.true_or, Bool.or_true, if_true, if_false, ite_true, ite_false, true_and, and_true, false_and, and_false, true_or, or_true, false_or, or_false, Int.cast_ofNat_Int, Int.toNat_natCast, Int.natCast_add, List.getElem?_cons_zero, List.getElem?_cons_succ, true_implies, forall_const, not_true_eq_false, not_false_eq_true, ne_eq, beq_iff_eq, imp_self, List.length_set, Nat.zero_add, Nat.add_zero, Int.zero_add, Int.add_zero, w1_aload_n_0, w1_getfield, w1_ifCond, w1_bipush, w1_ireturn, w1_iload_n_1, w1_if_icmp, w1_iload_n_2, w1_getstatic, w1_iaload, w1_istore_n_3, w1_iastore, w1_invokevirtual, w1_dup, w1_dup2, w1_iconst, w1_iadd, w1_putfield, w1_putfield2, w1_iload_n_3, dX9_change_0, dX9_change_1, dX9_change_4, dX9_change_7, dX9_change_9, dX9_change_10, dX9_change_11, dX9_change_14, dX9_change_15, dX9_change_17, dX9_change_20, dX9_change_21, dX9_change_24, dX9_change_25, dX9_change_26, dX9_change_29, dX9_change_30, dX9_change_33, dX9_change_34, dX9_change_35, dX9_change_38, dX9_change_40, dX9_change_41, dX9_change_42, dX9_change_45, dX9_change_48, dX9_change_49, dX9_change_50, dX9_change_51, dX9_change_52, dX9_change_55, dX9_change_58, dX9_change_59, dX9_change_60, dX9_change_61, dX9_change_62, dX9_change_65, dX9_change_68, dX9_change_69, dX9_change_70, dX9_change_73, dX9_change_74, dX9_change_75, dX9_change_78, dX9_change_79, w_flk9_115, w_flk9_118, w_flk9_158, w_flk9_19, w_gsk9_165, w_gsk9_168, w_kd_0, w_rf_0_0, w_rf_0_1, w_rf_0_2, w_rf_0_3, w_rf_0_4, w_rf_0_5, w_rf_0_6, w_rf_0_7, w_rf_0_8, w_rf_0_9, w_rf_0_10, w_kd_4, w_rf_4_0, w_rf_4_1, w_rf_4_2, w_rf_4_3, w_rf_4_4, w_rf_4_5, w_kd_5, w_ln_5, p_X1_settle, q_X1_settle, u0, u1])
    (repeat' (with_reducible (first | refine And.intro ?_ ?_ | intro _))) <;> (try (first | assumption | contradiction | exact Or.inl trivial | exact Or.inl rfl | exact Or.inr rfl | (simp only [inI, inL]; omega) | omega))
    all_goals (simp only [q_X9_change, o_change]; rw [if_neg h1, if_pos ⟨h2, h3⟩, if_pos ⟨h1, h2, h3⟩]; simp)
  (apply hG [38, 41] 2000; simp only [w_br_i, w_ite, w_all, w_all0, forall_eq, w_b0, w_b1, ↓reduceIte, w_ent, w_pos, List.replicate_succ, List.replicate_zero, wp_s, wk_s, w_lk_c, w_ld0, w_ldS, w_kp0, w_kp, w_s1, w_s2, w_to, w_if, w_call, w_sw, w_cat, w_cats, w_psh, w_fv, List.contains_cons, List.contains_nil, List.set_cons_zero, List.set_cons_succ, List.length_cons, List.length_nil, List.find?_cons, List.find?_nil, List.take_succ_cons, List.take_zero, List.drop_succ_cons, List.drop_zero, List.reverse_cons, List.reverse_nil, List.nil_append, List.cons_append, Option.map_some, Option.map_none, Nat.reduceAdd, Nat.reduceBEq, Nat.reduceEqDiff, Nat.reduceLT, Nat.reduceLeDiff, Nat.reduceSub, Int.reduceAdd, Int.reduceSub, Int.reduceMul, Int.reduceNeg, Int.reduceToNat, Int.reduceLT, Int.reduceLE, Int.reduceEq, Bool.false_eq_true, Bool.or_false, Bool.false_or, Bool.true_or, Bool.or_true, if_true, if_false, ite_true, ite_false, true_and, and_true, false_and, and_false, true_or, or_true, false_or, or_false, Int.cast_ofNat_Int, Int.toNat_natCast, Int.natCast_add, List.getElem?_cons_zero, List.getElem?_cons_succ, true_implies, forall_const, not_true_eq_false, not_false_eq_true, ne_eq, beq_iff_eq, imp_self, List.length_set, Nat.zero_add, Nat.add_zero, Int.zero_add, Int.add_zero, w1_aload_n_0, w1_getfield, w1_ifCond, w1_bipush, w1_ireturn, w1_iload_n_1, w1_if_icmp, w1_iload_n_2, w1_getstatic, w1_iaload, w1_istore_n_3, w1_iastore, w1_invokevirtual, w1_dup, w1_dup2, w1_iconst, w1_iadd, w1_putfield, w1_putfield2, w1_iload_n_3, dX9_change_0, dX9_change_1, dX9_change_4, dX9_change_7, dX9_change_9, dX9_change_10, dX9_change_11, dX9_change_14, dX9_change_15, dX9_change_17, dX9_change_20, dX9_change_21, dX9_change_24, dX9_change_25, dX9_change_26, dX9_change_29, dX9_change_30, dX9_change_33, dX9_change_34, dX9_change_35, dX9_change_38, dX9_change_40, dX9_change_41, dX9_change_42, dX9_change_45, dX9_change_48, dX9_change_49, dX9_change_50, dX9_change_51, dX9_change_52, dX9_change_55, dX9_change_58, dX9_change_59, dX9_change_60, dX9_change_61, dX9_change_62, dX9_change_65, dX9_change_68, dX9_change_69, dX9_change_70, dX9_change_73, dX9_change_74, dX9_change_75, dX9_change_78, dX9_change_79, w_flk9_115, w_flk9_118, w_flk9_158, w_flk9_19, w_gsk9_165, w_gsk9_168, w_kd_0, w_rf_0_0, w_rf_0_1, w_rf_0_2, w_rf_0_3, w_rf_0_4, w_rf_0_5, w_rf_0_6, w_rf_0_7, w_rf_0_8, w_rf_0_9, w_rf_0_10, w_kd_157, w_ln_157, w_kd_158, w_ln_158])
  have e38 : w 0 12 ≠ 0 → ¬ ((0 ≤ what ∧ what < 7) ∧ o_lst what ≤ v ∧ v ≤ o_mst what) → G 38 [some (vr 0), some (vi what), some (vi v), none] [] w := by
    intro h1 h2
    (apply hG [] 2000; simp only [w_br_i, w_ite, w_all, w_all0, forall_eq, w_b0, w_b1, ↓reduceIte, w_ent, w_pos, List.replicate_succ, List.replicate_zero, wp_s, wk_s, w_lk_c, w_ld0, w_ldS, w_kp0, w_kp, w_s1, w_s2, w_to, w_if, w_call, w_sw, w_cat, w_cats, w_psh, w_fv, List.contains_cons, List.contains_nil, List.set_cons_zero, List.set_cons_succ, List.length_cons, List.length_nil, List.find?_cons, List.find?_nil, List.take_succ_cons, List.take_zero, List.drop_succ_cons, List.drop_zero, List.reverse_cons, List.reverse_nil, List.nil_append, List.cons_append, Option.map_some, Option.map_none, Nat.reduceAdd, Nat.reduceBEq, Nat.reduceEqDiff, Nat.reduceLT, Nat.reduceLeDiff, Nat.reduceSub, Int.reduceAdd, Int.reduceSub, Int.reduceMul, Int.reduceNeg, Int.reduceToNat, Int.reduceLT, Int.reduceLE, Int.reduceEq, Bool.false_eq_true, Bool.or_false, Bool.false_or, Bool.true_or, Bool.or_true, if_true, if_false, ite_true, ite_false, true_and, and_true, false_and, and_false, true_or, or_true, false_or, or_false, Int.cast_ofNat_Int, Int.toNat_natCast, Int.natCast_add, List.getElem?_cons_zero, List.getElem?_cons_succ, true_implies, forall_const, not_true_eq_false, not_false_eq_true, ne_eq, beq_iff_eq, imp_self, List.length_set, Nat.zero_add, Nat.add_zero, Int.zero_add, Int.add_zero, w1_aload_n_0, w1_getfield, w1_ifCond, w1_bipush, w1_ireturn, w1_iload_n_1, w1_if_icmp, w1_iload_n_2, w1_getstatic, w1_iaload, w1_istore_n_3, w1_iastore, w1_invokevirtual, w1_dup, w1_dup2, w1_iconst, w1_iadd, w1_putfield, w1_putfield2, w1_iload_n_3, dX9_change_0, dX9_change_1, dX9_change_4, dX9_change_7, dX9_change_9, dX9_change_10, dX9_change_11, dX9_change_14, dX9_change_15, dX9_change_17, dX9_change_20, dX9_change_21, dX9_change_24, dX9_change_25, dX9_change_26, dX9_change_29, dX9_change_30, dX9_change_33, dX9_change_34, dX9_change_35, dX9_change_38, dX9_change_40, dX9_change_41, dX9_change_42, dX9_change_45, dX9_change_48, dX9_change_49, dX9_change_50, dX9_change_51, dX9_change_52, dX9_change_55, dX9_change_58, dX9_change_59, dX9_change_60, dX9_change_61, dX9_change_62, dX9_change_65, dX9_change_68, dX9_change_69, dX9_change_70, dX9_change_73, dX9_change_74, dX9_change_75, dX9_change_78, dX9_change_79, w_flk9_115, w_flk9_118, w_flk9_158, w_flk9_19, w_gsk9_165, w_gsk9_168])
    simp only [q_X9_change, o_change]
    rw [if_neg h1, if_neg h2, if_neg (fun q => h2 q.2)]
    simp
  have e0 : w 0 12 = 0 → q_X9_change [vr 0, vi what, vi v] w (-103) w := by
    intro h1
    simp [q_X9_change, o_change, h1]
  by_cases h7 : 0 ≤ what ∧ what < 7
  · rw [(o_sv what h7).1, (o_sv what h7).2]
    (repeat' (with_reducible (first | refine And.intro ?_ ?_ | intro _))) <;> (try (first | assumption | contradiction | exact Or.inl trivial | exact Or.inl rfl | exact Or.inr rfl | (simp only [inI, inL]; omega) | omega))
    all_goals first
      | exact e38 (by omega) (by omega)
      | exact e41 (by omega) h7 (by omega)
      | exact e0 (by omega)
  · (repeat' (with_reducible (first | refine And.intro ?_ ?_ | intro _))) <;> (try (first | assumption | contradiction | exact Or.inl trivial | exact Or.inl rfl | exact Or.inr rfl | (simp only [inI, inL]; omega) | omega))
    all_goals first
      | exact e38 (by omega) (by omega)
      | exact e0 (by omega)

def p_X9_rain : List wV → wW → Prop := fun av w => match av with
  | [.inr (.inr (some this)), .inl y, .inl m] => this = 0 ∧ inI y ∧ inI m ∧ 0 ≤ w 11 1 ∧ w 11 1 ≤ 8
  | _ => False
theorem h_X9_rain : ∀ av w, p_X9_rain av w → ∃ a r, av = vr a :: r ∧ w_kd a = 100 + 9 := by
  intro av w h
  unfold p_X9_rain at h
  split at h
  · refine ⟨_, _, rfl, ?_⟩
    first | (rw [h.1]; rfl) | (rw [h]; rfl)
  · exact h.elim
def q_X9_rain : List wV → wW → Int → wW → Prop := fun av w r w' => match av with
  | [.inr (.inr (some this)), .inl y, .inl m] => (r = if (0 ≤ y ∧ y < w 11 1) ∧ 0 ≤ m ∧ m < 12 then w (13 + y.toNat) m.toNat else -101) ∧ w' = w
  | _ => False
set_option maxRecDepth 100000 in
set_option maxHeartbeats 4000000 in
theorem c_X9_rain : w_Ct yX9_rain cX9_rain 3 1 1 21 p_X9_rain q_X9_rain := by
  refine w_met (own := RX9) (fl := w_fl9) (gs := w_gs9) (kl := w_kl9) (ki := w_ki9) (cs := [(174, (0, 2, 3, p_X9_isNoYear, q_X9_isNoYear)), (177, (1, 1, 3, p_X9_isNoMonth, q_X9_isNoMonth))]) (by decide +kernel) rfl ?_ w_flok9 w_gsok9 w_klok9 w_kiok9 ?_ ?_
  · intro av w h
    unfold p_X9_rain at h
    split at h
    · simp [w_pos, w_cat]
    · exact h.elim
  · exact List.forall_mem_cons.mpr ⟨⟨_, _, w_callV (own := RX9) (idx := 174) (ci := 9) c_X9_isNoYear rfl rfl h_X9_isNoYear (w_m3 77 (by decide +kernel) (by decide +kernel)) (w_m3 79 (by decide +kernel) (by decide +kernel)) (w_m0 11 (by decide +kernel) (by decide +kernel)) (w_m1 1 (by decide +kernel) (by decide +kernel)) (w_m3 80 (by decide +kernel) (by decide +kernel)) ⟨by decide +kernel, by decide +kernel, by decide +kernel⟩, by decide, by decide⟩, List.forall_mem_cons.mpr ⟨⟨_, _, w_callS (own := RX9) (idx := 177) c_X9_isNoMonth (w_m3 81 (by decide +kernel) (by decide +kernel)) (w_m3 82 (by decide +kernel) (by decide +kernel)) (w_m1 1 (by decide +kernel) (by decide +kernel)) (w_m3 83 (by decide +kernel) (by decide +kernel)) ⟨by decide +kernel, by decide +kernel, by decide +kernel⟩, by decide, by decide⟩, fun _ h => absurd h List.not_mem_nil⟩⟩
  intro av w hp
  unfold p_X9_rain at hp
  split at hp
  case h_2 => exact hp.elim
  rename_i this y m
  intro G hG
  simp only [w_ent, w_pos, w_cat, Nat.reduceEqDiff, ↓reduceIte, List.length_cons, List.length_nil, Nat.reduceAdd, Nat.reduceSub, List.cons_append, List.nil_append, List.replicate_succ, List.replicate_zero]
  obtain ⟨rfl, hp⟩ := hp
  (apply hG [18] 2000; simp only [w_br_i, w_ite, w_all, w_all0, forall_eq, w_b0, w_b1, ↓reduceIte, w_ent, w_pos, List.replicate_succ, List.replicate_zero, wp_s, wk_s, w_lk_c, w_ld0, w_ldS, w_kp0, w_kp, w_s1, w_s2, w_to, w_if, w_call, w_sw, w_cat, w_cats, w_psh, w_fv, List.contains_cons, List.contains_nil, List.set_cons_zero, List.set_cons_succ, List.length_cons, List.length_nil, List.find?_cons, List.find?_nil, List.take_succ_cons, List.take_zero, List.drop_succ_cons, List.drop_zero, List.reverse_cons, List.reverse_nil, List.nil_append, List.cons_append, Option.map_some, Option.map_none, Nat.reduceAdd, Nat.reduceBEq, Nat.reduceEqDiff, Nat.reduceLT, Nat.reduceLeDiff, Nat.reduceSub, Int.reduceAdd, Int.reduceSub, Int.reduceMul, Int.reduceNeg, Int.reduceToNat, Int.reduceLT, Int.reduceLE, Int.reduceEq, Bool.false_eq_true, Bool.or_false, Bool.false_or, Bool.true_or, Bool.or_true, if_true, if_false, ite_true, ite_false, true_and, and_true, false_and, and_false, true_or, or_true, false_or, or_false, Int.cast_ofNat_Int, Int.toNat_natCast, Int.natCast_add, List.getElem?_cons_zero, List.getElem?_cons_succ, true_implies, forall_const, not_true_eq_false, not_false_eq_true, ne_eq, beq_iff_eq, imp_self, List.length_set, Nat.zero_add, Nat.add_zero, Int.zero_add, Int.add_zero, w1_aload_n_0, w1_iload_n_1, w1_invokevirtual, w1_ifCond, w1_iload_n_2, w1_invokestatic, w1_bipush, w1_ireturn, w1_getfield, w1_aaload, w1_iaload, dX9_rain_0, dX9_rain_1, dX9_rain_2, dX9_rain_5, dX9_rain_8, dX9_rain_9, dX9_rain_12, dX9_rain_15, dX9_rain_17, dX9_rain_18, dX9_rain_19, dX9_rain_22, dX9_rain_25, dX9_rain_26, dX9_rain_27, dX9_rain_28, dX9_rain_29, w_flk9_130, w_flk9_26, w_kd_0, w_rf_0_0, w_rf_0_1, w_rf_0_2, w_rf_0_3, w_rf_0_4, w_rf_0_5, w_rf_0_6, w_rf_0_7, w_rf_0_8, w_rf_0_9, w_rf_0_10, w_kd_11, w_rf_11_0, p_X9_isNoYear, q_X9_isNoYear, p_X9_isNoMonth, q_X9_isNoMonth])
  have e18 : (0 ≤ y ∧ y < w 11 1) → (0 ≤ m ∧ m < 12) → G 18 [some (vr 0), some (vi y), some (vi m)] [] w := by
    intro h1 h2
    have k := w_kdy (y := y.toNat) (by omega)
    (apply hG [] 2000; simp only [w_br_i, w_ite, w_all, w_all0, forall_eq, w_b0, w_b1, ↓reduceIte, w_ent, w_pos, List.replicate_succ, List.replicate_zero, wp_s, wk_s, w_lk_c, w_ld0, w_ldS, w_kp0, w_kp, w_s1, w_s2, w_to, w_if, w_call, w_sw, w_cat, w_cats, w_psh, w_fv, List.contains_cons, List.contains_nil, List.set_cons_zero, List.set_cons_succ, List.length_cons, List.length_nil, List.find?_cons, List.find?_nil, List.take_succ_cons, List.take_zero, List.drop_succ_cons, List.drop_zero, List.reverse_cons, List.reverse_nil, List.nil_append, List.cons_append, Option.map_some, Option.map_none, Nat.reduceAdd, Nat.reduceBEq, Nat.reduceEqDiff, Nat.reduceLT, Nat.reduceLeDiff, Nat.reduceSub, Int.reduceAdd, Int.reduceSub, Int.reduceMul, Int.reduceNeg, Int.reduceToNat, Int.reduceLT, Int.reduceLE, Int.reduceEq, Bool.false_eq_true, Bool.or_false, Bool.false_or, Bool.true_or, Bool.or_true, if_true, if_false, ite_true, ite_false, true_and, and_true, false_and, and_false, true_or, or_true, false_or, or_false, Int.cast_ofNat_Int, Int.toNat_natCast, Int.natCast_add, List.getElem?_cons_zero, List.getElem?_cons_succ, true_implies, forall_const, not_true_eq_false, not_false_eq_true, ne_eq, beq_iff_eq, imp_self, List.length_set, Nat.zero_add, Nat.add_zero, Int.zero_add, Int.add_zero, w1_aload_n_0, w1_iload_n_1, w1_invokevirtual, w1_ifCond, w1_iload_n_2, w1_invokestatic, w1_bipush, w1_ireturn, w1_getfield, w1_aaload, w1_iaload, dX9_rain_0, dX9_rain_1, dX9_rain_2, dX9_rain_5, dX9_rain_8, dX9_rain_9, dX9_rain_12, dX9_rain_15, dX9_rain_17, dX9_rain_18, dX9_rain_19, dX9_rain_22, dX9_rain_25, dX9_rain_26, dX9_rain_27, dX9_rain_28, dX9_rain_29, w_flk9_130, w_flk9_26, w_kd_0, w_rf_0_0, w_rf_0_1, w_rf_0_2, w_rf_0_3, w_rf_0_4, w_rf_0_5, w_rf_0_6, w_rf_0_7, w_rf_0_8, w_rf_0_9, w_rf_0_10, w_kd_11, w_rf_11_0, w_kd_12, w_ln_12, k.1.1, k.1.2])
    (repeat' (with_reducible (first | refine And.intro ?_ ?_ | intro _))) <;> (try (first | assumption | contradiction | exact Or.inl trivial | exact Or.inl rfl | exact Or.inr rfl | (simp only [inI, inL]; omega) | omega))
    simp only [q_X9_rain]
    rw [if_pos ⟨h1, h2⟩]
    simp
  (repeat' (with_reducible (first | refine And.intro ?_ ?_ | intro _))) <;> (try (first | assumption | contradiction | exact Or.inl trivial | exact Or.inl rfl | exact Or.inr rfl | (simp only [inI, inL]; omega) | omega))
  all_goals first
    | exact e18 (by omega) (by omega)
    | (simp only [q_X9_rain]; rw [if_neg (by omega)]; simp)
def p_X9_read : List wV → wW → Prop := fun av w => match av with
  | [.inr (.inr (some this)), .inl m, .inl v] => this = 0 ∧ inI m ∧ inI v
  | _ => False
theorem h_X9_read : ∀ av w, p_X9_read av w → ∃ a r, av = vr a :: r ∧ w_kd a = 100 + 9 := by
  intro av w h
  unfold p_X9_read at h
  split at h
  · refine ⟨_, _, rfl, ?_⟩
    first | (rw [h.1]; rfl) | (rw [h]; rfl)
  · exact h.elim
def q_X9_read : List wV → wW → Int → wW → Prop := fun av w r w' => match av with
  | [.inr (.inr (some this)), .inl m, .inl v] => (r = if m < 0 ∨ 12 ≤ m then -101 else if v < -1 ∨ 200 < v then -102 else w 34 m.toNat) ∧ w' = if (0 ≤ m ∧ m < 12) ∧ -1 ≤ v ∧ v ≤ 200 then w_up w 34 m.toNat v else w
  | _ => False
set_option maxRecDepth 100000 in
set_option maxHeartbeats 4000000 in
theorem c_X9_read : w_Ct yX9_read cX9_read 4 1 1 20 p_X9_read q_X9_read := by
  refine w_met (own := RX9) (fl := w_fl9) (gs := w_gs9) (kl := w_kl9) (ki := w_ki9) (cs := [(177, (1, 1, 3, p_X9_isNoMonth, q_X9_isNoMonth))]) (by decide +kernel) rfl ?_ w_flok9 w_gsok9 w_klok9 w_kiok9 ?_ ?_
  · intro av w h
    unfold p_X9_read at h
    split at h
    · simp [w_pos, w_cat]
    · exact h.elim
  · exact List.forall_mem_cons.mpr ⟨⟨_, _, w_callS (own := RX9) (idx := 177) c_X9_isNoMonth (w_m3 81 (by decide +kernel) (by decide +kernel)) (w_m3 82 (by decide +kernel) (by decide +kernel)) (w_m1 1 (by decide +kernel) (by decide +kernel)) (w_m3 83 (by decide +kernel) (by decide +kernel)) ⟨by decide +kernel, by decide +kernel, by decide +kernel⟩, by decide, by decide⟩, fun _ h => absurd h List.not_mem_nil⟩
  intro av w hp
  unfold p_X9_read at hp
  split at hp
  case h_2 => exact hp.elim
  rename_i this m v
  intro G hG
  simp only [w_ent, w_pos, w_cat, Nat.reduceEqDiff, ↓reduceIte, List.length_cons, List.length_nil, Nat.reduceAdd, Nat.reduceSub, List.cons_append, List.nil_append, List.replicate_succ, List.replicate_zero]
  obtain ⟨rfl, hp⟩ := hp
  (apply hG [] 2000; simp only [w_br_i, w_ite, w_all, w_all0, forall_eq, w_b0, w_b1, ↓reduceIte, w_ent, w_pos, List.replicate_succ, List.replicate_zero, wp_s, wk_s, w_lk_c, w_ld0, w_ldS, w_kp0, w_kp, w_s1, w_s2, w_to, w_if, w_call, w_sw, w_cat, w_cats, w_psh, w_fv, List.contains_cons, List.contains_nil, List.set_cons_zero, List.set_cons_succ, List.length_cons, List.length_nil, List.find?_cons, List.find?_nil, List.take_succ_cons, List.take_zero, List.drop_succ_cons, List.drop_zero, List.reverse_cons, List.reverse_nil, List.nil_append, List.cons_append, Option.map_some, Option.map_none, Nat.reduceAdd, Nat.reduceBEq, Nat.reduceEqDiff, Nat.reduceLT, Nat.reduceLeDiff, Nat.reduceSub, Int.reduceAdd, Int.reduceSub, Int.reduceMul, Int.reduceNeg, Int.reduceToNat, Int.reduceLT, Int.reduceLE, Int.reduceEq, Bool.false_eq_true, Bool.or_false, Bool.false_or, Bool.true_or, Bool.or_true, if_true, if_false, ite_true, ite_false, true_and, and_true, false_and, and_false, true_or, or_true, false_or, or_false, Int.cast_ofNat_Int, Int.toNat_natCast, Int.natCast_add, List.getElem?_cons_zero, List.getElem?_cons_succ, true_implies, forall_const, not_true_eq_false, not_false_eq_true, ne_eq, beq_iff_eq, imp_self, List.length_set, Nat.zero_add, Nat.add_zero, Int.zero_add, Int.add_zero, w1_iload_n_1, w1_invokestatic, w1_ifCond, w1_bipush, w1_ireturn, w1_iload_n_2, w1_iconst, w1_if_icmp, w1_sipush, w1_aload_n_0, w1_getfield, w1_iaload, w1_istore_n_3, w1_iastore, w1_iload_n_3, dX9_read_0, dX9_read_1, dX9_read_4, dX9_read_7, dX9_read_9, dX9_read_10, dX9_read_11, dX9_read_12, dX9_read_15, dX9_read_16, dX9_read_19, dX9_read_22, dX9_read_24, dX9_read_25, dX9_read_26, dX9_read_29, dX9_read_30, dX9_read_31, dX9_read_32, dX9_read_33, dX9_read_36, dX9_read_37, dX9_read_38, dX9_read_39, dX9_read_40, w_flk9_36, w_kd_0, w_rf_0_0, w_rf_0_1, w_rf_0_2, w_rf_0_3, w_rf_0_4, w_rf_0_5, w_rf_0_6, w_rf_0_7, w_rf_0_8, w_rf_0_9, w_rf_0_10, w_kd_34, w_ln_34, p_X9_isNoMonth, q_X9_isNoMonth]); (repeat' (with_reducible (first | refine And.intro ?_ ?_ | intro _))) <;> (first | assumption | contradiction | exact Or.inl trivial | exact Or.inl rfl | exact Or.inr rfl | (simp only [inI, inL]; omega) | omega | (simp only [q_X9_read]; ((repeat' (first | refine And.intro ?_ ?_ | split)) <;> (first | rfl | trivial | assumption | contradiction | omega | (exfalso; omega)))))
def o_as (rc rule k kind : Int) : Int := if rule < 0 ∨ rc ≤ rule then -101 else if k < 0 ∨ 5 < k then -102 else if k = 0 ∨ k = kind ∨ (k = 2 ∧ 2 ≤ kind) then rule else -1
def p_X9_as : List wV → wW → Prop := fun av w => match av with
  | [.inr (.inr (some this)), .inl i, .inl k] => this = 0 ∧ inI i ∧ inI k ∧ (0 ≤ w 0 11 ∧ w 0 11 ≤ 8) ∧ ∀ j, j < 8 → inI (w (36 + j) 1)
  | _ => False
theorem h_X9_as : ∀ av w, p_X9_as av w → ∃ a r, av = vr a :: r ∧ w_kd a = 100 + 9 := by
  intro av w h
  unfold p_X9_as at h
  split at h
  · refine ⟨_, _, rfl, ?_⟩
    first | (rw [h.1]; rfl) | (rw [h]; rfl)
  · exact h.elim
def q_X9_as : List wV → wW → Int → wW → Prop := fun av w r w' => match av with
  | [.inr (.inr (some this)), .inl i, .inl k] => r = o_as (w 0 11) i k (w (36 + i.toNat) 1) ∧ w' = w
  | _ => False
set_option maxRecDepth 100000 in
set_option maxHeartbeats 4000000 in
theorem c_X9_as : w_Ct yX9_as cX9_as 3 1 2 41 p_X9_as q_X9_as := by
  refine w_met (own := RX9) (fl := w_fl9) (gs := w_gs9) (kl := w_kl9) (ki := w_ki9) (cs := [(152, (0, 2, 3, p_X9_isNoRule, q_X9_isNoRule)), (155, (0, 2, 3, p_X4_isA, q_X4_isA))]) (by decide +kernel) rfl ?_ w_flok9 w_gsok9 w_klok9 w_kiok9 ?_ ?_
  · intro av w h
    unfold p_X9_as at h
    split at h
    · simp [w_pos, w_cat]
    · exact h.elim
  · exact List.forall_mem_cons.mpr ⟨⟨_, _, w_callV (own := RX9) (idx := 152) (ci := 9) c_X9_isNoRule rfl rfl h_X9_isNoRule (w_m3 46 (by decide +kernel) (by decide +kernel)) (w_m3 48 (by decide +kernel) (by decide +kernel)) (w_m0 10 (by decide +kernel) (by decide +kernel)) (w_m1 1 (by decide +kernel) (by decide +kernel)) (w_m3 49 (by decide +kernel) (by decide +kernel)) ⟨by decide +kernel, by decide +kernel, by decide +kernel⟩, by decide, by decide⟩, List.forall_mem_cons.mpr ⟨⟨_, _, w_callV (own := RX9) (idx := 155) (ci := 4) c_X4_isA rfl rfl h_X4_isA (w_m3 50 (by decide +kernel) (by decide +kernel)) (w_m3 51 (by decide +kernel) (by decide +kernel)) (w_m3 52 (by decide +kernel) (by decide +kernel)) (w_m1 6 (by decide +kernel) (by decide +kernel)) (w_m3 53 (by decide +kernel) (by decide +kernel)) ⟨by decide +kernel, by decide +kernel, by decide +kernel⟩, by decide, by decide⟩, fun _ h => absurd h List.not_mem_nil⟩⟩
  intro av w hp
  unfold p_X9_as at hp
  split at hp
  case h_2 => exact hp.elim
  rename_i this i k
  intro G hG
  simp only [w_ent, w_pos, w_cat, Nat.reduceEqDiff, ↓reduceIte, List.length_cons, List.length_nil, Nat.reduceAdd, Nat.reduceSub, List.cons_append, List.nil_append, List.replicate_succ, List.replicate_zero]
  obtain ⟨rfl, h1, h2, h3, h4⟩ := hp
  (apply hG [23] 2000; simp only [w_br_i, w_ite, w_all, w_all0, forall_eq, w_b0, w_b1, ↓reduceIte, w_ent, w_pos, List.replicate_succ, List.replicate_zero, wp_s, wk_s, w_lk_c, w_ld0, w_ldS, w_kp0, w_kp, w_s1, w_s2, w_to, w_if, w_call, w_sw, w_cat, w_cats, w_psh, w_fv, List.contains_cons, List.contains_nil, List.set_cons_zero, List.set_cons_succ, List.length_cons, List.length_nil, List.find?_cons, List.find?_nil, List.take_succ_cons, List.take_zero, List.drop_succ_cons, List.drop_zero, List.reverse_cons, List.reverse_nil, List.nil_append, List.cons_append, Option.map_some, Option.map_none, Nat.reduceAdd, Nat.reduceBEq, Nat.reduceEqDiff, Nat.reduceLT, Nat.reduceLeDiff, Nat.reduceSub, Int.reduceAdd, Int.reduceSub, Int.reduceMul, Int.reduceNeg, Int.reduceToNat, Int.reduceLT, Int.reduceLE, Int.reduceEq, Bool.false_eq_true, Bool.or_false, Bool.false_or, Bool.true_or, Bool.or_true, if_true, if_false, ite_true, ite_false, true_and, and_true, false_and, and_false, true_or, or_true, false_or, or_false, Int.cast_ofNat_Int, Int.toNat_natCast, Int.natCast_add, List.getElem?_cons_zero, List.getElem?_cons_succ, true_implies, forall_const, not_true_eq_false, not_false_eq_true, ne_eq, beq_iff_eq, imp_self, List.length_set, Nat.zero_add, Nat.add_zero, Int.zero_add, Int.add_zero, w1_aload_n_0, w1_iload_n_1, w1_invokevirtual, w1_ifCond, w1_bipush, w1_ireturn, w1_iload_n_2, w1_iconst, w1_if_icmp, w1_getfield, w1_aaload, w1_goto, dX9_as_0, dX9_as_1, dX9_as_2, dX9_as_5, dX9_as_8, dX9_as_10, dX9_as_11, dX9_as_12, dX9_as_15, dX9_as_16, dX9_as_17, dX9_as_20, dX9_as_22, dX9_as_23, dX9_as_24, dX9_as_27, dX9_as_28, dX9_as_29, dX9_as_30, dX9_as_33, dX9_as_36, dX9_as_37, dX9_as_40, dX9_as_41, w_flk9_32, w_kd_0, w_rf_0_0, w_rf_0_1, w_rf_0_2, w_rf_0_3, w_rf_0_4, w_rf_0_5, w_rf_0_6, w_rf_0_7, w_rf_0_8, w_rf_0_9, w_rf_0_10, p_X9_isNoRule, q_X9_isNoRule])
  have e23 : (0 ≤ i ∧ i < w 0 11) → (0 ≤ k ∧ k ≤ 5) → G 23 [some (vr 0), some (vi i), some (vi k)] [] w := by
    intro h5 h6
    have kr := w_kdr (a := 36 + i.toNat) (by omega)
    have hr : 36 ≤ 36 + i.toNat ∧ 36 + i.toNat < 46 := by omega
    have h7 := h4 i.toNat (by omega)
    (apply hG [] 2000; simp only [w_br_i, w_ite, w_all, w_all0, forall_eq, w_b0, w_b1, ↓reduceIte, w_ent, w_pos, List.replicate_succ, List.replicate_zero, wp_s, wk_s, w_lk_c, w_ld0, w_ldS, w_kp0, w_kp, w_s1, w_s2, w_to, w_if, w_call, w_sw, w_cat, w_cats, w_psh, w_fv, List.contains_cons, List.contains_nil, List.set_cons_zero, List.set_cons_succ, List.length_cons, List.length_nil, List.find?_cons, List.find?_nil, List.take_succ_cons, List.take_zero, List.drop_succ_cons, List.drop_zero, List.reverse_cons, List.reverse_nil, List.nil_append, List.cons_append, Option.map_some, Option.map_none, Nat.reduceAdd, Nat.reduceBEq, Nat.reduceEqDiff, Nat.reduceLT, Nat.reduceLeDiff, Nat.reduceSub, Int.reduceAdd, Int.reduceSub, Int.reduceMul, Int.reduceNeg, Int.reduceToNat, Int.reduceLT, Int.reduceLE, Int.reduceEq, Bool.false_eq_true, Bool.or_false, Bool.false_or, Bool.true_or, Bool.or_true, if_true, if_false, ite_true, ite_false, true_and, and_true, false_and, and_false, true_or, or_true, false_or, or_false, Int.cast_ofNat_Int, Int.toNat_natCast, Int.natCast_add, List.getElem?_cons_zero, List.getElem?_cons_succ, true_implies, forall_const, not_true_eq_false, not_false_eq_true, ne_eq, beq_iff_eq, imp_self, List.length_set, Nat.zero_add, Nat.add_zero, Int.zero_add, Int.add_zero, w1_aload_n_0, w1_iload_n_1, w1_invokevirtual, w1_ifCond, w1_bipush, w1_ireturn, w1_iload_n_2, w1_iconst, w1_if_icmp, w1_getfield, w1_aaload, w1_goto, dX9_as_0, dX9_as_1, dX9_as_2, dX9_as_5, dX9_as_8, dX9_as_10, dX9_as_11, dX9_as_12, dX9_as_15, dX9_as_16, dX9_as_17, dX9_as_20, dX9_as_22, dX9_as_23, dX9_as_24, dX9_as_27, dX9_as_28, dX9_as_29, dX9_as_30, dX9_as_33, dX9_as_36, dX9_as_37, dX9_as_40, dX9_as_41, w_flk9_32, w_kd_0, w_rf_0_0, w_rf_0_1, w_rf_0_2, w_rf_0_3, w_rf_0_4, w_rf_0_5, w_rf_0_6, w_rf_0_7, w_rf_0_8, w_rf_0_9, w_rf_0_10, w_kd_35, w_ln_35, p_X4_isA, q_X4_isA, hr])
    (repeat' (with_reducible (first | refine And.intro ?_ ?_ | intro _))) <;> (try (first | assumption | contradiction | exact Or.inl trivial | exact Or.inl rfl | exact Or.inr rfl | (simp only [inI, inL]; omega) | omega))
    all_goals (simp only [q_X9_as, o_as]; rw [if_neg (by omega), if_neg (by omega)]; ((repeat' (first | refine And.intro ?_ ?_ | split)) <;> (first | rfl | trivial | assumption | contradiction | omega | (exfalso; omega))))
  (repeat' (with_reducible (first | refine And.intro ?_ ?_ | intro _))) <;> (try (first | assumption | contradiction | exact Or.inl trivial | exact Or.inl rfl | exact Or.inr rfl | (simp only [inI, inL]; omega) | omega))
  all_goals first
    | exact e23 (by omega) (by omega)
    | (simp only [q_X9_as, o_as]; ((repeat' (first | refine And.intro ?_ ?_ | split)) <;> (first | rfl | trivial | assumption | contradiction | omega | (exfalso; omega))))
def o_rule (k n rc : Int) : Int := if k < 0 ∨ 4 < k then -102 else if n < 0 ∨ (if k = 1 ∨ k = 4 then 200 else 0) < n then -102 else if 8 ≤ rc then -104 else rc
def p_X9_rule : List wV → wW → Prop := fun av w => match av with
  | [.inr (.inr (some this)), .inl k, .inl n] => this = 0 ∧ inI k ∧ inI n ∧ (0 ≤ w 0 11 ∧ w 0 11 ≤ 8)
  | _ => False
theorem h_X9_rule : ∀ av w, p_X9_rule av w → ∃ a r, av = vr a :: r ∧ w_kd a = 100 + 9 := by
  intro av w h
  unfold p_X9_rule at h
  split at h
  · refine ⟨_, _, rfl, ?_⟩
    first | (rw [h.1]; rfl) | (rw [h]; rfl)
  · exact h.elim
def q_X9_rule : List wV → wW → Int → wW → Prop := fun av w r w' => match av with
  | [.inr (.inr (some this)), .inl k, .inl n] => r = o_rule k n (w 0 11) ∧ w' = if 0 ≤ r then w_up (w_up (w_up w (36 + (w 0 11).toNat) 1 k) (36 + (w 0 11).toNat) 2 n) 0 11 (w 0 11 + 1) else w
  | _ => False
set_option maxRecDepth 100000 in
set_option maxHeartbeats 4000000 in
theorem c_X9_rule : w_Ct yX9_rule cX9_rule 4 1 0 0 p_X9_rule q_X9_rule := by
  refine w_met (own := RX9) (fl := w_fl9) (gs := w_gs9) (kl := w_kl9) (ki := w_ki9) (cs := []) (by decide +kernel) rfl ?_ w_flok9 w_gsok9 w_klok9 w_kiok9 ?_ ?_
  · intro av w h
    unfold p_X9_rule at h
    split at h
    · simp [w_pos, w_cat]
    · exact h.elim
  · exact fun _ h => absurd h List.not_mem_nil
  intro av w hp
  unfold p_X9_rule at hp
  split at hp
  case h_2 => exact hp.elim
  rename_i this k n
  intro G hG
  simp only [w_ent, w_pos, w_cat, Nat.reduceEqDiff, ↓reduceIte, List.length_cons, List.length_nil, Nat.reduceAdd, Nat.reduceSub, List.cons_append, List.nil_append, List.replicate_succ, List.replicate_zero]
  obtain ⟨rfl, hp⟩ := hp
  obtain ⟨rc, hrc⟩ : ∃ rc : Nat, w 0 11 = rc := ⟨(w 0 11).toNat, by omega⟩
  have e54 : ∀ x3 : Option wV, rc < 8 → o_rule k n rc = rc → G 54 [some (vr 0), some (vi k), some (vi n), x3] [] w := by
    intro x3 h5 h6
    have kr := w_kdr (a := 36 + rc) (by omega)
    have u1 : w_up w (36 + rc) 1 k 0 11 = rc := by rw [up_k (by omega), hrc]
    have u2 : w_up (w_up w (36 + rc) 1 k) (36 + rc) 2 n 0 11 = rc := by rw [up_k (by omega), u1]
    (apply hG [] 2000; simp only [w_br_i, w_ite, w_all, w_all0, forall_eq, w_b0, w_b1, ↓reduceIte, w_ent, w_pos, List.replicate_succ, List.replicate_zero, wp_s, wk_s, w_lk_c, w_ld0, w_ldS, w_kp0, w_kp, w_s1, w_s2, w_to, w_if, w_call, w_sw, w_cat, w_cats, w_psh, w_fv, List.contains_cons, List.contains_nil, List.set_cons_zero, List.set_cons_succ, List.length_cons, List.length_nil, List.find?_cons, List.find?_nil, List.take_succ_cons, List.take_zero, List.drop_succ_cons, List.drop_zero, List.reverse_cons, List.reverse_nil, List.nil_append, List.cons_append, Option.map_some, Option.map_none, Nat.reduceAdd, Nat.reduceBEq, Nat.reduceEqDiff, Nat.reduceLT, Nat.reduceLeDiff, Nat.reduceSub, Int.reduceAdd, Int.reduceSub, Int.reduceMul, Int.reduceNeg, Int.reduceToNat, Int.reduceLT, Int.reduceLE, Int.reduceEq, Bool.false_eq_true, Bool.or_false, Bool.false_or, Bool.true_or, Bool.or_true, if_true, if_false, ite_true, ite_false, true_and, and_true, false_and, and_false, true_or, or_true, false_or, or_false, Int.cast_ofNat_Int, Int.toNat_natCast, Int.natCast_add, List.getElem?_cons_zero, List.getElem?_cons_succ, true_implies, forall_const, not_true_eq_false, not_false_eq_true, ne_eq, beq_iff_eq, imp_self, List.length_set, Nat.zero_add, Nat.add_zero, Int.zero_add, Int.add_zero, w1_iload_n_1, w1_ifCond, w1_iconst, w1_if_icmp, w1_bipush, w1_ireturn, w1_sipush, w1_goto, w1_istore_n_3, w1_iload_n_2, w1_iload_n_3, w1_aload_n_0, w1_getfield, w1_aaload, w1_putfield, w1_putfield2, w1_dup, w1_dup2, w1_iadd, w1_isub, dX9_rule_0, dX9_rule_1, dX9_rule_4, dX9_rule_5, dX9_rule_6, dX9_rule_9, dX9_rule_11, dX9_rule_12, dX9_rule_13, dX9_rule_14, dX9_rule_17, dX9_rule_18, dX9_rule_19, dX9_rule_22, dX9_rule_25, dX9_rule_28, dX9_rule_29, dX9_rule_30, dX9_rule_31, dX9_rule_34, dX9_rule_35, dX9_rule_36, dX9_rule_39, dX9_rule_41, dX9_rule_42, dX9_rule_43, dX9_rule_46, dX9_rule_48, dX9_rule_51, dX9_rule_53, dX9_rule_54, dX9_rule_55, dX9_rule_58, dX9_rule_59, dX9_rule_62, dX9_rule_63, dX9_rule_64, dX9_rule_67, dX9_rule_68, dX9_rule_71, dX9_rule_72, dX9_rule_75, dX9_rule_76, dX9_rule_77, dX9_rule_80, dX9_rule_81, dX9_rule_82, dX9_rule_85, dX9_rule_86, dX9_rule_87, dX9_rule_90, dX9_rule_91, dX9_rule_94, dX9_rule_95, dX9_rule_96, w_flk9_140, w_flk9_32, w_flk9_143, w_flk9_146, w_kd_0, w_rf_0_0, w_rf_0_1, w_rf_0_2, w_rf_0_3, w_rf_0_4, w_rf_0_5, w_rf_0_6, w_rf_0_7, w_rf_0_8, w_rf_0_9, w_rf_0_10, w_kd_35, w_ln_35, hrc, kr, u1, u2, up_eq])
    (repeat' (with_reducible (first | refine And.intro ?_ ?_ | intro _))) <;> (try (first | assumption | contradiction | exact Or.inl trivial | exact Or.inl rfl | exact Or.inr rfl | (simp only [inI, inL]; omega) | omega))
    simp only [q_X9_rule, hrc, h6]
    ((repeat' (first | refine And.intro ?_ ?_ | split)) <;> (first | rfl | trivial | assumption | contradiction | omega | (exfalso; omega)))
  (apply hG [29, 54] 2000; simp only [w_br_i, w_ite, w_all, w_all0, forall_eq, w_b0, w_b1, ↓reduceIte, w_ent, w_pos, List.replicate_succ, List.replicate_zero, wp_s, wk_s, w_lk_c, w_ld0, w_ldS, w_kp0, w_kp, w_s1, w_s2, w_to, w_if, w_call, w_sw, w_cat, w_cats, w_psh, w_fv, List.contains_cons, List.contains_nil, List.set_cons_zero, List.set_cons_succ, List.length_cons, List.length_nil, List.find?_cons, List.find?_nil, List.take_succ_cons, List.take_zero, List.drop_succ_cons, List.drop_zero, List.reverse_cons, List.reverse_nil, List.nil_append, List.cons_append, Option.map_some, Option.map_none, Nat.reduceAdd, Nat.reduceBEq, Nat.reduceEqDiff, Nat.reduceLT, Nat.reduceLeDiff, Nat.reduceSub, Int.reduceAdd, Int.reduceSub, Int.reduceMul, Int.reduceNeg, Int.reduceToNat, Int.reduceLT, Int.reduceLE, Int.reduceEq, Bool.false_eq_true, Bool.or_false, Bool.false_or, Bool.true_or, Bool.or_true, if_true, if_false, ite_true, ite_false, true_and, and_true, false_and, and_false, true_or, or_true, false_or, or_false, Int.cast_ofNat_Int, Int.toNat_natCast, Int.natCast_add, List.getElem?_cons_zero, List.getElem?_cons_succ, true_implies, forall_const, not_true_eq_false, not_false_eq_true, ne_eq, beq_iff_eq, imp_self, List.length_set, Nat.zero_add, Nat.add_zero, Int.zero_add, Int.add_zero, w1_iload_n_1, w1_ifCond, w1_iconst, w1_if_icmp, w1_bipush, w1_ireturn, w1_sipush, w1_goto, w1_istore_n_3, w1_iload_n_2, w1_iload_n_3, w1_aload_n_0, w1_getfield, w1_aaload, w1_putfield, w1_putfield2, w1_dup, w1_dup2, w1_iadd, w1_isub, dX9_rule_0, dX9_rule_1, dX9_rule_4, dX9_rule_5, dX9_rule_6, dX9_rule_9, dX9_rule_11, dX9_rule_12, dX9_rule_13, dX9_rule_14, dX9_rule_17, dX9_rule_18, dX9_rule_19, dX9_rule_22, dX9_rule_25, dX9_rule_28, dX9_rule_29, dX9_rule_30, dX9_rule_31, dX9_rule_34, dX9_rule_35, dX9_rule_36, dX9_rule_39, dX9_rule_41, dX9_rule_42, dX9_rule_43, dX9_rule_46, dX9_rule_48, dX9_rule_51, dX9_rule_53, dX9_rule_54, dX9_rule_55, dX9_rule_58, dX9_rule_59, dX9_rule_62, dX9_rule_63, dX9_rule_64, dX9_rule_67, dX9_rule_68, dX9_rule_71, dX9_rule_72, dX9_rule_75, dX9_rule_76, dX9_rule_77, dX9_rule_80, dX9_rule_81, dX9_rule_82, dX9_rule_85, dX9_rule_86, dX9_rule_87, dX9_rule_90, dX9_rule_91, dX9_rule_94, dX9_rule_95, dX9_rule_96, w_flk9_140, w_flk9_32, w_flk9_143, w_flk9_146, w_kd_0, w_rf_0_0, w_rf_0_1, w_rf_0_2, w_rf_0_3, w_rf_0_4, w_rf_0_5, w_rf_0_6, w_rf_0_7, w_rf_0_8, w_rf_0_9, w_rf_0_10, hrc])
  have e29 : ∀ x3 : Option wV, ∀ mx : Int, (0 ≤ k ∧ k ≤ 4) → mx = (if k = 1 ∨ k = 4 then 200 else 0) → G 29 [some (vr 0), some (vi k), some (vi n), x3] [vi mx] w := by
    intro x3 mx h5 h6
    have hm : 0 ≤ mx ∧ mx ≤ 200 := by rw [h6]; split <;> omega
    (apply hG [54] 2000; simp only [w_br_i, w_ite, w_all, w_all0, forall_eq, w_b0, w_b1, ↓reduceIte, w_ent, w_pos, List.replicate_succ, List.replicate_zero, wp_s, wk_s, w_lk_c, w_ld0, w_ldS, w_kp0, w_kp, w_s1, w_s2, w_to, w_if, w_call, w_sw, w_cat, w_cats, w_psh, w_fv, List.contains_cons, List.contains_nil, List.set_cons_zero, List.set_cons_succ, List.length_cons, List.length_nil, List.find?_cons, List.find?_nil, List.take_succ_cons, List.take_zero, List.drop_succ_cons, List.drop_zero, List.reverse_cons, List.reverse_nil, List.nil_append, List.cons_append, Option.map_some, Option.map_none, Nat.reduceAdd, Nat.reduceBEq, Nat.reduceEqDiff, Nat.reduceLT, Nat.reduceLeDiff, Nat.reduceSub, Int.reduceAdd, Int.reduceSub, Int.reduceMul, Int.reduceNeg, Int.reduceToNat, Int.reduceLT, Int.reduceLE, Int.reduceEq, Bool.false_eq_true, Bool.or_false, Bool.false_or, Bool.true_or, Bool.or_true, if_true, if_false, ite_true, ite_false, true_and, and_true, false_and, and_false, true_or, or_true, false_or, or_false, Int.cast_ofNat_Int, Int.toNat_natCast, Int.natCast_add, List.getElem?_cons_zero, List.getElem?_cons_succ, true_implies, forall_const, not_true_eq_false, not_false_eq_true, ne_eq, beq_iff_eq, imp_self, List.length_set, Nat.zero_add, Nat.add_zero, Int.zero_add, Int.add_zero, w1_iload_n_1, w1_ifCond, w1_iconst, w1_if_icmp, w1_bipush, w1_ireturn, w1_sipush, w1_goto, w1_istore_n_3, w1_iload_n_2, w1_iload_n_3, w1_aload_n_0, w1_getfield, w1_aaload, w1_putfield, w1_putfield2, w1_dup, w1_dup2, w1_iadd, w1_isub, dX9_rule_0, dX9_rule_1, dX9_rule_4, dX9_rule_5, dX9_rule_6, dX9_rule_9, dX9_rule_11, dX9_rule_12, dX9_rule_13, dX9_rule_14, dX9_rule_17, dX9_rule_18, dX9_rule_19, dX9_rule_22, dX9_rule_25, dX9_rule_28, dX9_rule_29, dX9_rule_30, dX9_rule_31, dX9_rule_34, dX9_rule_35, dX9_rule_36, dX9_rule_39, dX9_rule_41, dX9_rule_42, dX9_rule_43, dX9_rule_46, dX9_rule_48, dX9_rule_51, dX9_rule_53, dX9_rule_54, dX9_rule_55, dX9_rule_58, dX9_rule_59, dX9_rule_62, dX9_rule_63, dX9_rule_64, dX9_rule_67, dX9_rule_68, dX9_rule_71, dX9_rule_72, dX9_rule_75, dX9_rule_76, dX9_rule_77, dX9_rule_80, dX9_rule_81, dX9_rule_82, dX9_rule_85, dX9_rule_86, dX9_rule_87, dX9_rule_90, dX9_rule_91, dX9_rule_94, dX9_rule_95, dX9_rule_96, w_flk9_140, w_flk9_32, w_flk9_143, w_flk9_146, w_kd_0, w_rf_0_0, w_rf_0_1, w_rf_0_2, w_rf_0_3, w_rf_0_4, w_rf_0_5, w_rf_0_6, w_rf_0_7, w_rf_0_8, w_rf_0_9, w_rf_0_10, hrc])
    (repeat' (with_reducible (first | refine And.intro ?_ ?_ | intro _))) <;> (try (first | assumption | contradiction | exact Or.inl trivial | exact Or.inl rfl | exact Or.inr rfl | (simp only [inI, inL]; omega) | omega))
    all_goals first
      | exact e54 _ (by omega) (by simp only [o_rule, ← h6]; rw [if_neg (by omega), if_neg (by omega), if_neg (by omega)])
      | (simp only [q_X9_rule, o_rule, ← h6, hrc]; ((repeat' (first | refine And.intro ?_ ?_ | split)) <;> (first | rfl | trivial | assumption | contradiction | omega | (exfalso; omega))))
  (repeat' (with_reducible (first | refine And.intro ?_ ?_ | intro _))) <;> (try (first | assumption | contradiction | exact Or.inl trivial | exact Or.inl rfl | exact Or.inr rfl | (simp only [inI, inL]; omega) | omega))
  all_goals first
    | exact e29 _ _ (by omega) (by rw [if_pos (by omega)])
    | exact e29 _ _ (by omega) (by rw [if_neg (by omega)])
    | (simp only [q_X9_rule, o_rule, hrc]; ((repeat' (first | refine And.intro ?_ ?_ | split)) <;> (first | rfl | trivial | assumption | contradiction | omega | (exfalso; omega))))
def o_count (w : wW) (what : Int) : Int := if what = 0 then w 4 6 else if what = 1 then w 11 1 else if what = 2 then w 0 11 else if what = 3 then o_kept (w 34) 12 else if what = 4 then w 1 2 else if what = 5 then w 0 12 else if what = 6 then w 0 13 else if what = 7 then w 0 14 else -102
def p_X9_count : List wV → wW → Prop := fun av w => match av with
  | [.inr (.inr (some this)), .inl what] => this = 0 ∧ inI what ∧ ∀ m, m < 12 → inI (w 34 m)
  | _ => False
theorem h_X9_count : ∀ av w, p_X9_count av w → ∃ a r, av = vr a :: r ∧ w_kd a = 100 + 9 := by
  intro av w h
  unfold p_X9_count at h
  split at h
  · refine ⟨_, _, rfl, ?_⟩
    first | (rw [h.1]; rfl) | (rw [h]; rfl)
  · exact h.elim
def q_X9_count : List wV → wW → Int → wW → Prop := fun av w r w' => match av with
  | [.inr (.inr (some this)), .inl what] => r = o_count w what ∧ w' = w
  | _ => False
set_option maxRecDepth 100000 in
set_option maxHeartbeats 4000000 in
theorem c_X9_count : w_Ct yX9_count cX9_count 2 1 1 22 p_X9_count q_X9_count := by
  refine w_met (own := RX9) (fl := w_fl9) (gs := w_gs9) (kl := w_kl9) (ki := w_ki9) (cs := [(305, (0, 1, 1, p_X9_readingsKept, q_X9_readingsKept))]) (by decide +kernel) rfl ?_ w_flok9 w_gsok9 w_klok9 w_kiok9 ?_ ?_
  · intro av w h
    unfold p_X9_count at h
    split at h
    · simp [w_pos, w_cat]
    · exact h.elim
  · exact List.forall_mem_cons.mpr ⟨⟨_, _, w_callV (own := RX9) (idx := 305) (ci := 9) c_X9_readingsKept rfl rfl h_X9_readingsKept (w_m4 75 (by decide +kernel) (by decide +kernel)) (w_m4 77 (by decide +kernel) (by decide +kernel)) (w_m0 29 (by decide +kernel) (by decide +kernel)) (w_m1 1 (by decide +kernel) (by decide +kernel)) (w_m4 78 (by decide +kernel) (by decide +kernel)) ⟨by decide +kernel, by decide +kernel, by decide +kernel⟩, by decide, by decide⟩, fun _ h => absurd h List.not_mem_nil⟩
  intro av w hp
  unfold p_X9_count at hp
  split at hp
  case h_2 => exact hp.elim
  rename_i this what
  intro G hG
  simp only [w_ent, w_pos, w_cat, Nat.reduceEqDiff, ↓reduceIte, List.length_cons, List.length_nil, Nat.reduceAdd, Nat.reduceSub, List.cons_append, List.nil_append, List.replicate_succ, List.replicate_zero]
  obtain ⟨rfl, hp⟩ := hp
  (apply hG [] 2000; simp only [w_br_i, w_ite, w_all, w_all0, forall_eq, w_b0, w_b1, ↓reduceIte, w_ent, w_pos, List.replicate_succ, List.replicate_zero, wp_s, wk_s, w_lk_c, w_ld0, w_ldS, w_kp0, w_kp, w_s1, w_s2, w_to, w_if, w_call, w_sw, w_cat, w_cats, w_psh, w_fv, List.contains_cons, List.contains_nil, List.set_cons_zero, List.set_cons_succ, List.length_cons, List.length_nil, List.find?_cons, List.find?_nil, List.take_succ_cons, List.take_zero, List.drop_succ_cons, List.drop_zero, List.reverse_cons, List.reverse_nil, List.nil_append, List.cons_append, Option.map_some, Option.map_none, Nat.reduceAdd, Nat.reduceBEq, Nat.reduceEqDiff, Nat.reduceLT, Nat.reduceLeDiff, Nat.reduceSub, Int.reduceAdd, Int.reduceSub, Int.reduceMul, Int.reduceNeg, Int.reduceToNat, Int.reduceLT, Int.reduceLE, Int.reduceEq, Bool.false_eq_true, Bool.or_false, Bool.false_or, Bool.true_or, Bool.or_true, if_true, if_false, ite_true, ite_false, true_and, and_true, false_and, and_false, true_or, or_true, false_or, or_false, Int.cast_ofNat_Int, Int.toNat_natCast, Int.natCast_add, List.getElem?_cons_zero, List.getElem?_cons_succ, true_implies, forall_const, not_true_eq_false, not_false_eq_true, ne_eq, beq_iff_eq, imp_self, List.length_set, Nat.zero_add, Nat.add_zero, Int.zero_add, Int.add_zero, w1_iload_n_1, w1_tableswitch, w1_aload_n_0, w1_getfield, w1_ireturn, w1_invokevirtual, w1_bipush, dX9_count_0, dX9_count_1, dX9_count_48, dX9_count_49, dX9_count_52, dX9_count_55, dX9_count_56, dX9_count_57, dX9_count_60, dX9_count_63, dX9_count_64, dX9_count_65, dX9_count_68, dX9_count_69, dX9_count_70, dX9_count_73, dX9_count_74, dX9_count_75, dX9_count_78, dX9_count_81, dX9_count_82, dX9_count_83, dX9_count_86, dX9_count_87, dX9_count_88, dX9_count_91, dX9_count_92, dX9_count_93, dX9_count_96, dX9_count_97, dX9_count_99, w_flk9_115, w_flk9_12, w_flk9_121, w_flk9_124, w_flk9_140, w_flk9_19, w_flk9_218, w_flk9_26, w_flk9_276, w_flk9_96, w_kd_0, w_rf_0_0, w_rf_0_1, w_rf_0_2, w_rf_0_3, w_rf_0_4, w_rf_0_5, w_rf_0_6, w_rf_0_7, w_rf_0_8, w_rf_0_9, w_rf_0_10, w_kd_1, w_rf_1_0, w_rf_1_1, w_kd_4, w_rf_4_0, w_rf_4_1, w_rf_4_2, w_rf_4_3, w_rf_4_4, w_rf_4_5, w_kd_11, w_rf_11_0, p_X9_readingsKept, q_X9_readingsKept])
  have h2 := hp.2
  (repeat' (with_reducible (first | refine And.intro ?_ ?_ | intro _))) <;> (try (first | assumption | contradiction | exact Or.inl trivial | exact Or.inl rfl | exact Or.inr rfl | (simp only [inI, inL]; omega) | omega))
  all_goals first
    | exact (h2 _ (by assumption)).1
    | exact (h2 _ (by assumption)).2
    | (simp only [q_X9_count, o_count]; ((repeat' (first | refine And.intro ?_ ?_ | split)) <;> (first | rfl | trivial | assumption | contradiction | omega | (exfalso; omega))))
