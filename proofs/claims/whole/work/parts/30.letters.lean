def p_X3_lettersIn : List wV → wW → Prop := fun av w => match av with
  | [.inr (.inl z)] => True
  | _ => False
def q_X3_lettersIn : List wV → wW → Int → wW → Prop := fun av w r w' => match av with
  | [.inr (.inl z)] => (r = if (ltr z 8).2 = true then (ltr z 8).1 else -1) ∧ w' = w
  | _ => False
set_option maxRecDepth 100000 in
set_option maxHeartbeats 4000000 in
theorem c_X3_lettersIn : w_Ct yX3_lettersIn cX3_lettersIn 5 1 0 0 p_X3_lettersIn q_X3_lettersIn := by
  refine w_met (own := RX3) (fl := w_fl3) (gs := w_gs3) (kl := w_kl3) (ki := w_ki3) (cs := []) (by decide +kernel) rfl ?_ w_flok3 w_gsok3 w_klok3 w_kiok3 ?_ ?_
  · intro av w h
    unfold p_X3_lettersIn at h
    split at h
    · simp [w_pos, w_cat]
    · exact h.elim
  · exact fun _ h => absurd h List.not_mem_nil
  intro av w hp
  unfold p_X3_lettersIn at hp
  split at hp
  case h_2 => exact hp.elim
  rename_i z
  intro G hG
  simp only [w_ent, w_pos, w_cat, Nat.reduceEqDiff, ↓reduceIte, List.length_cons, List.length_nil, Nat.reduceAdd, Nat.reduceSub, List.cons_append, List.nil_append, List.replicate_succ, List.replicate_zero]
  have loop : ∀ n i : Nat, ∀ x4 : Option wV, i + n = 8 → (ltr z i).2 = true → G 4 [some (vl z), none, some (vi (ltr z i).1), some (vi i), x4] [] w := by
    intro n
    induction n with
    | zero =>
      intro i x4 h2 h3
      have e : i = 8 := by omega
      subst e
      (apply hG [4, 42] 2000; simp only [w_br_i, w_ite, w_all, w_all0, forall_eq, w_b0, w_b1, ↓reduceIte, w_ent, w_pos, List.replicate_succ, List.replicate_zero, wp_s, wk_s, w_lk_c, w_ld0, w_ldS, w_kp0, w_kp, w_s1, w_s2, w_to, w_if, w_call, w_sw, w_cat, w_cats, w_psh, w_fv, List.contains_cons, List.contains_nil, List.set_cons_zero, List.set_cons_succ, List.length_cons, List.length_nil, List.find?_cons, List.find?_nil, List.take_succ_cons, List.take_zero, List.drop_succ_cons, List.drop_zero, List.reverse_cons, List.reverse_nil, List.nil_append, List.cons_append, Option.map_some, Option.map_none, Nat.reduceAdd, Nat.reduceBEq, Nat.reduceEqDiff, Nat.reduceLT, Nat.reduceLeDiff, Nat.reduceSub, Int.reduceAdd, Int.reduceSub, Int.reduceMul, Int.reduceNeg, Int.reduceToNat, Int.reduceLT, Int.reduceLE, Int.reduceEq, Bool.false_eq_true, Bool.or_false, Bool.false_or, Bool.true_or, Bool.or_true, if_true, if_false, ite_true, ite_false, true_and, and_true, false_and, and_false, true_or, or_true, false_or, or_false, Int.cast_ofNat_Int, Int.toNat_natCast, Int.natCast_add, List.getElem?_cons_zero, List.getElem?_cons_succ, true_implies, forall_const, not_true_eq_false, not_false_eq_true, ne_eq, beq_iff_eq, imp_self, List.length_set, Nat.zero_add, Nat.add_zero, Int.zero_add, Int.add_zero, w1_iconst, w1_istore_n_2, w1_istore_n_3, w1_iload_n_3, w1_bipush, w1_if_icmp, w1_lload_n_0, w1_imul, w1_lushr, w1_l2i, w1_sipush, w1_iand, w1_istore, w1_iload, w1_ifCond, w1_iload_n_2, w1_ireturn, w1_goto, w1_iadd, w1_iinc, dX3_lettersIn_0, dX3_lettersIn_1, dX3_lettersIn_2, dX3_lettersIn_3, dX3_lettersIn_4, dX3_lettersIn_5, dX3_lettersIn_7, dX3_lettersIn_10, dX3_lettersIn_11, dX3_lettersIn_13, dX3_lettersIn_14, dX3_lettersIn_15, dX3_lettersIn_16, dX3_lettersIn_17, dX3_lettersIn_20, dX3_lettersIn_21, dX3_lettersIn_23, dX3_lettersIn_25, dX3_lettersIn_27, dX3_lettersIn_30, dX3_lettersIn_32, dX3_lettersIn_35, dX3_lettersIn_36, dX3_lettersIn_37, dX3_lettersIn_40, dX3_lettersIn_41, dX3_lettersIn_42, dX3_lettersIn_43, dX3_lettersIn_45, dX3_lettersIn_48, dX3_lettersIn_49, dX3_lettersIn_52, dX3_lettersIn_53, dX3_lettersIn_54, dX3_lettersIn_55, dX3_lettersIn_58, dX3_lettersIn_61, dX3_lettersIn_62])
      have := ltr_in z 8
      (repeat' (with_reducible (first | refine And.intro ?_ ?_ | intro _))) <;> (try (first | assumption | contradiction | exact Or.inl trivial | exact Or.inl rfl | exact Or.inr rfl | (simp only [inI, inL]; omega) | omega))
      simp only [q_X3_lettersIn]
      simp [h3]
    | succ n ih =>
      intro i x4 h2 h3
      have hb := byt_in z i
      have hl := ltr_in z i
      have bad : (ltr z (i + 1)).2 = false → (ltr z 8).2 = false := fun q => by
        have := ltr_bad z (i + 1) q n
        rwa [show i + 1 + n = 8 by omega] at this
      (apply hG [4, 42] 2000; simp only [w_br_i, w_ite, w_all, w_all0, forall_eq, w_b0, w_b1, ↓reduceIte, w_ent, w_pos, List.replicate_succ, List.replicate_zero, wp_s, wk_s, w_lk_c, w_ld0, w_ldS, w_kp0, w_kp, w_s1, w_s2, w_to, w_if, w_call, w_sw, w_cat, w_cats, w_psh, w_fv, List.contains_cons, List.contains_nil, List.set_cons_zero, List.set_cons_succ, List.length_cons, List.length_nil, List.find?_cons, List.find?_nil, List.take_succ_cons, List.take_zero, List.drop_succ_cons, List.drop_zero, List.reverse_cons, List.reverse_nil, List.nil_append, List.cons_append, Option.map_some, Option.map_none, Nat.reduceAdd, Nat.reduceBEq, Nat.reduceEqDiff, Nat.reduceLT, Nat.reduceLeDiff, Nat.reduceSub, Int.reduceAdd, Int.reduceSub, Int.reduceMul, Int.reduceNeg, Int.reduceToNat, Int.reduceLT, Int.reduceLE, Int.reduceEq, Bool.false_eq_true, Bool.or_false, Bool.false_or, Bool.true_or, Bool.or_true, if_true, if_false, ite_true, ite_false, true_and, and_true, false_and, and_false, true_or, or_true, false_or, or_false, Int.cast_ofNat_Int, Int.toNat_natCast, Int.natCast_add, List.getElem?_cons_zero, List.getElem?_cons_succ, true_implies, forall_const, not_true_eq_false, not_false_eq_true, ne_eq, beq_iff_eq, imp_self, List.length_set, Nat.zero_add, Nat.add_zero, Int.zero_add, Int.add_zero, w1_iconst, w1_istore_n_2, w1_istore_n_3, w1_iload_n_3, w1_bipush, w1_if_icmp, w1_lload_n_0, w1_imul, w1_lushr, w1_l2i, w1_sipush, w1_iand, w1_istore, w1_iload, w1_ifCond, w1_iload_n_2, w1_ireturn, w1_goto, w1_iadd, w1_iinc, dX3_lettersIn_0, dX3_lettersIn_1, dX3_lettersIn_2, dX3_lettersIn_3, dX3_lettersIn_4, dX3_lettersIn_5, dX3_lettersIn_7, dX3_lettersIn_10, dX3_lettersIn_11, dX3_lettersIn_13, dX3_lettersIn_14, dX3_lettersIn_15, dX3_lettersIn_16, dX3_lettersIn_17, dX3_lettersIn_20, dX3_lettersIn_21, dX3_lettersIn_23, dX3_lettersIn_25, dX3_lettersIn_27, dX3_lettersIn_30, dX3_lettersIn_32, dX3_lettersIn_35, dX3_lettersIn_36, dX3_lettersIn_37, dX3_lettersIn_40, dX3_lettersIn_41, dX3_lettersIn_42, dX3_lettersIn_43, dX3_lettersIn_45, dX3_lettersIn_48, dX3_lettersIn_49, dX3_lettersIn_52, dX3_lettersIn_53, dX3_lettersIn_54, dX3_lettersIn_55, dX3_lettersIn_58, dX3_lettersIn_61, dX3_lettersIn_62])
      rw [w_byt (show i < 8 by omega)]
      have good : ∀ x4 : Option wV, x4 = some (vi (byt z i)) → ((ltr z i).2 && decide (byt z i ≤ 126) && (decide (byt z i = 0) || decide ((ltr z i).1 = i))) = true → G 42 [some (vl z), none, some (vi (ltr z i).1), some (vi i), x4] [] w := by
        intro x4 hx q
        subst hx
        have e := ih (i + 1)
        (apply hG [4] 2000; simp only [w_br_i, w_ite, w_all, w_all0, forall_eq, w_b0, w_b1, ↓reduceIte, w_ent, w_pos, List.replicate_succ, List.replicate_zero, wp_s, wk_s, w_lk_c, w_ld0, w_ldS, w_kp0, w_kp, w_s1, w_s2, w_to, w_if, w_call, w_sw, w_cat, w_cats, w_psh, w_fv, List.contains_cons, List.contains_nil, List.set_cons_zero, List.set_cons_succ, List.length_cons, List.length_nil, List.find?_cons, List.find?_nil, List.take_succ_cons, List.take_zero, List.drop_succ_cons, List.drop_zero, List.reverse_cons, List.reverse_nil, List.nil_append, List.cons_append, Option.map_some, Option.map_none, Nat.reduceAdd, Nat.reduceBEq, Nat.reduceEqDiff, Nat.reduceLT, Nat.reduceLeDiff, Nat.reduceSub, Int.reduceAdd, Int.reduceSub, Int.reduceMul, Int.reduceNeg, Int.reduceToNat, Int.reduceLT, Int.reduceLE, Int.reduceEq, Bool.false_eq_true, Bool.or_false, Bool.false_or, Bool.true_or, Bool.or_true, if_true, if_false, ite_true, ite_false, true_and, and_true, false_and, and_false, true_or, or_true, false_or, or_false, Int.cast_ofNat_Int, Int.toNat_natCast, Int.natCast_add, List.getElem?_cons_zero, List.getElem?_cons_succ, true_implies, forall_const, not_true_eq_false, not_false_eq_true, ne_eq, beq_iff_eq, imp_self, List.length_set, Nat.zero_add, Nat.add_zero, Int.zero_add, Int.add_zero, w1_iconst, w1_istore_n_2, w1_istore_n_3, w1_iload_n_3, w1_bipush, w1_if_icmp, w1_lload_n_0, w1_imul, w1_lushr, w1_l2i, w1_sipush, w1_iand, w1_istore, w1_iload, w1_ifCond, w1_iload_n_2, w1_ireturn, w1_goto, w1_iadd, w1_iinc, dX3_lettersIn_0, dX3_lettersIn_1, dX3_lettersIn_2, dX3_lettersIn_3, dX3_lettersIn_4, dX3_lettersIn_5, dX3_lettersIn_7, dX3_lettersIn_10, dX3_lettersIn_11, dX3_lettersIn_13, dX3_lettersIn_14, dX3_lettersIn_15, dX3_lettersIn_16, dX3_lettersIn_17, dX3_lettersIn_20, dX3_lettersIn_21, dX3_lettersIn_23, dX3_lettersIn_25, dX3_lettersIn_27, dX3_lettersIn_30, dX3_lettersIn_32, dX3_lettersIn_35, dX3_lettersIn_36, dX3_lettersIn_37, dX3_lettersIn_40, dX3_lettersIn_41, dX3_lettersIn_42, dX3_lettersIn_43, dX3_lettersIn_45, dX3_lettersIn_48, dX3_lettersIn_49, dX3_lettersIn_52, dX3_lettersIn_53, dX3_lettersIn_54, dX3_lettersIn_55, dX3_lettersIn_58, dX3_lettersIn_61, dX3_lettersIn_62])
        simp only [ltr, q, Int.natCast_add, Int.cast_ofNat_Int] at e
        by_cases hz : byt z i = 0
        · have e := e (some (vi (byt z i))) (by omega) trivial
          rw [if_neg (by omega), Int.add_zero] at e
          (repeat' (with_reducible (first | refine And.intro ?_ ?_ | intro _))) <;> (try (first | assumption | contradiction | exact Or.inl trivial | exact Or.inl rfl | exact Or.inr rfl | (simp only [inI, inL]; omega) | omega))
        · have e := e (some (vi (byt z i))) (by omega) trivial
          rw [if_pos (by omega)] at e
          (repeat' (with_reducible (first | refine And.intro ?_ ?_ | intro _))) <;> (try (first | assumption | contradiction | exact Or.inl trivial | exact Or.inl rfl | exact Or.inr rfl | (simp only [inI, inL]; omega) | omega))
      (repeat' (with_reducible (first | refine And.intro ?_ ?_ | intro _))) <;> (try (first | assumption | contradiction | exact Or.inl trivial | exact Or.inl rfl | exact Or.inr rfl | (simp only [inI, inL]; omega) | omega))
      · simp only [q_X3_lettersIn]
        rw [bad (by simp [ltr]; omega)]
        simp
      · exact good _ rfl (by simp [h3]; omega)
      · exact good _ rfl (by simp [h3]; omega)
      · simp only [q_X3_lettersIn]
        rw [bad (by simp [ltr]; omega)]
        simp
  (apply hG [4] 2000; simp only [w_br_i, w_ite, w_all, w_all0, forall_eq, w_b0, w_b1, ↓reduceIte, w_ent, w_pos, List.replicate_succ, List.replicate_zero, wp_s, wk_s, w_lk_c, w_ld0, w_ldS, w_kp0, w_kp, w_s1, w_s2, w_to, w_if, w_call, w_sw, w_cat, w_cats, w_psh, w_fv, List.contains_cons, List.contains_nil, List.set_cons_zero, List.set_cons_succ, List.length_cons, List.length_nil, List.find?_cons, List.find?_nil, List.take_succ_cons, List.take_zero, List.drop_succ_cons, List.drop_zero, List.reverse_cons, List.reverse_nil, List.nil_append, List.cons_append, Option.map_some, Option.map_none, Nat.reduceAdd, Nat.reduceBEq, Nat.reduceEqDiff, Nat.reduceLT, Nat.reduceLeDiff, Nat.reduceSub, Int.reduceAdd, Int.reduceSub, Int.reduceMul, Int.reduceNeg, Int.reduceToNat, Int.reduceLT, Int.reduceLE, Int.reduceEq, Bool.false_eq_true, Bool.or_false, Bool.false_or, Bool.true_or, Bool.or_true, if_true, if_false, ite_true, ite_false, true_and, and_true, false_and, and_false, true_or, or_true, false_or, or_false, Int.cast_ofNat_Int, Int.toNat_natCast, Int.natCast_add, List.getElem?_cons_zero, List.getElem?_cons_succ, true_implies, forall_const, not_true_eq_false, not_false_eq_true, ne_eq, beq_iff_eq, imp_self, List.length_set, Nat.zero_add, Nat.add_zero, Int.zero_add, Int.add_zero, w1_iconst, w1_istore_n_2, w1_istore_n_3, w1_iload_n_3, w1_bipush, w1_if_icmp, w1_lload_n_0, w1_imul, w1_lushr, w1_l2i, w1_sipush, w1_iand, w1_istore, w1_iload, w1_ifCond, w1_iload_n_2, w1_ireturn, w1_goto, w1_iadd, w1_iinc, dX3_lettersIn_0, dX3_lettersIn_1, dX3_lettersIn_2, dX3_lettersIn_3, dX3_lettersIn_4, dX3_lettersIn_5, dX3_lettersIn_7, dX3_lettersIn_10, dX3_lettersIn_11, dX3_lettersIn_13, dX3_lettersIn_14, dX3_lettersIn_15, dX3_lettersIn_16, dX3_lettersIn_17, dX3_lettersIn_20, dX3_lettersIn_21, dX3_lettersIn_23, dX3_lettersIn_25, dX3_lettersIn_27, dX3_lettersIn_30, dX3_lettersIn_32, dX3_lettersIn_35, dX3_lettersIn_36, dX3_lettersIn_37, dX3_lettersIn_40, dX3_lettersIn_41, dX3_lettersIn_42, dX3_lettersIn_43, dX3_lettersIn_45, dX3_lettersIn_48, dX3_lettersIn_49, dX3_lettersIn_52, dX3_lettersIn_53, dX3_lettersIn_54, dX3_lettersIn_55, dX3_lettersIn_58, dX3_lettersIn_61, dX3_lettersIn_62])
  exact loop 8 0 none rfl rfl
def w_app (w : wW) (z : Int) : Nat → wW
  | 0 => w
  | n + 1 => w_up (w_up (w_app w z n) 2 (w 1 2 + n).toNat (byt z n)) 1 2 (w 1 2 + n + 1)
theorem w_app_len (w : wW) (z : Int) : ∀ n : Nat, w_app w z n 1 2 = w 1 2 + n
  | 0 => by simp [w_app]
  | n + 1 => by simp [w_app, w_up]; omega
def p_X3_append : List wV → wW → Prop := fun av w => match av with
  | [.inr (.inr (some this)), .inr (.inl z), .inl more] => this = 1 ∧ (0 ≤ more ∧ more ≤ 8) ∧ (0 ≤ w 1 2 ∧ w 1 2 + more ≤ 60)
  | _ => False
theorem h_X3_append : ∀ av w, p_X3_append av w → ∃ a r, av = vr a :: r ∧ w_kd a = 100 + 3 := by
  intro av w h
  unfold p_X3_append at h
  split at h
  · refine ⟨_, _, rfl, ?_⟩
    first | (rw [h.1]; rfl) | (rw [h]; rfl)
  · exact h.elim
def q_X3_append : List wV → wW → Int → wW → Prop := fun av w r w' => match av with
  | [.inr (.inr (some this)), .inr (.inl z), .inl more] => w' = w_app w z more.toNat
  | _ => False
set_option maxRecDepth 100000 in
set_option maxHeartbeats 4000000 in
theorem c_X3_append : w_Ct yX3_append cX3_append 5 0 0 0 p_X3_append q_X3_append := by
  refine w_met (own := RX3) (fl := w_fl3) (gs := w_gs3) (kl := w_kl3) (ki := w_ki3) (cs := []) (by decide +kernel) rfl ?_ w_flok3 w_gsok3 w_klok3 w_kiok3 ?_ ?_
  · intro av w h
    unfold p_X3_append at h
    split at h
    · simp [w_pos, w_cat]
    · exact h.elim
  · exact fun _ h => absurd h List.not_mem_nil
  intro av w hp
  unfold p_X3_append at hp
  split at hp
  case h_2 => exact hp.elim
  rename_i this z more
  intro G hG
  simp only [w_ent, w_pos, w_cat, Nat.reduceEqDiff, ↓reduceIte, List.length_cons, List.length_nil, Nat.reduceAdd, Nat.reduceSub, List.cons_append, List.nil_append, List.replicate_succ, List.replicate_zero]
  obtain ⟨rfl, hp⟩ := hp
  have loop : ∀ n i : Nat, ∀ x4 : Option wV, i + n = more.toNat → G 3 [some (vr 1), some (vl z), none, some (vi more), some (vi i)] [] (w_app w z i) := by
    intro n
    induction n with
    | zero =>
      intro i x4 h2
      (apply hG [3] 2000; simp only [w_br_i, w_ite, w_all, w_all0, forall_eq, w_b0, w_b1, ↓reduceIte, w_ent, w_pos, List.replicate_succ, List.replicate_zero, wp_s, wk_s, w_lk_c, w_ld0, w_ldS, w_kp0, w_kp, w_s1, w_s2, w_to, w_if, w_call, w_sw, w_cat, w_cats, w_psh, w_fv, List.contains_cons, List.contains_nil, List.set_cons_zero, List.set_cons_succ, List.length_cons, List.length_nil, List.find?_cons, List.find?_nil, List.take_succ_cons, List.take_zero, List.drop_succ_cons, List.drop_zero, List.reverse_cons, List.reverse_nil, List.nil_append, List.cons_append, Option.map_some, Option.map_none, Nat.reduceAdd, Nat.reduceBEq, Nat.reduceEqDiff, Nat.reduceLT, Nat.reduceLeDiff, Nat.reduceSub, Int.reduceAdd, Int.reduceSub, Int.reduceMul, Int.reduceNeg, Int.reduceToNat, Int.reduceLT, Int.reduceLE, Int.reduceEq, Bool.false_eq_true, Bool.or_false, Bool.false_or, Bool.true_or, Bool.or_true, if_true, if_false, ite_true, ite_false, true_and, and_true, false_and, and_false, true_or, or_true, false_or, or_false, Int.cast_ofNat_Int, Int.toNat_natCast, Int.natCast_add, List.getElem?_cons_zero, List.getElem?_cons_succ, true_implies, forall_const, not_true_eq_false, not_false_eq_true, ne_eq, beq_iff_eq, imp_self, List.length_set, Nat.zero_add, Nat.add_zero, Int.zero_add, Int.add_zero, w1_iconst, w1_istore, w1_iload, w1_iload_n_3, w1_if_icmp, w1_bipush, w1_aload_n_0, w1_getfield, w1_lload_n_1, w1_imul, w1_lushr, w1_l2i, w1_sipush, w1_iand, w1_iastore, w1_dup, w1_dup2, w1_iadd, w1_putfield, w1_putfield2, w1_iinc, w1_goto, w1_return, dX3_append_0, dX3_append_1, dX3_append_3, dX3_append_5, dX3_append_6, dX3_append_9, dX3_append_11, dX3_append_13, dX3_append_16, dX3_append_17, dX3_append_20, dX3_append_22, dX3_append_25, dX3_append_26, dX3_append_29, dX3_append_30, dX3_append_33, dX3_append_34, dX3_append_36, dX3_append_38, dX3_append_39, dX3_append_40, dX3_append_41, dX3_append_44, dX3_append_45, dX3_append_46, dX3_append_47, dX3_append_48, dX3_append_51, dX3_append_52, dX3_append_53, dX3_append_56, dX3_append_59, dX3_append_62, w_flk3_18, w_flk3_9, w_kd_1, w_rf_1_0, w_rf_1_1])
      (repeat' (with_reducible (first | refine And.intro ?_ ?_ | intro _))) <;> (try (first | assumption | contradiction | exact Or.inl trivial | exact Or.inl rfl | exact Or.inr rfl | (simp only [inI, inL]; omega) | omega))
      have e : i = more.toNat := by omega
      subst e
      simp only [q_X3_append]
    | succ n ih =>
      intro i x4 h2
      have hl := w_app_len w z i
      have hi : i < 8 := by omega
      (apply hG [3] 2000; simp only [w_br_i, w_ite, w_all, w_all0, forall_eq, w_b0, w_b1, ↓reduceIte, w_ent, w_pos, List.replicate_succ, List.replicate_zero, wp_s, wk_s, w_lk_c, w_ld0, w_ldS, w_kp0, w_kp, w_s1, w_s2, w_to, w_if, w_call, w_sw, w_cat, w_cats, w_psh, w_fv, List.contains_cons, List.contains_nil, List.set_cons_zero, List.set_cons_succ, List.length_cons, List.length_nil, List.find?_cons, List.find?_nil, List.take_succ_cons, List.take_zero, List.drop_succ_cons, List.drop_zero, List.reverse_cons, List.reverse_nil, List.nil_append, List.cons_append, Option.map_some, Option.map_none, Nat.reduceAdd, Nat.reduceBEq, Nat.reduceEqDiff, Nat.reduceLT, Nat.reduceLeDiff, Nat.reduceSub, Int.reduceAdd, Int.reduceSub, Int.reduceMul, Int.reduceNeg, Int.reduceToNat, Int.reduceLT, Int.reduceLE, Int.reduceEq, Bool.false_eq_true, Bool.or_false, Bool.false_or, Bool.true_or, Bool.or_true, if_true, if_false, ite_true, ite_false, true_and, and_true, false_and, and_false, true_or, or_true, false_or, or_false, Int.cast_ofNat_Int, Int.toNat_natCast, Int.natCast_add, List.getElem?_cons_zero, List.getElem?_cons_succ, true_implies, forall_const, not_true_eq_false, not_false_eq_true, ne_eq, beq_iff_eq, imp_self, List.length_set, Nat.zero_add, Nat.add_zero, Int.zero_add, Int.add_zero, w1_iconst, w1_istore, w1_iload, w1_iload_n_3, w1_if_icmp, w1_bipush, w1_aload_n_0, w1_getfield, w1_lload_n_1, w1_imul, w1_lushr, w1_l2i, w1_sipush, w1_iand, w1_iastore, w1_dup, w1_dup2, w1_iadd, w1_putfield, w1_putfield2, w1_iinc, w1_goto, w1_return, dX3_append_0, dX3_append_1, dX3_append_3, dX3_append_5, dX3_append_6, dX3_append_9, dX3_append_11, dX3_append_13, dX3_append_16, dX3_append_17, dX3_append_20, dX3_append_22, dX3_append_25, dX3_append_26, dX3_append_29, dX3_append_30, dX3_append_33, dX3_append_34, dX3_append_36, dX3_append_38, dX3_append_39, dX3_append_40, dX3_append_41, dX3_append_44, dX3_append_45, dX3_append_46, dX3_append_47, dX3_append_48, dX3_append_51, dX3_append_52, dX3_append_53, dX3_append_56, dX3_append_59, dX3_append_62, w_flk3_18, w_flk3_9, w_kd_1, w_rf_1_0, w_rf_1_1, w_kd_2, w_ln_2, hl, up_k, up_eq])
      rw [w_byt hi]
      have e := ih (i + 1) x4 (by omega)
      simp only [w_app, Int.natCast_add, Int.cast_ofNat_Int] at e
      (repeat' (with_reducible (first | refine And.intro ?_ ?_ | intro _))) <;> (try (first | assumption | contradiction | exact Or.inl trivial | exact Or.inl rfl | exact Or.inr rfl | (simp only [inI, inL]; omega) | omega))
  (apply hG [3] 2000; simp only [w_br_i, w_ite, w_all, w_all0, forall_eq, w_b0, w_b1, ↓reduceIte, w_ent, w_pos, List.replicate_succ, List.replicate_zero, wp_s, wk_s, w_lk_c, w_ld0, w_ldS, w_kp0, w_kp, w_s1, w_s2, w_to, w_if, w_call, w_sw, w_cat, w_cats, w_psh, w_fv, List.contains_cons, List.contains_nil, List.set_cons_zero, List.set_cons_succ, List.length_cons, List.length_nil, List.find?_cons, List.find?_nil, List.take_succ_cons, List.take_zero, List.drop_succ_cons, List.drop_zero, List.reverse_cons, List.reverse_nil, List.nil_append, List.cons_append, Option.map_some, Option.map_none, Nat.reduceAdd, Nat.reduceBEq, Nat.reduceEqDiff, Nat.reduceLT, Nat.reduceLeDiff, Nat.reduceSub, Int.reduceAdd, Int.reduceSub, Int.reduceMul, Int.reduceNeg, Int.reduceToNat, Int.reduceLT, Int.reduceLE, Int.reduceEq, Bool.false_eq_true, Bool.or_false, Bool.false_or, Bool.true_or, Bool.or_true, if_true, if_false, ite_true, ite_false, true_and, and_true, false_and, and_false, true_or, or_true, false_or, or_false, Int.cast_ofNat_Int, Int.toNat_natCast, Int.natCast_add, List.getElem?_cons_zero, List.getElem?_cons_succ, true_implies, forall_const, not_true_eq_false, not_false_eq_true, ne_eq, beq_iff_eq, imp_self, List.length_set, Nat.zero_add, Nat.add_zero, Int.zero_add, Int.add_zero, w1_iconst, w1_istore, w1_iload, w1_iload_n_3, w1_if_icmp, w1_bipush, w1_aload_n_0, w1_getfield, w1_lload_n_1, w1_imul, w1_lushr, w1_l2i, w1_sipush, w1_iand, w1_iastore, w1_dup, w1_dup2, w1_iadd, w1_putfield, w1_putfield2, w1_iinc, w1_goto, w1_return, dX3_append_0, dX3_append_1, dX3_append_3, dX3_append_5, dX3_append_6, dX3_append_9, dX3_append_11, dX3_append_13, dX3_append_16, dX3_append_17, dX3_append_20, dX3_append_22, dX3_append_25, dX3_append_26, dX3_append_29, dX3_append_30, dX3_append_33, dX3_append_34, dX3_append_36, dX3_append_38, dX3_append_39, dX3_append_40, dX3_append_41, dX3_append_44, dX3_append_45, dX3_append_46, dX3_append_47, dX3_append_48, dX3_append_51, dX3_append_52, dX3_append_53, dX3_append_56, dX3_append_59, dX3_append_62, w_flk3_18, w_flk3_9, w_kd_1, w_rf_1_0, w_rf_1_1])
  exact loop more.toNat 0 none (by omega)
def p_X9_letters : List wV → wW → Prop := fun av w => match av with
  | [.inr (.inr (some this)), .inr (.inl z)] => this = 0 ∧ 0 ≤ w 1 2 ∧ w 1 2 ≤ 60
  | _ => False
theorem h_X9_letters : ∀ av w, p_X9_letters av w → ∃ a r, av = vr a :: r ∧ w_kd a = 100 + 9 := by
  intro av w h
  unfold p_X9_letters at h
  split at h
  · refine ⟨_, _, rfl, ?_⟩
    first | (rw [h.1]; rfl) | (rw [h]; rfl)
  · exact h.elim
def o_letters (z len : Int) : Int := if (ltr z 8).2 = true then (if 60 < len + (ltr z 8).1 then -104 else len + (ltr z 8).1) else -102
def q_X9_letters : List wV → wW → Int → wW → Prop := fun av w r w' => match av with
  | [.inr (.inr (some this)), .inr (.inl z)] => r = o_letters z (w 1 2) ∧ w' = if 0 ≤ r then w_app w z (ltr z 8).1.toNat else w
  | _ => False
set_option maxRecDepth 100000 in
set_option maxHeartbeats 4000000 in
theorem c_X9_letters : w_Ct yX9_letters cX9_letters 4 1 1 24 p_X9_letters q_X9_letters := by
  refine w_met (own := RX9) (fl := w_fl9) (gs := w_gs9) (kl := w_kl9) (ki := w_ki9) (cs := [(92, (1, 1, 1, p_X3_lettersIn, q_X3_lettersIn)), (100, (0, 3, 0, p_X3_append, q_X3_append))]) (by decide +kernel) rfl ?_ w_flok9 w_gsok9 w_klok9 w_kiok9 ?_ ?_
  · intro av w h
    unfold p_X9_letters at h
    split at h
    · simp [w_pos, w_cat]
    · exact h.elim
  · exact List.forall_mem_cons.mpr ⟨⟨_, _, w_callS (own := RX9) (idx := 92) c_X3_lettersIn (w_m2 184 (by decide +kernel) (by decide +kernel)) (w_m2 185 (by decide +kernel) (by decide +kernel)) (w_m1 2 (by decide +kernel) (by decide +kernel)) (w_m2 186 (by decide +kernel) (by decide +kernel)) ⟨by decide +kernel, by decide +kernel, by decide +kernel⟩, by decide, by decide⟩, List.forall_mem_cons.mpr ⟨⟨_, _, w_callV (own := RX9) (idx := 100) (ci := 3) c_X3_append rfl rfl h_X3_append (w_m2 187 (by decide +kernel) (by decide +kernel)) (w_m2 188 (by decide +kernel) (by decide +kernel)) (w_m2 189 (by decide +kernel) (by decide +kernel)) (w_m1 2 (by decide +kernel) (by decide +kernel)) (w_m2 190 (by decide +kernel) (by decide +kernel)) ⟨by decide +kernel, by decide +kernel, by decide +kernel⟩, by decide, by decide⟩, fun _ h => absurd h List.not_mem_nil⟩⟩
  intro av w hp
  unfold p_X9_letters at hp
  split at hp
  case h_2 => exact hp.elim
  rename_i this z
  intro G hG
  simp only [w_ent, w_pos, w_cat, Nat.reduceEqDiff, ↓reduceIte, List.length_cons, List.length_nil, Nat.reduceAdd, Nat.reduceSub, List.cons_append, List.nil_append, List.replicate_succ, List.replicate_zero]
  obtain ⟨rfl, hp⟩ := hp
  have hl := ltr_in z 8
  (apply hG [12] 2000; simp only [w_br_i, w_ite, w_all, w_all0, forall_eq, w_b0, w_b1, ↓reduceIte, w_ent, w_pos, List.replicate_succ, List.replicate_zero, wp_s, wk_s, w_lk_c, w_ld0, w_ldS, w_kp0, w_kp, w_s1, w_s2, w_to, w_if, w_call, w_sw, w_cat, w_cats, w_psh, w_fv, List.contains_cons, List.contains_nil, List.set_cons_zero, List.set_cons_succ, List.length_cons, List.length_nil, List.find?_cons, List.find?_nil, List.take_succ_cons, List.take_zero, List.drop_succ_cons, List.drop_zero, List.reverse_cons, List.reverse_nil, List.nil_append, List.cons_append, Option.map_some, Option.map_none, Nat.reduceAdd, Nat.reduceBEq, Nat.reduceEqDiff, Nat.reduceLT, Nat.reduceLeDiff, Nat.reduceSub, Int.reduceAdd, Int.reduceSub, Int.reduceMul, Int.reduceNeg, Int.reduceToNat, Int.reduceLT, Int.reduceLE, Int.reduceEq, Bool.false_eq_true, Bool.or_false, Bool.false_or, Bool.true_or, Bool.or_true, if_true, if_false, ite_true, ite_false, true_and, and_true, false_and, and_false, true_or, or_true, false_or, or_false, Int.cast_ofNat_Int, Int.toNat_natCast, Int.natCast_add, List.getElem?_cons_zero, List.getElem?_cons_succ, true_implies, forall_const, not_true_eq_false, not_false_eq_true, ne_eq, beq_iff_eq, imp_self, List.length_set, Nat.zero_add, Nat.add_zero, Int.zero_add, Int.add_zero, w1_lload_n_1, w1_invokestatic, w1_istore_n_3, w1_iload_n_3, w1_ifCond, w1_bipush, w1_ireturn, w1_aload_n_0, w1_getfield, w1_iadd, w1_if_icmp, w1_invokevirtual, dX9_letters_0, dX9_letters_1, dX9_letters_4, dX9_letters_5, dX9_letters_6, dX9_letters_9, dX9_letters_11, dX9_letters_12, dX9_letters_13, dX9_letters_16, dX9_letters_19, dX9_letters_20, dX9_letters_21, dX9_letters_23, dX9_letters_26, dX9_letters_28, dX9_letters_29, dX9_letters_30, dX9_letters_33, dX9_letters_34, dX9_letters_35, dX9_letters_38, dX9_letters_39, dX9_letters_42, dX9_letters_45, w_flk9_12, w_flk9_96, w_kd_0, w_rf_0_0, w_rf_0_1, w_rf_0_2, w_rf_0_3, w_rf_0_4, w_rf_0_5, w_rf_0_6, w_rf_0_7, w_rf_0_8, w_rf_0_9, w_rf_0_10, w_kd_1, w_rf_1_0, w_rf_1_1, p_X3_lettersIn, q_X3_lettersIn, p_X3_append, q_X3_append])
  have c12 : (ltr z 8).2 = true → G 12 [some (vr 0), some (vl z), none, some (vi (ltr z 8).1)] [] w := by
    intro q
    (apply hG [12] 2000; simp only [w_br_i, w_ite, w_all, w_all0, forall_eq, w_b0, w_b1, ↓reduceIte, w_ent, w_pos, List.replicate_succ, List.replicate_zero, wp_s, wk_s, w_lk_c, w_ld0, w_ldS, w_kp0, w_kp, w_s1, w_s2, w_to, w_if, w_call, w_sw, w_cat, w_cats, w_psh, w_fv, List.contains_cons, List.contains_nil, List.set_cons_zero, List.set_cons_succ, List.length_cons, List.length_nil, List.find?_cons, List.find?_nil, List.take_succ_cons, List.take_zero, List.drop_succ_cons, List.drop_zero, List.reverse_cons, List.reverse_nil, List.nil_append, List.cons_append, Option.map_some, Option.map_none, Nat.reduceAdd, Nat.reduceBEq, Nat.reduceEqDiff, Nat.reduceLT, Nat.reduceLeDiff, Nat.reduceSub, Int.reduceAdd, Int.reduceSub, Int.reduceMul, Int.reduceNeg, Int.reduceToNat, Int.reduceLT, Int.reduceLE, Int.reduceEq, Bool.false_eq_true, Bool.or_false, Bool.false_or, Bool.true_or, Bool.or_true, if_true, if_false, ite_true, ite_false, true_and, and_true, false_and, and_false, true_or, or_true, false_or, or_false, Int.cast_ofNat_Int, Int.toNat_natCast, Int.natCast_add, List.getElem?_cons_zero, List.getElem?_cons_succ, true_implies, forall_const, not_true_eq_false, not_false_eq_true, ne_eq, beq_iff_eq, imp_self, List.length_set, Nat.zero_add, Nat.add_zero, Int.zero_add, Int.add_zero, w1_lload_n_1, w1_invokestatic, w1_istore_n_3, w1_iload_n_3, w1_ifCond, w1_bipush, w1_ireturn, w1_aload_n_0, w1_getfield, w1_iadd, w1_if_icmp, w1_invokevirtual, dX9_letters_0, dX9_letters_1, dX9_letters_4, dX9_letters_5, dX9_letters_6, dX9_letters_9, dX9_letters_11, dX9_letters_12, dX9_letters_13, dX9_letters_16, dX9_letters_19, dX9_letters_20, dX9_letters_21, dX9_letters_23, dX9_letters_26, dX9_letters_28, dX9_letters_29, dX9_letters_30, dX9_letters_33, dX9_letters_34, dX9_letters_35, dX9_letters_38, dX9_letters_39, dX9_letters_42, dX9_letters_45, w_flk9_12, w_flk9_96, w_kd_0, w_rf_0_0, w_rf_0_1, w_rf_0_2, w_rf_0_3, w_rf_0_4, w_rf_0_5, w_rf_0_6, w_rf_0_7, w_rf_0_8, w_rf_0_9, w_rf_0_10, w_kd_1, w_rf_1_0, w_rf_1_1, p_X3_append, q_X3_append])
    simp only [w_app_len]
    (repeat' (with_reducible (first | refine And.intro ?_ ?_ | intro _))) <;> (try (first | assumption | contradiction | exact Or.inl trivial | exact Or.inl rfl | exact Or.inr rfl | (simp only [inI, inL]; omega) | omega))
    · simp only [q_X9_letters, o_letters, if_pos q]
      ((repeat' (first | refine And.intro ?_ ?_ | split)) <;> (first | rfl | trivial | assumption | contradiction | omega | (exfalso; omega)))
    · simp only [q_X9_letters, o_letters, if_pos q]
      ((repeat' (first | refine And.intro ?_ ?_ | split)) <;> (first | rfl | trivial | assumption | contradiction | omega | (exfalso; omega)))
  by_cases q : (ltr z 8).2 = true
  · simp only [if_pos q]
    (repeat' (with_reducible (first | refine And.intro ?_ ?_ | intro _))) <;> (try (first | assumption | contradiction | exact Or.inl trivial | exact Or.inl rfl | exact Or.inr rfl | (simp only [inI, inL]; omega) | omega))
    exact c12 q
  · simp only [if_neg q]
    (repeat' (with_reducible (first | refine And.intro ?_ ?_ | intro _))) <;> (try (first | assumption | contradiction | exact Or.inl trivial | exact Or.inl rfl | exact Or.inr rfl | (simp only [inI, inL]; omega) | omega))
    simp [q_X9_letters, o_letters, q]
/-! the same in the reference -/
def w_shk (z : Int) : Nat → Int
  | 0 => z
  | k + 1 => w_lushr (w_shk z k) 8
theorem w_lushr8 (x : Int) : w_lushr x 8 = (x % 2 ^ 64) / 2 ^ 8 := by
  unfold w_lushr
  have h1 : ((Int32.ofInt 8).toInt64.toUInt64 &&& Int64.toUInt64 63) = UInt64.ofNat 8 := by decide +kernel
  rw [h1]
  have h3 : ((Int64.ofInt x).toUInt64 >>> UInt64.ofNat 8).toNat = (x % 2 ^ 64).toNat / 2 ^ 8 := by
    rw [UInt64.toNat_shiftRight, Nat.shiftRight_eq_div_pow]
    have e1 : (Int64.ofInt x).toUInt64.toNat = (x % 2 ^ 64).toNat := by
      show (BitVec.ofInt 64 x).toNat = _
      rw [BitVec.toNat_ofInt]
      rfl
    rw [e1]
    rfl
  generalize (Int64.ofInt x).toUInt64 >>> UInt64.ofNat 8 = u at h3
  have : u.toInt64.toInt = (u.toNat : Int).bmod (2 ^ 64) := by
    show u.toBitVec.toInt = _
    rw [BitVec.toInt_eq_toNat_bmod]
    rfl
  rw [this, h3, Int.bmod_def]
  omega
theorem w_landl255 (x : Int) : w_landl x 255 = x % 256 := by
  unfold w_landl
  have h : (Int64.ofInt x &&& Int64.ofInt 255).toInt = (((Int64.ofInt x).toBitVec &&& (255#64))).toInt := rfl
  rw [h, show (Int64.ofInt x).toBitVec = BitVec.ofInt 64 x from rfl]
  have h2 : (BitVec.ofInt 64 x &&& 255#64) = BitVec.ofNat 64 ((x % 256).toNat) := by
    apply BitVec.eq_of_toNat_eq
    rw [BitVec.toNat_and, BitVec.toNat_ofInt, BitVec.toNat_ofNat, BitVec.toNat_ofNat, show 255 % 2 ^ 64 = 2 ^ 8 - 1 by decide, Nat.and_two_pow_sub_one_eq_mod]
    omega
  rw [h2, BitVec.toInt_ofNat', Int.bmod_def]
  omega
theorem w_shk_eq (z : Int) : ∀ k : Nat, k < 8 → w_shk z (k + 1) = (z % 2 ^ 64) / 2 ^ (8 * (k + 1))
  | 0, _ => by simp [w_shk, w_lushr8]
  | k + 1, h => by
    have ih := w_shk_eq z k (by omega)
    rw [w_shk, ih, w_lushr8]
    match k, h with
    | 0, _ => simp; omega
    | 1, _ => simp; omega
    | 2, _ => simp; omega
    | 3, _ => simp; omega
    | 4, _ => simp; omega
    | 5, _ => simp; omega
    | 6, _ => simp; omega
    | n + 7, h => omega
theorem w_shk_byt (z : Int) (k : Nat) (h : k < 8) : w_landl (w_shk z k) 255 = byt z k := by
  rw [w_landl255]
  unfold byt
  match k, h with
  | 0, _ => simp [w_shk]
  | 1, _ => rw [w_shk_eq z 0 (by omega)]; simp; omega
  | 2, _ => rw [w_shk_eq z 1 (by omega)]; simp; omega
  | 3, _ => rw [w_shk_eq z 2 (by omega)]; simp; omega
  | 4, _ => rw [w_shk_eq z 3 (by omega)]; simp; omega
  | 5, _ => rw [w_shk_eq z 4 (by omega)]; simp; omega
  | 6, _ => rw [w_shk_eq z 5 (by omega)]; simp; omega
  | 7, _ => rw [w_shk_eq z 6 (by omega)]; simp; omega
  | n + 8, h => omega
theorem w_bytl {z : Int} {k : Nat} (hk : k < 8) : w_landl (w_lushr z (8 * k)) 255 = byt z k := by
  rw [w_landl255, ← w_byt hk, w_and255]
def w_appM (w : wW) (z : Int) : Nat → wW
  | 0 => w
  | n + 1 => w_up (w_up (w_appM w z n) 136 (w 135 1 + n).toNat (byt z n)) 135 1 (w 135 1 + n + 1)
theorem w_appM_len (w : wW) (z : Int) : ∀ n : Nat, w_appM w z n 135 1 = w 135 1 + n
  | 0 => by simp [w_appM]
  | n + 1 => by simp [w_appM, w_up]; omega
def p_X10_letters : List wV → wW → Prop := fun av w => match av with
  | [.inr (.inr (some this)), .inr (.inl z)] => this = 135 ∧ 0 ≤ w 135 1 ∧ w 135 1 ≤ 60
  | _ => False
theorem h_X10_letters : ∀ av w, p_X10_letters av w → ∃ a r, av = vr a :: r ∧ w_kd a = 100 + 10 := by
  intro av w h
  unfold p_X10_letters at h
  split at h
  · refine ⟨_, _, rfl, ?_⟩
    first | (rw [h.1]; rfl) | (rw [h]; rfl)
  · exact h.elim
def q_X10_letters : List wV → wW → Int → wW → Prop := fun av w r w' => match av with
  | [.inr (.inr (some this)), .inr (.inl z)] => r = o_letters z (w 135 1) ∧ w' = if 0 ≤ r then w_appM w z (ltr z 8).1.toNat else w
  | _ => False
set_option maxRecDepth 100000 in
set_option maxHeartbeats 4000000 in
theorem c_X10_letters : w_Ct yX10_letters cX10_letters 9 1 0 0 p_X10_letters q_X10_letters := by
  refine w_met (own := RX10) (fl := w_fl10) (gs := w_gs10) (kl := w_kl10) (ki := w_ki10) (cs := []) (by decide +kernel) rfl ?_ w_flok10 w_gsok10 w_klok10 w_kiok10 ?_ ?_
  · intro av w h
    unfold p_X10_letters at h
    split at h
    · simp [w_pos, w_cat]
    · exact h.elim
  · exact fun _ h => absurd h List.not_mem_nil
  intro av w hp
  unfold p_X10_letters at hp
  split at hp
  case h_2 => exact hp.elim
  rename_i this z
  intro G hG
  simp only [w_ent, w_pos, w_cat, Nat.reduceEqDiff, ↓reduceIte, List.length_cons, List.length_nil, Nat.reduceAdd, Nat.reduceSub, List.cons_append, List.nil_append, List.replicate_succ, List.replicate_zero]
  obtain ⟨rfl, hp⟩ := hp
  have hl := ltr_in z 8
  have loop2 : ∀ n i : Nat, i + n = (ltr z 8).1.toNat → ∀ x4 x5 x8 : Option wV, (ltr z 8).2 = true → w 135 1 + (ltr z 8).1 ≤ 60 → G 108 [some (vr 135), some (vl z), none, some (vi (ltr z 8).1), x4, x5, none, some (vi i), x8] [] (w_appM w z i) := by
    intro n
    induction n with
    | zero =>
      intro i h2 x4 x5 x8 hg hle
      have hm := w_appM_len w z i
      (apply hG [108, 11] 2000; simp only [w_br_i, w_ite, w_all, w_all0, forall_eq, w_b0, w_b1, ↓reduceIte, w_ent, w_pos, List.replicate_succ, List.replicate_zero, wp_s, wk_s, w_lk_c, w_ld0, w_ldS, w_kp0, w_kp, w_s1, w_s2, w_to, w_if, w_call, w_sw, w_cat, w_cats, w_psh, w_fv, List.contains_cons, List.contains_nil, List.set_cons_zero, List.set_cons_succ, List.length_cons, List.length_nil, List.find?_cons, List.find?_nil, List.take_succ_cons, List.take_zero, List.drop_succ_cons, List.drop_zero, List.reverse_cons, List.reverse_nil, List.nil_append, List.cons_append, Option.map_some, Option.map_none, Nat.reduceAdd, Nat.reduceBEq, Nat.reduceEqDiff, Nat.reduceLT, Nat.reduceLeDiff, Nat.reduceSub, Int.reduceAdd, Int.reduceSub, Int.reduceMul, Int.reduceNeg, Int.reduceToNat, Int.reduceLT, Int.reduceLE, Int.reduceEq, Bool.false_eq_true, Bool.or_false, Bool.false_or, Bool.true_or, Bool.or_true, if_true, if_false, ite_true, ite_false, true_and, and_true, false_and, and_false, true_or, or_true, false_or, or_false, Int.cast_ofNat_Int, Int.toNat_natCast, Int.natCast_add, List.getElem?_cons_zero, List.getElem?_cons_succ, true_implies, forall_const, not_true_eq_false, not_false_eq_true, ne_eq, beq_iff_eq, imp_self, List.length_set, Nat.zero_add, Nat.add_zero, Int.zero_add, Int.add_zero, w1_iconst, w1_istore_n_3, w1_istore, w1_lload_n_1, w1_lstore, w1_iload, w1_bipush, w1_if_icmp, w1_lload, w1_ldc2_w, w1_land, w1_l2i, w1_lushr, w1_ifCond, w1_iload_n_3, w1_goto, w1_iadd, w1_iinc, w1_ireturn, w1_aload_n_0, w1_getfield, w1_imul, w1_iastore, w1_dup, w1_dup2, w1_putfield, w1_putfield2, dX10_letters_0, dX10_letters_1, dX10_letters_2, dX10_letters_3, dX10_letters_5, dX10_letters_6, dX10_letters_8, dX10_letters_9, dX10_letters_11, dX10_letters_13, dX10_letters_15, dX10_letters_18, dX10_letters_20, dX10_letters_23, dX10_letters_24, dX10_letters_25, dX10_letters_27, dX10_letters_29, dX10_letters_31, dX10_letters_32, dX10_letters_34, dX10_letters_36, dX10_letters_39, dX10_letters_41, dX10_letters_43, dX10_letters_46, dX10_letters_48, dX10_letters_51, dX10_letters_52, dX10_letters_54, dX10_letters_57, dX10_letters_58, dX10_letters_61, dX10_letters_62, dX10_letters_64, dX10_letters_65, dX10_letters_67, dX10_letters_70, dX10_letters_71, dX10_letters_74, dX10_letters_75, dX10_letters_76, dX10_letters_77, dX10_letters_80, dX10_letters_83, dX10_letters_85, dX10_letters_88, dX10_letters_90, dX10_letters_91, dX10_letters_92, dX10_letters_95, dX10_letters_96, dX10_letters_97, dX10_letters_99, dX10_letters_102, dX10_letters_104, dX10_letters_105, dX10_letters_106, dX10_letters_108, dX10_letters_110, dX10_letters_111, dX10_letters_114, dX10_letters_115, dX10_letters_118, dX10_letters_119, dX10_letters_122, dX10_letters_123, dX10_letters_125, dX10_letters_127, dX10_letters_128, dX10_letters_129, dX10_letters_132, dX10_letters_133, dX10_letters_134, dX10_letters_135, dX10_letters_136, dX10_letters_137, dX10_letters_140, dX10_letters_141, dX10_letters_142, dX10_letters_145, dX10_letters_148, dX10_letters_151, dX10_letters_152, dX10_letters_155, w_flk10_7, w_flk10_80, w_klk10_78, w_kd_135, w_rf_135_0, w_rf_135_2, w_rf_135_3, w_rf_135_8, w_rf_135_12, w_rf_135_14, w_rf_135_15, w_rf_135_16, w_rf_135_24, w_rf_135_25, w_rf_135_26, w_rf_135_27, w_rf_135_28, w_rf_135_29, w_rf_135_30, w_rf_135_33, w_rf_135_34, w_rf_135_39, w_rf_135_40, w_rf_135_41, w_rf_135_42, w_kd_136, w_ln_136, hm])
      (repeat' (with_reducible (first | refine And.intro ?_ ?_ | intro _))) <;> (try (first | assumption | contradiction | exact Or.inl trivial | exact Or.inl rfl | exact Or.inr rfl | (simp only [inI, inL]; omega) | omega))
      have e : i = (ltr z 8).1.toNat := by omega
      subst e
      simp only [q_X10_letters, o_letters, if_pos hg]
      ((repeat' (first | refine And.intro ?_ ?_ | split)) <;> (first | rfl | trivial | assumption | contradiction | omega | (exfalso; omega)))
    | succ n ih =>
      intro i h2 x4 x5 x8 hg hle
      have hm := w_appM_len w z i
      have hi : i < 8 := by omega
      (apply hG [108, 11] 2000; simp only [w_br_i, w_ite, w_all, w_all0, forall_eq, w_b0, w_b1, ↓reduceIte, w_ent, w_pos, List.replicate_succ, List.replicate_zero, wp_s, wk_s, w_lk_c, w_ld0, w_ldS, w_kp0, w_kp, w_s1, w_s2, w_to, w_if, w_call, w_sw, w_cat, w_cats, w_psh, w_fv, List.contains_cons, List.contains_nil, List.set_cons_zero, List.set_cons_succ, List.length_cons, List.length_nil, List.find?_cons, List.find?_nil, List.take_succ_cons, List.take_zero, List.drop_succ_cons, List.drop_zero, List.reverse_cons, List.reverse_nil, List.nil_append, List.cons_append, Option.map_some, Option.map_none, Nat.reduceAdd, Nat.reduceBEq, Nat.reduceEqDiff, Nat.reduceLT, Nat.reduceLeDiff, Nat.reduceSub, Int.reduceAdd, Int.reduceSub, Int.reduceMul, Int.reduceNeg, Int.reduceToNat, Int.reduceLT, Int.reduceLE, Int.reduceEq, Bool.false_eq_true, Bool.or_false, Bool.false_or, Bool.true_or, Bool.or_true, if_true, if_false, ite_true, ite_false, true_and, and_true, false_and, and_false, true_or, or_true, false_or, or_false, Int.cast_ofNat_Int, Int.toNat_natCast, Int.natCast_add, List.getElem?_cons_zero, List.getElem?_cons_succ, true_implies, forall_const, not_true_eq_false, not_false_eq_true, ne_eq, beq_iff_eq, imp_self, List.length_set, Nat.zero_add, Nat.add_zero, Int.zero_add, Int.add_zero, w1_iconst, w1_istore_n_3, w1_istore, w1_lload_n_1, w1_lstore, w1_iload, w1_bipush, w1_if_icmp, w1_lload, w1_ldc2_w, w1_land, w1_l2i, w1_lushr, w1_ifCond, w1_iload_n_3, w1_goto, w1_iadd, w1_iinc, w1_ireturn, w1_aload_n_0, w1_getfield, w1_imul, w1_iastore, w1_dup, w1_dup2, w1_putfield, w1_putfield2, dX10_letters_0, dX10_letters_1, dX10_letters_2, dX10_letters_3, dX10_letters_5, dX10_letters_6, dX10_letters_8, dX10_letters_9, dX10_letters_11, dX10_letters_13, dX10_letters_15, dX10_letters_18, dX10_letters_20, dX10_letters_23, dX10_letters_24, dX10_letters_25, dX10_letters_27, dX10_letters_29, dX10_letters_31, dX10_letters_32, dX10_letters_34, dX10_letters_36, dX10_letters_39, dX10_letters_41, dX10_letters_43, dX10_letters_46, dX10_letters_48, dX10_letters_51, dX10_letters_52, dX10_letters_54, dX10_letters_57, dX10_letters_58, dX10_letters_61, dX10_letters_62, dX10_letters_64, dX10_letters_65, dX10_letters_67, dX10_letters_70, dX10_letters_71, dX10_letters_74, dX10_letters_75, dX10_letters_76, dX10_letters_77, dX10_letters_80, dX10_letters_83, dX10_letters_85, dX10_letters_88, dX10_letters_90, dX10_letters_91, dX10_letters_92, dX10_letters_95, dX10_letters_96, dX10_letters_97, dX10_letters_99, dX10_letters_102, dX10_letters_104, dX10_letters_105, dX10_letters_106, dX10_letters_108, dX10_letters_110, dX10_letters_111, dX10_letters_114, dX10_letters_115, dX10_letters_118, dX10_letters_119, dX10_letters_122, dX10_letters_123, dX10_letters_125, dX10_letters_127, dX10_letters_128, dX10_letters_129, dX10_letters_132, dX10_letters_133, dX10_letters_134, dX10_letters_135, dX10_letters_136, dX10_letters_137, dX10_letters_140, dX10_letters_141, dX10_letters_142, dX10_letters_145, dX10_letters_148, dX10_letters_151, dX10_letters_152, dX10_letters_155, w_flk10_7, w_flk10_80, w_klk10_78, w_kd_135, w_rf_135_0, w_rf_135_2, w_rf_135_3, w_rf_135_8, w_rf_135_12, w_rf_135_14, w_rf_135_15, w_rf_135_16, w_rf_135_24, w_rf_135_25, w_rf_135_26, w_rf_135_27, w_rf_135_28, w_rf_135_29, w_rf_135_30, w_rf_135_33, w_rf_135_34, w_rf_135_39, w_rf_135_40, w_rf_135_41, w_rf_135_42, w_kd_136, w_ln_136, hm, up_k, up_eq])
      rw [w_bytl hi]
      have e := ih (i + 1) (by omega) x4 x5 x8 hg hle
      simp only [w_appM, Int.natCast_add, Int.cast_ofNat_Int] at e
      (repeat' (with_reducible (first | refine And.intro ?_ ?_ | intro _))) <;> (try (first | assumption | contradiction | exact Or.inl trivial | exact Or.inl rfl | exact Or.inr rfl | (simp only [inI, inL]; omega) | omega))
  have loop : ∀ n i : Nat, i + n = 8 → ∀ x8 : Option wV, G 11 [some (vr 135), some (vl z), none, some (vi (ltr z i).1), some (vi (if (ltr z i).2 = true then 1 else 0)), some (vl (w_shk z i)), none, some (vi i), x8] [] w := by
    intro n
    induction n with
    | zero =>
      intro i h2 x8
      have e : i = 8 := by omega
      subst e
      have e := loop2 (ltr z 8).1.toNat 0 (by omega) (some (vi 1)) (some (vl (w_shk z 8))) x8
      simp only [w_appM] at e
      by_cases hg : (ltr z 8).2 = true
      · simp only [if_pos hg]
        (apply hG [11, 18, 108] 2000; simp only [w_br_i, w_ite, w_all, w_all0, forall_eq, w_b0, w_b1, ↓reduceIte, w_ent, w_pos, List.replicate_succ, List.replicate_zero, wp_s, wk_s, w_lk_c, w_ld0, w_ldS, w_kp0, w_kp, w_s1, w_s2, w_to, w_if, w_call, w_sw, w_cat, w_cats, w_psh, w_fv, List.contains_cons, List.contains_nil, List.set_cons_zero, List.set_cons_succ, List.length_cons, List.length_nil, List.find?_cons, List.find?_nil, List.take_succ_cons, List.take_zero, List.drop_succ_cons, List.drop_zero, List.reverse_cons, List.reverse_nil, List.nil_append, List.cons_append, Option.map_some, Option.map_none, Nat.reduceAdd, Nat.reduceBEq, Nat.reduceEqDiff, Nat.reduceLT, Nat.reduceLeDiff, Nat.reduceSub, Int.reduceAdd, Int.reduceSub, Int.reduceMul, Int.reduceNeg, Int.reduceToNat, Int.reduceLT, Int.reduceLE, Int.reduceEq, Bool.false_eq_true, Bool.or_false, Bool.false_or, Bool.true_or, Bool.or_true, if_true, if_false, ite_true, ite_false, true_and, and_true, false_and, and_false, true_or, or_true, false_or, or_false, Int.cast_ofNat_Int, Int.toNat_natCast, Int.natCast_add, List.getElem?_cons_zero, List.getElem?_cons_succ, true_implies, forall_const, not_true_eq_false, not_false_eq_true, ne_eq, beq_iff_eq, imp_self, List.length_set, Nat.zero_add, Nat.add_zero, Int.zero_add, Int.add_zero, w1_iconst, w1_istore_n_3, w1_istore, w1_lload_n_1, w1_lstore, w1_iload, w1_bipush, w1_if_icmp, w1_lload, w1_ldc2_w, w1_land, w1_l2i, w1_lushr, w1_ifCond, w1_iload_n_3, w1_goto, w1_iadd, w1_iinc, w1_ireturn, w1_aload_n_0, w1_getfield, w1_imul, w1_iastore, w1_dup, w1_dup2, w1_putfield, w1_putfield2, dX10_letters_0, dX10_letters_1, dX10_letters_2, dX10_letters_3, dX10_letters_5, dX10_letters_6, dX10_letters_8, dX10_letters_9, dX10_letters_11, dX10_letters_13, dX10_letters_15, dX10_letters_18, dX10_letters_20, dX10_letters_23, dX10_letters_24, dX10_letters_25, dX10_letters_27, dX10_letters_29, dX10_letters_31, dX10_letters_32, dX10_letters_34, dX10_letters_36, dX10_letters_39, dX10_letters_41, dX10_letters_43, dX10_letters_46, dX10_letters_48, dX10_letters_51, dX10_letters_52, dX10_letters_54, dX10_letters_57, dX10_letters_58, dX10_letters_61, dX10_letters_62, dX10_letters_64, dX10_letters_65, dX10_letters_67, dX10_letters_70, dX10_letters_71, dX10_letters_74, dX10_letters_75, dX10_letters_76, dX10_letters_77, dX10_letters_80, dX10_letters_83, dX10_letters_85, dX10_letters_88, dX10_letters_90, dX10_letters_91, dX10_letters_92, dX10_letters_95, dX10_letters_96, dX10_letters_97, dX10_letters_99, dX10_letters_102, dX10_letters_104, dX10_letters_105, dX10_letters_106, dX10_letters_108, dX10_letters_110, dX10_letters_111, dX10_letters_114, dX10_letters_115, dX10_letters_118, dX10_letters_119, dX10_letters_122, dX10_letters_123, dX10_letters_125, dX10_letters_127, dX10_letters_128, dX10_letters_129, dX10_letters_132, dX10_letters_133, dX10_letters_134, dX10_letters_135, dX10_letters_136, dX10_letters_137, dX10_letters_140, dX10_letters_141, dX10_letters_142, dX10_letters_145, dX10_letters_148, dX10_letters_151, dX10_letters_152, dX10_letters_155, w_flk10_7, w_flk10_80, w_klk10_78, w_kd_135, w_rf_135_0, w_rf_135_2, w_rf_135_3, w_rf_135_8, w_rf_135_12, w_rf_135_14, w_rf_135_15, w_rf_135_16, w_rf_135_24, w_rf_135_25, w_rf_135_26, w_rf_135_27, w_rf_135_28, w_rf_135_29, w_rf_135_30, w_rf_135_33, w_rf_135_34, w_rf_135_39, w_rf_135_40, w_rf_135_41, w_rf_135_42])
        (repeat' (with_reducible (first | refine And.intro ?_ ?_ | intro _))) <;> (try (first | assumption | contradiction | exact Or.inl trivial | exact Or.inl rfl | exact Or.inr rfl | (simp only [inI, inL]; omega) | omega))
        · exact e hg (by omega)
        · simp [q_X10_letters, o_letters, hg]
          omega
      · simp only [if_neg hg]
        (apply hG [11, 18, 108] 2000; simp only [w_br_i, w_ite, w_all, w_all0, forall_eq, w_b0, w_b1, ↓reduceIte, w_ent, w_pos, List.replicate_succ, List.replicate_zero, wp_s, wk_s, w_lk_c, w_ld0, w_ldS, w_kp0, w_kp, w_s1, w_s2, w_to, w_if, w_call, w_sw, w_cat, w_cats, w_psh, w_fv, List.contains_cons, List.contains_nil, List.set_cons_zero, List.set_cons_succ, List.length_cons, List.length_nil, List.find?_cons, List.find?_nil, List.take_succ_cons, List.take_zero, List.drop_succ_cons, List.drop_zero, List.reverse_cons, List.reverse_nil, List.nil_append, List.cons_append, Option.map_some, Option.map_none, Nat.reduceAdd, Nat.reduceBEq, Nat.reduceEqDiff, Nat.reduceLT, Nat.reduceLeDiff, Nat.reduceSub, Int.reduceAdd, Int.reduceSub, Int.reduceMul, Int.reduceNeg, Int.reduceToNat, Int.reduceLT, Int.reduceLE, Int.reduceEq, Bool.false_eq_true, Bool.or_false, Bool.false_or, Bool.true_or, Bool.or_true, if_true, if_false, ite_true, ite_false, true_and, and_true, false_and, and_false, true_or, or_true, false_or, or_false, Int.cast_ofNat_Int, Int.toNat_natCast, Int.natCast_add, List.getElem?_cons_zero, List.getElem?_cons_succ, true_implies, forall_const, not_true_eq_false, not_false_eq_true, ne_eq, beq_iff_eq, imp_self, List.length_set, Nat.zero_add, Nat.add_zero, Int.zero_add, Int.add_zero, w1_iconst, w1_istore_n_3, w1_istore, w1_lload_n_1, w1_lstore, w1_iload, w1_bipush, w1_if_icmp, w1_lload, w1_ldc2_w, w1_land, w1_l2i, w1_lushr, w1_ifCond, w1_iload_n_3, w1_goto, w1_iadd, w1_iinc, w1_ireturn, w1_aload_n_0, w1_getfield, w1_imul, w1_iastore, w1_dup, w1_dup2, w1_putfield, w1_putfield2, dX10_letters_0, dX10_letters_1, dX10_letters_2, dX10_letters_3, dX10_letters_5, dX10_letters_6, dX10_letters_8, dX10_letters_9, dX10_letters_11, dX10_letters_13, dX10_letters_15, dX10_letters_18, dX10_letters_20, dX10_letters_23, dX10_letters_24, dX10_letters_25, dX10_letters_27, dX10_letters_29, dX10_letters_31, dX10_letters_32, dX10_letters_34, dX10_letters_36, dX10_letters_39, dX10_letters_41, dX10_letters_43, dX10_letters_46, dX10_letters_48, dX10_letters_51, dX10_letters_52, dX10_letters_54, dX10_letters_57, dX10_letters_58, dX10_letters_61, dX10_letters_62, dX10_letters_64, dX10_letters_65, dX10_letters_67, dX10_letters_70, dX10_letters_71, dX10_letters_74, dX10_letters_75, dX10_letters_76, dX10_letters_77, dX10_letters_80, dX10_letters_83, dX10_letters_85, dX10_letters_88, dX10_letters_90, dX10_letters_91, dX10_letters_92, dX10_letters_95, dX10_letters_96, dX10_letters_97, dX10_letters_99, dX10_letters_102, dX10_letters_104, dX10_letters_105, dX10_letters_106, dX10_letters_108, dX10_letters_110, dX10_letters_111, dX10_letters_114, dX10_letters_115, dX10_letters_118, dX10_letters_119, dX10_letters_122, dX10_letters_123, dX10_letters_125, dX10_letters_127, dX10_letters_128, dX10_letters_129, dX10_letters_132, dX10_letters_133, dX10_letters_134, dX10_letters_135, dX10_letters_136, dX10_letters_137, dX10_letters_140, dX10_letters_141, dX10_letters_142, dX10_letters_145, dX10_letters_148, dX10_letters_151, dX10_letters_152, dX10_letters_155, w_flk10_7, w_flk10_80, w_klk10_78, w_kd_135, w_rf_135_0, w_rf_135_2, w_rf_135_3, w_rf_135_8, w_rf_135_12, w_rf_135_14, w_rf_135_15, w_rf_135_16, w_rf_135_24, w_rf_135_25, w_rf_135_26, w_rf_135_27, w_rf_135_28, w_rf_135_29, w_rf_135_30, w_rf_135_33, w_rf_135_34, w_rf_135_39, w_rf_135_40, w_rf_135_41, w_rf_135_42])
        (repeat' (with_reducible (first | refine And.intro ?_ ?_ | intro _))) <;> (try (first | assumption | contradiction | exact Or.inl trivial | exact Or.inl rfl | exact Or.inr rfl | (simp only [inI, inL]; omega) | omega))
        simp [q_X10_letters, o_letters, hg]
    | succ n ih =>
      intro i h2 x8
      have hb := byt_in z i
      have hli := ltr_in z i
      have hi : i < 8 := by omega
      have e := ih (i + 1) (by omega) (some (vi (byt z i)))
      simp only [ltr, w_shk, Int.natCast_add, Int.cast_ofNat_Int] at e
      have e62 : ∀ g : Int, g = (if ((ltr z i).2 && decide (byt z i ≤ 126) && (decide (byt z i = 0) || decide ((ltr z i).1 = i))) = true then 1 else 0) → ∀ x4, G 62 [some (vr 135), some (vl z), none, some (vi (ltr z i).1), x4, some (vl (w_lushr (w_shk z i) 8)), none, some (vi i), some (vi (byt z i))] [vi g] w := by
        intro g hg x4
        (apply hG [11, 62, 108] 2000; simp only [w_br_i, w_ite, w_all, w_all0, forall_eq, w_b0, w_b1, ↓reduceIte, w_ent, w_pos, List.replicate_succ, List.replicate_zero, wp_s, wk_s, w_lk_c, w_ld0, w_ldS, w_kp0, w_kp, w_s1, w_s2, w_to, w_if, w_call, w_sw, w_cat, w_cats, w_psh, w_fv, List.contains_cons, List.contains_nil, List.set_cons_zero, List.set_cons_succ, List.length_cons, List.length_nil, List.find?_cons, List.find?_nil, List.take_succ_cons, List.take_zero, List.drop_succ_cons, List.drop_zero, List.reverse_cons, List.reverse_nil, List.nil_append, List.cons_append, Option.map_some, Option.map_none, Nat.reduceAdd, Nat.reduceBEq, Nat.reduceEqDiff, Nat.reduceLT, Nat.reduceLeDiff, Nat.reduceSub, Int.reduceAdd, Int.reduceSub, Int.reduceMul, Int.reduceNeg, Int.reduceToNat, Int.reduceLT, Int.reduceLE, Int.reduceEq, Bool.false_eq_true, Bool.or_false, Bool.false_or, Bool.true_or, Bool.or_true, if_true, if_false, ite_true, ite_false, true_and, and_true, false_and, and_false, true_or, or_true, false_or, or_false, Int.cast_ofNat_Int, Int.toNat_natCast, Int.natCast_add, List.getElem?_cons_zero, List.getElem?_cons_succ, true_implies, forall_const, not_true_eq_false, not_false_eq_true, ne_eq, beq_iff_eq, imp_self, List.length_set, Nat.zero_add, Nat.add_zero, Int.zero_add, Int.add_zero, w1_iconst, w1_istore_n_3, w1_istore, w1_lload_n_1, w1_lstore, w1_iload, w1_bipush, w1_if_icmp, w1_lload, w1_ldc2_w, w1_land, w1_l2i, w1_lushr, w1_ifCond, w1_iload_n_3, w1_goto, w1_iadd, w1_iinc, w1_ireturn, w1_aload_n_0, w1_getfield, w1_imul, w1_iastore, w1_dup, w1_dup2, w1_putfield, w1_putfield2, dX10_letters_0, dX10_letters_1, dX10_letters_2, dX10_letters_3, dX10_letters_5, dX10_letters_6, dX10_letters_8, dX10_letters_9, dX10_letters_11, dX10_letters_13, dX10_letters_15, dX10_letters_18, dX10_letters_20, dX10_letters_23, dX10_letters_24, dX10_letters_25, dX10_letters_27, dX10_letters_29, dX10_letters_31, dX10_letters_32, dX10_letters_34, dX10_letters_36, dX10_letters_39, dX10_letters_41, dX10_letters_43, dX10_letters_46, dX10_letters_48, dX10_letters_51, dX10_letters_52, dX10_letters_54, dX10_letters_57, dX10_letters_58, dX10_letters_61, dX10_letters_62, dX10_letters_64, dX10_letters_65, dX10_letters_67, dX10_letters_70, dX10_letters_71, dX10_letters_74, dX10_letters_75, dX10_letters_76, dX10_letters_77, dX10_letters_80, dX10_letters_83, dX10_letters_85, dX10_letters_88, dX10_letters_90, dX10_letters_91, dX10_letters_92, dX10_letters_95, dX10_letters_96, dX10_letters_97, dX10_letters_99, dX10_letters_102, dX10_letters_104, dX10_letters_105, dX10_letters_106, dX10_letters_108, dX10_letters_110, dX10_letters_111, dX10_letters_114, dX10_letters_115, dX10_letters_118, dX10_letters_119, dX10_letters_122, dX10_letters_123, dX10_letters_125, dX10_letters_127, dX10_letters_128, dX10_letters_129, dX10_letters_132, dX10_letters_133, dX10_letters_134, dX10_letters_135, dX10_letters_136, dX10_letters_137, dX10_letters_140, dX10_letters_141, dX10_letters_142, dX10_letters_145, dX10_letters_148, dX10_letters_151, dX10_letters_152, dX10_letters_155, w_flk10_7, w_flk10_80, w_klk10_78, w_kd_135, w_rf_135_0, w_rf_135_2, w_rf_135_3, w_rf_135_8, w_rf_135_12, w_rf_135_14, w_rf_135_15, w_rf_135_16, w_rf_135_24, w_rf_135_25, w_rf_135_26, w_rf_135_27, w_rf_135_28, w_rf_135_29, w_rf_135_30, w_rf_135_33, w_rf_135_34, w_rf_135_39, w_rf_135_40, w_rf_135_41, w_rf_135_42])
        rw [hg]
        by_cases h0 : 0 < byt z i
        · rw [if_pos h0] at e
          (repeat' (with_reducible (first | refine And.intro ?_ ?_ | intro _))) <;> (try (first | assumption | contradiction | exact Or.inl trivial | exact Or.inl rfl | exact Or.inr rfl | (simp only [inI, inL]; omega) | omega))
        · rw [if_neg h0, Int.add_zero] at e
          (repeat' (with_reducible (first | refine And.intro ?_ ?_ | intro _))) <;> (try (first | assumption | contradiction | exact Or.inl trivial | exact Or.inl rfl | exact Or.inr rfl | (simp only [inI, inL]; omega) | omega))
      by_cases hg : (ltr z i).2 = true
      · simp only [if_pos hg]
        (apply hG [11, 62, 83, 108] 2000; simp only [w_br_i, w_ite, w_all, w_all0, forall_eq, w_b0, w_b1, ↓reduceIte, w_ent, w_pos, List.replicate_succ, List.replicate_zero, wp_s, wk_s, w_lk_c, w_ld0, w_ldS, w_kp0, w_kp, w_s1, w_s2, w_to, w_if, w_call, w_sw, w_cat, w_cats, w_psh, w_fv, List.contains_cons, List.contains_nil, List.set_cons_zero, List.set_cons_succ, List.length_cons, List.length_nil, List.find?_cons, List.find?_nil, List.take_succ_cons, List.take_zero, List.drop_succ_cons, List.drop_zero, List.reverse_cons, List.reverse_nil, List.nil_append, List.cons_append, Option.map_some, Option.map_none, Nat.reduceAdd, Nat.reduceBEq, Nat.reduceEqDiff, Nat.reduceLT, Nat.reduceLeDiff, Nat.reduceSub, Int.reduceAdd, Int.reduceSub, Int.reduceMul, Int.reduceNeg, Int.reduceToNat, Int.reduceLT, Int.reduceLE, Int.reduceEq, Bool.false_eq_true, Bool.or_false, Bool.false_or, Bool.true_or, Bool.or_true, if_true, if_false, ite_true, ite_false, true_and, and_true, false_and, and_false, true_or, or_true, false_or, or_false, Int.cast_ofNat_Int, Int.toNat_natCast, Int.natCast_add, List.getElem?_cons_zero, List.getElem?_cons_succ, true_implies, forall_const, not_true_eq_false, not_false_eq_true, ne_eq, beq_iff_eq, imp_self, List.length_set, Nat.zero_add, Nat.add_zero, Int.zero_add, Int.add_zero, w1_iconst, w1_istore_n_3, w1_istore, w1_lload_n_1, w1_lstore, w1_iload, w1_bipush, w1_if_icmp, w1_lload, w1_ldc2_w, w1_land, w1_l2i, w1_lushr, w1_ifCond, w1_iload_n_3, w1_goto, w1_iadd, w1_iinc, w1_ireturn, w1_aload_n_0, w1_getfield, w1_imul, w1_iastore, w1_dup, w1_dup2, w1_putfield, w1_putfield2, dX10_letters_0, dX10_letters_1, dX10_letters_2, dX10_letters_3, dX10_letters_5, dX10_letters_6, dX10_letters_8, dX10_letters_9, dX10_letters_11, dX10_letters_13, dX10_letters_15, dX10_letters_18, dX10_letters_20, dX10_letters_23, dX10_letters_24, dX10_letters_25, dX10_letters_27, dX10_letters_29, dX10_letters_31, dX10_letters_32, dX10_letters_34, dX10_letters_36, dX10_letters_39, dX10_letters_41, dX10_letters_43, dX10_letters_46, dX10_letters_48, dX10_letters_51, dX10_letters_52, dX10_letters_54, dX10_letters_57, dX10_letters_58, dX10_letters_61, dX10_letters_62, dX10_letters_64, dX10_letters_65, dX10_letters_67, dX10_letters_70, dX10_letters_71, dX10_letters_74, dX10_letters_75, dX10_letters_76, dX10_letters_77, dX10_letters_80, dX10_letters_83, dX10_letters_85, dX10_letters_88, dX10_letters_90, dX10_letters_91, dX10_letters_92, dX10_letters_95, dX10_letters_96, dX10_letters_97, dX10_letters_99, dX10_letters_102, dX10_letters_104, dX10_letters_105, dX10_letters_106, dX10_letters_108, dX10_letters_110, dX10_letters_111, dX10_letters_114, dX10_letters_115, dX10_letters_118, dX10_letters_119, dX10_letters_122, dX10_letters_123, dX10_letters_125, dX10_letters_127, dX10_letters_128, dX10_letters_129, dX10_letters_132, dX10_letters_133, dX10_letters_134, dX10_letters_135, dX10_letters_136, dX10_letters_137, dX10_letters_140, dX10_letters_141, dX10_letters_142, dX10_letters_145, dX10_letters_148, dX10_letters_151, dX10_letters_152, dX10_letters_155, w_flk10_7, w_flk10_80, w_klk10_78, w_kd_135, w_rf_135_0, w_rf_135_2, w_rf_135_3, w_rf_135_8, w_rf_135_12, w_rf_135_14, w_rf_135_15, w_rf_135_16, w_rf_135_24, w_rf_135_25, w_rf_135_26, w_rf_135_27, w_rf_135_28, w_rf_135_29, w_rf_135_30, w_rf_135_33, w_rf_135_34, w_rf_135_39, w_rf_135_40, w_rf_135_41, w_rf_135_42])
        rw [w_shk_byt z i hi]
        (repeat' (with_reducible (first | refine And.intro ?_ ?_ | intro _))) <;> (try (first | assumption | contradiction | exact Or.inl trivial | exact Or.inl rfl | exact Or.inr rfl | (simp only [inI, inL]; omega) | omega))
        · exact e62 _ (by simp [hg]; omega) _
        · exact e62 _ (by simp [hg]; omega) _
        · exact e62 _ (by simp [hg]; omega) _
        · exact e62 _ (by simp [hg]; omega) _
      · simp only [if_neg hg]
        (apply hG [11, 62, 83, 108] 2000; simp only [w_br_i, w_ite, w_all, w_all0, forall_eq, w_b0, w_b1, ↓reduceIte, w_ent, w_pos, List.replicate_succ, List.replicate_zero, wp_s, wk_s, w_lk_c, w_ld0, w_ldS, w_kp0, w_kp, w_s1, w_s2, w_to, w_if, w_call, w_sw, w_cat, w_cats, w_psh, w_fv, List.contains_cons, List.contains_nil, List.set_cons_zero, List.set_cons_succ, List.length_cons, List.length_nil, List.find?_cons, List.find?_nil, List.take_succ_cons, List.take_zero, List.drop_succ_cons, List.drop_zero, List.reverse_cons, List.reverse_nil, List.nil_append, List.cons_append, Option.map_some, Option.map_none, Nat.reduceAdd, Nat.reduceBEq, Nat.reduceEqDiff, Nat.reduceLT, Nat.reduceLeDiff, Nat.reduceSub, Int.reduceAdd, Int.reduceSub, Int.reduceMul, Int.reduceNeg, Int.reduceToNat, Int.reduceLT, Int.reduceLE, Int.reduceEq, Bool.false_eq_true, Bool.or_false, Bool.false_or, Bool.true_or, Bool.or_true, if_true, if_false, ite_true, ite_false, true_and, and_true, false_and, and_false, true_or, or_true, false_or, or_false, Int.cast_ofNat_Int, Int.toNat_natCast, Int.natCast_add, List.getElem?_cons_zero, List.getElem?_cons_succ, true_implies, forall_const, not_true_eq_false, not_false_eq_true, ne_eq, beq_iff_eq, imp_self, List.length_set, Nat.zero_add, Nat.add_zero, Int.zero_add, Int.add_zero, w1_iconst, w1_istore_n_3, w1_istore, w1_lload_n_1, w1_lstore, w1_iload, w1_bipush, w1_if_icmp, w1_lload, w1_ldc2_w, w1_land, w1_l2i, w1_lushr, w1_ifCond, w1_iload_n_3, w1_goto, w1_iadd, w1_iinc, w1_ireturn, w1_aload_n_0, w1_getfield, w1_imul, w1_iastore, w1_dup, w1_dup2, w1_putfield, w1_putfield2, dX10_letters_0, dX10_letters_1, dX10_letters_2, dX10_letters_3, dX10_letters_5, dX10_letters_6, dX10_letters_8, dX10_letters_9, dX10_letters_11, dX10_letters_13, dX10_letters_15, dX10_letters_18, dX10_letters_20, dX10_letters_23, dX10_letters_24, dX10_letters_25, dX10_letters_27, dX10_letters_29, dX10_letters_31, dX10_letters_32, dX10_letters_34, dX10_letters_36, dX10_letters_39, dX10_letters_41, dX10_letters_43, dX10_letters_46, dX10_letters_48, dX10_letters_51, dX10_letters_52, dX10_letters_54, dX10_letters_57, dX10_letters_58, dX10_letters_61, dX10_letters_62, dX10_letters_64, dX10_letters_65, dX10_letters_67, dX10_letters_70, dX10_letters_71, dX10_letters_74, dX10_letters_75, dX10_letters_76, dX10_letters_77, dX10_letters_80, dX10_letters_83, dX10_letters_85, dX10_letters_88, dX10_letters_90, dX10_letters_91, dX10_letters_92, dX10_letters_95, dX10_letters_96, dX10_letters_97, dX10_letters_99, dX10_letters_102, dX10_letters_104, dX10_letters_105, dX10_letters_106, dX10_letters_108, dX10_letters_110, dX10_letters_111, dX10_letters_114, dX10_letters_115, dX10_letters_118, dX10_letters_119, dX10_letters_122, dX10_letters_123, dX10_letters_125, dX10_letters_127, dX10_letters_128, dX10_letters_129, dX10_letters_132, dX10_letters_133, dX10_letters_134, dX10_letters_135, dX10_letters_136, dX10_letters_137, dX10_letters_140, dX10_letters_141, dX10_letters_142, dX10_letters_145, dX10_letters_148, dX10_letters_151, dX10_letters_152, dX10_letters_155, w_flk10_7, w_flk10_80, w_klk10_78, w_kd_135, w_rf_135_0, w_rf_135_2, w_rf_135_3, w_rf_135_8, w_rf_135_12, w_rf_135_14, w_rf_135_15, w_rf_135_16, w_rf_135_24, w_rf_135_25, w_rf_135_26, w_rf_135_27, w_rf_135_28, w_rf_135_29, w_rf_135_30, w_rf_135_33, w_rf_135_34, w_rf_135_39, w_rf_135_40, w_rf_135_41, w_rf_135_42])
        rw [w_shk_byt z i hi]
        (repeat' (with_reducible (first | refine And.intro ?_ ?_ | intro _))) <;> (try (first | assumption | contradiction | exact Or.inl trivial | exact Or.inl rfl | exact Or.inr rfl | (simp only [inI, inL]; omega) | omega))
        · exact e62 _ (by simp [hg]) _
  (apply hG [11, 108] 2000; simp only [w_br_i, w_ite, w_all, w_all0, forall_eq, w_b0, w_b1, ↓reduceIte, w_ent, w_pos, List.replicate_succ, List.replicate_zero, wp_s, wk_s, w_lk_c, w_ld0, w_ldS, w_kp0, w_kp, w_s1, w_s2, w_to, w_if, w_call, w_sw, w_cat, w_cats, w_psh, w_fv, List.contains_cons, List.contains_nil, List.set_cons_zero, List.set_cons_succ, List.length_cons, List.length_nil, List.find?_cons, List.find?_nil, List.take_succ_cons, List.take_zero, List.drop_succ_cons, List.drop_zero, List.reverse_cons, List.reverse_nil, List.nil_append, List.cons_append, Option.map_some, Option.map_none, Nat.reduceAdd, Nat.reduceBEq, Nat.reduceEqDiff, Nat.reduceLT, Nat.reduceLeDiff, Nat.reduceSub, Int.reduceAdd, Int.reduceSub, Int.reduceMul, Int.reduceNeg, Int.reduceToNat, Int.reduceLT, Int.reduceLE, Int.reduceEq, Bool.false_eq_true, Bool.or_false, Bool.false_or, Bool.true_or, Bool.or_true, if_true, if_false, ite_true, ite_false, true_and, and_true, false_and, and_false, true_or, or_true, false_or, or_false, Int.cast_ofNat_Int, Int.toNat_natCast, Int.natCast_add, List.getElem?_cons_zero, List.getElem?_cons_succ, true_implies, forall_const, not_true_eq_false, not_false_eq_true, ne_eq, beq_iff_eq, imp_self, List.length_set, Nat.zero_add, Nat.add_zero, Int.zero_add, Int.add_zero, w1_iconst, w1_istore_n_3, w1_istore, w1_lload_n_1, w1_lstore, w1_iload, w1_bipush, w1_if_icmp, w1_lload, w1_ldc2_w, w1_land, w1_l2i, w1_lushr, w1_ifCond, w1_iload_n_3, w1_goto, w1_iadd, w1_iinc, w1_ireturn, w1_aload_n_0, w1_getfield, w1_imul, w1_iastore, w1_dup, w1_dup2, w1_putfield, w1_putfield2, dX10_letters_0, dX10_letters_1, dX10_letters_2, dX10_letters_3, dX10_letters_5, dX10_letters_6, dX10_letters_8, dX10_letters_9, dX10_letters_11, dX10_letters_13, dX10_letters_15, dX10_letters_18, dX10_letters_20, dX10_letters_23, dX10_letters_24, dX10_letters_25, dX10_letters_27, dX10_letters_29, dX10_letters_31, dX10_letters_32, dX10_letters_34, dX10_letters_36, dX10_letters_39, dX10_letters_41, dX10_letters_43, dX10_letters_46, dX10_letters_48, dX10_letters_51, dX10_letters_52, dX10_letters_54, dX10_letters_57, dX10_letters_58, dX10_letters_61, dX10_letters_62, dX10_letters_64, dX10_letters_65, dX10_letters_67, dX10_letters_70, dX10_letters_71, dX10_letters_74, dX10_letters_75, dX10_letters_76, dX10_letters_77, dX10_letters_80, dX10_letters_83, dX10_letters_85, dX10_letters_88, dX10_letters_90, dX10_letters_91, dX10_letters_92, dX10_letters_95, dX10_letters_96, dX10_letters_97, dX10_letters_99, dX10_letters_102, dX10_letters_104, dX10_letters_105, dX10_letters_106, dX10_letters_108, dX10_letters_110, dX10_letters_111, dX10_letters_114, dX10_letters_115, dX10_letters_118, dX10_letters_119, dX10_letters_122, dX10_letters_123, dX10_letters_125, dX10_letters_127, dX10_letters_128, dX10_letters_129, dX10_letters_132, dX10_letters_133, dX10_letters_134, dX10_letters_135, dX10_letters_136, dX10_letters_137, dX10_letters_140, dX10_letters_141, dX10_letters_142, dX10_letters_145, dX10_letters_148, dX10_letters_151, dX10_letters_152, dX10_letters_155, w_flk10_7, w_flk10_80, w_klk10_78, w_kd_135, w_rf_135_0, w_rf_135_2, w_rf_135_3, w_rf_135_8, w_rf_135_12, w_rf_135_14, w_rf_135_15, w_rf_135_16, w_rf_135_24, w_rf_135_25, w_rf_135_26, w_rf_135_27, w_rf_135_28, w_rf_135_29, w_rf_135_30, w_rf_135_33, w_rf_135_34, w_rf_135_39, w_rf_135_40, w_rf_135_41, w_rf_135_42])
  exact loop 8 0 rfl none
