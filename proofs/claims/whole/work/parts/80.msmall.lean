/-! the reference: small methods -/
def p_X10_in : List wV → wW → Prop := fun av w => match av with
  | [.inr (.inl v), .inr (.inl low), .inr (.inl high)] => inL v ∧ inL low ∧ inL high
  | _ => False
def q_X10_in : List wV → wW → Int → wW → Prop := fun av w r w' => match av with
  | [.inr (.inl v), .inr (.inl low), .inr (.inl high)] => (r = if low ≤ v ∧ v ≤ high then 1 else 0) ∧ w' = w
  | _ => False
set_option maxRecDepth 100000 in
set_option maxHeartbeats 4000000 in
theorem c_X10_in : w_Ct yX10_in cX10_in 6 3 0 0 p_X10_in q_X10_in := by
  refine w_met (own := RX10) (fl := w_fl10) (gs := w_gs10) (kl := w_kl10) (ki := w_ki10) (cs := []) (by decide +kernel) rfl ?_ w_flok10 w_gsok10 w_klok10 w_kiok10 ?_ ?_
  · intro av w h
    unfold p_X10_in at h
    split at h
    · simp [w_pos, w_cat]
    · exact h.elim
  · exact fun _ h => absurd h List.not_mem_nil
  intro av w hp
  unfold p_X10_in at hp
  split at hp
  case h_2 => exact hp.elim
  rename_i v low high
  intro G hG
  simp only [w_ent, w_pos, w_cat, Nat.reduceEqDiff, ↓reduceIte, List.length_cons, List.length_nil, Nat.reduceAdd, Nat.reduceSub, List.cons_append, List.nil_append, List.replicate_succ, List.replicate_zero]
  have h1 := w_cmp_r v low
  have h2 := w_cmp_r v high
  (apply hG [] 2000; simp only [w_br_i, w_ite, w_all, w_all0, forall_eq, w_b0, w_b1, ↓reduceIte, w_ent, w_pos, List.replicate_succ, List.replicate_zero, wp_s, wk_s, w_lk_c, w_ld0, w_ldS, w_kp0, w_kp, w_s1, w_s2, w_to, w_if, w_call, w_sw, w_cat, w_cats, w_psh, w_fv, List.contains_cons, List.contains_nil, List.set_cons_zero, List.set_cons_succ, List.length_cons, List.length_nil, List.find?_cons, List.find?_nil, List.take_succ_cons, List.take_zero, List.drop_succ_cons, List.drop_zero, List.reverse_cons, List.reverse_nil, List.nil_append, List.cons_append, Option.map_some, Option.map_none, Nat.reduceAdd, Nat.reduceBEq, Nat.reduceEqDiff, Nat.reduceLT, Nat.reduceLeDiff, Nat.reduceSub, Int.reduceAdd, Int.reduceSub, Int.reduceMul, Int.reduceNeg, Int.reduceToNat, Int.reduceLT, Int.reduceLE, Int.reduceEq, Bool.false_eq_true, Bool.or_false, Bool.false_or, Bool.true_or, Bool.or_true, if_true, if_false, ite_true, ite_false, true_and, and_true, false_and, and_false, true_or, or_true, false_or, or_false, Int.cast_ofNat_Int, Int.toNat_natCast, Int.natCast_add, List.getElem?_cons_zero, List.getElem?_cons_succ, true_implies, forall_const, not_true_eq_false, not_false_eq_true, ne_eq, beq_iff_eq, imp_self, List.length_set, Nat.zero_add, Nat.add_zero, Int.zero_add, Int.add_zero, w1_lload_n_0, w1_lload_n_2, w1_lcmp, w1_ifCond, w1_lload, w1_iconst, w1_goto, w1_ireturn, dX10_in_0, dX10_in_1, dX10_in_2, dX10_in_3, dX10_in_6, dX10_in_7, dX10_in_9, dX10_in_10, dX10_in_13, dX10_in_14, dX10_in_17, dX10_in_18])
  (repeat' (with_reducible (first | refine And.intro ?_ ?_ | intro _))) <;> (try (first | (with_reducible assumption) | (simp only [inI, inL]; omega) | omega))
  all_goals (simp only [q_X10_in]; ((repeat' (first | refine And.intro ?_ ?_ | split)) <;> (first | rfl | trivial | assumption | contradiction | omega | (exfalso; omega))))
def p_X10_blank : List wV → wW → Prop := fun av w => match av with
  | [.inr (.inr (some this))] => this = 135
  | _ => False
theorem h_X10_blank : ∀ av w, p_X10_blank av w → ∃ a r, av = vr a :: r ∧ w_kd a = 100 + 10 := by
  intro av w h
  unfold p_X10_blank at h
  split at h
  · refine ⟨_, _, rfl, ?_⟩
    first | (rw [h.1]; rfl) | (rw [h]; rfl)
  · exact h.elim
def q_X10_blank : List wV → wW → Int → wW → Prop := fun av w r w' => match av with
  | [.inr (.inr (some this))] => r = w 135 1 ∧ w' = w_up w 135 1 0
  | _ => False
set_option maxRecDepth 100000 in
set_option maxHeartbeats 4000000 in
theorem c_X10_blank : w_Ct yX10_blank cX10_blank 2 1 0 0 p_X10_blank q_X10_blank := by
  refine w_met (own := RX10) (fl := w_fl10) (gs := w_gs10) (kl := w_kl10) (ki := w_ki10) (cs := []) (by decide +kernel) rfl ?_ w_flok10 w_gsok10 w_klok10 w_kiok10 ?_ ?_
  · intro av w h
    unfold p_X10_blank at h
    split at h
    · simp [w_pos, w_cat]
    · exact h.elim
  · exact fun _ h => absurd h List.not_mem_nil
  intro av w hp
  unfold p_X10_blank at hp
  split at hp
  case h_2 => exact hp.elim
  rename_i this
  intro G hG
  simp only [w_ent, w_pos, w_cat, Nat.reduceEqDiff, ↓reduceIte, List.length_cons, List.length_nil, Nat.reduceAdd, Nat.reduceSub, List.cons_append, List.nil_append, List.replicate_succ, List.replicate_zero]
  subst hp
  (apply hG [] 2000; simp only [w_br_i, w_ite, w_all, w_all0, forall_eq, w_b0, w_b1, ↓reduceIte, w_ent, w_pos, List.replicate_succ, List.replicate_zero, wp_s, wk_s, w_lk_c, w_ld0, w_ldS, w_kp0, w_kp, w_s1, w_s2, w_to, w_if, w_call, w_sw, w_cat, w_cats, w_psh, w_fv, List.contains_cons, List.contains_nil, List.set_cons_zero, List.set_cons_succ, List.length_cons, List.length_nil, List.find?_cons, List.find?_nil, List.take_succ_cons, List.take_zero, List.drop_succ_cons, List.drop_zero, List.reverse_cons, List.reverse_nil, List.nil_append, List.cons_append, Option.map_some, Option.map_none, Nat.reduceAdd, Nat.reduceBEq, Nat.reduceEqDiff, Nat.reduceLT, Nat.reduceLeDiff, Nat.reduceSub, Int.reduceAdd, Int.reduceSub, Int.reduceMul, Int.reduceNeg, Int.reduceToNat, Int.reduceLT, Int.reduceLE, Int.reduceEq, Bool.false_eq_true, Bool.or_false, Bool.false_or, Bool.true_or, Bool.or_true, if_true, if_false, ite_true, ite_false, true_and, and_true, false_and, and_false, true_or, or_true, false_or, or_false, Int.cast_ofNat_Int, Int.toNat_natCast, Int.natCast_add, List.getElem?_cons_zero, List.getElem?_cons_succ, true_implies, forall_const, not_true_eq_false, not_false_eq_true, ne_eq, beq_iff_eq, imp_self, List.length_set, Nat.zero_add, Nat.add_zero, Int.zero_add, Int.add_zero, w1_aload_n_0, w1_getfield, w1_istore_n_1, w1_iconst, w1_putfield, w1_putfield2, w1_iload_n_1, w1_ireturn, dX10_blank_0, dX10_blank_1, dX10_blank_4, dX10_blank_5, dX10_blank_6, dX10_blank_7, dX10_blank_10, dX10_blank_11, w_flk10_80, w_kd_135, w_rf_135_0, w_rf_135_2, w_rf_135_3, w_rf_135_8, w_rf_135_12, w_rf_135_14, w_rf_135_15, w_rf_135_16, w_rf_135_24, w_rf_135_25, w_rf_135_26, w_rf_135_27, w_rf_135_28, w_rf_135_29, w_rf_135_30, w_rf_135_33, w_rf_135_34, w_rf_135_39, w_rf_135_40, w_rf_135_41, w_rf_135_42]); (repeat' (with_reducible (first | refine And.intro ?_ ?_ | intro _))) <;> (first | assumption | contradiction | exact Or.inl trivial | exact Or.inl rfl | exact Or.inr rfl | (simp only [inI, inL]; omega) | omega | (simp only [q_X10_blank]; ((repeat' (first | refine And.intro ?_ ?_ | split)) <;> (first | rfl | trivial | assumption | contradiction | omega | (exfalso; omega)))))
def m_low (j : Int) : Int := if j = 0 ∨ j = 5 ∨ j = 7 ∨ j = 9 then 1 else 0
def m_high (j : Int) : Int := if j = 0 then 20 else if j = 1 then 200 else if j = 5 then 5 else if j = 7 then 15 else 9
def p_X10_lowest : List wV → wW → Prop := fun av w => match av with
  | [.inl j] => inI j
  | _ => False
def q_X10_lowest : List wV → wW → Int → wW → Prop := fun av w r w' => match av with
  | [.inl j] => r = m_low j ∧ w' = w
  | _ => False
set_option maxRecDepth 100000 in
set_option maxHeartbeats 4000000 in
theorem c_X10_lowest : w_Ct yX10_lowest cX10_lowest 1 1 0 0 p_X10_lowest q_X10_lowest := by
  refine w_met (own := RX10) (fl := w_fl10) (gs := w_gs10) (kl := w_kl10) (ki := w_ki10) (cs := []) (by decide +kernel) rfl ?_ w_flok10 w_gsok10 w_klok10 w_kiok10 ?_ ?_
  · intro av w h
    unfold p_X10_lowest at h
    split at h
    · simp [w_pos, w_cat]
    · exact h.elim
  · exact fun _ h => absurd h List.not_mem_nil
  intro av w hp
  unfold p_X10_lowest at hp
  split at hp
  case h_2 => exact hp.elim
  rename_i j
  intro G hG
  simp only [w_ent, w_pos, w_cat, Nat.reduceEqDiff, ↓reduceIte, List.length_cons, List.length_nil, Nat.reduceAdd, Nat.reduceSub, List.cons_append, List.nil_append, List.replicate_succ, List.replicate_zero]
  (apply hG [] 2000; simp only [w_br_i, w_ite, w_all, w_all0, forall_eq, w_b0, w_b1, ↓reduceIte, w_ent, w_pos, List.replicate_succ, List.replicate_zero, wp_s, wk_s, w_lk_c, w_ld0, w_ldS, w_kp0, w_kp, w_s1, w_s2, w_to, w_if, w_call, w_sw, w_cat, w_cats, w_psh, w_fv, List.contains_cons, List.contains_nil, List.set_cons_zero, List.set_cons_succ, List.length_cons, List.length_nil, List.find?_cons, List.find?_nil, List.take_succ_cons, List.take_zero, List.drop_succ_cons, List.drop_zero, List.reverse_cons, List.reverse_nil, List.nil_append, List.cons_append, Option.map_some, Option.map_none, Nat.reduceAdd, Nat.reduceBEq, Nat.reduceEqDiff, Nat.reduceLT, Nat.reduceLeDiff, Nat.reduceSub, Int.reduceAdd, Int.reduceSub, Int.reduceMul, Int.reduceNeg, Int.reduceToNat, Int.reduceLT, Int.reduceLE, Int.reduceEq, Bool.false_eq_true, Bool.or_false, Bool.false_or, Bool.true_or, Bool.or_true, if_true, if_false, ite_true, ite_false, true_and, and_true, false_and, and_false, true_or, or_true, false_or, or_false, Int.cast_ofNat_Int, Int.toNat_natCast, Int.natCast_add, List.getElem?_cons_zero, List.getElem?_cons_succ, true_implies, forall_const, not_true_eq_false, not_false_eq_true, ne_eq, beq_iff_eq, imp_self, List.length_set, Nat.zero_add, Nat.add_zero, Int.zero_add, Int.add_zero, w1_iload_n_0, w1_ifCond, w1_iconst, w1_if_icmp, w1_bipush, w1_goto, w1_ireturn, dX10_lowest_0, dX10_lowest_1, dX10_lowest_4, dX10_lowest_5, dX10_lowest_6, dX10_lowest_9, dX10_lowest_10, dX10_lowest_12, dX10_lowest_15, dX10_lowest_16, dX10_lowest_18, dX10_lowest_21, dX10_lowest_22, dX10_lowest_25, dX10_lowest_26])
  (repeat' (with_reducible (first | refine And.intro ?_ ?_ | intro _))) <;> (try (first | (with_reducible assumption) | (simp only [inI, inL]; omega) | omega))
  all_goals (simp only [q_X10_lowest, m_low]; ((repeat' (first | refine And.intro ?_ ?_ | split)) <;> (first | rfl | trivial | assumption | contradiction | omega | (exfalso; omega))))
def p_X10_highest : List wV → wW → Prop := fun av w => match av with
  | [.inl j] => inI j
  | _ => False
def q_X10_highest : List wV → wW → Int → wW → Prop := fun av w r w' => match av with
  | [.inl j] => r = m_high j ∧ w' = w
  | _ => False
set_option maxRecDepth 100000 in
set_option maxHeartbeats 4000000 in
theorem c_X10_highest : w_Ct yX10_highest cX10_highest 1 1 0 0 p_X10_highest q_X10_highest := by
  refine w_met (own := RX10) (fl := w_fl10) (gs := w_gs10) (kl := w_kl10) (ki := w_ki10) (cs := []) (by decide +kernel) rfl ?_ w_flok10 w_gsok10 w_klok10 w_kiok10 ?_ ?_
  · intro av w h
    unfold p_X10_highest at h
    split at h
    · simp [w_pos, w_cat]
    · exact h.elim
  · exact fun _ h => absurd h List.not_mem_nil
  intro av w hp
  unfold p_X10_highest at hp
  split at hp
  case h_2 => exact hp.elim
  rename_i j
  intro G hG
  simp only [w_ent, w_pos, w_cat, Nat.reduceEqDiff, ↓reduceIte, List.length_cons, List.length_nil, Nat.reduceAdd, Nat.reduceSub, List.cons_append, List.nil_append, List.replicate_succ, List.replicate_zero]
  (apply hG [] 2000; simp only [w_br_i, w_ite, w_all, w_all0, forall_eq, w_b0, w_b1, ↓reduceIte, w_ent, w_pos, List.replicate_succ, List.replicate_zero, wp_s, wk_s, w_lk_c, w_ld0, w_ldS, w_kp0, w_kp, w_s1, w_s2, w_to, w_if, w_call, w_sw, w_cat, w_cats, w_psh, w_fv, List.contains_cons, List.contains_nil, List.set_cons_zero, List.set_cons_succ, List.length_cons, List.length_nil, List.find?_cons, List.find?_nil, List.take_succ_cons, List.take_zero, List.drop_succ_cons, List.drop_zero, List.reverse_cons, List.reverse_nil, List.nil_append, List.cons_append, Option.map_some, Option.map_none, Nat.reduceAdd, Nat.reduceBEq, Nat.reduceEqDiff, Nat.reduceLT, Nat.reduceLeDiff, Nat.reduceSub, Int.reduceAdd, Int.reduceSub, Int.reduceMul, Int.reduceNeg, Int.reduceToNat, Int.reduceLT, Int.reduceLE, Int.reduceEq, Bool.false_eq_true, Bool.or_false, Bool.false_or, Bool.true_or, Bool.or_true, if_true, if_false, ite_true, ite_false, true_and, and_true, false_and, and_false, true_or, or_true, false_or, or_false, Int.cast_ofNat_Int, Int.toNat_natCast, Int.natCast_add, List.getElem?_cons_zero, List.getElem?_cons_succ, true_implies, forall_const, not_true_eq_false, not_false_eq_true, ne_eq, beq_iff_eq, imp_self, List.length_set, Nat.zero_add, Nat.add_zero, Int.zero_add, Int.add_zero, w1_iload_n_0, w1_tableswitch, w1_bipush, w1_ireturn, w1_sipush, w1_iconst, dX10_highest_0, dX10_highest_1, dX10_highest_48, dX10_highest_50, dX10_highest_51, dX10_highest_54, dX10_highest_55, dX10_highest_56, dX10_highest_57, dX10_highest_59, dX10_highest_60, dX10_highest_62])
  (repeat' (with_reducible (first | refine And.intro ?_ ?_ | intro _))) <;> (try (first | (with_reducible assumption) | (simp only [inI, inL]; omega) | omega))
  all_goals (simp only [q_X10_highest, m_high]; ((repeat' (first | refine And.intro ?_ ?_ | split)) <;> (first | rfl | trivial | assumption | contradiction | omega | (exfalso; omega))))
def p_X10_placeOf : List wV → wW → Prop := fun av w => match av with
  | [.inr (.inr (some this)), .inl j] => this = 135 ∧ inI j
  | _ => False
theorem h_X10_placeOf : ∀ av w, p_X10_placeOf av w → ∃ a r, av = vr a :: r ∧ w_kd a = 100 + 10 := by
  intro av w h
  unfold p_X10_placeOf at h
  split at h
  · refine ⟨_, _, rfl, ?_⟩
    first | (rw [h.1]; rfl) | (rw [h]; rfl)
  · exact h.elim
def q_X10_placeOf : List wV → wW → Int → wW → Prop := fun av w r w' => match av with
  | [.inr (.inr (some this)), .inl j] => (r = if j < 7 then j else 7 + 3 * (w 135 4 - 1) + j - 7) ∧ w' = w
  | _ => False
set_option maxRecDepth 100000 in
set_option maxHeartbeats 4000000 in
theorem c_X10_placeOf : w_Ct yX10_placeOf cX10_placeOf 2 1 0 0 p_X10_placeOf q_X10_placeOf := by
  refine w_met (own := RX10) (fl := w_fl10) (gs := w_gs10) (kl := w_kl10) (ki := w_ki10) (cs := []) (by decide +kernel) rfl ?_ w_flok10 w_gsok10 w_klok10 w_kiok10 ?_ ?_
  · intro av w h
    unfold p_X10_placeOf at h
    split at h
    · simp [w_pos, w_cat]
    · exact h.elim
  · exact fun _ h => absurd h List.not_mem_nil
  intro av w hp
  unfold p_X10_placeOf at hp
  split at hp
  case h_2 => exact hp.elim
  rename_i this j
  intro G hG
  simp only [w_ent, w_pos, w_cat, Nat.reduceEqDiff, ↓reduceIte, List.length_cons, List.length_nil, Nat.reduceAdd, Nat.reduceSub, List.cons_append, List.nil_append, List.replicate_succ, List.replicate_zero]
  obtain ⟨rfl, hp⟩ := hp
  (apply hG [] 2000; simp only [w_br_i, w_ite, w_all, w_all0, forall_eq, w_b0, w_b1, ↓reduceIte, w_ent, w_pos, List.replicate_succ, List.replicate_zero, wp_s, wk_s, w_lk_c, w_ld0, w_ldS, w_kp0, w_kp, w_s1, w_s2, w_to, w_if, w_call, w_sw, w_cat, w_cats, w_psh, w_fv, List.contains_cons, List.contains_nil, List.set_cons_zero, List.set_cons_succ, List.length_cons, List.length_nil, List.find?_cons, List.find?_nil, List.take_succ_cons, List.take_zero, List.drop_succ_cons, List.drop_zero, List.reverse_cons, List.reverse_nil, List.nil_append, List.cons_append, Option.map_some, Option.map_none, Nat.reduceAdd, Nat.reduceBEq, Nat.reduceEqDiff, Nat.reduceLT, Nat.reduceLeDiff, Nat.reduceSub, Int.reduceAdd, Int.reduceSub, Int.reduceMul, Int.reduceNeg, Int.reduceToNat, Int.reduceLT, Int.reduceLE, Int.reduceEq, Bool.false_eq_true, Bool.or_false, Bool.false_or, Bool.true_or, Bool.or_true, if_true, if_false, ite_true, ite_false, true_and, and_true, false_and, and_false, true_or, or_true, false_or, or_false, Int.cast_ofNat_Int, Int.toNat_natCast, Int.natCast_add, List.getElem?_cons_zero, List.getElem?_cons_succ, true_implies, forall_const, not_true_eq_false, not_false_eq_true, ne_eq, beq_iff_eq, imp_self, List.length_set, Nat.zero_add, Nat.add_zero, Int.zero_add, Int.add_zero, w1_iload_n_1, w1_bipush, w1_if_icmp, w1_goto, w1_iconst, w1_aload_n_0, w1_getfield, w1_isub, w1_imul, w1_iadd, w1_ireturn, dX10_placeOf_0, dX10_placeOf_1, dX10_placeOf_3, dX10_placeOf_6, dX10_placeOf_7, dX10_placeOf_10, dX10_placeOf_12, dX10_placeOf_13, dX10_placeOf_14, dX10_placeOf_17, dX10_placeOf_18, dX10_placeOf_19, dX10_placeOf_20, dX10_placeOf_21, dX10_placeOf_22, dX10_placeOf_23, dX10_placeOf_25, dX10_placeOf_26, w_flk10_83, w_kd_135, w_rf_135_0, w_rf_135_2, w_rf_135_3, w_rf_135_8, w_rf_135_12, w_rf_135_14, w_rf_135_15, w_rf_135_16, w_rf_135_24, w_rf_135_25, w_rf_135_26, w_rf_135_27, w_rf_135_28, w_rf_135_29, w_rf_135_30, w_rf_135_33, w_rf_135_34, w_rf_135_39, w_rf_135_40, w_rf_135_41, w_rf_135_42])
  (repeat' (with_reducible (first | refine And.intro ?_ ?_ | intro _))) <;> (try (first | (with_reducible assumption) | (simp only [inI, inL]; omega) | omega))
  all_goals (simp only [q_X10_placeOf]; ((repeat' (first | refine And.intro ?_ ?_ | split)) <;> (first | rfl | trivial | assumption | contradiction | omega | (exfalso; omega))))
def p_X10_isRule : List wV → wW → Prop := fun av w => match av with
  | [.inr (.inr (some this)), .inl i] => this = 135 ∧ inI i ∧ (0 ≤ w 135 13 ∧ w 135 13 ≤ 8)
  | _ => False
theorem h_X10_isRule : ∀ av w, p_X10_isRule av w → ∃ a r, av = vr a :: r ∧ w_kd a = 100 + 10 := by
  intro av w h
  unfold p_X10_isRule at h
  split at h
  · refine ⟨_, _, rfl, ?_⟩
    first | (rw [h.1]; rfl) | (rw [h]; rfl)
  · exact h.elim
def q_X10_isRule : List wV → wW → Int → wW → Prop := fun av w r w' => match av with
  | [.inr (.inr (some this)), .inl i] => (r = if 0 ≤ i ∧ i ≤ w 135 13 - 1 then 1 else 0) ∧ w' = w
  | _ => False
set_option maxRecDepth 100000 in
set_option maxHeartbeats 4000000 in
theorem c_X10_isRule : w_Ct yX10_isRule cX10_isRule 2 3 1 25 p_X10_isRule q_X10_isRule := by
  refine w_met (own := RX10) (fl := w_fl10) (gs := w_gs10) (kl := w_kl10) (ki := w_ki10) (cs := [(107, (1, 3, 3, p_X10_in, q_X10_in))]) (by decide +kernel) rfl ?_ w_flok10 w_gsok10 w_klok10 w_kiok10 ?_ ?_
  · intro av w h
    unfold p_X10_isRule at h
    split at h
    · simp [w_pos, w_cat]
    · exact h.elim
  · exact List.forall_mem_cons.mpr ⟨⟨_, _, w_callS (own := RX10) (idx := 107) c_X10_in (w_m5 14 (by decide +kernel) (by decide +kernel)) (w_m5 15 (by decide +kernel) (by decide +kernel)) (w_m1 12 (by decide +kernel) (by decide +kernel)) (w_m5 16 (by decide +kernel) (by decide +kernel)) ⟨by decide +kernel, by decide +kernel, by decide +kernel⟩, by decide, by decide⟩, fun _ h => absurd h List.not_mem_nil⟩
  intro av w hp
  unfold p_X10_isRule at hp
  split at hp
  case h_2 => exact hp.elim
  rename_i this i
  intro G hG
  simp only [w_ent, w_pos, w_cat, Nat.reduceEqDiff, ↓reduceIte, List.length_cons, List.length_nil, Nat.reduceAdd, Nat.reduceSub, List.cons_append, List.nil_append, List.replicate_succ, List.replicate_zero]
  obtain ⟨rfl, hp⟩ := hp
  (apply hG [] 2000; simp only [w_br_i, w_ite, w_all, w_all0, forall_eq, w_b0, w_b1, ↓reduceIte, w_ent, w_pos, List.replicate_succ, List.replicate_zero, wp_s, wk_s, w_lk_c, w_ld0, w_ldS, w_kp0, w_kp, w_s1, w_s2, w_to, w_if, w_call, w_sw, w_cat, w_cats, w_psh, w_fv, List.contains_cons, List.contains_nil, List.set_cons_zero, List.set_cons_succ, List.length_cons, List.length_nil, List.find?_cons, List.find?_nil, List.take_succ_cons, List.take_zero, List.drop_succ_cons, List.drop_zero, List.reverse_cons, List.reverse_nil, List.nil_append, List.cons_append, Option.map_some, Option.map_none, Nat.reduceAdd, Nat.reduceBEq, Nat.reduceEqDiff, Nat.reduceLT, Nat.reduceLeDiff, Nat.reduceSub, Int.reduceAdd, Int.reduceSub, Int.reduceMul, Int.reduceNeg, Int.reduceToNat, Int.reduceLT, Int.reduceLE, Int.reduceEq, Bool.false_eq_true, Bool.or_false, Bool.false_or, Bool.true_or, Bool.or_true, if_true, if_false, ite_true, ite_false, true_and, and_true, false_and, and_false, true_or, or_true, false_or, or_false, Int.cast_ofNat_Int, Int.toNat_natCast, Int.natCast_add, List.getElem?_cons_zero, List.getElem?_cons_succ, true_implies, forall_const, not_true_eq_false, not_false_eq_true, ne_eq, beq_iff_eq, imp_self, List.length_set, Nat.zero_add, Nat.add_zero, Int.zero_add, Int.add_zero, w1_iload_n_1, w1_i2l, w1_lconst, w1_aload_n_0, w1_getfield, w1_iconst, w1_isub, w1_invokestatic, w1_ireturn, dX10_isRule_0, dX10_isRule_1, dX10_isRule_2, dX10_isRule_3, dX10_isRule_4, dX10_isRule_7, dX10_isRule_8, dX10_isRule_9, dX10_isRule_10, dX10_isRule_13, w_flk10_147, w_kd_135, w_rf_135_0, w_rf_135_2, w_rf_135_3, w_rf_135_8, w_rf_135_12, w_rf_135_14, w_rf_135_15, w_rf_135_16, w_rf_135_24, w_rf_135_25, w_rf_135_26, w_rf_135_27, w_rf_135_28, w_rf_135_29, w_rf_135_30, w_rf_135_33, w_rf_135_34, w_rf_135_39, w_rf_135_40, w_rf_135_41, w_rf_135_42, lc0, lc1, p_X10_in, q_X10_in])
  (repeat' (with_reducible (first | refine And.intro ?_ ?_ | intro _))) <;> (try (first | (with_reducible assumption) | (simp only [inI, inL]; omega) | omega))
  all_goals (simp only [q_X10_isRule]; ((repeat' (first | refine And.intro ?_ ?_ | split)) <;> (first | rfl | trivial | assumption | contradiction | omega | (exfalso; omega))))
def p_X10_as : List wV → wW → Prop := fun av w => match av with
  | [.inr (.inr (some this)), .inl i, .inl k] => this = 135 ∧ inI i ∧ inI k ∧ (0 ≤ w 135 13 ∧ w 135 13 ≤ 8) ∧ ∀ j, j < 8 → inI (w 141 j)
  | _ => False
theorem h_X10_as : ∀ av w, p_X10_as av w → ∃ a r, av = vr a :: r ∧ w_kd a = 100 + 10 := by
  intro av w h
  unfold p_X10_as at h
  split at h
  · refine ⟨_, _, rfl, ?_⟩
    first | (rw [h.1]; rfl) | (rw [h]; rfl)
  · exact h.elim
def q_X10_as : List wV → wW → Int → wW → Prop := fun av w r w' => match av with
  | [.inr (.inr (some this)), .inl i, .inl k] => r = o_as (w 135 13) i k (w 141 i.toNat) ∧ w' = w
  | _ => False
set_option maxRecDepth 100000 in
set_option maxHeartbeats 4000000 in
theorem c_X10_as : w_Ct yX10_as cX10_as 4 1 2 46 p_X10_as q_X10_as := by
  refine w_met (own := RX10) (fl := w_fl10) (gs := w_gs10) (kl := w_kl10) (ki := w_ki10) (cs := [(154, (0, 2, 3, p_X10_isRule, q_X10_isRule)), (107, (1, 3, 3, p_X10_in, q_X10_in))]) (by decide +kernel) rfl ?_ w_flok10 w_gsok10 w_klok10 w_kiok10 ?_ ?_
  · intro av w h
    unfold p_X10_as at h
    split at h
    · simp [w_pos, w_cat]
    · exact h.elim
  · exact List.forall_mem_cons.mpr ⟨⟨_, _, w_callV (own := RX10) (idx := 154) (ci := 10) c_X10_isRule rfl rfl h_X10_isRule (w_m5 75 (by decide +kernel) (by decide +kernel)) (w_m5 77 (by decide +kernel) (by decide +kernel)) (w_m0 36 (by decide +kernel) (by decide +kernel)) (w_m1 12 (by decide +kernel) (by decide +kernel)) (w_m5 78 (by decide +kernel) (by decide +kernel)) ⟨by decide +kernel, by decide +kernel, by decide +kernel⟩, by decide, by decide⟩, List.forall_mem_cons.mpr ⟨⟨_, _, w_callS (own := RX10) (idx := 107) c_X10_in (w_m5 14 (by decide +kernel) (by decide +kernel)) (w_m5 15 (by decide +kernel) (by decide +kernel)) (w_m1 12 (by decide +kernel) (by decide +kernel)) (w_m5 16 (by decide +kernel) (by decide +kernel)) ⟨by decide +kernel, by decide +kernel, by decide +kernel⟩, by decide, by decide⟩, fun _ h => absurd h List.not_mem_nil⟩⟩
  intro av w hp
  unfold p_X10_as at hp
  split at hp
  case h_2 => exact hp.elim
  rename_i this i k
  intro G hG
  simp only [w_ent, w_pos, w_cat, Nat.reduceEqDiff, ↓reduceIte, List.length_cons, List.length_nil, Nat.reduceAdd, Nat.reduceSub, List.cons_append, List.nil_append, List.replicate_succ, List.replicate_zero]
  obtain ⟨rfl, h1, h2, h3, h4⟩ := hp
  have e11 : (0 ≤ i ∧ i < w 135 13) → G 11 [some (vr 135), some (vi i), some (vi k), none] [] w := by
    intro h5
    have h6 := h4 i.toNat (by omega)
    (apply hG [] 2000; simp only [w_br_i, w_ite, w_all, w_all0, forall_eq, w_b0, w_b1, ↓reduceIte, w_ent, w_pos, List.replicate_succ, List.replicate_zero, wp_s, wk_s, w_lk_c, w_ld0, w_ldS, w_kp0, w_kp, w_s1, w_s2, w_to, w_if, w_call, w_sw, w_cat, w_cats, w_psh, w_fv, List.contains_cons, List.contains_nil, List.set_cons_zero, List.set_cons_succ, List.length_cons, List.length_nil, List.find?_cons, List.find?_nil, List.take_succ_cons, List.take_zero, List.drop_succ_cons, List.drop_zero, List.reverse_cons, List.reverse_nil, List.nil_append, List.cons_append, Option.map_some, Option.map_none, Nat.reduceAdd, Nat.reduceBEq, Nat.reduceEqDiff, Nat.reduceLT, Nat.reduceLeDiff, Nat.reduceSub, Int.reduceAdd, Int.reduceSub, Int.reduceMul, Int.reduceNeg, Int.reduceToNat, Int.reduceLT, Int.reduceLE, Int.reduceEq, Bool.false_eq_true, Bool.or_false, Bool.false_or, Bool.true_or, Bool.or_true, if_true, if_false, ite_true, ite_false, true_and, and_true, false_and, and_false, true_or, or_true, false_or, or_false, Int.cast_ofNat_Int, Int.toNat_natCast, Int.natCast_add, List.getElem?_cons_zero, List.getElem?_cons_succ, true_implies, forall_const, not_true_eq_false, not_false_eq_true, ne_eq, beq_iff_eq, imp_self, List.length_set, Nat.zero_add, Nat.add_zero, Int.zero_add, Int.add_zero, w1_aload_n_0, w1_iload_n_1, w1_invokevirtual, w1_ifCond, w1_bipush, w1_ireturn, w1_iload_n_2, w1_i2l, w1_lconst, w1_ldc2_w, w1_invokestatic, w1_getfield, w1_iaload, w1_if_icmp, w1_iconst, w1_goto, w1_istore_n_3, w1_iload_n_3, dX10_as_0, dX10_as_1, dX10_as_2, dX10_as_5, dX10_as_8, dX10_as_10, dX10_as_11, dX10_as_12, dX10_as_13, dX10_as_14, dX10_as_17, dX10_as_20, dX10_as_23, dX10_as_25, dX10_as_26, dX10_as_27, dX10_as_30, dX10_as_31, dX10_as_32, dX10_as_35, dX10_as_36, dX10_as_37, dX10_as_40, dX10_as_41, dX10_as_42, dX10_as_45, dX10_as_46, dX10_as_49, dX10_as_50, dX10_as_51, dX10_as_52, dX10_as_55, dX10_as_56, dX10_as_59, dX10_as_60, dX10_as_61, dX10_as_62, dX10_as_65, dX10_as_66, dX10_as_69, dX10_as_70, w_flk10_25, w_klk10_157, w_kd_135, w_rf_135_0, w_rf_135_2, w_rf_135_3, w_rf_135_8, w_rf_135_12, w_rf_135_14, w_rf_135_15, w_rf_135_16, w_rf_135_24, w_rf_135_25, w_rf_135_26, w_rf_135_27, w_rf_135_28, w_rf_135_29, w_rf_135_30, w_rf_135_33, w_rf_135_34, w_rf_135_39, w_rf_135_40, w_rf_135_41, w_rf_135_42, w_kd_141, w_ln_141, lc0, lc1, p_X10_in, q_X10_in])
    (repeat' (with_reducible (first | refine And.intro ?_ ?_ | intro _))) <;> (try (first | (with_reducible assumption) | (simp only [inI, inL]; omega) | omega))
    all_goals first
      | exact h6.1
      | exact h6.2
      | (simp only [q_X10_as, o_as]; ((repeat' (first | refine And.intro ?_ ?_ | split)) <;> (first | rfl | trivial | assumption | contradiction | omega | (exfalso; omega))))
  (apply hG [11] 2000; simp only [w_br_i, w_ite, w_all, w_all0, forall_eq, w_b0, w_b1, ↓reduceIte, w_ent, w_pos, List.replicate_succ, List.replicate_zero, wp_s, wk_s, w_lk_c, w_ld0, w_ldS, w_kp0, w_kp, w_s1, w_s2, w_to, w_if, w_call, w_sw, w_cat, w_cats, w_psh, w_fv, List.contains_cons, List.contains_nil, List.set_cons_zero, List.set_cons_succ, List.length_cons, List.length_nil, List.find?_cons, List.find?_nil, List.take_succ_cons, List.take_zero, List.drop_succ_cons, List.drop_zero, List.reverse_cons, List.reverse_nil, List.nil_append, List.cons_append, Option.map_some, Option.map_none, Nat.reduceAdd, Nat.reduceBEq, Nat.reduceEqDiff, Nat.reduceLT, Nat.reduceLeDiff, Nat.reduceSub, Int.reduceAdd, Int.reduceSub, Int.reduceMul, Int.reduceNeg, Int.reduceToNat, Int.reduceLT, Int.reduceLE, Int.reduceEq, Bool.false_eq_true, Bool.or_false, Bool.false_or, Bool.true_or, Bool.or_true, if_true, if_false, ite_true, ite_false, true_and, and_true, false_and, and_false, true_or, or_true, false_or, or_false, Int.cast_ofNat_Int, Int.toNat_natCast, Int.natCast_add, List.getElem?_cons_zero, List.getElem?_cons_succ, true_implies, forall_const, not_true_eq_false, not_false_eq_true, ne_eq, beq_iff_eq, imp_self, List.length_set, Nat.zero_add, Nat.add_zero, Int.zero_add, Int.add_zero, w1_aload_n_0, w1_iload_n_1, w1_invokevirtual, w1_ifCond, w1_bipush, w1_ireturn, w1_iload_n_2, w1_i2l, w1_lconst, w1_ldc2_w, w1_invokestatic, w1_getfield, w1_iaload, w1_if_icmp, w1_iconst, w1_goto, w1_istore_n_3, w1_iload_n_3, dX10_as_0, dX10_as_1, dX10_as_2, dX10_as_5, dX10_as_8, dX10_as_10, dX10_as_11, dX10_as_12, dX10_as_13, dX10_as_14, dX10_as_17, dX10_as_20, dX10_as_23, dX10_as_25, dX10_as_26, dX10_as_27, dX10_as_30, dX10_as_31, dX10_as_32, dX10_as_35, dX10_as_36, dX10_as_37, dX10_as_40, dX10_as_41, dX10_as_42, dX10_as_45, dX10_as_46, dX10_as_49, dX10_as_50, dX10_as_51, dX10_as_52, dX10_as_55, dX10_as_56, dX10_as_59, dX10_as_60, dX10_as_61, dX10_as_62, dX10_as_65, dX10_as_66, dX10_as_69, dX10_as_70, w_flk10_25, w_klk10_157, w_kd_135, w_rf_135_0, w_rf_135_2, w_rf_135_3, w_rf_135_8, w_rf_135_12, w_rf_135_14, w_rf_135_15, w_rf_135_16, w_rf_135_24, w_rf_135_25, w_rf_135_26, w_rf_135_27, w_rf_135_28, w_rf_135_29, w_rf_135_30, w_rf_135_33, w_rf_135_34, w_rf_135_39, w_rf_135_40, w_rf_135_41, w_rf_135_42, lc0, lc1, p_X10_isRule, q_X10_isRule])
  (repeat' (with_reducible (first | refine And.intro ?_ ?_ | intro _))) <;> (try (first | (with_reducible assumption) | (simp only [inI, inL]; omega) | omega))
  all_goals first
    | exact e11 (by omega)
    | (simp only [q_X10_as, o_as]; ((repeat' (first | refine And.intro ?_ ?_ | split)) <;> (first | rfl | trivial | assumption | contradiction | omega | (exfalso; omega))))
def p_X10_want : List wV → wW → Prop := fun av w => match av with
  | [.inr (.inr (some this)), .inl u, .inl m] => this = 135 ∧ (0 ≤ u ∧ u < 3) ∧ inI m
  | _ => False
theorem h_X10_want : ∀ av w, p_X10_want av w → ∃ a r, av = vr a :: r ∧ w_kd a = 100 + 10 := by
  intro av w h
  unfold p_X10_want at h
  split at h
  · refine ⟨_, _, rfl, ?_⟩
    first | (rw [h.1]; rfl) | (rw [h]; rfl)
  · exact h.elim
def q_X10_want : List wV → wW → Int → wW → Prop := fun av w r w' => match av with
  | [.inr (.inr (some this)), .inl u, .inl m] => (r = w 139 (7 + 3 * u.toNat) + if 5 ≤ m ∧ m ≤ 7 then w 139 (8 + 3 * u.toNat) else 0) ∧ w' = w
  | _ => False
set_option maxRecDepth 100000 in
set_option maxHeartbeats 4000000 in
theorem c_X10_want : w_Ct yX10_want cX10_want 3 1 1 25 p_X10_want q_X10_want := by
  refine w_met (own := RX10) (fl := w_fl10) (gs := w_gs10) (kl := w_kl10) (ki := w_ki10) (cs := [(107, (1, 3, 3, p_X10_in, q_X10_in))]) (by decide +kernel) rfl ?_ w_flok10 w_gsok10 w_klok10 w_kiok10 ?_ ?_
  · intro av w h
    unfold p_X10_want at h
    split at h
    · simp [w_pos, w_cat]
    · exact h.elim
  · exact List.forall_mem_cons.mpr ⟨⟨_, _, w_callS (own := RX10) (idx := 107) c_X10_in (w_m5 14 (by decide +kernel) (by decide +kernel)) (w_m5 15 (by decide +kernel) (by decide +kernel)) (w_m1 12 (by decide +kernel) (by decide +kernel)) (w_m5 16 (by decide +kernel) (by decide +kernel)) ⟨by decide +kernel, by decide +kernel, by decide +kernel⟩, by decide, by decide⟩, fun _ h => absurd h List.not_mem_nil⟩
  intro av w hp
  unfold p_X10_want at hp
  split at hp
  case h_2 => exact hp.elim
  rename_i this u m
  intro G hG
  simp only [w_ent, w_pos, w_cat, Nat.reduceEqDiff, ↓reduceIte, List.length_cons, List.length_nil, Nat.reduceAdd, Nat.reduceSub, List.cons_append, List.nil_append, List.replicate_succ, List.replicate_zero]
  obtain ⟨rfl, hp⟩ := hp
  have t1 : (7 + 3 * u).toNat = 7 + 3 * u.toNat := by omega
  have t2 : (8 + 3 * u).toNat = 8 + 3 * u.toNat := by omega
  (apply hG [] 2000; simp only [w_br_i, w_ite, w_all, w_all0, forall_eq, w_b0, w_b1, ↓reduceIte, w_ent, w_pos, List.replicate_succ, List.replicate_zero, wp_s, wk_s, w_lk_c, w_ld0, w_ldS, w_kp0, w_kp, w_s1, w_s2, w_to, w_if, w_call, w_sw, w_cat, w_cats, w_psh, w_fv, List.contains_cons, List.contains_nil, List.set_cons_zero, List.set_cons_succ, List.length_cons, List.length_nil, List.find?_cons, List.find?_nil, List.take_succ_cons, List.take_zero, List.drop_succ_cons, List.drop_zero, List.reverse_cons, List.reverse_nil, List.nil_append, List.cons_append, Option.map_some, Option.map_none, Nat.reduceAdd, Nat.reduceBEq, Nat.reduceEqDiff, Nat.reduceLT, Nat.reduceLeDiff, Nat.reduceSub, Int.reduceAdd, Int.reduceSub, Int.reduceMul, Int.reduceNeg, Int.reduceToNat, Int.reduceLT, Int.reduceLE, Int.reduceEq, Bool.false_eq_true, Bool.or_false, Bool.false_or, Bool.true_or, Bool.or_true, if_true, if_false, ite_true, ite_false, true_and, and_true, false_and, and_false, true_or, or_true, false_or, or_false, Int.cast_ofNat_Int, Int.toNat_natCast, Int.natCast_add, List.getElem?_cons_zero, List.getElem?_cons_succ, true_implies, forall_const, not_true_eq_false, not_false_eq_true, ne_eq, beq_iff_eq, imp_self, List.length_set, Nat.zero_add, Nat.add_zero, Int.zero_add, Int.add_zero, w1_aload_n_0, w1_getfield, w1_bipush, w1_iconst, w1_iload_n_1, w1_imul, w1_iadd, w1_iaload, w1_iload_n_2, w1_i2l, w1_ldc2_w, w1_invokestatic, w1_ifCond, w1_goto, w1_ireturn, dX10_want_0, dX10_want_1, dX10_want_4, dX10_want_6, dX10_want_7, dX10_want_8, dX10_want_9, dX10_want_10, dX10_want_11, dX10_want_12, dX10_want_13, dX10_want_16, dX10_want_19, dX10_want_22, dX10_want_25, dX10_want_26, dX10_want_29, dX10_want_31, dX10_want_32, dX10_want_33, dX10_want_34, dX10_want_35, dX10_want_36, dX10_want_39, dX10_want_40, dX10_want_41, w_flk10_19, w_klk10_157, w_klk10_159, w_kd_135, w_rf_135_0, w_rf_135_2, w_rf_135_3, w_rf_135_8, w_rf_135_12, w_rf_135_14, w_rf_135_15, w_rf_135_16, w_rf_135_24, w_rf_135_25, w_rf_135_26, w_rf_135_27, w_rf_135_28, w_rf_135_29, w_rf_135_30, w_rf_135_33, w_rf_135_34, w_rf_135_39, w_rf_135_40, w_rf_135_41, w_rf_135_42, w_kd_139, w_ln_139, p_X10_in, q_X10_in, t1, t2])
  (repeat' (with_reducible (first | refine And.intro ?_ ?_ | intro _))) <;> (try (first | (with_reducible assumption) | (simp only [inI, inL]; omega) | omega))
  all_goals (simp only [q_X10_want]; ((repeat' (first | refine And.intro ?_ ?_ | split)) <;> (first | rfl | trivial | assumption | contradiction | omega | (exfalso; omega))))
def p_X10_houseTold : List wV → wW → Prop := fun av w => match av with
  | [.inr (.inr (some this)), .inl what] => this = 135 ∧ inI what ∧ (0 ≤ w 135 9 ∧ w 135 9 ≤ 3)
  | _ => False
theorem h_X10_houseTold : ∀ av w, p_X10_houseTold av w → ∃ a r, av = vr a :: r ∧ w_kd a = 100 + 10 := by
  intro av w h
  unfold p_X10_houseTold at h
  split at h
  · refine ⟨_, _, rfl, ?_⟩
    first | (rw [h.1]; rfl) | (rw [h]; rfl)
  · exact h.elim
def q_X10_houseTold : List wV → wW → Int → wW → Prop := fun av w r w' => match av with
  | [.inr (.inr (some this)), .inl what] => r = o_told (w 135 9) (w 135 9) what (w 139 what.toNat) (w 139 (7 + 3 * (what / 10 - 1).toNat)) (w 139 (8 + 3 * (what / 10 - 1).toNat)) (w 139 (9 + 3 * (what / 10 - 1).toNat)) ∧ w' = w
  | _ => False
set_option maxRecDepth 100000 in
set_option maxHeartbeats 4000000 in
theorem c_X10_houseTold : w_Ct yX10_houseTold cX10_houseTold 4 1 1 25 p_X10_houseTold q_X10_houseTold := by
  refine w_met (own := RX10) (fl := w_fl10) (gs := w_gs10) (kl := w_kl10) (ki := w_ki10) (cs := [(107, (1, 3, 3, p_X10_in, q_X10_in))]) (by decide +kernel) rfl ?_ w_flok10 w_gsok10 w_klok10 w_kiok10 ?_ ?_
  · intro av w h
    unfold p_X10_houseTold at h
    split at h
    · simp [w_pos, w_cat]
    · exact h.elim
  · exact List.forall_mem_cons.mpr ⟨⟨_, _, w_callS (own := RX10) (idx := 107) c_X10_in (w_m5 14 (by decide +kernel) (by decide +kernel)) (w_m5 15 (by decide +kernel) (by decide +kernel)) (w_m1 12 (by decide +kernel) (by decide +kernel)) (w_m5 16 (by decide +kernel) (by decide +kernel)) ⟨by decide +kernel, by decide +kernel, by decide +kernel⟩, by decide, by decide⟩, fun _ h => absurd h List.not_mem_nil⟩
  intro av w hp
  unfold p_X10_houseTold at hp
  split at hp
  case h_2 => exact hp.elim
  rename_i this what
  intro G hG
  simp only [w_ent, w_pos, w_cat, Nat.reduceEqDiff, ↓reduceIte, List.length_cons, List.length_nil, Nat.reduceAdd, Nat.reduceSub, List.cons_append, List.nil_append, List.replicate_succ, List.replicate_zero]
  obtain ⟨rfl, hp⟩ := hp
  have e42 : ¬ (0 ≤ what ∧ what ≤ 7) → w 135 9 ≠ 0 → G 42 [some (vr 135), some (vi what), none, none] [] w := by
    intro h1 h2
    by_cases hn : what < 0
    · have d1 : what.tdiv 10 ≤ 0 ∧ -214748364 ≤ what.tdiv 10 ∧ (-10 < what.tmod 10 ∧ what.tmod 10 ≤ 0) := by
        obtain ⟨v, rfl⟩ : ∃ v, what = -v := ⟨-what, by omega⟩
        rw [Int.neg_tdiv, Int.neg_tmod, Int.tdiv_eq_ediv_of_nonneg (by omega), Int.tmod_eq_emod_of_nonneg (by omega)]
        omega
      (apply hG [] 2000; simp only [w_br_i, w_ite, w_all, w_all0, forall_eq, w_b0, w_b1, ↓reduceIte, w_ent, w_pos, List.replicate_succ, List.replicate_zero, wp_s, wk_s, w_lk_c, w_ld0, w_ldS, w_kp0, w_kp, w_s1, w_s2, w_to, w_if, w_call, w_sw, w_cat, w_cats, w_psh, w_fv, List.contains_cons, List.contains_nil, List.set_cons_zero, List.set_cons_succ, List.length_cons, List.length_nil, List.find?_cons, List.find?_nil, List.take_succ_cons, List.take_zero, List.drop_succ_cons, List.drop_zero, List.reverse_cons, List.reverse_nil, List.nil_append, List.cons_append, Option.map_some, Option.map_none, Nat.reduceAdd, Nat.reduceBEq, Nat.reduceEqDiff, Nat.reduceLT, Nat.reduceLeDiff, Nat.reduceSub, Int.reduceAdd, Int.reduceSub, Int.reduceMul, Int.reduceNeg, Int.reduceToNat, Int.reduceLT, Int.reduceLE, Int.reduceEq, Bool.false_eq_true, Bool.or_false, Bool.false_or, Bool.true_or, Bool.or_true, if_true, if_false, ite_true, ite_false, true_and, and_true, false_and, and_false, true_or, or_true, false_or, or_false, Int.cast_ofNat_Int, Int.toNat_natCast, Int.natCast_add, List.getElem?_cons_zero, List.getElem?_cons_succ, true_implies, forall_const, not_true_eq_false, not_false_eq_true, ne_eq, beq_iff_eq, imp_self, List.length_set, Nat.zero_add, Nat.add_zero, Int.zero_add, Int.add_zero, w1_aload_n_0, w1_getfield, w1_ifCond, w1_bipush, w1_ireturn, w1_iload_n_1, w1_i2l, w1_lconst, w1_ldc2_w, w1_invokestatic, w1_if_icmp, w1_goto, w1_iaload, w1_idiv, w1_iconst, w1_isub, w1_istore_n_2, w1_irem, w1_istore_n_3, w1_iload_n_2, w1_iload_n_3, w1_imul, w1_iadd, dX10_houseTold_0, dX10_houseTold_1, dX10_houseTold_4, dX10_houseTold_7, dX10_houseTold_9, dX10_houseTold_10, dX10_houseTold_11, dX10_houseTold_12, dX10_houseTold_13, dX10_houseTold_16, dX10_houseTold_19, dX10_houseTold_22, dX10_houseTold_23, dX10_houseTold_25, dX10_houseTold_28, dX10_houseTold_29, dX10_houseTold_32, dX10_houseTold_35, dX10_houseTold_36, dX10_houseTold_39, dX10_houseTold_40, dX10_houseTold_41, dX10_houseTold_42, dX10_houseTold_43, dX10_houseTold_45, dX10_houseTold_46, dX10_houseTold_47, dX10_houseTold_48, dX10_houseTold_49, dX10_houseTold_50, dX10_houseTold_52, dX10_houseTold_53, dX10_houseTold_54, dX10_houseTold_55, dX10_houseTold_56, dX10_houseTold_57, dX10_houseTold_60, dX10_houseTold_63, dX10_houseTold_66, dX10_houseTold_67, dX10_houseTold_68, dX10_houseTold_69, dX10_houseTold_72, dX10_houseTold_75, dX10_houseTold_78, dX10_houseTold_80, dX10_houseTold_81, dX10_houseTold_82, dX10_houseTold_83, dX10_houseTold_86, dX10_houseTold_89, dX10_houseTold_90, dX10_houseTold_93, dX10_houseTold_95, dX10_houseTold_96, dX10_houseTold_97, dX10_houseTold_98, dX10_houseTold_99, dX10_houseTold_100, dX10_houseTold_101, dX10_houseTold_102, dX10_houseTold_105, dX10_houseTold_106, w_flk10_138, w_flk10_19, w_klk10_133, w_klk10_159, w_kd_135, w_rf_135_0, w_rf_135_2, w_rf_135_3, w_rf_135_8, w_rf_135_12, w_rf_135_14, w_rf_135_15, w_rf_135_16, w_rf_135_24, w_rf_135_25, w_rf_135_26, w_rf_135_27, w_rf_135_28, w_rf_135_29, w_rf_135_30, w_rf_135_33, w_rf_135_34, w_rf_135_39, w_rf_135_40, w_rf_135_41, w_rf_135_42, w_kd_139, w_ln_139, lc0, lc1, p_X10_in, q_X10_in])
      (repeat' (with_reducible (first | refine And.intro ?_ ?_ | intro _))) <;> (try (first | (with_reducible assumption) | (simp only [inI, inL]; omega) | omega))
      all_goals (simp only [q_X10_houseTold, o_told]; ((repeat' (first | refine And.intro ?_ ?_ | split)) <;> (first | rfl | trivial | (with_reducible assumption) | omega | (exfalso; omega) | (refine congrArg _ ?_; omega))))
    · have t1 : what.tdiv 10 = what / 10 := Int.tdiv_eq_ediv_of_nonneg (by omega)
      have t2 : what.tmod 10 = what % 10 := Int.tmod_eq_emod_of_nonneg (by omega)
      (apply hG [] 2000; simp only [w_br_i, w_ite, w_all, w_all0, forall_eq, w_b0, w_b1, ↓reduceIte, w_ent, w_pos, List.replicate_succ, List.replicate_zero, wp_s, wk_s, w_lk_c, w_ld0, w_ldS, w_kp0, w_kp, w_s1, w_s2, w_to, w_if, w_call, w_sw, w_cat, w_cats, w_psh, w_fv, List.contains_cons, List.contains_nil, List.set_cons_zero, List.set_cons_succ, List.length_cons, List.length_nil, List.find?_cons, List.find?_nil, List.take_succ_cons, List.take_zero, List.drop_succ_cons, List.drop_zero, List.reverse_cons, List.reverse_nil, List.nil_append, List.cons_append, Option.map_some, Option.map_none, Nat.reduceAdd, Nat.reduceBEq, Nat.reduceEqDiff, Nat.reduceLT, Nat.reduceLeDiff, Nat.reduceSub, Int.reduceAdd, Int.reduceSub, Int.reduceMul, Int.reduceNeg, Int.reduceToNat, Int.reduceLT, Int.reduceLE, Int.reduceEq, Bool.false_eq_true, Bool.or_false, Bool.false_or, Bool.true_or, Bool.or_true, if_true, if_false, ite_true, ite_false, true_and, and_true, false_and, and_false, true_or, or_true, false_or, or_false, Int.cast_ofNat_Int, Int.toNat_natCast, Int.natCast_add, List.getElem?_cons_zero, List.getElem?_cons_succ, true_implies, forall_const, not_true_eq_false, not_false_eq_true, ne_eq, beq_iff_eq, imp_self, List.length_set, Nat.zero_add, Nat.add_zero, Int.zero_add, Int.add_zero, w1_aload_n_0, w1_getfield, w1_ifCond, w1_bipush, w1_ireturn, w1_iload_n_1, w1_i2l, w1_lconst, w1_ldc2_w, w1_invokestatic, w1_if_icmp, w1_goto, w1_iaload, w1_idiv, w1_iconst, w1_isub, w1_istore_n_2, w1_irem, w1_istore_n_3, w1_iload_n_2, w1_iload_n_3, w1_imul, w1_iadd, dX10_houseTold_0, dX10_houseTold_1, dX10_houseTold_4, dX10_houseTold_7, dX10_houseTold_9, dX10_houseTold_10, dX10_houseTold_11, dX10_houseTold_12, dX10_houseTold_13, dX10_houseTold_16, dX10_houseTold_19, dX10_houseTold_22, dX10_houseTold_23, dX10_houseTold_25, dX10_houseTold_28, dX10_houseTold_29, dX10_houseTold_32, dX10_houseTold_35, dX10_houseTold_36, dX10_houseTold_39, dX10_houseTold_40, dX10_houseTold_41, dX10_houseTold_42, dX10_houseTold_43, dX10_houseTold_45, dX10_houseTold_46, dX10_houseTold_47, dX10_houseTold_48, dX10_houseTold_49, dX10_houseTold_50, dX10_houseTold_52, dX10_houseTold_53, dX10_houseTold_54, dX10_houseTold_55, dX10_houseTold_56, dX10_houseTold_57, dX10_houseTold_60, dX10_houseTold_63, dX10_houseTold_66, dX10_houseTold_67, dX10_houseTold_68, dX10_houseTold_69, dX10_houseTold_72, dX10_houseTold_75, dX10_houseTold_78, dX10_houseTold_80, dX10_houseTold_81, dX10_houseTold_82, dX10_houseTold_83, dX10_houseTold_86, dX10_houseTold_89, dX10_houseTold_90, dX10_houseTold_93, dX10_houseTold_95, dX10_houseTold_96, dX10_houseTold_97, dX10_houseTold_98, dX10_houseTold_99, dX10_houseTold_100, dX10_houseTold_101, dX10_houseTold_102, dX10_houseTold_105, dX10_houseTold_106, w_flk10_138, w_flk10_19, w_klk10_133, w_klk10_159, w_kd_135, w_rf_135_0, w_rf_135_2, w_rf_135_3, w_rf_135_8, w_rf_135_12, w_rf_135_14, w_rf_135_15, w_rf_135_16, w_rf_135_24, w_rf_135_25, w_rf_135_26, w_rf_135_27, w_rf_135_28, w_rf_135_29, w_rf_135_30, w_rf_135_33, w_rf_135_34, w_rf_135_39, w_rf_135_40, w_rf_135_41, w_rf_135_42, w_kd_139, w_ln_139, lc0, lc1, p_X10_in, q_X10_in, t1, t2])
      (repeat' (with_reducible (first | refine And.intro ?_ ?_ | intro _))) <;> (try (first | (with_reducible assumption) | (simp only [inI, inL]; omega) | omega))
      all_goals (simp only [q_X10_houseTold, o_told]; ((repeat' (first | refine And.intro ?_ ?_ | split)) <;> (first | rfl | trivial | (with_reducible assumption) | omega | (exfalso; omega) | (refine congrArg _ ?_; omega))))
  (apply hG [42] 2000; simp only [w_br_i, w_ite, w_all, w_all0, forall_eq, w_b0, w_b1, ↓reduceIte, w_ent, w_pos, List.replicate_succ, List.replicate_zero, wp_s, wk_s, w_lk_c, w_ld0, w_ldS, w_kp0, w_kp, w_s1, w_s2, w_to, w_if, w_call, w_sw, w_cat, w_cats, w_psh, w_fv, List.contains_cons, List.contains_nil, List.set_cons_zero, List.set_cons_succ, List.length_cons, List.length_nil, List.find?_cons, List.find?_nil, List.take_succ_cons, List.take_zero, List.drop_succ_cons, List.drop_zero, List.reverse_cons, List.reverse_nil, List.nil_append, List.cons_append, Option.map_some, Option.map_none, Nat.reduceAdd, Nat.reduceBEq, Nat.reduceEqDiff, Nat.reduceLT, Nat.reduceLeDiff, Nat.reduceSub, Int.reduceAdd, Int.reduceSub, Int.reduceMul, Int.reduceNeg, Int.reduceToNat, Int.reduceLT, Int.reduceLE, Int.reduceEq, Bool.false_eq_true, Bool.or_false, Bool.false_or, Bool.true_or, Bool.or_true, if_true, if_false, ite_true, ite_false, true_and, and_true, false_and, and_false, true_or, or_true, false_or, or_false, Int.cast_ofNat_Int, Int.toNat_natCast, Int.natCast_add, List.getElem?_cons_zero, List.getElem?_cons_succ, true_implies, forall_const, not_true_eq_false, not_false_eq_true, ne_eq, beq_iff_eq, imp_self, List.length_set, Nat.zero_add, Nat.add_zero, Int.zero_add, Int.add_zero, w1_aload_n_0, w1_getfield, w1_ifCond, w1_bipush, w1_ireturn, w1_iload_n_1, w1_i2l, w1_lconst, w1_ldc2_w, w1_invokestatic, w1_if_icmp, w1_goto, w1_iaload, w1_idiv, w1_iconst, w1_isub, w1_istore_n_2, w1_irem, w1_istore_n_3, w1_iload_n_2, w1_iload_n_3, w1_imul, w1_iadd, dX10_houseTold_0, dX10_houseTold_1, dX10_houseTold_4, dX10_houseTold_7, dX10_houseTold_9, dX10_houseTold_10, dX10_houseTold_11, dX10_houseTold_12, dX10_houseTold_13, dX10_houseTold_16, dX10_houseTold_19, dX10_houseTold_22, dX10_houseTold_23, dX10_houseTold_25, dX10_houseTold_28, dX10_houseTold_29, dX10_houseTold_32, dX10_houseTold_35, dX10_houseTold_36, dX10_houseTold_39, dX10_houseTold_40, dX10_houseTold_41, dX10_houseTold_42, dX10_houseTold_43, dX10_houseTold_45, dX10_houseTold_46, dX10_houseTold_47, dX10_houseTold_48, dX10_houseTold_49, dX10_houseTold_50, dX10_houseTold_52, dX10_houseTold_53, dX10_houseTold_54, dX10_houseTold_55, dX10_houseTold_56, dX10_houseTold_57, dX10_houseTold_60, dX10_houseTold_63, dX10_houseTold_66, dX10_houseTold_67, dX10_houseTold_68, dX10_houseTold_69, dX10_houseTold_72, dX10_houseTold_75, dX10_houseTold_78, dX10_houseTold_80, dX10_houseTold_81, dX10_houseTold_82, dX10_houseTold_83, dX10_houseTold_86, dX10_houseTold_89, dX10_houseTold_90, dX10_houseTold_93, dX10_houseTold_95, dX10_houseTold_96, dX10_houseTold_97, dX10_houseTold_98, dX10_houseTold_99, dX10_houseTold_100, dX10_houseTold_101, dX10_houseTold_102, dX10_houseTold_105, dX10_houseTold_106, w_flk10_138, w_flk10_19, w_klk10_133, w_klk10_159, w_kd_135, w_rf_135_0, w_rf_135_2, w_rf_135_3, w_rf_135_8, w_rf_135_12, w_rf_135_14, w_rf_135_15, w_rf_135_16, w_rf_135_24, w_rf_135_25, w_rf_135_26, w_rf_135_27, w_rf_135_28, w_rf_135_29, w_rf_135_30, w_rf_135_33, w_rf_135_34, w_rf_135_39, w_rf_135_40, w_rf_135_41, w_rf_135_42, w_kd_139, w_ln_139, lc0, lc1, p_X10_in, q_X10_in])
  (repeat' (with_reducible (first | refine And.intro ?_ ?_ | intro _))) <;> (try (first | (with_reducible assumption) | (simp only [inI, inL]; omega) | omega))
  all_goals first
    | exact e42 (by omega) (by omega)
    | (simp only [q_X10_houseTold, o_told]; ((repeat' (first | refine And.intro ?_ ?_ | split)) <;> (first | rfl | trivial | assumption | contradiction | omega | (exfalso; omega))))
def p_X10_change : List wV → wW → Prop := fun av w => match av with
  | [.inr (.inr (some this)), .inl what, .inl v] => this = 135 ∧ inI what ∧ inI v ∧ inI (w 135 9)
  | _ => False
theorem h_X10_change : ∀ av w, p_X10_change av w → ∃ a r, av = vr a :: r ∧ w_kd a = 100 + 10 := by
  intro av w h
  unfold p_X10_change at h
  split at h
  · refine ⟨_, _, rfl, ?_⟩
    first | (rw [h.1]; rfl) | (rw [h]; rfl)
  · exact h.elim
def q_X10_change : List wV → wW → Int → wW → Prop := fun av w r w' => match av with
  | [.inr (.inr (some this)), .inl what, .inl v] => r = o_change (w 135 9) what v (w 139 what.toNat) ∧ w' = if w 135 9 ≠ 0 ∧ (0 ≤ what ∧ what < 7) ∧ o_lst what ≤ v ∧ v ≤ o_mst what then w_up w 139 what.toNat v else w
  | _ => False
set_option maxRecDepth 100000 in
set_option maxHeartbeats 4000000 in
theorem c_X10_change : w_Ct yX10_change cX10_change 4 1 1 25 p_X10_change q_X10_change := by
  refine w_met (own := RX10) (fl := w_fl10) (gs := w_gs10) (kl := w_kl10) (ki := w_ki10) (cs := [(107, (1, 3, 3, p_X10_in, q_X10_in)), (100, (1, 1, 1, p_X10_highest, q_X10_highest))]) (by decide +kernel) rfl ?_ w_flok10 w_gsok10 w_klok10 w_kiok10 ?_ ?_
  · intro av w h
    unfold p_X10_change at h
    split at h
    · simp [w_pos, w_cat]
    · exact h.elim
  · exact List.forall_mem_cons.mpr ⟨⟨_, _, w_callS (own := RX10) (idx := 107) c_X10_in (w_m5 14 (by decide +kernel) (by decide +kernel)) (w_m5 15 (by decide +kernel) (by decide +kernel)) (w_m1 12 (by decide +kernel) (by decide +kernel)) (w_m5 16 (by decide +kernel) (by decide +kernel)) ⟨by decide +kernel, by decide +kernel, by decide +kernel⟩, by decide, by decide⟩, List.forall_mem_cons.mpr ⟨⟨_, _, w_callS (own := RX10) (idx := 100) c_X10_highest (w_m5 38 (by decide +kernel) (by decide +kernel)) (w_m5 39 (by decide +kernel) (by decide +kernel)) (w_m1 12 (by decide +kernel) (by decide +kernel)) (w_m5 40 (by decide +kernel) (by decide +kernel)) ⟨by decide +kernel, by decide +kernel, by decide +kernel⟩, by decide, by decide⟩, fun _ h => absurd h List.not_mem_nil⟩⟩
  intro av w hp
  unfold p_X10_change at hp
  split at hp
  case h_2 => exact hp.elim
  rename_i this what v
  intro G hG
  simp only [w_ent, w_pos, w_cat, Nat.reduceEqDiff, ↓reduceIte, List.length_cons, List.length_nil, Nat.reduceAdd, Nat.reduceSub, List.cons_append, List.nil_append, List.replicate_succ, List.replicate_zero]
  obtain ⟨rfl, hp⟩ := hp
  have hml : 0 ≤ what ∧ what < 7 → m_high what = o_mst what := by
    intro h
    unfold m_high o_mst
    (repeat' split) <;> omega
  have hmr : 5 ≤ m_high what ∧ m_high what ≤ 200 := by
    unfold m_high
    (repeat' split) <;> omega
  (apply hG [] 2000; simp only [w_br_i, w_ite, w_all, w_all0, forall_eq, w_b0, w_b1, ↓reduceIte, w_ent, w_pos, List.replicate_succ, List.replicate_zero, wp_s, wk_s, w_lk_c, w_ld0, w_ldS, w_kp0, w_kp, w_s1, w_s2, w_to, w_if, w_call, w_sw, w_cat, w_cats, w_psh, w_fv, List.contains_cons, List.contains_nil, List.set_cons_zero, List.set_cons_succ, List.length_cons, List.length_nil, List.find?_cons, List.find?_nil, List.take_succ_cons, List.take_zero, List.drop_succ_cons, List.drop_zero, List.reverse_cons, List.reverse_nil, List.nil_append, List.cons_append, Option.map_some, Option.map_none, Nat.reduceAdd, Nat.reduceBEq, Nat.reduceEqDiff, Nat.reduceLT, Nat.reduceLeDiff, Nat.reduceSub, Int.reduceAdd, Int.reduceSub, Int.reduceMul, Int.reduceNeg, Int.reduceToNat, Int.reduceLT, Int.reduceLE, Int.reduceEq, Bool.false_eq_true, Bool.or_false, Bool.false_or, Bool.true_or, Bool.or_true, if_true, if_false, ite_true, ite_false, true_and, and_true, false_and, and_false, true_or, or_true, false_or, or_false, Int.cast_ofNat_Int, Int.toNat_natCast, Int.natCast_add, List.getElem?_cons_zero, List.getElem?_cons_succ, true_implies, forall_const, not_true_eq_false, not_false_eq_true, ne_eq, beq_iff_eq, imp_self, List.length_set, Nat.zero_add, Nat.add_zero, Int.zero_add, Int.add_zero, w1_aload_n_0, w1_getfield, w1_ifCond, w1_bipush, w1_ireturn, w1_iload_n_1, w1_i2l, w1_lconst, w1_ldc2_w, w1_invokestatic, w1_iload_n_2, w1_goto, w1_iaload, w1_istore_n_3, w1_iastore, w1_iload_n_3, dX10_change_0, dX10_change_1, dX10_change_4, dX10_change_7, dX10_change_9, dX10_change_10, dX10_change_11, dX10_change_12, dX10_change_13, dX10_change_16, dX10_change_19, dX10_change_22, dX10_change_23, dX10_change_24, dX10_change_25, dX10_change_28, dX10_change_29, dX10_change_32, dX10_change_33, dX10_change_34, dX10_change_37, dX10_change_38, dX10_change_41, dX10_change_44, dX10_change_46, dX10_change_47, dX10_change_48, dX10_change_51, dX10_change_52, dX10_change_53, dX10_change_54, dX10_change_55, dX10_change_58, dX10_change_59, dX10_change_60, dX10_change_61, dX10_change_62, w_flk10_138, w_flk10_19, w_klk10_161, w_kd_135, w_rf_135_0, w_rf_135_2, w_rf_135_3, w_rf_135_8, w_rf_135_12, w_rf_135_14, w_rf_135_15, w_rf_135_16, w_rf_135_24, w_rf_135_25, w_rf_135_26, w_rf_135_27, w_rf_135_28, w_rf_135_29, w_rf_135_30, w_rf_135_33, w_rf_135_34, w_rf_135_39, w_rf_135_40, w_rf_135_41, w_rf_135_42, w_kd_139, w_ln_139, lc0, lc1, p_X10_in, q_X10_in, p_X10_highest, q_X10_highest])
  (repeat' (with_reducible (first | refine And.intro ?_ ?_ | intro _))) <;> (try (first | (with_reducible assumption) | (simp only [inI, inL]; omega) | omega))
  all_goals first
    | (by_cases h : 0 ≤ what ∧ what < 7
       · rw [hml h] at *
         simp only [q_X10_change, o_change, o_lst]
         ((repeat' (first | refine And.intro ?_ ?_ | split)) <;> (first | rfl | trivial | assumption | contradiction | omega | (exfalso; omega)))
       · simp only [q_X10_change, o_change, o_lst]
         ((repeat' (first | refine And.intro ?_ ?_ | split)) <;> (first | rfl | trivial | assumption | contradiction | omega | (exfalso; omega))))
    | skip
def p_X10_rain : List wV → wW → Prop := fun av w => match av with
  | [.inr (.inr (some this)), .inl y, .inl m] => this = 135 ∧ inI y ∧ inI m ∧ (0 ≤ w 135 11 ∧ w 135 11 ≤ 8)
  | _ => False
theorem h_X10_rain : ∀ av w, p_X10_rain av w → ∃ a r, av = vr a :: r ∧ w_kd a = 100 + 10 := by
  intro av w h
  unfold p_X10_rain at h
  split at h
  · refine ⟨_, _, rfl, ?_⟩
    first | (rw [h.1]; rfl) | (rw [h]; rfl)
  · exact h.elim
def q_X10_rain : List wV → wW → Int → wW → Prop := fun av w r w' => match av with
  | [.inr (.inr (some this)), .inl y, .inl m] => (r = if (0 ≤ y ∧ y < w 135 11) ∧ 0 ≤ m ∧ m < 12 then w 140 (12 * y.toNat + m.toNat) else -101) ∧ w' = w
  | _ => False
set_option maxRecDepth 100000 in
set_option maxHeartbeats 4000000 in
theorem c_X10_rain : w_Ct yX10_rain cX10_rain 3 1 1 25 p_X10_rain q_X10_rain := by
  refine w_met (own := RX10) (fl := w_fl10) (gs := w_gs10) (kl := w_kl10) (ki := w_ki10) (cs := [(107, (1, 3, 3, p_X10_in, q_X10_in))]) (by decide +kernel) rfl ?_ w_flok10 w_gsok10 w_klok10 w_kiok10 ?_ ?_
  · intro av w h
    unfold p_X10_rain at h
    split at h
    · simp [w_pos, w_cat]
    · exact h.elim
  · exact List.forall_mem_cons.mpr ⟨⟨_, _, w_callS (own := RX10) (idx := 107) c_X10_in (w_m5 14 (by decide +kernel) (by decide +kernel)) (w_m5 15 (by decide +kernel) (by decide +kernel)) (w_m1 12 (by decide +kernel) (by decide +kernel)) (w_m5 16 (by decide +kernel) (by decide +kernel)) ⟨by decide +kernel, by decide +kernel, by decide +kernel⟩, by decide, by decide⟩, fun _ h => absurd h List.not_mem_nil⟩
  intro av w hp
  unfold p_X10_rain at hp
  split at hp
  case h_2 => exact hp.elim
  rename_i this y m
  intro G hG
  simp only [w_ent, w_pos, w_cat, Nat.reduceEqDiff, ↓reduceIte, List.length_cons, List.length_nil, Nat.reduceAdd, Nat.reduceSub, List.cons_append, List.nil_append, List.replicate_succ, List.replicate_zero]
  obtain ⟨rfl, hp⟩ := hp
  have t1 : 0 ≤ y → 0 ≤ m → (12 * y + m).toNat = 12 * y.toNat + m.toNat := by omega
  (apply hG [] 2000; simp only [w_br_i, w_ite, w_all, w_all0, forall_eq, w_b0, w_b1, ↓reduceIte, w_ent, w_pos, List.replicate_succ, List.replicate_zero, wp_s, wk_s, w_lk_c, w_ld0, w_ldS, w_kp0, w_kp, w_s1, w_s2, w_to, w_if, w_call, w_sw, w_cat, w_cats, w_psh, w_fv, List.contains_cons, List.contains_nil, List.set_cons_zero, List.set_cons_succ, List.length_cons, List.length_nil, List.find?_cons, List.find?_nil, List.take_succ_cons, List.take_zero, List.drop_succ_cons, List.drop_zero, List.reverse_cons, List.reverse_nil, List.nil_append, List.cons_append, Option.map_some, Option.map_none, Nat.reduceAdd, Nat.reduceBEq, Nat.reduceEqDiff, Nat.reduceLT, Nat.reduceLeDiff, Nat.reduceSub, Int.reduceAdd, Int.reduceSub, Int.reduceMul, Int.reduceNeg, Int.reduceToNat, Int.reduceLT, Int.reduceLE, Int.reduceEq, Bool.false_eq_true, Bool.or_false, Bool.false_or, Bool.true_or, Bool.or_true, if_true, if_false, ite_true, ite_false, true_and, and_true, false_and, and_false, true_or, or_true, false_or, or_false, Int.cast_ofNat_Int, Int.toNat_natCast, Int.natCast_add, List.getElem?_cons_zero, List.getElem?_cons_succ, true_implies, forall_const, not_true_eq_false, not_false_eq_true, ne_eq, beq_iff_eq, imp_self, List.length_set, Nat.zero_add, Nat.add_zero, Int.zero_add, Int.add_zero, w1_iload_n_1, w1_i2l, w1_lconst, w1_aload_n_0, w1_getfield, w1_iconst, w1_isub, w1_invokestatic, w1_ifCond, w1_iload_n_2, w1_ldc2_w, w1_bipush, w1_imul, w1_iadd, w1_iaload, w1_goto, w1_ireturn, dX10_rain_0, dX10_rain_1, dX10_rain_2, dX10_rain_3, dX10_rain_4, dX10_rain_7, dX10_rain_8, dX10_rain_9, dX10_rain_10, dX10_rain_13, dX10_rain_16, dX10_rain_17, dX10_rain_18, dX10_rain_19, dX10_rain_22, dX10_rain_25, dX10_rain_28, dX10_rain_29, dX10_rain_32, dX10_rain_34, dX10_rain_35, dX10_rain_36, dX10_rain_37, dX10_rain_38, dX10_rain_39, dX10_rain_42, dX10_rain_44, w_flk10_144, w_flk10_22, w_klk10_163, w_kd_135, w_rf_135_0, w_rf_135_2, w_rf_135_3, w_rf_135_8, w_rf_135_12, w_rf_135_14, w_rf_135_15, w_rf_135_16, w_rf_135_24, w_rf_135_25, w_rf_135_26, w_rf_135_27, w_rf_135_28, w_rf_135_29, w_rf_135_30, w_rf_135_33, w_rf_135_34, w_rf_135_39, w_rf_135_40, w_rf_135_41, w_rf_135_42, w_kd_140, w_ln_140, lc0, lc1, p_X10_in, q_X10_in])
  (repeat' (with_reducible (first | refine And.intro ?_ ?_ | intro _))) <;> (try (first | (with_reducible assumption) | (simp only [inI, inL]; omega) | omega))
  all_goals (simp only [q_X10_rain]; ((repeat' (first | refine And.intro ?_ ?_ | split)) <;> (first | rfl | trivial | (with_reducible assumption) | omega | (exfalso; omega) | (refine congrArg _ ?_; omega))))
def p_X10_rule : List wV → wW → Prop := fun av w => match av with
  | [.inr (.inr (some this)), .inl k, .inl n] => this = 135 ∧ inI k ∧ inI n ∧ (0 ≤ w 135 13 ∧ w 135 13 ≤ 8)
  | _ => False
theorem h_X10_rule : ∀ av w, p_X10_rule av w → ∃ a r, av = vr a :: r ∧ w_kd a = 100 + 10 := by
  intro av w h
  unfold p_X10_rule at h
  split at h
  · refine ⟨_, _, rfl, ?_⟩
    first | (rw [h.1]; rfl) | (rw [h]; rfl)
  · exact h.elim
def q_X10_rule : List wV → wW → Int → wW → Prop := fun av w r w' => match av with
  | [.inr (.inr (some this)), .inl k, .inl n] => r = o_rule k n (w 135 13) ∧ w' = if 0 ≤ r then w_up (w_up (w_up w 141 (w 135 13).toNat k) 142 (w 135 13).toNat n) 135 13 (w 135 13 + 1) else w
  | _ => False
set_option maxRecDepth 100000 in
set_option maxHeartbeats 4000000 in
theorem c_X10_rule : w_Ct yX10_rule cX10_rule 3 1 1 25 p_X10_rule q_X10_rule := by
  refine w_met (own := RX10) (fl := w_fl10) (gs := w_gs10) (kl := w_kl10) (ki := w_ki10) (cs := [(107, (1, 3, 3, p_X10_in, q_X10_in))]) (by decide +kernel) rfl ?_ w_flok10 w_gsok10 w_klok10 w_kiok10 ?_ ?_
  · intro av w h
    unfold p_X10_rule at h
    split at h
    · simp [w_pos, w_cat]
    · exact h.elim
  · exact List.forall_mem_cons.mpr ⟨⟨_, _, w_callS (own := RX10) (idx := 107) c_X10_in (w_m5 14 (by decide +kernel) (by decide +kernel)) (w_m5 15 (by decide +kernel) (by decide +kernel)) (w_m1 12 (by decide +kernel) (by decide +kernel)) (w_m5 16 (by decide +kernel) (by decide +kernel)) ⟨by decide +kernel, by decide +kernel, by decide +kernel⟩, by decide, by decide⟩, fun _ h => absurd h List.not_mem_nil⟩
  intro av w hp
  unfold p_X10_rule at hp
  split at hp
  case h_2 => exact hp.elim
  rename_i this k n
  intro G hG
  simp only [w_ent, w_pos, w_cat, Nat.reduceEqDiff, ↓reduceIte, List.length_cons, List.length_nil, Nat.reduceAdd, Nat.reduceSub, List.cons_append, List.nil_append, List.replicate_succ, List.replicate_zero]
  obtain ⟨rfl, hp⟩ := hp
  have u1 : ∀ i v, w_up w 141 i v 135 13 = w 135 13 := fun i v => up_k (by decide)
  have u2 : ∀ i v j u, w_up (w_up w 141 i v) 142 j u 135 13 = w 135 13 := fun i v j u => by rw [up_k (by decide), up_k (by decide)]
  (apply hG [] 2000; simp only [w_br_i, w_ite, w_all, w_all0, forall_eq, w_b0, w_b1, ↓reduceIte, w_ent, w_pos, List.replicate_succ, List.replicate_zero, wp_s, wk_s, w_lk_c, w_ld0, w_ldS, w_kp0, w_kp, w_s1, w_s2, w_to, w_if, w_call, w_sw, w_cat, w_cats, w_psh, w_fv, List.contains_cons, List.contains_nil, List.set_cons_zero, List.set_cons_succ, List.length_cons, List.length_nil, List.find?_cons, List.find?_nil, List.take_succ_cons, List.take_zero, List.drop_succ_cons, List.drop_zero, List.reverse_cons, List.reverse_nil, List.nil_append, List.cons_append, Option.map_some, Option.map_none, Nat.reduceAdd, Nat.reduceBEq, Nat.reduceEqDiff, Nat.reduceLT, Nat.reduceLeDiff, Nat.reduceSub, Int.reduceAdd, Int.reduceSub, Int.reduceMul, Int.reduceNeg, Int.reduceToNat, Int.reduceLT, Int.reduceLE, Int.reduceEq, Bool.false_eq_true, Bool.or_false, Bool.false_or, Bool.true_or, Bool.or_true, if_true, if_false, ite_true, ite_false, true_and, and_true, false_and, and_false, true_or, or_true, false_or, or_false, Int.cast_ofNat_Int, Int.toNat_natCast, Int.natCast_add, List.getElem?_cons_zero, List.getElem?_cons_succ, true_implies, forall_const, not_true_eq_false, not_false_eq_true, ne_eq, beq_iff_eq, imp_self, List.length_set, Nat.zero_add, Nat.add_zero, Int.zero_add, Int.add_zero, w1_iload_n_1, w1_i2l, w1_lconst, w1_ldc2_w, w1_invokestatic, w1_ifCond, w1_iload_n_2, w1_iconst, w1_if_icmp, w1_goto, w1_bipush, w1_ireturn, w1_aload_n_0, w1_getfield, w1_iastore, w1_dup, w1_dup2, w1_iadd, w1_putfield, w1_putfield2, w1_isub, dX10_rule_0, dX10_rule_1, dX10_rule_2, dX10_rule_3, dX10_rule_6, dX10_rule_9, dX10_rule_12, dX10_rule_13, dX10_rule_14, dX10_rule_15, dX10_rule_16, dX10_rule_17, dX10_rule_20, dX10_rule_21, dX10_rule_22, dX10_rule_25, dX10_rule_28, dX10_rule_31, dX10_rule_32, dX10_rule_35, dX10_rule_38, dX10_rule_40, dX10_rule_41, dX10_rule_42, dX10_rule_45, dX10_rule_47, dX10_rule_50, dX10_rule_52, dX10_rule_53, dX10_rule_54, dX10_rule_57, dX10_rule_58, dX10_rule_61, dX10_rule_62, dX10_rule_63, dX10_rule_64, dX10_rule_67, dX10_rule_68, dX10_rule_71, dX10_rule_72, dX10_rule_73, dX10_rule_74, dX10_rule_75, dX10_rule_78, dX10_rule_79, dX10_rule_80, dX10_rule_83, dX10_rule_84, dX10_rule_87, dX10_rule_88, dX10_rule_89, w_flk10_147, w_flk10_25, w_flk10_28, w_klk10_150, w_klk10_152, w_kd_135, w_rf_135_0, w_rf_135_2, w_rf_135_3, w_rf_135_8, w_rf_135_12, w_rf_135_14, w_rf_135_15, w_rf_135_16, w_rf_135_24, w_rf_135_25, w_rf_135_26, w_rf_135_27, w_rf_135_28, w_rf_135_29, w_rf_135_30, w_rf_135_33, w_rf_135_34, w_rf_135_39, w_rf_135_40, w_rf_135_41, w_rf_135_42, w_kd_141, w_ln_141, w_kd_142, w_ln_142, lc0, lc1, p_X10_in, q_X10_in, u1, u2, up_eq])
  (repeat' (with_reducible (first | refine And.intro ?_ ?_ | intro _))) <;> (try (first | (with_reducible assumption) | (simp only [inI, inL]; omega) | omega))
  all_goals first
    | (simp only [q_X10_rule, o_rule]; ((repeat' (first | refine And.intro ?_ ?_ | split)) <;> (first | rfl | trivial | assumption | contradiction | omega | (exfalso; omega))))
    | skip
def p_X10_read : List wV → wW → Prop := fun av w => match av with
  | [.inr (.inr (some this)), .inl m, .inl v] => this = 135 ∧ inI m ∧ inI v
  | _ => False
theorem h_X10_read : ∀ av w, p_X10_read av w → ∃ a r, av = vr a :: r ∧ w_kd a = 100 + 10 := by
  intro av w h
  unfold p_X10_read at h
  split at h
  · refine ⟨_, _, rfl, ?_⟩
    first | (rw [h.1]; rfl) | (rw [h]; rfl)
  · exact h.elim
def q_X10_read : List wV → wW → Int → wW → Prop := fun av w r w' => match av with
  | [.inr (.inr (some this)), .inl m, .inl v] => (r = if m < 0 ∨ 12 ≤ m then -101 else if v < -1 ∨ 200 < v then -102 else w 153 m.toNat) ∧ w' = if (0 ≤ m ∧ m < 12) ∧ -1 ≤ v ∧ v ≤ 200 then w_up w 153 m.toNat v else w
  | _ => False
set_option maxRecDepth 100000 in
set_option maxHeartbeats 4000000 in
theorem c_X10_read : w_Ct yX10_read cX10_read 4 1 1 25 p_X10_read q_X10_read := by
  refine w_met (own := RX10) (fl := w_fl10) (gs := w_gs10) (kl := w_kl10) (ki := w_ki10) (cs := [(107, (1, 3, 3, p_X10_in, q_X10_in))]) (by decide +kernel) rfl ?_ w_flok10 w_gsok10 w_klok10 w_kiok10 ?_ ?_
  · intro av w h
    unfold p_X10_read at h
    split at h
    · simp [w_pos, w_cat]
    · exact h.elim
  · exact List.forall_mem_cons.mpr ⟨⟨_, _, w_callS (own := RX10) (idx := 107) c_X10_in (w_m5 14 (by decide +kernel) (by decide +kernel)) (w_m5 15 (by decide +kernel) (by decide +kernel)) (w_m1 12 (by decide +kernel) (by decide +kernel)) (w_m5 16 (by decide +kernel) (by decide +kernel)) ⟨by decide +kernel, by decide +kernel, by decide +kernel⟩, by decide, by decide⟩, fun _ h => absurd h List.not_mem_nil⟩
  intro av w hp
  unfold p_X10_read at hp
  split at hp
  case h_2 => exact hp.elim
  rename_i this m v
  intro G hG
  simp only [w_ent, w_pos, w_cat, Nat.reduceEqDiff, ↓reduceIte, List.length_cons, List.length_nil, Nat.reduceAdd, Nat.reduceSub, List.cons_append, List.nil_append, List.replicate_succ, List.replicate_zero]
  obtain ⟨rfl, hp⟩ := hp
  (apply hG [] 2000; simp only [w_br_i, w_ite, w_all, w_all0, forall_eq, w_b0, w_b1, ↓reduceIte, w_ent, w_pos, List.replicate_succ, List.replicate_zero, wp_s, wk_s, w_lk_c, w_ld0, w_ldS, w_kp0, w_kp, w_s1, w_s2, w_to, w_if, w_call, w_sw, w_cat, w_cats, w_psh, w_fv, List.contains_cons, List.contains_nil, List.set_cons_zero, List.set_cons_succ, List.length_cons, List.length_nil, List.find?_cons, List.find?_nil, List.take_succ_cons, List.take_zero, List.drop_succ_cons, List.drop_zero, List.reverse_cons, List.reverse_nil, List.nil_append, List.cons_append, Option.map_some, Option.map_none, Nat.reduceAdd, Nat.reduceBEq, Nat.reduceEqDiff, Nat.reduceLT, Nat.reduceLeDiff, Nat.reduceSub, Int.reduceAdd, Int.reduceSub, Int.reduceMul, Int.reduceNeg, Int.reduceToNat, Int.reduceLT, Int.reduceLE, Int.reduceEq, Bool.false_eq_true, Bool.or_false, Bool.false_or, Bool.true_or, Bool.or_true, if_true, if_false, ite_true, ite_false, true_and, and_true, false_and, and_false, true_or, or_true, false_or, or_false, Int.cast_ofNat_Int, Int.toNat_natCast, Int.natCast_add, List.getElem?_cons_zero, List.getElem?_cons_succ, true_implies, forall_const, not_true_eq_false, not_false_eq_true, ne_eq, beq_iff_eq, imp_self, List.length_set, Nat.zero_add, Nat.add_zero, Int.zero_add, Int.add_zero, w1_iload_n_1, w1_i2l, w1_lconst, w1_ldc2_w, w1_invokestatic, w1_ifCond, w1_bipush, w1_ireturn, w1_iload_n_2, w1_aload_n_0, w1_getfield, w1_iaload, w1_istore_n_3, w1_iastore, w1_iload_n_3, dX10_read_0, dX10_read_1, dX10_read_2, dX10_read_3, dX10_read_6, dX10_read_9, dX10_read_12, dX10_read_14, dX10_read_15, dX10_read_16, dX10_read_17, dX10_read_20, dX10_read_23, dX10_read_26, dX10_read_29, dX10_read_31, dX10_read_32, dX10_read_33, dX10_read_36, dX10_read_37, dX10_read_38, dX10_read_39, dX10_read_40, dX10_read_43, dX10_read_44, dX10_read_45, dX10_read_46, dX10_read_47, w_flk10_62, w_klk10_152, w_klk10_163, w_klk10_294, w_kd_135, w_rf_135_0, w_rf_135_2, w_rf_135_3, w_rf_135_8, w_rf_135_12, w_rf_135_14, w_rf_135_15, w_rf_135_16, w_rf_135_24, w_rf_135_25, w_rf_135_26, w_rf_135_27, w_rf_135_28, w_rf_135_29, w_rf_135_30, w_rf_135_33, w_rf_135_34, w_rf_135_39, w_rf_135_40, w_rf_135_41, w_rf_135_42, w_kd_153, w_ln_153, lc0, lc1, p_X10_in, q_X10_in])
  (repeat' (with_reducible (first | refine And.intro ?_ ?_ | intro _))) <;> (try (first | (with_reducible assumption) | (simp only [inI, inL]; omega) | omega))
  all_goals (simp only [q_X10_read]; ((repeat' (first | refine And.intro ?_ ?_ | split)) <;> (first | rfl | trivial | assumption | contradiction | omega | (exfalso; omega))))
def p_X10_stateAt : List wV → wW → Prop := fun av w => match av with
  | [.inl m, .inl lv, .inl wet] => inI wet
  | _ => False
def q_X10_stateAt : List wV → wW → Int → wW → Prop := fun av w r w' => match av with
  | [.inl m, .inl lv, .inl wet] => (r = 402 * m + 2 * lv + (if wet = 0 then 0 else 1)) ∧ w' = w
  | _ => False
set_option maxRecDepth 100000 in
set_option maxHeartbeats 4000000 in
theorem c_X10_stateAt : w_Ct yX10_stateAt cX10_stateAt 3 1 0 0 p_X10_stateAt q_X10_stateAt := by
  refine w_met (own := RX10) (fl := w_fl10) (gs := w_gs10) (kl := w_kl10) (ki := w_ki10) (cs := []) (by decide +kernel) rfl ?_ w_flok10 w_gsok10 w_klok10 w_kiok10 ?_ ?_
  · intro av w h
    unfold p_X10_stateAt at h
    split at h
    · simp [w_pos, w_cat]
    · exact h.elim
  · exact fun _ h => absurd h List.not_mem_nil
  intro av w hp
  unfold p_X10_stateAt at hp
  split at hp
  case h_2 => exact hp.elim
  rename_i m lv wet
  intro G hG
  simp only [w_ent, w_pos, w_cat, Nat.reduceEqDiff, ↓reduceIte, List.length_cons, List.length_nil, Nat.reduceAdd, Nat.reduceSub, List.cons_append, List.nil_append, List.replicate_succ, List.replicate_zero]
  (apply hG [] 2000; simp only [w_br_i, w_ite, w_all, w_all0, forall_eq, w_b0, w_b1, ↓reduceIte, w_ent, w_pos, List.replicate_succ, List.replicate_zero, wp_s, wk_s, w_lk_c, w_ld0, w_ldS, w_kp0, w_kp, w_s1, w_s2, w_to, w_if, w_call, w_sw, w_cat, w_cats, w_psh, w_fv, List.contains_cons, List.contains_nil, List.set_cons_zero, List.set_cons_succ, List.length_cons, List.length_nil, List.find?_cons, List.find?_nil, List.take_succ_cons, List.take_zero, List.drop_succ_cons, List.drop_zero, List.reverse_cons, List.reverse_nil, List.nil_append, List.cons_append, Option.map_some, Option.map_none, Nat.reduceAdd, Nat.reduceBEq, Nat.reduceEqDiff, Nat.reduceLT, Nat.reduceLeDiff, Nat.reduceSub, Int.reduceAdd, Int.reduceSub, Int.reduceMul, Int.reduceNeg, Int.reduceToNat, Int.reduceLT, Int.reduceLE, Int.reduceEq, Bool.false_eq_true, Bool.or_false, Bool.false_or, Bool.true_or, Bool.or_true, if_true, if_false, ite_true, ite_false, true_and, and_true, false_and, and_false, true_or, or_true, false_or, or_false, Int.cast_ofNat_Int, Int.toNat_natCast, Int.natCast_add, List.getElem?_cons_zero, List.getElem?_cons_succ, true_implies, forall_const, not_true_eq_false, not_false_eq_true, ne_eq, beq_iff_eq, imp_self, List.length_set, Nat.zero_add, Nat.add_zero, Int.zero_add, Int.add_zero, w1_sipush, w1_iload_n_0, w1_imul, w1_iconst, w1_iload_n_1, w1_iadd, w1_iload_n_2, w1_ifCond, w1_goto, w1_ireturn, dX10_stateAt_0, dX10_stateAt_3, dX10_stateAt_4, dX10_stateAt_5, dX10_stateAt_6, dX10_stateAt_7, dX10_stateAt_8, dX10_stateAt_9, dX10_stateAt_10, dX10_stateAt_13, dX10_stateAt_14, dX10_stateAt_17, dX10_stateAt_18, dX10_stateAt_19])
  (repeat' (with_reducible (first | refine And.intro ?_ ?_ | intro _))) <;> (try (first | (with_reducible assumption) | (simp only [inI, inL]; omega) | omega))
  all_goals (simp only [q_X10_stateAt]; ((repeat' (first | refine And.intro ?_ ?_ | split)) <;> (first | rfl | trivial | assumption | contradiction | omega | (exfalso; omega))))
def p_X10_lacks : List wV → wW → Prop := fun av w => match av with
  | [.inr (.inr (some this))] => this = 135 ∧ inI (w 135 9) ∧ inI (w 135 11)
  | _ => False
theorem h_X10_lacks : ∀ av w, p_X10_lacks av w → ∃ a r, av = vr a :: r ∧ w_kd a = 100 + 10 := by
  intro av w h
  unfold p_X10_lacks at h
  split at h
  · refine ⟨_, _, rfl, ?_⟩
    first | (rw [h.1]; rfl) | (rw [h]; rfl)
  · exact h.elim
def q_X10_lacks : List wV → wW → Int → wW → Prop := fun av w r w' => match av with
  | [.inr (.inr (some this))] => (r = if w 135 9 = 0 ∨ w 135 11 = 0 then 1 else 0) ∧ w' = w
  | _ => False
set_option maxRecDepth 100000 in
set_option maxHeartbeats 4000000 in
theorem c_X10_lacks : w_Ct yX10_lacks cX10_lacks 1 3 0 0 p_X10_lacks q_X10_lacks := by
  refine w_met (own := RX10) (fl := w_fl10) (gs := w_gs10) (kl := w_kl10) (ki := w_ki10) (cs := []) (by decide +kernel) rfl ?_ w_flok10 w_gsok10 w_klok10 w_kiok10 ?_ ?_
  · intro av w h
    unfold p_X10_lacks at h
    split at h
    · simp [w_pos, w_cat]
    · exact h.elim
  · exact fun _ h => absurd h List.not_mem_nil
  intro av w hp
  unfold p_X10_lacks at hp
  split at hp
  case h_2 => exact hp.elim
  rename_i this
  intro G hG
  simp only [w_ent, w_pos, w_cat, Nat.reduceEqDiff, ↓reduceIte, List.length_cons, List.length_nil, Nat.reduceAdd, Nat.reduceSub, List.cons_append, List.nil_append, List.replicate_succ, List.replicate_zero]
  obtain ⟨rfl, hp⟩ := hp
  (apply hG [] 2000; simp only [w_br_i, w_ite, w_all, w_all0, forall_eq, w_b0, w_b1, ↓reduceIte, w_ent, w_pos, List.replicate_succ, List.replicate_zero, wp_s, wk_s, w_lk_c, w_ld0, w_ldS, w_kp0, w_kp, w_s1, w_s2, w_to, w_if, w_call, w_sw, w_cat, w_cats, w_psh, w_fv, List.contains_cons, List.contains_nil, List.set_cons_zero, List.set_cons_succ, List.length_cons, List.length_nil, List.find?_cons, List.find?_nil, List.take_succ_cons, List.take_zero, List.drop_succ_cons, List.drop_zero, List.reverse_cons, List.reverse_nil, List.nil_append, List.cons_append, Option.map_some, Option.map_none, Nat.reduceAdd, Nat.reduceBEq, Nat.reduceEqDiff, Nat.reduceLT, Nat.reduceLeDiff, Nat.reduceSub, Int.reduceAdd, Int.reduceSub, Int.reduceMul, Int.reduceNeg, Int.reduceToNat, Int.reduceLT, Int.reduceLE, Int.reduceEq, Bool.false_eq_true, Bool.or_false, Bool.false_or, Bool.true_or, Bool.or_true, if_true, if_false, ite_true, ite_false, true_and, and_true, false_and, and_false, true_or, or_true, false_or, or_false, Int.cast_ofNat_Int, Int.toNat_natCast, Int.natCast_add, List.getElem?_cons_zero, List.getElem?_cons_succ, true_implies, forall_const, not_true_eq_false, not_false_eq_true, ne_eq, beq_iff_eq, imp_self, List.length_set, Nat.zero_add, Nat.add_zero, Int.zero_add, Int.add_zero, w1_aload_n_0, w1_getfield, w1_ifCond, w1_iconst, w1_goto, w1_ireturn, dX10_lacks_0, dX10_lacks_1, dX10_lacks_4, dX10_lacks_7, dX10_lacks_8, dX10_lacks_11, dX10_lacks_14, dX10_lacks_15, dX10_lacks_18, dX10_lacks_19, w_flk10_138, w_flk10_144, w_kd_135, w_rf_135_0, w_rf_135_2, w_rf_135_3, w_rf_135_8, w_rf_135_12, w_rf_135_14, w_rf_135_15, w_rf_135_16, w_rf_135_24, w_rf_135_25, w_rf_135_26, w_rf_135_27, w_rf_135_28, w_rf_135_29, w_rf_135_30, w_rf_135_33, w_rf_135_34, w_rf_135_39, w_rf_135_40, w_rf_135_41, w_rf_135_42])
  (repeat' (with_reducible (first | refine And.intro ?_ ?_ | intro _))) <;> (try (first | (with_reducible assumption) | (simp only [inI, inL]; omega) | omega))
  all_goals (simp only [q_X10_lacks]; ((repeat' (first | refine And.intro ?_ ?_ | split)) <;> (first | rfl | trivial | assumption | contradiction | omega | (exfalso; omega))))
def p_X10_mostPumped : List wV → wW → Prop := fun av w => match av with
  | [.inr (.inr (some this)), .inl m, .inl lv] => this = 135 ∧ inI m ∧ (0 ≤ w 139 5 ∧ w 139 5 ≤ 5) ∧ (0 ≤ w 139 1 ∧ w 139 1 ≤ 200) ∧ (-1000 ≤ lv ∧ lv ≤ 1000)
  | _ => False
theorem h_X10_mostPumped : ∀ av w, p_X10_mostPumped av w → ∃ a r, av = vr a :: r ∧ w_kd a = 100 + 10 := by
  intro av w h
  unfold p_X10_mostPumped at h
  split at h
  · refine ⟨_, _, rfl, ?_⟩
    first | (rw [h.1]; rfl) | (rw [h]; rfl)
  · exact h.elim
def q_X10_mostPumped : List wV → wW → Int → wW → Prop := fun av w r w' => match av with
  | [.inr (.inr (some this)), .inl m, .inl lv] => (r = if w 139 1 - lv < (if m = 7 then 0 else w 139 5) then w 139 1 - lv else (if m = 7 then 0 else w 139 5)) ∧ w' = w
  | _ => False
set_option maxRecDepth 100000 in
set_option maxHeartbeats 4000000 in
theorem c_X10_mostPumped : w_Ct yX10_mostPumped cX10_mostPumped 4 1 0 0 p_X10_mostPumped q_X10_mostPumped := by
  refine w_met (own := RX10) (fl := w_fl10) (gs := w_gs10) (kl := w_kl10) (ki := w_ki10) (cs := []) (by decide +kernel) rfl ?_ w_flok10 w_gsok10 w_klok10 w_kiok10 ?_ ?_
  · intro av w h
    unfold p_X10_mostPumped at h
    split at h
    · simp [w_pos, w_cat]
    · exact h.elim
  · exact fun _ h => absurd h List.not_mem_nil
  intro av w hp
  unfold p_X10_mostPumped at hp
  split at hp
  case h_2 => exact hp.elim
  rename_i this m lv
  intro G hG
  simp only [w_ent, w_pos, w_cat, Nat.reduceEqDiff, ↓reduceIte, List.length_cons, List.length_nil, Nat.reduceAdd, Nat.reduceSub, List.cons_append, List.nil_append, List.replicate_succ, List.replicate_zero]
  obtain ⟨rfl, hp⟩ := hp
  (apply hG [] 2000; simp only [w_br_i, w_ite, w_all, w_all0, forall_eq, w_b0, w_b1, ↓reduceIte, w_ent, w_pos, List.replicate_succ, List.replicate_zero, wp_s, wk_s, w_lk_c, w_ld0, w_ldS, w_kp0, w_kp, w_s1, w_s2, w_to, w_if, w_call, w_sw, w_cat, w_cats, w_psh, w_fv, List.contains_cons, List.contains_nil, List.set_cons_zero, List.set_cons_succ, List.length_cons, List.length_nil, List.find?_cons, List.find?_nil, List.take_succ_cons, List.take_zero, List.drop_succ_cons, List.drop_zero, List.reverse_cons, List.reverse_nil, List.nil_append, List.cons_append, Option.map_some, Option.map_none, Nat.reduceAdd, Nat.reduceBEq, Nat.reduceEqDiff, Nat.reduceLT, Nat.reduceLeDiff, Nat.reduceSub, Int.reduceAdd, Int.reduceSub, Int.reduceMul, Int.reduceNeg, Int.reduceToNat, Int.reduceLT, Int.reduceLE, Int.reduceEq, Bool.false_eq_true, Bool.or_false, Bool.false_or, Bool.true_or, Bool.or_true, if_true, if_false, ite_true, ite_false, true_and, and_true, false_and, and_false, true_or, or_true, false_or, or_false, Int.cast_ofNat_Int, Int.toNat_natCast, Int.natCast_add, List.getElem?_cons_zero, List.getElem?_cons_succ, true_implies, forall_const, not_true_eq_false, not_false_eq_true, ne_eq, beq_iff_eq, imp_self, List.length_set, Nat.zero_add, Nat.add_zero, Int.zero_add, Int.add_zero, w1_iload_n_1, w1_bipush, w1_if_icmp, w1_iconst, w1_goto, w1_aload_n_0, w1_getfield, w1_iaload, w1_istore_n_3, w1_iload_n_2, w1_isub, w1_iload_n_3, w1_ireturn, dX10_mostPumped_0, dX10_mostPumped_1, dX10_mostPumped_3, dX10_mostPumped_6, dX10_mostPumped_7, dX10_mostPumped_10, dX10_mostPumped_11, dX10_mostPumped_14, dX10_mostPumped_15, dX10_mostPumped_16, dX10_mostPumped_17, dX10_mostPumped_18, dX10_mostPumped_21, dX10_mostPumped_22, dX10_mostPumped_23, dX10_mostPumped_24, dX10_mostPumped_25, dX10_mostPumped_26, dX10_mostPumped_29, dX10_mostPumped_30, dX10_mostPumped_33, dX10_mostPumped_34, dX10_mostPumped_35, dX10_mostPumped_36, dX10_mostPumped_37, dX10_mostPumped_40, dX10_mostPumped_41, w_flk10_19, w_kd_135, w_rf_135_0, w_rf_135_2, w_rf_135_3, w_rf_135_8, w_rf_135_12, w_rf_135_14, w_rf_135_15, w_rf_135_16, w_rf_135_24, w_rf_135_25, w_rf_135_26, w_rf_135_27, w_rf_135_28, w_rf_135_29, w_rf_135_30, w_rf_135_33, w_rf_135_34, w_rf_135_39, w_rf_135_40, w_rf_135_41, w_rf_135_42, w_kd_139, w_ln_139])
  (repeat' (with_reducible (first | refine And.intro ?_ ?_ | intro _))) <;> (try (first | (with_reducible assumption) | (simp only [inI, inL]; omega) | omega))
  all_goals (simp only [q_X10_mostPumped]; ((repeat' (first | refine And.intro ?_ ?_ | split)) <;> (first | rfl | trivial | assumption | contradiction | omega | (exfalso; omega))))
def p_X10_say : List wV → wW → Prop := fun av w => match av with
  | [.inr (.inr (some this)), .inr (.inl v)] => this = 135
  | _ => False
theorem h_X10_say : ∀ av w, p_X10_say av w → ∃ a r, av = vr a :: r ∧ w_kd a = 100 + 10 := by
  intro av w h
  unfold p_X10_say at h
  split at h
  · refine ⟨_, _, rfl, ?_⟩
    first | (rw [h.1]; rfl) | (rw [h]; rfl)
  · exact h.elim
def q_X10_say : List wV → wW → Int → wW → Prop := fun av w r w' => match av with
  | [.inr (.inr (some this)), .inr (.inl v)] => w' = w_up w 135 45 (31 * w 135 45 + v)
  | _ => False
set_option maxRecDepth 100000 in
set_option maxHeartbeats 4000000 in
theorem c_X10_say : w_Ct yX10_say cX10_say 3 0 0 0 p_X10_say q_X10_say := by
  refine w_met (own := RX10) (fl := w_fl10) (gs := w_gs10) (kl := w_kl10) (ki := w_ki10) (cs := []) (by decide +kernel) rfl ?_ w_flok10 w_gsok10 w_klok10 w_kiok10 ?_ ?_
  · intro av w h
    unfold p_X10_say at h
    split at h
    · simp [w_pos, w_cat]
    · exact h.elim
  · exact fun _ h => absurd h List.not_mem_nil
  intro av w hp
  unfold p_X10_say at hp
  split at hp
  case h_2 => exact hp.elim
  rename_i this v
  intro G hG
  simp only [w_ent, w_pos, w_cat, Nat.reduceEqDiff, ↓reduceIte, List.length_cons, List.length_nil, Nat.reduceAdd, Nat.reduceSub, List.cons_append, List.nil_append, List.replicate_succ, List.replicate_zero]
  subst hp
  (apply hG [] 2000; simp only [w_br_i, w_ite, w_all, w_all0, forall_eq, w_b0, w_b1, ↓reduceIte, w_ent, w_pos, List.replicate_succ, List.replicate_zero, wp_s, wk_s, w_lk_c, w_ld0, w_ldS, w_kp0, w_kp, w_s1, w_s2, w_to, w_if, w_call, w_sw, w_cat, w_cats, w_psh, w_fv, List.contains_cons, List.contains_nil, List.set_cons_zero, List.set_cons_succ, List.length_cons, List.length_nil, List.find?_cons, List.find?_nil, List.take_succ_cons, List.take_zero, List.drop_succ_cons, List.drop_zero, List.reverse_cons, List.reverse_nil, List.nil_append, List.cons_append, Option.map_some, Option.map_none, Nat.reduceAdd, Nat.reduceBEq, Nat.reduceEqDiff, Nat.reduceLT, Nat.reduceLeDiff, Nat.reduceSub, Int.reduceAdd, Int.reduceSub, Int.reduceMul, Int.reduceNeg, Int.reduceToNat, Int.reduceLT, Int.reduceLE, Int.reduceEq, Bool.false_eq_true, Bool.or_false, Bool.false_or, Bool.true_or, Bool.or_true, if_true, if_false, ite_true, ite_false, true_and, and_true, false_and, and_false, true_or, or_true, false_or, or_false, Int.cast_ofNat_Int, Int.toNat_natCast, Int.natCast_add, List.getElem?_cons_zero, List.getElem?_cons_succ, true_implies, forall_const, not_true_eq_false, not_false_eq_true, ne_eq, beq_iff_eq, imp_self, List.length_set, Nat.zero_add, Nat.add_zero, Int.zero_add, Int.add_zero, w1_aload_n_0, w1_ldc2_w, w1_getfield, w1_lmul, w1_lload_n_1, w1_ladd, w1_putfield, w1_putfield2, w1_return, dX10_say_0, dX10_say_1, dX10_say_4, dX10_say_5, dX10_say_8, dX10_say_9, dX10_say_10, dX10_say_11, dX10_say_14, w_flk10_308, w_klk10_306, w_kd_135, w_rf_135_0, w_rf_135_2, w_rf_135_3, w_rf_135_8, w_rf_135_12, w_rf_135_14, w_rf_135_15, w_rf_135_16, w_rf_135_24, w_rf_135_25, w_rf_135_26, w_rf_135_27, w_rf_135_28, w_rf_135_29, w_rf_135_30, w_rf_135_33, w_rf_135_34, w_rf_135_39, w_rf_135_40, w_rf_135_41, w_rf_135_42])
  (repeat' (with_reducible (first | refine And.intro ?_ ?_ | intro _))) <;> (try (first | (with_reducible assumption) | (simp only [inI, inL]; omega) | omega))
  all_goals (simp only [q_X10_say])
def p_X10_countOf : List wV → wW → Prop := fun av w => match av with
  | [.inr (.inr (some this)), .inl what] => this = 135 ∧ inI what ∧ ∀ m, m < 12 → inI (w 153 m)
  | _ => False
theorem h_X10_countOf : ∀ av w, p_X10_countOf av w → ∃ a r, av = vr a :: r ∧ w_kd a = 100 + 10 := by
  intro av w h
  unfold p_X10_countOf at h
  split at h
  · refine ⟨_, _, rfl, ?_⟩
    first | (rw [h.1]; rfl) | (rw [h]; rfl)
  · exact h.elim
def m_count (w : wW) (what : Int) : Int := if what = 0 then w 135 9 else if what = 1 then w 135 11 else if what = 2 then w 135 13 else if what = 3 then o_kept (w 153) 12 else if what = 4 then w 135 1 else if what = 5 then w 135 10 else if what = 6 then w 135 32 else if what = 7 then w 135 38 else -102
def q_X10_countOf : List wV → wW → Int → wW → Prop := fun av w r w' => match av with
  | [.inr (.inr (some this)), .inl what] => r = m_count w what ∧ w' = w
  | _ => False
set_option maxRecDepth 100000 in
set_option maxHeartbeats 4000000 in
theorem c_X10_countOf : w_Ct yX10_countOf cX10_countOf 4 1 0 0 p_X10_countOf q_X10_countOf := by
  refine w_met (own := RX10) (fl := w_fl10) (gs := w_gs10) (kl := w_kl10) (ki := w_ki10) (cs := []) (by decide +kernel) rfl ?_ w_flok10 w_gsok10 w_klok10 w_kiok10 ?_ ?_
  · intro av w h
    unfold p_X10_countOf at h
    split at h
    · simp [w_pos, w_cat]
    · exact h.elim
  · exact fun _ h => absurd h List.not_mem_nil
  intro av w hp
  unfold p_X10_countOf at hp
  split at hp
  case h_2 => exact hp.elim
  rename_i this what
  intro G hG
  simp only [w_ent, w_pos, w_cat, Nat.reduceEqDiff, ↓reduceIte, List.length_cons, List.length_nil, Nat.reduceAdd, Nat.reduceSub, List.cons_append, List.nil_append, List.replicate_succ, List.replicate_zero]
  obtain ⟨rfl, hwh, hrd⟩ := hp
  have loop : ∀ n i : Nat, i + n = 12 → G 4 [some (vr 135), some (vi what), some (vi (o_kept (w 153) i)), some (vi i)] [] w := by
    intro n
    induction n with
    | zero =>
      intro i h2
      have e : i = 12 := by omega
      subst e
      (apply hG [4] 2000; simp only [w_br_i, w_ite, w_all, w_all0, forall_eq, w_b0, w_b1, ↓reduceIte, w_ent, w_pos, List.replicate_succ, List.replicate_zero, wp_s, wk_s, w_lk_c, w_ld0, w_ldS, w_kp0, w_kp, w_s1, w_s2, w_to, w_if, w_call, w_sw, w_cat, w_cats, w_psh, w_fv, List.contains_cons, List.contains_nil, List.set_cons_zero, List.set_cons_succ, List.length_cons, List.length_nil, List.find?_cons, List.find?_nil, List.take_succ_cons, List.take_zero, List.drop_succ_cons, List.drop_zero, List.reverse_cons, List.reverse_nil, List.nil_append, List.cons_append, Option.map_some, Option.map_none, Nat.reduceAdd, Nat.reduceBEq, Nat.reduceEqDiff, Nat.reduceLT, Nat.reduceLeDiff, Nat.reduceSub, Int.reduceAdd, Int.reduceSub, Int.reduceMul, Int.reduceNeg, Int.reduceToNat, Int.reduceLT, Int.reduceLE, Int.reduceEq, Bool.false_eq_true, Bool.or_false, Bool.false_or, Bool.true_or, Bool.or_true, if_true, if_false, ite_true, ite_false, true_and, and_true, false_and, and_false, true_or, or_true, false_or, or_false, Int.cast_ofNat_Int, Int.toNat_natCast, Int.natCast_add, List.getElem?_cons_zero, List.getElem?_cons_succ, true_implies, forall_const, not_true_eq_false, not_false_eq_true, ne_eq, beq_iff_eq, imp_self, List.length_set, Nat.zero_add, Nat.add_zero, Int.zero_add, Int.add_zero, w1_iconst, w1_istore_n_2, w1_istore_n_3, w1_iload_n_3, w1_bipush, w1_if_icmp, w1_iload_n_2, w1_aload_n_0, w1_getfield, w1_iaload, w1_goto, w1_iadd, w1_iinc, w1_iload_n_1, w1_tableswitch, w1_ireturn, dX10_countOf_0, dX10_countOf_1, dX10_countOf_2, dX10_countOf_3, dX10_countOf_4, dX10_countOf_5, dX10_countOf_7, dX10_countOf_10, dX10_countOf_11, dX10_countOf_12, dX10_countOf_15, dX10_countOf_16, dX10_countOf_17, dX10_countOf_18, dX10_countOf_21, dX10_countOf_22, dX10_countOf_25, dX10_countOf_26, dX10_countOf_27, dX10_countOf_28, dX10_countOf_31, dX10_countOf_34, dX10_countOf_35, dX10_countOf_80, dX10_countOf_81, dX10_countOf_84, dX10_countOf_85, dX10_countOf_86, dX10_countOf_89, dX10_countOf_90, dX10_countOf_91, dX10_countOf_94, dX10_countOf_95, dX10_countOf_96, dX10_countOf_97, dX10_countOf_98, dX10_countOf_101, dX10_countOf_102, dX10_countOf_103, dX10_countOf_106, dX10_countOf_107, dX10_countOf_108, dX10_countOf_111, dX10_countOf_112, dX10_countOf_113, dX10_countOf_116, dX10_countOf_117, dX10_countOf_119, w_flk10_138, w_flk10_141, w_flk10_144, w_flk10_147, w_flk10_257, w_flk10_291, w_flk10_62, w_flk10_80, w_kd_135, w_rf_135_0, w_rf_135_2, w_rf_135_3, w_rf_135_8, w_rf_135_12, w_rf_135_14, w_rf_135_15, w_rf_135_16, w_rf_135_24, w_rf_135_25, w_rf_135_26, w_rf_135_27, w_rf_135_28, w_rf_135_29, w_rf_135_30, w_rf_135_33, w_rf_135_34, w_rf_135_39, w_rf_135_40, w_rf_135_41, w_rf_135_42])
      (repeat' (with_reducible (first | refine And.intro ?_ ?_ | intro _))) <;> (try (first | (with_reducible assumption) | (simp only [inI, inL]; omega) | omega))
      all_goals first
        | (simp only [q_X10_countOf, m_count]; ((repeat' (first | refine And.intro ?_ ?_ | split)) <;> (first | rfl | trivial | assumption | contradiction | omega | (exfalso; omega))))
        | (exfalso; omega)
    | succ n ih =>
      intro i h2
      have hi := hrd i (by omega)
      have e := ih (i + 1) (by omega)
      simp only [o_kept, Int.natCast_add, Int.cast_ofNat_Int] at e
      by_cases q : w 153 i = -1
      · rw [if_pos q] at e
        (apply hG [4] 2000; simp only [w_br_i, w_ite, w_all, w_all0, forall_eq, w_b0, w_b1, ↓reduceIte, w_ent, w_pos, List.replicate_succ, List.replicate_zero, wp_s, wk_s, w_lk_c, w_ld0, w_ldS, w_kp0, w_kp, w_s1, w_s2, w_to, w_if, w_call, w_sw, w_cat, w_cats, w_psh, w_fv, List.contains_cons, List.contains_nil, List.set_cons_zero, List.set_cons_succ, List.length_cons, List.length_nil, List.find?_cons, List.find?_nil, List.take_succ_cons, List.take_zero, List.drop_succ_cons, List.drop_zero, List.reverse_cons, List.reverse_nil, List.nil_append, List.cons_append, Option.map_some, Option.map_none, Nat.reduceAdd, Nat.reduceBEq, Nat.reduceEqDiff, Nat.reduceLT, Nat.reduceLeDiff, Nat.reduceSub, Int.reduceAdd, Int.reduceSub, Int.reduceMul, Int.reduceNeg, Int.reduceToNat, Int.reduceLT, Int.reduceLE, Int.reduceEq, Bool.false_eq_true, Bool.or_false, Bool.false_or, Bool.true_or, Bool.or_true, if_true, if_false, ite_true, ite_false, true_and, and_true, false_and, and_false, true_or, or_true, false_or, or_false, Int.cast_ofNat_Int, Int.toNat_natCast, Int.natCast_add, List.getElem?_cons_zero, List.getElem?_cons_succ, true_implies, forall_const, not_true_eq_false, not_false_eq_true, ne_eq, beq_iff_eq, imp_self, List.length_set, Nat.zero_add, Nat.add_zero, Int.zero_add, Int.add_zero, w1_iconst, w1_istore_n_2, w1_istore_n_3, w1_iload_n_3, w1_bipush, w1_if_icmp, w1_iload_n_2, w1_aload_n_0, w1_getfield, w1_iaload, w1_goto, w1_iadd, w1_iinc, w1_iload_n_1, w1_tableswitch, w1_ireturn, dX10_countOf_0, dX10_countOf_1, dX10_countOf_2, dX10_countOf_3, dX10_countOf_4, dX10_countOf_5, dX10_countOf_7, dX10_countOf_10, dX10_countOf_11, dX10_countOf_12, dX10_countOf_15, dX10_countOf_16, dX10_countOf_17, dX10_countOf_18, dX10_countOf_21, dX10_countOf_22, dX10_countOf_25, dX10_countOf_26, dX10_countOf_27, dX10_countOf_28, dX10_countOf_31, dX10_countOf_34, dX10_countOf_35, dX10_countOf_80, dX10_countOf_81, dX10_countOf_84, dX10_countOf_85, dX10_countOf_86, dX10_countOf_89, dX10_countOf_90, dX10_countOf_91, dX10_countOf_94, dX10_countOf_95, dX10_countOf_96, dX10_countOf_97, dX10_countOf_98, dX10_countOf_101, dX10_countOf_102, dX10_countOf_103, dX10_countOf_106, dX10_countOf_107, dX10_countOf_108, dX10_countOf_111, dX10_countOf_112, dX10_countOf_113, dX10_countOf_116, dX10_countOf_117, dX10_countOf_119, w_flk10_138, w_flk10_141, w_flk10_144, w_flk10_147, w_flk10_257, w_flk10_291, w_flk10_62, w_flk10_80, w_kd_135, w_rf_135_0, w_rf_135_2, w_rf_135_3, w_rf_135_8, w_rf_135_12, w_rf_135_14, w_rf_135_15, w_rf_135_16, w_rf_135_24, w_rf_135_25, w_rf_135_26, w_rf_135_27, w_rf_135_28, w_rf_135_29, w_rf_135_30, w_rf_135_33, w_rf_135_34, w_rf_135_39, w_rf_135_40, w_rf_135_41, w_rf_135_42, w_kd_153, w_ln_153])
        (repeat' (with_reducible (first | refine And.intro ?_ ?_ | intro _))) <;> (try (first | (with_reducible assumption) | (simp only [inI, inL]; omega) | omega))
        all_goals first
          | exact e
          | (simp only [Int.add_zero] at e; exact e)
          | exact hi.1
          | exact hi.2
          | (exfalso; omega)
      · rw [if_neg q] at e
        (apply hG [4] 2000; simp only [w_br_i, w_ite, w_all, w_all0, forall_eq, w_b0, w_b1, ↓reduceIte, w_ent, w_pos, List.replicate_succ, List.replicate_zero, wp_s, wk_s, w_lk_c, w_ld0, w_ldS, w_kp0, w_kp, w_s1, w_s2, w_to, w_if, w_call, w_sw, w_cat, w_cats, w_psh, w_fv, List.contains_cons, List.contains_nil, List.set_cons_zero, List.set_cons_succ, List.length_cons, List.length_nil, List.find?_cons, List.find?_nil, List.take_succ_cons, List.take_zero, List.drop_succ_cons, List.drop_zero, List.reverse_cons, List.reverse_nil, List.nil_append, List.cons_append, Option.map_some, Option.map_none, Nat.reduceAdd, Nat.reduceBEq, Nat.reduceEqDiff, Nat.reduceLT, Nat.reduceLeDiff, Nat.reduceSub, Int.reduceAdd, Int.reduceSub, Int.reduceMul, Int.reduceNeg, Int.reduceToNat, Int.reduceLT, Int.reduceLE, Int.reduceEq, Bool.false_eq_true, Bool.or_false, Bool.false_or, Bool.true_or, Bool.or_true, if_true, if_false, ite_true, ite_false, true_and, and_true, false_and, and_false, true_or, or_true, false_or, or_false, Int.cast_ofNat_Int, Int.toNat_natCast, Int.natCast_add, List.getElem?_cons_zero, List.getElem?_cons_succ, true_implies, forall_const, not_true_eq_false, not_false_eq_true, ne_eq, beq_iff_eq, imp_self, List.length_set, Nat.zero_add, Nat.add_zero, Int.zero_add, Int.add_zero, w1_iconst, w1_istore_n_2, w1_istore_n_3, w1_iload_n_3, w1_bipush, w1_if_icmp, w1_iload_n_2, w1_aload_n_0, w1_getfield, w1_iaload, w1_goto, w1_iadd, w1_iinc, w1_iload_n_1, w1_tableswitch, w1_ireturn, dX10_countOf_0, dX10_countOf_1, dX10_countOf_2, dX10_countOf_3, dX10_countOf_4, dX10_countOf_5, dX10_countOf_7, dX10_countOf_10, dX10_countOf_11, dX10_countOf_12, dX10_countOf_15, dX10_countOf_16, dX10_countOf_17, dX10_countOf_18, dX10_countOf_21, dX10_countOf_22, dX10_countOf_25, dX10_countOf_26, dX10_countOf_27, dX10_countOf_28, dX10_countOf_31, dX10_countOf_34, dX10_countOf_35, dX10_countOf_80, dX10_countOf_81, dX10_countOf_84, dX10_countOf_85, dX10_countOf_86, dX10_countOf_89, dX10_countOf_90, dX10_countOf_91, dX10_countOf_94, dX10_countOf_95, dX10_countOf_96, dX10_countOf_97, dX10_countOf_98, dX10_countOf_101, dX10_countOf_102, dX10_countOf_103, dX10_countOf_106, dX10_countOf_107, dX10_countOf_108, dX10_countOf_111, dX10_countOf_112, dX10_countOf_113, dX10_countOf_116, dX10_countOf_117, dX10_countOf_119, w_flk10_138, w_flk10_141, w_flk10_144, w_flk10_147, w_flk10_257, w_flk10_291, w_flk10_62, w_flk10_80, w_kd_135, w_rf_135_0, w_rf_135_2, w_rf_135_3, w_rf_135_8, w_rf_135_12, w_rf_135_14, w_rf_135_15, w_rf_135_16, w_rf_135_24, w_rf_135_25, w_rf_135_26, w_rf_135_27, w_rf_135_28, w_rf_135_29, w_rf_135_30, w_rf_135_33, w_rf_135_34, w_rf_135_39, w_rf_135_40, w_rf_135_41, w_rf_135_42, w_kd_153, w_ln_153])
        (repeat' (with_reducible (first | refine And.intro ?_ ?_ | intro _))) <;> (try (first | (with_reducible assumption) | (simp only [inI, inL]; omega) | omega))
        all_goals first
          | exact e
          | exact hi.1
          | exact hi.2
          | (exfalso; omega)
  have e := loop 12 0 rfl
  simp only [o_kept, Int.cast_ofNat_Int] at e
  (apply hG [4] 2000; simp only [w_br_i, w_ite, w_all, w_all0, forall_eq, w_b0, w_b1, ↓reduceIte, w_ent, w_pos, List.replicate_succ, List.replicate_zero, wp_s, wk_s, w_lk_c, w_ld0, w_ldS, w_kp0, w_kp, w_s1, w_s2, w_to, w_if, w_call, w_sw, w_cat, w_cats, w_psh, w_fv, List.contains_cons, List.contains_nil, List.set_cons_zero, List.set_cons_succ, List.length_cons, List.length_nil, List.find?_cons, List.find?_nil, List.take_succ_cons, List.take_zero, List.drop_succ_cons, List.drop_zero, List.reverse_cons, List.reverse_nil, List.nil_append, List.cons_append, Option.map_some, Option.map_none, Nat.reduceAdd, Nat.reduceBEq, Nat.reduceEqDiff, Nat.reduceLT, Nat.reduceLeDiff, Nat.reduceSub, Int.reduceAdd, Int.reduceSub, Int.reduceMul, Int.reduceNeg, Int.reduceToNat, Int.reduceLT, Int.reduceLE, Int.reduceEq, Bool.false_eq_true, Bool.or_false, Bool.false_or, Bool.true_or, Bool.or_true, if_true, if_false, ite_true, ite_false, true_and, and_true, false_and, and_false, true_or, or_true, false_or, or_false, Int.cast_ofNat_Int, Int.toNat_natCast, Int.natCast_add, List.getElem?_cons_zero, List.getElem?_cons_succ, true_implies, forall_const, not_true_eq_false, not_false_eq_true, ne_eq, beq_iff_eq, imp_self, List.length_set, Nat.zero_add, Nat.add_zero, Int.zero_add, Int.add_zero, w1_iconst, w1_istore_n_2, w1_istore_n_3, w1_iload_n_3, w1_bipush, w1_if_icmp, w1_iload_n_2, w1_aload_n_0, w1_getfield, w1_iaload, w1_goto, w1_iadd, w1_iinc, w1_iload_n_1, w1_tableswitch, w1_ireturn, dX10_countOf_0, dX10_countOf_1, dX10_countOf_2, dX10_countOf_3, dX10_countOf_4, dX10_countOf_5, dX10_countOf_7, dX10_countOf_10, dX10_countOf_11, dX10_countOf_12, dX10_countOf_15, dX10_countOf_16, dX10_countOf_17, dX10_countOf_18, dX10_countOf_21, dX10_countOf_22, dX10_countOf_25, dX10_countOf_26, dX10_countOf_27, dX10_countOf_28, dX10_countOf_31, dX10_countOf_34, dX10_countOf_35, dX10_countOf_80, dX10_countOf_81, dX10_countOf_84, dX10_countOf_85, dX10_countOf_86, dX10_countOf_89, dX10_countOf_90, dX10_countOf_91, dX10_countOf_94, dX10_countOf_95, dX10_countOf_96, dX10_countOf_97, dX10_countOf_98, dX10_countOf_101, dX10_countOf_102, dX10_countOf_103, dX10_countOf_106, dX10_countOf_107, dX10_countOf_108, dX10_countOf_111, dX10_countOf_112, dX10_countOf_113, dX10_countOf_116, dX10_countOf_117, dX10_countOf_119, w_flk10_138, w_flk10_141, w_flk10_144, w_flk10_147, w_flk10_257, w_flk10_291, w_flk10_62, w_flk10_80])
  exact e
def p_X10_count : List wV → wW → Prop := fun av w => match av with
  | [.inr (.inr (some this)), .inl what] => this = 135 ∧ inI what ∧ ∀ m, m < 12 → inI (w 153 m)
  | _ => False
theorem h_X10_count : ∀ av w, p_X10_count av w → ∃ a r, av = vr a :: r ∧ w_kd a = 100 + 10 := by
  intro av w h
  unfold p_X10_count at h
  split at h
  · refine ⟨_, _, rfl, ?_⟩
    first | (rw [h.1]; rfl) | (rw [h]; rfl)
  · exact h.elim
def q_X10_count : List wV → wW → Int → wW → Prop := fun av w r w' => match av with
  | [.inr (.inr (some this)), .inl what] => r = m_count w what ∧ w' = w
  | _ => False
set_option maxRecDepth 100000 in
set_option maxHeartbeats 4000000 in
theorem c_X10_count : w_Ct yX10_count cX10_count 2 1 1 23 p_X10_count q_X10_count := by
  refine w_met (own := RX10) (fl := w_fl10) (gs := w_gs10) (kl := w_kl10) (ki := w_ki10) (cs := [(303, (0, 2, 1, p_X10_countOf, q_X10_countOf))]) (by decide +kernel) rfl ?_ w_flok10 w_gsok10 w_klok10 w_kiok10 ?_ ?_
  · intro av w h
    unfold p_X10_count at h
    split at h
    · simp [w_pos, w_cat]
    · exact h.elim
  · exact List.forall_mem_cons.mpr ⟨⟨_, _, w_callV (own := RX10) (idx := 303) (ci := 10) c_X10_countOf rfl rfl h_X10_countOf (w_m6 8 (by decide +kernel) (by decide +kernel)) (w_m6 10 (by decide +kernel) (by decide +kernel)) (w_m0 56 (by decide +kernel) (by decide +kernel)) (w_m1 12 (by decide +kernel) (by decide +kernel)) (w_m6 11 (by decide +kernel) (by decide +kernel)) ⟨by decide +kernel, by decide +kernel, by decide +kernel⟩, by decide, by decide⟩, fun _ h => absurd h List.not_mem_nil⟩
  intro av w hp
  unfold p_X10_count at hp
  split at hp
  case h_2 => exact hp.elim
  rename_i this what
  intro G hG
  simp only [w_ent, w_pos, w_cat, Nat.reduceEqDiff, ↓reduceIte, List.length_cons, List.length_nil, Nat.reduceAdd, Nat.reduceSub, List.cons_append, List.nil_append, List.replicate_succ, List.replicate_zero]
  obtain ⟨rfl, hwh, hrd⟩ := hp
  have hpc : p_X10_countOf [vr 135, vi what] w := ⟨rfl, hwh, hrd⟩
  (apply hG [] 2000; simp only [w_br_i, w_ite, w_all, w_all0, forall_eq, w_b0, w_b1, ↓reduceIte, w_ent, w_pos, List.replicate_succ, List.replicate_zero, wp_s, wk_s, w_lk_c, w_ld0, w_ldS, w_kp0, w_kp, w_s1, w_s2, w_to, w_if, w_call, w_sw, w_cat, w_cats, w_psh, w_fv, List.contains_cons, List.contains_nil, List.set_cons_zero, List.set_cons_succ, List.length_cons, List.length_nil, List.find?_cons, List.find?_nil, List.take_succ_cons, List.take_zero, List.drop_succ_cons, List.drop_zero, List.reverse_cons, List.reverse_nil, List.nil_append, List.cons_append, Option.map_some, Option.map_none, Nat.reduceAdd, Nat.reduceBEq, Nat.reduceEqDiff, Nat.reduceLT, Nat.reduceLeDiff, Nat.reduceSub, Int.reduceAdd, Int.reduceSub, Int.reduceMul, Int.reduceNeg, Int.reduceToNat, Int.reduceLT, Int.reduceLE, Int.reduceEq, Bool.false_eq_true, Bool.or_false, Bool.false_or, Bool.true_or, Bool.or_true, if_true, if_false, ite_true, ite_false, true_and, and_true, false_and, and_false, true_or, or_true, false_or, or_false, Int.cast_ofNat_Int, Int.toNat_natCast, Int.natCast_add, List.getElem?_cons_zero, List.getElem?_cons_succ, true_implies, forall_const, not_true_eq_false, not_false_eq_true, ne_eq, beq_iff_eq, imp_self, List.length_set, Nat.zero_add, Nat.add_zero, Int.zero_add, Int.add_zero, w1_aload_n_0, w1_iload_n_1, w1_invokevirtual, w1_ireturn, dX10_count_0, dX10_count_1, dX10_count_2, dX10_count_5, w_kd_135, w_rf_135_0, w_rf_135_2, w_rf_135_3, w_rf_135_8, w_rf_135_12, w_rf_135_14, w_rf_135_15, w_rf_135_16, w_rf_135_24, w_rf_135_25, w_rf_135_26, w_rf_135_27, w_rf_135_28, w_rf_135_29, w_rf_135_30, w_rf_135_33, w_rf_135_34, w_rf_135_39, w_rf_135_40, w_rf_135_41, w_rf_135_42, hpc, q_X10_countOf])
  (repeat' (with_reducible (first | refine And.intro ?_ ?_ | intro _))) <;> (try (first | (with_reducible assumption) | (simp only [inI, inL]; omega) | omega))
  all_goals exact ⟨rfl, rfl⟩
