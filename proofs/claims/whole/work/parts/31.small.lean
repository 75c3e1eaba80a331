def p_X9_isNoMonth : List wV → wW → Prop := fun av w => match av with
  | [.inl m] => inI m
  | _ => False
def q_X9_isNoMonth : List wV → wW → Int → wW → Prop := fun av w r w' => match av with
  | [.inl m] => (r = if m < 0 ∨ 12 ≤ m then 1 else 0) ∧ w' = w
  | _ => False
set_option maxRecDepth 100000 in
set_option maxHeartbeats 4000000 in
theorem c_X9_isNoMonth : w_Ct yX9_isNoMonth cX9_isNoMonth 1 3 0 0 p_X9_isNoMonth q_X9_isNoMonth := by
  refine w_met (own := RX9) (fl := w_fl9) (gs := w_gs9) (kl := w_kl9) (ki := w_ki9) (cs := []) (by decide +kernel) rfl ?_ w_flok9 w_gsok9 w_klok9 w_kiok9 ?_ ?_
  · intro av w h
    unfold p_X9_isNoMonth at h
    split at h
    · simp [w_pos, w_cat]
    · exact h.elim
  · exact fun _ h => absurd h List.not_mem_nil
  intro av w hp
  unfold p_X9_isNoMonth at hp
  split at hp
  case h_2 => exact hp.elim
  rename_i m
  intro G hG
  simp only [w_ent, w_pos, w_cat, Nat.reduceEqDiff, ↓reduceIte, List.length_cons, List.length_nil, Nat.reduceAdd, Nat.reduceSub, List.cons_append, List.nil_append, List.replicate_succ, List.replicate_zero]
  (apply hG [] 2000; simp only [w_br_i, w_ite, w_all, w_all0, forall_eq, w_b0, w_b1, ↓reduceIte, w_ent, w_pos, List.replicate_succ, List.replicate_zero, wp_s, wk_s, w_lk_c, w_ld0, w_ldS, w_kp0, w_kp, w_s1, w_s2, w_to, w_if, w_call, w_sw, w_cat, w_cats, w_psh, w_fv, List.contains_cons, List.contains_nil, List.set_cons_zero, List.set_cons_succ, List.length_cons, List.length_nil, List.find?_cons, List.find?_nil, List.take_succ_cons, List.take_zero, List.drop_succ_cons, List.drop_zero, List.reverse_cons, List.reverse_nil, List.nil_append, List.cons_append, Option.map_some, Option.map_none, Nat.reduceAdd, Nat.reduceBEq, Nat.reduceEqDiff, Nat.reduceLT, Nat.reduceLeDiff, Nat.reduceSub, Int.reduceAdd, Int.reduceSub, Int.reduceMul, Int.reduceNeg, Int.reduceToNat, Int.reduceLT, Int.reduceLE, Int.reduceEq, Bool.false_eq_true, Bool.or_false, Bool.false_or, Bool.true_or, Bool.or_true, if_true, if_false, ite_true, ite_false, true_and, and_true, false_and, and_false, true_or, or_true, false_or, or_false, Int.cast_ofNat_Int, Int.toNat_natCast, Int.natCast_add, List.getElem?_cons_zero, List.getElem?_cons_succ, true_implies, forall_const, not_true_eq_false, not_false_eq_true, ne_eq, beq_iff_eq, imp_self, List.length_set, Nat.zero_add, Nat.add_zero, Int.zero_add, Int.add_zero, w1_iload_n_0, w1_ifCond, w1_bipush, w1_if_icmp, w1_iconst, w1_goto, w1_ireturn, dX9_isNoMonth_0, dX9_isNoMonth_1, dX9_isNoMonth_4, dX9_isNoMonth_5, dX9_isNoMonth_7, dX9_isNoMonth_10, dX9_isNoMonth_11, dX9_isNoMonth_14, dX9_isNoMonth_15]); (repeat' (with_reducible (first | refine And.intro ?_ ?_ | intro _))) <;> (first | assumption | contradiction | exact Or.inl trivial | exact Or.inl rfl | exact Or.inr rfl | (simp only [inI, inL]; omega) | omega | (simp only [q_X9_isNoMonth]; ((repeat' (first | refine And.intro ?_ ?_ | split)) <;> (first | rfl | trivial | assumption | contradiction | omega | (exfalso; omega)))))
def p_X9_isNoPrice : List wV → wW → Prop := fun av w => match av with
  | [.inl m] => inI m
  | _ => False
def q_X9_isNoPrice : List wV → wW → Int → wW → Prop := fun av w r w' => match av with
  | [.inl m] => (r = if m < 0 ∨ 99 < m then 1 else 0) ∧ w' = w
  | _ => False
set_option maxRecDepth 100000 in
set_option maxHeartbeats 4000000 in
theorem c_X9_isNoPrice : w_Ct yX9_isNoPrice cX9_isNoPrice 1 3 0 0 p_X9_isNoPrice q_X9_isNoPrice := by
  refine w_met (own := RX9) (fl := w_fl9) (gs := w_gs9) (kl := w_kl9) (ki := w_ki9) (cs := []) (by decide +kernel) rfl ?_ w_flok9 w_gsok9 w_klok9 w_kiok9 ?_ ?_
  · intro av w h
    unfold p_X9_isNoPrice at h
    split at h
    · simp [w_pos, w_cat]
    · exact h.elim
  · exact fun _ h => absurd h List.not_mem_nil
  intro av w hp
  unfold p_X9_isNoPrice at hp
  split at hp
  case h_2 => exact hp.elim
  rename_i m
  intro G hG
  simp only [w_ent, w_pos, w_cat, Nat.reduceEqDiff, ↓reduceIte, List.length_cons, List.length_nil, Nat.reduceAdd, Nat.reduceSub, List.cons_append, List.nil_append, List.replicate_succ, List.replicate_zero]
  (apply hG [] 2000; simp only [w_br_i, w_ite, w_all, w_all0, forall_eq, w_b0, w_b1, ↓reduceIte, w_ent, w_pos, List.replicate_succ, List.replicate_zero, wp_s, wk_s, w_lk_c, w_ld0, w_ldS, w_kp0, w_kp, w_s1, w_s2, w_to, w_if, w_call, w_sw, w_cat, w_cats, w_psh, w_fv, List.contains_cons, List.contains_nil, List.set_cons_zero, List.set_cons_succ, List.length_cons, List.length_nil, List.find?_cons, List.find?_nil, List.take_succ_cons, List.take_zero, List.drop_succ_cons, List.drop_zero, List.reverse_cons, List.reverse_nil, List.nil_append, List.cons_append, Option.map_some, Option.map_none, Nat.reduceAdd, Nat.reduceBEq, Nat.reduceEqDiff, Nat.reduceLT, Nat.reduceLeDiff, Nat.reduceSub, Int.reduceAdd, Int.reduceSub, Int.reduceMul, Int.reduceNeg, Int.reduceToNat, Int.reduceLT, Int.reduceLE, Int.reduceEq, Bool.false_eq_true, Bool.or_false, Bool.false_or, Bool.true_or, Bool.or_true, if_true, if_false, ite_true, ite_false, true_and, and_true, false_and, and_false, true_or, or_true, false_or, or_false, Int.cast_ofNat_Int, Int.toNat_natCast, Int.natCast_add, List.getElem?_cons_zero, List.getElem?_cons_succ, true_implies, forall_const, not_true_eq_false, not_false_eq_true, ne_eq, beq_iff_eq, imp_self, List.length_set, Nat.zero_add, Nat.add_zero, Int.zero_add, Int.add_zero, w1_iload_n_0, w1_ifCond, w1_bipush, w1_if_icmp, w1_iconst, w1_goto, w1_ireturn, dX9_isNoPrice_0, dX9_isNoPrice_1, dX9_isNoPrice_4, dX9_isNoPrice_5, dX9_isNoPrice_7, dX9_isNoPrice_10, dX9_isNoPrice_11, dX9_isNoPrice_14, dX9_isNoPrice_15]); (repeat' (with_reducible (first | refine And.intro ?_ ?_ | intro _))) <;> (first | assumption | contradiction | exact Or.inl trivial | exact Or.inl rfl | exact Or.inr rfl | (simp only [inI, inL]; omega) | omega | (simp only [q_X9_isNoPrice]; ((repeat' (first | refine And.intro ?_ ?_ | split)) <;> (first | rfl | trivial | assumption | contradiction | omega | (exfalso; omega)))))
def p_X9_isNoRule : List wV → wW → Prop := fun av w => match av with
  | [.inr (.inr (some this)), .inl i] => this = 0 ∧ inI i ∧ 0 ≤ w 0 11 ∧ w 0 11 ≤ 8
  | _ => False
theorem h_X9_isNoRule : ∀ av w, p_X9_isNoRule av w → ∃ a r, av = vr a :: r ∧ w_kd a = 100 + 9 := by
  intro av w h
  unfold p_X9_isNoRule at h
  split at h
  · refine ⟨_, _, rfl, ?_⟩
    first | (rw [h.1]; rfl) | (rw [h]; rfl)
  · exact h.elim
def q_X9_isNoRule : List wV → wW → Int → wW → Prop := fun av w r w' => match av with
  | [.inr (.inr (some this)), .inl i] => (r = if i < 0 ∨ w 0 11 ≤ i then 1 else 0) ∧ w' = w
  | _ => False
set_option maxRecDepth 100000 in
set_option maxHeartbeats 4000000 in
theorem c_X9_isNoRule : w_Ct yX9_isNoRule cX9_isNoRule 2 3 0 0 p_X9_isNoRule q_X9_isNoRule := by
  refine w_met (own := RX9) (fl := w_fl9) (gs := w_gs9) (kl := w_kl9) (ki := w_ki9) (cs := []) (by decide +kernel) rfl ?_ w_flok9 w_gsok9 w_klok9 w_kiok9 ?_ ?_
  · intro av w h
    unfold p_X9_isNoRule at h
    split at h
    · simp [w_pos, w_cat]
    · exact h.elim
  · exact fun _ h => absurd h List.not_mem_nil
  intro av w hp
  unfold p_X9_isNoRule at hp
  split at hp
  case h_2 => exact hp.elim
  rename_i this i
  intro G hG
  simp only [w_ent, w_pos, w_cat, Nat.reduceEqDiff, ↓reduceIte, List.length_cons, List.length_nil, Nat.reduceAdd, Nat.reduceSub, List.cons_append, List.nil_append, List.replicate_succ, List.replicate_zero]
  obtain ⟨rfl, hp⟩ := hp
  (apply hG [] 2000; simp only [w_br_i, w_ite, w_all, w_all0, forall_eq, w_b0, w_b1, ↓reduceIte, w_ent, w_pos, List.replicate_succ, List.replicate_zero, wp_s, wk_s, w_lk_c, w_ld0, w_ldS, w_kp0, w_kp, w_s1, w_s2, w_to, w_if, w_call, w_sw, w_cat, w_cats, w_psh, w_fv, List.contains_cons, List.contains_nil, List.set_cons_zero, List.set_cons_succ, List.length_cons, List.length_nil, List.find?_cons, List.find?_nil, List.take_succ_cons, List.take_zero, List.drop_succ_cons, List.drop_zero, List.reverse_cons, List.reverse_nil, List.nil_append, List.cons_append, Option.map_some, Option.map_none, Nat.reduceAdd, Nat.reduceBEq, Nat.reduceEqDiff, Nat.reduceLT, Nat.reduceLeDiff, Nat.reduceSub, Int.reduceAdd, Int.reduceSub, Int.reduceMul, Int.reduceNeg, Int.reduceToNat, Int.reduceLT, Int.reduceLE, Int.reduceEq, Bool.false_eq_true, Bool.or_false, Bool.false_or, Bool.true_or, Bool.or_true, if_true, if_false, ite_true, ite_false, true_and, and_true, false_and, and_false, true_or, or_true, false_or, or_false, Int.cast_ofNat_Int, Int.toNat_natCast, Int.natCast_add, List.getElem?_cons_zero, List.getElem?_cons_succ, true_implies, forall_const, not_true_eq_false, not_false_eq_true, ne_eq, beq_iff_eq, imp_self, List.length_set, Nat.zero_add, Nat.add_zero, Int.zero_add, Int.add_zero, w1_iload_n_1, w1_ifCond, w1_aload_n_0, w1_getfield, w1_if_icmp, w1_iconst, w1_goto, w1_ireturn, dX9_isNoRule_0, dX9_isNoRule_1, dX9_isNoRule_4, dX9_isNoRule_5, dX9_isNoRule_6, dX9_isNoRule_9, dX9_isNoRule_12, dX9_isNoRule_13, dX9_isNoRule_16, dX9_isNoRule_17, w_flk9_140, w_kd_0, w_rf_0_0, w_rf_0_1, w_rf_0_2, w_rf_0_3, w_rf_0_4, w_rf_0_5, w_rf_0_6, w_rf_0_7, w_rf_0_8, w_rf_0_9, w_rf_0_10]); (repeat' (with_reducible (first | refine And.intro ?_ ?_ | intro _))) <;> (first | assumption | contradiction | exact Or.inl trivial | exact Or.inl rfl | exact Or.inr rfl | (simp only [inI, inL]; omega) | omega | (simp only [q_X9_isNoRule]; ((repeat' (first | refine And.intro ?_ ?_ | split)) <;> (first | rfl | trivial | assumption | contradiction | omega | (exfalso; omega)))))
def p_X9_isNoYear : List wV → wW → Prop := fun av w => match av with
  | [.inr (.inr (some this)), .inl i] => this = 0 ∧ inI i ∧ 0 ≤ w 11 1 ∧ w 11 1 ≤ 8
  | _ => False
theorem h_X9_isNoYear : ∀ av w, p_X9_isNoYear av w → ∃ a r, av = vr a :: r ∧ w_kd a = 100 + 9 := by
  intro av w h
  unfold p_X9_isNoYear at h
  split at h
  · refine ⟨_, _, rfl, ?_⟩
    first | (rw [h.1]; rfl) | (rw [h]; rfl)
  · exact h.elim
def q_X9_isNoYear : List wV → wW → Int → wW → Prop := fun av w r w' => match av with
  | [.inr (.inr (some this)), .inl i] => (r = if i < 0 ∨ w 11 1 ≤ i then 1 else 0) ∧ w' = w
  | _ => False
set_option maxRecDepth 100000 in
set_option maxHeartbeats 4000000 in
theorem c_X9_isNoYear : w_Ct yX9_isNoYear cX9_isNoYear 2 3 0 0 p_X9_isNoYear q_X9_isNoYear := by
  refine w_met (own := RX9) (fl := w_fl9) (gs := w_gs9) (kl := w_kl9) (ki := w_ki9) (cs := []) (by decide +kernel) rfl ?_ w_flok9 w_gsok9 w_klok9 w_kiok9 ?_ ?_
  · intro av w h
    unfold p_X9_isNoYear at h
    split at h
    · simp [w_pos, w_cat]
    · exact h.elim
  · exact fun _ h => absurd h List.not_mem_nil
  intro av w hp
  unfold p_X9_isNoYear at hp
  split at hp
  case h_2 => exact hp.elim
  rename_i this i
  intro G hG
  simp only [w_ent, w_pos, w_cat, Nat.reduceEqDiff, ↓reduceIte, List.length_cons, List.length_nil, Nat.reduceAdd, Nat.reduceSub, List.cons_append, List.nil_append, List.replicate_succ, List.replicate_zero]
  obtain ⟨rfl, hp⟩ := hp
  (apply hG [] 2000; simp only [w_br_i, w_ite, w_all, w_all0, forall_eq, w_b0, w_b1, ↓reduceIte, w_ent, w_pos, List.replicate_succ, List.replicate_zero, wp_s, wk_s, w_lk_c, w_ld0, w_ldS, w_kp0, w_kp, w_s1, w_s2, w_to, w_if, w_call, w_sw, w_cat, w_cats, w_psh, w_fv, List.contains_cons, List.contains_nil, List.set_cons_zero, List.set_cons_succ, List.length_cons, List.length_nil, List.find?_cons, List.find?_nil, List.take_succ_cons, List.take_zero, List.drop_succ_cons, List.drop_zero, List.reverse_cons, List.reverse_nil, List.nil_append, List.cons_append, Option.map_some, Option.map_none, Nat.reduceAdd, Nat.reduceBEq, Nat.reduceEqDiff, Nat.reduceLT, Nat.reduceLeDiff, Nat.reduceSub, Int.reduceAdd, Int.reduceSub, Int.reduceMul, Int.reduceNeg, Int.reduceToNat, Int.reduceLT, Int.reduceLE, Int.reduceEq, Bool.false_eq_true, Bool.or_false, Bool.false_or, Bool.true_or, Bool.or_true, if_true, if_false, ite_true, ite_false, true_and, and_true, false_and, and_false, true_or, or_true, false_or, or_false, Int.cast_ofNat_Int, Int.toNat_natCast, Int.natCast_add, List.getElem?_cons_zero, List.getElem?_cons_succ, true_implies, forall_const, not_true_eq_false, not_false_eq_true, ne_eq, beq_iff_eq, imp_self, List.length_set, Nat.zero_add, Nat.add_zero, Int.zero_add, Int.add_zero, w1_iload_n_1, w1_ifCond, w1_aload_n_0, w1_getfield, w1_if_icmp, w1_iconst, w1_goto, w1_ireturn, dX9_isNoYear_0, dX9_isNoYear_1, dX9_isNoYear_4, dX9_isNoYear_5, dX9_isNoYear_6, dX9_isNoYear_9, dX9_isNoYear_12, dX9_isNoYear_15, dX9_isNoYear_16, dX9_isNoYear_19, dX9_isNoYear_20, w_flk9_124, w_flk9_26, w_kd_0, w_rf_0_0, w_rf_0_1, w_rf_0_2, w_rf_0_3, w_rf_0_4, w_rf_0_5, w_rf_0_6, w_rf_0_7, w_rf_0_8, w_rf_0_9, w_rf_0_10, w_kd_11, w_rf_11_0]); (repeat' (with_reducible (first | refine And.intro ?_ ?_ | intro _))) <;> (first | assumption | contradiction | exact Or.inl trivial | exact Or.inl rfl | exact Or.inr rfl | (simp only [inI, inL]; omega) | omega | (simp only [q_X9_isNoYear]; ((repeat' (first | refine And.intro ?_ ?_ | split)) <;> (first | rfl | trivial | assumption | contradiction | omega | (exfalso; omega)))))
def p_X9_lacksHouseOrYear : List wV → wW → Prop := fun av w => match av with
  | [.inr (.inr (some this))] => this = 0 ∧ inI (w 0 12) ∧ inI (w 11 1)
  | _ => False
theorem h_X9_lacksHouseOrYear : ∀ av w, p_X9_lacksHouseOrYear av w → ∃ a r, av = vr a :: r ∧ w_kd a = 100 + 9 := by
  intro av w h
  unfold p_X9_lacksHouseOrYear at h
  split at h
  · refine ⟨_, _, rfl, ?_⟩
    first | (rw [h.1]; rfl) | (rw [h]; rfl)
  · exact h.elim
def q_X9_lacksHouseOrYear : List wV → wW → Int → wW → Prop := fun av w r w' => match av with
  | [.inr (.inr (some this))] => (r = if w 0 12 = 0 ∨ w 11 1 = 0 then 1 else 0) ∧ w' = w
  | _ => False
set_option maxRecDepth 100000 in
set_option maxHeartbeats 4000000 in
theorem c_X9_lacksHouseOrYear : w_Ct yX9_lacksHouseOrYear cX9_lacksHouseOrYear 1 3 0 0 p_X9_lacksHouseOrYear q_X9_lacksHouseOrYear := by
  refine w_met (own := RX9) (fl := w_fl9) (gs := w_gs9) (kl := w_kl9) (ki := w_ki9) (cs := []) (by decide +kernel) rfl ?_ w_flok9 w_gsok9 w_klok9 w_kiok9 ?_ ?_
  · intro av w h
    unfold p_X9_lacksHouseOrYear at h
    split at h
    · simp [w_pos, w_cat]
    · exact h.elim
  · exact fun _ h => absurd h List.not_mem_nil
  intro av w hp
  unfold p_X9_lacksHouseOrYear at hp
  split at hp
  case h_2 => exact hp.elim
  rename_i this
  intro G hG
  simp only [w_ent, w_pos, w_cat, Nat.reduceEqDiff, ↓reduceIte, List.length_cons, List.length_nil, Nat.reduceAdd, Nat.reduceSub, List.cons_append, List.nil_append, List.replicate_succ, List.replicate_zero]
  obtain ⟨rfl, hp⟩ := hp
  (apply hG [] 2000; simp only [w_br_i, w_ite, w_all, w_all0, forall_eq, w_b0, w_b1, ↓reduceIte, w_ent, w_pos, List.replicate_succ, List.replicate_zero, wp_s, wk_s, w_lk_c, w_ld0, w_ldS, w_kp0, w_kp, w_s1, w_s2, w_to, w_if, w_call, w_sw, w_cat, w_cats, w_psh, w_fv, List.contains_cons, List.contains_nil, List.set_cons_zero, List.set_cons_succ, List.length_cons, List.length_nil, List.find?_cons, List.find?_nil, List.take_succ_cons, List.take_zero, List.drop_succ_cons, List.drop_zero, List.reverse_cons, List.reverse_nil, List.nil_append, List.cons_append, Option.map_some, Option.map_none, Nat.reduceAdd, Nat.reduceBEq, Nat.reduceEqDiff, Nat.reduceLT, Nat.reduceLeDiff, Nat.reduceSub, Int.reduceAdd, Int.reduceSub, Int.reduceMul, Int.reduceNeg, Int.reduceToNat, Int.reduceLT, Int.reduceLE, Int.reduceEq, Bool.false_eq_true, Bool.or_false, Bool.false_or, Bool.true_or, Bool.or_true, if_true, if_false, ite_true, ite_false, true_and, and_true, false_and, and_false, true_or, or_true, false_or, or_false, Int.cast_ofNat_Int, Int.toNat_natCast, Int.natCast_add, List.getElem?_cons_zero, List.getElem?_cons_succ, true_implies, forall_const, not_true_eq_false, not_false_eq_true, ne_eq, beq_iff_eq, imp_self, List.length_set, Nat.zero_add, Nat.add_zero, Int.zero_add, Int.add_zero, w1_aload_n_0, w1_getfield, w1_ifCond, w1_iconst, w1_goto, w1_ireturn, dX9_lacksHouseOrYear_0, dX9_lacksHouseOrYear_1, dX9_lacksHouseOrYear_4, dX9_lacksHouseOrYear_7, dX9_lacksHouseOrYear_8, dX9_lacksHouseOrYear_11, dX9_lacksHouseOrYear_14, dX9_lacksHouseOrYear_17, dX9_lacksHouseOrYear_18, dX9_lacksHouseOrYear_21, dX9_lacksHouseOrYear_22, w_flk9_115, w_flk9_124, w_flk9_26, w_kd_0, w_rf_0_0, w_rf_0_1, w_rf_0_2, w_rf_0_3, w_rf_0_4, w_rf_0_5, w_rf_0_6, w_rf_0_7, w_rf_0_8, w_rf_0_9, w_rf_0_10, w_kd_11, w_rf_11_0]); (repeat' (with_reducible (first | refine And.intro ?_ ?_ | intro _))) <;> (first | assumption | contradiction | exact Or.inl trivial | exact Or.inl rfl | exact Or.inr rfl | (simp only [inI, inL]; omega) | omega | (simp only [q_X9_lacksHouseOrYear]; ((repeat' (first | refine And.intro ?_ ?_ | split)) <;> (first | rfl | trivial | assumption | contradiction | omega | (exfalso; omega)))))
def p_X9_stateOf : List wV → wW → Prop := fun av w => match av with
  | [.inl lv, .inl wet] => inI wet
  | _ => False
def q_X9_stateOf : List wV → wW → Int → wW → Prop := fun av w r w' => match av with
  | [.inl lv, .inl wet] => (r = 2 * lv + (if wet = 0 then 0 else 1)) ∧ w' = w
  | _ => False
set_option maxRecDepth 100000 in
set_option maxHeartbeats 4000000 in
theorem c_X9_stateOf : w_Ct yX9_stateOf cX9_stateOf 2 1 0 0 p_X9_stateOf q_X9_stateOf := by
  refine w_met (own := RX9) (fl := w_fl9) (gs := w_gs9) (kl := w_kl9) (ki := w_ki9) (cs := []) (by decide +kernel) rfl ?_ w_flok9 w_gsok9 w_klok9 w_kiok9 ?_ ?_
  · intro av w h
    unfold p_X9_stateOf at h
    split at h
    · simp [w_pos, w_cat]
    · exact h.elim
  · exact fun _ h => absurd h List.not_mem_nil
  intro av w hp
  unfold p_X9_stateOf at hp
  split at hp
  case h_2 => exact hp.elim
  rename_i lv wet
  intro G hG
  simp only [w_ent, w_pos, w_cat, Nat.reduceEqDiff, ↓reduceIte, List.length_cons, List.length_nil, Nat.reduceAdd, Nat.reduceSub, List.cons_append, List.nil_append, List.replicate_succ, List.replicate_zero]
  (apply hG [] 2000; simp only [w_br_i, w_ite, w_all, w_all0, forall_eq, w_b0, w_b1, ↓reduceIte, w_ent, w_pos, List.replicate_succ, List.replicate_zero, wp_s, wk_s, w_lk_c, w_ld0, w_ldS, w_kp0, w_kp, w_s1, w_s2, w_to, w_if, w_call, w_sw, w_cat, w_cats, w_psh, w_fv, List.contains_cons, List.contains_nil, List.set_cons_zero, List.set_cons_succ, List.length_cons, List.length_nil, List.find?_cons, List.find?_nil, List.take_succ_cons, List.take_zero, List.drop_succ_cons, List.drop_zero, List.reverse_cons, List.reverse_nil, List.nil_append, List.cons_append, Option.map_some, Option.map_none, Nat.reduceAdd, Nat.reduceBEq, Nat.reduceEqDiff, Nat.reduceLT, Nat.reduceLeDiff, Nat.reduceSub, Int.reduceAdd, Int.reduceSub, Int.reduceMul, Int.reduceNeg, Int.reduceToNat, Int.reduceLT, Int.reduceLE, Int.reduceEq, Bool.false_eq_true, Bool.or_false, Bool.false_or, Bool.true_or, Bool.or_true, if_true, if_false, ite_true, ite_false, true_and, and_true, false_and, and_false, true_or, or_true, false_or, or_false, Int.cast_ofNat_Int, Int.toNat_natCast, Int.natCast_add, List.getElem?_cons_zero, List.getElem?_cons_succ, true_implies, forall_const, not_true_eq_false, not_false_eq_true, ne_eq, beq_iff_eq, imp_self, List.length_set, Nat.zero_add, Nat.add_zero, Int.zero_add, Int.add_zero, w1_iconst, w1_iload_n_0, w1_imul, w1_iload_n_1, w1_ifCond, w1_goto, w1_iadd, w1_ireturn, dX9_stateOf_0, dX9_stateOf_1, dX9_stateOf_2, dX9_stateOf_3, dX9_stateOf_4, dX9_stateOf_7, dX9_stateOf_8, dX9_stateOf_11, dX9_stateOf_12, dX9_stateOf_13]); (repeat' (with_reducible (first | refine And.intro ?_ ?_ | intro _))) <;> (first | assumption | contradiction | exact Or.inl trivial | exact Or.inl rfl | exact Or.inr rfl | (simp only [inI, inL]; omega) | omega | (simp only [q_X9_stateOf]; ((repeat' (first | refine And.intro ?_ ?_ | split)) <;> (first | rfl | trivial | assumption | contradiction | omega | (exfalso; omega)))))
def p_X4_goesByWorth : List wV → wW → Prop := fun av w => match av with
  | [.inr (.inr (some this))] => (36 ≤ this ∧ this < 46) ∧ inI (w this 1)
  | _ => False
theorem h_X4_goesByWorth : ∀ av w, p_X4_goesByWorth av w → ∃ a r, av = vr a :: r ∧ w_kd a = 100 + 4 := by
  intro av w h
  unfold p_X4_goesByWorth at h
  split at h
  · refine ⟨_, _, rfl, ?_⟩
    rw [w_kdr h.1]
  · exact h.elim
def q_X4_goesByWorth : List wV → wW → Int → wW → Prop := fun av w r w' => match av with
  | [.inr (.inr (some this))] => (r = if 2 ≤ w this 1 then 1 else 0) ∧ w' = w
  | _ => False
set_option maxRecDepth 100000 in
set_option maxHeartbeats 4000000 in
theorem c_X4_goesByWorth : w_Ct yX4_goesByWorth cX4_goesByWorth 1 3 0 0 p_X4_goesByWorth q_X4_goesByWorth := by
  refine w_met (own := RX4) (fl := w_fl4) (gs := w_gs4) (kl := w_kl4) (ki := w_ki4) (cs := []) (by decide +kernel) rfl ?_ w_flok4 w_gsok4 w_klok4 w_kiok4 ?_ ?_
  · intro av w h
    unfold p_X4_goesByWorth at h
    split at h
    · simp [w_pos, w_cat]
    · exact h.elim
  · exact fun _ h => absurd h List.not_mem_nil
  intro av w hp
  unfold p_X4_goesByWorth at hp
  split at hp
  case h_2 => exact hp.elim
  rename_i this
  intro G hG
  simp only [w_ent, w_pos, w_cat, Nat.reduceEqDiff, ↓reduceIte, List.length_cons, List.length_nil, Nat.reduceAdd, Nat.reduceSub, List.cons_append, List.nil_append, List.replicate_succ, List.replicate_zero]
  have hk := w_kdr hp.1
  (apply hG [] 2000; simp only [w_br_i, w_ite, w_all, w_all0, forall_eq, w_b0, w_b1, ↓reduceIte, w_ent, w_pos, List.replicate_succ, List.replicate_zero, wp_s, wk_s, w_lk_c, w_ld0, w_ldS, w_kp0, w_kp, w_s1, w_s2, w_to, w_if, w_call, w_sw, w_cat, w_cats, w_psh, w_fv, List.contains_cons, List.contains_nil, List.set_cons_zero, List.set_cons_succ, List.length_cons, List.length_nil, List.find?_cons, List.find?_nil, List.take_succ_cons, List.take_zero, List.drop_succ_cons, List.drop_zero, List.reverse_cons, List.reverse_nil, List.nil_append, List.cons_append, Option.map_some, Option.map_none, Nat.reduceAdd, Nat.reduceBEq, Nat.reduceEqDiff, Nat.reduceLT, Nat.reduceLeDiff, Nat.reduceSub, Int.reduceAdd, Int.reduceSub, Int.reduceMul, Int.reduceNeg, Int.reduceToNat, Int.reduceLT, Int.reduceLE, Int.reduceEq, Bool.false_eq_true, Bool.or_false, Bool.false_or, Bool.true_or, Bool.or_true, if_true, if_false, ite_true, ite_false, true_and, and_true, false_and, and_false, true_or, or_true, false_or, or_false, Int.cast_ofNat_Int, Int.toNat_natCast, Int.natCast_add, List.getElem?_cons_zero, List.getElem?_cons_succ, true_implies, forall_const, not_true_eq_false, not_false_eq_true, ne_eq, beq_iff_eq, imp_self, List.length_set, Nat.zero_add, Nat.add_zero, Int.zero_add, Int.add_zero, w1_aload_n_0, w1_getfield, w1_iconst, w1_if_icmp, w1_goto, w1_ireturn, dX4_goesByWorth_0, dX4_goesByWorth_1, dX4_goesByWorth_4, dX4_goesByWorth_5, dX4_goesByWorth_8, dX4_goesByWorth_9, dX4_goesByWorth_12, dX4_goesByWorth_13, w_flk4_22, hk]); (repeat' (with_reducible (first | refine And.intro ?_ ?_ | intro _))) <;> (first | assumption | contradiction | exact Or.inl trivial | exact Or.inl rfl | exact Or.inr rfl | (simp only [inI, inL]; omega) | omega | (simp only [q_X4_goesByWorth]; ((repeat' (first | refine And.intro ?_ ?_ | split)) <;> (first | rfl | trivial | assumption | contradiction | omega | (exfalso; omega)))))
def p_X4_isA : List wV → wW → Prop := fun av w => match av with
  | [.inr (.inr (some this)), .inl k] => (36 ≤ this ∧ this < 46) ∧ inI (w this 1) ∧ inI k
  | _ => False
theorem h_X4_isA : ∀ av w, p_X4_isA av w → ∃ a r, av = vr a :: r ∧ w_kd a = 100 + 4 := by
  intro av w h
  unfold p_X4_isA at h
  split at h
  · refine ⟨_, _, rfl, ?_⟩
    rw [w_kdr h.1]
  · exact h.elim
def q_X4_isA : List wV → wW → Int → wW → Prop := fun av w r w' => match av with
  | [.inr (.inr (some this)), .inl k] => (r = if k = 0 ∨ k = w this 1 ∨ (k = 2 ∧ 2 ≤ w this 1) then 1 else 0) ∧ w' = w
  | _ => False
set_option maxRecDepth 100000 in
set_option maxHeartbeats 4000000 in
theorem c_X4_isA : w_Ct yX4_isA cX4_isA 2 3 1 20 p_X4_isA q_X4_isA := by
  refine w_met (own := RX4) (fl := w_fl4) (gs := w_gs4) (kl := w_kl4) (ki := w_ki4) (cs := [(25, (0, 1, 3, p_X4_goesByWorth, q_X4_goesByWorth))]) (by decide +kernel) rfl ?_ w_flok4 w_gsok4 w_klok4 w_kiok4 ?_ ?_
  · intro av w h
    unfold p_X4_isA at h
    split at h
    · simp [w_pos, w_cat]
    · exact h.elim
  · exact List.forall_mem_cons.mpr ⟨⟨_, _, w_callV (own := RX4) (idx := 25) (ci := 4) c_X4_goesByWorth rfl rfl h_X4_goesByWorth (w_m3 54 (by decide +kernel) (by decide +kernel)) (w_m3 55 (by decide +kernel) (by decide +kernel)) (w_m3 56 (by decide +kernel) (by decide +kernel)) (w_m1 6 (by decide +kernel) (by decide +kernel)) (w_m3 57 (by decide +kernel) (by decide +kernel)) ⟨by decide +kernel, by decide +kernel, by decide +kernel⟩, by decide, by decide⟩, fun _ h => absurd h List.not_mem_nil⟩
  intro av w hp
  unfold p_X4_isA at hp
  split at hp
  case h_2 => exact hp.elim
  rename_i this k
  intro G hG
  simp only [w_ent, w_pos, w_cat, Nat.reduceEqDiff, ↓reduceIte, List.length_cons, List.length_nil, Nat.reduceAdd, Nat.reduceSub, List.cons_append, List.nil_append, List.replicate_succ, List.replicate_zero]
  have hk := w_kdr hp.1
  (apply hG [] 2000; simp only [w_br_i, w_ite, w_all, w_all0, forall_eq, w_b0, w_b1, ↓reduceIte, w_ent, w_pos, List.replicate_succ, List.replicate_zero, wp_s, wk_s, w_lk_c, w_ld0, w_ldS, w_kp0, w_kp, w_s1, w_s2, w_to, w_if, w_call, w_sw, w_cat, w_cats, w_psh, w_fv, List.contains_cons, List.contains_nil, List.set_cons_zero, List.set_cons_succ, List.length_cons, List.length_nil, List.find?_cons, List.find?_nil, List.take_succ_cons, List.take_zero, List.drop_succ_cons, List.drop_zero, List.reverse_cons, List.reverse_nil, List.nil_append, List.cons_append, Option.map_some, Option.map_none, Nat.reduceAdd, Nat.reduceBEq, Nat.reduceEqDiff, Nat.reduceLT, Nat.reduceLeDiff, Nat.reduceSub, Int.reduceAdd, Int.reduceSub, Int.reduceMul, Int.reduceNeg, Int.reduceToNat, Int.reduceLT, Int.reduceLE, Int.reduceEq, Bool.false_eq_true, Bool.or_false, Bool.false_or, Bool.true_or, Bool.or_true, if_true, if_false, ite_true, ite_false, true_and, and_true, false_and, and_false, true_or, or_true, false_or, or_false, Int.cast_ofNat_Int, Int.toNat_natCast, Int.natCast_add, List.getElem?_cons_zero, List.getElem?_cons_succ, true_implies, forall_const, not_true_eq_false, not_false_eq_true, ne_eq, beq_iff_eq, imp_self, List.length_set, Nat.zero_add, Nat.add_zero, Int.zero_add, Int.add_zero, w1_iload_n_1, w1_ifCond, w1_aload_n_0, w1_getfield, w1_if_icmp, w1_iconst, w1_invokevirtual, w1_goto, w1_ireturn, dX4_isA_0, dX4_isA_1, dX4_isA_4, dX4_isA_5, dX4_isA_6, dX4_isA_9, dX4_isA_12, dX4_isA_13, dX4_isA_14, dX4_isA_17, dX4_isA_18, dX4_isA_21, dX4_isA_24, dX4_isA_25, dX4_isA_28, dX4_isA_29, w_flk4_22, hk, p_X4_goesByWorth, q_X4_goesByWorth]); (repeat' (with_reducible (first | refine And.intro ?_ ?_ | intro _))) <;> (first | assumption | contradiction | exact Or.inl trivial | exact Or.inl rfl | exact Or.inr rfl | (simp only [inI, inL]; omega) | omega | (simp only [q_X4_isA]; ((repeat' (first | refine And.intro ?_ ?_ | split)) <;> (first | rfl | trivial | assumption | contradiction | omega | (exfalso; omega)))))
def p_X1_useTold : List wV → wW → Prop := fun av w => match av with
  | [.inr (.inr (some this)), .inl u, .inl what] => this = 4 ∧ inI u ∧ inI what ∧ (0 ≤ w 4 6 ∧ w 4 6 ≤ 3)
  | _ => False
theorem h_X1_useTold : ∀ av w, p_X1_useTold av w → ∃ a r, av = vr a :: r ∧ w_kd a = 100 + 1 := by
  intro av w h
  unfold p_X1_useTold at h
  split at h
  · refine ⟨_, _, rfl, ?_⟩
    first | (rw [h.1]; rfl) | (rw [h]; rfl)
  · exact h.elim
def q_X1_useTold : List wV → wW → Int → wW → Prop := fun av w r w' => match av with
  | [.inr (.inr (some this)), .inl u, .inl what] => (r = if u < 0 ∨ w 4 6 ≤ u then -1 else if what = 0 then w 6 u.toNat else if what = 1 then w 7 u.toNat else w 8 u.toNat) ∧ w' = w
  | _ => False
set_option maxRecDepth 100000 in
set_option maxHeartbeats 4000000 in
theorem c_X1_useTold : w_Ct yX1_useTold cX1_useTold 3 1 0 0 p_X1_useTold q_X1_useTold := by
  refine w_met (own := RX1) (fl := w_fl1) (gs := w_gs1) (kl := w_kl1) (ki := w_ki1) (cs := []) (by decide +kernel) rfl ?_ w_flok1 w_gsok1 w_klok1 w_kiok1 ?_ ?_
  · intro av w h
    unfold p_X1_useTold at h
    split at h
    · simp [w_pos, w_cat]
    · exact h.elim
  · exact fun _ h => absurd h List.not_mem_nil
  intro av w hp
  unfold p_X1_useTold at hp
  split at hp
  case h_2 => exact hp.elim
  rename_i this u what
  intro G hG
  simp only [w_ent, w_pos, w_cat, Nat.reduceEqDiff, ↓reduceIte, List.length_cons, List.length_nil, Nat.reduceAdd, Nat.reduceSub, List.cons_append, List.nil_append, List.replicate_succ, List.replicate_zero]
  obtain ⟨rfl, hp⟩ := hp
  (apply hG [] 2000; simp only [w_br_i, w_ite, w_all, w_all0, forall_eq, w_b0, w_b1, ↓reduceIte, w_ent, w_pos, List.replicate_succ, List.replicate_zero, wp_s, wk_s, w_lk_c, w_ld0, w_ldS, w_kp0, w_kp, w_s1, w_s2, w_to, w_if, w_call, w_sw, w_cat, w_cats, w_psh, w_fv, List.contains_cons, List.contains_nil, List.set_cons_zero, List.set_cons_succ, List.length_cons, List.length_nil, List.find?_cons, List.find?_nil, List.take_succ_cons, List.take_zero, List.drop_succ_cons, List.drop_zero, List.reverse_cons, List.reverse_nil, List.nil_append, List.cons_append, Option.map_some, Option.map_none, Nat.reduceAdd, Nat.reduceBEq, Nat.reduceEqDiff, Nat.reduceLT, Nat.reduceLeDiff, Nat.reduceSub, Int.reduceAdd, Int.reduceSub, Int.reduceMul, Int.reduceNeg, Int.reduceToNat, Int.reduceLT, Int.reduceLE, Int.reduceEq, Bool.false_eq_true, Bool.or_false, Bool.false_or, Bool.true_or, Bool.or_true, if_true, if_false, ite_true, ite_false, true_and, and_true, false_and, and_false, true_or, or_true, false_or, or_false, Int.cast_ofNat_Int, Int.toNat_natCast, Int.natCast_add, List.getElem?_cons_zero, List.getElem?_cons_succ, true_implies, forall_const, not_true_eq_false, not_false_eq_true, ne_eq, beq_iff_eq, imp_self, List.length_set, Nat.zero_add, Nat.add_zero, Int.zero_add, Int.add_zero, w1_iload_n_1, w1_ifCond, w1_aload_n_0, w1_getfield, w1_if_icmp, w1_iconst, w1_ireturn, w1_iload_n_2, w1_iaload, w1_goto, dX1_useTold_0, dX1_useTold_1, dX1_useTold_4, dX1_useTold_5, dX1_useTold_6, dX1_useTold_9, dX1_useTold_12, dX1_useTold_13, dX1_useTold_14, dX1_useTold_15, dX1_useTold_18, dX1_useTold_19, dX1_useTold_22, dX1_useTold_23, dX1_useTold_24, dX1_useTold_25, dX1_useTold_26, dX1_useTold_27, dX1_useTold_30, dX1_useTold_31, dX1_useTold_34, dX1_useTold_35, dX1_useTold_36, dX1_useTold_39, dX1_useTold_40, dX1_useTold_43, dX1_useTold_44, dX1_useTold_45, w_flk1_15, w_flk1_18, w_flk1_21, w_flk1_51, w_kd_4, w_rf_4_0, w_rf_4_1, w_rf_4_2, w_rf_4_3, w_rf_4_4, w_rf_4_5, w_kd_6, w_ln_6, w_kd_7, w_ln_7, w_kd_8, w_ln_8]); (repeat' (with_reducible (first | refine And.intro ?_ ?_ | intro _))) <;> (first | assumption | contradiction | exact Or.inl trivial | exact Or.inl rfl | exact Or.inr rfl | (simp only [inI, inL]; omega) | omega | (simp only [q_X1_useTold]; ((repeat' (first | refine And.intro ?_ ?_ | split)) <;> (first | rfl | trivial | assumption | contradiction | omega | (exfalso; omega)))))
def o_c1 (area rain loss wash wet : Int) : Int := area * rain - loss - (if wet = 0 then wash else 0)
def o_comes (area rain loss wash wet : Int) : Int := if rain = 0 then 0 else if o_c1 area rain loss wash wet < 0 then 0 else o_c1 area rain loss wash wet
def p_X1_comesBy : List wV → wW → Prop := fun av w => match av with
  | [.inr (.inr (some this)), .inl area, .inl rain, .inl wet] => this = 4 ∧ (0 ≤ area ∧ area ≤ 25) ∧ (0 ≤ rain ∧ rain ≤ 9) ∧ inI wet ∧ (0 ≤ w 5 2 ∧ w 5 2 ≤ 9) ∧ (0 ≤ w 5 3 ∧ w 5 3 ≤ 9)
  | _ => False
theorem h_X1_comesBy : ∀ av w, p_X1_comesBy av w → ∃ a r, av = vr a :: r ∧ w_kd a = 100 + 1 := by
  intro av w h
  unfold p_X1_comesBy at h
  split at h
  · refine ⟨_, _, rfl, ?_⟩
    first | (rw [h.1]; rfl) | (rw [h]; rfl)
  · exact h.elim
def q_X1_comesBy : List wV → wW → Int → wW → Prop := fun av w r w' => match av with
  | [.inr (.inr (some this)), .inl area, .inl rain, .inl wet] => r = o_comes area rain (w 5 2) (w 5 3) wet ∧ w' = w
  | _ => False
set_option maxRecDepth 100000 in
set_option maxHeartbeats 4000000 in
theorem c_X1_comesBy : w_Ct yX1_comesBy cX1_comesBy 5 1 0 0 p_X1_comesBy q_X1_comesBy := by
  refine w_met (own := RX1) (fl := w_fl1) (gs := w_gs1) (kl := w_kl1) (ki := w_ki1) (cs := []) (by decide +kernel) rfl ?_ w_flok1 w_gsok1 w_klok1 w_kiok1 ?_ ?_
  · intro av w h
    unfold p_X1_comesBy at h
    split at h
    · simp [w_pos, w_cat]
    · exact h.elim
  · exact fun _ h => absurd h List.not_mem_nil
  intro av w hp
  unfold p_X1_comesBy at hp
  split at hp
  case h_2 => exact hp.elim
  rename_i this area rain wet
  intro G hG
  simp only [w_ent, w_pos, w_cat, Nat.reduceEqDiff, ↓reduceIte, List.length_cons, List.length_nil, Nat.reduceAdd, Nat.reduceSub, List.cons_append, List.nil_append, List.replicate_succ, List.replicate_zero]
  obtain ⟨rfl, h1, h2, h3, h4, h5⟩ := hp
  have hm := mul_bd h1.1 h1.2 h2.1 h2.2
  (apply hG [30] 2000; simp only [w_br_i, w_ite, w_all, w_all0, forall_eq, w_b0, w_b1, ↓reduceIte, w_ent, w_pos, List.replicate_succ, List.replicate_zero, wp_s, wk_s, w_lk_c, w_ld0, w_ldS, w_kp0, w_kp, w_s1, w_s2, w_to, w_if, w_call, w_sw, w_cat, w_cats, w_psh, w_fv, List.contains_cons, List.contains_nil, List.set_cons_zero, List.set_cons_succ, List.length_cons, List.length_nil, List.find?_cons, List.find?_nil, List.take_succ_cons, List.take_zero, List.drop_succ_cons, List.drop_zero, List.reverse_cons, List.reverse_nil, List.nil_append, List.cons_append, Option.map_some, Option.map_none, Nat.reduceAdd, Nat.reduceBEq, Nat.reduceEqDiff, Nat.reduceLT, Nat.reduceLeDiff, Nat.reduceSub, Int.reduceAdd, Int.reduceSub, Int.reduceMul, Int.reduceNeg, Int.reduceToNat, Int.reduceLT, Int.reduceLE, Int.reduceEq, Bool.false_eq_true, Bool.or_false, Bool.false_or, Bool.true_or, Bool.or_true, if_true, if_false, ite_true, ite_false, true_and, and_true, false_and, and_false, true_or, or_true, false_or, or_false, Int.cast_ofNat_Int, Int.toNat_natCast, Int.natCast_add, List.getElem?_cons_zero, List.getElem?_cons_succ, true_implies, forall_const, not_true_eq_false, not_false_eq_true, ne_eq, beq_iff_eq, imp_self, List.length_set, Nat.zero_add, Nat.add_zero, Int.zero_add, Int.add_zero, w1_iload_n_2, w1_ifCond, w1_iconst, w1_ireturn, w1_iload_n_1, w1_imul, w1_aload_n_0, w1_getfield, w1_iaload, w1_isub, w1_iload_n_3, w1_goto, w1_istore, w1_iload, dX1_comesBy_0, dX1_comesBy_1, dX1_comesBy_4, dX1_comesBy_5, dX1_comesBy_6, dX1_comesBy_7, dX1_comesBy_8, dX1_comesBy_9, dX1_comesBy_10, dX1_comesBy_13, dX1_comesBy_14, dX1_comesBy_15, dX1_comesBy_16, dX1_comesBy_17, dX1_comesBy_20, dX1_comesBy_21, dX1_comesBy_24, dX1_comesBy_25, dX1_comesBy_28, dX1_comesBy_29, dX1_comesBy_30, dX1_comesBy_31, dX1_comesBy_33, dX1_comesBy_35, dX1_comesBy_38, dX1_comesBy_39, dX1_comesBy_42, dX1_comesBy_44, w_flk1_9, w_kd_4, w_rf_4_0, w_rf_4_1, w_rf_4_2, w_rf_4_3, w_rf_4_4, w_rf_4_5, w_kd_5, w_ln_5])
  have e30 : ∀ x4 : Option wV, ∀ ws : Int, ws = (if wet = 0 then w 5 3 else 0) → rain ≠ 0 → G 30 [some (vr 4), some (vi area), some (vi rain), some (vi wet), x4] [vi ws, vi (area * rain - w 5 2)] w := by
    intro x4 ws hw hr
    (apply hG [30] 2000; simp only [w_br_i, w_ite, w_all, w_all0, forall_eq, w_b0, w_b1, ↓reduceIte, w_ent, w_pos, List.replicate_succ, List.replicate_zero, wp_s, wk_s, w_lk_c, w_ld0, w_ldS, w_kp0, w_kp, w_s1, w_s2, w_to, w_if, w_call, w_sw, w_cat, w_cats, w_psh, w_fv, List.contains_cons, List.contains_nil, List.set_cons_zero, List.set_cons_succ, List.length_cons, List.length_nil, List.find?_cons, List.find?_nil, List.take_succ_cons, List.take_zero, List.drop_succ_cons, List.drop_zero, List.reverse_cons, List.reverse_nil, List.nil_append, List.cons_append, Option.map_some, Option.map_none, Nat.reduceAdd, Nat.reduceBEq, Nat.reduceEqDiff, Nat.reduceLT, Nat.reduceLeDiff, Nat.reduceSub, Int.reduceAdd, Int.reduceSub, Int.reduceMul, Int.reduceNeg, Int.reduceToNat, Int.reduceLT, Int.reduceLE, Int.reduceEq, Bool.false_eq_true, Bool.or_false, Bool.false_or, Bool.true_or, Bool.or_true, if_true, if_false, ite_true, ite_false, true_and, and_true, false_and, and_false, true_or, or_true, false_or, or_false, Int.cast_ofNat_Int, Int.toNat_natCast, Int.natCast_add, List.getElem?_cons_zero, List.getElem?_cons_succ, true_implies, forall_const, not_true_eq_false, not_false_eq_true, ne_eq, beq_iff_eq, imp_self, List.length_set, Nat.zero_add, Nat.add_zero, Int.zero_add, Int.add_zero, w1_iload_n_2, w1_ifCond, w1_iconst, w1_ireturn, w1_iload_n_1, w1_imul, w1_aload_n_0, w1_getfield, w1_iaload, w1_isub, w1_iload_n_3, w1_goto, w1_istore, w1_iload, dX1_comesBy_0, dX1_comesBy_1, dX1_comesBy_4, dX1_comesBy_5, dX1_comesBy_6, dX1_comesBy_7, dX1_comesBy_8, dX1_comesBy_9, dX1_comesBy_10, dX1_comesBy_13, dX1_comesBy_14, dX1_comesBy_15, dX1_comesBy_16, dX1_comesBy_17, dX1_comesBy_20, dX1_comesBy_21, dX1_comesBy_24, dX1_comesBy_25, dX1_comesBy_28, dX1_comesBy_29, dX1_comesBy_30, dX1_comesBy_31, dX1_comesBy_33, dX1_comesBy_35, dX1_comesBy_38, dX1_comesBy_39, dX1_comesBy_42, dX1_comesBy_44, w_flk1_9, w_kd_4, w_rf_4_0, w_rf_4_1, w_rf_4_2, w_rf_4_3, w_rf_4_4, w_rf_4_5, w_kd_5, w_ln_5])
    have hb : 0 ≤ ws ∧ ws ≤ 9 := by rw [hw]; split <;> omega
    (repeat' (with_reducible (first | refine And.intro ?_ ?_ | intro _))) <;> (try (first | assumption | contradiction | exact Or.inl trivial | exact Or.inl rfl | exact Or.inr rfl | (simp only [inI, inL]; omega) | omega))
    · simp only [q_X1_comesBy, o_comes, o_c1, ← hw]
      ((repeat' (first | refine And.intro ?_ ?_ | split)) <;> (first | rfl | trivial | assumption | contradiction | omega | (exfalso; omega)))
    · simp only [q_X1_comesBy, o_comes, o_c1, ← hw]
      ((repeat' (first | refine And.intro ?_ ?_ | split)) <;> (first | rfl | trivial | assumption | contradiction | omega | (exfalso; omega)))
  (repeat' (with_reducible (first | refine And.intro ?_ ?_ | intro _))) <;> (try (first | assumption | contradiction | exact Or.inl trivial | exact Or.inl rfl | exact Or.inr rfl | (simp only [inI, inL]; omega) | omega))
  all_goals first
    | exact e30 _ _ (by rw [if_pos (by assumption)]) (by assumption)
    | exact e30 _ _ (by rw [if_neg (by assumption)]) (by assumption)
    | (simp only [q_X1_comesBy, o_comes]; ((repeat' (first | refine And.intro ?_ ?_ | split)) <;> (first | rfl | trivial | assumption | contradiction | omega | (exfalso; omega))))
def p_X1_wantOf : List wV → wW → Prop := fun av w => match av with
  | [.inr (.inr (some this)), .inl u, .inl m] => this = 4 ∧ (0 ≤ u ∧ u < 3) ∧ inI m
  | _ => False
theorem h_X1_wantOf : ∀ av w, p_X1_wantOf av w → ∃ a r, av = vr a :: r ∧ w_kd a = 100 + 1 := by
  intro av w h
  unfold p_X1_wantOf at h
  split at h
  · refine ⟨_, _, rfl, ?_⟩
    first | (rw [h.1]; rfl) | (rw [h]; rfl)
  · exact h.elim
def q_X1_wantOf : List wV → wW → Int → wW → Prop := fun av w r w' => match av with
  | [.inr (.inr (some this)), .inl u, .inl m] => (r = w 6 u.toNat + if 5 ≤ m ∧ m ≤ 7 then w 7 u.toNat else 0) ∧ w' = w
  | _ => False
set_option maxRecDepth 100000 in
set_option maxHeartbeats 4000000 in
theorem c_X1_wantOf : w_Ct yX1_wantOf cX1_wantOf 3 1 0 0 p_X1_wantOf q_X1_wantOf := by
  refine w_met (own := RX1) (fl := w_fl1) (gs := w_gs1) (kl := w_kl1) (ki := w_ki1) (cs := []) (by decide +kernel) rfl ?_ w_flok1 w_gsok1 w_klok1 w_kiok1 ?_ ?_
  · intro av w h
    unfold p_X1_wantOf at h
    split at h
    · simp [w_pos, w_cat]
    · exact h.elim
  · exact fun _ h => absurd h List.not_mem_nil
  intro av w hp
  unfold p_X1_wantOf at hp
  split at hp
  case h_2 => exact hp.elim
  rename_i this u m
  intro G hG
  simp only [w_ent, w_pos, w_cat, Nat.reduceEqDiff, ↓reduceIte, List.length_cons, List.length_nil, Nat.reduceAdd, Nat.reduceSub, List.cons_append, List.nil_append, List.replicate_succ, List.replicate_zero]
  obtain ⟨rfl, hp⟩ := hp
  (apply hG [] 2000; simp only [w_br_i, w_ite, w_all, w_all0, forall_eq, w_b0, w_b1, ↓reduceIte, w_ent, w_pos, List.replicate_succ, List.replicate_zero, wp_s, wk_s, w_lk_c, w_ld0, w_ldS, w_kp0, w_kp, w_s1, w_s2, w_to, w_if, w_call, w_sw, w_cat, w_cats, w_psh, w_fv, List.contains_cons, List.contains_nil, List.set_cons_zero, List.set_cons_succ, List.length_cons, List.length_nil, List.find?_cons, List.find?_nil, List.take_succ_cons, List.take_zero, List.drop_succ_cons, List.drop_zero, List.reverse_cons, List.reverse_nil, List.nil_append, List.cons_append, Option.map_some, Option.map_none, Nat.reduceAdd, Nat.reduceBEq, Nat.reduceEqDiff, Nat.reduceLT, Nat.reduceLeDiff, Nat.reduceSub, Int.reduceAdd, Int.reduceSub, Int.reduceMul, Int.reduceNeg, Int.reduceToNat, Int.reduceLT, Int.reduceLE, Int.reduceEq, Bool.false_eq_true, Bool.or_false, Bool.false_or, Bool.true_or, Bool.or_true, if_true, if_false, ite_true, ite_false, true_and, and_true, false_and, and_false, true_or, or_true, false_or, or_false, Int.cast_ofNat_Int, Int.toNat_natCast, Int.natCast_add, List.getElem?_cons_zero, List.getElem?_cons_succ, true_implies, forall_const, not_true_eq_false, not_false_eq_true, ne_eq, beq_iff_eq, imp_self, List.length_set, Nat.zero_add, Nat.add_zero, Int.zero_add, Int.add_zero, w1_iload_n_2, w1_iconst, w1_if_icmp, w1_bipush, w1_aload_n_0, w1_getfield, w1_iload_n_1, w1_iaload, w1_iadd, w1_goto, w1_ireturn, dX1_wantOf_0, dX1_wantOf_1, dX1_wantOf_2, dX1_wantOf_5, dX1_wantOf_6, dX1_wantOf_8, dX1_wantOf_11, dX1_wantOf_12, dX1_wantOf_15, dX1_wantOf_16, dX1_wantOf_17, dX1_wantOf_18, dX1_wantOf_21, dX1_wantOf_22, dX1_wantOf_23, dX1_wantOf_24, dX1_wantOf_27, dX1_wantOf_28, dX1_wantOf_31, dX1_wantOf_32, dX1_wantOf_33, w_flk1_15, w_flk1_18, w_kd_4, w_rf_4_0, w_rf_4_1, w_rf_4_2, w_rf_4_3, w_rf_4_4, w_rf_4_5, w_kd_6, w_ln_6, w_kd_7, w_ln_7]); (repeat' (with_reducible (first | refine And.intro ?_ ?_ | intro _))) <;> (first | assumption | contradiction | exact Or.inl trivial | exact Or.inl rfl | exact Or.inr rfl | (simp only [inI, inL]; omega) | omega | (simp only [q_X1_wantOf]; ((repeat' (first | refine And.intro ?_ ?_ | split)) <;> (first | rfl | trivial | assumption | contradiction | omega | (exfalso; omega)))))
def p_X1_mostPumped : List wV → wW → Prop := fun av w => match av with
  | [.inr (.inr (some this)), .inl m] => this = 4 ∧ inI m
  | _ => False
theorem h_X1_mostPumped : ∀ av w, p_X1_mostPumped av w → ∃ a r, av = vr a :: r ∧ w_kd a = 100 + 1 := by
  intro av w h
  unfold p_X1_mostPumped at h
  split at h
  · refine ⟨_, _, rfl, ?_⟩
    first | (rw [h.1]; rfl) | (rw [h]; rfl)
  · exact h.elim
def q_X1_mostPumped : List wV → wW → Int → wW → Prop := fun av w r w' => match av with
  | [.inr (.inr (some this)), .inl m] => (r = if m = 7 then 0 else w 5 5) ∧ w' = w
  | _ => False
set_option maxRecDepth 100000 in
set_option maxHeartbeats 4000000 in
theorem c_X1_mostPumped : w_Ct yX1_mostPumped cX1_mostPumped 2 1 0 0 p_X1_mostPumped q_X1_mostPumped := by
  refine w_met (own := RX1) (fl := w_fl1) (gs := w_gs1) (kl := w_kl1) (ki := w_ki1) (cs := []) (by decide +kernel) rfl ?_ w_flok1 w_gsok1 w_klok1 w_kiok1 ?_ ?_
  · intro av w h
    unfold p_X1_mostPumped at h
    split at h
    · simp [w_pos, w_cat]
    · exact h.elim
  · exact fun _ h => absurd h List.not_mem_nil
  intro av w hp
  unfold p_X1_mostPumped at hp
  split at hp
  case h_2 => exact hp.elim
  rename_i this m
  intro G hG
  simp only [w_ent, w_pos, w_cat, Nat.reduceEqDiff, ↓reduceIte, List.length_cons, List.length_nil, Nat.reduceAdd, Nat.reduceSub, List.cons_append, List.nil_append, List.replicate_succ, List.replicate_zero]
  obtain ⟨rfl, hp⟩ := hp
  (apply hG [] 2000; simp only [w_br_i, w_ite, w_all, w_all0, forall_eq, w_b0, w_b1, ↓reduceIte, w_ent, w_pos, List.replicate_succ, List.replicate_zero, wp_s, wk_s, w_lk_c, w_ld0, w_ldS, w_kp0, w_kp, w_s1, w_s2, w_to, w_if, w_call, w_sw, w_cat, w_cats, w_psh, w_fv, List.contains_cons, List.contains_nil, List.set_cons_zero, List.set_cons_succ, List.length_cons, List.length_nil, List.find?_cons, List.find?_nil, List.take_succ_cons, List.take_zero, List.drop_succ_cons, List.drop_zero, List.reverse_cons, List.reverse_nil, List.nil_append, List.cons_append, Option.map_some, Option.map_none, Nat.reduceAdd, Nat.reduceBEq, Nat.reduceEqDiff, Nat.reduceLT, Nat.reduceLeDiff, Nat.reduceSub, Int.reduceAdd, Int.reduceSub, Int.reduceMul, Int.reduceNeg, Int.reduceToNat, Int.reduceLT, Int.reduceLE, Int.reduceEq, Bool.false_eq_true, Bool.or_false, Bool.false_or, Bool.true_or, Bool.or_true, if_true, if_false, ite_true, ite_false, true_and, and_true, false_and, and_false, true_or, or_true, false_or, or_false, Int.cast_ofNat_Int, Int.toNat_natCast, Int.natCast_add, List.getElem?_cons_zero, List.getElem?_cons_succ, true_implies, forall_const, not_true_eq_false, not_false_eq_true, ne_eq, beq_iff_eq, imp_self, List.length_set, Nat.zero_add, Nat.add_zero, Int.zero_add, Int.add_zero, w1_iload_n_1, w1_bipush, w1_if_icmp, w1_iconst, w1_goto, w1_aload_n_0, w1_getfield, w1_iaload, w1_ireturn, dX1_mostPumped_0, dX1_mostPumped_1, dX1_mostPumped_3, dX1_mostPumped_6, dX1_mostPumped_7, dX1_mostPumped_10, dX1_mostPumped_11, dX1_mostPumped_14, dX1_mostPumped_15, dX1_mostPumped_16, w_flk1_9, w_kd_4, w_rf_4_0, w_rf_4_1, w_rf_4_2, w_rf_4_3, w_rf_4_4, w_rf_4_5, w_kd_5, w_ln_5]); (repeat' (with_reducible (first | refine And.intro ?_ ?_ | intro _))) <;> (first | assumption | contradiction | exact Or.inl trivial | exact Or.inl rfl | exact Or.inr rfl | (simp only [inI, inL]; omega) | omega | (simp only [q_X1_mostPumped]; ((repeat' (first | refine And.intro ?_ ?_ | split)) <;> (first | rfl | trivial | assumption | contradiction | omega | (exfalso; omega)))))
def p_X6_told : List wV → wW → Prop := fun av w => match av with
  | [.inr (.inr (some this)), .inl what] => this = 88 ∧ inI what
  | _ => False
theorem h_X6_told : ∀ av w, p_X6_told av w → ∃ a r, av = vr a :: r ∧ w_kd a = 100 + 6 := by
  intro av w h
  unfold p_X6_told at h
  split at h
  · refine ⟨_, _, rfl, ?_⟩
    first | (rw [h.1]; rfl) | (rw [h]; rfl)
  · exact h.elim
def q_X6_told : List wV → wW → Int → wW → Prop := fun av w r w' => match av with
  | [.inr (.inr (some this)), .inl what] => (r = if what = 0 then w 88 8 else if what = 1 then w 88 9 else if what = 2 then w 88 10 else if what = 3 then w 88 11 else if what = 4 then w 88 12 else if what = 5 then w 88 6 else w 88 14) ∧ w' = w
  | _ => False
set_option maxRecDepth 100000 in
set_option maxHeartbeats 4000000 in
theorem c_X6_told : w_Ct yX6_told cX6_told 2 1 0 0 p_X6_told q_X6_told := by
  refine w_met (own := RX6) (fl := w_fl6) (gs := w_gs6) (kl := w_kl6) (ki := w_ki6) (cs := []) (by decide +kernel) rfl ?_ w_flok6 w_gsok6 w_klok6 w_kiok6 ?_ ?_
  · intro av w h
    unfold p_X6_told at h
    split at h
    · simp [w_pos, w_cat]
    · exact h.elim
  · exact fun _ h => absurd h List.not_mem_nil
  intro av w hp
  unfold p_X6_told at hp
  split at hp
  case h_2 => exact hp.elim
  rename_i this what
  intro G hG
  simp only [w_ent, w_pos, w_cat, Nat.reduceEqDiff, ↓reduceIte, List.length_cons, List.length_nil, Nat.reduceAdd, Nat.reduceSub, List.cons_append, List.nil_append, List.replicate_succ, List.replicate_zero]
  obtain ⟨rfl, hp⟩ := hp
  (apply hG [] 2000; simp only [w_br_i, w_ite, w_all, w_all0, forall_eq, w_b0, w_b1, ↓reduceIte, w_ent, w_pos, List.replicate_succ, List.replicate_zero, wp_s, wk_s, w_lk_c, w_ld0, w_ldS, w_kp0, w_kp, w_s1, w_s2, w_to, w_if, w_call, w_sw, w_cat, w_cats, w_psh, w_fv, List.contains_cons, List.contains_nil, List.set_cons_zero, List.set_cons_succ, List.length_cons, List.length_nil, List.find?_cons, List.find?_nil, List.take_succ_cons, List.take_zero, List.drop_succ_cons, List.drop_zero, List.reverse_cons, List.reverse_nil, List.nil_append, List.cons_append, Option.map_some, Option.map_none, Nat.reduceAdd, Nat.reduceBEq, Nat.reduceEqDiff, Nat.reduceLT, Nat.reduceLeDiff, Nat.reduceSub, Int.reduceAdd, Int.reduceSub, Int.reduceMul, Int.reduceNeg, Int.reduceToNat, Int.reduceLT, Int.reduceLE, Int.reduceEq, Bool.false_eq_true, Bool.or_false, Bool.false_or, Bool.true_or, Bool.or_true, if_true, if_false, ite_true, ite_false, true_and, and_true, false_and, and_false, true_or, or_true, false_or, or_false, Int.cast_ofNat_Int, Int.toNat_natCast, Int.natCast_add, List.getElem?_cons_zero, List.getElem?_cons_succ, true_implies, forall_const, not_true_eq_false, not_false_eq_true, ne_eq, beq_iff_eq, imp_self, List.length_set, Nat.zero_add, Nat.add_zero, Int.zero_add, Int.add_zero, w1_iload_n_1, w1_tableswitch, w1_aload_n_0, w1_getfield, w1_ireturn, dX6_told_0, dX6_told_1, dX6_told_40, dX6_told_41, dX6_told_44, dX6_told_45, dX6_told_46, dX6_told_49, dX6_told_50, dX6_told_51, dX6_told_54, dX6_told_55, dX6_told_56, dX6_told_59, dX6_told_60, dX6_told_61, dX6_told_64, dX6_told_65, dX6_told_66, dX6_told_69, dX6_told_70, dX6_told_71, dX6_told_74, w_flk6_38, w_flk6_49, w_flk6_52, w_flk6_55, w_flk6_78, w_flk6_84, w_flk6_87, w_kd_88, w_rf_88_0, w_rf_88_1, w_rf_88_2]); (repeat' (with_reducible (first | refine And.intro ?_ ?_ | intro _))) <;> (first | assumption | contradiction | exact Or.inl trivial | exact Or.inl rfl | exact Or.inr rfl | (simp only [inI, inL]; omega) | omega | (simp only [q_X6_told]; ((repeat' (first | refine And.intro ?_ ?_ | split)) <;> (first | rfl | trivial | assumption | contradiction | omega | (exfalso; omega)))))
def o_kept (f : Nat → Int) : Nat → Int
  | 0 => 0
  | n + 1 => o_kept f n + if f n = -1 then 0 else 1
theorem o_kept_in (f : Nat → Int) : ∀ n : Nat, 0 ≤ o_kept f n ∧ o_kept f n ≤ n
  | 0 => by simp [o_kept]
  | n + 1 => by
    have := o_kept_in f n
    simp only [o_kept]
    split <;> omega
def p_X9_readingsKept : List wV → wW → Prop := fun av w => match av with
  | [.inr (.inr (some this))] => this = 0 ∧ ∀ m, m < 12 → inI (w 34 m)
  | _ => False
theorem h_X9_readingsKept : ∀ av w, p_X9_readingsKept av w → ∃ a r, av = vr a :: r ∧ w_kd a = 100 + 9 := by
  intro av w h
  unfold p_X9_readingsKept at h
  split at h
  · refine ⟨_, _, rfl, ?_⟩
    first | (rw [h.1]; rfl) | (rw [h]; rfl)
  · exact h.elim
def q_X9_readingsKept : List wV → wW → Int → wW → Prop := fun av w r w' => match av with
  | [.inr (.inr (some this))] => r = o_kept (w 34) 12 ∧ w' = w
  | _ => False
set_option maxRecDepth 100000 in
set_option maxHeartbeats 4000000 in
theorem c_X9_readingsKept : w_Ct yX9_readingsKept cX9_readingsKept 3 1 0 0 p_X9_readingsKept q_X9_readingsKept := by
  refine w_met (own := RX9) (fl := w_fl9) (gs := w_gs9) (kl := w_kl9) (ki := w_ki9) (cs := []) (by decide +kernel) rfl ?_ w_flok9 w_gsok9 w_klok9 w_kiok9 ?_ ?_
  · intro av w h
    unfold p_X9_readingsKept at h
    split at h
    · simp [w_pos, w_cat]
    · exact h.elim
  · exact fun _ h => absurd h List.not_mem_nil
  intro av w hp
  unfold p_X9_readingsKept at hp
  split at hp
  case h_2 => exact hp.elim
  rename_i this
  intro G hG
  simp only [w_ent, w_pos, w_cat, Nat.reduceEqDiff, ↓reduceIte, List.length_cons, List.length_nil, Nat.reduceAdd, Nat.reduceSub, List.cons_append, List.nil_append, List.replicate_succ, List.replicate_zero]
  obtain ⟨rfl, hp⟩ := hp
  have loop : ∀ n i : Nat, i + n = 12 → G 4 [some (vr 0), some (vi (o_kept (w 34) i)), some (vi i)] [] w := by
    intro n
    induction n with
    | zero =>
      intro i h2
      have e : i = 12 := by omega
      subst e
      (apply hG [4] 2000; simp only [w_br_i, w_ite, w_all, w_all0, forall_eq, w_b0, w_b1, ↓reduceIte, w_ent, w_pos, List.replicate_succ, List.replicate_zero, wp_s, wk_s, w_lk_c, w_ld0, w_ldS, w_kp0, w_kp, w_s1, w_s2, w_to, w_if, w_call, w_sw, w_cat, w_cats, w_psh, w_fv, List.contains_cons, List.contains_nil, List.set_cons_zero, List.set_cons_succ, List.length_cons, List.length_nil, List.find?_cons, List.find?_nil, List.take_succ_cons, List.take_zero, List.drop_succ_cons, List.drop_zero, List.reverse_cons, List.reverse_nil, List.nil_append, List.cons_append, Option.map_some, Option.map_none, Nat.reduceAdd, Nat.reduceBEq, Nat.reduceEqDiff, Nat.reduceLT, Nat.reduceLeDiff, Nat.reduceSub, Int.reduceAdd, Int.reduceSub, Int.reduceMul, Int.reduceNeg, Int.reduceToNat, Int.reduceLT, Int.reduceLE, Int.reduceEq, Bool.false_eq_true, Bool.or_false, Bool.false_or, Bool.true_or, Bool.or_true, if_true, if_false, ite_true, ite_false, true_and, and_true, false_and, and_false, true_or, or_true, false_or, or_false, Int.cast_ofNat_Int, Int.toNat_natCast, Int.natCast_add, List.getElem?_cons_zero, List.getElem?_cons_succ, true_implies, forall_const, not_true_eq_false, not_false_eq_true, ne_eq, beq_iff_eq, imp_self, List.length_set, Nat.zero_add, Nat.add_zero, Int.zero_add, Int.add_zero, w1_iconst, w1_istore_n_1, w1_istore_n_2, w1_iload_n_2, w1_bipush, w1_if_icmp, w1_aload_n_0, w1_getfield, w1_iaload, w1_iinc, w1_goto, w1_iload_n_1, w1_ireturn, dX9_readingsKept_0, dX9_readingsKept_1, dX9_readingsKept_2, dX9_readingsKept_3, dX9_readingsKept_4, dX9_readingsKept_5, dX9_readingsKept_7, dX9_readingsKept_10, dX9_readingsKept_11, dX9_readingsKept_14, dX9_readingsKept_15, dX9_readingsKept_16, dX9_readingsKept_17, dX9_readingsKept_20, dX9_readingsKept_23, dX9_readingsKept_26, dX9_readingsKept_29, dX9_readingsKept_30, w_flk9_36, w_kd_0, w_rf_0_0, w_rf_0_1, w_rf_0_2, w_rf_0_3, w_rf_0_4, w_rf_0_5, w_rf_0_6, w_rf_0_7, w_rf_0_8, w_rf_0_9, w_rf_0_10, w_kd_34, w_ln_34])
      (repeat' (with_reducible (first | refine And.intro ?_ ?_ | intro _))) <;> (try (first | assumption | contradiction | exact Or.inl trivial | exact Or.inl rfl | exact Or.inr rfl | (simp only [inI, inL]; omega) | omega))
      simp only [q_X9_readingsKept]
      ((repeat' (first | refine And.intro ?_ ?_ | split)) <;> (first | rfl | trivial | assumption | contradiction | omega | (exfalso; omega)))
    | succ n ih =>
      intro i h2
      have hi := hp i (by omega)
      have e := ih (i + 1) (by omega)
      simp only [o_kept, Int.natCast_add, Int.cast_ofNat_Int] at e
      (apply hG [4] 2000; simp only [w_br_i, w_ite, w_all, w_all0, forall_eq, w_b0, w_b1, ↓reduceIte, w_ent, w_pos, List.replicate_succ, List.replicate_zero, wp_s, wk_s, w_lk_c, w_ld0, w_ldS, w_kp0, w_kp, w_s1, w_s2, w_to, w_if, w_call, w_sw, w_cat, w_cats, w_psh, w_fv, List.contains_cons, List.contains_nil, List.set_cons_zero, List.set_cons_succ, List.length_cons, List.length_nil, List.find?_cons, List.find?_nil, List.take_succ_cons, List.take_zero, List.drop_succ_cons, List.drop_zero, List.reverse_cons, List.reverse_nil, List.nil_append, List.cons_append, Option.map_some, Option.map_none, Nat.reduceAdd, Nat.reduceBEq, Nat.reduceEqDiff, Nat.reduceLT, Nat.reduceLeDiff, Nat.reduceSub, Int.reduceAdd, Int.reduceSub, Int.reduceMul, Int.reduceNeg, Int.reduceToNat, Int.reduceLT, Int.reduceLE, Int.reduceEq, Bool.false_eq_true, Bool.or_false, Bool.false_or, Bool.true_or, Bool.or_true, if_true, if_false, ite_true, ite_false, true_and, and_true, false_and, and_false, true_or, or_true, false_or, or_false, Int.cast_ofNat_Int, Int.toNat_natCast, Int.natCast_add, List.getElem?_cons_zero, List.getElem?_cons_succ, true_implies, forall_const, not_true_eq_false, not_false_eq_true, ne_eq, beq_iff_eq, imp_self, List.length_set, Nat.zero_add, Nat.add_zero, Int.zero_add, Int.add_zero, w1_iconst, w1_istore_n_1, w1_istore_n_2, w1_iload_n_2, w1_bipush, w1_if_icmp, w1_aload_n_0, w1_getfield, w1_iaload, w1_iinc, w1_goto, w1_iload_n_1, w1_ireturn, dX9_readingsKept_0, dX9_readingsKept_1, dX9_readingsKept_2, dX9_readingsKept_3, dX9_readingsKept_4, dX9_readingsKept_5, dX9_readingsKept_7, dX9_readingsKept_10, dX9_readingsKept_11, dX9_readingsKept_14, dX9_readingsKept_15, dX9_readingsKept_16, dX9_readingsKept_17, dX9_readingsKept_20, dX9_readingsKept_23, dX9_readingsKept_26, dX9_readingsKept_29, dX9_readingsKept_30, w_flk9_36, w_kd_0, w_rf_0_0, w_rf_0_1, w_rf_0_2, w_rf_0_3, w_rf_0_4, w_rf_0_5, w_rf_0_6, w_rf_0_7, w_rf_0_8, w_rf_0_9, w_rf_0_10, w_kd_34, w_ln_34])
      by_cases q : w 34 i = -1
      · rw [if_pos q, Int.add_zero] at e
        (repeat' (with_reducible (first | refine And.intro ?_ ?_ | intro _))) <;> (try (first | assumption | contradiction | exact Or.inl trivial | exact Or.inl rfl | exact Or.inr rfl | (simp only [inI, inL]; omega) | omega))
      · rw [if_neg q] at e
        (repeat' (with_reducible (first | refine And.intro ?_ ?_ | intro _))) <;> (try (first | assumption | contradiction | exact Or.inl trivial | exact Or.inl rfl | exact Or.inr rfl | (simp only [inI, inL]; omega) | omega))
  (apply hG [4] 2000; simp only [w_br_i, w_ite, w_all, w_all0, forall_eq, w_b0, w_b1, ↓reduceIte, w_ent, w_pos, List.replicate_succ, List.replicate_zero, wp_s, wk_s, w_lk_c, w_ld0, w_ldS, w_kp0, w_kp, w_s1, w_s2, w_to, w_if, w_call, w_sw, w_cat, w_cats, w_psh, w_fv, List.contains_cons, List.contains_nil, List.set_cons_zero, List.set_cons_succ, List.length_cons, List.length_nil, List.find?_cons, List.find?_nil, List.take_succ_cons, List.take_zero, List.drop_succ_cons, List.drop_zero, List.reverse_cons, List.reverse_nil, List.nil_append, List.cons_append, Option.map_some, Option.map_none, Nat.reduceAdd, Nat.reduceBEq, Nat.reduceEqDiff, Nat.reduceLT, Nat.reduceLeDiff, Nat.reduceSub, Int.reduceAdd, Int.reduceSub, Int.reduceMul, Int.reduceNeg, Int.reduceToNat, Int.reduceLT, Int.reduceLE, Int.reduceEq, Bool.false_eq_true, Bool.or_false, Bool.false_or, Bool.true_or, Bool.or_true, if_true, if_false, ite_true, ite_false, true_and, and_true, false_and, and_false, true_or, or_true, false_or, or_false, Int.cast_ofNat_Int, Int.toNat_natCast, Int.natCast_add, List.getElem?_cons_zero, List.getElem?_cons_succ, true_implies, forall_const, not_true_eq_false, not_false_eq_true, ne_eq, beq_iff_eq, imp_self, List.length_set, Nat.zero_add, Nat.add_zero, Int.zero_add, Int.add_zero, w1_iconst, w1_istore_n_1, w1_istore_n_2, w1_iload_n_2, w1_bipush, w1_if_icmp, w1_aload_n_0, w1_getfield, w1_iaload, w1_iinc, w1_goto, w1_iload_n_1, w1_ireturn, dX9_readingsKept_0, dX9_readingsKept_1, dX9_readingsKept_2, dX9_readingsKept_3, dX9_readingsKept_4, dX9_readingsKept_5, dX9_readingsKept_7, dX9_readingsKept_10, dX9_readingsKept_11, dX9_readingsKept_14, dX9_readingsKept_15, dX9_readingsKept_16, dX9_readingsKept_17, dX9_readingsKept_20, dX9_readingsKept_23, dX9_readingsKept_26, dX9_readingsKept_29, dX9_readingsKept_30, w_flk9_36, w_kd_0, w_rf_0_0, w_rf_0_1, w_rf_0_2, w_rf_0_3, w_rf_0_4, w_rf_0_5, w_rf_0_6, w_rf_0_7, w_rf_0_8, w_rf_0_9, w_rf_0_10])
  exact loop 12 0 rfl
