/-! rows of like numbers -/
def wfl (w : wW) (a n : Nat) (v : Int) : wW := fun k i => if k = a ∧ i < n then v else w k i
theorem wfl_0 (w : wW) (a : Nat) (v : Int) : wfl w a 0 v = w := by
  funext k i
  simp [wfl]
theorem wfl_s (w : wW) (a n : Nat) (v : Int) : w_up (wfl w a n v) a n v = wfl w a (n + 1) v := by
  funext k i
  simp only [wfl, w_up]
  by_cases h : k = a ∧ i = n
  · rw [if_pos h, if_pos (by omega)]
  · rw [if_neg h]
    by_cases h2 : k = a ∧ i < n
    · rw [if_pos h2, if_pos (by omega)]
    · rw [if_neg h2, if_neg (by omega)]
theorem wfl_x {w : wW} {a n k i : Nat} {v : Int} (h : k ≠ a) : wfl w a n v k i = w k i := by simp [wfl, h]
theorem wfl_a {w : wW} {a n i : Nat} {v : Int} (h : i < n) : wfl w a n v a i = v := by simp [wfl, h]
def p_J7_fill_53178 : List wV → wW → Prop := fun av w => match av with
  | [.inr (.inr (some a)), .inl v] => w_kd a = 0
  | _ => False
def q_J7_fill_53178 : List wV → wW → Int → wW → Prop := fun av w r w' => match av with
  | [.inr (.inr (some a)), .inl v] => w' = wfl w a (w_ln a) v
  | _ => False
set_option maxRecDepth 100000 in
set_option maxHeartbeats 4000000 in
theorem c_J7_fill_53178 : w_Ct yJ7_fill_53178 cJ7_fill_53178 4 0 0 0 p_J7_fill_53178 q_J7_fill_53178 := by
  refine w_met (own := RJ7) (fl := []) (gs := []) (kl := []) (ki := []) (cs := []) (by decide +kernel) rfl ?_ (fun _ h => absurd h List.not_mem_nil) (fun _ h => absurd h List.not_mem_nil) (fun _ h => absurd h List.not_mem_nil) (fun _ h => absurd h List.not_mem_nil) ?_ ?_
  · intro av w h
    unfold p_J7_fill_53178 at h
    split at h
    · simp [w_pos, w_cat]
    · exact h.elim
  · exact fun _ h => absurd h List.not_mem_nil
  intro av w hp
  unfold p_J7_fill_53178 at hp
  split at hp
  case h_2 => exact hp.elim
  rename_i a v
  intro G hG
  simp only [w_ent, w_pos, w_cat, Nat.reduceEqDiff, ↓reduceIte, List.length_cons, List.length_nil, Nat.reduceAdd, Nat.reduceSub, List.cons_append, List.nil_append, List.replicate_succ, List.replicate_zero]
  have hl := w_ln_le a
  have loop : ∀ n i : Nat, i + n = w_ln a → G 5 [some (vr a), some (vi v), some (vi i), some (vi (w_ln a))] [] (wfl w a i v) := by
    intro n
    induction n with
    | zero =>
      intro i hi
      have e : i = w_ln a := by omega
      subst e
      (apply hG [5] 2000; simp only [w_br_i, w_ite, w_all, w_all0, forall_eq, w_b0, w_b1, ↓reduceIte, w_ent, w_pos, List.replicate_succ, List.replicate_zero, wp_s, wk_s, w_lk_c, w_ld0, w_ldS, w_kp0, w_kp, w_s1, w_s2, w_to, w_if, w_call, w_sw, w_cat, w_cats, w_psh, w_fv, List.contains_cons, List.contains_nil, List.set_cons_zero, List.set_cons_succ, List.length_cons, List.length_nil, List.find?_cons, List.find?_nil, List.take_succ_cons, List.take_zero, List.drop_succ_cons, List.drop_zero, List.reverse_cons, List.reverse_nil, List.nil_append, List.cons_append, Option.map_some, Option.map_none, Nat.reduceAdd, Nat.reduceBEq, Nat.reduceEqDiff, Nat.reduceLT, Nat.reduceLeDiff, Nat.reduceSub, Int.reduceAdd, Int.reduceSub, Int.reduceMul, Int.reduceNeg, Int.reduceToNat, Int.reduceLT, Int.reduceLE, Int.reduceEq, Bool.false_eq_true, Bool.or_false, Bool.false_or, Bool.true_or, Bool.or_true, if_true, if_false, ite_true, ite_false, true_and, and_true, false_and, and_false, true_or, or_true, false_or, or_false, Int.cast_ofNat_Int, Int.toNat_natCast, Int.natCast_add, List.getElem?_cons_zero, List.getElem?_cons_succ, true_implies, forall_const, not_true_eq_false, not_false_eq_true, ne_eq, beq_iff_eq, imp_self, List.length_set, Nat.zero_add, Nat.add_zero, Int.zero_add, Int.add_zero, w1_iconst, w1_istore_n_2, w1_aload_n_0, w1_arraylength, w1_istore_n_3, w1_iload_n_2, w1_iload_n_3, w1_if_icmp, w1_iload_n_1, w1_iastore, w1_iinc, w1_goto, w1_return, dJ7_fill_53178_0, dJ7_fill_53178_1, dJ7_fill_53178_2, dJ7_fill_53178_3, dJ7_fill_53178_4, dJ7_fill_53178_5, dJ7_fill_53178_6, dJ7_fill_53178_7, dJ7_fill_53178_10, dJ7_fill_53178_11, dJ7_fill_53178_12, dJ7_fill_53178_13, dJ7_fill_53178_14, dJ7_fill_53178_17, dJ7_fill_53178_20])
      (repeat' (with_reducible (first | refine And.intro ?_ ?_ | intro _))) <;> (try (first | assumption | contradiction | exact Or.inl trivial | exact Or.inl rfl | exact Or.inr rfl | (simp only [inI, inL]; omega) | omega))
      all_goals simp only [q_J7_fill_53178]
    | succ n ih =>
      intro i hi
      have e := ih (i + 1) (by omega)
      simp only [Int.natCast_add, Int.cast_ofNat_Int] at e
      (apply hG [5] 2000; simp only [w_br_i, w_ite, w_all, w_all0, forall_eq, w_b0, w_b1, ↓reduceIte, w_ent, w_pos, List.replicate_succ, List.replicate_zero, wp_s, wk_s, w_lk_c, w_ld0, w_ldS, w_kp0, w_kp, w_s1, w_s2, w_to, w_if, w_call, w_sw, w_cat, w_cats, w_psh, w_fv, List.contains_cons, List.contains_nil, List.set_cons_zero, List.set_cons_succ, List.length_cons, List.length_nil, List.find?_cons, List.find?_nil, List.take_succ_cons, List.take_zero, List.drop_succ_cons, List.drop_zero, List.reverse_cons, List.reverse_nil, List.nil_append, List.cons_append, Option.map_some, Option.map_none, Nat.reduceAdd, Nat.reduceBEq, Nat.reduceEqDiff, Nat.reduceLT, Nat.reduceLeDiff, Nat.reduceSub, Int.reduceAdd, Int.reduceSub, Int.reduceMul, Int.reduceNeg, Int.reduceToNat, Int.reduceLT, Int.reduceLE, Int.reduceEq, Bool.false_eq_true, Bool.or_false, Bool.false_or, Bool.true_or, Bool.or_true, if_true, if_false, ite_true, ite_false, true_and, and_true, false_and, and_false, true_or, or_true, false_or, or_false, Int.cast_ofNat_Int, Int.toNat_natCast, Int.natCast_add, List.getElem?_cons_zero, List.getElem?_cons_succ, true_implies, forall_const, not_true_eq_false, not_false_eq_true, ne_eq, beq_iff_eq, imp_self, List.length_set, Nat.zero_add, Nat.add_zero, Int.zero_add, Int.add_zero, w1_iconst, w1_istore_n_2, w1_aload_n_0, w1_arraylength, w1_istore_n_3, w1_iload_n_2, w1_iload_n_3, w1_if_icmp, w1_iload_n_1, w1_iastore, w1_iinc, w1_goto, w1_return, dJ7_fill_53178_0, dJ7_fill_53178_1, dJ7_fill_53178_2, dJ7_fill_53178_3, dJ7_fill_53178_4, dJ7_fill_53178_5, dJ7_fill_53178_6, dJ7_fill_53178_7, dJ7_fill_53178_10, dJ7_fill_53178_11, dJ7_fill_53178_12, dJ7_fill_53178_13, dJ7_fill_53178_14, dJ7_fill_53178_17, dJ7_fill_53178_20, hp, wfl_s])
      (repeat' (with_reducible (first | refine And.intro ?_ ?_ | intro _))) <;> (try (first | assumption | contradiction | exact Or.inl trivial | exact Or.inl rfl | exact Or.inr rfl | (simp only [inI, inL]; omega) | omega))
  have e := loop (w_ln a) 0 (by omega)
  rw [wfl_0] at e
  (apply hG [5] 2000; simp only [w_br_i, w_ite, w_all, w_all0, forall_eq, w_b0, w_b1, ↓reduceIte, w_ent, w_pos, List.replicate_succ, List.replicate_zero, wp_s, wk_s, w_lk_c, w_ld0, w_ldS, w_kp0, w_kp, w_s1, w_s2, w_to, w_if, w_call, w_sw, w_cat, w_cats, w_psh, w_fv, List.contains_cons, List.contains_nil, List.set_cons_zero, List.set_cons_succ, List.length_cons, List.length_nil, List.find?_cons, List.find?_nil, List.take_succ_cons, List.take_zero, List.drop_succ_cons, List.drop_zero, List.reverse_cons, List.reverse_nil, List.nil_append, List.cons_append, Option.map_some, Option.map_none, Nat.reduceAdd, Nat.reduceBEq, Nat.reduceEqDiff, Nat.reduceLT, Nat.reduceLeDiff, Nat.reduceSub, Int.reduceAdd, Int.reduceSub, Int.reduceMul, Int.reduceNeg, Int.reduceToNat, Int.reduceLT, Int.reduceLE, Int.reduceEq, Bool.false_eq_true, Bool.or_false, Bool.false_or, Bool.true_or, Bool.or_true, if_true, if_false, ite_true, ite_false, true_and, and_true, false_and, and_false, true_or, or_true, false_or, or_false, Int.cast_ofNat_Int, Int.toNat_natCast, Int.natCast_add, List.getElem?_cons_zero, List.getElem?_cons_succ, true_implies, forall_const, not_true_eq_false, not_false_eq_true, ne_eq, beq_iff_eq, imp_self, List.length_set, Nat.zero_add, Nat.add_zero, Int.zero_add, Int.add_zero, w1_iconst, w1_istore_n_2, w1_aload_n_0, w1_arraylength, w1_istore_n_3, w1_iload_n_2, w1_iload_n_3, w1_if_icmp, w1_iload_n_1, w1_iastore, w1_iinc, w1_goto, w1_return, dJ7_fill_53178_0, dJ7_fill_53178_1, dJ7_fill_53178_2, dJ7_fill_53178_3, dJ7_fill_53178_4, dJ7_fill_53178_5, dJ7_fill_53178_6, dJ7_fill_53178_7, dJ7_fill_53178_10, dJ7_fill_53178_11, dJ7_fill_53178_12, dJ7_fill_53178_13, dJ7_fill_53178_14, dJ7_fill_53178_17, dJ7_fill_53178_20, hp])
  (repeat' (with_reducible (first | refine And.intro ?_ ?_ | intro _))) <;> (try (first | assumption | contradiction | exact Or.inl trivial | exact Or.inl rfl | exact Or.inr rfl | (simp only [inI, inL]; omega) | omega))
def p_J7_fill_d0a16 : List wV → wW → Prop := fun av w => match av with
  | [.inr (.inr (some a)), .inr (.inl v)] => w_kd a = 1
  | _ => False
def q_J7_fill_d0a16 : List wV → wW → Int → wW → Prop := fun av w r w' => match av with
  | [.inr (.inr (some a)), .inr (.inl v)] => w' = wfl w a (w_ln a) v
  | _ => False
set_option maxRecDepth 100000 in
set_option maxHeartbeats 4000000 in
theorem c_J7_fill_d0a16 : w_Ct yJ7_fill_d0a16 cJ7_fill_d0a16 5 0 0 0 p_J7_fill_d0a16 q_J7_fill_d0a16 := by
  refine w_met (own := RJ7) (fl := []) (gs := []) (kl := []) (ki := []) (cs := []) (by decide +kernel) rfl ?_ (fun _ h => absurd h List.not_mem_nil) (fun _ h => absurd h List.not_mem_nil) (fun _ h => absurd h List.not_mem_nil) (fun _ h => absurd h List.not_mem_nil) ?_ ?_
  · intro av w h
    unfold p_J7_fill_d0a16 at h
    split at h
    · simp [w_pos, w_cat]
    · exact h.elim
  · exact fun _ h => absurd h List.not_mem_nil
  intro av w hp
  unfold p_J7_fill_d0a16 at hp
  split at hp
  case h_2 => exact hp.elim
  rename_i a v
  intro G hG
  simp only [w_ent, w_pos, w_cat, Nat.reduceEqDiff, ↓reduceIte, List.length_cons, List.length_nil, Nat.reduceAdd, Nat.reduceSub, List.cons_append, List.nil_append, List.replicate_succ, List.replicate_zero]
  have hl := w_ln_le a
  have loop : ∀ n i : Nat, i + n = w_ln a → G 6 [some (vr a), some (vl v), none, some (vi i), some (vi (w_ln a))] [] (wfl w a i v) := by
    intro n
    induction n with
    | zero =>
      intro i hi
      have e : i = w_ln a := by omega
      subst e
      (apply hG [6] 2000; simp only [w_br_i, w_ite, w_all, w_all0, forall_eq, w_b0, w_b1, ↓reduceIte, w_ent, w_pos, List.replicate_succ, List.replicate_zero, wp_s, wk_s, w_lk_c, w_ld0, w_ldS, w_kp0, w_kp, w_s1, w_s2, w_to, w_if, w_call, w_sw, w_cat, w_cats, w_psh, w_fv, List.contains_cons, List.contains_nil, List.set_cons_zero, List.set_cons_succ, List.length_cons, List.length_nil, List.find?_cons, List.find?_nil, List.take_succ_cons, List.take_zero, List.drop_succ_cons, List.drop_zero, List.reverse_cons, List.reverse_nil, List.nil_append, List.cons_append, Option.map_some, Option.map_none, Nat.reduceAdd, Nat.reduceBEq, Nat.reduceEqDiff, Nat.reduceLT, Nat.reduceLeDiff, Nat.reduceSub, Int.reduceAdd, Int.reduceSub, Int.reduceMul, Int.reduceNeg, Int.reduceToNat, Int.reduceLT, Int.reduceLE, Int.reduceEq, Bool.false_eq_true, Bool.or_false, Bool.false_or, Bool.true_or, Bool.or_true, if_true, if_false, ite_true, ite_false, true_and, and_true, false_and, and_false, true_or, or_true, false_or, or_false, Int.cast_ofNat_Int, Int.toNat_natCast, Int.natCast_add, List.getElem?_cons_zero, List.getElem?_cons_succ, true_implies, forall_const, not_true_eq_false, not_false_eq_true, ne_eq, beq_iff_eq, imp_self, List.length_set, Nat.zero_add, Nat.add_zero, Int.zero_add, Int.add_zero, w1_iconst, w1_istore_n_3, w1_aload_n_0, w1_arraylength, w1_istore, w1_iload_n_3, w1_iload, w1_if_icmp, w1_lload_n_1, w1_lastore, w1_iinc, w1_goto, w1_return, dJ7_fill_d0a16_0, dJ7_fill_d0a16_1, dJ7_fill_d0a16_2, dJ7_fill_d0a16_3, dJ7_fill_d0a16_4, dJ7_fill_d0a16_6, dJ7_fill_d0a16_7, dJ7_fill_d0a16_9, dJ7_fill_d0a16_12, dJ7_fill_d0a16_13, dJ7_fill_d0a16_14, dJ7_fill_d0a16_15, dJ7_fill_d0a16_16, dJ7_fill_d0a16_19, dJ7_fill_d0a16_22])
      (repeat' (with_reducible (first | refine And.intro ?_ ?_ | intro _))) <;> (try (first | assumption | contradiction | exact Or.inl trivial | exact Or.inl rfl | exact Or.inr rfl | (simp only [inI, inL]; omega) | omega))
      all_goals simp only [q_J7_fill_d0a16]
    | succ n ih =>
      intro i hi
      have e := ih (i + 1) (by omega)
      simp only [Int.natCast_add, Int.cast_ofNat_Int] at e
      (apply hG [6] 2000; simp only [w_br_i, w_ite, w_all, w_all0, forall_eq, w_b0, w_b1, ↓reduceIte, w_ent, w_pos, List.replicate_succ, List.replicate_zero, wp_s, wk_s, w_lk_c, w_ld0, w_ldS, w_kp0, w_kp, w_s1, w_s2, w_to, w_if, w_call, w_sw, w_cat, w_cats, w_psh, w_fv, List.contains_cons, List.contains_nil, List.set_cons_zero, List.set_cons_succ, List.length_cons, List.length_nil, List.find?_cons, List.find?_nil, List.take_succ_cons, List.take_zero, List.drop_succ_cons, List.drop_zero, List.reverse_cons, List.reverse_nil, List.nil_append, List.cons_append, Option.map_some, Option.map_none, Nat.reduceAdd, Nat.reduceBEq, Nat.reduceEqDiff, Nat.reduceLT, Nat.reduceLeDiff, Nat.reduceSub, Int.reduceAdd, Int.reduceSub, Int.reduceMul, Int.reduceNeg, Int.reduceToNat, Int.reduceLT, Int.reduceLE, Int.reduceEq, Bool.false_eq_true, Bool.or_false, Bool.false_or, Bool.true_or, Bool.or_true, if_true, if_false, ite_true, ite_false, true_and, and_true, false_and, and_false, true_or, or_true, false_or, or_false, Int.cast_ofNat_Int, Int.toNat_natCast, Int.natCast_add, List.getElem?_cons_zero, List.getElem?_cons_succ, true_implies, forall_const, not_true_eq_false, not_false_eq_true, ne_eq, beq_iff_eq, imp_self, List.length_set, Nat.zero_add, Nat.add_zero, Int.zero_add, Int.add_zero, w1_iconst, w1_istore_n_3, w1_aload_n_0, w1_arraylength, w1_istore, w1_iload_n_3, w1_iload, w1_if_icmp, w1_lload_n_1, w1_lastore, w1_iinc, w1_goto, w1_return, dJ7_fill_d0a16_0, dJ7_fill_d0a16_1, dJ7_fill_d0a16_2, dJ7_fill_d0a16_3, dJ7_fill_d0a16_4, dJ7_fill_d0a16_6, dJ7_fill_d0a16_7, dJ7_fill_d0a16_9, dJ7_fill_d0a16_12, dJ7_fill_d0a16_13, dJ7_fill_d0a16_14, dJ7_fill_d0a16_15, dJ7_fill_d0a16_16, dJ7_fill_d0a16_19, dJ7_fill_d0a16_22, hp, wfl_s])
      (repeat' (with_reducible (first | refine And.intro ?_ ?_ | intro _))) <;> (try (first | assumption | contradiction | exact Or.inl trivial | exact Or.inl rfl | exact Or.inr rfl | (simp only [inI, inL]; omega) | omega))
  have e := loop (w_ln a) 0 (by omega)
  rw [wfl_0] at e
  (apply hG [6] 2000; simp only [w_br_i, w_ite, w_all, w_all0, forall_eq, w_b0, w_b1, ↓reduceIte, w_ent, w_pos, List.replicate_succ, List.replicate_zero, wp_s, wk_s, w_lk_c, w_ld0, w_ldS, w_kp0, w_kp, w_s1, w_s2, w_to, w_if, w_call, w_sw, w_cat, w_cats, w_psh, w_fv, List.contains_cons, List.contains_nil, List.set_cons_zero, List.set_cons_succ, List.length_cons, List.length_nil, List.find?_cons, List.find?_nil, List.take_succ_cons, List.take_zero, List.drop_succ_cons, List.drop_zero, List.reverse_cons, List.reverse_nil, List.nil_append, List.cons_append, Option.map_some, Option.map_none, Nat.reduceAdd, Nat.reduceBEq, Nat.reduceEqDiff, Nat.reduceLT, Nat.reduceLeDiff, Nat.reduceSub, Int.reduceAdd, Int.reduceSub, Int.reduceMul, Int.reduceNeg, Int.reduceToNat, Int.reduceLT, Int.reduceLE, Int.reduceEq, Bool.false_eq_true, Bool.or_false, Bool.false_or, Bool.true_or, Bool.or_true, if_true, if_false, ite_true, ite_false, true_and, and_true, false_and, and_false, true_or, or_true, false_or, or_false, Int.cast_ofNat_Int, Int.toNat_natCast, Int.natCast_add, List.getElem?_cons_zero, List.getElem?_cons_succ, true_implies, forall_const, not_true_eq_false, not_false_eq_true, ne_eq, beq_iff_eq, imp_self, List.length_set, Nat.zero_add, Nat.add_zero, Int.zero_add, Int.add_zero, w1_iconst, w1_istore_n_3, w1_aload_n_0, w1_arraylength, w1_istore, w1_iload_n_3, w1_iload, w1_if_icmp, w1_lload_n_1, w1_lastore, w1_iinc, w1_goto, w1_return, dJ7_fill_d0a16_0, dJ7_fill_d0a16_1, dJ7_fill_d0a16_2, dJ7_fill_d0a16_3, dJ7_fill_d0a16_4, dJ7_fill_d0a16_6, dJ7_fill_d0a16_7, dJ7_fill_d0a16_9, dJ7_fill_d0a16_12, dJ7_fill_d0a16_13, dJ7_fill_d0a16_14, dJ7_fill_d0a16_15, dJ7_fill_d0a16_16, dJ7_fill_d0a16_19, dJ7_fill_d0a16_22, hp])
  (repeat' (with_reducible (first | refine And.intro ?_ ?_ | intro _))) <;> (try (first | assumption | contradiction | exact Or.inl trivial | exact Or.inl rfl | exact Or.inr rfl | (simp only [inI, inL]; omega) | omega))
/-! ranges of a month's draw -/
def okr (S : wW) (size : Int) (r : Nat → Int) (m lv : Int) : Prop := (0 ≤ zP S size r m lv ∧ lv + zP S size r m lv ≤ size) ∧ 0 ≤ eMost (r 0) (r 2) (r 4) (r 5)
theorem z0_in {S : wW} {size : Int} {r : Nat → Int} {m lv : Int} (hl : 0 ≤ lv) (h : okr S size r m lv) : 0 ≤ z0 S size r m lv ∧ z0 S size r m lv ≤ z3 S size r m lv := by
  have := eMin_in h.2 (show 0 ≤ z3 S size r m lv by unfold z3; have := h.1; omega)
  exact ⟨this.1, this.2.2⟩
theorem zG_in {S : wW} (hS : hR S) {size : Int} {r : Nat → Int} {m lv : Int} (hl : 0 ≤ lv) (h : okr S size r m lv) : 0 ≤ zG S size r m lv ∧ zG S size r m lv ≤ z3 S size r m lv := by
  have h0 := z0_in hl h
  have hL := dL_in hS m (zH S size r m lv) (zB r) h0.1 (S 4 0).toNat (Nat.le_refl _)
  unfold zG zL
  omega
theorem zE_in {S : wW} (hS : hR S) {size : Int} {r : Nat → Int} {m lv : Int} (hl : 0 ≤ lv) (h : okr S size r m lv) : 0 ≤ zE S size r m lv ∧ zE S size r m lv ≤ size := by
  have hg := zG_in hS hl h
  have h1 := h.1
  unfold zE
  have : z3 S size r m lv ≤ size := by unfold z3; omega
  omega
theorem dK_in {S : wW} (hS : hR S) (m hf bw : Int) {l0 : Int} (hl : 0 ≤ l0) : ∀ i, i ≤ (S 4 0).toNat → 0 ≤ dK S m hf (dO S bw) l0 i ∧ dK S m hf (dO S bw) l0 i ≤ 24 * i
  | 0, _ => by simp [dK]
  | i + 1, hi => by
    have ih := dK_in hS m hf bw hl i (by omega)
    have ho := dO_lt hS bw (i := i) (by omega)
    have hw := dW_in hS ho m
    have hL := dL_in hS m hf bw hl i (by omega)
    have hg := dg_in hS ho m hf hL.1
    simp only [dK]
    omega
theorem zK_in {S : wW} (hS : hR S) {size : Int} {r : Nat → Int} {m lv : Int} (hl : 0 ≤ lv) (h : okr S size r m lv) : 0 ≤ zK S size r m lv ∧ zK S size r m lv ≤ 72 := by
  have := dK_in hS m (zH S size r m lv) (zB r) (z0_in hl h).1 (S 4 0).toNat (Nat.le_refl _)
  have := hS.1
  unfold zK
  omega
theorem okr_rX {S w : wW} {a m : Nat} {size lv wet : Int} (hS : hR S) (hr : rR w a) (hp : plA w a size) (hm : m < 12) (hl : 0 ≤ lv ∧ lv ≤ size) (hw : wet = 0 ∨ wet = 1) : okr S size (rX w a m lv wet) m lv := by
  have h05 := hS.2.2.2.2.2.2.1
  have hc := hr.2.2.2 m hm
  unfold okr zP ePump eMost
  have e0 : rX w a m lv wet 0 = w a 1 := rfl
  have e1 : rX w a m lv wet 1 = w a 2 := rfl
  have e2 : rX w a m lv wet 2 = w (a + 10) m := rfl
  have e3 : rX w a m lv wet 3 = w (58 + m) (stF lv wet) := rfl
  have e4 : rX w a m lv wet 4 = w (71 + m) (stF lv wet) := rfl
  have e5 : rX w a m lv wet 5 = 72 := rfl
  rw [e0, e1, e2, e3, e4, e5]
  by_cases k3 : w a 1 = 3
  · have h := hp k3 m lv wet hm hl.1 hl.2 hw
    rw [if_pos k3, if_pos k3]
    exact ⟨h.1, h.2.1⟩
  · rw [if_neg k3, if_neg k3]
    refine ⟨?_, by split <;> omega⟩
    split
    · have : 0 ≤ (if (m : Int) = 7 then 0 else S 0 5) := by split <;> omega
      split <;> omega
    · omega
/-! a run: E = (S, area, size, leak of each month, rule, rain of each month) -/
abbrev rE : Type := wW × Int × Int × (Nat → Int) × (Nat → Int → Int → Nat → Int) × (Nat → Int)
def rnQ (E : rE) : Nat → Int × Int
  | 0 => (E.2.2.1, 1)
  | k + 1 => (zE E.1 E.2.2.1 (E.2.2.2.2.1 (k % 12) (lvB E.1 E.2.1 E.2.2.1 (E.2.2.2.1 k) (E.2.2.2.2.2 k) (rnQ E k).1 (rnQ E k).2) (wetF (E.2.2.2.2.2 k))) (k % 12 : Nat) (lvB E.1 E.2.1 E.2.2.1 (E.2.2.2.1 k) (E.2.2.2.2.2 k) (rnQ E k).1 (rnQ E k).2), wetF (E.2.2.2.2.2 k))
/-- the level behind the leak, and the rule's numbers, in month k -/
def rnB (E : rE) (k : Nat) : Int := lvB E.1 E.2.1 E.2.2.1 (E.2.2.2.1 k) (E.2.2.2.2.2 k) (rnQ E k).1 (rnQ E k).2
def rnR (E : rE) (k : Nat) : Nat → Int := E.2.2.2.2.1 (k % 12) (rnB E k) (wetF (E.2.2.2.2.2 k))
theorem rnQ_s (E : rE) (k : Nat) : rnQ E (k + 1) = (zE E.1 E.2.2.1 (rnR E k) (k % 12 : Nat) (rnB E k), wetF (E.2.2.2.2.2 k)) := rfl
def rnC (E : rE) (k : Nat) : Int := lvC E.1 E.2.1 (E.2.2.2.2.2 k) (rnQ E k).2
def rnO (E : rE) (k : Nat) : Int := lvO E.2.2.1 ((rnQ E k).1 + rnC E k)
def rnL (E : rE) (k : Nat) : Int := lvK (E.2.2.2.1 k) ((rnQ E k).1 + rnC E k - rnO E k)
def rnP (E : rE) (k : Nat) : Int := zP E.1 E.2.2.1 (rnR E k) (k % 12 : Nat) (rnB E k)
def rnG (E : rE) (k : Nat) : Int := zG E.1 E.2.2.1 (rnR E k) (k % 12 : Nat) (rnB E k)
def rnK (E : rE) (k : Nat) : Int := zK E.1 E.2.2.1 (rnR E k) (k % 12 : Nat) (rnB E k)
def rnM (E : rE) (k : Nat) : Int := zC E.1 E.2.2.1 (rnR E k) (k % 12 : Nat) (rnB E k)
def rnS (E : rE) (u k : Nat) : Int := zS E.1 E.2.2.1 (rnR E k) (k % 12 : Nat) (rnB E k) (fun _ => 0) u
def rnD (E : rE) (k : Nat) : Int := if 0 < rnK E k then 1 else 0
def sm (v : Nat → Int) : Nat → Int
  | 0 => 0
  | k + 1 => sm v k + v k
/-- the first dry month -/
def rnF (E : rE) : Nat → Int
  | 0 => -1
  | k + 1 => if 0 < rnK E k ∧ rnF E k = -1 then k else rnF E k
def sV (E : rE) (j : Nat) : Nat → Int := if j = 0 then rnD E else if j = 1 then rnK E else if j = 2 then rnM E else if j = 3 then rnO E else if j = 4 then rnP E else rnL E
/-- what a run's numbers must be -/
def okE (E : rE) (K : Nat) : Prop := hR E.1 ∧ (0 ≤ E.2.1 ∧ E.2.1 ≤ 25) ∧ (0 ≤ E.2.2.1 ∧ E.2.2.1 ≤ 200) ∧ (∀ k, k < K → 0 ≤ E.2.2.2.1 k ∧ E.2.2.2.1 k ≤ 9) ∧ (∀ k, k < K → 0 ≤ E.2.2.2.2.2 k ∧ E.2.2.2.2.2 k ≤ 9) ∧ (∀ (m : Nat) (lv wet : Int), m < 12 → 0 ≤ lv → lv ≤ E.2.2.1 → (wet = 0 ∨ wet = 1) → okr E.1 E.2.2.1 (E.2.2.2.2.1 m lv wet) m lv)
theorem wetF_01 (x : Int) : wetF x = 0 ∨ wetF x = 1 := by unfold wetF; split <;> omega
theorem rnQ_in {E : rE} {K : Nat} (h : okE E K) : ∀ k, k ≤ K → (0 ≤ (rnQ E k).1 ∧ (rnQ E k).1 ≤ E.2.2.1) ∧ ((rnQ E k).2 = 0 ∨ (rnQ E k).2 = 1)
  | 0, _ => ⟨⟨h.2.2.1.1, Int.le_refl _⟩, Or.inr rfl⟩
  | k + 1, hk => by
    have ih := rnQ_in h k (by omega)
    obtain ⟨h1, h2, h3, h4, h5, h6⟩ := h
    have hB := lvB_in (wet := (rnQ E k).2) h1 h2 (h5 k (by omega)) ih.1 (h4 k (by omega)).1
    have ho := h6 (k % 12) (rnB E k) (wetF (E.2.2.2.2.2 k)) (by omega) hB.1 hB.2 (wetF_01 _)
    rw [rnQ_s]
    exact ⟨zE_in h1 hB.1 ho, wetF_01 _⟩
theorem rnB_in {E : rE} {K : Nat} (h : okE E K) {k : Nat} (hk : k < K) : (0 ≤ rnB E k ∧ rnB E k ≤ E.2.2.1) ∧ okr E.1 E.2.2.1 (rnR E k) (k % 12 : Nat) (rnB E k) := by
  have hq := rnQ_in h k (by omega)
  obtain ⟨h1, h2, h3, h4, h5, h6⟩ := h
  have hB := lvB_in (wet := (rnQ E k).2) h1 h2 (h5 k hk) hq.1 (h4 k hk).1
  exact ⟨hB, h6 (k % 12) (rnB E k) (wetF (E.2.2.2.2.2 k)) (by omega) hB.1 hB.2 (wetF_01 _)⟩
theorem rnK_in {E : rE} {K : Nat} (h : okE E K) {k : Nat} (hk : k < K) : 0 ≤ rnK E k ∧ rnK E k ≤ 72 := by
  have hB := rnB_in h hk
  exact zK_in h.1 hB.1.1 hB.2
theorem rnF_in (E : rE) : ∀ K : Nat, -1 ≤ rnF E K ∧ rnF E K < K
  | 0 => by simp [rnF]
  | k + 1 => by
    have := rnF_in E k
    simp only [rnF]
    split <;> omega
theorem rnD_in {E : rE} : ∀ K : Nat, 0 ≤ sm (rnD E) K ∧ sm (rnD E) K ≤ K
  | 0 => by simp [sm]
  | k + 1 => by
    have h1 := rnD_in (E := E) k
    have h2 : 0 ≤ rnD E k ∧ rnD E k ≤ 1 := by unfold rnD; split <;> omega
    simp only [sm]
    omega
/-! each use's short is told, whatever stood there -/
theorem dO_onto {S : wW} (hS : hR S) (bw : Int) {u : Nat} (hu : u < (S 4 0).toNat) : ∃ j, j < (S 4 0).toNat ∧ dO S bw j = u := by
  unfold dO
  by_cases hb : bw = 0
  · exact ⟨u, hu, by rw [if_pos hb]⟩
  · simp only [if_neg hb]
    have h1 := hS.1
    have hn3 : 1 ≤ (S 4 0).toNat ∧ (S 4 0).toNat ≤ 3 := by omega
    generalize (S 4 0).toNat = n at *
    have e : n = 1 ∨ n = 2 ∨ n = 3 := by omega
    rcases e with rfl | rfl | rfl
    · exact ⟨0, by decide, by have : u = 0 := by omega
                              subst this; simp [o_ord]⟩
    · have : u = 0 ∨ u = 1 := by omega
      by_cases q : S 3 0 < S 3 1
      · rcases this with rfl | rfl
        · exact ⟨1, by decide, by simp [o_ord, q]⟩
        · exact ⟨0, by decide, by simp [o_ord, q]⟩
      · rcases this with rfl | rfl
        · exact ⟨0, by decide, by simp [o_ord, q]⟩
        · exact ⟨1, by decide, by simp [o_ord, q]⟩
    · have : u = 0 ∨ u = 1 ∨ u = 2 := by omega
      by_cases q1 : S 3 0 < S 3 1 <;> by_cases q2 : S 3 0 < S 3 2 <;> by_cases q3 : S 3 1 < S 3 2 <;> rcases this with rfl | rfl | rfl <;>
        first
          | (refine ⟨0, by decide, ?_⟩; simp [o_ord, q1, q2, q3]; done)
          | (refine ⟨1, by decide, ?_⟩; simp [o_ord, q1, q2, q3]; done)
          | (refine ⟨2, by decide, ?_⟩; simp [o_ord, q1, q2, q3]; done)
theorem dS_any (S : wW) (m hf : Int) (os : Nat → Nat) (l0 : Int) (f g : Nat → Int) (u : Nat) : ∀ n, (∃ j, j < n ∧ os j = u) → dS S m hf os l0 f n u = dS S m hf os l0 g n u
  | 0, ⟨j, hj, _⟩ => by omega
  | n + 1, ⟨j, hj, e⟩ => by
    simp only [dS, fup]
    by_cases q : u = os n
    · rw [if_pos q, if_pos q]
    · rw [if_neg q, if_neg q]
      have hjn : j ≠ n := fun z => q (by rw [← e, z])
      exact dS_any S m hf os l0 f g u n ⟨j, by omega, e⟩
theorem zS_any {S : wW} (hS : hR S) {size : Int} {r : Nat → Int} {m lv : Int} (f g : Nat → Int) {u : Nat} (hu : u < (S 4 0).toNat) : zS S size r m lv f u = zS S size r m lv g u :=
  dS_any _ _ _ _ _ _ _ _ _ (dO_onto hS (zB r) hu)
/-- without a short in all there is none at all -/
theorem dS_nil {S : wW} (hS : hR S) (m hf bw : Int) {l0 : Int} (hl : 0 ≤ l0) (u : Nat) : ∀ n, n ≤ (S 4 0).toNat → dK S m hf (dO S bw) l0 n ≤ 0 → dS S m hf (dO S bw) l0 (fun _ => 0) n u = 0
  | 0, _, _ => rfl
  | n + 1, hn, hk => by
    have ho := dO_lt hS bw (i := n) (by omega)
    have hL := dL_in hS m hf bw hl n (by omega)
    have hg := dg_in hS ho m hf hL.1
    have hK := dK_in hS m hf bw hl n (by omega)
    simp only [dK] at hk
    simp only [dS, fup]
    split
    · omega
    · exact dS_nil hS m hf bw hl u n (by omega) (by omega)
theorem rnS_nil {E : rE} {K : Nat} (h : okE E K) {k : Nat} (hk : k < K) (u : Nat) (h0 : ¬ 0 < rnK E k) : rnS E u k = 0 := by
  have hB := rnB_in h hk
  exact dS_nil h.1 _ _ _ (z0_in hB.1.1 hB.2).1 u _ (Nat.le_refl _) (by unfold rnK zK at h0; omega)
