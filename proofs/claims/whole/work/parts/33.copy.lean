def w_cy (w : wW) (a b : Nat) : Nat → wW
  | 0 => w_up w a 1 (w b 1)
  | n + 1 => w_cpy (w_cy w a b n) (b + 2 + n) 0 (a + 2 + n) 0 12
theorem w_cy_lo (w : wW) (a b : Nat) (hab : (a = 11 ∧ b = 24) ∨ (a = 24 ∧ b = 11)) (n : Nat) (hn : n ≤ 8) : ∀ k i, w_cy w a b n k i = if k = a ∧ i = 1 then w b 1 else if (a + 2 ≤ k ∧ k < a + 2 + n) ∧ i < 12 then w (b + (k - a)) i else w k i := by
  induction n with
  | zero =>
    intro k i
    simp only [w_cy, w_up]
    split
    · rfl
    · rw [if_neg (by omega)]
  | succ n ih =>
    intro k i
    simp only [w_cy, w_cpy]
    by_cases h : k = a + 2 + n ∧ 0 ≤ i ∧ i < 0 + 12
    · rw [if_pos h, ih (by omega), if_neg (by omega), if_neg (by omega), if_neg (by omega), if_pos (by omega)]
      congr 1 <;> omega
    · rw [if_neg h, ih (by omega)]
      split
      · rfl
      · split
        · rw [if_pos (by omega)]
        · rw [if_neg (by omega)]
def p_X8_copyFrom : List wV → wW → Prop := fun av w => match av with
  | [.inr (.inr (some this)), .inr (.inr (some ot))] => ((this = 11 ∧ ot = 24) ∨ (this = 24 ∧ ot = 11)) ∧ (0 ≤ w ot 1 ∧ w ot 1 ≤ 8)
  | _ => False
theorem h_X8_copyFrom : ∀ av w, p_X8_copyFrom av w → ∃ a r, av = vr a :: r ∧ w_kd a = 100 + 8 := by
  intro av w h
  unfold p_X8_copyFrom at h
  split at h
  · refine ⟨_, _, rfl, ?_⟩
    rcases h.1 with ⟨q, -⟩ | ⟨q, -⟩ <;> rw [q] <;> rfl
  · exact h.elim
def q_X8_copyFrom : List wV → wW → Int → wW → Prop := fun av w r w' => match av with
  | [.inr (.inr (some this)), .inr (.inr (some ot))] => w' = w_cy w this ot (w ot 1).toNat
  | _ => False
set_option maxRecDepth 100000 in
set_option maxHeartbeats 4000000 in
theorem c_X8_copyFrom : w_Ct yX8_copyFrom cX8_copyFrom 3 0 1 49 p_X8_copyFrom q_X8_copyFrom := by
  refine w_met (own := RX8) (fl := w_fl8) (gs := w_gs8) (kl := w_kl8) (ki := w_ki8) (cs := [(20, (1, 2, 1, w_preMM, w_postMin)), (26, (1, 5, 0, w_preCp, w_postCp))]) (by decide +kernel) rfl ?_ w_flok8 w_gsok8 w_klok8 w_kiok8 ?_ ?_
  · intro av w h
    unfold p_X8_copyFrom at h
    split at h
    · simp [w_pos, w_cat]
    · exact h.elim
  · exact List.forall_mem_cons.mpr ⟨⟨_, _, w_callMin (own := RX8) (idx := 20) (w_m4 65 (by decide +kernel) (by decide +kernel)) (w_m3 15 (by decide +kernel) (by decide +kernel)) (w_m1 14 (by decide +kernel) (by decide +kernel)) (w_m3 16 (by decide +kernel) (by decide +kernel)), by decide, by decide⟩, List.forall_mem_cons.mpr ⟨⟨_, _, w_callCp (own := RX8) (idx := 26) (w_m4 66 (by decide +kernel) (by decide +kernel)) (w_m3 12 (by decide +kernel) (by decide +kernel)) (w_m1 13 (by decide +kernel) (by decide +kernel)) (w_m3 13 (by decide +kernel) (by decide +kernel)), by decide, by decide⟩, fun _ h => absurd h List.not_mem_nil⟩⟩
  intro av w hp
  unfold p_X8_copyFrom at hp
  split at hp
  case h_2 => exact hp.elim
  rename_i this ot
  intro G hG
  simp only [w_ent, w_pos, w_cat, Nat.reduceEqDiff, ↓reduceIte, List.length_cons, List.length_nil, Nat.reduceAdd, Nat.reduceSub, List.cons_append, List.nil_append, List.replicate_succ, List.replicate_zero]
  obtain ⟨hab, hp⟩ := hp
  obtain ⟨nc, hnc⟩ : ∃ nc : Nat, w ot 1 = nc := ⟨(w ot 1).toNat, by omega⟩
  have hk : w_kd this = 108 ∧ w_kd ot = 108 := by rcases hab with ⟨rfl, rfl⟩ | ⟨rfl, rfl⟩ <;> exact ⟨rfl, rfl⟩
  have hr : w_rf this 0 = this + 1 ∧ w_rf ot 0 = ot + 1 := by rcases hab with ⟨rfl, rfl⟩ | ⟨rfl, rfl⟩ <;> exact ⟨rfl, rfl⟩
  have ho : (w_kd (this + 1) = 2 ∧ w_ln (this + 1) = 8) ∧ w_kd (ot + 1) = 2 ∧ w_ln (ot + 1) = 8 := by rcases hab with ⟨rfl, rfl⟩ | ⟨rfl, rfl⟩ <;> exact ⟨⟨rfl, rfl⟩, rfl, rfl⟩
  have loop : ∀ n i : Nat, i + n = nc → G 15 [some (vr this), some (vr ot), some (vi i)] [] (w_cy w this ot i) := by
    intro n
    induction n with
    | zero =>
      intro i h2
      have hc : w_cy w this ot i this 1 = nc := by rw [w_cy_lo w this ot hab i (by omega)]; simp [hnc]
      (apply hG [15] 2000; simp only [w_br_i, w_ite, w_all, w_all0, forall_eq, w_b0, w_b1, ↓reduceIte, w_ent, w_pos, List.replicate_succ, List.replicate_zero, wp_s, wk_s, w_lk_c, w_ld0, w_ldS, w_kp0, w_kp, w_s1, w_s2, w_to, w_if, w_call, w_sw, w_cat, w_cats, w_psh, w_fv, List.contains_cons, List.contains_nil, List.set_cons_zero, List.set_cons_succ, List.length_cons, List.length_nil, List.find?_cons, List.find?_nil, List.take_succ_cons, List.take_zero, List.drop_succ_cons, List.drop_zero, List.reverse_cons, List.reverse_nil, List.nil_append, List.cons_append, Option.map_some, Option.map_none, Nat.reduceAdd, Nat.reduceBEq, Nat.reduceEqDiff, Nat.reduceLT, Nat.reduceLeDiff, Nat.reduceSub, Int.reduceAdd, Int.reduceSub, Int.reduceMul, Int.reduceNeg, Int.reduceToNat, Int.reduceLT, Int.reduceLE, Int.reduceEq, Bool.false_eq_true, Bool.or_false, Bool.false_or, Bool.true_or, Bool.or_true, if_true, if_false, ite_true, ite_false, true_and, and_true, false_and, and_false, true_or, or_true, false_or, or_false, Int.cast_ofNat_Int, Int.toNat_natCast, Int.natCast_add, List.getElem?_cons_zero, List.getElem?_cons_succ, true_implies, forall_const, not_true_eq_false, not_false_eq_true, ne_eq, beq_iff_eq, imp_self, List.length_set, Nat.zero_add, Nat.add_zero, Int.zero_add, Int.add_zero, w1_aload_n_0, w1_aload_n_1, w1_getfield, w1_bipush, w1_invokestatic, w1_putfield, w1_putfield2, w1_iconst, w1_istore_n_2, w1_iload_n_2, w1_if_icmp, w1_aaload, w1_iinc, w1_goto, w1_return, dX8_copyFrom_0, dX8_copyFrom_1, dX8_copyFrom_2, dX8_copyFrom_5, dX8_copyFrom_7, dX8_copyFrom_10, dX8_copyFrom_13, dX8_copyFrom_14, dX8_copyFrom_15, dX8_copyFrom_16, dX8_copyFrom_17, dX8_copyFrom_20, dX8_copyFrom_23, dX8_copyFrom_24, dX8_copyFrom_27, dX8_copyFrom_28, dX8_copyFrom_29, dX8_copyFrom_30, dX8_copyFrom_31, dX8_copyFrom_34, dX8_copyFrom_35, dX8_copyFrom_36, dX8_copyFrom_37, dX8_copyFrom_39, dX8_copyFrom_42, dX8_copyFrom_45, dX8_copyFrom_48, w_flk8_11, w_flk8_16, hk.1, hr.1, hc])
      (repeat' (with_reducible (first | refine And.intro ?_ ?_ | intro _))) <;> (try (first | assumption | contradiction | exact Or.inl trivial | exact Or.inl rfl | exact Or.inr rfl | (simp only [inI, inL]; omega) | omega))
      have e : i = nc := by omega
      subst e
      simp only [q_X8_copyFrom, hnc, Int.toNat_natCast]
    | succ n ih =>
      intro i h2
      have hc : w_cy w this ot i this 1 = nc := by rw [w_cy_lo w this ot hab i (by omega)]; simp [hnc]
      have ky : (w_kd (this + 1 + 1 + i) = 0 ∧ w_ln (this + 1 + 1 + i) = 12) ∧ w_kd (ot + 1 + 1 + i) = 0 ∧ w_ln (ot + 1 + 1 + i) = 12 := by
        have k := w_kdy (y := i) (by omega)
        rcases hab with ⟨rfl, rfl⟩ | ⟨rfl, rfl⟩
        · exact k
        · exact ⟨k.2, k.1⟩
      have e := ih (i + 1) (by omega)
      simp only [w_cy, Int.natCast_add, Int.cast_ofNat_Int] at e
      (apply hG [15] 2000; simp only [w_br_i, w_ite, w_all, w_all0, forall_eq, w_b0, w_b1, ↓reduceIte, w_ent, w_pos, List.replicate_succ, List.replicate_zero, wp_s, wk_s, w_lk_c, w_ld0, w_ldS, w_kp0, w_kp, w_s1, w_s2, w_to, w_if, w_call, w_sw, w_cat, w_cats, w_psh, w_fv, List.contains_cons, List.contains_nil, List.set_cons_zero, List.set_cons_succ, List.length_cons, List.length_nil, List.find?_cons, List.find?_nil, List.take_succ_cons, List.take_zero, List.drop_succ_cons, List.drop_zero, List.reverse_cons, List.reverse_nil, List.nil_append, List.cons_append, Option.map_some, Option.map_none, Nat.reduceAdd, Nat.reduceBEq, Nat.reduceEqDiff, Nat.reduceLT, Nat.reduceLeDiff, Nat.reduceSub, Int.reduceAdd, Int.reduceSub, Int.reduceMul, Int.reduceNeg, Int.reduceToNat, Int.reduceLT, Int.reduceLE, Int.reduceEq, Bool.false_eq_true, Bool.or_false, Bool.false_or, Bool.true_or, Bool.or_true, if_true, if_false, ite_true, ite_false, true_and, and_true, false_and, and_false, true_or, or_true, false_or, or_false, Int.cast_ofNat_Int, Int.toNat_natCast, Int.natCast_add, List.getElem?_cons_zero, List.getElem?_cons_succ, true_implies, forall_const, not_true_eq_false, not_false_eq_true, ne_eq, beq_iff_eq, imp_self, List.length_set, Nat.zero_add, Nat.add_zero, Int.zero_add, Int.add_zero, w1_aload_n_0, w1_aload_n_1, w1_getfield, w1_bipush, w1_invokestatic, w1_putfield, w1_putfield2, w1_iconst, w1_istore_n_2, w1_iload_n_2, w1_if_icmp, w1_aaload, w1_iinc, w1_goto, w1_return, dX8_copyFrom_0, dX8_copyFrom_1, dX8_copyFrom_2, dX8_copyFrom_5, dX8_copyFrom_7, dX8_copyFrom_10, dX8_copyFrom_13, dX8_copyFrom_14, dX8_copyFrom_15, dX8_copyFrom_16, dX8_copyFrom_17, dX8_copyFrom_20, dX8_copyFrom_23, dX8_copyFrom_24, dX8_copyFrom_27, dX8_copyFrom_28, dX8_copyFrom_29, dX8_copyFrom_30, dX8_copyFrom_31, dX8_copyFrom_34, dX8_copyFrom_35, dX8_copyFrom_36, dX8_copyFrom_37, dX8_copyFrom_39, dX8_copyFrom_42, dX8_copyFrom_45, dX8_copyFrom_48, w_flk8_11, w_flk8_16, hk.1, hk.2, hr.1, hr.2, ho.1.1, ho.1.2, ho.2.1, ho.2.2, ky.1.1, ky.1.2, ky.2.1, ky.2.2, hc, w_preCp, w_postCp, Int.toNat_zero])
      rw [show ot + 2 + i = ot + 1 + 1 + i by omega, show this + 2 + i = this + 1 + 1 + i by omega] at e
      (repeat' (with_reducible (first | refine And.intro ?_ ?_ | intro _))) <;> (try (first | assumption | contradiction | exact Or.inl trivial | exact Or.inl rfl | exact Or.inr rfl | (simp only [inI, inL]; omega) | omega))
  have u1 : w_up w this 1 nc this 1 = nc := up_eq _ _ _ _
  have e := loop nc 0 (by omega)
  simp only [w_cy, hnc] at e
  (apply hG [15] 2000; simp only [w_br_i, w_ite, w_all, w_all0, forall_eq, w_b0, w_b1, ↓reduceIte, w_ent, w_pos, List.replicate_succ, List.replicate_zero, wp_s, wk_s, w_lk_c, w_ld0, w_ldS, w_kp0, w_kp, w_s1, w_s2, w_to, w_if, w_call, w_sw, w_cat, w_cats, w_psh, w_fv, List.contains_cons, List.contains_nil, List.set_cons_zero, List.set_cons_succ, List.length_cons, List.length_nil, List.find?_cons, List.find?_nil, List.take_succ_cons, List.take_zero, List.drop_succ_cons, List.drop_zero, List.reverse_cons, List.reverse_nil, List.nil_append, List.cons_append, Option.map_some, Option.map_none, Nat.reduceAdd, Nat.reduceBEq, Nat.reduceEqDiff, Nat.reduceLT, Nat.reduceLeDiff, Nat.reduceSub, Int.reduceAdd, Int.reduceSub, Int.reduceMul, Int.reduceNeg, Int.reduceToNat, Int.reduceLT, Int.reduceLE, Int.reduceEq, Bool.false_eq_true, Bool.or_false, Bool.false_or, Bool.true_or, Bool.or_true, if_true, if_false, ite_true, ite_false, true_and, and_true, false_and, and_false, true_or, or_true, false_or, or_false, Int.cast_ofNat_Int, Int.toNat_natCast, Int.natCast_add, List.getElem?_cons_zero, List.getElem?_cons_succ, true_implies, forall_const, not_true_eq_false, not_false_eq_true, ne_eq, beq_iff_eq, imp_self, List.length_set, Nat.zero_add, Nat.add_zero, Int.zero_add, Int.add_zero, w1_aload_n_0, w1_aload_n_1, w1_getfield, w1_bipush, w1_invokestatic, w1_putfield, w1_putfield2, w1_iconst, w1_istore_n_2, w1_iload_n_2, w1_if_icmp, w1_aaload, w1_iinc, w1_goto, w1_return, dX8_copyFrom_0, dX8_copyFrom_1, dX8_copyFrom_2, dX8_copyFrom_5, dX8_copyFrom_7, dX8_copyFrom_10, dX8_copyFrom_13, dX8_copyFrom_14, dX8_copyFrom_15, dX8_copyFrom_16, dX8_copyFrom_17, dX8_copyFrom_20, dX8_copyFrom_23, dX8_copyFrom_24, dX8_copyFrom_27, dX8_copyFrom_28, dX8_copyFrom_29, dX8_copyFrom_30, dX8_copyFrom_31, dX8_copyFrom_34, dX8_copyFrom_35, dX8_copyFrom_36, dX8_copyFrom_37, dX8_copyFrom_39, dX8_copyFrom_42, dX8_copyFrom_45, dX8_copyFrom_48, w_flk8_11, w_flk8_16, hk.1, hk.2, hnc, w_preMM, w_postMin])
  rw [if_neg (by omega)]
  (repeat' (with_reducible (first | refine And.intro ?_ ?_ | intro _))) <;> (try (first | assumption | contradiction | exact Or.inl trivial | exact Or.inl rfl | exact Or.inr rfl | (simp only [inI, inL]; omega) | omega))
/-! an image, and back -/
def p_X9_image : List wV → wW → Prop := fun av w => match av with
  | [.inr (.inr (some this))] => this = 0 ∧ inI (w 0 12) ∧ (0 ≤ w 11 1 ∧ w 11 1 ≤ 8)
  | _ => False
theorem h_X9_image : ∀ av w, p_X9_image av w → ∃ a r, av = vr a :: r ∧ w_kd a = 100 + 9 := by
  intro av w h
  unfold p_X9_image at h
  split at h
  · refine ⟨_, _, rfl, ?_⟩
    first | (rw [h.1]; rfl) | (rw [h]; rfl)
  · exact h.elim
def q_X9_image : List wV → wW → Int → wW → Prop := fun av w r w' => match av with
  | [.inr (.inr (some this))] => (r = if w 0 12 = 0 then -103 else w 11 1) ∧ w' = if w 0 12 = 0 then w else w_up (w_cpy (w_cy (w_cpy w 5 0 22 0 7) 24 11 (w 11 1).toNat) 34 0 23 0 12) 21 3 (w 0 12)
  | _ => False
set_option maxRecDepth 100000 in
set_option maxHeartbeats 4000000 in
theorem c_X9_image : w_Ct yX9_image cX9_image 1 1 2 71 p_X9_image q_X9_image := by
  refine w_met (own := RX9) (fl := w_fl9) (gs := w_gs9) (kl := w_kl9) (ki := w_ki9) (cs := [(134, (1, 5, 0, w_preCp, w_postCp)), (297, (0, 2, 0, p_X8_copyFrom, q_X8_copyFrom))]) (by decide +kernel) rfl ?_ w_flok9 w_gsok9 w_klok9 w_kiok9 ?_ ?_
  · intro av w h
    unfold p_X9_image at h
    split at h
    · simp [w_pos, w_cat]
    · exact h.elim
  · exact List.forall_mem_cons.mpr ⟨⟨_, _, w_callCp (own := RX9) (idx := 134) (w_m3 33 (by decide +kernel) (by decide +kernel)) (w_m3 12 (by decide +kernel) (by decide +kernel)) (w_m1 13 (by decide +kernel) (by decide +kernel)) (w_m3 13 (by decide +kernel) (by decide +kernel)), by decide, by decide⟩, List.forall_mem_cons.mpr ⟨⟨_, _, w_callV (own := RX9) (idx := 297) (ci := 8) c_X8_copyFrom rfl rfl h_X8_copyFrom (w_m4 61 (by decide +kernel) (by decide +kernel)) (w_m4 62 (by decide +kernel) (by decide +kernel)) (w_m4 63 (by decide +kernel) (by decide +kernel)) (w_m1 4 (by decide +kernel) (by decide +kernel)) (w_m4 64 (by decide +kernel) (by decide +kernel)) ⟨by decide +kernel, by decide +kernel, by decide +kernel⟩, by decide, by decide⟩, fun _ h => absurd h List.not_mem_nil⟩⟩
  intro av w hp
  unfold p_X9_image at hp
  split at hp
  case h_2 => exact hp.elim
  rename_i this
  intro G hG
  simp only [w_ent, w_pos, w_cat, Nat.reduceEqDiff, ↓reduceIte, List.length_cons, List.length_nil, Nat.reduceAdd, Nat.reduceSub, List.cons_append, List.nil_append, List.replicate_succ, List.replicate_zero]
  obtain ⟨rfl, hp⟩ := hp
  have u1 : w_cpy w 5 0 22 0 7 11 1 = w 11 1 := by simp [w_cpy]
  have hn : (w 11 1).toNat ≤ 8 := by omega
  have u2 : ∀ k i, k = 0 ∨ k = 11 → w_cpy (w_cy (w_cpy w 5 0 22 0 7) 24 11 (w 11 1).toNat) 34 0 23 0 12 k i = w k i := by
    intro k i hk
    rw [w_cpy, if_neg (by omega), w_cy_lo _ _ _ (by decide) _ hn, if_neg (by omega), if_neg (by omega), w_cpy, if_neg (by omega)]
  have u3 := u2 0 12 (Or.inl rfl)
  have u4 := u2 11 1 (Or.inr rfl)
  have u5 := up_k (w := w_cpy (w_cy (w_cpy w 5 0 22 0 7) 24 11 (w 11 1).toNat) 34 0 23 0 12) (k := 21) (i := 3) (k' := 11) (i' := 1) (v := w 0 12) (by decide)
  have e10 : w 0 12 ≠ 0 → G 10 [some (vr 0)] [] w := by
    intro h
    (apply hG [] 2000; simp only [w_br_i, w_ite, w_all, w_all0, forall_eq, w_b0, w_b1, ↓reduceIte, w_ent, w_pos, List.replicate_succ, List.replicate_zero, wp_s, wk_s, w_lk_c, w_ld0, w_ldS, w_kp0, w_kp, w_s1, w_s2, w_to, w_if, w_call, w_sw, w_cat, w_cats, w_psh, w_fv, List.contains_cons, List.contains_nil, List.set_cons_zero, List.set_cons_succ, List.length_cons, List.length_nil, List.find?_cons, List.find?_nil, List.take_succ_cons, List.take_zero, List.drop_succ_cons, List.drop_zero, List.reverse_cons, List.reverse_nil, List.nil_append, List.cons_append, Option.map_some, Option.map_none, Nat.reduceAdd, Nat.reduceBEq, Nat.reduceEqDiff, Nat.reduceLT, Nat.reduceLeDiff, Nat.reduceSub, Int.reduceAdd, Int.reduceSub, Int.reduceMul, Int.reduceNeg, Int.reduceToNat, Int.reduceLT, Int.reduceLE, Int.reduceEq, Bool.false_eq_true, Bool.or_false, Bool.false_or, Bool.true_or, Bool.or_true, if_true, if_false, ite_true, ite_false, true_and, and_true, false_and, and_false, true_or, or_true, false_or, or_false, Int.cast_ofNat_Int, Int.toNat_natCast, Int.natCast_add, List.getElem?_cons_zero, List.getElem?_cons_succ, true_implies, forall_const, not_true_eq_false, not_false_eq_true, ne_eq, beq_iff_eq, imp_self, List.length_set, Nat.zero_add, Nat.add_zero, Int.zero_add, Int.add_zero, w1_aload_n_0, w1_getfield, w1_ifCond, w1_bipush, w1_ireturn, w1_iconst, w1_invokestatic, w1_invokevirtual, w1_putfield, w1_putfield2, dX9_image_0, dX9_image_1, dX9_image_4, dX9_image_7, dX9_image_9, dX9_image_10, dX9_image_11, dX9_image_14, dX9_image_17, dX9_image_18, dX9_image_19, dX9_image_22, dX9_image_25, dX9_image_26, dX9_image_28, dX9_image_31, dX9_image_32, dX9_image_35, dX9_image_38, dX9_image_39, dX9_image_42, dX9_image_45, dX9_image_46, dX9_image_49, dX9_image_50, dX9_image_51, dX9_image_54, dX9_image_57, dX9_image_58, dX9_image_60, dX9_image_63, dX9_image_64, dX9_image_67, dX9_image_68, dX9_image_71, dX9_image_74, dX9_image_75, dX9_image_78, dX9_image_81, w_flk9_115, w_flk9_124, w_flk9_158, w_flk9_19, w_flk9_26, w_flk9_295, w_flk9_296, w_flk9_301, w_flk9_36, w_flk9_43, w_flk9_302, w_kd_0, w_rf_0_0, w_rf_0_1, w_rf_0_2, w_rf_0_3, w_rf_0_4, w_rf_0_5, w_rf_0_6, w_rf_0_7, w_rf_0_8, w_rf_0_9, w_rf_0_10, w_kd_4, w_rf_4_0, w_rf_4_1, w_rf_4_2, w_rf_4_3, w_rf_4_4, w_rf_4_5, w_kd_5, w_ln_5, w_kd_11, w_rf_11_0, w_kd_21, w_rf_21_0, w_rf_21_1, w_rf_21_2, w_kd_22, w_ln_22, w_kd_23, w_ln_23, w_kd_24, w_rf_24_0, w_kd_34, w_ln_34, p_X8_copyFrom, q_X8_copyFrom, w_preCp, w_postCp, u1])
    (repeat' (with_reducible (first | refine And.intro ?_ ?_ | intro _))) <;> (try (first | assumption | contradiction | exact Or.inl trivial | exact Or.inl rfl | exact Or.inr rfl | (simp only [inI, inL]; omega) | omega))
    all_goals first
      | (rw [u3, u5, u4]; simp only [q_X9_image]; rw [if_neg h, if_neg h]; exact ⟨rfl, rfl⟩)
      | decide
  (apply hG [10] 2000; simp only [w_br_i, w_ite, w_all, w_all0, forall_eq, w_b0, w_b1, ↓reduceIte, w_ent, w_pos, List.replicate_succ, List.replicate_zero, wp_s, wk_s, w_lk_c, w_ld0, w_ldS, w_kp0, w_kp, w_s1, w_s2, w_to, w_if, w_call, w_sw, w_cat, w_cats, w_psh, w_fv, List.contains_cons, List.contains_nil, List.set_cons_zero, List.set_cons_succ, List.length_cons, List.length_nil, List.find?_cons, List.find?_nil, List.take_succ_cons, List.take_zero, List.drop_succ_cons, List.drop_zero, List.reverse_cons, List.reverse_nil, List.nil_append, List.cons_append, Option.map_some, Option.map_none, Nat.reduceAdd, Nat.reduceBEq, Nat.reduceEqDiff, Nat.reduceLT, Nat.reduceLeDiff, Nat.reduceSub, Int.reduceAdd, Int.reduceSub, Int.reduceMul, Int.reduceNeg, Int.reduceToNat, Int.reduceLT, Int.reduceLE, Int.reduceEq, Bool.false_eq_true, Bool.or_false, Bool.false_or, Bool.true_or, Bool.or_true, if_true, if_false, ite_true, ite_false, true_and, and_true, false_and, and_false, true_or, or_true, false_or, or_false, Int.cast_ofNat_Int, Int.toNat_natCast, Int.natCast_add, List.getElem?_cons_zero, List.getElem?_cons_succ, true_implies, forall_const, not_true_eq_false, not_false_eq_true, ne_eq, beq_iff_eq, imp_self, List.length_set, Nat.zero_add, Nat.add_zero, Int.zero_add, Int.add_zero, w1_aload_n_0, w1_getfield, w1_ifCond, w1_bipush, w1_ireturn, w1_iconst, w1_invokestatic, w1_invokevirtual, w1_putfield, w1_putfield2, dX9_image_0, dX9_image_1, dX9_image_4, dX9_image_7, dX9_image_9, dX9_image_10, dX9_image_11, dX9_image_14, dX9_image_17, dX9_image_18, dX9_image_19, dX9_image_22, dX9_image_25, dX9_image_26, dX9_image_28, dX9_image_31, dX9_image_32, dX9_image_35, dX9_image_38, dX9_image_39, dX9_image_42, dX9_image_45, dX9_image_46, dX9_image_49, dX9_image_50, dX9_image_51, dX9_image_54, dX9_image_57, dX9_image_58, dX9_image_60, dX9_image_63, dX9_image_64, dX9_image_67, dX9_image_68, dX9_image_71, dX9_image_74, dX9_image_75, dX9_image_78, dX9_image_81, w_flk9_115, w_flk9_124, w_flk9_158, w_flk9_19, w_flk9_26, w_flk9_295, w_flk9_296, w_flk9_301, w_flk9_36, w_flk9_43, w_flk9_302, w_kd_0, w_rf_0_0, w_rf_0_1, w_rf_0_2, w_rf_0_3, w_rf_0_4, w_rf_0_5, w_rf_0_6, w_rf_0_7, w_rf_0_8, w_rf_0_9, w_rf_0_10])
  (repeat' (with_reducible (first | refine And.intro ?_ ?_ | intro _))) <;> (try (first | assumption | contradiction | exact Or.inl trivial | exact Or.inl rfl | exact Or.inr rfl | (simp only [inI, inL]; omega) | omega))
  all_goals first
    | exact e10 (by omega)
    | (simp only [q_X9_image]; rw [if_pos (by omega), if_pos (by omega)]; exact ⟨rfl, rfl⟩)
def p_X9_restore : List wV → wW → Prop := fun av w => match av with
  | [.inr (.inr (some this))] => this = 0 ∧ inI (w 0 12) ∧ inI (w 21 3) ∧ (w 21 3 ≠ 0 → (0 ≤ w 24 1 ∧ w 24 1 ≤ 8) ∧ (0 ≤ w 22 0 ∧ w 22 0 ≤ 25) ∧ (0 ≤ w 22 2 ∧ w 22 2 ≤ 9) ∧ (0 ≤ w 22 3 ∧ w 22 3 ≤ 9))
  | _ => False
theorem h_X9_restore : ∀ av w, p_X9_restore av w → ∃ a r, av = vr a :: r ∧ w_kd a = 100 + 9 := by
  intro av w h
  unfold p_X9_restore at h
  split at h
  · refine ⟨_, _, rfl, ?_⟩
    first | (rw [h.1]; rfl) | (rw [h]; rfl)
  · exact h.elim
def w_rst (w : wW) : wW := w_cpy (w_cy (w_settle (w_cpy w 22 0 5 0 7) 10) 11 24 (w 24 1).toNat) 23 0 34 0 12
def q_X9_restore : List wV → wW → Int → wW → Prop := fun av w r w' => match av with
  | [.inr (.inr (some this))] => (r = if w 21 3 = 0 ∨ w 21 3 ≠ w 0 12 then -103 else w 24 1) ∧ w' = if w 21 3 = 0 ∨ w 21 3 ≠ w 0 12 then w else w_up (w_rst w) 0 15 (w 0 15 + 1)
  | _ => False
set_option maxRecDepth 100000 in
set_option maxHeartbeats 4000000 in
theorem c_X9_restore : w_Ct yX9_restore cX9_restore 1 1 2 71 p_X9_restore q_X9_restore := by
  refine w_met (own := RX9) (fl := w_fl9) (gs := w_gs9) (kl := w_kl9) (ki := w_ki9) (cs := [(134, (1, 5, 0, w_preCp, w_postCp)), (171, (0, 1, 0, p_X1_settle, q_X1_settle)), (297, (0, 2, 0, p_X8_copyFrom, q_X8_copyFrom))]) (by decide +kernel) rfl ?_ w_flok9 w_gsok9 w_klok9 w_kiok9 ?_ ?_
  · intro av w h
    unfold p_X9_restore at h
    split at h
    · simp [w_pos, w_cat]
    · exact h.elim
  · exact List.forall_mem_cons.mpr ⟨⟨_, _, w_callCp (own := RX9) (idx := 134) (w_m3 33 (by decide +kernel) (by decide +kernel)) (w_m3 12 (by decide +kernel) (by decide +kernel)) (w_m1 13 (by decide +kernel) (by decide +kernel)) (w_m3 13 (by decide +kernel) (by decide +kernel)), by decide, by decide⟩, List.forall_mem_cons.mpr ⟨⟨_, _, w_callV (own := RX9) (idx := 171) (ci := 1) c_X1_settle rfl rfl h_X1_settle (w_m3 72 (by decide +kernel) (by decide +kernel)) (w_m3 22 (by decide +kernel) (by decide +kernel)) (w_m3 23 (by decide +kernel) (by decide +kernel)) (w_m1 3 (by decide +kernel) (by decide +kernel)) (w_m3 24 (by decide +kernel) (by decide +kernel)) ⟨by decide +kernel, by decide +kernel, by decide +kernel⟩, by decide, by decide⟩, List.forall_mem_cons.mpr ⟨⟨_, _, w_callV (own := RX9) (idx := 297) (ci := 8) c_X8_copyFrom rfl rfl h_X8_copyFrom (w_m4 61 (by decide +kernel) (by decide +kernel)) (w_m4 62 (by decide +kernel) (by decide +kernel)) (w_m4 63 (by decide +kernel) (by decide +kernel)) (w_m1 4 (by decide +kernel) (by decide +kernel)) (w_m4 64 (by decide +kernel) (by decide +kernel)) ⟨by decide +kernel, by decide +kernel, by decide +kernel⟩, by decide, by decide⟩, fun _ h => absurd h List.not_mem_nil⟩⟩⟩
  intro av w hp
  unfold p_X9_restore at hp
  split at hp
  case h_2 => exact hp.elim
  rename_i this
  intro G hG
  simp only [w_ent, w_pos, w_cat, Nat.reduceEqDiff, ↓reduceIte, List.length_cons, List.length_nil, Nat.reduceAdd, Nat.reduceSub, List.cons_append, List.nil_append, List.replicate_succ, List.replicate_zero]
  obtain ⟨rfl, hp⟩ := hp
  have e27 : ¬ (w 21 3 = 0 ∨ w 21 3 ≠ w 0 12) → G 27 [some (vr 0)] [] w := by
    intro h
    obtain ⟨h24, h0, h2, h3⟩ := hp.2.2 (by omega)
    have hn : (w 24 1).toNat ≤ 8 := by omega
    have a0 : w_cpy w 22 0 5 0 7 5 0 = w 22 0 := rfl
    have a2 : w_cpy w 22 0 5 0 7 5 2 = w 22 2 := rfl
    have a3 : w_cpy w 22 0 5 0 7 5 3 = w 22 3 := rfl
    have a4 : w_settle (w_cpy w 22 0 5 0 7) 10 24 1 = w 24 1 := by rw [w_settle_ne _ _ _ (by decide)]; rfl
    have b1 : w_rst w 0 15 = w 0 15 := by
      rw [w_rst, w_cpy, if_neg (by omega), w_cy_lo _ _ _ (by decide) _ hn, if_neg (by omega), if_neg (by omega), w_settle_ne _ _ _ (by decide), w_cpy, if_neg (by omega)]
    have b2 : w_up (w_rst w) 0 15 (w 0 15 + 1) 11 1 = w 24 1 := by
      rw [up_k (by decide), w_rst, w_cpy, if_neg (by omega), w_cy_lo _ _ _ (by decide) _ hn, if_pos (by omega), a4]
    have b3 : w_cpy (w_cy (w_settle (w_cpy w 22 0 5 0 7) 10) 11 24 (w 24 1).toNat) 23 0 34 0 12 = w_rst w := rfl
    (apply hG [] 2000; simp only [w_br_i, w_ite, w_all, w_all0, forall_eq, w_b0, w_b1, ↓reduceIte, w_ent, w_pos, List.replicate_succ, List.replicate_zero, wp_s, wk_s, w_lk_c, w_ld0, w_ldS, w_kp0, w_kp, w_s1, w_s2, w_to, w_if, w_call, w_sw, w_cat, w_cats, w_psh, w_fv, List.contains_cons, List.contains_nil, List.set_cons_zero, List.set_cons_succ, List.length_cons, List.length_nil, List.find?_cons, List.find?_nil, List.take_succ_cons, List.take_zero, List.drop_succ_cons, List.drop_zero, List.reverse_cons, List.reverse_nil, List.nil_append, List.cons_append, Option.map_some, Option.map_none, Nat.reduceAdd, Nat.reduceBEq, Nat.reduceEqDiff, Nat.reduceLT, Nat.reduceLeDiff, Nat.reduceSub, Int.reduceAdd, Int.reduceSub, Int.reduceMul, Int.reduceNeg, Int.reduceToNat, Int.reduceLT, Int.reduceLE, Int.reduceEq, Bool.false_eq_true, Bool.or_false, Bool.false_or, Bool.true_or, Bool.or_true, if_true, if_false, ite_true, ite_false, true_and, and_true, false_and, and_false, true_or, or_true, false_or, or_false, Int.cast_ofNat_Int, Int.toNat_natCast, Int.natCast_add, List.getElem?_cons_zero, List.getElem?_cons_succ, true_implies, forall_const, not_true_eq_false, not_false_eq_true, ne_eq, beq_iff_eq, imp_self, List.length_set, Nat.zero_add, Nat.add_zero, Int.zero_add, Int.add_zero, w1_aload_n_0, w1_getfield, w1_ifCond, w1_if_icmp, w1_bipush, w1_ireturn, w1_iconst, w1_invokestatic, w1_invokevirtual, w1_dup, w1_dup2, w1_iadd, w1_putfield, w1_putfield2, dX9_restore_0, dX9_restore_1, dX9_restore_4, dX9_restore_7, dX9_restore_10, dX9_restore_11, dX9_restore_14, dX9_restore_17, dX9_restore_18, dX9_restore_21, dX9_restore_24, dX9_restore_26, dX9_restore_27, dX9_restore_28, dX9_restore_31, dX9_restore_34, dX9_restore_35, dX9_restore_36, dX9_restore_39, dX9_restore_42, dX9_restore_43, dX9_restore_45, dX9_restore_48, dX9_restore_49, dX9_restore_52, dX9_restore_55, dX9_restore_56, dX9_restore_59, dX9_restore_60, dX9_restore_63, dX9_restore_66, dX9_restore_69, dX9_restore_70, dX9_restore_73, dX9_restore_76, dX9_restore_77, dX9_restore_78, dX9_restore_81, dX9_restore_82, dX9_restore_84, dX9_restore_87, dX9_restore_88, dX9_restore_89, dX9_restore_92, dX9_restore_93, dX9_restore_94, dX9_restore_97, dX9_restore_98, dX9_restore_101, dX9_restore_104, w_flk9_115, w_flk9_118, w_flk9_124, w_flk9_158, w_flk9_19, w_flk9_26, w_flk9_295, w_flk9_296, w_flk9_301, w_flk9_302, w_flk9_36, w_flk9_43, w_kd_0, w_rf_0_0, w_rf_0_1, w_rf_0_2, w_rf_0_3, w_rf_0_4, w_rf_0_5, w_rf_0_6, w_rf_0_7, w_rf_0_8, w_rf_0_9, w_rf_0_10, w_kd_4, w_rf_4_0, w_rf_4_1, w_rf_4_2, w_rf_4_3, w_rf_4_4, w_rf_4_5, w_kd_5, w_ln_5, w_kd_11, w_rf_11_0, w_kd_21, w_rf_21_0, w_rf_21_1, w_rf_21_2, w_kd_22, w_ln_22, w_kd_23, w_ln_23, w_kd_24, w_rf_24_0, w_kd_34, w_ln_34, p_X8_copyFrom, q_X8_copyFrom, w_preCp, w_postCp, p_X1_settle, q_X1_settle, a0, a2, a3, a4, b1, b2, b3])
    (repeat' (with_reducible (first | refine And.intro ?_ ?_ | intro _))) <;> (try (first | assumption | contradiction | exact Or.inl trivial | exact Or.inl rfl | exact Or.inr rfl | (simp only [inI, inL]; omega) | omega))
    all_goals first
      | (simp only [q_X9_restore]; rw [if_neg h, if_neg h]; exact ⟨rfl, rfl⟩)
      | decide
  (apply hG [27] 2000; simp only [w_br_i, w_ite, w_all, w_all0, forall_eq, w_b0, w_b1, ↓reduceIte, w_ent, w_pos, List.replicate_succ, List.replicate_zero, wp_s, wk_s, w_lk_c, w_ld0, w_ldS, w_kp0, w_kp, w_s1, w_s2, w_to, w_if, w_call, w_sw, w_cat, w_cats, w_psh, w_fv, List.contains_cons, List.contains_nil, List.set_cons_zero, List.set_cons_succ, List.length_cons, List.length_nil, List.find?_cons, List.find?_nil, List.take_succ_cons, List.take_zero, List.drop_succ_cons, List.drop_zero, List.reverse_cons, List.reverse_nil, List.nil_append, List.cons_append, Option.map_some, Option.map_none, Nat.reduceAdd, Nat.reduceBEq, Nat.reduceEqDiff, Nat.reduceLT, Nat.reduceLeDiff, Nat.reduceSub, Int.reduceAdd, Int.reduceSub, Int.reduceMul, Int.reduceNeg, Int.reduceToNat, Int.reduceLT, Int.reduceLE, Int.reduceEq, Bool.false_eq_true, Bool.or_false, Bool.false_or, Bool.true_or, Bool.or_true, if_true, if_false, ite_true, ite_false, true_and, and_true, false_and, and_false, true_or, or_true, false_or, or_false, Int.cast_ofNat_Int, Int.toNat_natCast, Int.natCast_add, List.getElem?_cons_zero, List.getElem?_cons_succ, true_implies, forall_const, not_true_eq_false, not_false_eq_true, ne_eq, beq_iff_eq, imp_self, List.length_set, Nat.zero_add, Nat.add_zero, Int.zero_add, Int.add_zero, w1_aload_n_0, w1_getfield, w1_ifCond, w1_if_icmp, w1_bipush, w1_ireturn, w1_iconst, w1_invokestatic, w1_invokevirtual, w1_dup, w1_dup2, w1_iadd, w1_putfield, w1_putfield2, dX9_restore_0, dX9_restore_1, dX9_restore_4, dX9_restore_7, dX9_restore_10, dX9_restore_11, dX9_restore_14, dX9_restore_17, dX9_restore_18, dX9_restore_21, dX9_restore_24, dX9_restore_26, dX9_restore_27, dX9_restore_28, dX9_restore_31, dX9_restore_34, dX9_restore_35, dX9_restore_36, dX9_restore_39, dX9_restore_42, dX9_restore_43, dX9_restore_45, dX9_restore_48, dX9_restore_49, dX9_restore_52, dX9_restore_55, dX9_restore_56, dX9_restore_59, dX9_restore_60, dX9_restore_63, dX9_restore_66, dX9_restore_69, dX9_restore_70, dX9_restore_73, dX9_restore_76, dX9_restore_77, dX9_restore_78, dX9_restore_81, dX9_restore_82, dX9_restore_84, dX9_restore_87, dX9_restore_88, dX9_restore_89, dX9_restore_92, dX9_restore_93, dX9_restore_94, dX9_restore_97, dX9_restore_98, dX9_restore_101, dX9_restore_104, w_flk9_115, w_flk9_118, w_flk9_124, w_flk9_158, w_flk9_19, w_flk9_26, w_flk9_295, w_flk9_296, w_flk9_301, w_flk9_302, w_flk9_36, w_flk9_43, w_kd_0, w_rf_0_0, w_rf_0_1, w_rf_0_2, w_rf_0_3, w_rf_0_4, w_rf_0_5, w_rf_0_6, w_rf_0_7, w_rf_0_8, w_rf_0_9, w_rf_0_10, w_kd_21, w_rf_21_0, w_rf_21_1, w_rf_21_2])
  (repeat' (with_reducible (first | refine And.intro ?_ ?_ | intro _))) <;> (try (first | assumption | contradiction | exact Or.inl trivial | exact Or.inl rfl | exact Or.inr rfl | (simp only [inI, inL]; omega) | omega))
  all_goals first
    | exact e27 (by omega)
    | (simp only [q_X9_restore]; rw [if_pos (by omega), if_pos (by omega)]; exact ⟨rfl, rfl⟩)
