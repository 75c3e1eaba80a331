def pSet (p : pP) (j : Nat) (v : Int) : pP := (p.1, p.2.1, fup p.2.2.1 j v, p.2.2.2)
theorem pw_ufs (w : wW) (p : pP) (j : Nat) (v : Int) : w_up (pw w p) 3 j v = pw w (pSet p j v) := pw_uf w p j v
theorem pSet_I {len : Int} {p : pP} {j : Nat} {v : Int} (h : pI len p) : pI len (pSet p j v) := h
def pFld (t : Nat → Int) (len c : Int) (j : Nat) (least most : Int) (p : pP) : pP := pSet (pNum t len least most (pSign t len c p)) j (pNumV t len least most (pSign t len c p))
theorem pFld_I {t : Nat → Int} {len c least most : Int} {j : Nat} {p : pP} (h0 : 0 ≤ least) (h : pI len p) : pI len (pFld t len c j least most p) := pSet_I (pNum_I h0 (pSign_I h))
def p_X3_takeNamed : List wV → wW → Prop := fun av w => match av with
  | [.inr (.inr (some this)), .inl c, .inl j, .inl least] => this = 1 ∧ tI w ∧ pI (w 1 2) (pq w) ∧ inI c ∧ (0 ≤ least ∧ least ≤ 1) ∧ (0 ≤ j ∧ j < 7)
  | _ => False
theorem h_X3_takeNamed : ∀ av w, p_X3_takeNamed av w → ∃ a r, av = vr a :: r ∧ w_kd a = 100 + 3 := by
  intro av w h
  unfold p_X3_takeNamed at h
  split at h
  · refine ⟨_, _, rfl, ?_⟩
    first | (rw [h.1]; rfl) | (rw [h]; rfl)
  · exact h.elim
def q_X3_takeNamed : List wV → wW → Int → wW → Prop := fun av w r w' => match av with
  | [.inr (.inr (some this)), .inl c, .inl j, .inl least] => w' = pw w (pFld (w 2) (w 1 2) c j.toNat least (o_mst j) (pq w))
  | _ => False
set_option maxRecDepth 100000 in
set_option maxHeartbeats 4000000 in
theorem c_X3_takeNamed : w_Ct yX3_takeNamed cX3_takeNamed 4 0 2 46 p_X3_takeNamed q_X3_takeNamed := by
  refine w_met (own := RX3) (fl := w_fl3) (gs := w_gs3) (kl := w_kl3) (ki := w_ki3) (cs := [(56, (0, 2, 0, p_X3_takeSign, q_X3_takeSign)), (62, (0, 3, 1, p_X3_takeNumber, q_X3_takeNumber))]) (by decide +kernel) rfl ?_ w_flok3 w_gsok3 w_klok3 w_kiok3 ?_ ?_
  · intro av w h
    unfold p_X3_takeNamed at h
    split at h
    · simp [w_pos, w_cat]
    · exact h.elim
  · exact List.forall_mem_cons.mpr ⟨⟨_, _, w_callV (own := RX3) (idx := 56) (ci := 3) c_X3_takeSign rfl rfl h_X3_takeSign (w_m2 213 (by decide +kernel) (by decide +kernel)) (w_m2 215 (by decide +kernel) (by decide +kernel)) (w_m0 2 (by decide +kernel) (by decide +kernel)) (w_m1 2 (by decide +kernel) (by decide +kernel)) (w_m2 216 (by decide +kernel) (by decide +kernel)) ⟨by decide +kernel, by decide +kernel, by decide +kernel⟩, by decide, by decide⟩, List.forall_mem_cons.mpr ⟨⟨_, _, w_callV (own := RX3) (idx := 62) (ci := 3) c_X3_takeNumber rfl rfl h_X3_takeNumber (w_m2 223 (by decide +kernel) (by decide +kernel)) (w_m2 225 (by decide +kernel) (by decide +kernel)) (w_m0 4 (by decide +kernel) (by decide +kernel)) (w_m1 2 (by decide +kernel) (by decide +kernel)) (w_m2 226 (by decide +kernel) (by decide +kernel)) ⟨by decide +kernel, by decide +kernel, by decide +kernel⟩, by decide, by decide⟩, fun _ h => absurd h List.not_mem_nil⟩⟩
  intro av w hp
  unfold p_X3_takeNamed at hp
  split at hp
  case h_2 => exact hp.elim
  rename_i this c j least
  intro G hG
  simp only [w_ent, w_pos, w_cat, Nat.reduceEqDiff, ↓reduceIte, List.length_cons, List.length_nil, Nat.reduceAdd, Nat.reduceSub, List.cons_append, List.nil_append, List.replicate_succ, List.replicate_zero]
  obtain ⟨rfl, h2, h3, h4, h5, h6⟩ := hp
  obtain ⟨w, p, rfl⟩ : ∃ w0 p, w = pw w0 p := ⟨w, pq w, (pw_pq w).symm⟩
  rw [tI_pw] at h2
  rw [pq_pw, pw_12] at h3
  have hm := (o_sv j h6).2
  have hml := (o_lm j).2
  have h7 := pSign_I (t := w 2) (c := c) h3
  have hj : j.toNat < 7 := by omega
  (apply hG [] 2000; simp only [w_br_i, w_ite, w_all, w_all0, forall_eq, w_b0, w_b1, ↓reduceIte, w_ent, w_pos, List.replicate_succ, List.replicate_zero, wp_s, wk_s, w_lk_c, w_ld0, w_ldS, w_kp0, w_kp, w_s1, w_s2, w_to, w_if, w_call, w_sw, w_cat, w_cats, w_psh, w_fv, List.contains_cons, List.contains_nil, List.set_cons_zero, List.set_cons_succ, List.length_cons, List.length_nil, List.find?_cons, List.find?_nil, List.take_succ_cons, List.take_zero, List.drop_succ_cons, List.drop_zero, List.reverse_cons, List.reverse_nil, List.nil_append, List.cons_append, Option.map_some, Option.map_none, Nat.reduceAdd, Nat.reduceBEq, Nat.reduceEqDiff, Nat.reduceLT, Nat.reduceLeDiff, Nat.reduceSub, Int.reduceAdd, Int.reduceSub, Int.reduceMul, Int.reduceNeg, Int.reduceToNat, Int.reduceLT, Int.reduceLE, Int.reduceEq, Bool.false_eq_true, Bool.or_false, Bool.false_or, Bool.true_or, Bool.or_true, if_true, if_false, ite_true, ite_false, true_and, and_true, false_and, and_false, true_or, or_true, false_or, or_false, Int.cast_ofNat_Int, Int.toNat_natCast, Int.natCast_add, List.getElem?_cons_zero, List.getElem?_cons_succ, true_implies, forall_const, not_true_eq_false, not_false_eq_true, ne_eq, beq_iff_eq, imp_self, List.length_set, Nat.zero_add, Nat.add_zero, Int.zero_add, Int.add_zero, w1_aload_n_0, w1_iload_n_1, w1_invokevirtual, w1_getfield, w1_iload_n_2, w1_iload_n_3, w1_getstatic, w1_iaload, w1_iastore, w1_return, dX3_takeNamed_0, dX3_takeNamed_1, dX3_takeNamed_2, dX3_takeNamed_5, dX3_takeNamed_6, dX3_takeNamed_9, dX3_takeNamed_10, dX3_takeNamed_11, dX3_takeNamed_12, dX3_takeNamed_15, dX3_takeNamed_16, dX3_takeNamed_17, dX3_takeNamed_20, dX3_takeNamed_21, w_flk3_15, w_gsk3_59, w_kd_1, w_rf_1_0, w_rf_1_1, w_kd_3, w_ln_3, w_kd_158, w_ln_158, p_X3_takeSign, q_X3_takeSign, p_X3_takeNumber, q_X3_takeNumber, pw_2, pw_12, pw_14, pw_15, pw_ufs, pq_pw, tI_pw, pw_pw, h2, h3, h4, hm, h7])
  (repeat' (with_reducible (first | refine And.intro ?_ ?_ | intro _))) <;> (try (first | assumption | contradiction | exact Or.inl trivial | exact Or.inl rfl | exact Or.inr rfl | (simp only [inI, inL]; omega) | omega))
  all_goals (simp only [q_X3_takeNamed, pw_2, pw_12, pq_pw, pw_pw]; rfl)
def pUse (t : Nat → Int) (len : Int) (j : Nat) (p : pP) : pP := pFld t len 99 (j + 2) 1 9 (pFld t len 104 (j + 1) 0 9 (pFld t len 117 j 1 15 (pSign t len 59 p)))
theorem pUse_I {t : Nat → Int} {len : Int} {j : Nat} {p : pP} (h : pI len p) : pI len (pUse t len j p) := pFld_I (by decide) (pFld_I (by decide) (pFld_I (by decide) (pSign_I h)))
def p_X3_takeUse : List wV → wW → Prop := fun av w => match av with
  | [.inr (.inr (some this)), .inl j] => this = 1 ∧ tI w ∧ pI (w 1 2) (pq w) ∧ (0 ≤ j ∧ j < 14)
  | _ => False
theorem h_X3_takeUse : ∀ av w, p_X3_takeUse av w → ∃ a r, av = vr a :: r ∧ w_kd a = 100 + 3 := by
  intro av w h
  unfold p_X3_takeUse at h
  split at h
  · refine ⟨_, _, rfl, ?_⟩
    first | (rw [h.1]; rfl) | (rw [h]; rfl)
  · exact h.elim
def q_X3_takeUse : List wV → wW → Int → wW → Prop := fun av w r w' => match av with
  | [.inr (.inr (some this)), .inl j] => w' = pw w (pUse (w 2) (w 1 2) j.toNat (pq w))
  | _ => False
set_option maxRecDepth 100000 in
set_option maxHeartbeats 4000000 in
theorem c_X3_takeUse : w_Ct yX3_takeUse cX3_takeUse 2 0 2 46 p_X3_takeUse q_X3_takeUse := by
  refine w_met (own := RX3) (fl := w_fl3) (gs := w_gs3) (kl := w_kl3) (ki := w_ki3) (cs := [(56, (0, 2, 0, p_X3_takeSign, q_X3_takeSign)), (62, (0, 3, 1, p_X3_takeNumber, q_X3_takeNumber))]) (by decide +kernel) rfl ?_ w_flok3 w_gsok3 w_klok3 w_kiok3 ?_ ?_
  · intro av w h
    unfold p_X3_takeUse at h
    split at h
    · simp [w_pos, w_cat]
    · exact h.elim
  · exact List.forall_mem_cons.mpr ⟨⟨_, _, w_callV (own := RX3) (idx := 56) (ci := 3) c_X3_takeSign rfl rfl h_X3_takeSign (w_m2 213 (by decide +kernel) (by decide +kernel)) (w_m2 215 (by decide +kernel) (by decide +kernel)) (w_m0 2 (by decide +kernel) (by decide +kernel)) (w_m1 2 (by decide +kernel) (by decide +kernel)) (w_m2 216 (by decide +kernel) (by decide +kernel)) ⟨by decide +kernel, by decide +kernel, by decide +kernel⟩, by decide, by decide⟩, List.forall_mem_cons.mpr ⟨⟨_, _, w_callV (own := RX3) (idx := 62) (ci := 3) c_X3_takeNumber rfl rfl h_X3_takeNumber (w_m2 223 (by decide +kernel) (by decide +kernel)) (w_m2 225 (by decide +kernel) (by decide +kernel)) (w_m0 4 (by decide +kernel) (by decide +kernel)) (w_m1 2 (by decide +kernel) (by decide +kernel)) (w_m2 226 (by decide +kernel) (by decide +kernel)) ⟨by decide +kernel, by decide +kernel, by decide +kernel⟩, by decide, by decide⟩, fun _ h => absurd h List.not_mem_nil⟩⟩
  intro av w hp
  unfold p_X3_takeUse at hp
  split at hp
  case h_2 => exact hp.elim
  rename_i this j
  intro G hG
  simp only [w_ent, w_pos, w_cat, Nat.reduceEqDiff, ↓reduceIte, List.length_cons, List.length_nil, Nat.reduceAdd, Nat.reduceSub, List.cons_append, List.nil_append, List.replicate_succ, List.replicate_zero]
  obtain ⟨rfl, h2, h3, h4⟩ := hp
  obtain ⟨w, p, rfl⟩ : ∃ w0 p, w = pw w0 p := ⟨w, pq w, (pw_pq w).symm⟩
  rw [tI_pw] at h2
  rw [pq_pw, pw_12] at h3
  obtain ⟨j, rfl⟩ : ∃ n : Nat, j = n := ⟨j.toNat, by omega⟩
  have g1 := pSign_I (t := w 2) (c := 59) h3
  have g2 := pSign_I (t := w 2) (c := 117) g1
  have g3 := pFld_I (t := w 2) (c := 117) (j := j) (least := 1) (most := 15) (by decide) g1
  have g4 := pSign_I (t := w 2) (c := 104) g3
  have g5 := pFld_I (t := w 2) (c := 104) (j := j + 1) (least := 0) (most := 9) (by decide) g3
  have g6 := pSign_I (t := w 2) (c := 99) g5
  unfold pFld at g3 g4 g5 g6
  have t1 : ((j : Int) + 1).toNat = j + 1 := by omega
  have t2 : ((j : Int) + 2).toNat = j + 2 := by omega
  (apply hG [] 2000; simp only [w_br_i, w_ite, w_all, w_all0, forall_eq, w_b0, w_b1, ↓reduceIte, w_ent, w_pos, List.replicate_succ, List.replicate_zero, wp_s, wk_s, w_lk_c, w_ld0, w_ldS, w_kp0, w_kp, w_s1, w_s2, w_to, w_if, w_call, w_sw, w_cat, w_cats, w_psh, w_fv, List.contains_cons, List.contains_nil, List.set_cons_zero, List.set_cons_succ, List.length_cons, List.length_nil, List.find?_cons, List.find?_nil, List.take_succ_cons, List.take_zero, List.drop_succ_cons, List.drop_zero, List.reverse_cons, List.reverse_nil, List.nil_append, List.cons_append, Option.map_some, Option.map_none, Nat.reduceAdd, Nat.reduceBEq, Nat.reduceEqDiff, Nat.reduceLT, Nat.reduceLeDiff, Nat.reduceSub, Int.reduceAdd, Int.reduceSub, Int.reduceMul, Int.reduceNeg, Int.reduceToNat, Int.reduceLT, Int.reduceLE, Int.reduceEq, Bool.false_eq_true, Bool.or_false, Bool.false_or, Bool.true_or, Bool.or_true, if_true, if_false, ite_true, ite_false, true_and, and_true, false_and, and_false, true_or, or_true, false_or, or_false, Int.cast_ofNat_Int, Int.toNat_natCast, Int.natCast_add, List.getElem?_cons_zero, List.getElem?_cons_succ, true_implies, forall_const, not_true_eq_false, not_false_eq_true, ne_eq, beq_iff_eq, imp_self, List.length_set, Nat.zero_add, Nat.add_zero, Int.zero_add, Int.add_zero, w1_aload_n_0, w1_bipush, w1_invokevirtual, w1_getfield, w1_iload_n_1, w1_iconst, w1_iastore, w1_iadd, w1_return, dX3_takeUse_0, dX3_takeUse_1, dX3_takeUse_3, dX3_takeUse_6, dX3_takeUse_7, dX3_takeUse_9, dX3_takeUse_12, dX3_takeUse_13, dX3_takeUse_16, dX3_takeUse_17, dX3_takeUse_18, dX3_takeUse_19, dX3_takeUse_21, dX3_takeUse_24, dX3_takeUse_25, dX3_takeUse_26, dX3_takeUse_28, dX3_takeUse_31, dX3_takeUse_32, dX3_takeUse_35, dX3_takeUse_36, dX3_takeUse_37, dX3_takeUse_38, dX3_takeUse_39, dX3_takeUse_40, dX3_takeUse_42, dX3_takeUse_45, dX3_takeUse_46, dX3_takeUse_47, dX3_takeUse_49, dX3_takeUse_52, dX3_takeUse_53, dX3_takeUse_56, dX3_takeUse_57, dX3_takeUse_58, dX3_takeUse_59, dX3_takeUse_60, dX3_takeUse_61, dX3_takeUse_63, dX3_takeUse_66, dX3_takeUse_67, w_flk3_15, w_kd_1, w_rf_1_0, w_rf_1_1, w_kd_3, w_ln_3, p_X3_takeSign, q_X3_takeSign, p_X3_takeNumber, q_X3_takeNumber, pw_2, pw_12, pw_14, pw_15, pw_ufs, pq_pw, tI_pw, pw_pw, h2, h3, g1, g2, g3, g4, g5, g6, t1, t2])
  (repeat' (with_reducible (first | refine And.intro ?_ ?_ | intro _))) <;> (try (first | assumption | contradiction | exact Or.inl trivial | exact Or.inl rfl | exact Or.inr rfl | (simp only [inI, inL]; omega) | omega))
  all_goals (simp only [q_X3_takeUse, pw_2, pw_12, pq_pw, pw_pw, Int.toNat_natCast]; rfl)
def pYr (t : Nat → Int) (len : Int) : Nat → Nat → pP → pP
  | 0, _, p => p
  | n + 1, m, p => if p.2.1 = 0 then p else pYr t len n (m + 1) (pSet (pNum t len 0 9 p) m (pNumV t len 0 9 p))
theorem pYr_I {t : Nat → Int} {len : Int} : ∀ (n m : Nat) {p : pP}, pI len p → pI len (pYr t len n m p)
  | 0, _, _, h => h
  | n + 1, m, p, h => by
    simp only [pYr]
    split
    · exact h
    · exact pYr_I n (m + 1) (pSet_I (pNum_I (by decide) h))
def p_X3_takeYear : List wV → wW → Prop := fun av w => match av with
  | [.inr (.inr (some this))] => this = 1 ∧ tI w ∧ pI (w 1 2) (pq w)
  | _ => False
theorem h_X3_takeYear : ∀ av w, p_X3_takeYear av w → ∃ a r, av = vr a :: r ∧ w_kd a = 100 + 3 := by
  intro av w h
  unfold p_X3_takeYear at h
  split at h
  · refine ⟨_, _, rfl, ?_⟩
    first | (rw [h.1]; rfl) | (rw [h]; rfl)
  · exact h.elim
def q_X3_takeYear : List wV → wW → Int → wW → Prop := fun av w r w' => match av with
  | [.inr (.inr (some this))] => w' = pw w (pYr (w 2) (w 1 2) 12 0 (pq w))
  | _ => False
set_option maxRecDepth 100000 in
set_option maxHeartbeats 4000000 in
theorem c_X3_takeYear : w_Ct yX3_takeYear cX3_takeYear 2 0 2 46 p_X3_takeYear q_X3_takeYear := by
  refine w_met (own := RX3) (fl := w_fl3) (gs := w_gs3) (kl := w_kl3) (ki := w_ki3) (cs := [(62, (0, 3, 1, p_X3_takeNumber, q_X3_takeNumber))]) (by decide +kernel) rfl ?_ w_flok3 w_gsok3 w_klok3 w_kiok3 ?_ ?_
  · intro av w h
    unfold p_X3_takeYear at h
    split at h
    · simp [w_pos, w_cat]
    · exact h.elim
  · exact List.forall_mem_cons.mpr ⟨⟨_, _, w_callV (own := RX3) (idx := 62) (ci := 3) c_X3_takeNumber rfl rfl h_X3_takeNumber (w_m2 223 (by decide +kernel) (by decide +kernel)) (w_m2 225 (by decide +kernel) (by decide +kernel)) (w_m0 4 (by decide +kernel) (by decide +kernel)) (w_m1 2 (by decide +kernel) (by decide +kernel)) (w_m2 226 (by decide +kernel) (by decide +kernel)) ⟨by decide +kernel, by decide +kernel, by decide +kernel⟩, by decide, by decide⟩, fun _ h => absurd h List.not_mem_nil⟩
  intro av w hp
  unfold p_X3_takeYear at hp
  split at hp
  case h_2 => exact hp.elim
  rename_i this
  intro G hG
  simp only [w_ent, w_pos, w_cat, Nat.reduceEqDiff, ↓reduceIte, List.length_cons, List.length_nil, Nat.reduceAdd, Nat.reduceSub, List.cons_append, List.nil_append, List.replicate_succ, List.replicate_zero]
  obtain ⟨rfl, h2, h3⟩ := hp
  obtain ⟨w, p0, rfl⟩ : ∃ w0 p, w = pw w0 p := ⟨w, pq w, (pw_pq w).symm⟩
  rw [tI_pw] at h2
  rw [pq_pw, pw_12] at h3
  have loop : ∀ n m : Nat, m + n = 12 → ∀ p : pP, pI (w 1 2) p → q_X3_takeYear [vr 1] (pw w p0) 0 (pw w (pYr (w 2) (w 1 2) n m p)) → G 2 [some (vr 1), some (vi m)] [] (pw w p) := by
    intro n
    induction n with
    | zero =>
      intro m hm p hp hq
      (apply hG [2] 2000; simp only [w_br_i, w_ite, w_all, w_all0, forall_eq, w_b0, w_b1, ↓reduceIte, w_ent, w_pos, List.replicate_succ, List.replicate_zero, wp_s, wk_s, w_lk_c, w_ld0, w_ldS, w_kp0, w_kp, w_s1, w_s2, w_to, w_if, w_call, w_sw, w_cat, w_cats, w_psh, w_fv, List.contains_cons, List.contains_nil, List.set_cons_zero, List.set_cons_succ, List.length_cons, List.length_nil, List.find?_cons, List.find?_nil, List.take_succ_cons, List.take_zero, List.drop_succ_cons, List.drop_zero, List.reverse_cons, List.reverse_nil, List.nil_append, List.cons_append, Option.map_some, Option.map_none, Nat.reduceAdd, Nat.reduceBEq, Nat.reduceEqDiff, Nat.reduceLT, Nat.reduceLeDiff, Nat.reduceSub, Int.reduceAdd, Int.reduceSub, Int.reduceMul, Int.reduceNeg, Int.reduceToNat, Int.reduceLT, Int.reduceLE, Int.reduceEq, Bool.false_eq_true, Bool.or_false, Bool.false_or, Bool.true_or, Bool.or_true, if_true, if_false, ite_true, ite_false, true_and, and_true, false_and, and_false, true_or, or_true, false_or, or_false, Int.cast_ofNat_Int, Int.toNat_natCast, Int.natCast_add, List.getElem?_cons_zero, List.getElem?_cons_succ, true_implies, forall_const, not_true_eq_false, not_false_eq_true, ne_eq, beq_iff_eq, imp_self, List.length_set, Nat.zero_add, Nat.add_zero, Int.zero_add, Int.add_zero, w1_iconst, w1_istore_n_1, w1_iload_n_1, w1_bipush, w1_if_icmp, w1_aload_n_0, w1_getfield, w1_ifCond, w1_invokevirtual, w1_iastore, w1_iinc, w1_goto, w1_return, dX3_takeYear_0, dX3_takeYear_1, dX3_takeYear_2, dX3_takeYear_3, dX3_takeYear_5, dX3_takeYear_8, dX3_takeYear_9, dX3_takeYear_12, dX3_takeYear_15, dX3_takeYear_16, dX3_takeYear_19, dX3_takeYear_20, dX3_takeYear_21, dX3_takeYear_22, dX3_takeYear_24, dX3_takeYear_27, dX3_takeYear_28, dX3_takeYear_31, dX3_takeYear_34, w_flk3_15, w_flk3_25, w_kd_1, w_rf_1_0, w_rf_1_1, w_kd_3, w_ln_3])
      (repeat' (with_reducible (first | refine And.intro ?_ ?_ | intro _))) <;> (try (first | assumption | contradiction | exact Or.inl trivial | exact Or.inl rfl | exact Or.inr rfl | (simp only [inI, inL]; omega) | omega))
      all_goals exact hq
    | succ n ih =>
      intro m hm p hp hq
      have hp2 := hp.2
      (apply hG [2] 2000; simp only [w_br_i, w_ite, w_all, w_all0, forall_eq, w_b0, w_b1, ↓reduceIte, w_ent, w_pos, List.replicate_succ, List.replicate_zero, wp_s, wk_s, w_lk_c, w_ld0, w_ldS, w_kp0, w_kp, w_s1, w_s2, w_to, w_if, w_call, w_sw, w_cat, w_cats, w_psh, w_fv, List.contains_cons, List.contains_nil, List.set_cons_zero, List.set_cons_succ, List.length_cons, List.length_nil, List.find?_cons, List.find?_nil, List.take_succ_cons, List.take_zero, List.drop_succ_cons, List.drop_zero, List.reverse_cons, List.reverse_nil, List.nil_append, List.cons_append, Option.map_some, Option.map_none, Nat.reduceAdd, Nat.reduceBEq, Nat.reduceEqDiff, Nat.reduceLT, Nat.reduceLeDiff, Nat.reduceSub, Int.reduceAdd, Int.reduceSub, Int.reduceMul, Int.reduceNeg, Int.reduceToNat, Int.reduceLT, Int.reduceLE, Int.reduceEq, Bool.false_eq_true, Bool.or_false, Bool.false_or, Bool.true_or, Bool.or_true, if_true, if_false, ite_true, ite_false, true_and, and_true, false_and, and_false, true_or, or_true, false_or, or_false, Int.cast_ofNat_Int, Int.toNat_natCast, Int.natCast_add, List.getElem?_cons_zero, List.getElem?_cons_succ, true_implies, forall_const, not_true_eq_false, not_false_eq_true, ne_eq, beq_iff_eq, imp_self, List.length_set, Nat.zero_add, Nat.add_zero, Int.zero_add, Int.add_zero, w1_iconst, w1_istore_n_1, w1_iload_n_1, w1_bipush, w1_if_icmp, w1_aload_n_0, w1_getfield, w1_ifCond, w1_invokevirtual, w1_iastore, w1_iinc, w1_goto, w1_return, dX3_takeYear_0, dX3_takeYear_1, dX3_takeYear_2, dX3_takeYear_3, dX3_takeYear_5, dX3_takeYear_8, dX3_takeYear_9, dX3_takeYear_12, dX3_takeYear_15, dX3_takeYear_16, dX3_takeYear_19, dX3_takeYear_20, dX3_takeYear_21, dX3_takeYear_22, dX3_takeYear_24, dX3_takeYear_27, dX3_takeYear_28, dX3_takeYear_31, dX3_takeYear_34, w_flk3_15, w_flk3_25, w_kd_1, w_rf_1_0, w_rf_1_1, w_kd_3, w_ln_3, p_X3_takeNumber, q_X3_takeNumber, pw_2, pw_12, pw_14, pw_15, pw_ufs, pq_pw, tI_pw, pw_pw, h2, hp])
      simp only [pYr] at hq
      by_cases q : p.2.1 = 0
      · rw [if_pos q] at hq
        (repeat' (with_reducible (first | refine And.intro ?_ ?_ | intro _))) <;> (try (first | assumption | contradiction | exact Or.inl trivial | exact Or.inl rfl | exact Or.inr rfl | (simp only [inI, inL]; omega) | omega))
      · rw [if_neg q] at hq
        have e := ih (m + 1) (by omega) _ (pSet_I (pNum_I (by decide) hp)) hq
        simp only [Int.natCast_add, Int.cast_ofNat_Int] at e
        (repeat' (with_reducible (first | refine And.intro ?_ ?_ | intro _))) <;> (try (first | assumption | contradiction | exact Or.inl trivial | exact Or.inl rfl | exact Or.inr rfl | (simp only [inI, inL]; omega) | omega))
  (apply hG [2] 2000; simp only [w_br_i, w_ite, w_all, w_all0, forall_eq, w_b0, w_b1, ↓reduceIte, w_ent, w_pos, List.replicate_succ, List.replicate_zero, wp_s, wk_s, w_lk_c, w_ld0, w_ldS, w_kp0, w_kp, w_s1, w_s2, w_to, w_if, w_call, w_sw, w_cat, w_cats, w_psh, w_fv, List.contains_cons, List.contains_nil, List.set_cons_zero, List.set_cons_succ, List.length_cons, List.length_nil, List.find?_cons, List.find?_nil, List.take_succ_cons, List.take_zero, List.drop_succ_cons, List.drop_zero, List.reverse_cons, List.reverse_nil, List.nil_append, List.cons_append, Option.map_some, Option.map_none, Nat.reduceAdd, Nat.reduceBEq, Nat.reduceEqDiff, Nat.reduceLT, Nat.reduceLeDiff, Nat.reduceSub, Int.reduceAdd, Int.reduceSub, Int.reduceMul, Int.reduceNeg, Int.reduceToNat, Int.reduceLT, Int.reduceLE, Int.reduceEq, Bool.false_eq_true, Bool.or_false, Bool.false_or, Bool.true_or, Bool.or_true, if_true, if_false, ite_true, ite_false, true_and, and_true, false_and, and_false, true_or, or_true, false_or, or_false, Int.cast_ofNat_Int, Int.toNat_natCast, Int.natCast_add, List.getElem?_cons_zero, List.getElem?_cons_succ, true_implies, forall_const, not_true_eq_false, not_false_eq_true, ne_eq, beq_iff_eq, imp_self, List.length_set, Nat.zero_add, Nat.add_zero, Int.zero_add, Int.add_zero, w1_iconst, w1_istore_n_1, w1_iload_n_1, w1_bipush, w1_if_icmp, w1_aload_n_0, w1_getfield, w1_ifCond, w1_invokevirtual, w1_iastore, w1_iinc, w1_goto, w1_return, dX3_takeYear_0, dX3_takeYear_1, dX3_takeYear_2, dX3_takeYear_3, dX3_takeYear_5, dX3_takeYear_8, dX3_takeYear_9, dX3_takeYear_12, dX3_takeYear_15, dX3_takeYear_16, dX3_takeYear_19, dX3_takeYear_20, dX3_takeYear_21, dX3_takeYear_22, dX3_takeYear_24, dX3_takeYear_27, dX3_takeYear_28, dX3_takeYear_31, dX3_takeYear_34, w_flk3_15, w_flk3_25, w_kd_1, w_rf_1_0, w_rf_1_1])
  exact loop 12 0 rfl p0 h3 (by simp only [q_X3_takeYear, pw_2, pw_12, pq_pw, pw_pw])
def pRs (t : Nat → Int) (len : Int) (m : Nat) (p : pP) : pP := if 0 < m then pSign t len 44 p else p
theorem pRs_I {t : Nat → Int} {len : Int} {m : Nat} {p : pP} (h : pI len p) : pI len (pRs t len m p) := by
  unfold pRs
  split
  · exact pSign_I h
  · exact h
def pRl (t : Nat → Int) (len : Int) : Nat → Nat → pP → pP
  | 0, _, p => p
  | n + 1, m, p => if p.2.1 = 0 then p else pRl t len n (m + 1) (pSet (pNum t len 0 99 (pRs t len m p)) m (pNumV t len 0 99 (pRs t len m p)))
theorem pRl_I {t : Nat → Int} {len : Int} : ∀ (n m : Nat) {p : pP}, pI len p → pI len (pRl t len n m p)
  | 0, _, _, h => h
  | n + 1, m, p, h => by
    simp only [pRl]
    split
    · exact h
    · exact pRl_I n (m + 1) (pSet_I (pNum_I (by decide) (pRs_I h)))
def p_X3_takeRule : List wV → wW → Prop := fun av w => match av with
  | [.inr (.inr (some this))] => this = 1 ∧ tI w ∧ pI (w 1 2) (pq w)
  | _ => False
theorem h_X3_takeRule : ∀ av w, p_X3_takeRule av w → ∃ a r, av = vr a :: r ∧ w_kd a = 100 + 3 := by
  intro av w h
  unfold p_X3_takeRule at h
  split at h
  · refine ⟨_, _, rfl, ?_⟩
    first | (rw [h.1]; rfl) | (rw [h]; rfl)
  · exact h.elim
def q_X3_takeRule : List wV → wW → Int → wW → Prop := fun av w r w' => match av with
  | [.inr (.inr (some this))] => w' = pw w (pRl (w 2) (w 1 2) 12 0 (pq w))
  | _ => False
set_option maxRecDepth 100000 in
set_option maxHeartbeats 4000000 in
theorem c_X3_takeRule : w_Ct yX3_takeRule cX3_takeRule 2 0 2 46 p_X3_takeRule q_X3_takeRule := by
  refine w_met (own := RX3) (fl := w_fl3) (gs := w_gs3) (kl := w_kl3) (ki := w_ki3) (cs := [(56, (0, 2, 0, p_X3_takeSign, q_X3_takeSign)), (62, (0, 3, 1, p_X3_takeNumber, q_X3_takeNumber))]) (by decide +kernel) rfl ?_ w_flok3 w_gsok3 w_klok3 w_kiok3 ?_ ?_
  · intro av w h
    unfold p_X3_takeRule at h
    split at h
    · simp [w_pos, w_cat]
    · exact h.elim
  · exact List.forall_mem_cons.mpr ⟨⟨_, _, w_callV (own := RX3) (idx := 56) (ci := 3) c_X3_takeSign rfl rfl h_X3_takeSign (w_m2 213 (by decide +kernel) (by decide +kernel)) (w_m2 215 (by decide +kernel) (by decide +kernel)) (w_m0 2 (by decide +kernel) (by decide +kernel)) (w_m1 2 (by decide +kernel) (by decide +kernel)) (w_m2 216 (by decide +kernel) (by decide +kernel)) ⟨by decide +kernel, by decide +kernel, by decide +kernel⟩, by decide, by decide⟩, List.forall_mem_cons.mpr ⟨⟨_, _, w_callV (own := RX3) (idx := 62) (ci := 3) c_X3_takeNumber rfl rfl h_X3_takeNumber (w_m2 223 (by decide +kernel) (by decide +kernel)) (w_m2 225 (by decide +kernel) (by decide +kernel)) (w_m0 4 (by decide +kernel) (by decide +kernel)) (w_m1 2 (by decide +kernel) (by decide +kernel)) (w_m2 226 (by decide +kernel) (by decide +kernel)) ⟨by decide +kernel, by decide +kernel, by decide +kernel⟩, by decide, by decide⟩, fun _ h => absurd h List.not_mem_nil⟩⟩
  intro av w hp
  unfold p_X3_takeRule at hp
  split at hp
  case h_2 => exact hp.elim
  rename_i this
  intro G hG
  simp only [w_ent, w_pos, w_cat, Nat.reduceEqDiff, ↓reduceIte, List.length_cons, List.length_nil, Nat.reduceAdd, Nat.reduceSub, List.cons_append, List.nil_append, List.replicate_succ, List.replicate_zero]
  obtain ⟨rfl, h2, h3⟩ := hp
  obtain ⟨w, p0, rfl⟩ : ∃ w0 p, w = pw w0 p := ⟨w, pq w, (pw_pq w).symm⟩
  rw [tI_pw] at h2
  rw [pq_pw, pw_12] at h3
  have loop : ∀ n m : Nat, m + n = 12 → ∀ p : pP, pI (w 1 2) p → q_X3_takeRule [vr 1] (pw w p0) 0 (pw w (pRl (w 2) (w 1 2) n m p)) → G 2 [some (vr 1), some (vi m)] [] (pw w p) := by
    intro n
    induction n with
    | zero =>
      intro m hm p hp hq
      (apply hG [2] 2000; simp only [w_br_i, w_ite, w_all, w_all0, forall_eq, w_b0, w_b1, ↓reduceIte, w_ent, w_pos, List.replicate_succ, List.replicate_zero, wp_s, wk_s, w_lk_c, w_ld0, w_ldS, w_kp0, w_kp, w_s1, w_s2, w_to, w_if, w_call, w_sw, w_cat, w_cats, w_psh, w_fv, List.contains_cons, List.contains_nil, List.set_cons_zero, List.set_cons_succ, List.length_cons, List.length_nil, List.find?_cons, List.find?_nil, List.take_succ_cons, List.take_zero, List.drop_succ_cons, List.drop_zero, List.reverse_cons, List.reverse_nil, List.nil_append, List.cons_append, Option.map_some, Option.map_none, Nat.reduceAdd, Nat.reduceBEq, Nat.reduceEqDiff, Nat.reduceLT, Nat.reduceLeDiff, Nat.reduceSub, Int.reduceAdd, Int.reduceSub, Int.reduceMul, Int.reduceNeg, Int.reduceToNat, Int.reduceLT, Int.reduceLE, Int.reduceEq, Bool.false_eq_true, Bool.or_false, Bool.false_or, Bool.true_or, Bool.or_true, if_true, if_false, ite_true, ite_false, true_and, and_true, false_and, and_false, true_or, or_true, false_or, or_false, Int.cast_ofNat_Int, Int.toNat_natCast, Int.natCast_add, List.getElem?_cons_zero, List.getElem?_cons_succ, true_implies, forall_const, not_true_eq_false, not_false_eq_true, ne_eq, beq_iff_eq, imp_self, List.length_set, Nat.zero_add, Nat.add_zero, Int.zero_add, Int.add_zero, w1_iconst, w1_istore_n_1, w1_iload_n_1, w1_bipush, w1_if_icmp, w1_aload_n_0, w1_getfield, w1_ifCond, w1_invokevirtual, w1_iastore, w1_iinc, w1_goto, w1_return, dX3_takeRule_0, dX3_takeRule_1, dX3_takeRule_2, dX3_takeRule_3, dX3_takeRule_5, dX3_takeRule_8, dX3_takeRule_9, dX3_takeRule_12, dX3_takeRule_15, dX3_takeRule_16, dX3_takeRule_19, dX3_takeRule_20, dX3_takeRule_22, dX3_takeRule_25, dX3_takeRule_26, dX3_takeRule_29, dX3_takeRule_30, dX3_takeRule_31, dX3_takeRule_32, dX3_takeRule_34, dX3_takeRule_37, dX3_takeRule_38, dX3_takeRule_41, dX3_takeRule_44, w_flk3_15, w_flk3_25, w_kd_1, w_rf_1_0, w_rf_1_1, w_kd_3, w_ln_3])
      (repeat' (with_reducible (first | refine And.intro ?_ ?_ | intro _))) <;> (try (first | assumption | contradiction | exact Or.inl trivial | exact Or.inl rfl | exact Or.inr rfl | (simp only [inI, inL]; omega) | omega))
      all_goals exact hq
    | succ n ih =>
      intro m hm p hp hq
      have hp2 := hp.2
      have hps := pSign_I (t := w 2) (c := 44) hp
      simp only [pRl] at hq
      have e25 : ¬ p.2.1 = 0 → ∀ p', p' = pRs (w 2) (w 1 2) m p → G 25 [some (vr 1), some (vi m)] [] (pw w p') := by
        intro q p' hp'
        have hI' : pI (w 1 2) p' := by rw [hp']; exact pRs_I hp
        rw [if_neg q, ← hp'] at hq
        have e := ih (m + 1) (by omega) _ (pSet_I (pNum_I (by decide) hI')) hq
        simp only [Int.natCast_add, Int.cast_ofNat_Int] at e
        (apply hG [2] 2000; simp only [w_br_i, w_ite, w_all, w_all0, forall_eq, w_b0, w_b1, ↓reduceIte, w_ent, w_pos, List.replicate_succ, List.replicate_zero, wp_s, wk_s, w_lk_c, w_ld0, w_ldS, w_kp0, w_kp, w_s1, w_s2, w_to, w_if, w_call, w_sw, w_cat, w_cats, w_psh, w_fv, List.contains_cons, List.contains_nil, List.set_cons_zero, List.set_cons_succ, List.length_cons, List.length_nil, List.find?_cons, List.find?_nil, List.take_succ_cons, List.take_zero, List.drop_succ_cons, List.drop_zero, List.reverse_cons, List.reverse_nil, List.nil_append, List.cons_append, Option.map_some, Option.map_none, Nat.reduceAdd, Nat.reduceBEq, Nat.reduceEqDiff, Nat.reduceLT, Nat.reduceLeDiff, Nat.reduceSub, Int.reduceAdd, Int.reduceSub, Int.reduceMul, Int.reduceNeg, Int.reduceToNat, Int.reduceLT, Int.reduceLE, Int.reduceEq, Bool.false_eq_true, Bool.or_false, Bool.false_or, Bool.true_or, Bool.or_true, if_true, if_false, ite_true, ite_false, true_and, and_true, false_and, and_false, true_or, or_true, false_or, or_false, Int.cast_ofNat_Int, Int.toNat_natCast, Int.natCast_add, List.getElem?_cons_zero, List.getElem?_cons_succ, true_implies, forall_const, not_true_eq_false, not_false_eq_true, ne_eq, beq_iff_eq, imp_self, List.length_set, Nat.zero_add, Nat.add_zero, Int.zero_add, Int.add_zero, w1_iconst, w1_istore_n_1, w1_iload_n_1, w1_bipush, w1_if_icmp, w1_aload_n_0, w1_getfield, w1_ifCond, w1_invokevirtual, w1_iastore, w1_iinc, w1_goto, w1_return, dX3_takeRule_0, dX3_takeRule_1, dX3_takeRule_2, dX3_takeRule_3, dX3_takeRule_5, dX3_takeRule_8, dX3_takeRule_9, dX3_takeRule_12, dX3_takeRule_15, dX3_takeRule_16, dX3_takeRule_19, dX3_takeRule_20, dX3_takeRule_22, dX3_takeRule_25, dX3_takeRule_26, dX3_takeRule_29, dX3_takeRule_30, dX3_takeRule_31, dX3_takeRule_32, dX3_takeRule_34, dX3_takeRule_37, dX3_takeRule_38, dX3_takeRule_41, dX3_takeRule_44, w_flk3_15, w_flk3_25, w_kd_1, w_rf_1_0, w_rf_1_1, w_kd_3, w_ln_3, p_X3_takeNumber, q_X3_takeNumber, pw_2, pw_12, pw_14, pw_15, pw_ufs, pq_pw, tI_pw, pw_pw, h2, hI'])
        (repeat' (with_reducible (first | refine And.intro ?_ ?_ | intro _))) <;> (try (first | assumption | contradiction | exact Or.inl trivial | exact Or.inl rfl | exact Or.inr rfl | (simp only [inI, inL]; omega) | omega))
      (apply hG [2, 25] 2000; simp only [w_br_i, w_ite, w_all, w_all0, forall_eq, w_b0, w_b1, ↓reduceIte, w_ent, w_pos, List.replicate_succ, List.replicate_zero, wp_s, wk_s, w_lk_c, w_ld0, w_ldS, w_kp0, w_kp, w_s1, w_s2, w_to, w_if, w_call, w_sw, w_cat, w_cats, w_psh, w_fv, List.contains_cons, List.contains_nil, List.set_cons_zero, List.set_cons_succ, List.length_cons, List.length_nil, List.find?_cons, List.find?_nil, List.take_succ_cons, List.take_zero, List.drop_succ_cons, List.drop_zero, List.reverse_cons, List.reverse_nil, List.nil_append, List.cons_append, Option.map_some, Option.map_none, Nat.reduceAdd, Nat.reduceBEq, Nat.reduceEqDiff, Nat.reduceLT, Nat.reduceLeDiff, Nat.reduceSub, Int.reduceAdd, Int.reduceSub, Int.reduceMul, Int.reduceNeg, Int.reduceToNat, Int.reduceLT, Int.reduceLE, Int.reduceEq, Bool.false_eq_true, Bool.or_false, Bool.false_or, Bool.true_or, Bool.or_true, if_true, if_false, ite_true, ite_false, true_and, and_true, false_and, and_false, true_or, or_true, false_or, or_false, Int.cast_ofNat_Int, Int.toNat_natCast, Int.natCast_add, List.getElem?_cons_zero, List.getElem?_cons_succ, true_implies, forall_const, not_true_eq_false, not_false_eq_true, ne_eq, beq_iff_eq, imp_self, List.length_set, Nat.zero_add, Nat.add_zero, Int.zero_add, Int.add_zero, w1_iconst, w1_istore_n_1, w1_iload_n_1, w1_bipush, w1_if_icmp, w1_aload_n_0, w1_getfield, w1_ifCond, w1_invokevirtual, w1_iastore, w1_iinc, w1_goto, w1_return, dX3_takeRule_0, dX3_takeRule_1, dX3_takeRule_2, dX3_takeRule_3, dX3_takeRule_5, dX3_takeRule_8, dX3_takeRule_9, dX3_takeRule_12, dX3_takeRule_15, dX3_takeRule_16, dX3_takeRule_19, dX3_takeRule_20, dX3_takeRule_22, dX3_takeRule_25, dX3_takeRule_26, dX3_takeRule_29, dX3_takeRule_30, dX3_takeRule_31, dX3_takeRule_32, dX3_takeRule_34, dX3_takeRule_37, dX3_takeRule_38, dX3_takeRule_41, dX3_takeRule_44, w_flk3_15, w_flk3_25, w_kd_1, w_rf_1_0, w_rf_1_1, w_kd_3, w_ln_3, p_X3_takeSign, q_X3_takeSign, pw_2, pw_12, pw_14, pw_15, pw_ufs, pq_pw, tI_pw, pw_pw, h2, hp])
      (repeat' (with_reducible (first | refine And.intro ?_ ?_ | intro _))) <;> (try (first | assumption | contradiction | exact Or.inl trivial | exact Or.inl rfl | exact Or.inr rfl | (simp only [inI, inL]; omega) | omega))
      all_goals first
        | exact e25 (by assumption) _ (by unfold pRs; rw [if_pos (by omega)])
        | exact e25 (by assumption) _ (by unfold pRs; rw [if_neg (by omega)])
        | (rw [if_pos (by assumption)] at hq; exact hq)
  (apply hG [2] 2000; simp only [w_br_i, w_ite, w_all, w_all0, forall_eq, w_b0, w_b1, ↓reduceIte, w_ent, w_pos, List.replicate_succ, List.replicate_zero, wp_s, wk_s, w_lk_c, w_ld0, w_ldS, w_kp0, w_kp, w_s1, w_s2, w_to, w_if, w_call, w_sw, w_cat, w_cats, w_psh, w_fv, List.contains_cons, List.contains_nil, List.set_cons_zero, List.set_cons_succ, List.length_cons, List.length_nil, List.find?_cons, List.find?_nil, List.take_succ_cons, List.take_zero, List.drop_succ_cons, List.drop_zero, List.reverse_cons, List.reverse_nil, List.nil_append, List.cons_append, Option.map_some, Option.map_none, Nat.reduceAdd, Nat.reduceBEq, Nat.reduceEqDiff, Nat.reduceLT, Nat.reduceLeDiff, Nat.reduceSub, Int.reduceAdd, Int.reduceSub, Int.reduceMul, Int.reduceNeg, Int.reduceToNat, Int.reduceLT, Int.reduceLE, Int.reduceEq, Bool.false_eq_true, Bool.or_false, Bool.false_or, Bool.true_or, Bool.or_true, if_true, if_false, ite_true, ite_false, true_and, and_true, false_and, and_false, true_or, or_true, false_or, or_false, Int.cast_ofNat_Int, Int.toNat_natCast, Int.natCast_add, List.getElem?_cons_zero, List.getElem?_cons_succ, true_implies, forall_const, not_true_eq_false, not_false_eq_true, ne_eq, beq_iff_eq, imp_self, List.length_set, Nat.zero_add, Nat.add_zero, Int.zero_add, Int.add_zero, w1_iconst, w1_istore_n_1, w1_iload_n_1, w1_bipush, w1_if_icmp, w1_aload_n_0, w1_getfield, w1_ifCond, w1_invokevirtual, w1_iastore, w1_iinc, w1_goto, w1_return, dX3_takeRule_0, dX3_takeRule_1, dX3_takeRule_2, dX3_takeRule_3, dX3_takeRule_5, dX3_takeRule_8, dX3_takeRule_9, dX3_takeRule_12, dX3_takeRule_15, dX3_takeRule_16, dX3_takeRule_19, dX3_takeRule_20, dX3_takeRule_22, dX3_takeRule_25, dX3_takeRule_26, dX3_takeRule_29, dX3_takeRule_30, dX3_takeRule_31, dX3_takeRule_32, dX3_takeRule_34, dX3_takeRule_37, dX3_takeRule_38, dX3_takeRule_41, dX3_takeRule_44, w_flk3_15, w_flk3_25, w_kd_1, w_rf_1_0, w_rf_1_1])
  exact loop 12 0 rfl p0 h3 (by simp only [q_X3_takeRule, pw_2, pw_12, pq_pw, pw_pw])
def pU0 (p : pP) (v : Int) : pP := (p.1, p.2.1, p.2.2.1, v)
theorem pw_u3s (w : wW) (p : pP) (v : Int) : w_up (pw w p) 1 3 v = pw w (pU0 p v) := pw_u3 w p v
def pHd (t : Nat → Int) (len : Int) (p : pP) : pP := pSet (pSet (pSet (pFld t len 119 3 0 9 (pFld t len 108 2 0 9 (pFld t len 115 1 0 200 (pFld t len 97 0 1 20 p)))) 4 0) 5 0) 6 0
def pK (t : Nat → Int) (len : Int) (p : pP) : pP := if pSeesV t len 107 p = 0 then p else pFld t len 107 4 0 9 p
def pPq (t : Nat → Int) (len : Int) (p : pP) : pP := if pSeesV t len 112 p = 0 then p else pFld t len 113 6 0 9 (pFld t len 112 5 1 5 p)
def pUs (t : Nat → Int) (len : Int) : Nat → Nat → pP → pP
  | 0, _, p => p
  | n + 1, u, p => if ¬ (pUse t len (7 + 3 * u) p).2.1 = 0 ∧ (pUse t len (7 + 3 * u) p).1 < len ∧ 0 < n then pUs t len n (u + 1) (pU0 (pUse t len (7 + 3 * u) p) (u + 1 : Nat)) else pU0 (pUse t len (7 + 3 * u) p) (u + 1 : Nat)
def pHs (t : Nat → Int) (len : Int) (p : pP) : pP := pUs t len 3 0 (pU0 (pPq t len (pK t len (pHd t len p))) 0)
theorem pHd_I {t : Nat → Int} {len : Int} {p : pP} (h : pI len p) : pI len (pHd t len p) := by
  unfold pHd
  exact pSet_I (pSet_I (pSet_I (pFld_I (by decide) (pFld_I (by decide) (pFld_I (by decide) (pFld_I (by decide) h))))))
theorem pK_I {t : Nat → Int} {len : Int} {p : pP} (h : pI len p) : pI len (pK t len p) := by
  unfold pK
  split
  · exact h
  · exact pFld_I (by decide) h
theorem pPq_I {t : Nat → Int} {len : Int} {p : pP} (h : pI len p) : pI len (pPq t len p) := by
  unfold pPq
  split
  · exact h
  · exact pFld_I (by decide) (pFld_I (by decide) h)
theorem pUs_I {t : Nat → Int} {len : Int} : ∀ (n u : Nat) {p : pP}, pI len p → pI len (pUs t len n u p)
  | 0, _, _, h => h
  | n + 1, u, p, h => by
    simp only [pUs]
    split
    · exact pUs_I n (u + 1) (pUse_I h)
    · exact pUse_I h
theorem pHs_I {t : Nat → Int} {len : Int} {p : pP} (h : pI len p) : pI len (pHs t len p) := pUs_I 3 0 (pPq_I (pK_I (pHd_I h)))
theorem o_msts : o_mst 0 = 20 ∧ o_mst 1 = 200 ∧ o_mst 2 = 9 ∧ o_mst 3 = 9 ∧ o_mst 4 = 9 ∧ o_mst 5 = 5 ∧ o_mst 6 = 9 := by decide
theorem o_svs : w_sv 157 0 = 1 ∧ w_sv 157 1 = 0 ∧ w_sv 157 2 = 0 ∧ w_sv 157 3 = 0 ∧ w_sv 157 4 = 0 ∧ w_sv 157 6 = 0 := by decide
def p_X3_takeHouse : List wV → wW → Prop := fun av w => match av with
  | [.inr (.inr (some this))] => this = 1 ∧ tI w ∧ pI (w 1 2) (pq w)
  | _ => False
theorem h_X3_takeHouse : ∀ av w, p_X3_takeHouse av w → ∃ a r, av = vr a :: r ∧ w_kd a = 100 + 3 := by
  intro av w h
  unfold p_X3_takeHouse at h
  split at h
  · refine ⟨_, _, rfl, ?_⟩
    first | (rw [h.1]; rfl) | (rw [h]; rfl)
  · exact h.elim
def q_X3_takeHouse : List wV → wW → Int → wW → Prop := fun av w r w' => match av with
  | [.inr (.inr (some this))] => w' = pw w (pHs (w 2) (w 1 2) (pq w))
  | _ => False
set_option maxRecDepth 100000 in
set_option maxHeartbeats 4000000 in
theorem c_X3_takeHouse : w_Ct yX3_takeHouse cX3_takeHouse 1 0 3 69 p_X3_takeHouse q_X3_takeHouse := by
  refine w_met (own := RX3) (fl := w_fl3) (gs := w_gs3) (kl := w_kl3) (ki := w_ki3) (cs := [(41, (0, 4, 0, p_X3_takeNamed, q_X3_takeNamed)), (45, (0, 2, 3, p_X3_sees, q_X3_sees)), (52, (0, 2, 0, p_X3_takeUse, q_X3_takeUse))]) (by decide +kernel) rfl ?_ w_flok3 w_gsok3 w_klok3 w_kiok3 ?_ ?_
  · intro av w h
    unfold p_X3_takeHouse at h
    split at h
    · simp [w_pos, w_cat]
    · exact h.elim
  · exact List.forall_mem_cons.mpr ⟨⟨_, _, w_callV (own := RX3) (idx := 41) (ci := 3) c_X3_takeNamed rfl rfl h_X3_takeNamed (w_m2 209 (by decide +kernel) (by decide +kernel)) (w_m2 211 (by decide +kernel) (by decide +kernel)) (w_m0 1 (by decide +kernel) (by decide +kernel)) (w_m1 2 (by decide +kernel) (by decide +kernel)) (w_m2 212 (by decide +kernel) (by decide +kernel)) ⟨by decide +kernel, by decide +kernel, by decide +kernel⟩, by decide, by decide⟩, List.forall_mem_cons.mpr ⟨⟨_, _, w_callV (own := RX3) (idx := 45) (ci := 3) c_X3_sees rfl rfl h_X3_sees (w_m2 217 (by decide +kernel) (by decide +kernel)) (w_m2 219 (by decide +kernel) (by decide +kernel)) (w_m0 3 (by decide +kernel) (by decide +kernel)) (w_m1 2 (by decide +kernel) (by decide +kernel)) (w_m2 220 (by decide +kernel) (by decide +kernel)) ⟨by decide +kernel, by decide +kernel, by decide +kernel⟩, by decide, by decide⟩, List.forall_mem_cons.mpr ⟨⟨_, _, w_callV (own := RX3) (idx := 52) (ci := 3) c_X3_takeUse rfl rfl h_X3_takeUse (w_m2 231 (by decide +kernel) (by decide +kernel)) (w_m2 233 (by decide +kernel) (by decide +kernel)) (w_m0 6 (by decide +kernel) (by decide +kernel)) (w_m1 2 (by decide +kernel) (by decide +kernel)) (w_m2 234 (by decide +kernel) (by decide +kernel)) ⟨by decide +kernel, by decide +kernel, by decide +kernel⟩, by decide, by decide⟩, fun _ h => absurd h List.not_mem_nil⟩⟩⟩
  intro av w hp
  unfold p_X3_takeHouse at hp
  split at hp
  case h_2 => exact hp.elim
  rename_i this
  intro G hG
  simp only [w_ent, w_pos, w_cat, Nat.reduceEqDiff, ↓reduceIte, List.length_cons, List.length_nil, Nat.reduceAdd, Nat.reduceSub, List.cons_append, List.nil_append, List.replicate_succ, List.replicate_zero]
  obtain ⟨rfl, h2, h3⟩ := hp
  obtain ⟨w, p0, rfl⟩ : ∃ w0 p, w = pw w0 p := ⟨w, pq w, (pw_pq w).symm⟩
  rw [tI_pw] at h2
  rw [pq_pw, pw_12] at h3
  obtain ⟨m0, m1, m2, m3, m4, m5, m6⟩ := o_msts
  obtain ⟨s0, s1, s2, s3, s4, s6⟩ := o_svs
  have hlen := h2.1
  have loop : ∀ n u : Nat, u + n = 3 → 0 < n → ∀ p : pP, p.2.2.2 = u → pI (w 1 2) p → q_X3_takeHouse [vr 1] (pw w p0) 0 (pw w (pUs (w 2) (w 1 2) n u p)) → G 127 [some (vr 1)] [] (pw w p) := by
    intro n
    induction n with
    | zero => intro u _ h; omega
    | succ n ih =>
      intro u hu _ p hpu hp hq
      have hg := pUse_I (t := w 2) (j := 7 + 3 * u) hp
      have hg2 := hg
      obtain ⟨h81, h82⟩ := hg2
      have hu3 : (pUse (w 2) (w 1 2) (7 + 3 * u) p).2.2.2 = u := by
        have e : ∀ c j least most p, (pFld (w 2) (w 1 2) c j least most p).2.2.2 = p.2.2.2 := by
          intro c j least most p
          unfold pFld pSet pNum pSign
          dsimp only
          split <;> (try split) <;> rfl
        have e2 : (pSign (w 2) (w 1 2) 59 p).2.2.2 = p.2.2.2 := by unfold pSign; split <;> rfl
        unfold pUse
        rw [e, e, e, e2, hpu]
      have t1 : (7 + 3 * (u : Int)).toNat = 7 + 3 * u := by omega
      simp only [pUs] at hq
      (apply hG [127] 2000; simp only [w_br_i, w_ite, w_all, w_all0, forall_eq, w_b0, w_b1, ↓reduceIte, w_ent, w_pos, List.replicate_succ, List.replicate_zero, wp_s, wk_s, w_lk_c, w_ld0, w_ldS, w_kp0, w_kp, w_s1, w_s2, w_to, w_if, w_call, w_sw, w_cat, w_cats, w_psh, w_fv, List.contains_cons, List.contains_nil, List.set_cons_zero, List.set_cons_succ, List.length_cons, List.length_nil, List.find?_cons, List.find?_nil, List.take_succ_cons, List.take_zero, List.drop_succ_cons, List.drop_zero, List.reverse_cons, List.reverse_nil, List.nil_append, List.cons_append, Option.map_some, Option.map_none, Nat.reduceAdd, Nat.reduceBEq, Nat.reduceEqDiff, Nat.reduceLT, Nat.reduceLeDiff, Nat.reduceSub, Int.reduceAdd, Int.reduceSub, Int.reduceMul, Int.reduceNeg, Int.reduceToNat, Int.reduceLT, Int.reduceLE, Int.reduceEq, Bool.false_eq_true, Bool.or_false, Bool.false_or, Bool.true_or, Bool.or_true, if_true, if_false, ite_true, ite_false, true_and, and_true, false_and, and_false, true_or, or_true, false_or, or_false, Int.cast_ofNat_Int, Int.toNat_natCast, Int.natCast_add, List.getElem?_cons_zero, List.getElem?_cons_succ, true_implies, forall_const, not_true_eq_false, not_false_eq_true, ne_eq, beq_iff_eq, imp_self, List.length_set, Nat.zero_add, Nat.add_zero, Int.zero_add, Int.add_zero, w1_aload_n_0, w1_bipush, w1_iconst, w1_getstatic, w1_iaload, w1_invokevirtual, w1_getfield, w1_iastore, w1_ifCond, w1_putfield, w1_putfield2, w1_imul, w1_iadd, w1_dup, w1_dup2, w1_if_icmp, w1_return, dX3_takeHouse_0, dX3_takeHouse_1, dX3_takeHouse_3, dX3_takeHouse_4, dX3_takeHouse_7, dX3_takeHouse_8, dX3_takeHouse_9, dX3_takeHouse_12, dX3_takeHouse_13, dX3_takeHouse_15, dX3_takeHouse_16, dX3_takeHouse_19, dX3_takeHouse_20, dX3_takeHouse_21, dX3_takeHouse_24, dX3_takeHouse_25, dX3_takeHouse_27, dX3_takeHouse_28, dX3_takeHouse_31, dX3_takeHouse_32, dX3_takeHouse_33, dX3_takeHouse_36, dX3_takeHouse_37, dX3_takeHouse_39, dX3_takeHouse_40, dX3_takeHouse_43, dX3_takeHouse_44, dX3_takeHouse_45, dX3_takeHouse_48, dX3_takeHouse_49, dX3_takeHouse_52, dX3_takeHouse_53, dX3_takeHouse_54, dX3_takeHouse_55, dX3_takeHouse_56, dX3_takeHouse_59, dX3_takeHouse_60, dX3_takeHouse_61, dX3_takeHouse_62, dX3_takeHouse_63, dX3_takeHouse_66, dX3_takeHouse_68, dX3_takeHouse_69, dX3_takeHouse_70, dX3_takeHouse_71, dX3_takeHouse_73, dX3_takeHouse_76, dX3_takeHouse_79, dX3_takeHouse_80, dX3_takeHouse_82, dX3_takeHouse_83, dX3_takeHouse_86, dX3_takeHouse_87, dX3_takeHouse_88, dX3_takeHouse_91, dX3_takeHouse_92, dX3_takeHouse_94, dX3_takeHouse_97, dX3_takeHouse_100, dX3_takeHouse_101, dX3_takeHouse_103, dX3_takeHouse_104, dX3_takeHouse_105, dX3_takeHouse_108, dX3_takeHouse_109, dX3_takeHouse_111, dX3_takeHouse_113, dX3_takeHouse_116, dX3_takeHouse_118, dX3_takeHouse_119, dX3_takeHouse_122, dX3_takeHouse_123, dX3_takeHouse_124, dX3_takeHouse_127, dX3_takeHouse_128, dX3_takeHouse_130, dX3_takeHouse_131, dX3_takeHouse_132, dX3_takeHouse_135, dX3_takeHouse_136, dX3_takeHouse_137, dX3_takeHouse_140, dX3_takeHouse_141, dX3_takeHouse_142, dX3_takeHouse_145, dX3_takeHouse_146, dX3_takeHouse_147, dX3_takeHouse_150, dX3_takeHouse_151, dX3_takeHouse_154, dX3_takeHouse_157, dX3_takeHouse_158, dX3_takeHouse_161, dX3_takeHouse_162, dX3_takeHouse_165, dX3_takeHouse_168, dX3_takeHouse_169, dX3_takeHouse_172, dX3_takeHouse_173, dX3_takeHouse_176, w_flk3_15, w_flk3_18, w_flk3_22, w_flk3_25, w_flk3_49, w_gsk3_38, w_kd_1, w_rf_1_0, w_rf_1_1, w_kd_3, w_ln_3, p_X3_takeUse, q_X3_takeUse, pw_2, pw_12, pw_13, pw_14, pw_15, pw_u3s, pw_ufs, pq_pw, tI_pw, pw_pw, h2, hp, hpu, hu3, t1])
      by_cases q : ¬ (pUse (w 2) (w 1 2) (7 + 3 * u) p).2.1 = 0 ∧ (pUse (w 2) (w 1 2) (7 + 3 * u) p).1 < w 1 2 ∧ 0 < n
      · rw [if_pos q] at hq
        have e := ih (u + 1) (by omega) q.2.2 (pU0 (pUse (w 2) (w 1 2) (7 + 3 * u) p) (u + 1 : Nat)) rfl hg hq
        simp only [Int.natCast_add, Int.cast_ofNat_Int] at e
        simp only [pU0]
        (repeat' (with_reducible (first | refine And.intro ?_ ?_ | intro _))) <;> (try (first | assumption | contradiction | exact Or.inl trivial | exact Or.inl rfl | exact Or.inr rfl | (simp only [inI, inL]; omega) | omega))
      · rw [if_neg q] at hq
        simp only [Int.natCast_add, Int.cast_ofNat_Int] at hq
        simp only [pU0] at hq ⊢
        (repeat' (with_reducible (first | refine And.intro ?_ ?_ | intro _))) <;> (try (first | assumption | contradiction | exact Or.inl trivial | exact Or.inl rfl | exact Or.inr rfl | (simp only [inI, inL]; omega) | omega))
  have g1 := pFld_I (t := w 2) (c := 97) (j := 0) (least := 1) (most := 20) (by decide) h3
  have g2 := pFld_I (t := w 2) (c := 115) (j := 1) (least := 0) (most := 200) (by decide) g1
  have g3 := pFld_I (t := w 2) (c := 108) (j := 2) (least := 0) (most := 9) (by decide) g2
  have g4 := pHd_I (t := w 2) h3
  have g5 := pK_I (t := w 2) g4
  have g6 := pPq_I (t := w 2) g5
  have gk := pFld_I (t := w 2) (c := 107) (j := 4) (least := 0) (most := 9) (by decide) g4
  have gp := pFld_I (t := w 2) (c := 112) (j := 5) (least := 1) (most := 5) (by decide) g5
  have hq : q_X3_takeHouse [vr 1] (pw w p0) 0 (pw w (pHs (w 2) (w 1 2) p0)) := by simp only [q_X3_takeHouse, pw_2, pw_12, pq_pw, pw_pw]
  have sv : ∀ c p, pSeesV (w 2) (w 1 2) c p = 0 ∨ pSeesV (w 2) (w 1 2) c p = 1 := by
    intro c p
    unfold pSeesV
    split
    · exact Or.inr rfl
    · exact Or.inl rfl
  have e122 : G 122 [some (vr 1)] [] (pw w (pPq (w 2) (w 1 2) (pK (w 2) (w 1 2) (pHd (w 2) (w 1 2) p0)))) := by
    have e := loop 3 0 rfl (by decide) _ (show (pU0 (pPq (w 2) (w 1 2) (pK (w 2) (w 1 2) (pHd (w 2) (w 1 2) p0))) 0).2.2.2 = ((0 : Nat) : Int) from rfl) g6 hq
    (apply hG [127] 2000; simp only [w_br_i, w_ite, w_all, w_all0, forall_eq, w_b0, w_b1, ↓reduceIte, w_ent, w_pos, List.replicate_succ, List.replicate_zero, wp_s, wk_s, w_lk_c, w_ld0, w_ldS, w_kp0, w_kp, w_s1, w_s2, w_to, w_if, w_call, w_sw, w_cat, w_cats, w_psh, w_fv, List.contains_cons, List.contains_nil, List.set_cons_zero, List.set_cons_succ, List.length_cons, List.length_nil, List.find?_cons, List.find?_nil, List.take_succ_cons, List.take_zero, List.drop_succ_cons, List.drop_zero, List.reverse_cons, List.reverse_nil, List.nil_append, List.cons_append, Option.map_some, Option.map_none, Nat.reduceAdd, Nat.reduceBEq, Nat.reduceEqDiff, Nat.reduceLT, Nat.reduceLeDiff, Nat.reduceSub, Int.reduceAdd, Int.reduceSub, Int.reduceMul, Int.reduceNeg, Int.reduceToNat, Int.reduceLT, Int.reduceLE, Int.reduceEq, Bool.false_eq_true, Bool.or_false, Bool.false_or, Bool.true_or, Bool.or_true, if_true, if_false, ite_true, ite_false, true_and, and_true, false_and, and_false, true_or, or_true, false_or, or_false, Int.cast_ofNat_Int, Int.toNat_natCast, Int.natCast_add, List.getElem?_cons_zero, List.getElem?_cons_succ, true_implies, forall_const, not_true_eq_false, not_false_eq_true, ne_eq, beq_iff_eq, imp_self, List.length_set, Nat.zero_add, Nat.add_zero, Int.zero_add, Int.add_zero, w1_aload_n_0, w1_bipush, w1_iconst, w1_getstatic, w1_iaload, w1_invokevirtual, w1_getfield, w1_iastore, w1_ifCond, w1_putfield, w1_putfield2, w1_imul, w1_iadd, w1_dup, w1_dup2, w1_if_icmp, w1_return, dX3_takeHouse_0, dX3_takeHouse_1, dX3_takeHouse_3, dX3_takeHouse_4, dX3_takeHouse_7, dX3_takeHouse_8, dX3_takeHouse_9, dX3_takeHouse_12, dX3_takeHouse_13, dX3_takeHouse_15, dX3_takeHouse_16, dX3_takeHouse_19, dX3_takeHouse_20, dX3_takeHouse_21, dX3_takeHouse_24, dX3_takeHouse_25, dX3_takeHouse_27, dX3_takeHouse_28, dX3_takeHouse_31, dX3_takeHouse_32, dX3_takeHouse_33, dX3_takeHouse_36, dX3_takeHouse_37, dX3_takeHouse_39, dX3_takeHouse_40, dX3_takeHouse_43, dX3_takeHouse_44, dX3_takeHouse_45, dX3_takeHouse_48, dX3_takeHouse_49, dX3_takeHouse_52, dX3_takeHouse_53, dX3_takeHouse_54, dX3_takeHouse_55, dX3_takeHouse_56, dX3_takeHouse_59, dX3_takeHouse_60, dX3_takeHouse_61, dX3_takeHouse_62, dX3_takeHouse_63, dX3_takeHouse_66, dX3_takeHouse_68, dX3_takeHouse_69, dX3_takeHouse_70, dX3_takeHouse_71, dX3_takeHouse_73, dX3_takeHouse_76, dX3_takeHouse_79, dX3_takeHouse_80, dX3_takeHouse_82, dX3_takeHouse_83, dX3_takeHouse_86, dX3_takeHouse_87, dX3_takeHouse_88, dX3_takeHouse_91, dX3_takeHouse_92, dX3_takeHouse_94, dX3_takeHouse_97, dX3_takeHouse_100, dX3_takeHouse_101, dX3_takeHouse_103, dX3_takeHouse_104, dX3_takeHouse_105, dX3_takeHouse_108, dX3_takeHouse_109, dX3_takeHouse_111, dX3_takeHouse_113, dX3_takeHouse_116, dX3_takeHouse_118, dX3_takeHouse_119, dX3_takeHouse_122, dX3_takeHouse_123, dX3_takeHouse_124, dX3_takeHouse_127, dX3_takeHouse_128, dX3_takeHouse_130, dX3_takeHouse_131, dX3_takeHouse_132, dX3_takeHouse_135, dX3_takeHouse_136, dX3_takeHouse_137, dX3_takeHouse_140, dX3_takeHouse_141, dX3_takeHouse_142, dX3_takeHouse_145, dX3_takeHouse_146, dX3_takeHouse_147, dX3_takeHouse_150, dX3_takeHouse_151, dX3_takeHouse_154, dX3_takeHouse_157, dX3_takeHouse_158, dX3_takeHouse_161, dX3_takeHouse_162, dX3_takeHouse_165, dX3_takeHouse_168, dX3_takeHouse_169, dX3_takeHouse_172, dX3_takeHouse_173, dX3_takeHouse_176, w_flk3_15, w_flk3_18, w_flk3_22, w_flk3_25, w_flk3_49, w_gsk3_38, w_kd_1, w_rf_1_0, w_rf_1_1, pw_u3s])
    exact e
  have e91 : G 91 [some (vr 1)] [] (pw w (pK (w 2) (w 1 2) (pHd (w 2) (w 1 2) p0))) := by
    have s := sv 112 (pK (w 2) (w 1 2) (pHd (w 2) (w 1 2) p0))
    (apply hG [122, 127] 2000; simp only [w_br_i, w_ite, w_all, w_all0, forall_eq, w_b0, w_b1, ↓reduceIte, w_ent, w_pos, List.replicate_succ, List.replicate_zero, wp_s, wk_s, w_lk_c, w_ld0, w_ldS, w_kp0, w_kp, w_s1, w_s2, w_to, w_if, w_call, w_sw, w_cat, w_cats, w_psh, w_fv, List.contains_cons, List.contains_nil, List.set_cons_zero, List.set_cons_succ, List.length_cons, List.length_nil, List.find?_cons, List.find?_nil, List.take_succ_cons, List.take_zero, List.drop_succ_cons, List.drop_zero, List.reverse_cons, List.reverse_nil, List.nil_append, List.cons_append, Option.map_some, Option.map_none, Nat.reduceAdd, Nat.reduceBEq, Nat.reduceEqDiff, Nat.reduceLT, Nat.reduceLeDiff, Nat.reduceSub, Int.reduceAdd, Int.reduceSub, Int.reduceMul, Int.reduceNeg, Int.reduceToNat, Int.reduceLT, Int.reduceLE, Int.reduceEq, Bool.false_eq_true, Bool.or_false, Bool.false_or, Bool.true_or, Bool.or_true, if_true, if_false, ite_true, ite_false, true_and, and_true, false_and, and_false, true_or, or_true, false_or, or_false, Int.cast_ofNat_Int, Int.toNat_natCast, Int.natCast_add, List.getElem?_cons_zero, List.getElem?_cons_succ, true_implies, forall_const, not_true_eq_false, not_false_eq_true, ne_eq, beq_iff_eq, imp_self, List.length_set, Nat.zero_add, Nat.add_zero, Int.zero_add, Int.add_zero, w1_aload_n_0, w1_bipush, w1_iconst, w1_getstatic, w1_iaload, w1_invokevirtual, w1_getfield, w1_iastore, w1_ifCond, w1_putfield, w1_putfield2, w1_imul, w1_iadd, w1_dup, w1_dup2, w1_if_icmp, w1_return, dX3_takeHouse_0, dX3_takeHouse_1, dX3_takeHouse_3, dX3_takeHouse_4, dX3_takeHouse_7, dX3_takeHouse_8, dX3_takeHouse_9, dX3_takeHouse_12, dX3_takeHouse_13, dX3_takeHouse_15, dX3_takeHouse_16, dX3_takeHouse_19, dX3_takeHouse_20, dX3_takeHouse_21, dX3_takeHouse_24, dX3_takeHouse_25, dX3_takeHouse_27, dX3_takeHouse_28, dX3_takeHouse_31, dX3_takeHouse_32, dX3_takeHouse_33, dX3_takeHouse_36, dX3_takeHouse_37, dX3_takeHouse_39, dX3_takeHouse_40, dX3_takeHouse_43, dX3_takeHouse_44, dX3_takeHouse_45, dX3_takeHouse_48, dX3_takeHouse_49, dX3_takeHouse_52, dX3_takeHouse_53, dX3_takeHouse_54, dX3_takeHouse_55, dX3_takeHouse_56, dX3_takeHouse_59, dX3_takeHouse_60, dX3_takeHouse_61, dX3_takeHouse_62, dX3_takeHouse_63, dX3_takeHouse_66, dX3_takeHouse_68, dX3_takeHouse_69, dX3_takeHouse_70, dX3_takeHouse_71, dX3_takeHouse_73, dX3_takeHouse_76, dX3_takeHouse_79, dX3_takeHouse_80, dX3_takeHouse_82, dX3_takeHouse_83, dX3_takeHouse_86, dX3_takeHouse_87, dX3_takeHouse_88, dX3_takeHouse_91, dX3_takeHouse_92, dX3_takeHouse_94, dX3_takeHouse_97, dX3_takeHouse_100, dX3_takeHouse_101, dX3_takeHouse_103, dX3_takeHouse_104, dX3_takeHouse_105, dX3_takeHouse_108, dX3_takeHouse_109, dX3_takeHouse_111, dX3_takeHouse_113, dX3_takeHouse_116, dX3_takeHouse_118, dX3_takeHouse_119, dX3_takeHouse_122, dX3_takeHouse_123, dX3_takeHouse_124, dX3_takeHouse_127, dX3_takeHouse_128, dX3_takeHouse_130, dX3_takeHouse_131, dX3_takeHouse_132, dX3_takeHouse_135, dX3_takeHouse_136, dX3_takeHouse_137, dX3_takeHouse_140, dX3_takeHouse_141, dX3_takeHouse_142, dX3_takeHouse_145, dX3_takeHouse_146, dX3_takeHouse_147, dX3_takeHouse_150, dX3_takeHouse_151, dX3_takeHouse_154, dX3_takeHouse_157, dX3_takeHouse_158, dX3_takeHouse_161, dX3_takeHouse_162, dX3_takeHouse_165, dX3_takeHouse_168, dX3_takeHouse_169, dX3_takeHouse_172, dX3_takeHouse_173, dX3_takeHouse_176, w_flk3_15, w_flk3_18, w_flk3_22, w_flk3_25, w_flk3_49, w_gsk3_38, w_kd_1, w_rf_1_0, w_rf_1_1, w_kd_158, w_ln_158, w_kd_157, w_ln_157, p_X3_takeNamed, q_X3_takeNamed, p_X3_sees, q_X3_sees, pw_2, pw_12, pw_ufs, pq_pw, tI_pw, pw_pw, h2, g5, gp, m5, m6, s6])
    unfold pPq at e122
    by_cases q : pSeesV (w 2) (w 1 2) 112 (pK (w 2) (w 1 2) (pHd (w 2) (w 1 2) p0)) = 0
    · rw [if_pos q] at e122
      (repeat' (with_reducible (first | refine And.intro ?_ ?_ | intro _))) <;> (try (first | assumption | contradiction | exact Or.inl trivial | exact Or.inl rfl | exact Or.inr rfl | (simp only [inI, inL]; omega) | omega))
    · rw [if_neg q] at e122
      (repeat' (with_reducible (first | refine And.intro ?_ ?_ | intro _))) <;> (try (first | assumption | contradiction | exact Or.inl trivial | exact Or.inl rfl | exact Or.inr rfl | (simp only [inI, inL]; omega) | omega))
  have s := sv 107 (pHd (w 2) (w 1 2) p0)
  unfold pK at e91
  have hd : pSet (pSet (pSet (pFld (w 2) (w 1 2) 119 3 0 9 (pFld (w 2) (w 1 2) 108 2 0 9 (pFld (w 2) (w 1 2) 115 1 0 200 (pFld (w 2) (w 1 2) 97 0 1 20 p0)))) 4 0) 5 0) 6 0 = pHd (w 2) (w 1 2) p0 := rfl
  (apply hG [91, 127] 2000; simp only [w_br_i, w_ite, w_all, w_all0, forall_eq, w_b0, w_b1, ↓reduceIte, w_ent, w_pos, List.replicate_succ, List.replicate_zero, wp_s, wk_s, w_lk_c, w_ld0, w_ldS, w_kp0, w_kp, w_s1, w_s2, w_to, w_if, w_call, w_sw, w_cat, w_cats, w_psh, w_fv, List.contains_cons, List.contains_nil, List.set_cons_zero, List.set_cons_succ, List.length_cons, List.length_nil, List.find?_cons, List.find?_nil, List.take_succ_cons, List.take_zero, List.drop_succ_cons, List.drop_zero, List.reverse_cons, List.reverse_nil, List.nil_append, List.cons_append, Option.map_some, Option.map_none, Nat.reduceAdd, Nat.reduceBEq, Nat.reduceEqDiff, Nat.reduceLT, Nat.reduceLeDiff, Nat.reduceSub, Int.reduceAdd, Int.reduceSub, Int.reduceMul, Int.reduceNeg, Int.reduceToNat, Int.reduceLT, Int.reduceLE, Int.reduceEq, Bool.false_eq_true, Bool.or_false, Bool.false_or, Bool.true_or, Bool.or_true, if_true, if_false, ite_true, ite_false, true_and, and_true, false_and, and_false, true_or, or_true, false_or, or_false, Int.cast_ofNat_Int, Int.toNat_natCast, Int.natCast_add, List.getElem?_cons_zero, List.getElem?_cons_succ, true_implies, forall_const, not_true_eq_false, not_false_eq_true, ne_eq, beq_iff_eq, imp_self, List.length_set, Nat.zero_add, Nat.add_zero, Int.zero_add, Int.add_zero, w1_aload_n_0, w1_bipush, w1_iconst, w1_getstatic, w1_iaload, w1_invokevirtual, w1_getfield, w1_iastore, w1_ifCond, w1_putfield, w1_putfield2, w1_imul, w1_iadd, w1_dup, w1_dup2, w1_if_icmp, w1_return, dX3_takeHouse_0, dX3_takeHouse_1, dX3_takeHouse_3, dX3_takeHouse_4, dX3_takeHouse_7, dX3_takeHouse_8, dX3_takeHouse_9, dX3_takeHouse_12, dX3_takeHouse_13, dX3_takeHouse_15, dX3_takeHouse_16, dX3_takeHouse_19, dX3_takeHouse_20, dX3_takeHouse_21, dX3_takeHouse_24, dX3_takeHouse_25, dX3_takeHouse_27, dX3_takeHouse_28, dX3_takeHouse_31, dX3_takeHouse_32, dX3_takeHouse_33, dX3_takeHouse_36, dX3_takeHouse_37, dX3_takeHouse_39, dX3_takeHouse_40, dX3_takeHouse_43, dX3_takeHouse_44, dX3_takeHouse_45, dX3_takeHouse_48, dX3_takeHouse_49, dX3_takeHouse_52, dX3_takeHouse_53, dX3_takeHouse_54, dX3_takeHouse_55, dX3_takeHouse_56, dX3_takeHouse_59, dX3_takeHouse_60, dX3_takeHouse_61, dX3_takeHouse_62, dX3_takeHouse_63, dX3_takeHouse_66, dX3_takeHouse_68, dX3_takeHouse_69, dX3_takeHouse_70, dX3_takeHouse_71, dX3_takeHouse_73, dX3_takeHouse_76, dX3_takeHouse_79, dX3_takeHouse_80, dX3_takeHouse_82, dX3_takeHouse_83, dX3_takeHouse_86, dX3_takeHouse_87, dX3_takeHouse_88, dX3_takeHouse_91, dX3_takeHouse_92, dX3_takeHouse_94, dX3_takeHouse_97, dX3_takeHouse_100, dX3_takeHouse_101, dX3_takeHouse_103, dX3_takeHouse_104, dX3_takeHouse_105, dX3_takeHouse_108, dX3_takeHouse_109, dX3_takeHouse_111, dX3_takeHouse_113, dX3_takeHouse_116, dX3_takeHouse_118, dX3_takeHouse_119, dX3_takeHouse_122, dX3_takeHouse_123, dX3_takeHouse_124, dX3_takeHouse_127, dX3_takeHouse_128, dX3_takeHouse_130, dX3_takeHouse_131, dX3_takeHouse_132, dX3_takeHouse_135, dX3_takeHouse_136, dX3_takeHouse_137, dX3_takeHouse_140, dX3_takeHouse_141, dX3_takeHouse_142, dX3_takeHouse_145, dX3_takeHouse_146, dX3_takeHouse_147, dX3_takeHouse_150, dX3_takeHouse_151, dX3_takeHouse_154, dX3_takeHouse_157, dX3_takeHouse_158, dX3_takeHouse_161, dX3_takeHouse_162, dX3_takeHouse_165, dX3_takeHouse_168, dX3_takeHouse_169, dX3_takeHouse_172, dX3_takeHouse_173, dX3_takeHouse_176, w_flk3_15, w_flk3_18, w_flk3_22, w_flk3_25, w_flk3_49, w_gsk3_38, w_kd_1, w_rf_1_0, w_rf_1_1, w_kd_3, w_ln_3, w_kd_158, w_ln_158, w_kd_157, w_ln_157, p_X3_takeNamed, q_X3_takeNamed, p_X3_sees, q_X3_sees, pw_2, pw_12, pw_ufs, pq_pw, tI_pw, pw_pw, h2, h3, g1, g2, g3, g4, m0, m1, m2, m3, m4, s0, s1, s2, s3, s4, hd])
  by_cases q : pSeesV (w 2) (w 1 2) 107 (pHd (w 2) (w 1 2) p0) = 0
  · rw [if_pos q] at e91
    (repeat' (with_reducible (first | refine And.intro ?_ ?_ | intro _))) <;> (try (first | assumption | contradiction | exact Or.inl trivial | exact Or.inl rfl | exact Or.inr rfl | (simp only [inI, inL]; omega) | omega))
  · rw [if_neg q] at e91
    (repeat' (with_reducible (first | refine And.intro ?_ ?_ | intro _))) <;> (try (first | assumption | contradiction | exact Or.inl trivial | exact Or.inl rfl | exact Or.inr rfl | (simp only [inI, inL]; omega) | omega))
