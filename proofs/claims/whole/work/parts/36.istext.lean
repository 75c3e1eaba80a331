def pAll (t : Nat → Int) (len sort : Int) (p : pP) : pP := if sort = 0 then pHs t len (0, 1, p.2.2) else if sort = 1 then pYr t len 12 0 (0, 1, p.2.2) else pRl t len 12 0 (0, 1, p.2.2)
def pEnd (len : Int) (p : pP) : Int := if ¬ p.2.1 = 0 ∧ p.1 = len then 1 else 0
def p_X3_isText : List wV → wW → Prop := fun av w => match av with
  | [.inr (.inr (some this)), .inl sort] => this = 1 ∧ tI w ∧ inI sort
  | _ => False
theorem h_X3_isText : ∀ av w, p_X3_isText av w → ∃ a r, av = vr a :: r ∧ w_kd a = 100 + 3 := by
  intro av w h
  unfold p_X3_isText at h
  split at h
  · refine ⟨_, _, rfl, ?_⟩
    first | (rw [h.1]; rfl) | (rw [h]; rfl)
  · exact h.elim
def q_X3_isText : List wV → wW → Int → wW → Prop := fun av w r w' => match av with
  | [.inr (.inr (some this)), .inl sort] => r = pEnd (w 1 2) (pAll (w 2) (w 1 2) sort (pq w)) ∧ w' = pw w (pAll (w 2) (w 1 2) sort (pq w))
  | _ => False
set_option maxRecDepth 100000 in
set_option maxHeartbeats 4000000 in
theorem c_X3_isText : w_Ct yX3_isText cX3_isText 2 3 4 89 p_X3_isText q_X3_isText := by
  refine w_met (own := RX3) (fl := w_fl3) (gs := w_gs3) (kl := w_kl3) (ki := w_ki3) (cs := [(29, (0, 1, 0, p_X3_takeHouse, q_X3_takeHouse)), (32, (0, 1, 0, p_X3_takeYear, q_X3_takeYear)), (35, (0, 1, 0, p_X3_takeRule, q_X3_takeRule))]) (by decide +kernel) rfl ?_ w_flok3 w_gsok3 w_klok3 w_kiok3 ?_ ?_
  · intro av w h
    unfold p_X3_isText at h
    split at h
    · simp [w_pos, w_cat]
    · exact h.elim
  · exact List.forall_mem_cons.mpr ⟨⟨_, _, w_callV (own := RX3) (idx := 29) (ci := 3) c_X3_takeHouse rfl rfl h_X3_takeHouse (w_m2 203 (by decide +kernel) (by decide +kernel)) (w_m2 205 (by decide +kernel) (by decide +kernel)) (w_m0 0 (by decide +kernel) (by decide +kernel)) (w_m1 2 (by decide +kernel) (by decide +kernel)) (w_m2 206 (by decide +kernel) (by decide +kernel)) ⟨by decide +kernel, by decide +kernel, by decide +kernel⟩, by decide, by decide⟩, List.forall_mem_cons.mpr ⟨⟨_, _, w_callV (own := RX3) (idx := 32) (ci := 3) c_X3_takeYear rfl rfl h_X3_takeYear (w_m2 235 (by decide +kernel) (by decide +kernel)) (w_m2 237 (by decide +kernel) (by decide +kernel)) (w_m0 7 (by decide +kernel) (by decide +kernel)) (w_m1 2 (by decide +kernel) (by decide +kernel)) (w_m2 238 (by decide +kernel) (by decide +kernel)) ⟨by decide +kernel, by decide +kernel, by decide +kernel⟩, by decide, by decide⟩, List.forall_mem_cons.mpr ⟨⟨_, _, w_callV (own := RX3) (idx := 35) (ci := 3) c_X3_takeRule rfl rfl h_X3_takeRule (w_m2 239 (by decide +kernel) (by decide +kernel)) (w_m3 1 (by decide +kernel) (by decide +kernel)) (w_m0 8 (by decide +kernel) (by decide +kernel)) (w_m1 2 (by decide +kernel) (by decide +kernel)) (w_m3 2 (by decide +kernel) (by decide +kernel)) ⟨by decide +kernel, by decide +kernel, by decide +kernel⟩, by decide, by decide⟩, fun _ h => absurd h List.not_mem_nil⟩⟩⟩
  intro av w hp
  unfold p_X3_isText at hp
  split at hp
  case h_2 => exact hp.elim
  rename_i this sort
  intro G hG
  simp only [w_ent, w_pos, w_cat, Nat.reduceEqDiff, ↓reduceIte, List.length_cons, List.length_nil, Nat.reduceAdd, Nat.reduceSub, List.cons_append, List.nil_append, List.replicate_succ, List.replicate_zero]
  obtain ⟨rfl, h2, h3⟩ := hp
  obtain ⟨w, p, rfl⟩ : ∃ w0 p, w = pw w0 p := ⟨w, pq w, (pw_pq w).symm⟩
  rw [tI_pw] at h2
  have hlen := h2.1
  have hI : pI (w 1 2) (0, 1, p.2.2) := ⟨⟨Int.le_refl _, hlen.1⟩, Or.inr rfl⟩
  have hA : pI (w 1 2) (pAll (w 2) (w 1 2) sort p) := by
    unfold pAll
    split
    · exact pHs_I hI
    · split
      · exact pYr_I _ _ hI
      · exact pRl_I _ _ hI
  have e37 : ∀ q, q = pAll (w 2) (w 1 2) sort p → G 37 [some (vr 1), some (vi sort)] [] (pw w q) := by
    intro q hq
    rw [← hq] at hA
    obtain ⟨h4, h5⟩ := hA
    (apply hG [] 2000; simp only [w_br_i, w_ite, w_all, w_all0, forall_eq, w_b0, w_b1, ↓reduceIte, w_ent, w_pos, List.replicate_succ, List.replicate_zero, wp_s, wk_s, w_lk_c, w_ld0, w_ldS, w_kp0, w_kp, w_s1, w_s2, w_to, w_if, w_call, w_sw, w_cat, w_cats, w_psh, w_fv, List.contains_cons, List.contains_nil, List.set_cons_zero, List.set_cons_succ, List.length_cons, List.length_nil, List.find?_cons, List.find?_nil, List.take_succ_cons, List.take_zero, List.drop_succ_cons, List.drop_zero, List.reverse_cons, List.reverse_nil, List.nil_append, List.cons_append, Option.map_some, Option.map_none, Nat.reduceAdd, Nat.reduceBEq, Nat.reduceEqDiff, Nat.reduceLT, Nat.reduceLeDiff, Nat.reduceSub, Int.reduceAdd, Int.reduceSub, Int.reduceMul, Int.reduceNeg, Int.reduceToNat, Int.reduceLT, Int.reduceLE, Int.reduceEq, Bool.false_eq_true, Bool.or_false, Bool.false_or, Bool.true_or, Bool.or_true, if_true, if_false, ite_true, ite_false, true_and, and_true, false_and, and_false, true_or, or_true, false_or, or_false, Int.cast_ofNat_Int, Int.toNat_natCast, Int.natCast_add, List.getElem?_cons_zero, List.getElem?_cons_succ, true_implies, forall_const, not_true_eq_false, not_false_eq_true, ne_eq, beq_iff_eq, imp_self, List.length_set, Nat.zero_add, Nat.add_zero, Int.zero_add, Int.add_zero, w1_aload_n_0, w1_iconst, w1_putfield, w1_putfield2, w1_iload_n_1, w1_ifCond, w1_invokevirtual, w1_goto, w1_if_icmp, w1_getfield, w1_ireturn, dX3_isText_0, dX3_isText_1, dX3_isText_2, dX3_isText_5, dX3_isText_6, dX3_isText_7, dX3_isText_10, dX3_isText_11, dX3_isText_14, dX3_isText_15, dX3_isText_18, dX3_isText_21, dX3_isText_22, dX3_isText_23, dX3_isText_26, dX3_isText_27, dX3_isText_30, dX3_isText_33, dX3_isText_34, dX3_isText_37, dX3_isText_38, dX3_isText_41, dX3_isText_44, dX3_isText_45, dX3_isText_48, dX3_isText_49, dX3_isText_52, dX3_isText_55, dX3_isText_56, dX3_isText_59, dX3_isText_60, w_flk3_18, w_flk3_22, w_flk3_25, w_kd_1, w_rf_1_0, w_rf_1_1, pw_12, pw_14, pw_15])
    (repeat' (with_reducible (first | refine And.intro ?_ ?_ | intro _))) <;> (try (first | assumption | contradiction | exact Or.inl trivial | exact Or.inl rfl | exact Or.inr rfl | (simp only [inI, inL]; omega) | omega))
    all_goals first
      | (simp only [q_X3_isText, pw_2, pw_12, pq_pw, pw_pw, ← hq]; unfold pEnd; ((repeat' (first | refine And.intro ?_ ?_ | split)) <;> (first | rfl | trivial | assumption | contradiction | omega | (exfalso; omega))))
      | skip
  unfold pAll at e37
  (apply hG [37] 2000; simp only [w_br_i, w_ite, w_all, w_all0, forall_eq, w_b0, w_b1, ↓reduceIte, w_ent, w_pos, List.replicate_succ, List.replicate_zero, wp_s, wk_s, w_lk_c, w_ld0, w_ldS, w_kp0, w_kp, w_s1, w_s2, w_to, w_if, w_call, w_sw, w_cat, w_cats, w_psh, w_fv, List.contains_cons, List.contains_nil, List.set_cons_zero, List.set_cons_succ, List.length_cons, List.length_nil, List.find?_cons, List.find?_nil, List.take_succ_cons, List.take_zero, List.drop_succ_cons, List.drop_zero, List.reverse_cons, List.reverse_nil, List.nil_append, List.cons_append, Option.map_some, Option.map_none, Nat.reduceAdd, Nat.reduceBEq, Nat.reduceEqDiff, Nat.reduceLT, Nat.reduceLeDiff, Nat.reduceSub, Int.reduceAdd, Int.reduceSub, Int.reduceMul, Int.reduceNeg, Int.reduceToNat, Int.reduceLT, Int.reduceLE, Int.reduceEq, Bool.false_eq_true, Bool.or_false, Bool.false_or, Bool.true_or, Bool.or_true, if_true, if_false, ite_true, ite_false, true_and, and_true, false_and, and_false, true_or, or_true, false_or, or_false, Int.cast_ofNat_Int, Int.toNat_natCast, Int.natCast_add, List.getElem?_cons_zero, List.getElem?_cons_succ, true_implies, forall_const, not_true_eq_false, not_false_eq_true, ne_eq, beq_iff_eq, imp_self, List.length_set, Nat.zero_add, Nat.add_zero, Int.zero_add, Int.add_zero, w1_aload_n_0, w1_iconst, w1_putfield, w1_putfield2, w1_iload_n_1, w1_ifCond, w1_invokevirtual, w1_goto, w1_if_icmp, w1_getfield, w1_ireturn, dX3_isText_0, dX3_isText_1, dX3_isText_2, dX3_isText_5, dX3_isText_6, dX3_isText_7, dX3_isText_10, dX3_isText_11, dX3_isText_14, dX3_isText_15, dX3_isText_18, dX3_isText_21, dX3_isText_22, dX3_isText_23, dX3_isText_26, dX3_isText_27, dX3_isText_30, dX3_isText_33, dX3_isText_34, dX3_isText_37, dX3_isText_38, dX3_isText_41, dX3_isText_44, dX3_isText_45, dX3_isText_48, dX3_isText_49, dX3_isText_52, dX3_isText_55, dX3_isText_56, dX3_isText_59, dX3_isText_60, w_flk3_18, w_flk3_22, w_flk3_25, w_kd_1, w_rf_1_0, w_rf_1_1, p_X3_takeHouse, q_X3_takeHouse, p_X3_takeYear, q_X3_takeYear, p_X3_takeRule, q_X3_takeRule, pw_2, pw_12, pw_14, pw_15, pw_u4, pw_u5, pq_pw, tI_pw, pw_pw, h2, hI])
  (repeat' (with_reducible (first | refine And.intro ?_ ?_ | intro _))) <;> (try (first | assumption | contradiction | exact Or.inl trivial | exact Or.inl rfl | exact Or.inr rfl | (simp only [inI, inL]; omega) | omega))
  all_goals first
    | exact e37 _ (by rw [if_pos (by omega)])
    | exact e37 _ (by rw [if_neg (by omega), if_pos (by omega)])
    | exact e37 _ (by rw [if_neg (by omega), if_neg (by omega)])
