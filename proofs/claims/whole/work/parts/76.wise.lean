/-! what a BEST does, and the best HEDGE -/
def wisA (S T : wW) (m lv wet what : Int) : Int := if T 4 4 = 0 ∨ S 4 1 = 0 then -103 else if m < 0 ∨ 12 ≤ m then -102 else if lv < 0 ∨ S 0 1 < lv then -102 else if what < 0 ∨ 1 < what then -102 else
  if what = 0 then (xA S m.toNat (wy S (11 - m.toNat)) (wA S (11 - m.toNat)) wet.toNat lv.toNat : Nat) else (gA S m.toNat (wy S (11 - m.toNat)) (wA S (11 - m.toNat)) wet.toNat (lv.toNat + xA S m.toNat (wy S (11 - m.toNat)) (wA S (11 - m.toNat)) wet.toNat lv.toNat) : Nat)

def p_X9_wise (S T : wW) : List wV → wW → Prop := fun av w => match av with
  | [.inr (.inr (some this)), .inl m, .inl lv, .inl wet, .inl what] => this = 0 ∧ RQ S T w ∧ inI m ∧ inI lv ∧ (wet = 0 ∨ wet = 1) ∧ inI what
  | _ => False
theorem h_X9_wise (S T : wW) : ∀ av w, (p_X9_wise S T) av w → ∃ a r, av = vr a :: r ∧ w_kd a = 100 + 9 := by
  intro av w h
  unfold p_X9_wise at h
  split at h
  · refine ⟨_, _, rfl, ?_⟩
    first | (rw [h.1]; rfl) | (rw [h]; rfl)
  · exact h.elim
def q_X9_wise (S T : wW) : List wV → wW → Int → wW → Prop := fun av w r w' => match av with
  | [.inr (.inr (some this)), .inl m, .inl lv, .inl wet, .inl what] => r = wisA S T m lv wet what ∧ evT S w w'
  | _ => False
set_option maxRecDepth 100000 in
set_option maxHeartbeats 4000000 in
theorem c_X9_wise (S T : wW) : w_Ct yX9_wise cX9_wise 6 1 3 81 (p_X9_wise S T) (q_X9_wise S T) := by
  refine w_met (own := RX9) (fl := w_fl9) (gs := w_gs9) (kl := w_kl9) (ki := w_ki9) (cs := [(180, (0, 1, 3, p_X9_lacksHouseOrYear, q_X9_lacksHouseOrYear)), (177, (1, 1, 3, p_X9_isNoMonth, q_X9_isNoMonth)), (262, (0, 2, 0, (p_X7_bringUpTo S), (q_X7_bringUpTo S))), (266, (1, 2, 1, p_X9_stateOf, q_X9_stateOf))]) (by decide +kernel) rfl ?_ w_flok9 w_gsok9 w_klok9 w_kiok9 ?_ ?_
  · intro av w h
    unfold p_X9_wise at h
    split at h
    · simp [w_pos, w_cat]
    · exact h.elim
  · exact List.forall_mem_cons.mpr ⟨⟨_, _, w_callV (own := RX9) (idx := 180) (ci := 9) c_X9_lacksHouseOrYear rfl rfl h_X9_lacksHouseOrYear (w_m3 88 (by decide +kernel) (by decide +kernel)) (w_m3 90 (by decide +kernel) (by decide +kernel)) (w_m0 12 (by decide +kernel) (by decide +kernel)) (w_m1 1 (by decide +kernel) (by decide +kernel)) (w_m3 91 (by decide +kernel) (by decide +kernel)) ⟨by decide +kernel, by decide +kernel, by decide +kernel⟩, by decide, by decide⟩, List.forall_mem_cons.mpr ⟨⟨_, _, w_callS (own := RX9) (idx := 177) c_X9_isNoMonth (w_m3 81 (by decide +kernel) (by decide +kernel)) (w_m3 82 (by decide +kernel) (by decide +kernel)) (w_m1 1 (by decide +kernel) (by decide +kernel)) (w_m3 83 (by decide +kernel) (by decide +kernel)) ⟨by decide +kernel, by decide +kernel, by decide +kernel⟩, by decide, by decide⟩, List.forall_mem_cons.mpr ⟨⟨_, _, w_callV (own := RX9) (idx := 262) (ci := 7) (c_X7_bringUpTo S) rfl rfl (h_X7_bringUpTo S) (w_m3 100 (by decide +kernel) (by decide +kernel)) (w_m3 101 (by decide +kernel) (by decide +kernel)) (w_m3 102 (by decide +kernel) (by decide +kernel)) (w_m1 8 (by decide +kernel) (by decide +kernel)) (w_m3 103 (by decide +kernel) (by decide +kernel)) ⟨by decide +kernel, by decide +kernel, by decide +kernel⟩, by decide, by decide⟩, List.forall_mem_cons.mpr ⟨⟨_, _, w_callS (own := RX9) (idx := 266) c_X9_stateOf (w_m4 30 (by decide +kernel) (by decide +kernel)) (w_m3 159 (by decide +kernel) (by decide +kernel)) (w_m1 1 (by decide +kernel) (by decide +kernel)) (w_m3 160 (by decide +kernel) (by decide +kernel)) ⟨by decide +kernel, by decide +kernel, by decide +kernel⟩, by decide, by decide⟩, fun _ h => absurd h List.not_mem_nil⟩⟩⟩⟩
  intro av w hp
  unfold p_X9_wise at hp
  split at hp
  case h_2 => exact hp.elim
  rename_i this m lv wet what
  intro G hG
  simp only [w_ent, w_pos, w_cat, Nat.reduceEqDiff, ↓reduceIte, List.length_cons, List.length_nil, Nat.reduceAdd, Nat.reduceSub, List.cons_append, List.nil_append, List.replicate_succ, List.replicate_zero]
  obtain ⟨rfl, hQ, hmi, hli, hwet, hwh⟩ := hp
  have hT0 : evT S w w := ⟨fun k i _ => rfl, hQ.2.2.2.2.1⟩
  obtain ⟨-, ⟨hh, hh0⟩, ⟨hy, hyX⟩, hH, hwi, -⟩ := hQ
  have hyc := hy.1
  have hy1 := hyX.1
  have e10 : ¬ (T 4 4 = 0 ∨ S 4 1 = 0) → G 10 [some (vr 0), some (vi m), some (vi lv), some (vi wet), some (vi what), none] [] w := by
    intro h2
    obtain ⟨hS, hXw⟩ := hH (by omega)
    have hSz := hS.2.2.1
    have s1 : w 5 1 = S 0 1 := hXw.2.1 1 (by decide)
    have e48 : (0 ≤ m ∧ m < 12) → (0 ≤ lv ∧ lv ≤ S 0 1) → (0 ≤ what ∧ what ≤ 1) → G 48 [some (vr 0), some (vi m), some (vi lv), some (vi wet), some (vi what), none] [] w := by
      intro h3 h4 h5
      obtain ⟨m, rfl⟩ : ∃ n : Nat, m = n := ⟨m.toNat, by omega⟩
      obtain ⟨lv, rfl⟩ : ∃ n : Nat, lv = n := ⟨lv.toNat, by omega⟩
      obtain ⟨wet, rfl⟩ : ∃ n : Nat, wet = n := ⟨wet.toNat, by omega⟩
      have kw := (w_kdw (m := m) (by omega)).1
      have hpc : p_X7_bringUpTo S [vr 56, vi (w 0 15)] w := ⟨rfl, hS, hXw, ⟨hy, hyX⟩, hwi.2.1, by have := hwi.1; have := hwi.2.1; omega, hwi.2.2⟩
      have e59 : ∀ r w2, q_X7_bringUpTo S [vr 56, vi (w 0 15)] w r w2 → G 59 [some (vr 0), some (vi m), some (vi lv), some (vi wet), some (vi what), none] [] w2 := by
        intro r w2 hq
        simp only [q_X7_bringUpTo] at hq
        obtain ⟨g1, g2, g3, -⟩ := hq
        have hev : evT S w w2 := ⟨fun k i hk => g3 k i (by omega), ⟨by rw [g2, g3 0 15 (by omega)]; have := hwi.1; omega, by rw [g3 0 15 (by omega)]; exact hwi.2.1, fun _ => g1⟩⟩
        obtain ⟨p1, p2⟩ := g1 m (by omega) wet lv (by omega) (by omega)
        have hst : (2 * (lv : Int) + if (wet : Int) = 0 then 0 else 1) = (2 * lv + wet : Nat) := by
          rcases hwet with h | h <;> rw [h] <;> simp <;> omega
        have hlt : 2 * lv + wet < 402 := by omega
        have hst1 : (((2 * lv : Nat) : Int) + (wet : Int)).toNat = 2 * lv + wet := by omega
        have hst0 : (2 * lv + wet : Nat) < (402 : Int) := by omega
        have fin : ∀ r, r = (if (what : Int) = 0 then w2 (58 + m) (2 * lv + wet) else w2 (71 + m) (2 * lv + wet)) → q_X9_wise S T [vr 0, vi m, vi lv, vi wet, vi what] w r w2 := by
          intro r hr
          refine ⟨?_, hev⟩
          show r = wisA S T m lv wet what
          rw [hr, p1, p2]
          unfold wisA
          rw [if_neg h2, if_neg (show ¬ ((m : Int) < 0 ∨ (12 : Int) ≤ m) by omega), if_neg (show ¬ ((lv : Int) < 0 ∨ S 0 1 < lv) by omega), if_neg (show ¬ (what < 0 ∨ 1 < what) by omega)]
          rfl
        (apply hG [] 2000; simp only [w_br_i, w_ite, w_all, w_all0, forall_eq, w_b0, w_b1, ↓reduceIte, w_ent, w_pos, List.replicate_succ, List.replicate_zero, wp_s, wk_s, w_lk_c, w_ld0, w_ldS, w_kp0, w_kp, w_s1, w_s2, w_to, w_if, w_call, w_sw, w_cat, w_cats, w_psh, w_fv, List.contains_cons, List.contains_nil, List.set_cons_zero, List.set_cons_succ, List.length_cons, List.length_nil, List.find?_cons, List.find?_nil, List.take_succ_cons, List.take_zero, List.drop_succ_cons, List.drop_zero, List.reverse_cons, List.reverse_nil, List.nil_append, List.cons_append, Option.map_some, Option.map_none, Nat.reduceAdd, Nat.reduceBEq, Nat.reduceEqDiff, Nat.reduceLT, Nat.reduceLeDiff, Nat.reduceSub, Int.reduceAdd, Int.reduceSub, Int.reduceMul, Int.reduceNeg, Int.reduceToNat, Int.reduceLT, Int.reduceLE, Int.reduceEq, Bool.false_eq_true, Bool.or_false, Bool.false_or, Bool.true_or, Bool.or_true, if_true, if_false, ite_true, ite_false, true_and, and_true, false_and, and_false, true_or, or_true, false_or, or_false, Int.cast_ofNat_Int, Int.toNat_natCast, Int.natCast_add, List.getElem?_cons_zero, List.getElem?_cons_succ, true_implies, forall_const, not_true_eq_false, not_false_eq_true, ne_eq, beq_iff_eq, imp_self, List.length_set, Nat.zero_add, Nat.add_zero, Int.zero_add, Int.add_zero, w1_aload_n_0, w1_invokevirtual, w1_ifCond, w1_bipush, w1_ireturn, w1_iload_n_1, w1_invokestatic, w1_iload_n_2, w1_getfield, w1_iconst, w1_iaload, w1_if_icmp, w1_iload, w1_iload_n_3, w1_istore, w1_aaload, w1_goto, dX9_wise_0, dX9_wise_1, dX9_wise_4, dX9_wise_7, dX9_wise_9, dX9_wise_10, dX9_wise_11, dX9_wise_14, dX9_wise_17, dX9_wise_18, dX9_wise_21, dX9_wise_22, dX9_wise_23, dX9_wise_26, dX9_wise_29, dX9_wise_30, dX9_wise_31, dX9_wise_34, dX9_wise_36, dX9_wise_39, dX9_wise_41, dX9_wise_42, dX9_wise_45, dX9_wise_47, dX9_wise_48, dX9_wise_49, dX9_wise_52, dX9_wise_53, dX9_wise_56, dX9_wise_59, dX9_wise_60, dX9_wise_61, dX9_wise_64, dX9_wise_66, dX9_wise_68, dX9_wise_71, dX9_wise_72, dX9_wise_75, dX9_wise_78, dX9_wise_79, dX9_wise_80, dX9_wise_82, dX9_wise_83, dX9_wise_86, dX9_wise_87, dX9_wise_90, dX9_wise_93, dX9_wise_94, dX9_wise_95, dX9_wise_97, dX9_wise_98, w_flk9_118, w_flk9_158, w_flk9_19, w_flk9_270, w_flk9_273, w_flk9_63, w_kd_0, w_rf_0_0, w_rf_0_1, w_rf_0_2, w_rf_0_3, w_rf_0_4, w_rf_0_5, w_rf_0_6, w_rf_0_7, w_rf_0_8, w_rf_0_9, w_rf_0_10, w_kd_56, w_rf_56_0, w_rf_56_1, w_rf_56_2, w_rf_56_3, w_rf_56_4, w_rf_56_5, w_rf_56_6, w_rf_56_7, w_rf_56_8, w_kd_57, w_ln_57, w_kd_70, w_ln_70, p_X9_stateOf, q_X9_stateOf, hst, hst1, kw.1.1, kw.1.2, kw.2.1, kw.2.2])
        (repeat' (with_reducible (first | refine And.intro ?_ ?_ | intro _))) <;> (try (first | (with_reducible assumption) | (simp only [inI, inL]; omega) | omega))
        all_goals first
          | (refine fin _ ?_; rw [if_pos (by omega)])
          | (refine fin _ ?_; rw [if_neg (by omega)])
          | (exfalso; omega)
      (apply hG [59] 2000; simp only [w_br_i, w_ite, w_all, w_all0, forall_eq, w_b0, w_b1, ↓reduceIte, w_ent, w_pos, List.replicate_succ, List.replicate_zero, wp_s, wk_s, w_lk_c, w_ld0, w_ldS, w_kp0, w_kp, w_s1, w_s2, w_to, w_if, w_call, w_sw, w_cat, w_cats, w_psh, w_fv, List.contains_cons, List.contains_nil, List.set_cons_zero, List.set_cons_succ, List.length_cons, List.length_nil, List.find?_cons, List.find?_nil, List.take_succ_cons, List.take_zero, List.drop_succ_cons, List.drop_zero, List.reverse_cons, List.reverse_nil, List.nil_append, List.cons_append, Option.map_some, Option.map_none, Nat.reduceAdd, Nat.reduceBEq, Nat.reduceEqDiff, Nat.reduceLT, Nat.reduceLeDiff, Nat.reduceSub, Int.reduceAdd, Int.reduceSub, Int.reduceMul, Int.reduceNeg, Int.reduceToNat, Int.reduceLT, Int.reduceLE, Int.reduceEq, Bool.false_eq_true, Bool.or_false, Bool.false_or, Bool.true_or, Bool.or_true, if_true, if_false, ite_true, ite_false, true_and, and_true, false_and, and_false, true_or, or_true, false_or, or_false, Int.cast_ofNat_Int, Int.toNat_natCast, Int.natCast_add, List.getElem?_cons_zero, List.getElem?_cons_succ, true_implies, forall_const, not_true_eq_false, not_false_eq_true, ne_eq, beq_iff_eq, imp_self, List.length_set, Nat.zero_add, Nat.add_zero, Int.zero_add, Int.add_zero, w1_aload_n_0, w1_invokevirtual, w1_ifCond, w1_bipush, w1_ireturn, w1_iload_n_1, w1_invokestatic, w1_iload_n_2, w1_getfield, w1_iconst, w1_iaload, w1_if_icmp, w1_iload, w1_iload_n_3, w1_istore, w1_aaload, w1_goto, dX9_wise_0, dX9_wise_1, dX9_wise_4, dX9_wise_7, dX9_wise_9, dX9_wise_10, dX9_wise_11, dX9_wise_14, dX9_wise_17, dX9_wise_18, dX9_wise_21, dX9_wise_22, dX9_wise_23, dX9_wise_26, dX9_wise_29, dX9_wise_30, dX9_wise_31, dX9_wise_34, dX9_wise_36, dX9_wise_39, dX9_wise_41, dX9_wise_42, dX9_wise_45, dX9_wise_47, dX9_wise_48, dX9_wise_49, dX9_wise_52, dX9_wise_53, dX9_wise_56, dX9_wise_59, dX9_wise_60, dX9_wise_61, dX9_wise_64, dX9_wise_66, dX9_wise_68, dX9_wise_71, dX9_wise_72, dX9_wise_75, dX9_wise_78, dX9_wise_79, dX9_wise_80, dX9_wise_82, dX9_wise_83, dX9_wise_86, dX9_wise_87, dX9_wise_90, dX9_wise_93, dX9_wise_94, dX9_wise_95, dX9_wise_97, dX9_wise_98, w_flk9_118, w_flk9_158, w_flk9_19, w_flk9_270, w_flk9_273, w_flk9_63, w_kd_0, w_rf_0_0, w_rf_0_1, w_rf_0_2, w_rf_0_3, w_rf_0_4, w_rf_0_5, w_rf_0_6, w_rf_0_7, w_rf_0_8, w_rf_0_9, w_rf_0_10, hpc])
      (repeat' (with_reducible (first | refine And.intro ?_ ?_ | intro _))) <;> (try (first | (with_reducible assumption) | (simp only [inI, inL]; omega) | omega))
      all_goals exact e59 _ _ (by assumption)
    (apply hG [48] 2000; simp only [w_br_i, w_ite, w_all, w_all0, forall_eq, w_b0, w_b1, ↓reduceIte, w_ent, w_pos, List.replicate_succ, List.replicate_zero, wp_s, wk_s, w_lk_c, w_ld0, w_ldS, w_kp0, w_kp, w_s1, w_s2, w_to, w_if, w_call, w_sw, w_cat, w_cats, w_psh, w_fv, List.contains_cons, List.contains_nil, List.set_cons_zero, List.set_cons_succ, List.length_cons, List.length_nil, List.find?_cons, List.find?_nil, List.take_succ_cons, List.take_zero, List.drop_succ_cons, List.drop_zero, List.reverse_cons, List.reverse_nil, List.nil_append, List.cons_append, Option.map_some, Option.map_none, Nat.reduceAdd, Nat.reduceBEq, Nat.reduceEqDiff, Nat.reduceLT, Nat.reduceLeDiff, Nat.reduceSub, Int.reduceAdd, Int.reduceSub, Int.reduceMul, Int.reduceNeg, Int.reduceToNat, Int.reduceLT, Int.reduceLE, Int.reduceEq, Bool.false_eq_true, Bool.or_false, Bool.false_or, Bool.true_or, Bool.or_true, if_true, if_false, ite_true, ite_false, true_and, and_true, false_and, and_false, true_or, or_true, false_or, or_false, Int.cast_ofNat_Int, Int.toNat_natCast, Int.natCast_add, List.getElem?_cons_zero, List.getElem?_cons_succ, true_implies, forall_const, not_true_eq_false, not_false_eq_true, ne_eq, beq_iff_eq, imp_self, List.length_set, Nat.zero_add, Nat.add_zero, Int.zero_add, Int.add_zero, w1_aload_n_0, w1_invokevirtual, w1_ifCond, w1_bipush, w1_ireturn, w1_iload_n_1, w1_invokestatic, w1_iload_n_2, w1_getfield, w1_iconst, w1_iaload, w1_if_icmp, w1_iload, w1_iload_n_3, w1_istore, w1_aaload, w1_goto, dX9_wise_0, dX9_wise_1, dX9_wise_4, dX9_wise_7, dX9_wise_9, dX9_wise_10, dX9_wise_11, dX9_wise_14, dX9_wise_17, dX9_wise_18, dX9_wise_21, dX9_wise_22, dX9_wise_23, dX9_wise_26, dX9_wise_29, dX9_wise_30, dX9_wise_31, dX9_wise_34, dX9_wise_36, dX9_wise_39, dX9_wise_41, dX9_wise_42, dX9_wise_45, dX9_wise_47, dX9_wise_48, dX9_wise_49, dX9_wise_52, dX9_wise_53, dX9_wise_56, dX9_wise_59, dX9_wise_60, dX9_wise_61, dX9_wise_64, dX9_wise_66, dX9_wise_68, dX9_wise_71, dX9_wise_72, dX9_wise_75, dX9_wise_78, dX9_wise_79, dX9_wise_80, dX9_wise_82, dX9_wise_83, dX9_wise_86, dX9_wise_87, dX9_wise_90, dX9_wise_93, dX9_wise_94, dX9_wise_95, dX9_wise_97, dX9_wise_98, w_flk9_118, w_flk9_158, w_flk9_19, w_flk9_270, w_flk9_273, w_flk9_63, w_kd_0, w_rf_0_0, w_rf_0_1, w_rf_0_2, w_rf_0_3, w_rf_0_4, w_rf_0_5, w_rf_0_6, w_rf_0_7, w_rf_0_8, w_rf_0_9, w_rf_0_10, w_kd_4, w_rf_4_0, w_rf_4_1, w_rf_4_2, w_rf_4_3, w_rf_4_4, w_rf_4_5, w_kd_5, w_ln_5, p_X9_isNoMonth, q_X9_isNoMonth, s1])
    (repeat' (with_reducible (first | refine And.intro ?_ ?_ | intro _))) <;> (try (first | (with_reducible assumption) | (simp only [inI, inL]; omega) | omega))
    all_goals first
      | exact e48 (by omega) (by omega) (by omega)
      | exact ⟨by unfold wisA; (repeat' split) <;> first | rfl | (exfalso; omega), hT0⟩
  (apply hG [10] 2000; simp only [w_br_i, w_ite, w_all, w_all0, forall_eq, w_b0, w_b1, ↓reduceIte, w_ent, w_pos, List.replicate_succ, List.replicate_zero, wp_s, wk_s, w_lk_c, w_ld0, w_ldS, w_kp0, w_kp, w_s1, w_s2, w_to, w_if, w_call, w_sw, w_cat, w_cats, w_psh, w_fv, List.contains_cons, List.contains_nil, List.set_cons_zero, List.set_cons_succ, List.length_cons, List.length_nil, List.find?_cons, List.find?_nil, List.take_succ_cons, List.take_zero, List.drop_succ_cons, List.drop_zero, List.reverse_cons, List.reverse_nil, List.nil_append, List.cons_append, Option.map_some, Option.map_none, Nat.reduceAdd, Nat.reduceBEq, Nat.reduceEqDiff, Nat.reduceLT, Nat.reduceLeDiff, Nat.reduceSub, Int.reduceAdd, Int.reduceSub, Int.reduceMul, Int.reduceNeg, Int.reduceToNat, Int.reduceLT, Int.reduceLE, Int.reduceEq, Bool.false_eq_true, Bool.or_false, Bool.false_or, Bool.true_or, Bool.or_true, if_true, if_false, ite_true, ite_false, true_and, and_true, false_and, and_false, true_or, or_true, false_or, or_false, Int.cast_ofNat_Int, Int.toNat_natCast, Int.natCast_add, List.getElem?_cons_zero, List.getElem?_cons_succ, true_implies, forall_const, not_true_eq_false, not_false_eq_true, ne_eq, beq_iff_eq, imp_self, List.length_set, Nat.zero_add, Nat.add_zero, Int.zero_add, Int.add_zero, w1_aload_n_0, w1_invokevirtual, w1_ifCond, w1_bipush, w1_ireturn, w1_iload_n_1, w1_invokestatic, w1_iload_n_2, w1_getfield, w1_iconst, w1_iaload, w1_if_icmp, w1_iload, w1_iload_n_3, w1_istore, w1_aaload, w1_goto, dX9_wise_0, dX9_wise_1, dX9_wise_4, dX9_wise_7, dX9_wise_9, dX9_wise_10, dX9_wise_11, dX9_wise_14, dX9_wise_17, dX9_wise_18, dX9_wise_21, dX9_wise_22, dX9_wise_23, dX9_wise_26, dX9_wise_29, dX9_wise_30, dX9_wise_31, dX9_wise_34, dX9_wise_36, dX9_wise_39, dX9_wise_41, dX9_wise_42, dX9_wise_45, dX9_wise_47, dX9_wise_48, dX9_wise_49, dX9_wise_52, dX9_wise_53, dX9_wise_56, dX9_wise_59, dX9_wise_60, dX9_wise_61, dX9_wise_64, dX9_wise_66, dX9_wise_68, dX9_wise_71, dX9_wise_72, dX9_wise_75, dX9_wise_78, dX9_wise_79, dX9_wise_80, dX9_wise_82, dX9_wise_83, dX9_wise_86, dX9_wise_87, dX9_wise_90, dX9_wise_93, dX9_wise_94, dX9_wise_95, dX9_wise_97, dX9_wise_98, w_flk9_118, w_flk9_158, w_flk9_19, w_flk9_270, w_flk9_273, w_flk9_63, w_kd_0, w_rf_0_0, w_rf_0_1, w_rf_0_2, w_rf_0_3, w_rf_0_4, w_rf_0_5, w_rf_0_6, w_rf_0_7, w_rf_0_8, w_rf_0_9, w_rf_0_10, p_X9_lacksHouseOrYear, q_X9_lacksHouseOrYear, hh0, hy1])
  (repeat' (with_reducible (first | refine And.intro ?_ ?_ | intro _))) <;> (try (first | (with_reducible assumption) | (simp only [inI, inL]; omega) | omega))
  all_goals first
    | exact e10 (by omega)
    | exact ⟨by unfold wisA; (repeat' split) <;> first | rfl | (exfalso; omega), hT0⟩
def TR (w : wW) : Prop := ∀ m, m < 12 → 0 ≤ w 55 m ∧ w 55 m ≤ 99
def hedA (S T : wW) (hd : Int) : Int := if T 4 4 = 0 ∨ S 4 1 = 0 then -103 else if 2 ≤ hd then -103 else hdB S
def hedD (S T : wW) (hd : Int) : Int := if T 4 4 = 0 ∨ S 4 1 = 0 then 0 else if 2 ≤ hd then 0 else 1
def evH (S w w' : wW) : Prop := (∀ k i, (k < 56 ∨ 134 < k) → ¬ k = 45 → ¬ (k = 0 ∧ i = 14) → w' k i = w k i) ∧ (∀ i, ¬ i = 1 → ¬ i = 2 → w' 45 i = w 45 i) ∧ wiI S w'
def p_X9_hedge (S T : wW) : List wV → wW → Prop := fun av w => match av with
  | [.inr (.inr (some this))] => this = 0 ∧ RQ S T w ∧ TR w ∧ (0 ≤ w 0 14 ∧ w 0 14 ≤ 2)
  | _ => False
theorem h_X9_hedge (S T : wW) : ∀ av w, (p_X9_hedge S T) av w → ∃ a r, av = vr a :: r ∧ w_kd a = 100 + 9 := by
  intro av w h
  unfold p_X9_hedge at h
  split at h
  · refine ⟨_, _, rfl, ?_⟩
    first | (rw [h.1]; rfl) | (rw [h]; rfl)
  · exact h.elim
def q_X9_hedge (S T : wW) : List wV → wW → Int → wW → Prop := fun av w r w' => match av with
  | [.inr (.inr (some this))] => r = hedA S T (w 0 14) ∧ evH S w w' ∧ w' 0 14 = w 0 14 + hedD S T (w 0 14)
  | _ => False
set_option maxRecDepth 100000 in
set_option maxHeartbeats 4000000 in
theorem c_X9_hedge (S T : wW) : w_Ct yX9_hedge cX9_hedge 1 1 6 148 (p_X9_hedge S T) (q_X9_hedge S T) := by
  refine w_met (own := RX9) (fl := w_fl9) (gs := w_gs9) (kl := w_kl9) (ki := w_ki9) (cs := [(180, (0, 1, 3, p_X9_lacksHouseOrYear, q_X9_lacksHouseOrYear)), (279, (0, 1, 1, (p_X0_bestHedge S), (q_X0_bestHedge S)))]) (by decide +kernel) rfl ?_ w_flok9 w_gsok9 w_klok9 w_kiok9 ?_ ?_
  · intro av w h
    unfold p_X9_hedge at h
    split at h
    · simp [w_pos, w_cat]
    · exact h.elim
  · exact List.forall_mem_cons.mpr ⟨⟨_, _, w_callV (own := RX9) (idx := 180) (ci := 9) c_X9_lacksHouseOrYear rfl rfl h_X9_lacksHouseOrYear (w_m3 88 (by decide +kernel) (by decide +kernel)) (w_m3 90 (by decide +kernel) (by decide +kernel)) (w_m0 12 (by decide +kernel) (by decide +kernel)) (w_m1 1 (by decide +kernel) (by decide +kernel)) (w_m3 91 (by decide +kernel) (by decide +kernel)) ⟨by decide +kernel, by decide +kernel, by decide +kernel⟩, by decide, by decide⟩, List.forall_mem_cons.mpr ⟨⟨_, _, w_callV (own := RX9) (idx := 279) (ci := 0) (c_X0_bestHedge S) rfl rfl (h_X0_bestHedge S) (w_m4 35 (by decide +kernel) (by decide +kernel)) (w_m4 36 (by decide +kernel) (by decide +kernel)) (w_m4 37 (by decide +kernel) (by decide +kernel)) (w_m1 11 (by decide +kernel) (by decide +kernel)) (w_m4 38 (by decide +kernel) (by decide +kernel)) ⟨by decide +kernel, by decide +kernel, by decide +kernel⟩, by decide, by decide⟩, fun _ h => absurd h List.not_mem_nil⟩⟩
  intro av w hp
  unfold p_X9_hedge at hp
  split at hp
  case h_2 => exact hp.elim
  rename_i this
  intro G hG
  simp only [w_ent, w_pos, w_cat, Nat.reduceEqDiff, ↓reduceIte, List.length_cons, List.length_nil, Nat.reduceAdd, Nat.reduceSub, List.cons_append, List.nil_append, List.replicate_succ, List.replicate_zero]
  obtain ⟨rfl, hQ, hTR, hhd⟩ := hp
  have hT0 : evH S w w := ⟨fun k i _ _ _ => rfl, fun i _ _ => rfl, hQ.2.2.2.2.1⟩
  obtain ⟨-, ⟨hh, hh0⟩, ⟨hy, hyX⟩, hH, hwi, -⟩ := hQ
  have hyc := hy.1
  have hy1 := hyX.1
  have e18 : ¬ (T 4 4 = 0 ∨ S 4 1 = 0) → w 0 14 < 2 → G 18 [some (vr 0)] [] w := by
    intro h2 h6
    obtain ⟨hS, hXw⟩ := hH (by omega)
    have hu : ∀ k j, ¬ (k = 0 ∧ j = 14) → w_up w 0 14 (w 0 14 + 1) k j = w k j := fun k j h => up_ne (by omega)
    have hpc : p_X0_bestHedge S [vr 93] (w_up w 0 14 (w 0 14 + 1)) := ⟨rfl, hS, hX_of hXw (fun k j hk => hu k j (by omega)), ⟨hy, yX_of hy hyX (fun k j hk => hu k j (by omega))⟩, fun m hm => by rw [hu _ _ (by omega)]; exact hTR m hm⟩
    have e35 : ∀ r1 w1, q_X0_bestHedge S [vr 93] (w_up w 0 14 (w 0 14 + 1)) r1 w1 → G 35 [some (vr 0)] [vi r1] w1 := by
      intro r1 w1 hq
      simp only [q_X0_bestHedge] at hq
      obtain ⟨g1, g2, rfl⟩ := hq
      have hev : evH S w w1 := ⟨fun k j hk h45 hn => by rw [g1 k j (by omega) h45]; exact hu k j hn, fun i i1 i2 => by rw [g2 i i1 i2]; exact hu 45 i (by omega), wiI_of hwi (fun k j hk => by rw [g1 k j (by omega) (by omega)]; exact hu k j (by omega))⟩
      (apply hG [] 2000; simp only [w_br_i, w_ite, w_all, w_all0, forall_eq, w_b0, w_b1, ↓reduceIte, w_ent, w_pos, List.replicate_succ, List.replicate_zero, wp_s, wk_s, w_lk_c, w_ld0, w_ldS, w_kp0, w_kp, w_s1, w_s2, w_to, w_if, w_call, w_sw, w_cat, w_cats, w_psh, w_fv, List.contains_cons, List.contains_nil, List.set_cons_zero, List.set_cons_succ, List.length_cons, List.length_nil, List.find?_cons, List.find?_nil, List.take_succ_cons, List.take_zero, List.drop_succ_cons, List.drop_zero, List.reverse_cons, List.reverse_nil, List.nil_append, List.cons_append, Option.map_some, Option.map_none, Nat.reduceAdd, Nat.reduceBEq, Nat.reduceEqDiff, Nat.reduceLT, Nat.reduceLeDiff, Nat.reduceSub, Int.reduceAdd, Int.reduceSub, Int.reduceMul, Int.reduceNeg, Int.reduceToNat, Int.reduceLT, Int.reduceLE, Int.reduceEq, Bool.false_eq_true, Bool.or_false, Bool.false_or, Bool.true_or, Bool.or_true, if_true, if_false, ite_true, ite_false, true_and, and_true, false_and, and_false, true_or, or_true, false_or, or_false, Int.cast_ofNat_Int, Int.toNat_natCast, Int.natCast_add, List.getElem?_cons_zero, List.getElem?_cons_succ, true_implies, forall_const, not_true_eq_false, not_false_eq_true, ne_eq, beq_iff_eq, imp_self, List.length_set, Nat.zero_add, Nat.add_zero, Int.zero_add, Int.add_zero, w1_aload_n_0, w1_invokevirtual, w1_ifCond, w1_getfield, w1_iconst, w1_if_icmp, w1_bipush, w1_ireturn, w1_dup, w1_dup2, w1_iadd, w1_putfield, w1_putfield2, dX9_hedge_0, dX9_hedge_1, dX9_hedge_4, dX9_hedge_7, dX9_hedge_8, dX9_hedge_11, dX9_hedge_12, dX9_hedge_15, dX9_hedge_17, dX9_hedge_18, dX9_hedge_19, dX9_hedge_20, dX9_hedge_23, dX9_hedge_24, dX9_hedge_25, dX9_hedge_28, dX9_hedge_29, dX9_hedge_32, dX9_hedge_35, w_flk9_276, w_flk9_88, w_kd_0, w_rf_0_0, w_rf_0_1, w_rf_0_2, w_rf_0_3, w_rf_0_4, w_rf_0_5, w_rf_0_6, w_rf_0_7, w_rf_0_8, w_rf_0_9, w_rf_0_10])
      (repeat' (with_reducible (first | refine And.intro ?_ ?_ | intro _))) <;> (try (first | (with_reducible assumption) | (simp only [inI, inL]; omega) | omega))
      all_goals (refine ⟨?_, hev, ?_⟩)
      · unfold hedA; rw [if_neg h2, if_neg (by omega)]
      · unfold hedD; rw [if_neg h2, if_neg (by omega), g1 0 14 (by omega) (by omega), up_eq]
    (apply hG [35] 2000; simp only [w_br_i, w_ite, w_all, w_all0, forall_eq, w_b0, w_b1, ↓reduceIte, w_ent, w_pos, List.replicate_succ, List.replicate_zero, wp_s, wk_s, w_lk_c, w_ld0, w_ldS, w_kp0, w_kp, w_s1, w_s2, w_to, w_if, w_call, w_sw, w_cat, w_cats, w_psh, w_fv, List.contains_cons, List.contains_nil, List.set_cons_zero, List.set_cons_succ, List.length_cons, List.length_nil, List.find?_cons, List.find?_nil, List.take_succ_cons, List.take_zero, List.drop_succ_cons, List.drop_zero, List.reverse_cons, List.reverse_nil, List.nil_append, List.cons_append, Option.map_some, Option.map_none, Nat.reduceAdd, Nat.reduceBEq, Nat.reduceEqDiff, Nat.reduceLT, Nat.reduceLeDiff, Nat.reduceSub, Int.reduceAdd, Int.reduceSub, Int.reduceMul, Int.reduceNeg, Int.reduceToNat, Int.reduceLT, Int.reduceLE, Int.reduceEq, Bool.false_eq_true, Bool.or_false, Bool.false_or, Bool.true_or, Bool.or_true, if_true, if_false, ite_true, ite_false, true_and, and_true, false_and, and_false, true_or, or_true, false_or, or_false, Int.cast_ofNat_Int, Int.toNat_natCast, Int.natCast_add, List.getElem?_cons_zero, List.getElem?_cons_succ, true_implies, forall_const, not_true_eq_false, not_false_eq_true, ne_eq, beq_iff_eq, imp_self, List.length_set, Nat.zero_add, Nat.add_zero, Int.zero_add, Int.add_zero, w1_aload_n_0, w1_invokevirtual, w1_ifCond, w1_getfield, w1_iconst, w1_if_icmp, w1_bipush, w1_ireturn, w1_dup, w1_dup2, w1_iadd, w1_putfield, w1_putfield2, dX9_hedge_0, dX9_hedge_1, dX9_hedge_4, dX9_hedge_7, dX9_hedge_8, dX9_hedge_11, dX9_hedge_12, dX9_hedge_15, dX9_hedge_17, dX9_hedge_18, dX9_hedge_19, dX9_hedge_20, dX9_hedge_23, dX9_hedge_24, dX9_hedge_25, dX9_hedge_28, dX9_hedge_29, dX9_hedge_32, dX9_hedge_35, w_flk9_276, w_flk9_88, w_kd_0, w_rf_0_0, w_rf_0_1, w_rf_0_2, w_rf_0_3, w_rf_0_4, w_rf_0_5, w_rf_0_6, w_rf_0_7, w_rf_0_8, w_rf_0_9, w_rf_0_10, hpc])
    (repeat' (with_reducible (first | refine And.intro ?_ ?_ | intro _))) <;> (try (first | (with_reducible assumption) | (simp only [inI, inL]; omega) | omega))
    all_goals exact e35 _ _ (by assumption)
  (apply hG [18] 2000; simp only [w_br_i, w_ite, w_all, w_all0, forall_eq, w_b0, w_b1, ↓reduceIte, w_ent, w_pos, List.replicate_succ, List.replicate_zero, wp_s, wk_s, w_lk_c, w_ld0, w_ldS, w_kp0, w_kp, w_s1, w_s2, w_to, w_if, w_call, w_sw, w_cat, w_cats, w_psh, w_fv, List.contains_cons, List.contains_nil, List.set_cons_zero, List.set_cons_succ, List.length_cons, List.length_nil, List.find?_cons, List.find?_nil, List.take_succ_cons, List.take_zero, List.drop_succ_cons, List.drop_zero, List.reverse_cons, List.reverse_nil, List.nil_append, List.cons_append, Option.map_some, Option.map_none, Nat.reduceAdd, Nat.reduceBEq, Nat.reduceEqDiff, Nat.reduceLT, Nat.reduceLeDiff, Nat.reduceSub, Int.reduceAdd, Int.reduceSub, Int.reduceMul, Int.reduceNeg, Int.reduceToNat, Int.reduceLT, Int.reduceLE, Int.reduceEq, Bool.false_eq_true, Bool.or_false, Bool.false_or, Bool.true_or, Bool.or_true, if_true, if_false, ite_true, ite_false, true_and, and_true, false_and, and_false, true_or, or_true, false_or, or_false, Int.cast_ofNat_Int, Int.toNat_natCast, Int.natCast_add, List.getElem?_cons_zero, List.getElem?_cons_succ, true_implies, forall_const, not_true_eq_false, not_false_eq_true, ne_eq, beq_iff_eq, imp_self, List.length_set, Nat.zero_add, Nat.add_zero, Int.zero_add, Int.add_zero, w1_aload_n_0, w1_invokevirtual, w1_ifCond, w1_getfield, w1_iconst, w1_if_icmp, w1_bipush, w1_ireturn, w1_dup, w1_dup2, w1_iadd, w1_putfield, w1_putfield2, dX9_hedge_0, dX9_hedge_1, dX9_hedge_4, dX9_hedge_7, dX9_hedge_8, dX9_hedge_11, dX9_hedge_12, dX9_hedge_15, dX9_hedge_17, dX9_hedge_18, dX9_hedge_19, dX9_hedge_20, dX9_hedge_23, dX9_hedge_24, dX9_hedge_25, dX9_hedge_28, dX9_hedge_29, dX9_hedge_32, dX9_hedge_35, w_flk9_276, w_flk9_88, w_kd_0, w_rf_0_0, w_rf_0_1, w_rf_0_2, w_rf_0_3, w_rf_0_4, w_rf_0_5, w_rf_0_6, w_rf_0_7, w_rf_0_8, w_rf_0_9, w_rf_0_10, p_X9_lacksHouseOrYear, q_X9_lacksHouseOrYear, hh0, hy1])
  (repeat' (with_reducible (first | refine And.intro ?_ ?_ | intro _))) <;> (try (first | (with_reducible assumption) | (simp only [inI, inL]; omega) | omega))
  all_goals first
    | exact e18 (by omega) (by omega)
    | exact ⟨by unfold hedA; (repeat' split) <;> first | rfl | (exfalso; omega), hT0, by unfold hedD; (repeat' split) <;> omega⟩
