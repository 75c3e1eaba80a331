def p_X7_lookBack (S : wW) : List wV → wW → Prop := fun av w => match av with
  | [.inr (.inr (some this)), .inl m] => this = 56 ∧ hR S ∧ hX S w ∧ (yR S ∧ yX S w) ∧ (0 ≤ m ∧ m < 12) ∧ (∀ s : Nat, (s : Int) ≤ 2 * S 0 1 + 1 → 0 ≤ w 84 s ∧ w 84 s ≤ 300000000000000000)
  | _ => False
theorem h_X7_lookBack (S : wW) : ∀ av w, (p_X7_lookBack S) av w → ∃ a r, av = vr a :: r ∧ w_kd a = 100 + 7 := by
  intro av w h
  unfold p_X7_lookBack at h
  split at h
  · refine ⟨_, _, rfl, ?_⟩
    first | (rw [h.1]; rfl) | (rw [h]; rfl)
  · exact h.elim
def lbF (S w : wW) (m st : Nat) : Int := sm (fun y => w 84 (sbl S (S (20 + y) m) st)) (S 4 1).toNat
def lbV (S w : wW) (m n : Nat) (w1 : wW) : Prop := (∀ k i, ¬ k = 83 → w1 k i = w k i) ∧ ∀ st, st < n → w1 83 st = lbF S w m st
def q_X7_lookBack (S : wW) : List wV → wW → Int → wW → Prop := fun av w r w' => match av with
  | [.inr (.inr (some this)), .inl m] => lbV S w m.toNat (2 * (S 0 1).toNat + 2) w'
  | _ => False
set_option maxRecDepth 100000 in
set_option maxHeartbeats 4000000 in
theorem c_X7_lookBack (S : wW) : w_Ct yX7_lookBack cX7_lookBack 7 0 1 24 (p_X7_lookBack S) (q_X7_lookBack S) := by
  refine w_met (own := RX7) (fl := w_fl7) (gs := w_gs7) (kl := w_kl7) (ki := w_ki7) (cs := [(109, (1, 3, 1, (p_X9_stateBehindLeak S), (q_X9_stateBehindLeak S)))]) (by decide +kernel) rfl ?_ w_flok7 w_gsok7 w_klok7 w_kiok7 ?_ ?_
  · intro av w h
    unfold p_X7_lookBack at h
    split at h
    · simp [w_pos, w_cat]
    · exact h.elim
  · exact List.forall_mem_cons.mpr ⟨⟨_, _, w_callSN (own := RX7) (idx := 109) (host := "HowBigTank") (c_X9_stateBehindLeak S) (w_m3 133 (by decide +kernel) (by decide +kernel)) (w_m3 134 (by decide +kernel) (by decide +kernel)) (w_m1 1 (by decide +kernel) (by decide +kernel)) (w_m3 135 (by decide +kernel) (by decide +kernel)) ⟨by decide +kernel, by decide +kernel, by decide +kernel⟩, by decide, by decide⟩, fun _ h => absurd h List.not_mem_nil⟩
  intro av w hp
  unfold p_X7_lookBack at hp
  split at hp
  case h_2 => exact hp.elim
  rename_i this m
  intro G hG
  simp only [w_ent, w_pos, w_cat, Nat.reduceEqDiff, ↓reduceIte, List.length_cons, List.length_nil, Nat.reduceAdd, Nat.reduceSub, List.cons_append, List.nil_append, List.replicate_succ, List.replicate_zero]
  obtain ⟨rfl, hS, hXw, ⟨hy, hyX⟩, hm, h84⟩ := hp
  obtain ⟨m, rfl⟩ : ∃ n : Nat, m = n := ⟨m.toNat, by omega⟩
  have hSz := hS.2.2.1
  obtain ⟨sz, hsz⟩ : ∃ n : Nat, S 0 1 = n := ⟨(S 0 1).toNat, by omega⟩
  have s1 : w 5 1 = sz := by rw [← hsz]; exact hXw.2.1 1 (by decide)
  obtain ⟨ny, hny⟩ : ∃ n : Nat, S 4 1 = n := ⟨(S 4 1).toNat, by have := hy.1; omega⟩
  have hny8 : ny ≤ 8 := by have := hy.1; omega
  have hnN : (S 4 1).toNat = ny := by omega
  have hb : ∀ st : Nat, st < 2 * sz + 2 → ∀ y, y < ny → (0 ≤ w 84 (sbl S (S (20 + y) m) st) ∧ w 84 (sbl S (S (20 + y) m) st) ≤ 300000000000000000) ∧ sbl S (S (20 + y) m) st ≤ 2 * sz + 1 := by
    intro st hst y hy'
    have hr := hy.2 y m (by omega) (by omega)
    have := (sbl_in hS hr (st := st) (by omega)).2
    exact ⟨h84 _ this, by omega⟩
  have inner : ∀ st : Nat, st < 2 * sz + 2 → (∀ w1, lbV S w m (st + 1) w1 → ∀ x4 x5 x6, G 12 [some (vr 56), some (vi m), some (vi sz), some (vi (st + 1)), x4, x5, x6] [] w1) →
      ∀ d y : Nat, y + d = ny → ∀ w1, lbV S w m st w1 → G 27 [some (vr 56), some (vi m), some (vi sz), some (vi st), some (vl (sm (fun y => w 84 (sbl S (S (20 + y) m) st)) y)), none, some (vi y)] [] w1 := by
    intro st hst hnext d
    have hsm := sm_in (v := fun y => w 84 (sbl S (S (20 + y) m) st)) (A := 300000000000000000) (K := ny) (fun y hy' => (hb st hst y hy').1)
    induction d with
    | zero =>
      intro y hyy w1 hw1
      have ey : y = ny := by omega
      subst ey
      have hc : w1 11 1 = y := by rw [hw1.1 11 1 (by decide), hyX.1, hny]
      have e := hnext (w_up w1 83 st (sm (fun y => w 84 (sbl S (S (20 + y) m) st)) y)) (by
        refine ⟨fun k j h1 => ?_, fun l hl => ?_⟩
        · rw [up_k h1]; exact hw1.1 k j h1
        · by_cases q : l = st
          · subst q
            rw [up_eq, lbF, hnN]
          · rw [up_ne (by omega)]
            exact hw1.2 l (by omega))
      (apply hG [27, 12] 2000; simp only [w_br_i, w_ite, w_all, w_all0, forall_eq, w_b0, w_b1, ↓reduceIte, w_ent, w_pos, List.replicate_succ, List.replicate_zero, wp_s, wk_s, w_lk_c, w_ld0, w_ldS, w_kp0, w_kp, w_s1, w_s2, w_to, w_if, w_call, w_sw, w_cat, w_cats, w_psh, w_fv, List.contains_cons, List.contains_nil, List.set_cons_zero, List.set_cons_succ, List.length_cons, List.length_nil, List.find?_cons, List.find?_nil, List.take_succ_cons, List.take_zero, List.drop_succ_cons, List.drop_zero, List.reverse_cons, List.reverse_nil, List.nil_append, List.cons_append, Option.map_some, Option.map_none, Nat.reduceAdd, Nat.reduceBEq, Nat.reduceEqDiff, Nat.reduceLT, Nat.reduceLeDiff, Nat.reduceSub, Int.reduceAdd, Int.reduceSub, Int.reduceMul, Int.reduceNeg, Int.reduceToNat, Int.reduceLT, Int.reduceLE, Int.reduceEq, Bool.false_eq_true, Bool.or_false, Bool.false_or, Bool.true_or, Bool.or_true, if_true, if_false, ite_true, ite_false, true_and, and_true, false_and, and_false, true_or, or_true, false_or, or_false, Int.cast_ofNat_Int, Int.toNat_natCast, Int.natCast_add, List.getElem?_cons_zero, List.getElem?_cons_succ, true_implies, forall_const, not_true_eq_false, not_false_eq_true, ne_eq, beq_iff_eq, imp_self, List.length_set, Nat.zero_add, Nat.add_zero, Int.zero_add, Int.add_zero, w1_aload_n_0, w1_getfield, w1_iconst, w1_iaload, w1_istore_n_2, w1_istore_n_3, w1_iload_n_3, w1_iload_n_2, w1_iadd, w1_imul, w1_if_icmp, w1_lconst, w1_lstore, w1_istore, w1_iload, w1_lload, w1_aaload, w1_iload_n_1, w1_invokestatic, w1_laload, w1_ladd, w1_iinc, w1_goto, w1_lastore, w1_return, dX7_lookBack_0, dX7_lookBack_1, dX7_lookBack_4, dX7_lookBack_7, dX7_lookBack_8, dX7_lookBack_9, dX7_lookBack_10, dX7_lookBack_11, dX7_lookBack_12, dX7_lookBack_13, dX7_lookBack_14, dX7_lookBack_15, dX7_lookBack_16, dX7_lookBack_17, dX7_lookBack_18, dX7_lookBack_21, dX7_lookBack_22, dX7_lookBack_24, dX7_lookBack_25, dX7_lookBack_27, dX7_lookBack_29, dX7_lookBack_30, dX7_lookBack_33, dX7_lookBack_36, dX7_lookBack_39, dX7_lookBack_41, dX7_lookBack_42, dX7_lookBack_45, dX7_lookBack_46, dX7_lookBack_49, dX7_lookBack_50, dX7_lookBack_51, dX7_lookBack_54, dX7_lookBack_57, dX7_lookBack_59, dX7_lookBack_60, dX7_lookBack_61, dX7_lookBack_62, dX7_lookBack_65, dX7_lookBack_66, dX7_lookBack_67, dX7_lookBack_69, dX7_lookBack_72, dX7_lookBack_75, dX7_lookBack_76, dX7_lookBack_79, dX7_lookBack_80, dX7_lookBack_82, dX7_lookBack_83, dX7_lookBack_86, dX7_lookBack_89, w_flk7_106, w_flk7_19, w_flk7_23, w_flk7_40, w_flk7_44, w_flk7_69, w_flk7_92, w_kd_11, w_rf_11_0, w_kd_56, w_rf_56_0, w_rf_56_1, w_rf_56_2, w_rf_56_3, w_rf_56_4, w_rf_56_5, w_rf_56_6, w_rf_56_7, w_rf_56_8, w_kd_83, w_ln_83, hc])
      (repeat' (with_reducible (first | refine And.intro ?_ ?_ | intro _))) <;> (try (first | assumption | contradiction | exact Or.inl trivial | exact Or.inl rfl | exact Or.inr rfl | (simp only [inI, inL]; omega) | omega))
      all_goals first
        | exact e _ _ _
        | omega
    | succ d ih =>
      intro y hyy w1 hw1
      have hc : w1 11 1 = ny := by rw [hw1.1 11 1 (by decide), hyX.1, hny]
      have ky := (w_kdy (y := y) (by omega)).1
      have hrain : w1 (13 + y) m = S (20 + y) m := by rw [hw1.1 _ _ (by omega)]; exact hyX.2 y m (by omega) (by omega)
      have hr := hy.2 y m (by omega) (by omega)
      have hbs := hb st hst y (by omega)
      have hs0 := hsm y (by omega)
      have hs1 := hsm (y + 1) (by omega)
      have e := ih (y + 1) (by omega) w1 hw1
      simp only [sm] at e hs1
      simp only [Int.natCast_add, Int.cast_ofNat_Int] at e
      have e84 : w1 84 (sbl S (S (20 + y) m) st) = w 84 (sbl S (S (20 + y) m) st) := hw1.1 84 _ (by decide)
      have hpc : p_X9_stateBehindLeak S [vr 4, vi st, vi (S (20 + y) m)] w1 := by
        refine ⟨rfl, hS, hX_of hXw (fun k i hk => hw1.1 k i (by omega)), by omega, hr⟩
      (apply hG [27, 75, 12] 2000; simp only [w_br_i, w_ite, w_all, w_all0, forall_eq, w_b0, w_b1, ↓reduceIte, w_ent, w_pos, List.replicate_succ, List.replicate_zero, wp_s, wk_s, w_lk_c, w_ld0, w_ldS, w_kp0, w_kp, w_s1, w_s2, w_to, w_if, w_call, w_sw, w_cat, w_cats, w_psh, w_fv, List.contains_cons, List.contains_nil, List.set_cons_zero, List.set_cons_succ, List.length_cons, List.length_nil, List.find?_cons, List.find?_nil, List.take_succ_cons, List.take_zero, List.drop_succ_cons, List.drop_zero, List.reverse_cons, List.reverse_nil, List.nil_append, List.cons_append, Option.map_some, Option.map_none, Nat.reduceAdd, Nat.reduceBEq, Nat.reduceEqDiff, Nat.reduceLT, Nat.reduceLeDiff, Nat.reduceSub, Int.reduceAdd, Int.reduceSub, Int.reduceMul, Int.reduceNeg, Int.reduceToNat, Int.reduceLT, Int.reduceLE, Int.reduceEq, Bool.false_eq_true, Bool.or_false, Bool.false_or, Bool.true_or, Bool.or_true, if_true, if_false, ite_true, ite_false, true_and, and_true, false_and, and_false, true_or, or_true, false_or, or_false, Int.cast_ofNat_Int, Int.toNat_natCast, Int.natCast_add, List.getElem?_cons_zero, List.getElem?_cons_succ, true_implies, forall_const, not_true_eq_false, not_false_eq_true, ne_eq, beq_iff_eq, imp_self, List.length_set, Nat.zero_add, Nat.add_zero, Int.zero_add, Int.add_zero, w1_aload_n_0, w1_getfield, w1_iconst, w1_iaload, w1_istore_n_2, w1_istore_n_3, w1_iload_n_3, w1_iload_n_2, w1_iadd, w1_imul, w1_if_icmp, w1_lconst, w1_lstore, w1_istore, w1_iload, w1_lload, w1_aaload, w1_iload_n_1, w1_invokestatic, w1_laload, w1_ladd, w1_iinc, w1_goto, w1_lastore, w1_return, dX7_lookBack_0, dX7_lookBack_1, dX7_lookBack_4, dX7_lookBack_7, dX7_lookBack_8, dX7_lookBack_9, dX7_lookBack_10, dX7_lookBack_11, dX7_lookBack_12, dX7_lookBack_13, dX7_lookBack_14, dX7_lookBack_15, dX7_lookBack_16, dX7_lookBack_17, dX7_lookBack_18, dX7_lookBack_21, dX7_lookBack_22, dX7_lookBack_24, dX7_lookBack_25, dX7_lookBack_27, dX7_lookBack_29, dX7_lookBack_30, dX7_lookBack_33, dX7_lookBack_36, dX7_lookBack_39, dX7_lookBack_41, dX7_lookBack_42, dX7_lookBack_45, dX7_lookBack_46, dX7_lookBack_49, dX7_lookBack_50, dX7_lookBack_51, dX7_lookBack_54, dX7_lookBack_57, dX7_lookBack_59, dX7_lookBack_60, dX7_lookBack_61, dX7_lookBack_62, dX7_lookBack_65, dX7_lookBack_66, dX7_lookBack_67, dX7_lookBack_69, dX7_lookBack_72, dX7_lookBack_75, dX7_lookBack_76, dX7_lookBack_79, dX7_lookBack_80, dX7_lookBack_82, dX7_lookBack_83, dX7_lookBack_86, dX7_lookBack_89, w_flk7_106, w_flk7_19, w_flk7_23, w_flk7_40, w_flk7_44, w_flk7_69, w_flk7_92, w_kd_11, w_rf_11_0, w_kd_12, w_ln_12, w_kd_56, w_rf_56_0, w_rf_56_1, w_rf_56_2, w_rf_56_3, w_rf_56_4, w_rf_56_5, w_rf_56_6, w_rf_56_7, w_rf_56_8, w_kd_84, w_ln_84, hc, ky.1, ky.2, hrain, hpc, q_X9_stateBehindLeak, e84])
      (repeat' (with_reducible (first | refine And.intro ?_ ?_ | intro _))) <;> (try (first | assumption | contradiction | exact Or.inl trivial | exact Or.inl rfl | exact Or.inr rfl | (simp only [inI, inL]; omega) | omega))
      all_goals first
        | exact e
        | omega
  have outer : ∀ d st : Nat, st + d = 2 * sz + 2 → ∀ w1, lbV S w m st w1 → ∀ x4 x5 x6 : Option wV, G 12 [some (vr 56), some (vi m), some (vi sz), some (vi st), x4, x5, x6] [] w1 := by
    intro d
    induction d with
    | zero =>
      intro st hst w1 hw1 x4 x5 x6
      have e : st = 2 * sz + 2 := by omega
      subst e
      simp only [Int.natCast_add, Int.cast_ofNat_Int, Int.natCast_mul]
      (apply hG [12, 27] 2000; simp only [w_br_i, w_ite, w_all, w_all0, forall_eq, w_b0, w_b1, ↓reduceIte, w_ent, w_pos, List.replicate_succ, List.replicate_zero, wp_s, wk_s, w_lk_c, w_ld0, w_ldS, w_kp0, w_kp, w_s1, w_s2, w_to, w_if, w_call, w_sw, w_cat, w_cats, w_psh, w_fv, List.contains_cons, List.contains_nil, List.set_cons_zero, List.set_cons_succ, List.length_cons, List.length_nil, List.find?_cons, List.find?_nil, List.take_succ_cons, List.take_zero, List.drop_succ_cons, List.drop_zero, List.reverse_cons, List.reverse_nil, List.nil_append, List.cons_append, Option.map_some, Option.map_none, Nat.reduceAdd, Nat.reduceBEq, Nat.reduceEqDiff, Nat.reduceLT, Nat.reduceLeDiff, Nat.reduceSub, Int.reduceAdd, Int.reduceSub, Int.reduceMul, Int.reduceNeg, Int.reduceToNat, Int.reduceLT, Int.reduceLE, Int.reduceEq, Bool.false_eq_true, Bool.or_false, Bool.false_or, Bool.true_or, Bool.or_true, if_true, if_false, ite_true, ite_false, true_and, and_true, false_and, and_false, true_or, or_true, false_or, or_false, Int.cast_ofNat_Int, Int.toNat_natCast, Int.natCast_add, List.getElem?_cons_zero, List.getElem?_cons_succ, true_implies, forall_const, not_true_eq_false, not_false_eq_true, ne_eq, beq_iff_eq, imp_self, List.length_set, Nat.zero_add, Nat.add_zero, Int.zero_add, Int.add_zero, w1_aload_n_0, w1_getfield, w1_iconst, w1_iaload, w1_istore_n_2, w1_istore_n_3, w1_iload_n_3, w1_iload_n_2, w1_iadd, w1_imul, w1_if_icmp, w1_lconst, w1_lstore, w1_istore, w1_iload, w1_lload, w1_aaload, w1_iload_n_1, w1_invokestatic, w1_laload, w1_ladd, w1_iinc, w1_goto, w1_lastore, w1_return, dX7_lookBack_0, dX7_lookBack_1, dX7_lookBack_4, dX7_lookBack_7, dX7_lookBack_8, dX7_lookBack_9, dX7_lookBack_10, dX7_lookBack_11, dX7_lookBack_12, dX7_lookBack_13, dX7_lookBack_14, dX7_lookBack_15, dX7_lookBack_16, dX7_lookBack_17, dX7_lookBack_18, dX7_lookBack_21, dX7_lookBack_22, dX7_lookBack_24, dX7_lookBack_25, dX7_lookBack_27, dX7_lookBack_29, dX7_lookBack_30, dX7_lookBack_33, dX7_lookBack_36, dX7_lookBack_39, dX7_lookBack_41, dX7_lookBack_42, dX7_lookBack_45, dX7_lookBack_46, dX7_lookBack_49, dX7_lookBack_50, dX7_lookBack_51, dX7_lookBack_54, dX7_lookBack_57, dX7_lookBack_59, dX7_lookBack_60, dX7_lookBack_61, dX7_lookBack_62, dX7_lookBack_65, dX7_lookBack_66, dX7_lookBack_67, dX7_lookBack_69, dX7_lookBack_72, dX7_lookBack_75, dX7_lookBack_76, dX7_lookBack_79, dX7_lookBack_80, dX7_lookBack_82, dX7_lookBack_83, dX7_lookBack_86, dX7_lookBack_89, w_flk7_106, w_flk7_19, w_flk7_23, w_flk7_40, w_flk7_44, w_flk7_69, w_flk7_92, w_kd_56, w_rf_56_0, w_rf_56_1, w_rf_56_2, w_rf_56_3, w_rf_56_4, w_rf_56_5, w_rf_56_6, w_rf_56_7, w_rf_56_8])
      (repeat' (with_reducible (first | refine And.intro ?_ ?_ | intro _))) <;> (try (first | assumption | contradiction | exact Or.inl trivial | exact Or.inl rfl | exact Or.inr rfl | (simp only [inI, inL]; omega) | omega))
      all_goals first
        | (simp only [q_X7_lookBack]; rw [hsz, Int.toNat_natCast, Int.toNat_natCast]; exact hw1)
        | (exfalso; omega)
    | succ d ih =>
      intro st hst w1 hw1 x4 x5 x6
      have e := inner st (by omega) (fun w1 hw1 x4 x5 x6 => by
        have e := ih (st + 1) (by omega) w1 hw1 x4 x5 x6
        simp only [Int.natCast_add, Int.cast_ofNat_Int] at e
        exact e) ny 0 (by omega) w1 hw1
      simp only [Int.cast_ofNat_Int, sm] at e
      (apply hG [12, 27] 2000; simp only [w_br_i, w_ite, w_all, w_all0, forall_eq, w_b0, w_b1, ↓reduceIte, w_ent, w_pos, List.replicate_succ, List.replicate_zero, wp_s, wk_s, w_lk_c, w_ld0, w_ldS, w_kp0, w_kp, w_s1, w_s2, w_to, w_if, w_call, w_sw, w_cat, w_cats, w_psh, w_fv, List.contains_cons, List.contains_nil, List.set_cons_zero, List.set_cons_succ, List.length_cons, List.length_nil, List.find?_cons, List.find?_nil, List.take_succ_cons, List.take_zero, List.drop_succ_cons, List.drop_zero, List.reverse_cons, List.reverse_nil, List.nil_append, List.cons_append, Option.map_some, Option.map_none, Nat.reduceAdd, Nat.reduceBEq, Nat.reduceEqDiff, Nat.reduceLT, Nat.reduceLeDiff, Nat.reduceSub, Int.reduceAdd, Int.reduceSub, Int.reduceMul, Int.reduceNeg, Int.reduceToNat, Int.reduceLT, Int.reduceLE, Int.reduceEq, Bool.false_eq_true, Bool.or_false, Bool.false_or, Bool.true_or, Bool.or_true, if_true, if_false, ite_true, ite_false, true_and, and_true, false_and, and_false, true_or, or_true, false_or, or_false, Int.cast_ofNat_Int, Int.toNat_natCast, Int.natCast_add, List.getElem?_cons_zero, List.getElem?_cons_succ, true_implies, forall_const, not_true_eq_false, not_false_eq_true, ne_eq, beq_iff_eq, imp_self, List.length_set, Nat.zero_add, Nat.add_zero, Int.zero_add, Int.add_zero, w1_aload_n_0, w1_getfield, w1_iconst, w1_iaload, w1_istore_n_2, w1_istore_n_3, w1_iload_n_3, w1_iload_n_2, w1_iadd, w1_imul, w1_if_icmp, w1_lconst, w1_lstore, w1_istore, w1_iload, w1_lload, w1_aaload, w1_iload_n_1, w1_invokestatic, w1_laload, w1_ladd, w1_iinc, w1_goto, w1_lastore, w1_return, dX7_lookBack_0, dX7_lookBack_1, dX7_lookBack_4, dX7_lookBack_7, dX7_lookBack_8, dX7_lookBack_9, dX7_lookBack_10, dX7_lookBack_11, dX7_lookBack_12, dX7_lookBack_13, dX7_lookBack_14, dX7_lookBack_15, dX7_lookBack_16, dX7_lookBack_17, dX7_lookBack_18, dX7_lookBack_21, dX7_lookBack_22, dX7_lookBack_24, dX7_lookBack_25, dX7_lookBack_27, dX7_lookBack_29, dX7_lookBack_30, dX7_lookBack_33, dX7_lookBack_36, dX7_lookBack_39, dX7_lookBack_41, dX7_lookBack_42, dX7_lookBack_45, dX7_lookBack_46, dX7_lookBack_49, dX7_lookBack_50, dX7_lookBack_51, dX7_lookBack_54, dX7_lookBack_57, dX7_lookBack_59, dX7_lookBack_60, dX7_lookBack_61, dX7_lookBack_62, dX7_lookBack_65, dX7_lookBack_66, dX7_lookBack_67, dX7_lookBack_69, dX7_lookBack_72, dX7_lookBack_75, dX7_lookBack_76, dX7_lookBack_79, dX7_lookBack_80, dX7_lookBack_82, dX7_lookBack_83, dX7_lookBack_86, dX7_lookBack_89, w_flk7_106, w_flk7_19, w_flk7_23, w_flk7_40, w_flk7_44, w_flk7_69, w_flk7_92, w_kd_56, w_rf_56_0, w_rf_56_1, w_rf_56_2, w_rf_56_3, w_rf_56_4, w_rf_56_5, w_rf_56_6, w_rf_56_7, w_rf_56_8])
      (repeat' (with_reducible (first | refine And.intro ?_ ?_ | intro _))) <;> (try (first | assumption | contradiction | exact Or.inl trivial | exact Or.inl rfl | exact Or.inr rfl | (simp only [inI, inL]; omega) | omega))
      all_goals first
        | exact e
        | (exfalso; omega)
        | omega
  have e := outer (2 * sz + 2) 0 (by omega) w ⟨fun k i _ => rfl, fun l hl => by omega⟩ none none none
  simp only [Int.cast_ofNat_Int] at e
  (apply hG [12, 27] 2000; simp only [w_br_i, w_ite, w_all, w_all0, forall_eq, w_b0, w_b1, ↓reduceIte, w_ent, w_pos, List.replicate_succ, List.replicate_zero, wp_s, wk_s, w_lk_c, w_ld0, w_ldS, w_kp0, w_kp, w_s1, w_s2, w_to, w_if, w_call, w_sw, w_cat, w_cats, w_psh, w_fv, List.contains_cons, List.contains_nil, List.set_cons_zero, List.set_cons_succ, List.length_cons, List.length_nil, List.find?_cons, List.find?_nil, List.take_succ_cons, List.take_zero, List.drop_succ_cons, List.drop_zero, List.reverse_cons, List.reverse_nil, List.nil_append, List.cons_append, Option.map_some, Option.map_none, Nat.reduceAdd, Nat.reduceBEq, Nat.reduceEqDiff, Nat.reduceLT, Nat.reduceLeDiff, Nat.reduceSub, Int.reduceAdd, Int.reduceSub, Int.reduceMul, Int.reduceNeg, Int.reduceToNat, Int.reduceLT, Int.reduceLE, Int.reduceEq, Bool.false_eq_true, Bool.or_false, Bool.false_or, Bool.true_or, Bool.or_true, if_true, if_false, ite_true, ite_false, true_and, and_true, false_and, and_false, true_or, or_true, false_or, or_false, Int.cast_ofNat_Int, Int.toNat_natCast, Int.natCast_add, List.getElem?_cons_zero, List.getElem?_cons_succ, true_implies, forall_const, not_true_eq_false, not_false_eq_true, ne_eq, beq_iff_eq, imp_self, List.length_set, Nat.zero_add, Nat.add_zero, Int.zero_add, Int.add_zero, w1_aload_n_0, w1_getfield, w1_iconst, w1_iaload, w1_istore_n_2, w1_istore_n_3, w1_iload_n_3, w1_iload_n_2, w1_iadd, w1_imul, w1_if_icmp, w1_lconst, w1_lstore, w1_istore, w1_iload, w1_lload, w1_aaload, w1_iload_n_1, w1_invokestatic, w1_laload, w1_ladd, w1_iinc, w1_goto, w1_lastore, w1_return, dX7_lookBack_0, dX7_lookBack_1, dX7_lookBack_4, dX7_lookBack_7, dX7_lookBack_8, dX7_lookBack_9, dX7_lookBack_10, dX7_lookBack_11, dX7_lookBack_12, dX7_lookBack_13, dX7_lookBack_14, dX7_lookBack_15, dX7_lookBack_16, dX7_lookBack_17, dX7_lookBack_18, dX7_lookBack_21, dX7_lookBack_22, dX7_lookBack_24, dX7_lookBack_25, dX7_lookBack_27, dX7_lookBack_29, dX7_lookBack_30, dX7_lookBack_33, dX7_lookBack_36, dX7_lookBack_39, dX7_lookBack_41, dX7_lookBack_42, dX7_lookBack_45, dX7_lookBack_46, dX7_lookBack_49, dX7_lookBack_50, dX7_lookBack_51, dX7_lookBack_54, dX7_lookBack_57, dX7_lookBack_59, dX7_lookBack_60, dX7_lookBack_61, dX7_lookBack_62, dX7_lookBack_65, dX7_lookBack_66, dX7_lookBack_67, dX7_lookBack_69, dX7_lookBack_72, dX7_lookBack_75, dX7_lookBack_76, dX7_lookBack_79, dX7_lookBack_80, dX7_lookBack_82, dX7_lookBack_83, dX7_lookBack_86, dX7_lookBack_89, w_flk7_106, w_flk7_19, w_flk7_23, w_flk7_40, w_flk7_44, w_flk7_69, w_flk7_92, w_kd_4, w_rf_4_0, w_rf_4_1, w_rf_4_2, w_rf_4_3, w_rf_4_4, w_rf_4_5, w_kd_5, w_ln_5, w_kd_56, w_rf_56_0, w_rf_56_1, w_rf_56_2, w_rf_56_3, w_rf_56_4, w_rf_56_5, w_rf_56_6, w_rf_56_7, w_rf_56_8, s1])
  (repeat' (with_reducible (first | refine And.intro ?_ ?_ | intro _))) <;> (try (first | assumption | contradiction | exact Or.inl trivial | exact Or.inl rfl | exact Or.inr rfl | (simp only [inI, inL]; omega) | omega))
