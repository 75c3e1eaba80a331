/-! a year drawn: what a month does from each state behind its leak -/
def dE (S : wW) (R : Nat → Int → Int → Nat → Int) (m st : Nat) : Int := zE S (S 0 1) (R m (st / 2 : Nat) (st % 2 : Nat)) m (st / 2 : Nat)
def dSh (S : wW) (R : Nat → Int → Int → Nat → Int) (m st : Nat) : Int := zK S (S 0 1) (R m (st / 2 : Nat) (st % 2 : Nat)) m (st / 2 : Nat)
def dCo (S : wW) (R : Nat → Int → Int → Nat → Int) (m st : Nat) : Int := zC S (S 0 1) (R m (st / 2 : Nat) (st % 2 : Nat)) m (st / 2 : Nat)

def p_X0_layOutState (S : wW) : List wV → wW → Prop := fun av w => match av with
  | [.inr (.inr (some this)), .inr (.inr (some a)), .inl m, .inl st] => this = 93 ∧ hR S ∧ hX S w ∧ rR w a ∧ (0 ≤ m ∧ m < 12) ∧ (0 ≤ st ∧ st ≤ 2 * S 0 1 + 1) ∧ w 88 4 = S 0 1 ∧ plA w a (S 0 1)
  | _ => False
theorem h_X0_layOutState (S : wW) : ∀ av w, (p_X0_layOutState S) av w → ∃ a r, av = vr a :: r ∧ w_kd a = 100 + 0 := by
  intro av w h
  unfold p_X0_layOutState at h
  split at h
  · refine ⟨_, _, rfl, ?_⟩
    first | (rw [h.1]; rfl) | (rw [h]; rfl)
  · exact h.elim
def loS (S w : wW) (a m st : Nat) (w' : wW) : Prop := (∀ k i, k ≠ 88 → k ≠ 89 → ¬ (k = 95 + m ∧ i = st) → ¬ (k = 108 + m ∧ i = st) → ¬ (k = 121 + m ∧ i = st) → w' k i = w k i) ∧ w' 88 4 = S 0 1 ∧ w' (95 + m) st = dE S (rX w a) m st ∧ w' (108 + m) st = dSh S (rX w a) m st ∧ w' (121 + m) st = dCo S (rX w a) m st
def q_X0_layOutState (S : wW) : List wV → wW → Int → wW → Prop := fun av w r w' => match av with
  | [.inr (.inr (some this)), .inr (.inr (some a)), .inl m, .inl st] => loS S w a m.toNat st.toNat w'
  | _ => False
set_option maxRecDepth 100000 in
set_option maxHeartbeats 4000000 in
theorem c_X0_layOutState (S : wW) : w_Ct yX0_layOutState cX0_layOutState 4 0 3 74 (p_X0_layOutState S) (q_X0_layOutState S) := by
  refine w_met (own := RX0) (fl := w_fl0) (gs := w_gs0) (kl := w_kl0) (ki := w_ki0) (cs := [(95, (0, 3, 0, (p_X6_pumpAndDraw S), (q_X6_pumpAndDraw S)))]) (by decide +kernel) rfl ?_ w_flok0 w_gsok0 w_klok0 w_kiok0 ?_ ?_
  · intro av w h
    unfold p_X0_layOutState at h
    split at h
    · simp [w_pos, w_cat]
    · exact h.elim
  · exact List.forall_mem_cons.mpr ⟨⟨_, _, w_callV (own := RX0) (idx := 95) (ci := 6) (c_X6_pumpAndDraw S) rfl rfl (h_X6_pumpAndDraw S) (w_m3 234 (by decide +kernel) (by decide +kernel)) (w_m3 151 (by decide +kernel) (by decide +kernel)) (w_m3 152 (by decide +kernel) (by decide +kernel)) (w_m1 9 (by decide +kernel) (by decide +kernel)) (w_m3 153 (by decide +kernel) (by decide +kernel)) ⟨by decide +kernel, by decide +kernel, by decide +kernel⟩, by decide, by decide⟩, fun _ h => absurd h List.not_mem_nil⟩
  intro av w hp
  unfold p_X0_layOutState at hp
  split at hp
  case h_2 => exact hp.elim
  rename_i this a m st
  intro G hG
  simp only [w_ent, w_pos, w_cat, Nat.reduceEqDiff, ↓reduceIte, List.length_cons, List.length_nil, Nat.reduceAdd, Nat.reduceSub, List.cons_append, List.nil_append, List.replicate_succ, List.replicate_zero]
  obtain ⟨rfl, hS, hXw, hr, hm, hst, h4, hpl⟩ := hp
  obtain ⟨m, rfl⟩ : ∃ n : Nat, m = n := ⟨m.toNat, by omega⟩
  obtain ⟨st, rfl⟩ : ∃ n : Nat, st = n := ⟨st.toNat, by omega⟩
  have hSz := hS.2.2.1
  have ha := hr.1
  have kw := (w_kdw (m := m) (by omega)).2
  have s1 := w_shr1 (x := (st : Int)) (by omega) (by omega)
  have s2 := w_and1 (x := (st : Int)) (by omega) (by omega)
  have e26 : ∀ wet : Int, wet = (st % 2 : Nat) → G 26 [some (vr 93), some (vr a), some (vi m), some (vi st)] [vi wet, vr 88] (w_up w 88 6 ((st : Int) / 2)) := by
    intro wet hwet
    have hw01 : wet = 0 ∨ wet = 1 := by omega
    have he : ev 88 92 w (w_up (w_up w 88 6 ((st : Int) / 2)) 88 7 wet) := fun k i hk => by rw [up_k (by omega), up_k (by omega)]
    have e6 : w_up (w_up w 88 6 ((st : Int) / 2)) 88 7 wet 88 6 = (st / 2 : Nat) := by rw [up_ne (by decide), up_eq]; omega
    have e7 : w_up (w_up w 88 6 ((st : Int) / 2)) 88 7 wet 88 7 = (st % 2 : Nat) := by rw [up_eq, hwet]
    have e4 : w_up (w_up w 88 6 ((st : Int) / 2)) 88 7 wet 88 4 = S 0 1 := by rw [up_ne (by decide), up_ne (by decide), h4]
    have hpc : p_X6_pumpAndDraw S [vr 88, vr a, vi m] (w_up (w_up w 88 6 ((st : Int) / 2)) 88 7 wet) := by
      refine ⟨rfl, hS, hX_ev hXw he, rR_ev hr he, hm, ?_, ?_, ?_⟩
      · rw [e6, e4]; omega
      · rw [up_eq]; exact hw01
      · intro h3
        have h := plA_ev ha hpl he h3 m (w_up (w_up w 88 6 ((st : Int) / 2)) 88 7 wet 88 6) (w_up (w_up w 88 6 ((st : Int) / 2)) 88 7 wet 88 7) (by omega) (by rw [e6]; omega) (by rw [e6]; omega) (by rw [e7]; omega)
        rw [e4, Int.toNat_natCast]
        exact h
    have e38 : ∀ r w2, q_X6_pumpAndDraw S [vr 88, vr a, vi m] (w_up (w_up w 88 6 ((st : Int) / 2)) 88 7 wet) r w2 → G 38 [some (vr 93), some (vr a), some (vi m), some (vi st)] [] w2 := by
      intro r w2 hq
      simp only [q_X6_pumpAndDraw, e4, e6, e7, Int.toNat_natCast, rX_ev ha (show m < 12 by omega) he] at hq
      obtain ⟨f, rfl, g6, g11, g12, g13, g14, gf⟩ := hq
      generalize hg : zS S (S 0 1) (rX w a m (st / 2 : Nat) (st % 2 : Nat)) m (st / 2 : Nat) (w_up (w_up w 88 6 ((st : Int) / 2)) 88 7 wet 89) = g
      generalize hwb : w_up (w_up w 88 6 ((st : Int) / 2)) 88 7 wet = wb at *
      have x1 : ∀ i v j, w_up (tw wb f g) (95 + m) i v 88 j = tw wb f g 88 j := fun i v j => up_k (by omega)
      have x2 : ∀ w0 : wW, ∀ i v j, w_up w0 (108 + m) i v 88 j = w0 88 j := fun w0 i v j => up_k (by omega)
      have t6 : tw wb f g 88 6 = dE S (rX w a) m st := by rw [tw_88 _ _ _ _ (by decide), g6]; rfl
      have t13 : tw wb f g 88 13 = dSh S (rX w a) m st := by rw [tw_88 _ _ _ _ (by decide), g13]; rfl
      have t14 : tw wb f g 88 14 = dCo S (rX w a) m st := by rw [tw_88 _ _ _ _ (by decide), g14]; rfl
      (apply hG [] 2000; simp only [w_br_i, w_ite, w_all, w_all0, forall_eq, w_b0, w_b1, ↓reduceIte, w_ent, w_pos, List.replicate_succ, List.replicate_zero, wp_s, wk_s, w_lk_c, w_ld0, w_ldS, w_kp0, w_kp, w_s1, w_s2, w_to, w_if, w_call, w_sw, w_cat, w_cats, w_psh, w_fv, List.contains_cons, List.contains_nil, List.set_cons_zero, List.set_cons_succ, List.length_cons, List.length_nil, List.find?_cons, List.find?_nil, List.take_succ_cons, List.take_zero, List.drop_succ_cons, List.drop_zero, List.reverse_cons, List.reverse_nil, List.nil_append, List.cons_append, Option.map_some, Option.map_none, Nat.reduceAdd, Nat.reduceBEq, Nat.reduceEqDiff, Nat.reduceLT, Nat.reduceLeDiff, Nat.reduceSub, Int.reduceAdd, Int.reduceSub, Int.reduceMul, Int.reduceNeg, Int.reduceToNat, Int.reduceLT, Int.reduceLE, Int.reduceEq, Bool.false_eq_true, Bool.or_false, Bool.false_or, Bool.true_or, Bool.or_true, if_true, if_false, ite_true, ite_false, true_and, and_true, false_and, and_false, true_or, or_true, false_or, or_false, Int.cast_ofNat_Int, Int.toNat_natCast, Int.natCast_add, List.getElem?_cons_zero, List.getElem?_cons_succ, true_implies, forall_const, not_true_eq_false, not_false_eq_true, ne_eq, beq_iff_eq, imp_self, List.length_set, Nat.zero_add, Nat.add_zero, Int.zero_add, Int.add_zero, w1_aload_n_0, w1_getfield, w1_iload_n_3, w1_iconst, w1_ishr, w1_putfield, w1_putfield2, w1_iand, w1_if_icmp, w1_goto, w1_aload_n_1, w1_iload_n_2, w1_invokevirtual, w1_aaload, w1_iastore, w1_return, dX0_layOutState_0, dX0_layOutState_1, dX0_layOutState_4, dX0_layOutState_5, dX0_layOutState_6, dX0_layOutState_7, dX0_layOutState_10, dX0_layOutState_11, dX0_layOutState_14, dX0_layOutState_15, dX0_layOutState_16, dX0_layOutState_17, dX0_layOutState_18, dX0_layOutState_21, dX0_layOutState_22, dX0_layOutState_25, dX0_layOutState_26, dX0_layOutState_29, dX0_layOutState_30, dX0_layOutState_33, dX0_layOutState_34, dX0_layOutState_35, dX0_layOutState_38, dX0_layOutState_39, dX0_layOutState_42, dX0_layOutState_43, dX0_layOutState_44, dX0_layOutState_45, dX0_layOutState_46, dX0_layOutState_49, dX0_layOutState_52, dX0_layOutState_53, dX0_layOutState_54, dX0_layOutState_57, dX0_layOutState_58, dX0_layOutState_59, dX0_layOutState_60, dX0_layOutState_61, dX0_layOutState_64, dX0_layOutState_67, dX0_layOutState_68, dX0_layOutState_69, dX0_layOutState_72, dX0_layOutState_73, dX0_layOutState_74, dX0_layOutState_75, dX0_layOutState_76, dX0_layOutState_79, dX0_layOutState_82, dX0_layOutState_83, w_flk0_102, w_flk0_20, w_flk0_23, w_flk0_26, w_flk0_44, w_flk0_88, w_flk0_99, w_flk0_91, w_kd_88, w_rf_88_0, w_rf_88_1, w_rf_88_2, w_kd_93, w_rf_93_0, w_rf_93_1, w_rf_93_2, w_rf_93_3, w_rf_93_4, w_rf_93_5, w_rf_93_6, w_rf_93_7, w_rf_93_8, w_kd_94, w_ln_94, w_kd_107, w_ln_107, w_kd_120, w_ln_120, kw.1.1, kw.1.2, kw.2.1.1, kw.2.1.2, kw.2.2.1, kw.2.2.2, x1, x2, t6, t13, t14])
      (repeat' (with_reducible (first | refine And.intro ?_ ?_ | intro _))) <;> (try (first | assumption | contradiction | exact Or.inl trivial | exact Or.inl rfl | exact Or.inr rfl | (simp only [inI, inL]; omega) | omega))
      all_goals (simp only [q_X0_layOutState, Int.toNat_natCast]; refine ⟨fun k i k1 k2 k3 k4 k5 => ?_, ?_, ?_, ?_, ?_⟩)
      · rw [up_ne k5, up_ne k4, up_ne k3, tw_x _ _ _ ⟨k1, k2⟩, ← hwb, up_k k1, up_k k1]
      · rw [up_k (by omega), up_k (by omega), up_k (by omega), tw_88 _ _ _ _ (by decide), gf 4 (by decide) (by decide), e4]
      · rw [up_k (by omega), up_k (by omega), up_eq]
      · rw [up_k (by omega), up_eq]
      · rw [up_eq]
    (apply hG [38] 2000; simp only [w_br_i, w_ite, w_all, w_all0, forall_eq, w_b0, w_b1, ↓reduceIte, w_ent, w_pos, List.replicate_succ, List.replicate_zero, wp_s, wk_s, w_lk_c, w_ld0, w_ldS, w_kp0, w_kp, w_s1, w_s2, w_to, w_if, w_call, w_sw, w_cat, w_cats, w_psh, w_fv, List.contains_cons, List.contains_nil, List.set_cons_zero, List.set_cons_succ, List.length_cons, List.length_nil, List.find?_cons, List.find?_nil, List.take_succ_cons, List.take_zero, List.drop_succ_cons, List.drop_zero, List.reverse_cons, List.reverse_nil, List.nil_append, List.cons_append, Option.map_some, Option.map_none, Nat.reduceAdd, Nat.reduceBEq, Nat.reduceEqDiff, Nat.reduceLT, Nat.reduceLeDiff, Nat.reduceSub, Int.reduceAdd, Int.reduceSub, Int.reduceMul, Int.reduceNeg, Int.reduceToNat, Int.reduceLT, Int.reduceLE, Int.reduceEq, Bool.false_eq_true, Bool.or_false, Bool.false_or, Bool.true_or, Bool.or_true, if_true, if_false, ite_true, ite_false, true_and, and_true, false_and, and_false, true_or, or_true, false_or, or_false, Int.cast_ofNat_Int, Int.toNat_natCast, Int.natCast_add, List.getElem?_cons_zero, List.getElem?_cons_succ, true_implies, forall_const, not_true_eq_false, not_false_eq_true, ne_eq, beq_iff_eq, imp_self, List.length_set, Nat.zero_add, Nat.add_zero, Int.zero_add, Int.add_zero, w1_aload_n_0, w1_getfield, w1_iload_n_3, w1_iconst, w1_ishr, w1_putfield, w1_putfield2, w1_iand, w1_if_icmp, w1_goto, w1_aload_n_1, w1_iload_n_2, w1_invokevirtual, w1_aaload, w1_iastore, w1_return, dX0_layOutState_0, dX0_layOutState_1, dX0_layOutState_4, dX0_layOutState_5, dX0_layOutState_6, dX0_layOutState_7, dX0_layOutState_10, dX0_layOutState_11, dX0_layOutState_14, dX0_layOutState_15, dX0_layOutState_16, dX0_layOutState_17, dX0_layOutState_18, dX0_layOutState_21, dX0_layOutState_22, dX0_layOutState_25, dX0_layOutState_26, dX0_layOutState_29, dX0_layOutState_30, dX0_layOutState_33, dX0_layOutState_34, dX0_layOutState_35, dX0_layOutState_38, dX0_layOutState_39, dX0_layOutState_42, dX0_layOutState_43, dX0_layOutState_44, dX0_layOutState_45, dX0_layOutState_46, dX0_layOutState_49, dX0_layOutState_52, dX0_layOutState_53, dX0_layOutState_54, dX0_layOutState_57, dX0_layOutState_58, dX0_layOutState_59, dX0_layOutState_60, dX0_layOutState_61, dX0_layOutState_64, dX0_layOutState_67, dX0_layOutState_68, dX0_layOutState_69, dX0_layOutState_72, dX0_layOutState_73, dX0_layOutState_74, dX0_layOutState_75, dX0_layOutState_76, dX0_layOutState_79, dX0_layOutState_82, dX0_layOutState_83, w_flk0_102, w_flk0_20, w_flk0_23, w_flk0_26, w_flk0_44, w_flk0_88, w_flk0_99, w_flk0_91, w_kd_88, w_rf_88_0, w_rf_88_1, w_rf_88_2, w_kd_93, w_rf_93_0, w_rf_93_1, w_rf_93_2, w_rf_93_3, w_rf_93_4, w_rf_93_5, w_rf_93_6, w_rf_93_7, w_rf_93_8, hpc])
    (repeat' (with_reducible (first | refine And.intro ?_ ?_ | intro _))) <;> (try (first | assumption | contradiction | exact Or.inl trivial | exact Or.inl rfl | exact Or.inr rfl | (simp only [inI, inL]; omega) | omega))
    all_goals exact e38 _ _ (by assumption)
  (apply hG [26] 2000; simp only [w_br_i, w_ite, w_all, w_all0, forall_eq, w_b0, w_b1, ↓reduceIte, w_ent, w_pos, List.replicate_succ, List.replicate_zero, wp_s, wk_s, w_lk_c, w_ld0, w_ldS, w_kp0, w_kp, w_s1, w_s2, w_to, w_if, w_call, w_sw, w_cat, w_cats, w_psh, w_fv, List.contains_cons, List.contains_nil, List.set_cons_zero, List.set_cons_succ, List.length_cons, List.length_nil, List.find?_cons, List.find?_nil, List.take_succ_cons, List.take_zero, List.drop_succ_cons, List.drop_zero, List.reverse_cons, List.reverse_nil, List.nil_append, List.cons_append, Option.map_some, Option.map_none, Nat.reduceAdd, Nat.reduceBEq, Nat.reduceEqDiff, Nat.reduceLT, Nat.reduceLeDiff, Nat.reduceSub, Int.reduceAdd, Int.reduceSub, Int.reduceMul, Int.reduceNeg, Int.reduceToNat, Int.reduceLT, Int.reduceLE, Int.reduceEq, Bool.false_eq_true, Bool.or_false, Bool.false_or, Bool.true_or, Bool.or_true, if_true, if_false, ite_true, ite_false, true_and, and_true, false_and, and_false, true_or, or_true, false_or, or_false, Int.cast_ofNat_Int, Int.toNat_natCast, Int.natCast_add, List.getElem?_cons_zero, List.getElem?_cons_succ, true_implies, forall_const, not_true_eq_false, not_false_eq_true, ne_eq, beq_iff_eq, imp_self, List.length_set, Nat.zero_add, Nat.add_zero, Int.zero_add, Int.add_zero, w1_aload_n_0, w1_getfield, w1_iload_n_3, w1_iconst, w1_ishr, w1_putfield, w1_putfield2, w1_iand, w1_if_icmp, w1_goto, w1_aload_n_1, w1_iload_n_2, w1_invokevirtual, w1_aaload, w1_iastore, w1_return, dX0_layOutState_0, dX0_layOutState_1, dX0_layOutState_4, dX0_layOutState_5, dX0_layOutState_6, dX0_layOutState_7, dX0_layOutState_10, dX0_layOutState_11, dX0_layOutState_14, dX0_layOutState_15, dX0_layOutState_16, dX0_layOutState_17, dX0_layOutState_18, dX0_layOutState_21, dX0_layOutState_22, dX0_layOutState_25, dX0_layOutState_26, dX0_layOutState_29, dX0_layOutState_30, dX0_layOutState_33, dX0_layOutState_34, dX0_layOutState_35, dX0_layOutState_38, dX0_layOutState_39, dX0_layOutState_42, dX0_layOutState_43, dX0_layOutState_44, dX0_layOutState_45, dX0_layOutState_46, dX0_layOutState_49, dX0_layOutState_52, dX0_layOutState_53, dX0_layOutState_54, dX0_layOutState_57, dX0_layOutState_58, dX0_layOutState_59, dX0_layOutState_60, dX0_layOutState_61, dX0_layOutState_64, dX0_layOutState_67, dX0_layOutState_68, dX0_layOutState_69, dX0_layOutState_72, dX0_layOutState_73, dX0_layOutState_74, dX0_layOutState_75, dX0_layOutState_76, dX0_layOutState_79, dX0_layOutState_82, dX0_layOutState_83, w_flk0_102, w_flk0_20, w_flk0_23, w_flk0_26, w_flk0_44, w_flk0_88, w_flk0_99, w_flk0_91, w_kd_93, w_rf_93_0, w_rf_93_1, w_rf_93_2, w_rf_93_3, w_rf_93_4, w_rf_93_5, w_rf_93_6, w_rf_93_7, w_rf_93_8, w_kd_88, w_rf_88_0, w_rf_88_1, w_rf_88_2, s1, s2])
  (repeat' (with_reducible (first | refine And.intro ?_ ?_ | intro _))) <;> (try (first | assumption | contradiction | exact Or.inl trivial | exact Or.inl rfl | exact Or.inr rfl | (simp only [inI, inL]; omega) | omega))
  all_goals exact e26 _ (by omega)
/-- those states are done that D names -/
def loI (S w : wW) (a : Nat) (D : Nat → Nat → Prop) (w1 : wW) : Prop := (∀ k i, k ≠ 88 → k ≠ 89 → ¬ (95 ≤ k ∧ k ≤ 106) → ¬ (108 ≤ k ∧ k ≤ 119) → ¬ (121 ≤ k ∧ k ≤ 132) → w1 k i = w k i) ∧ w1 88 4 = S 0 1 ∧
  ∀ m st, m < 12 → (D m st → w1 (95 + m) st = dE S (rX w a) m st ∧ w1 (108 + m) st = dSh S (rX w a) m st ∧ w1 (121 + m) st = dCo S (rX w a) m st) ∧ (¬ D m st → w1 (95 + m) st = w (95 + m) st ∧ w1 (108 + m) st = w (108 + m) st ∧ w1 (121 + m) st = w (121 + m) st)
theorem loI_c {S w w1 : wW} {a : Nat} {D D' : Nat → Nat → Prop} (h : loI S w a D w1) (hd : ∀ m st, m < 12 → (D m st ↔ D' m st)) : loI S w a D' w1 :=
  ⟨h.1, h.2.1, fun m st hm => ⟨fun q => (h.2.2 m st hm).1 ((hd m st hm).mpr q), fun q => (h.2.2 m st hm).2 (fun z => q ((hd m st hm).mp z))⟩⟩
theorem loI_s {S w w1 w2 : wW} {a : Nat} {D : Nat → Nat → Prop} {m st : Nat} (ha : 36 ≤ a ∧ a < 46) (hm : m < 12) (h : loI S w a D w1) (hq : loS S w1 a m st w2) : loI S w a (fun m' s' => D m' s' ∨ (m' = m ∧ s' = st)) w2 := by
  have hx : ∀ m' st', m' < 12 → dE S (rX w1 a) m' st' = dE S (rX w a) m' st' ∧ dSh S (rX w1 a) m' st' = dSh S (rX w a) m' st' ∧ dCo S (rX w1 a) m' st' = dCo S (rX w a) m' st' := by
    intro m' st' hm'
    have e : ∀ lv wet, rX w1 a m' lv wet = rX w a m' lv wet := by
      intro lv wet
      funext j
      unfold rX
      rw [h.1 a _ (by omega) (by omega) (by omega) (by omega) (by omega), h.1 a _ (by omega) (by omega) (by omega) (by omega) (by omega), h.1 (a + 10) _ (by omega) (by omega) (by omega) (by omega) (by omega), h.1 (58 + m') _ (by omega) (by omega) (by omega) (by omega) (by omega), h.1 (71 + m') _ (by omega) (by omega) (by omega) (by omega) (by omega)]
    unfold dE dSh dCo
    rw [e]
    exact ⟨rfl, rfl, rfl⟩
  obtain ⟨g1, g2, g3, g4, g5⟩ := hq
  refine ⟨fun k i k1 k2 k3 k4 k5 => ?_, g2, fun m' st' hm' => ⟨fun hd => ?_, fun hd => ?_⟩⟩
  · rw [g1 k i k1 k2 (by omega) (by omega) (by omega)]; exact h.1 k i k1 k2 k3 k4 k5
  · by_cases q : m' = m ∧ st' = st
    · obtain ⟨rfl, rfl⟩ := q
      have := hx m' st' hm'
      exact ⟨g3.trans this.1, g4.trans this.2.1, g5.trans this.2.2⟩
    · have := (h.2.2 m' st' hm').1 (by rcases hd with hd | hd; exact hd; exact absurd hd q)
      rw [g1 _ _ (by omega) (by omega) (by omega) (by omega) (by omega), g1 (108 + m') _ (by omega) (by omega) (by omega) (by omega) (by omega), g1 (121 + m') _ (by omega) (by omega) (by omega) (by omega) (by omega)]
      exact this
  · have q : ¬ (m' = m ∧ st' = st) := fun z => hd (Or.inr z)
    have := (h.2.2 m' st' hm').2 (fun z => hd (Or.inl z))
    rw [g1 _ _ (by omega) (by omega) (by omega) (by omega) (by omega), g1 (108 + m') _ (by omega) (by omega) (by omega) (by omega) (by omega), g1 (121 + m') _ (by omega) (by omega) (by omega) (by omega) (by omega)]
    exact this
theorem loI_p {S w w1 : wW} {a : Nat} {D : Nat → Nat → Prop} {m st : Nat} (hS : hR S) (hXw : hX S w) (hr : rR w a) (hpl : plA w a (S 0 1)) (h : loI S w a D w1) (hm : m < 12) (hst : (st : Int) ≤ 2 * S 0 1 + 1) : p_X0_layOutState S [vr 93, vr a, vi m, vi st] w1 := by
  have ha := hr.1
  have he : ∀ k i, k < 88 → w1 k i = w k i := fun k i hk => h.1 k i (by omega) (by omega) (by omega) (by omega) (by omega)
  refine ⟨rfl, hS, hX_of hXw (fun k i hk => he k i (by omega)), ⟨ha, ?_, ?_, fun m hm => ?_⟩, by omega, by omega, h.2.1, fun h3 m lv wet hm l1 l2 l3 => ?_⟩
  · rw [he a 1 (by omega)]; exact hr.2.1
  · rw [he a 2 (by omega)]; exact hr.2.2.1
  · rw [he (a + 10) m (by omega)]; exact hr.2.2.2 m hm
  · rw [he a 1 (by omega)] at h3
    rw [he (58 + m) _ (by omega), he (71 + m) _ (by omega)]
    exact hpl h3 m lv wet hm l1 l2 l3
def p_X0_layOut (S : wW) : List wV → wW → Prop := fun av w => match av with
  | [.inr (.inr (some this)), .inr (.inr (some a)), .inl lo, .inl hi] => this = 93 ∧ hR S ∧ hX S w ∧ rR w a ∧ plA w a (S 0 1) ∧ (0 ≤ lo ∧ lo ≤ hi ∧ hi ≤ S 0 1)
  | _ => False
theorem h_X0_layOut (S : wW) : ∀ av w, (p_X0_layOut S) av w → ∃ a r, av = vr a :: r ∧ w_kd a = 100 + 0 := by
  intro av w h
  unfold p_X0_layOut at h
  split at h
  · refine ⟨_, _, rfl, ?_⟩
    first | (rw [h.1]; rfl) | (rw [h]; rfl)
  · exact h.elim
def q_X0_layOut (S : wW) : List wV → wW → Int → wW → Prop := fun av w r w' => match av with
  | [.inr (.inr (some this)), .inr (.inr (some a)), .inl lo, .inl hi] => loI S w a (fun _ st => lo ≤ (st / 2 : Nat) ∧ ((st / 2 : Nat) : Int) ≤ hi) w'
  | _ => False
set_option maxRecDepth 100000 in
set_option maxHeartbeats 4000000 in
theorem c_X0_layOut (S : wW) : w_Ct yX0_layOut cX0_layOut 6 0 4 97 (p_X0_layOut S) (q_X0_layOut S) := by
  refine w_met (own := RX0) (fl := w_fl0) (gs := w_gs0) (kl := w_kl0) (ki := w_ki0) (cs := [(80, (0, 3, 0, (p_X6_startFull S), (q_X6_startFull S))), (85, (0, 4, 0, (p_X0_layOutState S), (q_X0_layOutState S)))]) (by decide +kernel) rfl ?_ w_flok0 w_gsok0 w_klok0 w_kiok0 ?_ ?_
  · intro av w h
    unfold p_X0_layOut at h
    split at h
    · simp [w_pos, w_cat]
    · exact h.elim
  · exact List.forall_mem_cons.mpr ⟨⟨_, _, w_callV (own := RX0) (idx := 80) (ci := 6) (c_X6_startFull S) rfl rfl (h_X6_startFull S) (w_m3 229 (by decide +kernel) (by decide +kernel)) (w_m3 142 (by decide +kernel) (by decide +kernel)) (w_m3 143 (by decide +kernel) (by decide +kernel)) (w_m1 9 (by decide +kernel) (by decide +kernel)) (w_m3 144 (by decide +kernel) (by decide +kernel)) ⟨by decide +kernel, by decide +kernel, by decide +kernel⟩, by decide, by decide⟩, List.forall_mem_cons.mpr ⟨⟨_, _, w_callV (own := RX0) (idx := 85) (ci := 0) (c_X0_layOutState S) rfl rfl (h_X0_layOutState S) (w_m3 230 (by decide +kernel) (by decide +kernel)) (w_m3 232 (by decide +kernel) (by decide +kernel)) (w_m0 23 (by decide +kernel) (by decide +kernel)) (w_m1 11 (by decide +kernel) (by decide +kernel)) (w_m3 233 (by decide +kernel) (by decide +kernel)) ⟨by decide +kernel, by decide +kernel, by decide +kernel⟩, by decide, by decide⟩, fun _ h => absurd h List.not_mem_nil⟩⟩
  intro av w hp
  unfold p_X0_layOut at hp
  split at hp
  case h_2 => exact hp.elim
  rename_i this a lo hi
  intro G hG
  simp only [w_ent, w_pos, w_cat, Nat.reduceEqDiff, ↓reduceIte, List.length_cons, List.length_nil, Nat.reduceAdd, Nat.reduceSub, List.cons_append, List.nil_append, List.replicate_succ, List.replicate_zero]
  obtain ⟨rfl, hS, hXw, hr, hpl, hlo⟩ := hp
  obtain ⟨lo, rfl⟩ : ∃ n : Nat, lo = n := ⟨lo.toNat, by omega⟩
  obtain ⟨hi, rfl⟩ : ∃ n : Nat, hi = n := ⟨hi.toNat, by omega⟩
  have hSz := hS.2.2.1
  have ha := hr.1
  have s0 : w 5 0 = S 0 0 := hXw.2.1 0 (by decide)
  have s1 : w 5 1 = S 0 1 := hXw.2.1 1 (by decide)
  have inner : ∀ m : Nat, m < 12 → (∀ w1, loI S w a (fun m' st => m' < m + 1 ∧ lo ≤ st / 2 ∧ st / 2 ≤ hi) w1 → ∀ x5, G 28 [some (vr 93), some (vr a), some (vi lo), some (vi hi), some (vi (m + 1)), x5] [] w1) →
      ∀ d lv : Nat, lv + d = hi + 1 → lo ≤ lv → ∀ w1, loI S w a (fun m' st => (m' < m ∧ lo ≤ st / 2 ∧ st / 2 ≤ hi) ∨ (m' = m ∧ lo ≤ st / 2 ∧ st / 2 < lv)) w1 → G 38 [some (vr 93), some (vr a), some (vi lo), some (vi hi), some (vi m), some (vi lv)] [] w1 := by
    intro m hm hnext d
    induction d with
    | zero =>
      intro lv hlv hll w1 hw1
      have e := hnext w1 (loI_c hw1 (fun m' st hm' => by omega))
      (apply hG [38, 28] 2000; simp only [w_br_i, w_ite, w_all, w_all0, forall_eq, w_b0, w_b1, ↓reduceIte, w_ent, w_pos, List.replicate_succ, List.replicate_zero, wp_s, wk_s, w_lk_c, w_ld0, w_ldS, w_kp0, w_kp, w_s1, w_s2, w_to, w_if, w_call, w_sw, w_cat, w_cats, w_psh, w_fv, List.contains_cons, List.contains_nil, List.set_cons_zero, List.set_cons_succ, List.length_cons, List.length_nil, List.find?_cons, List.find?_nil, List.take_succ_cons, List.take_zero, List.drop_succ_cons, List.drop_zero, List.reverse_cons, List.reverse_nil, List.nil_append, List.cons_append, Option.map_some, Option.map_none, Nat.reduceAdd, Nat.reduceBEq, Nat.reduceEqDiff, Nat.reduceLT, Nat.reduceLeDiff, Nat.reduceSub, Int.reduceAdd, Int.reduceSub, Int.reduceMul, Int.reduceNeg, Int.reduceToNat, Int.reduceLT, Int.reduceLE, Int.reduceEq, Bool.false_eq_true, Bool.or_false, Bool.false_or, Bool.true_or, Bool.or_true, if_true, if_false, ite_true, ite_false, true_and, and_true, false_and, and_false, true_or, or_true, false_or, or_false, Int.cast_ofNat_Int, Int.toNat_natCast, Int.natCast_add, List.getElem?_cons_zero, List.getElem?_cons_succ, true_implies, forall_const, not_true_eq_false, not_false_eq_true, ne_eq, beq_iff_eq, imp_self, List.length_set, Nat.zero_add, Nat.add_zero, Int.zero_add, Int.add_zero, w1_aload_n_0, w1_getfield, w1_iconst, w1_iaload, w1_invokevirtual, w1_istore, w1_iload, w1_bipush, w1_if_icmp, w1_iload_n_2, w1_iload_n_3, w1_aload_n_1, w1_imul, w1_iadd, w1_iinc, w1_goto, w1_return, dX0_layOut_0, dX0_layOut_1, dX0_layOut_4, dX0_layOut_5, dX0_layOut_8, dX0_layOut_11, dX0_layOut_12, dX0_layOut_13, dX0_layOut_14, dX0_layOut_17, dX0_layOut_20, dX0_layOut_21, dX0_layOut_22, dX0_layOut_25, dX0_layOut_26, dX0_layOut_28, dX0_layOut_30, dX0_layOut_32, dX0_layOut_35, dX0_layOut_36, dX0_layOut_38, dX0_layOut_40, dX0_layOut_41, dX0_layOut_44, dX0_layOut_45, dX0_layOut_46, dX0_layOut_48, dX0_layOut_49, dX0_layOut_51, dX0_layOut_52, dX0_layOut_55, dX0_layOut_56, dX0_layOut_57, dX0_layOut_59, dX0_layOut_60, dX0_layOut_62, dX0_layOut_63, dX0_layOut_64, dX0_layOut_65, dX0_layOut_68, dX0_layOut_71, dX0_layOut_74, dX0_layOut_77, dX0_layOut_80, w_flk0_36, w_flk0_44, w_flk0_48, w_kd_93, w_rf_93_0, w_rf_93_1, w_rf_93_2, w_rf_93_3, w_rf_93_4, w_rf_93_5, w_rf_93_6, w_rf_93_7, w_rf_93_8])
      (repeat' (with_reducible (first | refine And.intro ?_ ?_ | intro _))) <;> (try (first | assumption | contradiction | exact Or.inl trivial | exact Or.inl rfl | exact Or.inr rfl | (simp only [inI, inL]; omega) | omega))
      all_goals first
        | exact e _
        | (exfalso; omega)
    | succ d ih =>
      intro lv hlv hll w1 hw1
      have hpc := loI_p (m := m) (st := 2 * lv) hS hXw hr hpl hw1 hm (by omega)
      have e55 : ∀ r w2, q_X0_layOutState S [vr 93, vr a, vi m, vi (2 * lv : Nat)] w1 r w2 → G 55 [some (vr 93), some (vr a), some (vi lo), some (vi hi), some (vi m), some (vi lv)] [] w2 := by
        intro r w2 hq
        simp only [q_X0_layOutState, Int.toNat_natCast] at hq
        have h2 := loI_s ha hm hw1 hq
        have hpc2 := loI_p (m := m) (st := 2 * lv + 1) hS hXw hr hpl h2 hm (by omega)
        have e68 : ∀ r w3, q_X0_layOutState S [vr 93, vr a, vi m, vi (2 * lv + 1 : Nat)] w2 r w3 → G 68 [some (vr 93), some (vr a), some (vi lo), some (vi hi), some (vi m), some (vi lv)] [] w3 := by
          intro r w3 hq
          simp only [q_X0_layOutState, Int.toNat_natCast] at hq
          have h3 := loI_s ha hm h2 hq
          have e := ih (lv + 1) (by omega) (by omega) w3 (loI_c h3 (fun m' st hm' => by omega))
          simp only [Int.natCast_add, Int.cast_ofNat_Int] at e
          (apply hG [38, 28] 2000; simp only [w_br_i, w_ite, w_all, w_all0, forall_eq, w_b0, w_b1, ↓reduceIte, w_ent, w_pos, List.replicate_succ, List.replicate_zero, wp_s, wk_s, w_lk_c, w_ld0, w_ldS, w_kp0, w_kp, w_s1, w_s2, w_to, w_if, w_call, w_sw, w_cat, w_cats, w_psh, w_fv, List.contains_cons, List.contains_nil, List.set_cons_zero, List.set_cons_succ, List.length_cons, List.length_nil, List.find?_cons, List.find?_nil, List.take_succ_cons, List.take_zero, List.drop_succ_cons, List.drop_zero, List.reverse_cons, List.reverse_nil, List.nil_append, List.cons_append, Option.map_some, Option.map_none, Nat.reduceAdd, Nat.reduceBEq, Nat.reduceEqDiff, Nat.reduceLT, Nat.reduceLeDiff, Nat.reduceSub, Int.reduceAdd, Int.reduceSub, Int.reduceMul, Int.reduceNeg, Int.reduceToNat, Int.reduceLT, Int.reduceLE, Int.reduceEq, Bool.false_eq_true, Bool.or_false, Bool.false_or, Bool.true_or, Bool.or_true, if_true, if_false, ite_true, ite_false, true_and, and_true, false_and, and_false, true_or, or_true, false_or, or_false, Int.cast_ofNat_Int, Int.toNat_natCast, Int.natCast_add, List.getElem?_cons_zero, List.getElem?_cons_succ, true_implies, forall_const, not_true_eq_false, not_false_eq_true, ne_eq, beq_iff_eq, imp_self, List.length_set, Nat.zero_add, Nat.add_zero, Int.zero_add, Int.add_zero, w1_aload_n_0, w1_getfield, w1_iconst, w1_iaload, w1_invokevirtual, w1_istore, w1_iload, w1_bipush, w1_if_icmp, w1_iload_n_2, w1_iload_n_3, w1_aload_n_1, w1_imul, w1_iadd, w1_iinc, w1_goto, w1_return, dX0_layOut_0, dX0_layOut_1, dX0_layOut_4, dX0_layOut_5, dX0_layOut_8, dX0_layOut_11, dX0_layOut_12, dX0_layOut_13, dX0_layOut_14, dX0_layOut_17, dX0_layOut_20, dX0_layOut_21, dX0_layOut_22, dX0_layOut_25, dX0_layOut_26, dX0_layOut_28, dX0_layOut_30, dX0_layOut_32, dX0_layOut_35, dX0_layOut_36, dX0_layOut_38, dX0_layOut_40, dX0_layOut_41, dX0_layOut_44, dX0_layOut_45, dX0_layOut_46, dX0_layOut_48, dX0_layOut_49, dX0_layOut_51, dX0_layOut_52, dX0_layOut_55, dX0_layOut_56, dX0_layOut_57, dX0_layOut_59, dX0_layOut_60, dX0_layOut_62, dX0_layOut_63, dX0_layOut_64, dX0_layOut_65, dX0_layOut_68, dX0_layOut_71, dX0_layOut_74, dX0_layOut_77, dX0_layOut_80, w_flk0_36, w_flk0_44, w_flk0_48, w_kd_93, w_rf_93_0, w_rf_93_1, w_rf_93_2, w_rf_93_3, w_rf_93_4, w_rf_93_5, w_rf_93_6, w_rf_93_7, w_rf_93_8])
          exact e
        simp only [Int.natCast_add, Int.natCast_mul, Int.cast_ofNat_Int] at hpc2 e68
        (apply hG [68, 38, 28] 2000; simp only [w_br_i, w_ite, w_all, w_all0, forall_eq, w_b0, w_b1, ↓reduceIte, w_ent, w_pos, List.replicate_succ, List.replicate_zero, wp_s, wk_s, w_lk_c, w_ld0, w_ldS, w_kp0, w_kp, w_s1, w_s2, w_to, w_if, w_call, w_sw, w_cat, w_cats, w_psh, w_fv, List.contains_cons, List.contains_nil, List.set_cons_zero, List.set_cons_succ, List.length_cons, List.length_nil, List.find?_cons, List.find?_nil, List.take_succ_cons, List.take_zero, List.drop_succ_cons, List.drop_zero, List.reverse_cons, List.reverse_nil, List.nil_append, List.cons_append, Option.map_some, Option.map_none, Nat.reduceAdd, Nat.reduceBEq, Nat.reduceEqDiff, Nat.reduceLT, Nat.reduceLeDiff, Nat.reduceSub, Int.reduceAdd, Int.reduceSub, Int.reduceMul, Int.reduceNeg, Int.reduceToNat, Int.reduceLT, Int.reduceLE, Int.reduceEq, Bool.false_eq_true, Bool.or_false, Bool.false_or, Bool.true_or, Bool.or_true, if_true, if_false, ite_true, ite_false, true_and, and_true, false_and, and_false, true_or, or_true, false_or, or_false, Int.cast_ofNat_Int, Int.toNat_natCast, Int.natCast_add, List.getElem?_cons_zero, List.getElem?_cons_succ, true_implies, forall_const, not_true_eq_false, not_false_eq_true, ne_eq, beq_iff_eq, imp_self, List.length_set, Nat.zero_add, Nat.add_zero, Int.zero_add, Int.add_zero, w1_aload_n_0, w1_getfield, w1_iconst, w1_iaload, w1_invokevirtual, w1_istore, w1_iload, w1_bipush, w1_if_icmp, w1_iload_n_2, w1_iload_n_3, w1_aload_n_1, w1_imul, w1_iadd, w1_iinc, w1_goto, w1_return, dX0_layOut_0, dX0_layOut_1, dX0_layOut_4, dX0_layOut_5, dX0_layOut_8, dX0_layOut_11, dX0_layOut_12, dX0_layOut_13, dX0_layOut_14, dX0_layOut_17, dX0_layOut_20, dX0_layOut_21, dX0_layOut_22, dX0_layOut_25, dX0_layOut_26, dX0_layOut_28, dX0_layOut_30, dX0_layOut_32, dX0_layOut_35, dX0_layOut_36, dX0_layOut_38, dX0_layOut_40, dX0_layOut_41, dX0_layOut_44, dX0_layOut_45, dX0_layOut_46, dX0_layOut_48, dX0_layOut_49, dX0_layOut_51, dX0_layOut_52, dX0_layOut_55, dX0_layOut_56, dX0_layOut_57, dX0_layOut_59, dX0_layOut_60, dX0_layOut_62, dX0_layOut_63, dX0_layOut_64, dX0_layOut_65, dX0_layOut_68, dX0_layOut_71, dX0_layOut_74, dX0_layOut_77, dX0_layOut_80, w_flk0_36, w_flk0_44, w_flk0_48, w_kd_93, w_rf_93_0, w_rf_93_1, w_rf_93_2, w_rf_93_3, w_rf_93_4, w_rf_93_5, w_rf_93_6, w_rf_93_7, w_rf_93_8, hpc2])
        (repeat' (with_reducible (first | refine And.intro ?_ ?_ | intro _))) <;> (try (first | assumption | contradiction | exact Or.inl trivial | exact Or.inl rfl | exact Or.inr rfl | (simp only [inI, inL]; omega) | omega))
        all_goals exact e68 _ _ (by assumption)
      simp only [Int.natCast_mul, Int.cast_ofNat_Int] at hpc e55
      (apply hG [55, 74, 38, 28] 2000; simp only [w_br_i, w_ite, w_all, w_all0, forall_eq, w_b0, w_b1, ↓reduceIte, w_ent, w_pos, List.replicate_succ, List.replicate_zero, wp_s, wk_s, w_lk_c, w_ld0, w_ldS, w_kp0, w_kp, w_s1, w_s2, w_to, w_if, w_call, w_sw, w_cat, w_cats, w_psh, w_fv, List.contains_cons, List.contains_nil, List.set_cons_zero, List.set_cons_succ, List.length_cons, List.length_nil, List.find?_cons, List.find?_nil, List.take_succ_cons, List.take_zero, List.drop_succ_cons, List.drop_zero, List.reverse_cons, List.reverse_nil, List.nil_append, List.cons_append, Option.map_some, Option.map_none, Nat.reduceAdd, Nat.reduceBEq, Nat.reduceEqDiff, Nat.reduceLT, Nat.reduceLeDiff, Nat.reduceSub, Int.reduceAdd, Int.reduceSub, Int.reduceMul, Int.reduceNeg, Int.reduceToNat, Int.reduceLT, Int.reduceLE, Int.reduceEq, Bool.false_eq_true, Bool.or_false, Bool.false_or, Bool.true_or, Bool.or_true, if_true, if_false, ite_true, ite_false, true_and, and_true, false_and, and_false, true_or, or_true, false_or, or_false, Int.cast_ofNat_Int, Int.toNat_natCast, Int.natCast_add, List.getElem?_cons_zero, List.getElem?_cons_succ, true_implies, forall_const, not_true_eq_false, not_false_eq_true, ne_eq, beq_iff_eq, imp_self, List.length_set, Nat.zero_add, Nat.add_zero, Int.zero_add, Int.add_zero, w1_aload_n_0, w1_getfield, w1_iconst, w1_iaload, w1_invokevirtual, w1_istore, w1_iload, w1_bipush, w1_if_icmp, w1_iload_n_2, w1_iload_n_3, w1_aload_n_1, w1_imul, w1_iadd, w1_iinc, w1_goto, w1_return, dX0_layOut_0, dX0_layOut_1, dX0_layOut_4, dX0_layOut_5, dX0_layOut_8, dX0_layOut_11, dX0_layOut_12, dX0_layOut_13, dX0_layOut_14, dX0_layOut_17, dX0_layOut_20, dX0_layOut_21, dX0_layOut_22, dX0_layOut_25, dX0_layOut_26, dX0_layOut_28, dX0_layOut_30, dX0_layOut_32, dX0_layOut_35, dX0_layOut_36, dX0_layOut_38, dX0_layOut_40, dX0_layOut_41, dX0_layOut_44, dX0_layOut_45, dX0_layOut_46, dX0_layOut_48, dX0_layOut_49, dX0_layOut_51, dX0_layOut_52, dX0_layOut_55, dX0_layOut_56, dX0_layOut_57, dX0_layOut_59, dX0_layOut_60, dX0_layOut_62, dX0_layOut_63, dX0_layOut_64, dX0_layOut_65, dX0_layOut_68, dX0_layOut_71, dX0_layOut_74, dX0_layOut_77, dX0_layOut_80, w_flk0_36, w_flk0_44, w_flk0_48, w_kd_93, w_rf_93_0, w_rf_93_1, w_rf_93_2, w_rf_93_3, w_rf_93_4, w_rf_93_5, w_rf_93_6, w_rf_93_7, w_rf_93_8, hpc])
      (repeat' (with_reducible (first | refine And.intro ?_ ?_ | intro _))) <;> (try (first | assumption | contradiction | exact Or.inl trivial | exact Or.inl rfl | exact Or.inr rfl | (simp only [inI, inL]; omega) | omega))
      all_goals first
        | exact e55 _ _ (by assumption)
        | (exfalso; omega)
  have outer : ∀ d m : Nat, m + d = 12 → ∀ w1, loI S w a (fun m' st => m' < m ∧ lo ≤ st / 2 ∧ st / 2 ≤ hi) w1 → ∀ x5 : Option wV, G 28 [some (vr 93), some (vr a), some (vi lo), some (vi hi), some (vi m), x5] [] w1 := by
    intro d
    induction d with
    | zero =>
      intro m hm w1 hw1 x5
      have e : m = 12 := by omega
      subst e
      (apply hG [28, 38] 2000; simp only [w_br_i, w_ite, w_all, w_all0, forall_eq, w_b0, w_b1, ↓reduceIte, w_ent, w_pos, List.replicate_succ, List.replicate_zero, wp_s, wk_s, w_lk_c, w_ld0, w_ldS, w_kp0, w_kp, w_s1, w_s2, w_to, w_if, w_call, w_sw, w_cat, w_cats, w_psh, w_fv, List.contains_cons, List.contains_nil, List.set_cons_zero, List.set_cons_succ, List.length_cons, List.length_nil, List.find?_cons, List.find?_nil, List.take_succ_cons, List.take_zero, List.drop_succ_cons, List.drop_zero, List.reverse_cons, List.reverse_nil, List.nil_append, List.cons_append, Option.map_some, Option.map_none, Nat.reduceAdd, Nat.reduceBEq, Nat.reduceEqDiff, Nat.reduceLT, Nat.reduceLeDiff, Nat.reduceSub, Int.reduceAdd, Int.reduceSub, Int.reduceMul, Int.reduceNeg, Int.reduceToNat, Int.reduceLT, Int.reduceLE, Int.reduceEq, Bool.false_eq_true, Bool.or_false, Bool.false_or, Bool.true_or, Bool.or_true, if_true, if_false, ite_true, ite_false, true_and, and_true, false_and, and_false, true_or, or_true, false_or, or_false, Int.cast_ofNat_Int, Int.toNat_natCast, Int.natCast_add, List.getElem?_cons_zero, List.getElem?_cons_succ, true_implies, forall_const, not_true_eq_false, not_false_eq_true, ne_eq, beq_iff_eq, imp_self, List.length_set, Nat.zero_add, Nat.add_zero, Int.zero_add, Int.add_zero, w1_aload_n_0, w1_getfield, w1_iconst, w1_iaload, w1_invokevirtual, w1_istore, w1_iload, w1_bipush, w1_if_icmp, w1_iload_n_2, w1_iload_n_3, w1_aload_n_1, w1_imul, w1_iadd, w1_iinc, w1_goto, w1_return, dX0_layOut_0, dX0_layOut_1, dX0_layOut_4, dX0_layOut_5, dX0_layOut_8, dX0_layOut_11, dX0_layOut_12, dX0_layOut_13, dX0_layOut_14, dX0_layOut_17, dX0_layOut_20, dX0_layOut_21, dX0_layOut_22, dX0_layOut_25, dX0_layOut_26, dX0_layOut_28, dX0_layOut_30, dX0_layOut_32, dX0_layOut_35, dX0_layOut_36, dX0_layOut_38, dX0_layOut_40, dX0_layOut_41, dX0_layOut_44, dX0_layOut_45, dX0_layOut_46, dX0_layOut_48, dX0_layOut_49, dX0_layOut_51, dX0_layOut_52, dX0_layOut_55, dX0_layOut_56, dX0_layOut_57, dX0_layOut_59, dX0_layOut_60, dX0_layOut_62, dX0_layOut_63, dX0_layOut_64, dX0_layOut_65, dX0_layOut_68, dX0_layOut_71, dX0_layOut_74, dX0_layOut_77, dX0_layOut_80, w_flk0_36, w_flk0_44, w_flk0_48, w_kd_93, w_rf_93_0, w_rf_93_1, w_rf_93_2, w_rf_93_3, w_rf_93_4, w_rf_93_5, w_rf_93_6, w_rf_93_7, w_rf_93_8])
      (repeat' (with_reducible (first | refine And.intro ?_ ?_ | intro _))) <;> (try (first | assumption | contradiction | exact Or.inl trivial | exact Or.inl rfl | exact Or.inr rfl | (simp only [inI, inL]; omega) | omega))
      all_goals first
        | (simp only [q_X0_layOut]; exact loI_c hw1 (fun m' st hm' => by omega))
        | (exfalso; omega)
    | succ d ih =>
      intro m hm w1 hw1 x5
      have e := inner m (by omega) (fun w1 hw1 x5 => by
        have e := ih (m + 1) (by omega) w1 hw1 x5
        simp only [Int.natCast_add, Int.cast_ofNat_Int] at e
        exact e) (hi + 1 - lo) lo (by omega) (Nat.le_refl _) w1 (loI_c hw1 (fun m' st hm' => by omega))
      (apply hG [28, 38] 2000; simp only [w_br_i, w_ite, w_all, w_all0, forall_eq, w_b0, w_b1, ↓reduceIte, w_ent, w_pos, List.replicate_succ, List.replicate_zero, wp_s, wk_s, w_lk_c, w_ld0, w_ldS, w_kp0, w_kp, w_s1, w_s2, w_to, w_if, w_call, w_sw, w_cat, w_cats, w_psh, w_fv, List.contains_cons, List.contains_nil, List.set_cons_zero, List.set_cons_succ, List.length_cons, List.length_nil, List.find?_cons, List.find?_nil, List.take_succ_cons, List.take_zero, List.drop_succ_cons, List.drop_zero, List.reverse_cons, List.reverse_nil, List.nil_append, List.cons_append, Option.map_some, Option.map_none, Nat.reduceAdd, Nat.reduceBEq, Nat.reduceEqDiff, Nat.reduceLT, Nat.reduceLeDiff, Nat.reduceSub, Int.reduceAdd, Int.reduceSub, Int.reduceMul, Int.reduceNeg, Int.reduceToNat, Int.reduceLT, Int.reduceLE, Int.reduceEq, Bool.false_eq_true, Bool.or_false, Bool.false_or, Bool.true_or, Bool.or_true, if_true, if_false, ite_true, ite_false, true_and, and_true, false_and, and_false, true_or, or_true, false_or, or_false, Int.cast_ofNat_Int, Int.toNat_natCast, Int.natCast_add, List.getElem?_cons_zero, List.getElem?_cons_succ, true_implies, forall_const, not_true_eq_false, not_false_eq_true, ne_eq, beq_iff_eq, imp_self, List.length_set, Nat.zero_add, Nat.add_zero, Int.zero_add, Int.add_zero, w1_aload_n_0, w1_getfield, w1_iconst, w1_iaload, w1_invokevirtual, w1_istore, w1_iload, w1_bipush, w1_if_icmp, w1_iload_n_2, w1_iload_n_3, w1_aload_n_1, w1_imul, w1_iadd, w1_iinc, w1_goto, w1_return, dX0_layOut_0, dX0_layOut_1, dX0_layOut_4, dX0_layOut_5, dX0_layOut_8, dX0_layOut_11, dX0_layOut_12, dX0_layOut_13, dX0_layOut_14, dX0_layOut_17, dX0_layOut_20, dX0_layOut_21, dX0_layOut_22, dX0_layOut_25, dX0_layOut_26, dX0_layOut_28, dX0_layOut_30, dX0_layOut_32, dX0_layOut_35, dX0_layOut_36, dX0_layOut_38, dX0_layOut_40, dX0_layOut_41, dX0_layOut_44, dX0_layOut_45, dX0_layOut_46, dX0_layOut_48, dX0_layOut_49, dX0_layOut_51, dX0_layOut_52, dX0_layOut_55, dX0_layOut_56, dX0_layOut_57, dX0_layOut_59, dX0_layOut_60, dX0_layOut_62, dX0_layOut_63, dX0_layOut_64, dX0_layOut_65, dX0_layOut_68, dX0_layOut_71, dX0_layOut_74, dX0_layOut_77, dX0_layOut_80, w_flk0_36, w_flk0_44, w_flk0_48, w_kd_93, w_rf_93_0, w_rf_93_1, w_rf_93_2, w_rf_93_3, w_rf_93_4, w_rf_93_5, w_rf_93_6, w_rf_93_7, w_rf_93_8])
      (repeat' (with_reducible (first | refine And.intro ?_ ?_ | intro _))) <;> (try (first | assumption | contradiction | exact Or.inl trivial | exact Or.inl rfl | exact Or.inr rfl | (simp only [inI, inL]; omega) | omega))
      all_goals first
        | exact e
        | (exfalso; omega)
  have hpc : p_X6_startFull S [vr 88, vi (S 0 0), vi (S 0 1)] w := ⟨rfl, hXw⟩
  have e := outer 12 0 rfl (tw w (t_start w (S 0 0) (S 0 1) (S 0 4)) (w 89)) (by
    refine ⟨fun k i k1 k2 k3 k4 k5 => tw_x _ _ _ ⟨k1, k2⟩, ?_, fun m st hm => ⟨fun h => by omega, fun _ => ⟨tw_x _ _ _ ⟨by omega, by omega⟩, tw_x _ _ _ ⟨by omega, by omega⟩, tw_x _ _ _ ⟨by omega, by omega⟩⟩⟩⟩
    rw [tw_88 _ _ _ _ (by decide)]
    simp [t_start, fup]) none
  simp only [Int.cast_ofNat_Int] at e
  (apply hG [28, 38] 2000; simp only [w_br_i, w_ite, w_all, w_all0, forall_eq, w_b0, w_b1, ↓reduceIte, w_ent, w_pos, List.replicate_succ, List.replicate_zero, wp_s, wk_s, w_lk_c, w_ld0, w_ldS, w_kp0, w_kp, w_s1, w_s2, w_to, w_if, w_call, w_sw, w_cat, w_cats, w_psh, w_fv, List.contains_cons, List.contains_nil, List.set_cons_zero, List.set_cons_succ, List.length_cons, List.length_nil, List.find?_cons, List.find?_nil, List.take_succ_cons, List.take_zero, List.drop_succ_cons, List.drop_zero, List.reverse_cons, List.reverse_nil, List.nil_append, List.cons_append, Option.map_some, Option.map_none, Nat.reduceAdd, Nat.reduceBEq, Nat.reduceEqDiff, Nat.reduceLT, Nat.reduceLeDiff, Nat.reduceSub, Int.reduceAdd, Int.reduceSub, Int.reduceMul, Int.reduceNeg, Int.reduceToNat, Int.reduceLT, Int.reduceLE, Int.reduceEq, Bool.false_eq_true, Bool.or_false, Bool.false_or, Bool.true_or, Bool.or_true, if_true, if_false, ite_true, ite_false, true_and, and_true, false_and, and_false, true_or, or_true, false_or, or_false, Int.cast_ofNat_Int, Int.toNat_natCast, Int.natCast_add, List.getElem?_cons_zero, List.getElem?_cons_succ, true_implies, forall_const, not_true_eq_false, not_false_eq_true, ne_eq, beq_iff_eq, imp_self, List.length_set, Nat.zero_add, Nat.add_zero, Int.zero_add, Int.add_zero, w1_aload_n_0, w1_getfield, w1_iconst, w1_iaload, w1_invokevirtual, w1_istore, w1_iload, w1_bipush, w1_if_icmp, w1_iload_n_2, w1_iload_n_3, w1_aload_n_1, w1_imul, w1_iadd, w1_iinc, w1_goto, w1_return, dX0_layOut_0, dX0_layOut_1, dX0_layOut_4, dX0_layOut_5, dX0_layOut_8, dX0_layOut_11, dX0_layOut_12, dX0_layOut_13, dX0_layOut_14, dX0_layOut_17, dX0_layOut_20, dX0_layOut_21, dX0_layOut_22, dX0_layOut_25, dX0_layOut_26, dX0_layOut_28, dX0_layOut_30, dX0_layOut_32, dX0_layOut_35, dX0_layOut_36, dX0_layOut_38, dX0_layOut_40, dX0_layOut_41, dX0_layOut_44, dX0_layOut_45, dX0_layOut_46, dX0_layOut_48, dX0_layOut_49, dX0_layOut_51, dX0_layOut_52, dX0_layOut_55, dX0_layOut_56, dX0_layOut_57, dX0_layOut_59, dX0_layOut_60, dX0_layOut_62, dX0_layOut_63, dX0_layOut_64, dX0_layOut_65, dX0_layOut_68, dX0_layOut_71, dX0_layOut_74, dX0_layOut_77, dX0_layOut_80, w_flk0_36, w_flk0_44, w_flk0_48, w_kd_4, w_rf_4_0, w_rf_4_1, w_rf_4_2, w_rf_4_3, w_rf_4_4, w_rf_4_5, w_kd_5, w_ln_5, w_kd_93, w_rf_93_0, w_rf_93_1, w_rf_93_2, w_rf_93_3, w_rf_93_4, w_rf_93_5, w_rf_93_6, w_rf_93_7, w_rf_93_8, s0, s1, hpc, q_X6_startFull])
  (repeat' (with_reducible (first | refine And.intro ?_ ?_ | intro _))) <;> (try (first | assumption | contradiction | exact Or.inl trivial | exact Or.inl rfl | exact Or.inr rfl | (simp only [inI, inL]; omega) | omega))
