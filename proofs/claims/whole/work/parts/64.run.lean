/-! the calls that ask: what holds ahead of them and behind them -/
def RQ (S T w : wW) : Prop := ((0 ≤ T 4 2 ∧ T 4 2 ≤ 8) ∧ w 0 11 = T 4 2) ∧ (inI (T 4 4) ∧ w 0 12 = T 4 4) ∧ (yR S ∧ yX S w) ∧ (¬ T 4 4 = 0 → hR S ∧ hX S w) ∧ wiI S w ∧ ∀ r, r < (T 4 2).toNat → rR w (36 + r) ∧ rC T w r
def evT (S w w' : wW) : Prop := (∀ k i, (k < 56 ∨ 92 < k) → w' k i = w k i) ∧ wiI S w'
theorem RQ_ev {S T w w' : wW} (h : RQ S T w) (he : evT S w w') : RQ S T w' := by
  obtain ⟨⟨h1, h2⟩, ⟨h3, h4⟩, ⟨h5, h6⟩, h7, h8, h9⟩ := h
  refine ⟨⟨h1, by rw [he.1 0 11 (by omega)]; exact h2⟩, ⟨h3, by rw [he.1 0 12 (by omega)]; exact h4⟩, ⟨h5, yX_of h5 h6 (fun k i hk => he.1 k i (by omega))⟩, fun q => ⟨(h7 q).1, hX_of (h7 q).2 (fun k i hk => he.1 k i (by omega))⟩, he.2, fun r hr => ⟨rR_of (h9 r hr).1 (fun k i hk => he.1 k i (by omega)), rC_of (by omega) (h9 r hr).2 (fun k i hk => he.1 k i (by omega))⟩⟩
def runA (S T : wW) (r what : Int) : Int := if r < 0 ∨ T 4 2 ≤ r then -101 else if T 4 4 = 0 ∨ S 4 1 = 0 then -103 else if what < 0 ∨ 12 < what ∨ (6 < what ∧ what < 10) then -102 else if 10 + S 4 0 ≤ what then -1 else
  if what < 10 then (if what = 6 then (rnQ (runS S T r.toNat) (monthsF S)).1 else sm (sV (runS S T r.toNat) what.toNat) (monthsF S)) else sm (rnS (runS S T r.toNat) (what - 10).toNat) (monthsF S)

def p_X9_run (S T : wW) : List wV → wW → Prop := fun av w => match av with
  | [.inr (.inr (some this)), .inl i, .inl what] => this = 0 ∧ RQ S T w ∧ inI i ∧ inI what
  | _ => False
theorem h_X9_run (S T : wW) : ∀ av w, (p_X9_run S T) av w → ∃ a r, av = vr a :: r ∧ w_kd a = 100 + 9 := by
  intro av w h
  unfold p_X9_run at h
  split at h
  · refine ⟨_, _, rfl, ?_⟩
    first | (rw [h.1]; rfl) | (rw [h]; rfl)
  · exact h.elim
def q_X9_run (S T : wW) : List wV → wW → Int → wW → Prop := fun av w r w' => match av with
  | [.inr (.inr (some this)), .inl i, .inl what] => r = runA S T i what ∧ evT S w w'
  | _ => False
set_option maxRecDepth 100000 in
set_option maxHeartbeats 4000000 in
theorem c_X9_run (S T : wW) : w_Ct yX9_run cX9_run 3 1 6 143 (p_X9_run S T) (q_X9_run S T) := by
  refine w_met (own := RX9) (fl := w_fl9) (gs := w_gs9) (kl := w_kl9) (ki := w_ki9) (cs := [(152, (0, 2, 3, p_X9_isNoRule, q_X9_isNoRule)), (180, (0, 1, 3, p_X9_lacksHouseOrYear, q_X9_lacksHouseOrYear)), (184, (0, 2, 0, (p_X9_passAllYears S T), (q_X9_passAllYears S T)))]) (by decide +kernel) rfl ?_ w_flok9 w_gsok9 w_klok9 w_kiok9 ?_ ?_
  · intro av w h
    unfold p_X9_run at h
    split at h
    · simp [w_pos, w_cat]
    · exact h.elim
  · exact List.forall_mem_cons.mpr ⟨⟨_, _, w_callV (own := RX9) (idx := 152) (ci := 9) c_X9_isNoRule rfl rfl h_X9_isNoRule (w_m3 46 (by decide +kernel) (by decide +kernel)) (w_m3 48 (by decide +kernel) (by decide +kernel)) (w_m0 10 (by decide +kernel) (by decide +kernel)) (w_m1 1 (by decide +kernel) (by decide +kernel)) (w_m3 49 (by decide +kernel) (by decide +kernel)) ⟨by decide +kernel, by decide +kernel, by decide +kernel⟩, by decide, by decide⟩, List.forall_mem_cons.mpr ⟨⟨_, _, w_callV (own := RX9) (idx := 180) (ci := 9) c_X9_lacksHouseOrYear rfl rfl h_X9_lacksHouseOrYear (w_m3 88 (by decide +kernel) (by decide +kernel)) (w_m3 90 (by decide +kernel) (by decide +kernel)) (w_m0 12 (by decide +kernel) (by decide +kernel)) (w_m1 1 (by decide +kernel) (by decide +kernel)) (w_m3 91 (by decide +kernel) (by decide +kernel)) ⟨by decide +kernel, by decide +kernel, by decide +kernel⟩, by decide, by decide⟩, List.forall_mem_cons.mpr ⟨⟨_, _, w_callV (own := RX9) (idx := 184) (ci := 9) (c_X9_passAllYears S T) rfl rfl (h_X9_passAllYears S T) (w_m3 92 (by decide +kernel) (by decide +kernel)) (w_m3 94 (by decide +kernel) (by decide +kernel)) (w_m0 13 (by decide +kernel) (by decide +kernel)) (w_m1 1 (by decide +kernel) (by decide +kernel)) (w_m3 95 (by decide +kernel) (by decide +kernel)) ⟨by decide +kernel, by decide +kernel, by decide +kernel⟩, by decide, by decide⟩, fun _ h => absurd h List.not_mem_nil⟩⟩⟩
  intro av w hp
  unfold p_X9_run at hp
  split at hp
  case h_2 => exact hp.elim
  rename_i this i what
  intro G hG
  simp only [w_ent, w_pos, w_cat, Nat.reduceEqDiff, ↓reduceIte, List.length_cons, List.length_nil, Nat.reduceAdd, Nat.reduceSub, List.cons_append, List.nil_append, List.replicate_succ, List.replicate_zero]
  obtain ⟨rfl, hQ, hi, hwh⟩ := hp
  have hT0 : evT S w w := ⟨fun k i _ => rfl, hQ.2.2.2.2.1⟩
  obtain ⟨⟨hrc, hrc0⟩, ⟨hh, hh0⟩, ⟨hy, hyX⟩, hH, hwi, hru⟩ := hQ
  have hyc := hy.1
  have hy1 := hyX.1
  have e46 : (0 ≤ i ∧ i < T 4 2) → ¬ (T 4 4 = 0 ∨ S 4 1 = 0) → (0 ≤ what ∧ what ≤ 12 ∧ ¬ (6 < what ∧ what < 10)) → G 46 [some (vr 0), some (vi i), some (vi what)] [] w := by
    intro h1 h2 h3
    obtain ⟨hS, hXw⟩ := hH (by omega)
    have hu := hS.1
    have hu0 : w 4 6 = S 4 0 := hXw.1
    have hin := hru i.toNat (by omega)
    have ha : 36 ≤ 36 + i.toNat ∧ 36 + i.toNat < 46 := by omega
    have hpc : p_X9_passAllYears S T [vr 0, vr (36 + i.toNat)] w := ⟨rfl, hS, hXw, ⟨hy, hyX⟩, hin.1, hwi, i.toNat, by omega, rfl, hin.2⟩
    have e72 : ¬ 10 + S 4 0 ≤ what → ∀ r1 w1, q_X9_passAllYears S T [vr 0, vr (36 + i.toNat)] w r1 w1 → G 72 [some (vr 0), some (vi i), some (vi what)] [] w1 := by
      intro h4 r1 w1 hq
      simp only [q_X9_passAllYears] at hq
      rw [show 36 + i.toNat - 36 = i.toNat by omega] at hq
      obtain ⟨g1, g2, g3, g4, g5, g6⟩ := hq
      have fin : ∀ r, r = runA S T i what → q_X9_run S T [vr 0, vi i, vi what] w r w1 := fun r hr => ⟨hr, g1, g2⟩
      have er : runA S T i what = if what < 10 then (if what = 6 then (rnQ (runS S T i.toNat) (monthsF S)).1 else sm (sV (runS S T i.toNat) what.toNat) (monthsF S)) else sm (rnS (runS S T i.toNat) (what - 10).toNat) (monthsF S) := by
        unfold runA
        rw [if_neg (by omega), if_neg h2, if_neg (by omega), if_neg h4]
      (apply hG [] 2000; simp only [w_br_i, w_ite, w_all, w_all0, forall_eq, w_b0, w_b1, ↓reduceIte, w_ent, w_pos, List.replicate_succ, List.replicate_zero, wp_s, wk_s, w_lk_c, w_ld0, w_ldS, w_kp0, w_kp, w_s1, w_s2, w_to, w_if, w_call, w_sw, w_cat, w_cats, w_psh, w_fv, List.contains_cons, List.contains_nil, List.set_cons_zero, List.set_cons_succ, List.length_cons, List.length_nil, List.find?_cons, List.find?_nil, List.take_succ_cons, List.take_zero, List.drop_succ_cons, List.drop_zero, List.reverse_cons, List.reverse_nil, List.nil_append, List.cons_append, Option.map_some, Option.map_none, Nat.reduceAdd, Nat.reduceBEq, Nat.reduceEqDiff, Nat.reduceLT, Nat.reduceLeDiff, Nat.reduceSub, Int.reduceAdd, Int.reduceSub, Int.reduceMul, Int.reduceNeg, Int.reduceToNat, Int.reduceLT, Int.reduceLE, Int.reduceEq, Bool.false_eq_true, Bool.or_false, Bool.false_or, Bool.true_or, Bool.or_true, if_true, if_false, ite_true, ite_false, true_and, and_true, false_and, and_false, true_or, or_true, false_or, or_false, Int.cast_ofNat_Int, Int.toNat_natCast, Int.natCast_add, List.getElem?_cons_zero, List.getElem?_cons_succ, true_implies, forall_const, not_true_eq_false, not_false_eq_true, ne_eq, beq_iff_eq, imp_self, List.length_set, Nat.zero_add, Nat.add_zero, Int.zero_add, Int.add_zero, w1_aload_n_0, w1_iload_n_1, w1_invokevirtual, w1_ifCond, w1_bipush, w1_ireturn, w1_iload_n_2, w1_if_icmp, w1_getfield, w1_iadd, w1_iconst, w1_aaload, w1_iaload, w1_goto, w1_isub, dX9_run_0, dX9_run_1, dX9_run_2, dX9_run_5, dX9_run_8, dX9_run_10, dX9_run_11, dX9_run_12, dX9_run_15, dX9_run_18, dX9_run_20, dX9_run_21, dX9_run_22, dX9_run_25, dX9_run_26, dX9_run_28, dX9_run_31, dX9_run_32, dX9_run_34, dX9_run_37, dX9_run_38, dX9_run_40, dX9_run_43, dX9_run_45, dX9_run_46, dX9_run_47, dX9_run_49, dX9_run_50, dX9_run_53, dX9_run_56, dX9_run_57, dX9_run_60, dX9_run_61, dX9_run_62, dX9_run_63, dX9_run_64, dX9_run_67, dX9_run_68, dX9_run_69, dX9_run_72, dX9_run_73, dX9_run_75, dX9_run_78, dX9_run_79, dX9_run_82, dX9_run_85, dX9_run_86, dX9_run_87, dX9_run_90, dX9_run_91, dX9_run_94, dX9_run_97, dX9_run_98, dX9_run_100, dX9_run_101, dX9_run_102, w_flk9_121, w_flk9_188, w_flk9_19, w_flk9_191, w_flk9_32, w_flk9_81, w_kd_0, w_rf_0_0, w_rf_0_1, w_rf_0_2, w_rf_0_3, w_rf_0_4, w_rf_0_5, w_rf_0_6, w_rf_0_7, w_rf_0_8, w_rf_0_9, w_rf_0_10, w_kd_90, w_rf_90_0, w_rf_90_1, w_rf_90_2, w_rf_90_3, w_rf_90_4, w_kd_91, w_ln_91, w_kd_92, w_ln_92])
      (repeat' (with_reducible (first | refine And.intro ?_ ?_ | intro _))) <;> (try (first | assumption | contradiction | exact Or.inl trivial | exact Or.inl rfl | exact Or.inr rfl | (simp only [inI, inL]; omega) | omega))
      all_goals refine fin _ ?_
      · rw [er, if_neg (by omega)]
        exact g5 _ (by omega)
      · rw [er, if_pos (by omega)]
        by_cases c6 : what = 6
        · rw [if_pos c6, c6]; exact g4
        · rw [if_neg c6]; exact g3 _ (by omega)
    (apply hG [72] 2000; simp only [w_br_i, w_ite, w_all, w_all0, forall_eq, w_b0, w_b1, ↓reduceIte, w_ent, w_pos, List.replicate_succ, List.replicate_zero, wp_s, wk_s, w_lk_c, w_ld0, w_ldS, w_kp0, w_kp, w_s1, w_s2, w_to, w_if, w_call, w_sw, w_cat, w_cats, w_psh, w_fv, List.contains_cons, List.contains_nil, List.set_cons_zero, List.set_cons_succ, List.length_cons, List.length_nil, List.find?_cons, List.find?_nil, List.take_succ_cons, List.take_zero, List.drop_succ_cons, List.drop_zero, List.reverse_cons, List.reverse_nil, List.nil_append, List.cons_append, Option.map_some, Option.map_none, Nat.reduceAdd, Nat.reduceBEq, Nat.reduceEqDiff, Nat.reduceLT, Nat.reduceLeDiff, Nat.reduceSub, Int.reduceAdd, Int.reduceSub, Int.reduceMul, Int.reduceNeg, Int.reduceToNat, Int.reduceLT, Int.reduceLE, Int.reduceEq, Bool.false_eq_true, Bool.or_false, Bool.false_or, Bool.true_or, Bool.or_true, if_true, if_false, ite_true, ite_false, true_and, and_true, false_and, and_false, true_or, or_true, false_or, or_false, Int.cast_ofNat_Int, Int.toNat_natCast, Int.natCast_add, List.getElem?_cons_zero, List.getElem?_cons_succ, true_implies, forall_const, not_true_eq_false, not_false_eq_true, ne_eq, beq_iff_eq, imp_self, List.length_set, Nat.zero_add, Nat.add_zero, Int.zero_add, Int.add_zero, w1_aload_n_0, w1_iload_n_1, w1_invokevirtual, w1_ifCond, w1_bipush, w1_ireturn, w1_iload_n_2, w1_if_icmp, w1_getfield, w1_iadd, w1_iconst, w1_aaload, w1_iaload, w1_goto, w1_isub, dX9_run_0, dX9_run_1, dX9_run_2, dX9_run_5, dX9_run_8, dX9_run_10, dX9_run_11, dX9_run_12, dX9_run_15, dX9_run_18, dX9_run_20, dX9_run_21, dX9_run_22, dX9_run_25, dX9_run_26, dX9_run_28, dX9_run_31, dX9_run_32, dX9_run_34, dX9_run_37, dX9_run_38, dX9_run_40, dX9_run_43, dX9_run_45, dX9_run_46, dX9_run_47, dX9_run_49, dX9_run_50, dX9_run_53, dX9_run_56, dX9_run_57, dX9_run_60, dX9_run_61, dX9_run_62, dX9_run_63, dX9_run_64, dX9_run_67, dX9_run_68, dX9_run_69, dX9_run_72, dX9_run_73, dX9_run_75, dX9_run_78, dX9_run_79, dX9_run_82, dX9_run_85, dX9_run_86, dX9_run_87, dX9_run_90, dX9_run_91, dX9_run_94, dX9_run_97, dX9_run_98, dX9_run_100, dX9_run_101, dX9_run_102, w_flk9_121, w_flk9_188, w_flk9_19, w_flk9_191, w_flk9_32, w_flk9_81, w_kd_0, w_rf_0_0, w_rf_0_1, w_rf_0_2, w_rf_0_3, w_rf_0_4, w_rf_0_5, w_rf_0_6, w_rf_0_7, w_rf_0_8, w_rf_0_9, w_rf_0_10, w_kd_4, w_rf_4_0, w_rf_4_1, w_rf_4_2, w_rf_4_3, w_rf_4_4, w_rf_4_5, w_kd_35, w_ln_35, hu0, ha, hpc])
    (repeat' (with_reducible (first | refine And.intro ?_ ?_ | intro _))) <;> (try (first | assumption | contradiction | exact Or.inl trivial | exact Or.inl rfl | exact Or.inr rfl | (simp only [inI, inL]; omega) | omega))
    all_goals first
      | exact e72 (by omega) _ _ (by assumption)
      | exact ⟨by unfold runA; rw [if_neg (by omega), if_neg h2, if_neg (by omega), if_pos (by omega)], hT0⟩
  (apply hG [46] 2000; simp only [w_br_i, w_ite, w_all, w_all0, forall_eq, w_b0, w_b1, ↓reduceIte, w_ent, w_pos, List.replicate_succ, List.replicate_zero, wp_s, wk_s, w_lk_c, w_ld0, w_ldS, w_kp0, w_kp, w_s1, w_s2, w_to, w_if, w_call, w_sw, w_cat, w_cats, w_psh, w_fv, List.contains_cons, List.contains_nil, List.set_cons_zero, List.set_cons_succ, List.length_cons, List.length_nil, List.find?_cons, List.find?_nil, List.take_succ_cons, List.take_zero, List.drop_succ_cons, List.drop_zero, List.reverse_cons, List.reverse_nil, List.nil_append, List.cons_append, Option.map_some, Option.map_none, Nat.reduceAdd, Nat.reduceBEq, Nat.reduceEqDiff, Nat.reduceLT, Nat.reduceLeDiff, Nat.reduceSub, Int.reduceAdd, Int.reduceSub, Int.reduceMul, Int.reduceNeg, Int.reduceToNat, Int.reduceLT, Int.reduceLE, Int.reduceEq, Bool.false_eq_true, Bool.or_false, Bool.false_or, Bool.true_or, Bool.or_true, if_true, if_false, ite_true, ite_false, true_and, and_true, false_and, and_false, true_or, or_true, false_or, or_false, Int.cast_ofNat_Int, Int.toNat_natCast, Int.natCast_add, List.getElem?_cons_zero, List.getElem?_cons_succ, true_implies, forall_const, not_true_eq_false, not_false_eq_true, ne_eq, beq_iff_eq, imp_self, List.length_set, Nat.zero_add, Nat.add_zero, Int.zero_add, Int.add_zero, w1_aload_n_0, w1_iload_n_1, w1_invokevirtual, w1_ifCond, w1_bipush, w1_ireturn, w1_iload_n_2, w1_if_icmp, w1_getfield, w1_iadd, w1_iconst, w1_aaload, w1_iaload, w1_goto, w1_isub, dX9_run_0, dX9_run_1, dX9_run_2, dX9_run_5, dX9_run_8, dX9_run_10, dX9_run_11, dX9_run_12, dX9_run_15, dX9_run_18, dX9_run_20, dX9_run_21, dX9_run_22, dX9_run_25, dX9_run_26, dX9_run_28, dX9_run_31, dX9_run_32, dX9_run_34, dX9_run_37, dX9_run_38, dX9_run_40, dX9_run_43, dX9_run_45, dX9_run_46, dX9_run_47, dX9_run_49, dX9_run_50, dX9_run_53, dX9_run_56, dX9_run_57, dX9_run_60, dX9_run_61, dX9_run_62, dX9_run_63, dX9_run_64, dX9_run_67, dX9_run_68, dX9_run_69, dX9_run_72, dX9_run_73, dX9_run_75, dX9_run_78, dX9_run_79, dX9_run_82, dX9_run_85, dX9_run_86, dX9_run_87, dX9_run_90, dX9_run_91, dX9_run_94, dX9_run_97, dX9_run_98, dX9_run_100, dX9_run_101, dX9_run_102, w_flk9_121, w_flk9_188, w_flk9_19, w_flk9_191, w_flk9_32, w_flk9_81, w_kd_0, w_rf_0_0, w_rf_0_1, w_rf_0_2, w_rf_0_3, w_rf_0_4, w_rf_0_5, w_rf_0_6, w_rf_0_7, w_rf_0_8, w_rf_0_9, w_rf_0_10, p_X9_isNoRule, q_X9_isNoRule, p_X9_lacksHouseOrYear, q_X9_lacksHouseOrYear, hrc0, hh0, hy1])
  (repeat' (with_reducible (first | refine And.intro ?_ ?_ | intro _))) <;> (try (first | assumption | contradiction | exact Or.inl trivial | exact Or.inl rfl | exact Or.inr rfl | (simp only [inI, inL]; omega) | omega))
  all_goals first
    | exact e46 (by omega) (by omega) (by omega)
    | exact ⟨by unfold runA; (repeat' split) <;> first | rfl | (exfalso; omega), hT0⟩
