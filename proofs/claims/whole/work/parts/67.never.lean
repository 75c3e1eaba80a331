theorem rnF_pos {E : rE} : ∀ K, rnF E K = -1 → sm (rnD E) K ≤ 0
  | 0, _ => by simp [sm]
  | k + 1, h => by
    simp only [rnF] at h
    by_cases q : 0 < rnK E k ∧ rnF E k = -1
    · rw [if_pos q] at h; omega
    · rw [if_neg q] at h
      have ih := rnF_pos k h
      have : rnD E k = 0 := by unfold rnD; rw [if_neg (by omega)]
      simp only [sm]
      omega
def nevF (S : wW) (z : Int) : Int := rnF (runE S (S 0 0) (z - 1) rPl) (monthsF S)
def nevP (S T : wW) (what r : Int) : Prop := if T 4 4 = 0 ∨ S 4 1 = 0 then r = -103 else if what < 0 ∨ 2 < what then r = -102 else ∃ z, isL (dryN S rPl) 0 z ∧ (what = 0 ∨ z = -1 → r = z) ∧ (¬ (what = 0 ∨ z = -1) → (z = 0 → r = -1) ∧ (0 < z → 0 ≤ nevF S z ∧ (what = 1 → r = nevF S z / 12) ∧ (what = 2 → r = nevF S z % 12)))
def p_X9_never (S T : wW) : List wV → wW → Prop := fun av w => match av with
  | [.inr (.inr (some this)), .inl what] => this = 0 ∧ RQ S T w ∧ PA w ∧ inI what
  | _ => False
theorem h_X9_never (S T : wW) : ∀ av w, (p_X9_never S T) av w → ∃ a r, av = vr a :: r ∧ w_kd a = 100 + 9 := by
  intro av w h
  unfold p_X9_never at h
  split at h
  · refine ⟨_, _, rfl, ?_⟩
    first | (rw [h.1]; rfl) | (rw [h]; rfl)
  · exact h.elim
def q_X9_never (S T : wW) : List wV → wW → Int → wW → Prop := fun av w r w' => match av with
  | [.inr (.inr (some this)), .inl what] => nevP S T what r ∧ evT S w w'
  | _ => False
set_option maxRecDepth 100000 in
set_option maxHeartbeats 4000000 in
theorem c_X9_never (S T : wW) : w_Ct yX9_never cX9_never 3 1 6 148 (p_X9_never S T) (q_X9_never S T) := by
  refine w_met (own := RX9) (fl := w_fl9) (gs := w_gs9) (kl := w_kl9) (ki := w_ki9) (cs := [(180, (0, 1, 3, p_X9_lacksHouseOrYear, q_X9_lacksHouseOrYear)), (205, (0, 3, 1, (p_X5_leastSize S), (q_X5_leastSize S))), (209, (0, 4, 0, (p_X5_passAll S), (q_X5_passAll S)))]) (by decide +kernel) rfl ?_ w_flok9 w_gsok9 w_klok9 w_kiok9 ?_ ?_
  · intro av w h
    unfold p_X9_never at h
    split at h
    · simp [w_pos, w_cat]
    · exact h.elim
  · exact List.forall_mem_cons.mpr ⟨⟨_, _, w_callV (own := RX9) (idx := 180) (ci := 9) c_X9_lacksHouseOrYear rfl rfl h_X9_lacksHouseOrYear (w_m3 88 (by decide +kernel) (by decide +kernel)) (w_m3 90 (by decide +kernel) (by decide +kernel)) (w_m0 12 (by decide +kernel) (by decide +kernel)) (w_m1 1 (by decide +kernel) (by decide +kernel)) (w_m3 91 (by decide +kernel) (by decide +kernel)) ⟨by decide +kernel, by decide +kernel, by decide +kernel⟩, by decide, by decide⟩, List.forall_mem_cons.mpr ⟨⟨_, _, w_callV (own := RX9) (idx := 205) (ci := 5) (c_X5_leastSize S) rfl rfl (h_X5_leastSize S) (w_m3 185 (by decide +kernel) (by decide +kernel)) (w_m3 186 (by decide +kernel) (by decide +kernel)) (w_m3 187 (by decide +kernel) (by decide +kernel)) (w_m1 10 (by decide +kernel) (by decide +kernel)) (w_m3 188 (by decide +kernel) (by decide +kernel)) ⟨by decide +kernel, by decide +kernel, by decide +kernel⟩, by decide, by decide⟩, List.forall_mem_cons.mpr ⟨⟨_, _, w_callV (own := RX9) (idx := 209) (ci := 5) (c_X5_passAll S) rfl rfl (h_X5_passAll S) (w_m3 136 (by decide +kernel) (by decide +kernel)) (w_m3 137 (by decide +kernel) (by decide +kernel)) (w_m3 138 (by decide +kernel) (by decide +kernel)) (w_m1 10 (by decide +kernel) (by decide +kernel)) (w_m3 139 (by decide +kernel) (by decide +kernel)) ⟨by decide +kernel, by decide +kernel, by decide +kernel⟩, by decide, by decide⟩, fun _ h => absurd h List.not_mem_nil⟩⟩⟩
  intro av w hp
  unfold p_X9_never at hp
  split at hp
  case h_2 => exact hp.elim
  rename_i this what
  intro G hG
  simp only [w_ent, w_pos, w_cat, Nat.reduceEqDiff, ↓reduceIte, List.length_cons, List.length_nil, Nat.reduceAdd, Nat.reduceSub, List.cons_append, List.nil_append, List.replicate_succ, List.replicate_zero]
  obtain ⟨rfl, hQ, hPA, hk⟩ := hp
  have hT0 : evT S w w := ⟨fun k i _ => rfl, hQ.2.2.2.2.1⟩
  obtain ⟨-, ⟨hh, hh0⟩, ⟨hy, hyX⟩, hH, hwi, -⟩ := hQ
  have hyc := hy.1
  have hy1 := hyX.1
  have e22 : ∀ x2, ¬ (T 4 4 = 0 ∨ S 4 1 = 0) → (0 ≤ what ∧ what ≤ 2) → G 22 [some (vr 0), some (vi what), x2] [] w := by
    intro x2 h2 h3
    obtain ⟨hS, hXw⟩ := hH (by omega)
    have hA := hS.2.1
    have hpc : p_X5_leastSize S [vr 90, vr 44, vi 0] w := ⟨rfl, hS, hXw, ⟨hy, hyX⟩, hPA.1, hPA.2.1, by decide⟩
    have e34 : ∀ z w1, q_X5_leastSize S [vr 90, vr 44, vi 0] w z w1 → G 34 [some (vr 0), some (vi what), x2] [vi z] w1 := by
      intro z w1 hq
      simp only [q_X5_leastSize] at hq
      obtain ⟨g1, g2, g3⟩ := hq
      have g3' : isL (dryN S rPl) 0 z := isL_c g3 (fun s hs => PA_dry hS hy hPA hs)
      have hz : -1 ≤ z ∧ z ≤ 200 := by
        rcases g3 with ⟨h, -⟩ | ⟨h, -⟩ <;> omega
      have hT1 : evT S w w1 := ⟨fun k i hk => g1 k i (by omega), wiI_of hwi (fun k i hk => g1 k i (by omega))⟩
      have e52 : ¬ what = 0 → 0 < z → G 52 [some (vr 0), some (vi what), some (vi z)] [] w1 := by
        intro hw0 hz0
        have s0 : w1 5 0 = S 0 0 := by rw [g1 5 0 (by omega)]; exact hXw.2.1 0 (by decide)
        have hPA1 : PA w1 := PA_of hPA (fun k i hk => g1 k i (by omega))
        have hy1' : yX S w1 := yX_of hy hyX (fun k i hk => g1 k i (by omega))
        have hpc2 : p_X5_passAll S [vr 90, vr 44, vi (S 0 0), vi (z - 1)] w1 := ⟨rfl, hS, hX_ev hXw g1, ⟨hy, hy1'⟩, hPA1.1, PA_p hPA1 _, by omega, by omega⟩
        have hok := okE_run (area := S 0 0) (size := z - 1) hS hy hPA1.1 (PA_p hPA1 _) (by omega) (by omega)
        have e75 : ∀ r2 w2, q_X5_passAll S [vr 90, vr 44, vi (S 0 0), vi (z - 1)] w1 r2 w2 → G 75 [some (vr 0), some (vi what), some (vi z)] [] w2 := by
          intro r2 w2 hq2
          simp only [q_X5_passAll] at hq2
          obtain ⟨f1, -, -, -, -, f6⟩ := hq2
          have ef : w2 90 5 = nevF S z := by
            rw [f6]
            exact rnF_c _ (fun k hk => (rn_like hok (fun m _ lv wet _ _ => PA_l hPA1 m lv wet) k hk).2.2.1)
          have hFr := rnF_in (runE S (S 0 0) (z - 1) rPl) (monthsF S)
          have hF0 : 0 ≤ nevF S z := by
            have hlt : (0 : Int) < dryN S rPl (z - 1).toNat := by
              rcases g3' with ⟨h, -⟩ | ⟨-, -, h⟩
              · omega
              · exact h _ (by omega)
            unfold dryN at hlt
            rw [show (((z - 1).toNat : Nat) : Int) = z - 1 by omega] at hlt
            have := rnF_pos (E := runE S (S 0 0) (z - 1) rPl) (monthsF S)
            unfold nevF
            omega
          have hF1 : nevF S z ≤ 96 := by unfold nevF; have : monthsF S ≤ 96 := by { unfold monthsF; omega }; omega
          have ed : Int.tdiv (nevF S z) 12 = nevF S z / 12 := Int.tdiv_eq_ediv_of_nonneg hF0
          have em : Int.tmod (nevF S z) 12 = nevF S z % 12 := Int.tmod_eq_emod_of_nonneg hF0
          have hT2 : evT S w w2 := ⟨fun k i hk => by rw [f1 k i (by omega), g1 k i (by omega)], wiI_of hT1.2 (fun k i hk => f1 k i (by omega))⟩
          have fin : ∀ r, ((what = 1 → r = nevF S z / 12) ∧ (what = 2 → r = nevF S z % 12)) → q_X9_never S T [vr 0, vi what] w r w2 := by
            intro r hr
            refine ⟨?_, hT2⟩
            unfold nevP
            rw [if_neg h2, if_neg (by omega)]
            exact ⟨z, g3', fun h => by omega, fun _ => ⟨fun h => by omega, fun _ => ⟨hF0, hr⟩⟩⟩
          (apply hG [] 2000; simp only [w_br_i, w_ite, w_all, w_all0, forall_eq, w_b0, w_b1, ↓reduceIte, w_ent, w_pos, List.replicate_succ, List.replicate_zero, wp_s, wk_s, w_lk_c, w_ld0, w_ldS, w_kp0, w_kp, w_s1, w_s2, w_to, w_if, w_call, w_sw, w_cat, w_cats, w_psh, w_fv, List.contains_cons, List.contains_nil, List.set_cons_zero, List.set_cons_succ, List.length_cons, List.length_nil, List.find?_cons, List.find?_nil, List.take_succ_cons, List.take_zero, List.drop_succ_cons, List.drop_zero, List.reverse_cons, List.reverse_nil, List.nil_append, List.cons_append, Option.map_some, Option.map_none, Nat.reduceAdd, Nat.reduceBEq, Nat.reduceEqDiff, Nat.reduceLT, Nat.reduceLeDiff, Nat.reduceSub, Int.reduceAdd, Int.reduceSub, Int.reduceMul, Int.reduceNeg, Int.reduceToNat, Int.reduceLT, Int.reduceLE, Int.reduceEq, Bool.false_eq_true, Bool.or_false, Bool.false_or, Bool.true_or, Bool.or_true, if_true, if_false, ite_true, ite_false, true_and, and_true, false_and, and_false, true_or, or_true, false_or, or_false, Int.cast_ofNat_Int, Int.toNat_natCast, Int.natCast_add, List.getElem?_cons_zero, List.getElem?_cons_succ, true_implies, forall_const, not_true_eq_false, not_false_eq_true, ne_eq, beq_iff_eq, imp_self, List.length_set, Nat.zero_add, Nat.add_zero, Int.zero_add, Int.add_zero, w1_aload_n_0, w1_invokevirtual, w1_ifCond, w1_bipush, w1_ireturn, w1_iload_n_1, w1_iconst, w1_if_icmp, w1_getfield, w1_istore_n_2, w1_iload_n_2, w1_iaload, w1_isub, w1_idiv, w1_goto, w1_irem, dX9_never_0, dX9_never_1, dX9_never_4, dX9_never_7, dX9_never_9, dX9_never_10, dX9_never_11, dX9_never_14, dX9_never_15, dX9_never_16, dX9_never_19, dX9_never_21, dX9_never_22, dX9_never_23, dX9_never_26, dX9_never_27, dX9_never_30, dX9_never_31, dX9_never_34, dX9_never_35, dX9_never_36, dX9_never_39, dX9_never_40, dX9_never_41, dX9_never_44, dX9_never_45, dX9_never_46, dX9_never_47, dX9_never_50, dX9_never_51, dX9_never_52, dX9_never_53, dX9_never_56, dX9_never_57, dX9_never_60, dX9_never_61, dX9_never_64, dX9_never_67, dX9_never_68, dX9_never_69, dX9_never_70, dX9_never_71, dX9_never_72, dX9_never_75, dX9_never_76, dX9_never_77, dX9_never_80, dX9_never_81, dX9_never_84, dX9_never_87, dX9_never_89, dX9_never_90, dX9_never_93, dX9_never_94, dX9_never_97, dX9_never_100, dX9_never_102, dX9_never_103, w_flk9_158, w_flk9_19, w_flk9_212, w_flk9_48, w_flk9_81, w_kd_0, w_rf_0_0, w_rf_0_1, w_rf_0_2, w_rf_0_3, w_rf_0_4, w_rf_0_5, w_rf_0_6, w_rf_0_7, w_rf_0_8, w_rf_0_9, w_rf_0_10, w_kd_90, w_rf_90_0, w_rf_90_1, w_rf_90_2, w_rf_90_3, w_rf_90_4, ef, ed, em])
          (repeat' (with_reducible (first | refine And.intro ?_ ?_ | intro _))) <;> (try (first | assumption | contradiction | exact Or.inl trivial | exact Or.inl rfl | exact Or.inr rfl | (simp only [inI, inL]; omega) | omega))
          all_goals (refine fin _ ⟨fun h => ?_, fun h => ?_⟩ <;> first | rfl | omega)
        (apply hG [75] 2000; simp only [w_br_i, w_ite, w_all, w_all0, forall_eq, w_b0, w_b1, ↓reduceIte, w_ent, w_pos, List.replicate_succ, List.replicate_zero, wp_s, wk_s, w_lk_c, w_ld0, w_ldS, w_kp0, w_kp, w_s1, w_s2, w_to, w_if, w_call, w_sw, w_cat, w_cats, w_psh, w_fv, List.contains_cons, List.contains_nil, List.set_cons_zero, List.set_cons_succ, List.length_cons, List.length_nil, List.find?_cons, List.find?_nil, List.take_succ_cons, List.take_zero, List.drop_succ_cons, List.drop_zero, List.reverse_cons, List.reverse_nil, List.nil_append, List.cons_append, Option.map_some, Option.map_none, Nat.reduceAdd, Nat.reduceBEq, Nat.reduceEqDiff, Nat.reduceLT, Nat.reduceLeDiff, Nat.reduceSub, Int.reduceAdd, Int.reduceSub, Int.reduceMul, Int.reduceNeg, Int.reduceToNat, Int.reduceLT, Int.reduceLE, Int.reduceEq, Bool.false_eq_true, Bool.or_false, Bool.false_or, Bool.true_or, Bool.or_true, if_true, if_false, ite_true, ite_false, true_and, and_true, false_and, and_false, true_or, or_true, false_or, or_false, Int.cast_ofNat_Int, Int.toNat_natCast, Int.natCast_add, List.getElem?_cons_zero, List.getElem?_cons_succ, true_implies, forall_const, not_true_eq_false, not_false_eq_true, ne_eq, beq_iff_eq, imp_self, List.length_set, Nat.zero_add, Nat.add_zero, Int.zero_add, Int.add_zero, w1_aload_n_0, w1_invokevirtual, w1_ifCond, w1_bipush, w1_ireturn, w1_iload_n_1, w1_iconst, w1_if_icmp, w1_getfield, w1_istore_n_2, w1_iload_n_2, w1_iaload, w1_isub, w1_idiv, w1_goto, w1_irem, dX9_never_0, dX9_never_1, dX9_never_4, dX9_never_7, dX9_never_9, dX9_never_10, dX9_never_11, dX9_never_14, dX9_never_15, dX9_never_16, dX9_never_19, dX9_never_21, dX9_never_22, dX9_never_23, dX9_never_26, dX9_never_27, dX9_never_30, dX9_never_31, dX9_never_34, dX9_never_35, dX9_never_36, dX9_never_39, dX9_never_40, dX9_never_41, dX9_never_44, dX9_never_45, dX9_never_46, dX9_never_47, dX9_never_50, dX9_never_51, dX9_never_52, dX9_never_53, dX9_never_56, dX9_never_57, dX9_never_60, dX9_never_61, dX9_never_64, dX9_never_67, dX9_never_68, dX9_never_69, dX9_never_70, dX9_never_71, dX9_never_72, dX9_never_75, dX9_never_76, dX9_never_77, dX9_never_80, dX9_never_81, dX9_never_84, dX9_never_87, dX9_never_89, dX9_never_90, dX9_never_93, dX9_never_94, dX9_never_97, dX9_never_100, dX9_never_102, dX9_never_103, w_flk9_158, w_flk9_19, w_flk9_212, w_flk9_48, w_flk9_81, w_kd_0, w_rf_0_0, w_rf_0_1, w_rf_0_2, w_rf_0_3, w_rf_0_4, w_rf_0_5, w_rf_0_6, w_rf_0_7, w_rf_0_8, w_rf_0_9, w_rf_0_10, w_kd_4, w_rf_4_0, w_rf_4_1, w_rf_4_2, w_rf_4_3, w_rf_4_4, w_rf_4_5, w_kd_5, w_ln_5, s0, hpc2])
        (repeat' (with_reducible (first | refine And.intro ?_ ?_ | intro _))) <;> (try (first | assumption | contradiction | exact Or.inl trivial | exact Or.inl rfl | exact Or.inr rfl | (simp only [inI, inL]; omega) | omega))
        all_goals exact e75 _ _ (by assumption)
      (apply hG [52] 2000; simp only [w_br_i, w_ite, w_all, w_all0, forall_eq, w_b0, w_b1, ↓reduceIte, w_ent, w_pos, List.replicate_succ, List.replicate_zero, wp_s, wk_s, w_lk_c, w_ld0, w_ldS, w_kp0, w_kp, w_s1, w_s2, w_to, w_if, w_call, w_sw, w_cat, w_cats, w_psh, w_fv, List.contains_cons, List.contains_nil, List.set_cons_zero, List.set_cons_succ, List.length_cons, List.length_nil, List.find?_cons, List.find?_nil, List.take_succ_cons, List.take_zero, List.drop_succ_cons, List.drop_zero, List.reverse_cons, List.reverse_nil, List.nil_append, List.cons_append, Option.map_some, Option.map_none, Nat.reduceAdd, Nat.reduceBEq, Nat.reduceEqDiff, Nat.reduceLT, Nat.reduceLeDiff, Nat.reduceSub, Int.reduceAdd, Int.reduceSub, Int.reduceMul, Int.reduceNeg, Int.reduceToNat, Int.reduceLT, Int.reduceLE, Int.reduceEq, Bool.false_eq_true, Bool.or_false, Bool.false_or, Bool.true_or, Bool.or_true, if_true, if_false, ite_true, ite_false, true_and, and_true, false_and, and_false, true_or, or_true, false_or, or_false, Int.cast_ofNat_Int, Int.toNat_natCast, Int.natCast_add, List.getElem?_cons_zero, List.getElem?_cons_succ, true_implies, forall_const, not_true_eq_false, not_false_eq_true, ne_eq, beq_iff_eq, imp_self, List.length_set, Nat.zero_add, Nat.add_zero, Int.zero_add, Int.add_zero, w1_aload_n_0, w1_invokevirtual, w1_ifCond, w1_bipush, w1_ireturn, w1_iload_n_1, w1_iconst, w1_if_icmp, w1_getfield, w1_istore_n_2, w1_iload_n_2, w1_iaload, w1_isub, w1_idiv, w1_goto, w1_irem, dX9_never_0, dX9_never_1, dX9_never_4, dX9_never_7, dX9_never_9, dX9_never_10, dX9_never_11, dX9_never_14, dX9_never_15, dX9_never_16, dX9_never_19, dX9_never_21, dX9_never_22, dX9_never_23, dX9_never_26, dX9_never_27, dX9_never_30, dX9_never_31, dX9_never_34, dX9_never_35, dX9_never_36, dX9_never_39, dX9_never_40, dX9_never_41, dX9_never_44, dX9_never_45, dX9_never_46, dX9_never_47, dX9_never_50, dX9_never_51, dX9_never_52, dX9_never_53, dX9_never_56, dX9_never_57, dX9_never_60, dX9_never_61, dX9_never_64, dX9_never_67, dX9_never_68, dX9_never_69, dX9_never_70, dX9_never_71, dX9_never_72, dX9_never_75, dX9_never_76, dX9_never_77, dX9_never_80, dX9_never_81, dX9_never_84, dX9_never_87, dX9_never_89, dX9_never_90, dX9_never_93, dX9_never_94, dX9_never_97, dX9_never_100, dX9_never_102, dX9_never_103, w_flk9_158, w_flk9_19, w_flk9_212, w_flk9_48, w_flk9_81, w_kd_0, w_rf_0_0, w_rf_0_1, w_rf_0_2, w_rf_0_3, w_rf_0_4, w_rf_0_5, w_rf_0_6, w_rf_0_7, w_rf_0_8, w_rf_0_9, w_rf_0_10])
      (repeat' (with_reducible (first | refine And.intro ?_ ?_ | intro _))) <;> (try (first | assumption | contradiction | exact Or.inl trivial | exact Or.inl rfl | exact Or.inr rfl | (simp only [inI, inL]; omega) | omega))
      all_goals first
        | exact e52 (by omega) (by omega)
        | (refine ⟨?_, hT1⟩; unfold nevP; rw [if_neg h2, if_neg (by omega)]; exact ⟨z, g3', fun h => by omega, fun h => ⟨fun h => by omega, fun h => by omega⟩⟩)
    (apply hG [34] 2000; simp only [w_br_i, w_ite, w_all, w_all0, forall_eq, w_b0, w_b1, ↓reduceIte, w_ent, w_pos, List.replicate_succ, List.replicate_zero, wp_s, wk_s, w_lk_c, w_ld0, w_ldS, w_kp0, w_kp, w_s1, w_s2, w_to, w_if, w_call, w_sw, w_cat, w_cats, w_psh, w_fv, List.contains_cons, List.contains_nil, List.set_cons_zero, List.set_cons_succ, List.length_cons, List.length_nil, List.find?_cons, List.find?_nil, List.take_succ_cons, List.take_zero, List.drop_succ_cons, List.drop_zero, List.reverse_cons, List.reverse_nil, List.nil_append, List.cons_append, Option.map_some, Option.map_none, Nat.reduceAdd, Nat.reduceBEq, Nat.reduceEqDiff, Nat.reduceLT, Nat.reduceLeDiff, Nat.reduceSub, Int.reduceAdd, Int.reduceSub, Int.reduceMul, Int.reduceNeg, Int.reduceToNat, Int.reduceLT, Int.reduceLE, Int.reduceEq, Bool.false_eq_true, Bool.or_false, Bool.false_or, Bool.true_or, Bool.or_true, if_true, if_false, ite_true, ite_false, true_and, and_true, false_and, and_false, true_or, or_true, false_or, or_false, Int.cast_ofNat_Int, Int.toNat_natCast, Int.natCast_add, List.getElem?_cons_zero, List.getElem?_cons_succ, true_implies, forall_const, not_true_eq_false, not_false_eq_true, ne_eq, beq_iff_eq, imp_self, List.length_set, Nat.zero_add, Nat.add_zero, Int.zero_add, Int.add_zero, w1_aload_n_0, w1_invokevirtual, w1_ifCond, w1_bipush, w1_ireturn, w1_iload_n_1, w1_iconst, w1_if_icmp, w1_getfield, w1_istore_n_2, w1_iload_n_2, w1_iaload, w1_isub, w1_idiv, w1_goto, w1_irem, dX9_never_0, dX9_never_1, dX9_never_4, dX9_never_7, dX9_never_9, dX9_never_10, dX9_never_11, dX9_never_14, dX9_never_15, dX9_never_16, dX9_never_19, dX9_never_21, dX9_never_22, dX9_never_23, dX9_never_26, dX9_never_27, dX9_never_30, dX9_never_31, dX9_never_34, dX9_never_35, dX9_never_36, dX9_never_39, dX9_never_40, dX9_never_41, dX9_never_44, dX9_never_45, dX9_never_46, dX9_never_47, dX9_never_50, dX9_never_51, dX9_never_52, dX9_never_53, dX9_never_56, dX9_never_57, dX9_never_60, dX9_never_61, dX9_never_64, dX9_never_67, dX9_never_68, dX9_never_69, dX9_never_70, dX9_never_71, dX9_never_72, dX9_never_75, dX9_never_76, dX9_never_77, dX9_never_80, dX9_never_81, dX9_never_84, dX9_never_87, dX9_never_89, dX9_never_90, dX9_never_93, dX9_never_94, dX9_never_97, dX9_never_100, dX9_never_102, dX9_never_103, w_flk9_158, w_flk9_19, w_flk9_212, w_flk9_48, w_flk9_81, w_kd_0, w_rf_0_0, w_rf_0_1, w_rf_0_2, w_rf_0_3, w_rf_0_4, w_rf_0_5, w_rf_0_6, w_rf_0_7, w_rf_0_8, w_rf_0_9, w_rf_0_10, hpc])
    (repeat' (with_reducible (first | refine And.intro ?_ ?_ | intro _))) <;> (try (first | assumption | contradiction | exact Or.inl trivial | exact Or.inl rfl | exact Or.inr rfl | (simp only [inI, inL]; omega) | omega))
    all_goals exact e34 _ _ (by assumption)
  (apply hG [22] 2000; simp only [w_br_i, w_ite, w_all, w_all0, forall_eq, w_b0, w_b1, ↓reduceIte, w_ent, w_pos, List.replicate_succ, List.replicate_zero, wp_s, wk_s, w_lk_c, w_ld0, w_ldS, w_kp0, w_kp, w_s1, w_s2, w_to, w_if, w_call, w_sw, w_cat, w_cats, w_psh, w_fv, List.contains_cons, List.contains_nil, List.set_cons_zero, List.set_cons_succ, List.length_cons, List.length_nil, List.find?_cons, List.find?_nil, List.take_succ_cons, List.take_zero, List.drop_succ_cons, List.drop_zero, List.reverse_cons, List.reverse_nil, List.nil_append, List.cons_append, Option.map_some, Option.map_none, Nat.reduceAdd, Nat.reduceBEq, Nat.reduceEqDiff, Nat.reduceLT, Nat.reduceLeDiff, Nat.reduceSub, Int.reduceAdd, Int.reduceSub, Int.reduceMul, Int.reduceNeg, Int.reduceToNat, Int.reduceLT, Int.reduceLE, Int.reduceEq, Bool.false_eq_true, Bool.or_false, Bool.false_or, Bool.true_or, Bool.or_true, if_true, if_false, ite_true, ite_false, true_and, and_true, false_and, and_false, true_or, or_true, false_or, or_false, Int.cast_ofNat_Int, Int.toNat_natCast, Int.natCast_add, List.getElem?_cons_zero, List.getElem?_cons_succ, true_implies, forall_const, not_true_eq_false, not_false_eq_true, ne_eq, beq_iff_eq, imp_self, List.length_set, Nat.zero_add, Nat.add_zero, Int.zero_add, Int.add_zero, w1_aload_n_0, w1_invokevirtual, w1_ifCond, w1_bipush, w1_ireturn, w1_iload_n_1, w1_iconst, w1_if_icmp, w1_getfield, w1_istore_n_2, w1_iload_n_2, w1_iaload, w1_isub, w1_idiv, w1_goto, w1_irem, dX9_never_0, dX9_never_1, dX9_never_4, dX9_never_7, dX9_never_9, dX9_never_10, dX9_never_11, dX9_never_14, dX9_never_15, dX9_never_16, dX9_never_19, dX9_never_21, dX9_never_22, dX9_never_23, dX9_never_26, dX9_never_27, dX9_never_30, dX9_never_31, dX9_never_34, dX9_never_35, dX9_never_36, dX9_never_39, dX9_never_40, dX9_never_41, dX9_never_44, dX9_never_45, dX9_never_46, dX9_never_47, dX9_never_50, dX9_never_51, dX9_never_52, dX9_never_53, dX9_never_56, dX9_never_57, dX9_never_60, dX9_never_61, dX9_never_64, dX9_never_67, dX9_never_68, dX9_never_69, dX9_never_70, dX9_never_71, dX9_never_72, dX9_never_75, dX9_never_76, dX9_never_77, dX9_never_80, dX9_never_81, dX9_never_84, dX9_never_87, dX9_never_89, dX9_never_90, dX9_never_93, dX9_never_94, dX9_never_97, dX9_never_100, dX9_never_102, dX9_never_103, w_flk9_158, w_flk9_19, w_flk9_212, w_flk9_48, w_flk9_81, w_kd_0, w_rf_0_0, w_rf_0_1, w_rf_0_2, w_rf_0_3, w_rf_0_4, w_rf_0_5, w_rf_0_6, w_rf_0_7, w_rf_0_8, w_rf_0_9, w_rf_0_10, p_X9_lacksHouseOrYear, q_X9_lacksHouseOrYear, hh0, hy1])
  (repeat' (with_reducible (first | refine And.intro ?_ ?_ | intro _))) <;> (try (first | assumption | contradiction | exact Or.inl trivial | exact Or.inl rfl | exact Or.inr rfl | (simp only [inI, inL]; omega) | omega))
  all_goals first
    | exact e22 _ (by omega) (by omega)
    | exact ⟨by unfold nevP; (repeat' split) <;> first | rfl | (exfalso; omega), hT0⟩
