def rnW (E : rE) (k : Nat) (what : Int) : Int := if what = 0 then rnC E k else if what = 1 then rnO E k else if what = 2 then rnL E k else if what = 3 then rnP E k else if what = 4 then rnG E k else if what = 5 then (rnQ E (k + 1)).1 else rnM E k
def monA (S T : wW) (i y m what : Int) : Int := if i < 0 ∨ T 4 2 ≤ i then -101 else if y < 0 ∨ S 4 1 ≤ y then -101 else if m < 0 ∨ 12 ≤ m then -101 else if T 4 4 = 0 ∨ S 4 1 = 0 then -103 else if what < 0 ∨ 6 < what then -102 else rnW (runS S T i.toNat) (12 * y.toNat + m.toNat) what
def p_X9_month (S T : wW) : List wV → wW → Prop := fun av w => match av with
  | [.inr (.inr (some this)), .inl i, .inl y, .inl m, .inl what] => this = 0 ∧ RQ S T w ∧ inI i ∧ inI y ∧ inI m ∧ inI what
  | _ => False
theorem h_X9_month (S T : wW) : ∀ av w, (p_X9_month S T) av w → ∃ a r, av = vr a :: r ∧ w_kd a = 100 + 9 := by
  intro av w h
  unfold p_X9_month at h
  split at h
  · refine ⟨_, _, rfl, ?_⟩
    first | (rw [h.1]; rfl) | (rw [h]; rfl)
  · exact h.elim
def q_X9_month (S T : wW) : List wV → wW → Int → wW → Prop := fun av w r w' => match av with
  | [.inr (.inr (some this)), .inl i, .inl y, .inl m, .inl what] => r = monA S T i y m what ∧ evT S w w'
  | _ => False
set_option maxRecDepth 100000 in
set_option maxHeartbeats 4000000 in
theorem c_X9_month (S T : wW) : w_Ct yX9_month cX9_month 5 1 5 122 (p_X9_month S T) (q_X9_month S T) := by
  refine w_met (own := RX9) (fl := w_fl9) (gs := w_gs9) (kl := w_kl9) (ki := w_ki9) (cs := [(152, (0, 2, 3, p_X9_isNoRule, q_X9_isNoRule)), (174, (0, 2, 3, p_X9_isNoYear, q_X9_isNoYear)), (177, (1, 1, 3, p_X9_isNoMonth, q_X9_isNoMonth)), (180, (0, 1, 3, p_X9_lacksHouseOrYear, q_X9_lacksHouseOrYear)), (194, (0, 2, 0, (p_X9_makeWise S), (q_X9_makeWise S))), (197, (0, 4, 0, (p_X5_passUpTo S), (q_X5_passUpTo S))), (201, (0, 2, 1, p_X6_told, q_X6_told))]) (by decide +kernel) rfl ?_ w_flok9 w_gsok9 w_klok9 w_kiok9 ?_ ?_
  · intro av w h
    unfold p_X9_month at h
    split at h
    · simp [w_pos, w_cat]
    · exact h.elim
  · exact List.forall_mem_cons.mpr ⟨⟨_, _, w_callV (own := RX9) (idx := 152) (ci := 9) c_X9_isNoRule rfl rfl h_X9_isNoRule (w_m3 46 (by decide +kernel) (by decide +kernel)) (w_m3 48 (by decide +kernel) (by decide +kernel)) (w_m0 10 (by decide +kernel) (by decide +kernel)) (w_m1 1 (by decide +kernel) (by decide +kernel)) (w_m3 49 (by decide +kernel) (by decide +kernel)) ⟨by decide +kernel, by decide +kernel, by decide +kernel⟩, by decide, by decide⟩, List.forall_mem_cons.mpr ⟨⟨_, _, w_callV (own := RX9) (idx := 174) (ci := 9) c_X9_isNoYear rfl rfl h_X9_isNoYear (w_m3 77 (by decide +kernel) (by decide +kernel)) (w_m3 79 (by decide +kernel) (by decide +kernel)) (w_m0 11 (by decide +kernel) (by decide +kernel)) (w_m1 1 (by decide +kernel) (by decide +kernel)) (w_m3 80 (by decide +kernel) (by decide +kernel)) ⟨by decide +kernel, by decide +kernel, by decide +kernel⟩, by decide, by decide⟩, List.forall_mem_cons.mpr ⟨⟨_, _, w_callS (own := RX9) (idx := 177) c_X9_isNoMonth (w_m3 81 (by decide +kernel) (by decide +kernel)) (w_m3 82 (by decide +kernel) (by decide +kernel)) (w_m1 1 (by decide +kernel) (by decide +kernel)) (w_m3 83 (by decide +kernel) (by decide +kernel)) ⟨by decide +kernel, by decide +kernel, by decide +kernel⟩, by decide, by decide⟩, List.forall_mem_cons.mpr ⟨⟨_, _, w_callV (own := RX9) (idx := 180) (ci := 9) c_X9_lacksHouseOrYear rfl rfl h_X9_lacksHouseOrYear (w_m3 88 (by decide +kernel) (by decide +kernel)) (w_m3 90 (by decide +kernel) (by decide +kernel)) (w_m0 12 (by decide +kernel) (by decide +kernel)) (w_m1 1 (by decide +kernel) (by decide +kernel)) (w_m3 91 (by decide +kernel) (by decide +kernel)) ⟨by decide +kernel, by decide +kernel, by decide +kernel⟩, by decide, by decide⟩, List.forall_mem_cons.mpr ⟨⟨_, _, w_callV (own := RX9) (idx := 194) (ci := 9) (c_X9_makeWise S) rfl rfl (h_X9_makeWise S) (w_m3 96 (by decide +kernel) (by decide +kernel)) (w_m3 98 (by decide +kernel) (by decide +kernel)) (w_m0 14 (by decide +kernel) (by decide +kernel)) (w_m1 1 (by decide +kernel) (by decide +kernel)) (w_m3 99 (by decide +kernel) (by decide +kernel)) ⟨by decide +kernel, by decide +kernel, by decide +kernel⟩, by decide, by decide⟩, List.forall_mem_cons.mpr ⟨⟨_, _, w_callV (own := RX9) (idx := 197) (ci := 5) (c_X5_passUpTo S) rfl rfl (h_X5_passUpTo S) (w_m3 173 (by decide +kernel) (by decide +kernel)) (w_m3 174 (by decide +kernel) (by decide +kernel)) (w_m3 175 (by decide +kernel) (by decide +kernel)) (w_m1 10 (by decide +kernel) (by decide +kernel)) (w_m3 176 (by decide +kernel) (by decide +kernel)) ⟨by decide +kernel, by decide +kernel, by decide +kernel⟩, by decide, by decide⟩, List.forall_mem_cons.mpr ⟨⟨_, _, w_callV (own := RX9) (idx := 201) (ci := 6) c_X6_told rfl rfl h_X6_told (w_m3 177 (by decide +kernel) (by decide +kernel)) (w_m3 178 (by decide +kernel) (by decide +kernel)) (w_m3 179 (by decide +kernel) (by decide +kernel)) (w_m1 9 (by decide +kernel) (by decide +kernel)) (w_m3 180 (by decide +kernel) (by decide +kernel)) ⟨by decide +kernel, by decide +kernel, by decide +kernel⟩, by decide, by decide⟩, fun _ h => absurd h List.not_mem_nil⟩⟩⟩⟩⟩⟩⟩
  intro av w hp
  unfold p_X9_month at hp
  split at hp
  case h_2 => exact hp.elim
  rename_i this i y m what
  intro G hG
  simp only [w_ent, w_pos, w_cat, Nat.reduceEqDiff, ↓reduceIte, List.length_cons, List.length_nil, Nat.reduceAdd, Nat.reduceSub, List.cons_append, List.nil_append, List.replicate_succ, List.replicate_zero]
  obtain ⟨rfl, hQ, hi, hyi, hmi, hwh⟩ := hp
  have hT0 : evT S w w := ⟨fun k i _ => rfl, hQ.2.2.2.2.1⟩
  obtain ⟨⟨hrc, hrc0⟩, ⟨hh, hh0⟩, ⟨hy, hyX⟩, hH, hwi, hru⟩ := hQ
  have hyc := hy.1
  have hy1 := hyX.1
  have e51 : (0 ≤ i ∧ i < T 4 2) → (0 ≤ y ∧ y < S 4 1) → (0 ≤ m ∧ m < 12) → ¬ (T 4 4 = 0 ∨ S 4 1 = 0) → (0 ≤ what ∧ what ≤ 6) → G 51 [some (vr 0), some (vi i), some (vi y), some (vi m), some (vi what)] [] w := by
    intro h1 hyr hmr h2 h3
    obtain ⟨hS, hXw⟩ := hH (by omega)
    have hA := hS.2.1
    have hin := hru i.toNat (by omega)
    have ha : 36 ≤ 36 + i.toNat ∧ 36 + i.toNat < 46 := by omega
    have hpc : p_X9_makeWise S [vr 0, vr (36 + i.toNat)] w := ⟨rfl, hS, hXw, ⟨hy, hyX⟩, hin.1, hwi⟩
    have e61 : ∀ r1 w1, q_X9_makeWise S [vr 0, vr (36 + i.toNat)] w r1 w1 → G 61 [some (vr 0), some (vi i), some (vi y), some (vi m), some (vi what)] [] w1 := by
      intro r1 w1 hq
      simp only [q_X9_makeWise] at hq
      obtain ⟨he, hwi1, hpl⟩ := hq
      have hX1 : hX S w1 := hX_of hXw (fun k i hk => he k i (by omega))
      have hy1' : yX S w1 := yX_of hy hyX (fun k i hk => he k i (by omega))
      have hr1 : rR w1 (36 + i.toNat) := rR_of hin.1 (fun k i hk => he k i (by omega))
      have hrc1 : rC T w1 i.toNat := rC_of (by omega) hin.2 (fun k i hk => he k i (by omega))
      have hpl1 : w1 (36 + i.toNat) 1 = 3 → plW S w1 := fun q => hpl (by rw [← he _ 1 (by omega)]; exact q)
      have hpc2 : p_X5_passUpTo S [vr 90, vr (36 + i.toNat), vi y, vi m] w1 := ⟨rfl, hS, hX1, ⟨hy, hy1'⟩, hr1, plW_A hS hpl1, hyr, hmr⟩
      have e76 : ∀ r2 w2, q_X5_passUpTo S [vr 90, vr (36 + i.toNat), vi y, vi m] w1 r2 w2 → G 76 [some (vr 0), some (vi i), some (vi y), some (vi m), some (vi what)] [] w2 := by
        intro r2 w2 hq2
        simp only [q_X5_passUpTo] at hq2
        obtain ⟨g1, -, -, -, g5⟩ := hq2
        have hok := okE_run hS hy hr1 (plW_A hS hpl1) (show 0 ≤ S 0 0 ∧ S 0 0 ≤ 25 by omega) hS.2.2.1
        have hlk := rX_S hrc1 hpl1
        have hk : 12 * y.toNat + m.toNat < monthsF S := by unfold monthsF; omega
        have hl := rn_like hok hlk (12 * y.toNat + m.toNat) hk
        have hq := rnQ_like hok hlk (12 * y.toNat + m.toNat + 1) (by omega)
        obtain ⟨t8, t9, t10, t11, t12, t14, t6⟩ := g5
        have fin : ∀ r, r = (if what = 0 then w2 88 8 else if what = 1 then w2 88 9 else if what = 2 then w2 88 10 else if what = 3 then w2 88 11 else if what = 4 then w2 88 12 else if what = 5 then w2 88 6 else w2 88 14) → q_X9_month S T [vr 0, vi i, vi y, vi m, vi what] w r w2 := by
          intro r hr
          refine ⟨?_, fun k i hk => ?_, wiI_of hwi1 (fun k i hk => g1 k i (by omega))⟩
          · have em : monA S T i y m what = rnW (runS S T i.toNat) (12 * y.toNat + m.toNat) what := by
              unfold monA
              rw [if_neg (by omega), if_neg (by omega), if_neg (by omega), if_neg h2, if_neg (by omega)]
            show r = monA S T i y m what
            rw [hr, em]
            unfold rnW
            rw [t8, t9, t10, t11, t12, t14, t6]
            repeat' split
            · exact hl.2.2.2.2.2.1
            · exact hl.2.2.2.2.2.2.1
            · exact hl.2.2.2.2.2.2.2.1
            · exact hl.1
            · exact hl.2.1
            · exact congrArg Prod.fst hq
            · exact hl.2.2.2.1
          · rw [g1 k i (by omega)]; exact he k i (by omega)
        (apply hG [] 2000; simp only [w_br_i, w_ite, w_all, w_all0, forall_eq, w_b0, w_b1, ↓reduceIte, w_ent, w_pos, List.replicate_succ, List.replicate_zero, wp_s, wk_s, w_lk_c, w_ld0, w_ldS, w_kp0, w_kp, w_s1, w_s2, w_to, w_if, w_call, w_sw, w_cat, w_cats, w_psh, w_fv, List.contains_cons, List.contains_nil, List.set_cons_zero, List.set_cons_succ, List.length_cons, List.length_nil, List.find?_cons, List.find?_nil, List.take_succ_cons, List.take_zero, List.drop_succ_cons, List.drop_zero, List.reverse_cons, List.reverse_nil, List.nil_append, List.cons_append, Option.map_some, Option.map_none, Nat.reduceAdd, Nat.reduceBEq, Nat.reduceEqDiff, Nat.reduceLT, Nat.reduceLeDiff, Nat.reduceSub, Int.reduceAdd, Int.reduceSub, Int.reduceMul, Int.reduceNeg, Int.reduceToNat, Int.reduceLT, Int.reduceLE, Int.reduceEq, Bool.false_eq_true, Bool.or_false, Bool.false_or, Bool.true_or, Bool.or_true, if_true, if_false, ite_true, ite_false, true_and, and_true, false_and, and_false, true_or, or_true, false_or, or_false, Int.cast_ofNat_Int, Int.toNat_natCast, Int.natCast_add, List.getElem?_cons_zero, List.getElem?_cons_succ, true_implies, forall_const, not_true_eq_false, not_false_eq_true, ne_eq, beq_iff_eq, imp_self, List.length_set, Nat.zero_add, Nat.add_zero, Int.zero_add, Int.add_zero, w1_aload_n_0, w1_iload_n_1, w1_invokevirtual, w1_ifCond, w1_iload_n_2, w1_iload_n_3, w1_invokestatic, w1_bipush, w1_ireturn, w1_iload, w1_if_icmp, w1_getfield, w1_aaload, dX9_month_0, dX9_month_1, dX9_month_2, dX9_month_5, dX9_month_8, dX9_month_9, dX9_month_10, dX9_month_13, dX9_month_16, dX9_month_17, dX9_month_20, dX9_month_23, dX9_month_25, dX9_month_26, dX9_month_27, dX9_month_30, dX9_month_33, dX9_month_35, dX9_month_36, dX9_month_38, dX9_month_41, dX9_month_43, dX9_month_45, dX9_month_48, dX9_month_50, dX9_month_51, dX9_month_52, dX9_month_53, dX9_month_56, dX9_month_57, dX9_month_58, dX9_month_61, dX9_month_62, dX9_month_65, dX9_month_66, dX9_month_69, dX9_month_70, dX9_month_71, dX9_month_72, dX9_month_73, dX9_month_76, dX9_month_77, dX9_month_80, dX9_month_82, dX9_month_85, w_flk9_32, w_flk9_72, w_flk9_81, w_kd_0, w_rf_0_0, w_rf_0_1, w_rf_0_2, w_rf_0_3, w_rf_0_4, w_rf_0_5, w_rf_0_6, w_rf_0_7, w_rf_0_8, w_rf_0_9, w_rf_0_10, p_X6_told, q_X6_told])
        (repeat' (with_reducible (first | refine And.intro ?_ ?_ | intro _))) <;> (try (first | assumption | contradiction | exact Or.inl trivial | exact Or.inl rfl | exact Or.inr rfl | (simp only [inI, inL]; omega) | omega))
        all_goals exact fin _ (by first | rfl | assumption)
      (apply hG [76] 2000; simp only [w_br_i, w_ite, w_all, w_all0, forall_eq, w_b0, w_b1, ↓reduceIte, w_ent, w_pos, List.replicate_succ, List.replicate_zero, wp_s, wk_s, w_lk_c, w_ld0, w_ldS, w_kp0, w_kp, w_s1, w_s2, w_to, w_if, w_call, w_sw, w_cat, w_cats, w_psh, w_fv, List.contains_cons, List.contains_nil, List.set_cons_zero, List.set_cons_succ, List.length_cons, List.length_nil, List.find?_cons, List.find?_nil, List.take_succ_cons, List.take_zero, List.drop_succ_cons, List.drop_zero, List.reverse_cons, List.reverse_nil, List.nil_append, List.cons_append, Option.map_some, Option.map_none, Nat.reduceAdd, Nat.reduceBEq, Nat.reduceEqDiff, Nat.reduceLT, Nat.reduceLeDiff, Nat.reduceSub, Int.reduceAdd, Int.reduceSub, Int.reduceMul, Int.reduceNeg, Int.reduceToNat, Int.reduceLT, Int.reduceLE, Int.reduceEq, Bool.false_eq_true, Bool.or_false, Bool.false_or, Bool.true_or, Bool.or_true, if_true, if_false, ite_true, ite_false, true_and, and_true, false_and, and_false, true_or, or_true, false_or, or_false, Int.cast_ofNat_Int, Int.toNat_natCast, Int.natCast_add, List.getElem?_cons_zero, List.getElem?_cons_succ, true_implies, forall_const, not_true_eq_false, not_false_eq_true, ne_eq, beq_iff_eq, imp_self, List.length_set, Nat.zero_add, Nat.add_zero, Int.zero_add, Int.add_zero, w1_aload_n_0, w1_iload_n_1, w1_invokevirtual, w1_ifCond, w1_iload_n_2, w1_iload_n_3, w1_invokestatic, w1_bipush, w1_ireturn, w1_iload, w1_if_icmp, w1_getfield, w1_aaload, dX9_month_0, dX9_month_1, dX9_month_2, dX9_month_5, dX9_month_8, dX9_month_9, dX9_month_10, dX9_month_13, dX9_month_16, dX9_month_17, dX9_month_20, dX9_month_23, dX9_month_25, dX9_month_26, dX9_month_27, dX9_month_30, dX9_month_33, dX9_month_35, dX9_month_36, dX9_month_38, dX9_month_41, dX9_month_43, dX9_month_45, dX9_month_48, dX9_month_50, dX9_month_51, dX9_month_52, dX9_month_53, dX9_month_56, dX9_month_57, dX9_month_58, dX9_month_61, dX9_month_62, dX9_month_65, dX9_month_66, dX9_month_69, dX9_month_70, dX9_month_71, dX9_month_72, dX9_month_73, dX9_month_76, dX9_month_77, dX9_month_80, dX9_month_82, dX9_month_85, w_flk9_32, w_flk9_72, w_flk9_81, w_kd_0, w_rf_0_0, w_rf_0_1, w_rf_0_2, w_rf_0_3, w_rf_0_4, w_rf_0_5, w_rf_0_6, w_rf_0_7, w_rf_0_8, w_rf_0_9, w_rf_0_10, w_kd_35, w_ln_35, ha, hpc2])
      (repeat' (with_reducible (first | refine And.intro ?_ ?_ | intro _))) <;> (try (first | assumption | contradiction | exact Or.inl trivial | exact Or.inl rfl | exact Or.inr rfl | (simp only [inI, inL]; omega) | omega))
      all_goals exact e76 _ _ (by assumption)
    (apply hG [61] 2000; simp only [w_br_i, w_ite, w_all, w_all0, forall_eq, w_b0, w_b1, ↓reduceIte, w_ent, w_pos, List.replicate_succ, List.replicate_zero, wp_s, wk_s, w_lk_c, w_ld0, w_ldS, w_kp0, w_kp, w_s1, w_s2, w_to, w_if, w_call, w_sw, w_cat, w_cats, w_psh, w_fv, List.contains_cons, List.contains_nil, List.set_cons_zero, List.set_cons_succ, List.length_cons, List.length_nil, List.find?_cons, List.find?_nil, List.take_succ_cons, List.take_zero, List.drop_succ_cons, List.drop_zero, List.reverse_cons, List.reverse_nil, List.nil_append, List.cons_append, Option.map_some, Option.map_none, Nat.reduceAdd, Nat.reduceBEq, Nat.reduceEqDiff, Nat.reduceLT, Nat.reduceLeDiff, Nat.reduceSub, Int.reduceAdd, Int.reduceSub, Int.reduceMul, Int.reduceNeg, Int.reduceToNat, Int.reduceLT, Int.reduceLE, Int.reduceEq, Bool.false_eq_true, Bool.or_false, Bool.false_or, Bool.true_or, Bool.or_true, if_true, if_false, ite_true, ite_false, true_and, and_true, false_and, and_false, true_or, or_true, false_or, or_false, Int.cast_ofNat_Int, Int.toNat_natCast, Int.natCast_add, List.getElem?_cons_zero, List.getElem?_cons_succ, true_implies, forall_const, not_true_eq_false, not_false_eq_true, ne_eq, beq_iff_eq, imp_self, List.length_set, Nat.zero_add, Nat.add_zero, Int.zero_add, Int.add_zero, w1_aload_n_0, w1_iload_n_1, w1_invokevirtual, w1_ifCond, w1_iload_n_2, w1_iload_n_3, w1_invokestatic, w1_bipush, w1_ireturn, w1_iload, w1_if_icmp, w1_getfield, w1_aaload, dX9_month_0, dX9_month_1, dX9_month_2, dX9_month_5, dX9_month_8, dX9_month_9, dX9_month_10, dX9_month_13, dX9_month_16, dX9_month_17, dX9_month_20, dX9_month_23, dX9_month_25, dX9_month_26, dX9_month_27, dX9_month_30, dX9_month_33, dX9_month_35, dX9_month_36, dX9_month_38, dX9_month_41, dX9_month_43, dX9_month_45, dX9_month_48, dX9_month_50, dX9_month_51, dX9_month_52, dX9_month_53, dX9_month_56, dX9_month_57, dX9_month_58, dX9_month_61, dX9_month_62, dX9_month_65, dX9_month_66, dX9_month_69, dX9_month_70, dX9_month_71, dX9_month_72, dX9_month_73, dX9_month_76, dX9_month_77, dX9_month_80, dX9_month_82, dX9_month_85, w_flk9_32, w_flk9_72, w_flk9_81, w_kd_0, w_rf_0_0, w_rf_0_1, w_rf_0_2, w_rf_0_3, w_rf_0_4, w_rf_0_5, w_rf_0_6, w_rf_0_7, w_rf_0_8, w_rf_0_9, w_rf_0_10, w_kd_35, w_ln_35, ha, hpc])
    (repeat' (with_reducible (first | refine And.intro ?_ ?_ | intro _))) <;> (try (first | assumption | contradiction | exact Or.inl trivial | exact Or.inl rfl | exact Or.inr rfl | (simp only [inI, inL]; omega) | omega))
    all_goals exact e61 _ _ (by assumption)
  (apply hG [51] 2000; simp only [w_br_i, w_ite, w_all, w_all0, forall_eq, w_b0, w_b1, ↓reduceIte, w_ent, w_pos, List.replicate_succ, List.replicate_zero, wp_s, wk_s, w_lk_c, w_ld0, w_ldS, w_kp0, w_kp, w_s1, w_s2, w_to, w_if, w_call, w_sw, w_cat, w_cats, w_psh, w_fv, List.contains_cons, List.contains_nil, List.set_cons_zero, List.set_cons_succ, List.length_cons, List.length_nil, List.find?_cons, List.find?_nil, List.take_succ_cons, List.take_zero, List.drop_succ_cons, List.drop_zero, List.reverse_cons, List.reverse_nil, List.nil_append, List.cons_append, Option.map_some, Option.map_none, Nat.reduceAdd, Nat.reduceBEq, Nat.reduceEqDiff, Nat.reduceLT, Nat.reduceLeDiff, Nat.reduceSub, Int.reduceAdd, Int.reduceSub, Int.reduceMul, Int.reduceNeg, Int.reduceToNat, Int.reduceLT, Int.reduceLE, Int.reduceEq, Bool.false_eq_true, Bool.or_false, Bool.false_or, Bool.true_or, Bool.or_true, if_true, if_false, ite_true, ite_false, true_and, and_true, false_and, and_false, true_or, or_true, false_or, or_false, Int.cast_ofNat_Int, Int.toNat_natCast, Int.natCast_add, List.getElem?_cons_zero, List.getElem?_cons_succ, true_implies, forall_const, not_true_eq_false, not_false_eq_true, ne_eq, beq_iff_eq, imp_self, List.length_set, Nat.zero_add, Nat.add_zero, Int.zero_add, Int.add_zero, w1_aload_n_0, w1_iload_n_1, w1_invokevirtual, w1_ifCond, w1_iload_n_2, w1_iload_n_3, w1_invokestatic, w1_bipush, w1_ireturn, w1_iload, w1_if_icmp, w1_getfield, w1_aaload, dX9_month_0, dX9_month_1, dX9_month_2, dX9_month_5, dX9_month_8, dX9_month_9, dX9_month_10, dX9_month_13, dX9_month_16, dX9_month_17, dX9_month_20, dX9_month_23, dX9_month_25, dX9_month_26, dX9_month_27, dX9_month_30, dX9_month_33, dX9_month_35, dX9_month_36, dX9_month_38, dX9_month_41, dX9_month_43, dX9_month_45, dX9_month_48, dX9_month_50, dX9_month_51, dX9_month_52, dX9_month_53, dX9_month_56, dX9_month_57, dX9_month_58, dX9_month_61, dX9_month_62, dX9_month_65, dX9_month_66, dX9_month_69, dX9_month_70, dX9_month_71, dX9_month_72, dX9_month_73, dX9_month_76, dX9_month_77, dX9_month_80, dX9_month_82, dX9_month_85, w_flk9_32, w_flk9_72, w_flk9_81, w_kd_0, w_rf_0_0, w_rf_0_1, w_rf_0_2, w_rf_0_3, w_rf_0_4, w_rf_0_5, w_rf_0_6, w_rf_0_7, w_rf_0_8, w_rf_0_9, w_rf_0_10, p_X9_isNoRule, q_X9_isNoRule, p_X9_isNoYear, q_X9_isNoYear, p_X9_isNoMonth, q_X9_isNoMonth, p_X9_lacksHouseOrYear, q_X9_lacksHouseOrYear, hrc0, hh0, hy1])
  (repeat' (with_reducible (first | refine And.intro ?_ ?_ | intro _))) <;> (try (first | assumption | contradiction | exact Or.inl trivial | exact Or.inl rfl | exact Or.inr rfl | (simp only [inI, inL]; omega) | omega))
  all_goals first
    | exact e51 (by omega) (by omega) (by omega) (by omega) (by omega)
    | exact ⟨by unfold monA; (repeat' split) <;> first | rfl | (exfalso; omega), hT0⟩
