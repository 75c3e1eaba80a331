/-! which use is next -/
theorem nx_bit {s u : Nat} (hs : s < 8) (hu : u < 3) : w_and (w_shr (s : Int) (u : Int)) 1 = ((s / 2 ^ u % 2 : Nat) : Int) := by
  have : ∀ s : Nat, s < 8 → ∀ u : Nat, u < 3 → w_and (w_shr (s : Int) (u : Int)) 1 = ((s / 2 ^ u % 2 : Nat) : Int) := by decide +kernel
  exact this s hs u hu
theorem nx_or {s u : Nat} (hs : s < 8) (hu : u < 3) : w_or (s : Int) (w_shl 1 (u : Int)) = ((s ||| 2 ^ u : Nat) : Int) ∧ s ||| 2 ^ u < 8 := by
  have : ∀ s : Nat, s < 8 → ∀ u : Nat, u < 3 → w_or (s : Int) (w_shl 1 (u : Int)) = ((s ||| 2 ^ u : Nat) : Int) ∧ s ||| 2 ^ u < 8 := by decide +kernel
  exact this s hs u hu
def nxF (f : Nat → Int) (sv : Nat) (bw : Int) : Nat → Int
  | 0 => -1
  | u + 1 => if sv / 2 ^ u % 2 = 0 then (if nxF f sv bw u = -1 ∨ (¬ bw = 0 ∧ f (nxF f sv bw u).toNat < f u) then (u : Int) else nxF f sv bw u) else nxF f sv bw u
theorem nxF_in (f : Nat → Int) (sv : Nat) (bw : Int) : ∀ u : Nat, -1 ≤ nxF f sv bw u ∧ nxF f sv bw u < u
  | 0 => by simp [nxF]
  | u + 1 => by
    have ih := nxF_in f sv bw u
    simp only [nxF]
    (repeat' split) <;> omega
def p_X10_nextUse (S : wW) : List wV → wW → Prop := fun av w => match av with
  | [.inr (.inr (some this)), .inl sv, .inl bw] => this = 135 ∧ hR S ∧ mU S w ∧ (0 ≤ sv ∧ sv < 8) ∧ inI bw
  | _ => False
theorem h_X10_nextUse (S : wW) : ∀ av w, (p_X10_nextUse S) av w → ∃ a r, av = vr a :: r ∧ w_kd a = 100 + 10 := by
  intro av w h
  unfold p_X10_nextUse at h
  split at h
  · refine ⟨_, _, rfl, ?_⟩
    first | (rw [h.1]; rfl) | (rw [h]; rfl)
  · exact h.elim
def q_X10_nextUse (S : wW) : List wV → wW → Int → wW → Prop := fun av w r w' => match av with
  | [.inr (.inr (some this)), .inl sv, .inl bw] => r = nxF (S 3) sv.toNat bw (S 4 0).toNat ∧ w' = w
  | _ => False
set_option maxRecDepth 100000 in
set_option maxHeartbeats 4000000 in
theorem c_X10_nextUse (S : wW) : w_Ct yX10_nextUse cX10_nextUse 6 1 0 0 (p_X10_nextUse S) (q_X10_nextUse S) := by
  refine w_met (own := RX10) (fl := w_fl10) (gs := w_gs10) (kl := w_kl10) (ki := w_ki10) (cs := []) (by decide +kernel) rfl ?_ w_flok10 w_gsok10 w_klok10 w_kiok10 ?_ ?_
  · intro av w h
    unfold p_X10_nextUse at h
    split at h
    · simp [w_pos, w_cat]
    · exact h.elim
  · exact fun _ h => absurd h List.not_mem_nil
  intro av w hp
  unfold p_X10_nextUse at hp
  split at hp
  case h_2 => exact hp.elim
  rename_i this sv bw
  intro G hG
  simp only [w_ent, w_pos, w_cat, Nat.reduceEqDiff, ↓reduceIte, List.length_cons, List.length_nil, Nat.reduceAdd, Nat.reduceSub, List.cons_append, List.nil_append, List.replicate_succ, List.replicate_zero]
  obtain ⟨rfl, hS, ⟨hu, hU⟩, hsv, hbw⟩ := hp
  obtain ⟨sv, rfl⟩ : ∃ n : Nat, sv = n := ⟨sv.toNat, by omega⟩
  have h1 := hS.1
  obtain ⟨n, hn⟩ : ∃ n : Nat, S 4 0 = n := ⟨(S 4 0).toNat, by omega⟩
  have hnN : (S 4 0).toNat = n := by omega
  have h9 : w 135 9 = n := by rw [hu, hn]
  have h3 : ∀ u, u < n → w 139 (9 + 3 * u) = S 3 u ∧ 1 ≤ S 3 u ∧ S 3 u ≤ 9 := fun u hu' => ⟨(hU u (by omega)).2.2, (hS.2.2.2.2.2.2.2.2 u (by omega)).2.2⟩
  have loop : ∀ d u : Nat, u + d = n → ∀ x5, G 5 [some (vr 135), some (vi sv), some (vi bw), some (vi (nxF (S 3) sv bw u)), some (vi u), x5] [] w := by
    intro d
    induction d with
    | zero =>
      intro u hu' x5
      have e : u = n := by omega
      subst e
      (apply hG [5] 2000; simp only [w_br_i, w_ite, w_all, w_all0, forall_eq, w_b0, w_b1, ↓reduceIte, w_ent, w_pos, List.replicate_succ, List.replicate_zero, wp_s, wk_s, w_lk_c, w_ld0, w_ldS, w_kp0, w_kp, w_s1, w_s2, w_to, w_if, w_call, w_sw, w_cat, w_cats, w_psh, w_fv, List.contains_cons, List.contains_nil, List.set_cons_zero, List.set_cons_succ, List.length_cons, List.length_nil, List.find?_cons, List.find?_nil, List.take_succ_cons, List.take_zero, List.drop_succ_cons, List.drop_zero, List.reverse_cons, List.reverse_nil, List.nil_append, List.cons_append, Option.map_some, Option.map_none, Nat.reduceAdd, Nat.reduceBEq, Nat.reduceEqDiff, Nat.reduceLT, Nat.reduceLeDiff, Nat.reduceSub, Int.reduceAdd, Int.reduceSub, Int.reduceMul, Int.reduceNeg, Int.reduceToNat, Int.reduceLT, Int.reduceLE, Int.reduceEq, Bool.false_eq_true, Bool.or_false, Bool.false_or, Bool.true_or, Bool.or_true, if_true, if_false, ite_true, ite_false, true_and, and_true, false_and, and_false, true_or, or_true, false_or, or_false, Int.cast_ofNat_Int, Int.toNat_natCast, Int.natCast_add, List.getElem?_cons_zero, List.getElem?_cons_succ, true_implies, forall_const, not_true_eq_false, not_false_eq_true, ne_eq, beq_iff_eq, imp_self, List.length_set, Nat.zero_add, Nat.add_zero, Int.zero_add, Int.add_zero, w1_iconst, w1_istore_n_3, w1_istore, w1_iload, w1_aload_n_0, w1_getfield, w1_if_icmp, w1_iload_n_1, w1_ishr, w1_iand, w1_ifCond, w1_iload_n_3, w1_iload_n_2, w1_bipush, w1_imul, w1_iadd, w1_iaload, w1_goto, w1_iinc, w1_ireturn, dX10_nextUse_0, dX10_nextUse_1, dX10_nextUse_2, dX10_nextUse_3, dX10_nextUse_5, dX10_nextUse_7, dX10_nextUse_8, dX10_nextUse_11, dX10_nextUse_14, dX10_nextUse_15, dX10_nextUse_17, dX10_nextUse_18, dX10_nextUse_19, dX10_nextUse_20, dX10_nextUse_23, dX10_nextUse_24, dX10_nextUse_25, dX10_nextUse_28, dX10_nextUse_29, dX10_nextUse_32, dX10_nextUse_33, dX10_nextUse_36, dX10_nextUse_38, dX10_nextUse_39, dX10_nextUse_41, dX10_nextUse_42, dX10_nextUse_43, dX10_nextUse_44, dX10_nextUse_45, dX10_nextUse_48, dX10_nextUse_50, dX10_nextUse_51, dX10_nextUse_52, dX10_nextUse_53, dX10_nextUse_54, dX10_nextUse_55, dX10_nextUse_58, dX10_nextUse_59, dX10_nextUse_62, dX10_nextUse_63, dX10_nextUse_65, dX10_nextUse_67, dX10_nextUse_70, dX10_nextUse_72, dX10_nextUse_75, dX10_nextUse_76, dX10_nextUse_77, dX10_nextUse_80, dX10_nextUse_83, dX10_nextUse_84, w_flk10_138, w_flk10_19, w_kd_135, w_rf_135_0, w_rf_135_2, w_rf_135_3, w_rf_135_8, w_rf_135_12, w_rf_135_14, w_rf_135_15, w_rf_135_16, w_rf_135_24, w_rf_135_25, w_rf_135_26, w_rf_135_27, w_rf_135_28, w_rf_135_29, w_rf_135_30, w_rf_135_33, w_rf_135_34, w_rf_135_39, w_rf_135_40, w_rf_135_41, w_rf_135_42, h9])
      (repeat' (with_reducible (first | refine And.intro ?_ ?_ | intro _))) <;> (try (first | (with_reducible assumption) | (simp only [inI, inL]; omega) | omega))
      all_goals first
        | (simp only [q_X10_nextUse, hnN, Int.toNat_natCast]; exact ⟨trivial, trivial⟩)
        | (exfalso; omega)
    | succ d ih =>
      intro u hu' x5
      have hb := nx_bit (s := sv) (u := u) (by omega) (by omega)
      have hx := nxF_in (S 3) sv bw u
      have g1 := h3 u (by omega)
      have e := ih (u + 1) (by omega)
      simp only [nxF, Int.natCast_add, Int.cast_ofNat_Int] at e
      by_cases c : sv / 2 ^ u % 2 = 0
      · rw [if_pos c] at e
        rw [c] at hb
        have t1 : (9 + 3 * (u : Int)).toNat = 9 + 3 * u := by omega
        have eg1 := g1.1
        by_cases c1 : nxF (S 3) sv bw u = -1
        · rw [if_pos (Or.inl c1)] at e
          (apply hG [5] 2000; simp only [w_br_i, w_ite, w_all, w_all0, forall_eq, w_b0, w_b1, ↓reduceIte, w_ent, w_pos, List.replicate_succ, List.replicate_zero, wp_s, wk_s, w_lk_c, w_ld0, w_ldS, w_kp0, w_kp, w_s1, w_s2, w_to, w_if, w_call, w_sw, w_cat, w_cats, w_psh, w_fv, List.contains_cons, List.contains_nil, List.set_cons_zero, List.set_cons_succ, List.length_cons, List.length_nil, List.find?_cons, List.find?_nil, List.take_succ_cons, List.take_zero, List.drop_succ_cons, List.drop_zero, List.reverse_cons, List.reverse_nil, List.nil_append, List.cons_append, Option.map_some, Option.map_none, Nat.reduceAdd, Nat.reduceBEq, Nat.reduceEqDiff, Nat.reduceLT, Nat.reduceLeDiff, Nat.reduceSub, Int.reduceAdd, Int.reduceSub, Int.reduceMul, Int.reduceNeg, Int.reduceToNat, Int.reduceLT, Int.reduceLE, Int.reduceEq, Bool.false_eq_true, Bool.or_false, Bool.false_or, Bool.true_or, Bool.or_true, if_true, if_false, ite_true, ite_false, true_and, and_true, false_and, and_false, true_or, or_true, false_or, or_false, Int.cast_ofNat_Int, Int.toNat_natCast, Int.natCast_add, List.getElem?_cons_zero, List.getElem?_cons_succ, true_implies, forall_const, not_true_eq_false, not_false_eq_true, ne_eq, beq_iff_eq, imp_self, List.length_set, Nat.zero_add, Nat.add_zero, Int.zero_add, Int.add_zero, w1_iconst, w1_istore_n_3, w1_istore, w1_iload, w1_aload_n_0, w1_getfield, w1_if_icmp, w1_iload_n_1, w1_ishr, w1_iand, w1_ifCond, w1_iload_n_3, w1_iload_n_2, w1_bipush, w1_imul, w1_iadd, w1_iaload, w1_goto, w1_iinc, w1_ireturn, dX10_nextUse_0, dX10_nextUse_1, dX10_nextUse_2, dX10_nextUse_3, dX10_nextUse_5, dX10_nextUse_7, dX10_nextUse_8, dX10_nextUse_11, dX10_nextUse_14, dX10_nextUse_15, dX10_nextUse_17, dX10_nextUse_18, dX10_nextUse_19, dX10_nextUse_20, dX10_nextUse_23, dX10_nextUse_24, dX10_nextUse_25, dX10_nextUse_28, dX10_nextUse_29, dX10_nextUse_32, dX10_nextUse_33, dX10_nextUse_36, dX10_nextUse_38, dX10_nextUse_39, dX10_nextUse_41, dX10_nextUse_42, dX10_nextUse_43, dX10_nextUse_44, dX10_nextUse_45, dX10_nextUse_48, dX10_nextUse_50, dX10_nextUse_51, dX10_nextUse_52, dX10_nextUse_53, dX10_nextUse_54, dX10_nextUse_55, dX10_nextUse_58, dX10_nextUse_59, dX10_nextUse_62, dX10_nextUse_63, dX10_nextUse_65, dX10_nextUse_67, dX10_nextUse_70, dX10_nextUse_72, dX10_nextUse_75, dX10_nextUse_76, dX10_nextUse_77, dX10_nextUse_80, dX10_nextUse_83, dX10_nextUse_84, w_flk10_138, w_flk10_19, w_kd_135, w_rf_135_0, w_rf_135_2, w_rf_135_3, w_rf_135_8, w_rf_135_12, w_rf_135_14, w_rf_135_15, w_rf_135_16, w_rf_135_24, w_rf_135_25, w_rf_135_26, w_rf_135_27, w_rf_135_28, w_rf_135_29, w_rf_135_30, w_rf_135_33, w_rf_135_34, w_rf_135_39, w_rf_135_40, w_rf_135_41, w_rf_135_42, w_kd_139, w_ln_139, h9, hb])
          (repeat' (with_reducible (first | refine And.intro ?_ ?_ | intro _))) <;> (try (first | (with_reducible assumption) | (simp only [inI, inL]; omega) | omega))
          all_goals first
            | exact e _
            | (exfalso; omega)
        · obtain ⟨b, hbe⟩ : ∃ b : Nat, nxF (S 3) sv bw u = b := ⟨(nxF (S 3) sv bw u).toNat, by omega⟩
          have g2 := h3 b (by omega)
          have eg2 := g2.1
          rw [hbe] at e ⊢
          have t2 : (9 + 3 * (b : Int)).toNat = 9 + 3 * b := by omega
          rw [Int.toNat_natCast] at e
          by_cases c2 : ¬ bw = 0 ∧ S 3 b < S 3 u
          · rw [if_pos (Or.inr c2)] at e
            (apply hG [5] 2000; simp only [w_br_i, w_ite, w_all, w_all0, forall_eq, w_b0, w_b1, ↓reduceIte, w_ent, w_pos, List.replicate_succ, List.replicate_zero, wp_s, wk_s, w_lk_c, w_ld0, w_ldS, w_kp0, w_kp, w_s1, w_s2, w_to, w_if, w_call, w_sw, w_cat, w_cats, w_psh, w_fv, List.contains_cons, List.contains_nil, List.set_cons_zero, List.set_cons_succ, List.length_cons, List.length_nil, List.find?_cons, List.find?_nil, List.take_succ_cons, List.take_zero, List.drop_succ_cons, List.drop_zero, List.reverse_cons, List.reverse_nil, List.nil_append, List.cons_append, Option.map_some, Option.map_none, Nat.reduceAdd, Nat.reduceBEq, Nat.reduceEqDiff, Nat.reduceLT, Nat.reduceLeDiff, Nat.reduceSub, Int.reduceAdd, Int.reduceSub, Int.reduceMul, Int.reduceNeg, Int.reduceToNat, Int.reduceLT, Int.reduceLE, Int.reduceEq, Bool.false_eq_true, Bool.or_false, Bool.false_or, Bool.true_or, Bool.or_true, if_true, if_false, ite_true, ite_false, true_and, and_true, false_and, and_false, true_or, or_true, false_or, or_false, Int.cast_ofNat_Int, Int.toNat_natCast, Int.natCast_add, List.getElem?_cons_zero, List.getElem?_cons_succ, true_implies, forall_const, not_true_eq_false, not_false_eq_true, ne_eq, beq_iff_eq, imp_self, List.length_set, Nat.zero_add, Nat.add_zero, Int.zero_add, Int.add_zero, w1_iconst, w1_istore_n_3, w1_istore, w1_iload, w1_aload_n_0, w1_getfield, w1_if_icmp, w1_iload_n_1, w1_ishr, w1_iand, w1_ifCond, w1_iload_n_3, w1_iload_n_2, w1_bipush, w1_imul, w1_iadd, w1_iaload, w1_goto, w1_iinc, w1_ireturn, dX10_nextUse_0, dX10_nextUse_1, dX10_nextUse_2, dX10_nextUse_3, dX10_nextUse_5, dX10_nextUse_7, dX10_nextUse_8, dX10_nextUse_11, dX10_nextUse_14, dX10_nextUse_15, dX10_nextUse_17, dX10_nextUse_18, dX10_nextUse_19, dX10_nextUse_20, dX10_nextUse_23, dX10_nextUse_24, dX10_nextUse_25, dX10_nextUse_28, dX10_nextUse_29, dX10_nextUse_32, dX10_nextUse_33, dX10_nextUse_36, dX10_nextUse_38, dX10_nextUse_39, dX10_nextUse_41, dX10_nextUse_42, dX10_nextUse_43, dX10_nextUse_44, dX10_nextUse_45, dX10_nextUse_48, dX10_nextUse_50, dX10_nextUse_51, dX10_nextUse_52, dX10_nextUse_53, dX10_nextUse_54, dX10_nextUse_55, dX10_nextUse_58, dX10_nextUse_59, dX10_nextUse_62, dX10_nextUse_63, dX10_nextUse_65, dX10_nextUse_67, dX10_nextUse_70, dX10_nextUse_72, dX10_nextUse_75, dX10_nextUse_76, dX10_nextUse_77, dX10_nextUse_80, dX10_nextUse_83, dX10_nextUse_84, w_flk10_138, w_flk10_19, w_kd_135, w_rf_135_0, w_rf_135_2, w_rf_135_3, w_rf_135_8, w_rf_135_12, w_rf_135_14, w_rf_135_15, w_rf_135_16, w_rf_135_24, w_rf_135_25, w_rf_135_26, w_rf_135_27, w_rf_135_28, w_rf_135_29, w_rf_135_30, w_rf_135_33, w_rf_135_34, w_rf_135_39, w_rf_135_40, w_rf_135_41, w_rf_135_42, w_kd_139, w_ln_139, h9, hb, t1, t2, eg1, eg2])
            (repeat' (with_reducible (first | refine And.intro ?_ ?_ | intro _))) <;> (try (first | (with_reducible assumption) | (simp only [inI, inL]; omega) | omega))
            all_goals first
              | exact e _
              | (exfalso; omega)
          · rw [if_neg (by omega)] at e
            (apply hG [5] 2000; simp only [w_br_i, w_ite, w_all, w_all0, forall_eq, w_b0, w_b1, ↓reduceIte, w_ent, w_pos, List.replicate_succ, List.replicate_zero, wp_s, wk_s, w_lk_c, w_ld0, w_ldS, w_kp0, w_kp, w_s1, w_s2, w_to, w_if, w_call, w_sw, w_cat, w_cats, w_psh, w_fv, List.contains_cons, List.contains_nil, List.set_cons_zero, List.set_cons_succ, List.length_cons, List.length_nil, List.find?_cons, List.find?_nil, List.take_succ_cons, List.take_zero, List.drop_succ_cons, List.drop_zero, List.reverse_cons, List.reverse_nil, List.nil_append, List.cons_append, Option.map_some, Option.map_none, Nat.reduceAdd, Nat.reduceBEq, Nat.reduceEqDiff, Nat.reduceLT, Nat.reduceLeDiff, Nat.reduceSub, Int.reduceAdd, Int.reduceSub, Int.reduceMul, Int.reduceNeg, Int.reduceToNat, Int.reduceLT, Int.reduceLE, Int.reduceEq, Bool.false_eq_true, Bool.or_false, Bool.false_or, Bool.true_or, Bool.or_true, if_true, if_false, ite_true, ite_false, true_and, and_true, false_and, and_false, true_or, or_true, false_or, or_false, Int.cast_ofNat_Int, Int.toNat_natCast, Int.natCast_add, List.getElem?_cons_zero, List.getElem?_cons_succ, true_implies, forall_const, not_true_eq_false, not_false_eq_true, ne_eq, beq_iff_eq, imp_self, List.length_set, Nat.zero_add, Nat.add_zero, Int.zero_add, Int.add_zero, w1_iconst, w1_istore_n_3, w1_istore, w1_iload, w1_aload_n_0, w1_getfield, w1_if_icmp, w1_iload_n_1, w1_ishr, w1_iand, w1_ifCond, w1_iload_n_3, w1_iload_n_2, w1_bipush, w1_imul, w1_iadd, w1_iaload, w1_goto, w1_iinc, w1_ireturn, dX10_nextUse_0, dX10_nextUse_1, dX10_nextUse_2, dX10_nextUse_3, dX10_nextUse_5, dX10_nextUse_7, dX10_nextUse_8, dX10_nextUse_11, dX10_nextUse_14, dX10_nextUse_15, dX10_nextUse_17, dX10_nextUse_18, dX10_nextUse_19, dX10_nextUse_20, dX10_nextUse_23, dX10_nextUse_24, dX10_nextUse_25, dX10_nextUse_28, dX10_nextUse_29, dX10_nextUse_32, dX10_nextUse_33, dX10_nextUse_36, dX10_nextUse_38, dX10_nextUse_39, dX10_nextUse_41, dX10_nextUse_42, dX10_nextUse_43, dX10_nextUse_44, dX10_nextUse_45, dX10_nextUse_48, dX10_nextUse_50, dX10_nextUse_51, dX10_nextUse_52, dX10_nextUse_53, dX10_nextUse_54, dX10_nextUse_55, dX10_nextUse_58, dX10_nextUse_59, dX10_nextUse_62, dX10_nextUse_63, dX10_nextUse_65, dX10_nextUse_67, dX10_nextUse_70, dX10_nextUse_72, dX10_nextUse_75, dX10_nextUse_76, dX10_nextUse_77, dX10_nextUse_80, dX10_nextUse_83, dX10_nextUse_84, w_flk10_138, w_flk10_19, w_kd_135, w_rf_135_0, w_rf_135_2, w_rf_135_3, w_rf_135_8, w_rf_135_12, w_rf_135_14, w_rf_135_15, w_rf_135_16, w_rf_135_24, w_rf_135_25, w_rf_135_26, w_rf_135_27, w_rf_135_28, w_rf_135_29, w_rf_135_30, w_rf_135_33, w_rf_135_34, w_rf_135_39, w_rf_135_40, w_rf_135_41, w_rf_135_42, w_kd_139, w_ln_139, h9, hb, t1, t2, eg1, eg2])
            (repeat' (with_reducible (first | refine And.intro ?_ ?_ | intro _))) <;> (try (first | (with_reducible assumption) | (simp only [inI, inL]; omega) | omega))
            all_goals first
              | exact e _
              | (exfalso; omega)
      · rw [if_neg c] at e
        have hb2 : ((sv / 2 ^ u % 2 : Nat) : Int) = 1 := by omega
        rw [hb2] at hb
        (apply hG [5] 2000; simp only [w_br_i, w_ite, w_all, w_all0, forall_eq, w_b0, w_b1, ↓reduceIte, w_ent, w_pos, List.replicate_succ, List.replicate_zero, wp_s, wk_s, w_lk_c, w_ld0, w_ldS, w_kp0, w_kp, w_s1, w_s2, w_to, w_if, w_call, w_sw, w_cat, w_cats, w_psh, w_fv, List.contains_cons, List.contains_nil, List.set_cons_zero, List.set_cons_succ, List.length_cons, List.length_nil, List.find?_cons, List.find?_nil, List.take_succ_cons, List.take_zero, List.drop_succ_cons, List.drop_zero, List.reverse_cons, List.reverse_nil, List.nil_append, List.cons_append, Option.map_some, Option.map_none, Nat.reduceAdd, Nat.reduceBEq, Nat.reduceEqDiff, Nat.reduceLT, Nat.reduceLeDiff, Nat.reduceSub, Int.reduceAdd, Int.reduceSub, Int.reduceMul, Int.reduceNeg, Int.reduceToNat, Int.reduceLT, Int.reduceLE, Int.reduceEq, Bool.false_eq_true, Bool.or_false, Bool.false_or, Bool.true_or, Bool.or_true, if_true, if_false, ite_true, ite_false, true_and, and_true, false_and, and_false, true_or, or_true, false_or, or_false, Int.cast_ofNat_Int, Int.toNat_natCast, Int.natCast_add, List.getElem?_cons_zero, List.getElem?_cons_succ, true_implies, forall_const, not_true_eq_false, not_false_eq_true, ne_eq, beq_iff_eq, imp_self, List.length_set, Nat.zero_add, Nat.add_zero, Int.zero_add, Int.add_zero, w1_iconst, w1_istore_n_3, w1_istore, w1_iload, w1_aload_n_0, w1_getfield, w1_if_icmp, w1_iload_n_1, w1_ishr, w1_iand, w1_ifCond, w1_iload_n_3, w1_iload_n_2, w1_bipush, w1_imul, w1_iadd, w1_iaload, w1_goto, w1_iinc, w1_ireturn, dX10_nextUse_0, dX10_nextUse_1, dX10_nextUse_2, dX10_nextUse_3, dX10_nextUse_5, dX10_nextUse_7, dX10_nextUse_8, dX10_nextUse_11, dX10_nextUse_14, dX10_nextUse_15, dX10_nextUse_17, dX10_nextUse_18, dX10_nextUse_19, dX10_nextUse_20, dX10_nextUse_23, dX10_nextUse_24, dX10_nextUse_25, dX10_nextUse_28, dX10_nextUse_29, dX10_nextUse_32, dX10_nextUse_33, dX10_nextUse_36, dX10_nextUse_38, dX10_nextUse_39, dX10_nextUse_41, dX10_nextUse_42, dX10_nextUse_43, dX10_nextUse_44, dX10_nextUse_45, dX10_nextUse_48, dX10_nextUse_50, dX10_nextUse_51, dX10_nextUse_52, dX10_nextUse_53, dX10_nextUse_54, dX10_nextUse_55, dX10_nextUse_58, dX10_nextUse_59, dX10_nextUse_62, dX10_nextUse_63, dX10_nextUse_65, dX10_nextUse_67, dX10_nextUse_70, dX10_nextUse_72, dX10_nextUse_75, dX10_nextUse_76, dX10_nextUse_77, dX10_nextUse_80, dX10_nextUse_83, dX10_nextUse_84, w_flk10_138, w_flk10_19, w_kd_135, w_rf_135_0, w_rf_135_2, w_rf_135_3, w_rf_135_8, w_rf_135_12, w_rf_135_14, w_rf_135_15, w_rf_135_16, w_rf_135_24, w_rf_135_25, w_rf_135_26, w_rf_135_27, w_rf_135_28, w_rf_135_29, w_rf_135_30, w_rf_135_33, w_rf_135_34, w_rf_135_39, w_rf_135_40, w_rf_135_41, w_rf_135_42, w_kd_139, w_ln_139, h9, hb])
        (repeat' (with_reducible (first | refine And.intro ?_ ?_ | intro _))) <;> (try (first | (with_reducible assumption) | (simp only [inI, inL]; omega) | omega))
        all_goals first
          | exact e _
          | (exfalso; omega)
  have e := loop n 0 (by omega) none
  simp only [nxF, Int.cast_ofNat_Int] at e
  (apply hG [5] 2000; simp only [w_br_i, w_ite, w_all, w_all0, forall_eq, w_b0, w_b1, ↓reduceIte, w_ent, w_pos, List.replicate_succ, List.replicate_zero, wp_s, wk_s, w_lk_c, w_ld0, w_ldS, w_kp0, w_kp, w_s1, w_s2, w_to, w_if, w_call, w_sw, w_cat, w_cats, w_psh, w_fv, List.contains_cons, List.contains_nil, List.set_cons_zero, List.set_cons_succ, List.length_cons, List.length_nil, List.find?_cons, List.find?_nil, List.take_succ_cons, List.take_zero, List.drop_succ_cons, List.drop_zero, List.reverse_cons, List.reverse_nil, List.nil_append, List.cons_append, Option.map_some, Option.map_none, Nat.reduceAdd, Nat.reduceBEq, Nat.reduceEqDiff, Nat.reduceLT, Nat.reduceLeDiff, Nat.reduceSub, Int.reduceAdd, Int.reduceSub, Int.reduceMul, Int.reduceNeg, Int.reduceToNat, Int.reduceLT, Int.reduceLE, Int.reduceEq, Bool.false_eq_true, Bool.or_false, Bool.false_or, Bool.true_or, Bool.or_true, if_true, if_false, ite_true, ite_false, true_and, and_true, false_and, and_false, true_or, or_true, false_or, or_false, Int.cast_ofNat_Int, Int.toNat_natCast, Int.natCast_add, List.getElem?_cons_zero, List.getElem?_cons_succ, true_implies, forall_const, not_true_eq_false, not_false_eq_true, ne_eq, beq_iff_eq, imp_self, List.length_set, Nat.zero_add, Nat.add_zero, Int.zero_add, Int.add_zero, w1_iconst, w1_istore_n_3, w1_istore, w1_iload, w1_aload_n_0, w1_getfield, w1_if_icmp, w1_iload_n_1, w1_ishr, w1_iand, w1_ifCond, w1_iload_n_3, w1_iload_n_2, w1_bipush, w1_imul, w1_iadd, w1_iaload, w1_goto, w1_iinc, w1_ireturn, dX10_nextUse_0, dX10_nextUse_1, dX10_nextUse_2, dX10_nextUse_3, dX10_nextUse_5, dX10_nextUse_7, dX10_nextUse_8, dX10_nextUse_11, dX10_nextUse_14, dX10_nextUse_15, dX10_nextUse_17, dX10_nextUse_18, dX10_nextUse_19, dX10_nextUse_20, dX10_nextUse_23, dX10_nextUse_24, dX10_nextUse_25, dX10_nextUse_28, dX10_nextUse_29, dX10_nextUse_32, dX10_nextUse_33, dX10_nextUse_36, dX10_nextUse_38, dX10_nextUse_39, dX10_nextUse_41, dX10_nextUse_42, dX10_nextUse_43, dX10_nextUse_44, dX10_nextUse_45, dX10_nextUse_48, dX10_nextUse_50, dX10_nextUse_51, dX10_nextUse_52, dX10_nextUse_53, dX10_nextUse_54, dX10_nextUse_55, dX10_nextUse_58, dX10_nextUse_59, dX10_nextUse_62, dX10_nextUse_63, dX10_nextUse_65, dX10_nextUse_67, dX10_nextUse_70, dX10_nextUse_72, dX10_nextUse_75, dX10_nextUse_76, dX10_nextUse_77, dX10_nextUse_80, dX10_nextUse_83, dX10_nextUse_84, w_flk10_138, w_flk10_19])
  exact e
/-- the uses served ahead of the k-th -/
def mkN (S : wW) (bw : Int) : Nat → Nat
  | 0 => 0
  | k + 1 => mkN S bw k ||| 2 ^ dO S bw k
theorem nx_ord {S : wW} (hS : hR S) {bw : Int} (hbw : bw = 0 ∨ bw = 1) {k : Nat} (hk : k < (S 4 0).toNat) : nxF (S 3) (mkN S bw k) bw (S 4 0).toNat = dO S bw k ∧ mkN S bw k < 8 := by
  have h1 := hS.1
  have hn : (S 4 0).toNat = 1 ∨ (S 4 0).toNat = 2 ∨ (S 4 0).toNat = 3 := by omega
  rcases hbw with rfl | rfl
  · have e : ∀ k, dO S 0 k = k := fun k => by simp [dO]
    rcases hn with h | h | h <;> rw [h] at hk ⊢
    · have : k = 0 := by omega
      subst this
      simp [nxF, mkN, e]
    · have : k = 0 ∨ k = 1 := by omega
      rcases this with rfl | rfl <;> simp [nxF, mkN, e]
    · have : k = 0 ∨ k = 1 ∨ k = 2 := by omega
      rcases this with rfl | rfl | rfl <;> simp [nxF, mkN, e]
  · rcases hn with h | h | h <;> rw [h] at hk ⊢
    · have : k = 0 := by omega
      subst this
      simp [nxF, mkN, dO, o_ord, h]
    · have : k = 0 ∨ k = 1 := by omega
      by_cases q : S 3 0 < S 3 1 <;> rcases this with rfl | rfl <;> simp [nxF, mkN, dO, o_ord, h, q]
    · have : k = 0 ∨ k = 1 ∨ k = 2 := by omega
      by_cases q1 : S 3 0 < S 3 1 <;> by_cases q2 : S 3 0 < S 3 2 <;> by_cases q3 : S 3 1 < S 3 2 <;> rcases this with rfl | rfl | rfl <;> simp [nxF, mkN, dO, o_ord, h, q1, q2, q3] <;> omega
