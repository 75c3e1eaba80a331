/-! the digest -/
def hs (h : Int) (f : Nat → Int) : Nat → Int
  | 0 => h
  | n + 1 => 31 * hs h f n + f n
theorem hs_c {h : Int} {f f' : Nat → Int} : ∀ n, (∀ i, i < n → f i = f' i) → hs h f n = hs h f' n
  | 0, _ => rfl
  | n + 1, e => by simp only [hs]; rw [hs_c n (fun i hi => e i (by omega)), e n (by omega)]
def p_X9_digestRow : List wV → wW → Prop := fun av w => match av with
  | [.inr (.inl h), .inr (.inr (some a)), .inl len] => w_kd a = 0 ∧ (0 ≤ len ∧ len ≤ w_ln a) ∧ ∀ i, i < len.toNat → inI (w a i)
  | _ => False
def q_X9_digestRow : List wV → wW → Int → wW → Prop := fun av w r w' => match av with
  | [.inr (.inl h), .inr (.inr (some a)), .inl len] => r = hs h (w a) len.toNat ∧ w' = w
  | _ => False
set_option maxRecDepth 100000 in
set_option maxHeartbeats 4000000 in
theorem c_X9_digestRow : w_Ct yX9_digestRow cX9_digestRow 5 2 0 0 p_X9_digestRow q_X9_digestRow := by
  refine w_met (own := RX9) (fl := w_fl9) (gs := w_gs9) (kl := w_kl9) (ki := w_ki9) (cs := []) (by decide +kernel) rfl ?_ w_flok9 w_gsok9 w_klok9 w_kiok9 ?_ ?_
  · intro av w h
    unfold p_X9_digestRow at h
    split at h
    · simp [w_pos, w_cat]
    · exact h.elim
  · exact fun _ h => absurd h List.not_mem_nil
  intro av w hp
  unfold p_X9_digestRow at hp
  split at hp
  case h_2 => exact hp.elim
  rename_i h a len
  intro G hG
  simp only [w_ent, w_pos, w_cat, Nat.reduceEqDiff, ↓reduceIte, List.length_cons, List.length_nil, Nat.reduceAdd, Nat.reduceSub, List.cons_append, List.nil_append, List.replicate_succ, List.replicate_zero]
  obtain ⟨hk, hlen, hin⟩ := hp
  have hl := w_ln_le a
  obtain ⟨n, rfl⟩ : ∃ n : Nat, len = n := ⟨len.toNat, by omega⟩
  simp only [Int.toNat_natCast] at hin
  have loop : ∀ d i : Nat, i + d = n → G 3 [some (vl (hs h (w a) i)), none, some (vr a), some (vi n), some (vi i)] [] w := by
    intro d
    induction d with
    | zero =>
      intro i hi
      have e : i = n := by omega
      subst e
      (apply hG [3] 2000; simp only [w_br_i, w_ite, w_all, w_all0, forall_eq, w_b0, w_b1, ↓reduceIte, w_ent, w_pos, List.replicate_succ, List.replicate_zero, wp_s, wk_s, w_lk_c, w_ld0, w_ldS, w_kp0, w_kp, w_s1, w_s2, w_to, w_if, w_call, w_sw, w_cat, w_cats, w_psh, w_fv, List.contains_cons, List.contains_nil, List.set_cons_zero, List.set_cons_succ, List.length_cons, List.length_nil, List.find?_cons, List.find?_nil, List.take_succ_cons, List.take_zero, List.drop_succ_cons, List.drop_zero, List.reverse_cons, List.reverse_nil, List.nil_append, List.cons_append, Option.map_some, Option.map_none, Nat.reduceAdd, Nat.reduceBEq, Nat.reduceEqDiff, Nat.reduceLT, Nat.reduceLeDiff, Nat.reduceSub, Int.reduceAdd, Int.reduceSub, Int.reduceMul, Int.reduceNeg, Int.reduceToNat, Int.reduceLT, Int.reduceLE, Int.reduceEq, Bool.false_eq_true, Bool.or_false, Bool.false_or, Bool.true_or, Bool.or_true, if_true, if_false, ite_true, ite_false, true_and, and_true, false_and, and_false, true_or, or_true, false_or, or_false, Int.cast_ofNat_Int, Int.toNat_natCast, Int.natCast_add, List.getElem?_cons_zero, List.getElem?_cons_succ, true_implies, forall_const, not_true_eq_false, not_false_eq_true, ne_eq, beq_iff_eq, imp_self, List.length_set, Nat.zero_add, Nat.add_zero, Int.zero_add, Int.add_zero, w1_iconst, w1_istore, w1_iload, w1_iload_n_3, w1_if_icmp, w1_aload_n_2, w1_arraylength, w1_ldc2_w, w1_lload_n_0, w1_lmul, w1_iaload, w1_i2l, w1_ladd, w1_lstore_n_0, w1_iinc, w1_goto, w1_lreturn, dX9_digestRow_0, dX9_digestRow_1, dX9_digestRow_3, dX9_digestRow_5, dX9_digestRow_6, dX9_digestRow_9, dX9_digestRow_11, dX9_digestRow_12, dX9_digestRow_13, dX9_digestRow_16, dX9_digestRow_19, dX9_digestRow_20, dX9_digestRow_21, dX9_digestRow_22, dX9_digestRow_24, dX9_digestRow_25, dX9_digestRow_26, dX9_digestRow_27, dX9_digestRow_28, dX9_digestRow_31, dX9_digestRow_34, dX9_digestRow_35, w_klk9_318, hk])
      (repeat' (with_reducible (first | refine And.intro ?_ ?_ | intro _))) <;> (try (first | (with_reducible assumption) | (simp only [inI, inL]; omega) | omega))
      all_goals first
        | exact ⟨by rw [Int.toNat_natCast], rfl⟩
        | (exfalso; omega)
    | succ d ih =>
      intro i hi
      have h1 := hin i (by omega)
      have e := ih (i + 1) (by omega)
      simp only [hs, Int.natCast_add, Int.cast_ofNat_Int] at e
      (apply hG [3] 2000; simp only [w_br_i, w_ite, w_all, w_all0, forall_eq, w_b0, w_b1, ↓reduceIte, w_ent, w_pos, List.replicate_succ, List.replicate_zero, wp_s, wk_s, w_lk_c, w_ld0, w_ldS, w_kp0, w_kp, w_s1, w_s2, w_to, w_if, w_call, w_sw, w_cat, w_cats, w_psh, w_fv, List.contains_cons, List.contains_nil, List.set_cons_zero, List.set_cons_succ, List.length_cons, List.length_nil, List.find?_cons, List.find?_nil, List.take_succ_cons, List.take_zero, List.drop_succ_cons, List.drop_zero, List.reverse_cons, List.reverse_nil, List.nil_append, List.cons_append, Option.map_some, Option.map_none, Nat.reduceAdd, Nat.reduceBEq, Nat.reduceEqDiff, Nat.reduceLT, Nat.reduceLeDiff, Nat.reduceSub, Int.reduceAdd, Int.reduceSub, Int.reduceMul, Int.reduceNeg, Int.reduceToNat, Int.reduceLT, Int.reduceLE, Int.reduceEq, Bool.false_eq_true, Bool.or_false, Bool.false_or, Bool.true_or, Bool.or_true, if_true, if_false, ite_true, ite_false, true_and, and_true, false_and, and_false, true_or, or_true, false_or, or_false, Int.cast_ofNat_Int, Int.toNat_natCast, Int.natCast_add, List.getElem?_cons_zero, List.getElem?_cons_succ, true_implies, forall_const, not_true_eq_false, not_false_eq_true, ne_eq, beq_iff_eq, imp_self, List.length_set, Nat.zero_add, Nat.add_zero, Int.zero_add, Int.add_zero, w1_iconst, w1_istore, w1_iload, w1_iload_n_3, w1_if_icmp, w1_aload_n_2, w1_arraylength, w1_ldc2_w, w1_lload_n_0, w1_lmul, w1_iaload, w1_i2l, w1_ladd, w1_lstore_n_0, w1_iinc, w1_goto, w1_lreturn, dX9_digestRow_0, dX9_digestRow_1, dX9_digestRow_3, dX9_digestRow_5, dX9_digestRow_6, dX9_digestRow_9, dX9_digestRow_11, dX9_digestRow_12, dX9_digestRow_13, dX9_digestRow_16, dX9_digestRow_19, dX9_digestRow_20, dX9_digestRow_21, dX9_digestRow_22, dX9_digestRow_24, dX9_digestRow_25, dX9_digestRow_26, dX9_digestRow_27, dX9_digestRow_28, dX9_digestRow_31, dX9_digestRow_34, dX9_digestRow_35, w_klk9_318, hk])
      (repeat' (with_reducible (first | refine And.intro ?_ ?_ | intro _))) <;> (try (first | (with_reducible assumption) | (simp only [inI, inL]; omega) | omega))
      all_goals first
        | exact e
        | exact h1.1
        | exact h1.2
        | (exfalso; omega)
  have e := loop n 0 (by omega)
  simp only [hs, Int.cast_ofNat_Int] at e
  (apply hG [3] 2000; simp only [w_br_i, w_ite, w_all, w_all0, forall_eq, w_b0, w_b1, ↓reduceIte, w_ent, w_pos, List.replicate_succ, List.replicate_zero, wp_s, wk_s, w_lk_c, w_ld0, w_ldS, w_kp0, w_kp, w_s1, w_s2, w_to, w_if, w_call, w_sw, w_cat, w_cats, w_psh, w_fv, List.contains_cons, List.contains_nil, List.set_cons_zero, List.set_cons_succ, List.length_cons, List.length_nil, List.find?_cons, List.find?_nil, List.take_succ_cons, List.take_zero, List.drop_succ_cons, List.drop_zero, List.reverse_cons, List.reverse_nil, List.nil_append, List.cons_append, Option.map_some, Option.map_none, Nat.reduceAdd, Nat.reduceBEq, Nat.reduceEqDiff, Nat.reduceLT, Nat.reduceLeDiff, Nat.reduceSub, Int.reduceAdd, Int.reduceSub, Int.reduceMul, Int.reduceNeg, Int.reduceToNat, Int.reduceLT, Int.reduceLE, Int.reduceEq, Bool.false_eq_true, Bool.or_false, Bool.false_or, Bool.true_or, Bool.or_true, if_true, if_false, ite_true, ite_false, true_and, and_true, false_and, and_false, true_or, or_true, false_or, or_false, Int.cast_ofNat_Int, Int.toNat_natCast, Int.natCast_add, List.getElem?_cons_zero, List.getElem?_cons_succ, true_implies, forall_const, not_true_eq_false, not_false_eq_true, ne_eq, beq_iff_eq, imp_self, List.length_set, Nat.zero_add, Nat.add_zero, Int.zero_add, Int.add_zero, w1_iconst, w1_istore, w1_iload, w1_iload_n_3, w1_if_icmp, w1_aload_n_2, w1_arraylength, w1_ldc2_w, w1_lload_n_0, w1_lmul, w1_iaload, w1_i2l, w1_ladd, w1_lstore_n_0, w1_iinc, w1_goto, w1_lreturn, dX9_digestRow_0, dX9_digestRow_1, dX9_digestRow_3, dX9_digestRow_5, dX9_digestRow_6, dX9_digestRow_9, dX9_digestRow_11, dX9_digestRow_12, dX9_digestRow_13, dX9_digestRow_16, dX9_digestRow_19, dX9_digestRow_20, dX9_digestRow_21, dX9_digestRow_22, dX9_digestRow_24, dX9_digestRow_25, dX9_digestRow_26, dX9_digestRow_27, dX9_digestRow_28, dX9_digestRow_31, dX9_digestRow_34, dX9_digestRow_35, w_klk9_318])
  exact e
def useH (S : wW) (h : Int) : Nat → Int
  | 0 => h
  | u + 1 => 31 * (31 * (31 * useH S h u + S 1 u) + S 2 u) + S 3 u
def houH (S : wW) (h : Int) : Int := useH S (31 * hs h (S 0) 7 + S 4 0) (S 4 0).toNat

def p_X1_digestOnto (S : wW) : List wV → wW → Prop := fun av w => match av with
  | [.inr (.inr (some this)), .inr (.inl h)] => this = 4 ∧ hR S ∧ hX S w
  | _ => False
theorem h_X1_digestOnto (S : wW) : ∀ av w, (p_X1_digestOnto S) av w → ∃ a r, av = vr a :: r ∧ w_kd a = 100 + 1 := by
  intro av w h
  unfold p_X1_digestOnto at h
  split at h
  · refine ⟨_, _, rfl, ?_⟩
    first | (rw [h.1]; rfl) | (rw [h]; rfl)
  · exact h.elim
def q_X1_digestOnto (S : wW) : List wV → wW → Int → wW → Prop := fun av w r w' => match av with
  | [.inr (.inr (some this)), .inr (.inl h)] => r = houH S h ∧ w' = w
  | _ => False
set_option maxRecDepth 100000 in
set_option maxHeartbeats 4000000 in
theorem c_X1_digestOnto (S : wW) : w_Ct yX1_digestOnto cX1_digestOnto 4 2 1 24 (p_X1_digestOnto S) (q_X1_digestOnto S) := by
  refine w_met (own := RX1) (fl := w_fl1) (gs := w_gs1) (kl := w_kl1) (ki := w_ki1) (cs := [(64, (1, 3, 2, p_X9_digestRow, q_X9_digestRow))]) (by decide +kernel) rfl ?_ w_flok1 w_gsok1 w_klok1 w_kiok1 ?_ ?_
  · intro av w h
    unfold p_X1_digestOnto at h
    split at h
    · simp [w_pos, w_cat]
    · exact h.elim
  · exact List.forall_mem_cons.mpr ⟨⟨_, _, w_callSN (own := RX1) (idx := 64) (host := "HowBigTank") c_X9_digestRow (w_m4 89 (by decide +kernel) (by decide +kernel)) (w_m4 90 (by decide +kernel) (by decide +kernel)) (w_m1 1 (by decide +kernel) (by decide +kernel)) (w_m4 91 (by decide +kernel) (by decide +kernel)) ⟨by decide +kernel, by decide +kernel, by decide +kernel⟩, by decide, by decide⟩, fun _ h => absurd h List.not_mem_nil⟩
  intro av w hp
  unfold p_X1_digestOnto at hp
  split at hp
  case h_2 => exact hp.elim
  rename_i this h
  intro G hG
  simp only [w_ent, w_pos, w_cat, Nat.reduceEqDiff, ↓reduceIte, List.length_cons, List.length_nil, Nat.reduceAdd, Nat.reduceSub, List.cons_append, List.nil_append, List.replicate_succ, List.replicate_zero]
  obtain ⟨rfl, hS, hXw⟩ := hp
  have hu := hS.1
  have hu0 : w 4 6 = S 4 0 := hXw.1
  obtain ⟨nu, hnu⟩ : ∃ n : Nat, S 4 0 = n := ⟨(S 4 0).toNat, by omega⟩
  have hnN : (S 4 0).toNat = nu := by omega
  have hnum : ∀ j, j < 7 → 0 ≤ S 0 j ∧ S 0 j ≤ 200 := by
    intro j hj
    obtain ⟨-, a0, a1, a2, a3, a4, a5, a6, -⟩ := hS
    have : j = 0 ∨ j = 1 ∨ j = 2 ∨ j = 3 ∨ j = 4 ∨ j = 5 ∨ j = 6 := by omega
    rcases this with rfl | rfl | rfl | rfl | rfl | rfl | rfl <;> omega
  have hrow : hs h (w 5) 7 = hs h (S 0) 7 := hs_c 7 (fun i hi => hXw.2.1 i hi)
  have hpc : p_X9_digestRow [vl h, vr 5, vi 7] w := ⟨rfl, by decide, fun i hi => by
    have hi : i < 7 := hi
    rw [hXw.2.1 i hi]
    have := hnum i hi
    exact ⟨by omega, by omega⟩⟩
  have loop : ∀ d u : Nat, u + d = nu → G 23 [some (vr 4), some (vl (useH S (31 * hs h (S 0) 7 + S 4 0) u)), none, some (vi u)] [] w := by
    intro d
    induction d with
    | zero =>
      intro u hu'
      have e : u = nu := by omega
      subst e
      (apply hG [23] 2000; simp only [w_br_i, w_ite, w_all, w_all0, forall_eq, w_b0, w_b1, ↓reduceIte, w_ent, w_pos, List.replicate_succ, List.replicate_zero, wp_s, wk_s, w_lk_c, w_ld0, w_ldS, w_kp0, w_kp, w_s1, w_s2, w_to, w_if, w_call, w_sw, w_cat, w_cats, w_psh, w_fv, List.contains_cons, List.contains_nil, List.set_cons_zero, List.set_cons_succ, List.length_cons, List.length_nil, List.find?_cons, List.find?_nil, List.take_succ_cons, List.take_zero, List.drop_succ_cons, List.drop_zero, List.reverse_cons, List.reverse_nil, List.nil_append, List.cons_append, Option.map_some, Option.map_none, Nat.reduceAdd, Nat.reduceBEq, Nat.reduceEqDiff, Nat.reduceLT, Nat.reduceLeDiff, Nat.reduceSub, Int.reduceAdd, Int.reduceSub, Int.reduceMul, Int.reduceNeg, Int.reduceToNat, Int.reduceLT, Int.reduceLE, Int.reduceEq, Bool.false_eq_true, Bool.or_false, Bool.false_or, Bool.true_or, Bool.or_true, if_true, if_false, ite_true, ite_false, true_and, and_true, false_and, and_false, true_or, or_true, false_or, or_false, Int.cast_ofNat_Int, Int.toNat_natCast, Int.natCast_add, List.getElem?_cons_zero, List.getElem?_cons_succ, true_implies, forall_const, not_true_eq_false, not_false_eq_true, ne_eq, beq_iff_eq, imp_self, List.length_set, Nat.zero_add, Nat.add_zero, Int.zero_add, Int.add_zero, w1_ldc2_w, w1_lload_n_1, w1_aload_n_0, w1_getfield, w1_bipush, w1_invokestatic, w1_lmul, w1_i2l, w1_ladd, w1_lstore_n_1, w1_iconst, w1_istore_n_3, w1_iload_n_3, w1_if_icmp, w1_iaload, w1_iinc, w1_goto, w1_lreturn, dX1_digestOnto_0, dX1_digestOnto_3, dX1_digestOnto_4, dX1_digestOnto_5, dX1_digestOnto_8, dX1_digestOnto_10, dX1_digestOnto_13, dX1_digestOnto_14, dX1_digestOnto_15, dX1_digestOnto_18, dX1_digestOnto_19, dX1_digestOnto_20, dX1_digestOnto_21, dX1_digestOnto_22, dX1_digestOnto_23, dX1_digestOnto_24, dX1_digestOnto_25, dX1_digestOnto_28, dX1_digestOnto_31, dX1_digestOnto_34, dX1_digestOnto_35, dX1_digestOnto_36, dX1_digestOnto_37, dX1_digestOnto_40, dX1_digestOnto_41, dX1_digestOnto_42, dX1_digestOnto_43, dX1_digestOnto_44, dX1_digestOnto_45, dX1_digestOnto_48, dX1_digestOnto_49, dX1_digestOnto_50, dX1_digestOnto_51, dX1_digestOnto_54, dX1_digestOnto_55, dX1_digestOnto_56, dX1_digestOnto_57, dX1_digestOnto_58, dX1_digestOnto_59, dX1_digestOnto_62, dX1_digestOnto_63, dX1_digestOnto_64, dX1_digestOnto_65, dX1_digestOnto_68, dX1_digestOnto_69, dX1_digestOnto_70, dX1_digestOnto_71, dX1_digestOnto_72, dX1_digestOnto_73, dX1_digestOnto_76, dX1_digestOnto_79, dX1_digestOnto_80, w_flk1_15, w_flk1_18, w_flk1_21, w_flk1_51, w_flk1_9, w_klk1_62, w_kd_4, w_rf_4_0, w_rf_4_1, w_rf_4_2, w_rf_4_3, w_rf_4_4, w_rf_4_5, hu0, hnu])
      (repeat' (with_reducible (first | refine And.intro ?_ ?_ | intro _))) <;> (try (first | (with_reducible assumption) | (simp only [inI, inL]; omega) | omega))
      all_goals first
        | (simp only [q_X1_digestOnto]; exact ⟨by unfold houH; rw [hnN, hnu], by first | rfl | trivial⟩)
        | (exfalso; omega)
    | succ d ih =>
      intro u hu'
      obtain ⟨g1, g2, g3⟩ := hXw.2.2.1 u (by omega)
      have hb := hS.2.2.2.2.2.2.2.2 u (by omega)
      have e := ih (u + 1) (by omega)
      simp only [useH, Int.natCast_add, Int.cast_ofNat_Int] at e
      (apply hG [23] 2000; simp only [w_br_i, w_ite, w_all, w_all0, forall_eq, w_b0, w_b1, ↓reduceIte, w_ent, w_pos, List.replicate_succ, List.replicate_zero, wp_s, wk_s, w_lk_c, w_ld0, w_ldS, w_kp0, w_kp, w_s1, w_s2, w_to, w_if, w_call, w_sw, w_cat, w_cats, w_psh, w_fv, List.contains_cons, List.contains_nil, List.set_cons_zero, List.set_cons_succ, List.length_cons, List.length_nil, List.find?_cons, List.find?_nil, List.take_succ_cons, List.take_zero, List.drop_succ_cons, List.drop_zero, List.reverse_cons, List.reverse_nil, List.nil_append, List.cons_append, Option.map_some, Option.map_none, Nat.reduceAdd, Nat.reduceBEq, Nat.reduceEqDiff, Nat.reduceLT, Nat.reduceLeDiff, Nat.reduceSub, Int.reduceAdd, Int.reduceSub, Int.reduceMul, Int.reduceNeg, Int.reduceToNat, Int.reduceLT, Int.reduceLE, Int.reduceEq, Bool.false_eq_true, Bool.or_false, Bool.false_or, Bool.true_or, Bool.or_true, if_true, if_false, ite_true, ite_false, true_and, and_true, false_and, and_false, true_or, or_true, false_or, or_false, Int.cast_ofNat_Int, Int.toNat_natCast, Int.natCast_add, List.getElem?_cons_zero, List.getElem?_cons_succ, true_implies, forall_const, not_true_eq_false, not_false_eq_true, ne_eq, beq_iff_eq, imp_self, List.length_set, Nat.zero_add, Nat.add_zero, Int.zero_add, Int.add_zero, w1_ldc2_w, w1_lload_n_1, w1_aload_n_0, w1_getfield, w1_bipush, w1_invokestatic, w1_lmul, w1_i2l, w1_ladd, w1_lstore_n_1, w1_iconst, w1_istore_n_3, w1_iload_n_3, w1_if_icmp, w1_iaload, w1_iinc, w1_goto, w1_lreturn, dX1_digestOnto_0, dX1_digestOnto_3, dX1_digestOnto_4, dX1_digestOnto_5, dX1_digestOnto_8, dX1_digestOnto_10, dX1_digestOnto_13, dX1_digestOnto_14, dX1_digestOnto_15, dX1_digestOnto_18, dX1_digestOnto_19, dX1_digestOnto_20, dX1_digestOnto_21, dX1_digestOnto_22, dX1_digestOnto_23, dX1_digestOnto_24, dX1_digestOnto_25, dX1_digestOnto_28, dX1_digestOnto_31, dX1_digestOnto_34, dX1_digestOnto_35, dX1_digestOnto_36, dX1_digestOnto_37, dX1_digestOnto_40, dX1_digestOnto_41, dX1_digestOnto_42, dX1_digestOnto_43, dX1_digestOnto_44, dX1_digestOnto_45, dX1_digestOnto_48, dX1_digestOnto_49, dX1_digestOnto_50, dX1_digestOnto_51, dX1_digestOnto_54, dX1_digestOnto_55, dX1_digestOnto_56, dX1_digestOnto_57, dX1_digestOnto_58, dX1_digestOnto_59, dX1_digestOnto_62, dX1_digestOnto_63, dX1_digestOnto_64, dX1_digestOnto_65, dX1_digestOnto_68, dX1_digestOnto_69, dX1_digestOnto_70, dX1_digestOnto_71, dX1_digestOnto_72, dX1_digestOnto_73, dX1_digestOnto_76, dX1_digestOnto_79, dX1_digestOnto_80, w_flk1_15, w_flk1_18, w_flk1_21, w_flk1_51, w_flk1_9, w_klk1_62, w_kd_4, w_rf_4_0, w_rf_4_1, w_rf_4_2, w_rf_4_3, w_rf_4_4, w_rf_4_5, w_kd_6, w_ln_6, w_kd_7, w_ln_7, w_kd_8, w_ln_8, hu0, g1, g2, g3])
      (repeat' (with_reducible (first | refine And.intro ?_ ?_ | intro _))) <;> (try (first | (with_reducible assumption) | (simp only [inI, inL]; omega) | omega))
      all_goals first
        | exact e
        | (exfalso; omega)
  have e := loop nu 0 (by omega)
  simp only [useH, Int.cast_ofNat_Int] at e
  (apply hG [23] 2000; simp only [w_br_i, w_ite, w_all, w_all0, forall_eq, w_b0, w_b1, ↓reduceIte, w_ent, w_pos, List.replicate_succ, List.replicate_zero, wp_s, wk_s, w_lk_c, w_ld0, w_ldS, w_kp0, w_kp, w_s1, w_s2, w_to, w_if, w_call, w_sw, w_cat, w_cats, w_psh, w_fv, List.contains_cons, List.contains_nil, List.set_cons_zero, List.set_cons_succ, List.length_cons, List.length_nil, List.find?_cons, List.find?_nil, List.take_succ_cons, List.take_zero, List.drop_succ_cons, List.drop_zero, List.reverse_cons, List.reverse_nil, List.nil_append, List.cons_append, Option.map_some, Option.map_none, Nat.reduceAdd, Nat.reduceBEq, Nat.reduceEqDiff, Nat.reduceLT, Nat.reduceLeDiff, Nat.reduceSub, Int.reduceAdd, Int.reduceSub, Int.reduceMul, Int.reduceNeg, Int.reduceToNat, Int.reduceLT, Int.reduceLE, Int.reduceEq, Bool.false_eq_true, Bool.or_false, Bool.false_or, Bool.true_or, Bool.or_true, if_true, if_false, ite_true, ite_false, true_and, and_true, false_and, and_false, true_or, or_true, false_or, or_false, Int.cast_ofNat_Int, Int.toNat_natCast, Int.natCast_add, List.getElem?_cons_zero, List.getElem?_cons_succ, true_implies, forall_const, not_true_eq_false, not_false_eq_true, ne_eq, beq_iff_eq, imp_self, List.length_set, Nat.zero_add, Nat.add_zero, Int.zero_add, Int.add_zero, w1_ldc2_w, w1_lload_n_1, w1_aload_n_0, w1_getfield, w1_bipush, w1_invokestatic, w1_lmul, w1_i2l, w1_ladd, w1_lstore_n_1, w1_iconst, w1_istore_n_3, w1_iload_n_3, w1_if_icmp, w1_iaload, w1_iinc, w1_goto, w1_lreturn, dX1_digestOnto_0, dX1_digestOnto_3, dX1_digestOnto_4, dX1_digestOnto_5, dX1_digestOnto_8, dX1_digestOnto_10, dX1_digestOnto_13, dX1_digestOnto_14, dX1_digestOnto_15, dX1_digestOnto_18, dX1_digestOnto_19, dX1_digestOnto_20, dX1_digestOnto_21, dX1_digestOnto_22, dX1_digestOnto_23, dX1_digestOnto_24, dX1_digestOnto_25, dX1_digestOnto_28, dX1_digestOnto_31, dX1_digestOnto_34, dX1_digestOnto_35, dX1_digestOnto_36, dX1_digestOnto_37, dX1_digestOnto_40, dX1_digestOnto_41, dX1_digestOnto_42, dX1_digestOnto_43, dX1_digestOnto_44, dX1_digestOnto_45, dX1_digestOnto_48, dX1_digestOnto_49, dX1_digestOnto_50, dX1_digestOnto_51, dX1_digestOnto_54, dX1_digestOnto_55, dX1_digestOnto_56, dX1_digestOnto_57, dX1_digestOnto_58, dX1_digestOnto_59, dX1_digestOnto_62, dX1_digestOnto_63, dX1_digestOnto_64, dX1_digestOnto_65, dX1_digestOnto_68, dX1_digestOnto_69, dX1_digestOnto_70, dX1_digestOnto_71, dX1_digestOnto_72, dX1_digestOnto_73, dX1_digestOnto_76, dX1_digestOnto_79, dX1_digestOnto_80, w_flk1_15, w_flk1_18, w_flk1_21, w_flk1_51, w_flk1_9, w_klk1_62, w_kd_4, w_rf_4_0, w_rf_4_1, w_rf_4_2, w_rf_4_3, w_rf_4_4, w_rf_4_5, w_kd_5, w_ln_5, hu0, hpc, q_X9_digestRow, hrow])
  (repeat' (with_reducible (first | refine And.intro ?_ ?_ | intro _))) <;> (try (first | (with_reducible assumption) | (simp only [inI, inL]; omega) | omega))
  all_goals first
    | exact e
    | (exfalso; omega)
def yeaH (S : wW) (h : Int) : Nat → Int
  | 0 => h
  | y + 1 => hs (yeaH S h y) (S (20 + y)) 12
def rnV (S T : wW) (r : Nat) (j : Nat) : Int := if j = 6 then (rnQ (runS S T r) (monthsF S)).1 else sm (sV (runS S T r) j) (monthsF S)
def rulH (S T : wW) (h : Int) : Nat → Int
  | 0 => h
  | r + 1 => if T 5 r = 3 ∨ T 4 4 = 0 ∨ S 4 1 = 0 then 31 * (31 * rulH S T h r + T 5 r) + T 6 r else hs (31 * (31 * rulH S T h r + T 5 r) + T 6 r) (rnV S T r) 7
def cntA (S T : wW) (j : Nat) : Int := if j = 0 then S 4 0 else if j = 1 then S 4 1 else if j = 2 then T 4 2 else if j = 3 then o_kept (T 7) 12 else if j = 4 then T 4 3 else if j = 5 then T 4 4 else if j = 6 then T 4 5 else T 4 6
def digA (S T : wW) : Int := hs (hs (hs (rulH S T (yeaH S (if T 4 4 = 0 then 401 else houH S 401) (S 4 1).toNat) (T 4 2).toNat) (T 7) 12) (T 8) (T 4 3).toNat) (cntA S T) 8
theorem rnO_in {E : rE} {K : Nat} (h : okE E K) {k : Nat} (hk : k < K) : (0 ≤ rnO E k ∧ rnO E k ≤ 425) ∧ (0 ≤ rnP E k ∧ rnP E k ≤ 200) ∧ (0 ≤ rnL E k ∧ rnL E k ≤ 9) := by
  have hQ := rnQ_in h k (by omega)
  have hB := rnB_in h hk
  obtain ⟨h1, h2, h3, h4, h5, h6⟩ := h
  have hC := lvC_in (wet := (rnQ E k).2) h1 h2 (h5 k hk)
  have hlk := h4 k hk
  have hP := hB.2.1
  have e1 : rnC E k = lvC E.1 E.2.1 (E.2.2.2.2.2 k) (rnQ E k).2 := rfl
  have e2 : rnP E k = zP E.1 E.2.2.1 (rnR E k) (k % 12 : Nat) (rnB E k) := rfl
  refine ⟨?_, by rw [e2]; omega, ?_⟩
  · unfold rnO lvO
    rw [e1]
    split <;> omega
  · unfold rnL lvK rnO lvO
    rw [e1]
    (repeat' split) <;> omega
theorem sV_in {E : rE} {K : Nat} (h : okE E K) (j : Nat) {k : Nat} (hk : k < K) : 0 ≤ sV E j k ∧ sV E j k ≤ 2448 := by
  have a := rnO_in h hk
  have b := rnM_in h hk
  have c := rnK_in h hk
  have d : 0 ≤ rnD E k ∧ rnD E k ≤ 1 := by unfold rnD; split <;> omega
  unfold sV
  repeat' split
  · omega
  · omega
  · omega
  · omega
  · omega
  · omega
theorem okE_S {S T : wW} {r : Nat} (hS : hR S) (hy : yR S) (h : rT T r) : okE (runS S T r) (monthsF S) := by
  have hA := hS.2.1
  refine ⟨hS, ⟨by show 0 ≤ S 0 0; omega, by show S 0 0 ≤ 25; omega⟩, hS.2.2.1, fun k _ => hS.2.2.2.2.2.1, fun k hk => ?_, fun m lv wet hm l1 l2 hw => okR_S hS h m lv wet hm l1 l2 hw⟩
  unfold monthsF at hk
  exact hy.2 (k / 12) (k % 12) (by omega) (by omega)
theorem rnV_in {S T : wW} {r : Nat} (hS : hR S) (hy : yR S) (h : rT T r) (j : Nat) : inI (rnV S T r j) := by
  have hok := okE_S hS hy h
  have hm : monthsF S ≤ 96 := by unfold monthsF; have := hy.1; omega
  unfold rnV
  split
  · have := rnQ_in hok (monthsF S) (Nat.le_refl _)
    have := hok.2.2.1
    exact ⟨by omega, by omega⟩
  · have := sm_in (fun k hk => sV_in hok j (k := k) hk) (monthsF S) (Nat.le_refl _)
    exact ⟨by omega, by omega⟩
