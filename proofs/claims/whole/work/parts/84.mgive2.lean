def p_X10_give (S : wW) : List wV → wW → Prop := fun av w => match av with
  | [.inr (.inr (some this)), .inl m, .inl most, .inl bw, .inl hf] => this = 135 ∧ hR S ∧ mU S w ∧ w 139 6 = S 0 6 ∧ inI m ∧ (0 ≤ most ∧ most ≤ 200) ∧ (bw = 0 ∨ bw = 1) ∧ (hf = 0 ∨ hf = 1) ∧ (0 ≤ w 135 22 ∧ w 135 22 ≤ 1000)
  | _ => False
theorem h_X10_give (S : wW) : ∀ av w, (p_X10_give S) av w → ∃ a r, av = vr a :: r ∧ w_kd a = 100 + 10 := by
  intro av w h
  unfold p_X10_give at h
  split at h
  · refine ⟨_, _, rfl, ?_⟩
    first | (rw [h.1]; rfl) | (rw [h]; rfl)
  · exact h.elim
def gl0 (w : wW) (most : Int) : Int := eMin most (w 135 22)
def q_X10_give (S : wW) : List wV → wW → Int → wW → Prop := fun av w r w' => match av with
  | [.inr (.inr (some this)), .inl m, .inl most, .inl bw, .inl hf] => ∃ f, w' = mw w f (dS S m hf (dO S bw) (gl0 w most) (w 144) (S 4 0).toNat) ∧ f 21 = gl0 w most - dL S m hf (dO S bw) (gl0 w most) (S 4 0).toNat ∧ f 22 = w 135 22 - (gl0 w most - dL S m hf (dO S bw) (gl0 w most) (S 4 0).toNat) ∧ f 23 = dC S m hf (dO S bw) (gl0 w most) (w 135 20 * S 0 6) (S 4 0).toNat ∧ (f 17 = w 135 17 ∧ f 18 = w 135 18 ∧ f 19 = w 135 19 ∧ f 20 = w 135 20)
  | _ => False
set_option maxRecDepth 100000 in
set_option maxHeartbeats 4000000 in
theorem c_X10_give (S : wW) : w_Ct yX10_give cX10_give 11 0 2 47 (p_X10_give S) (q_X10_give S) := by
  refine w_met (own := RX10) (fl := w_fl10) (gs := w_gs10) (kl := w_kl10) (ki := w_ki10) (cs := [(186, (0, 3, 1, (p_X10_nextUse S), (q_X10_nextUse S))), (190, (0, 3, 1, p_X10_want, q_X10_want))]) (by decide +kernel) rfl ?_ w_flok10 w_gsok10 w_klok10 w_kiok10 ?_ ?_
  · intro av w h
    unfold p_X10_give at h
    split at h
    · simp [w_pos, w_cat]
    · exact h.elim
  · exact List.forall_mem_cons.mpr ⟨⟨_, _, w_callV (own := RX10) (idx := 186) (ci := 10) (c_X10_nextUse S) rfl rfl (h_X10_nextUse S) (w_m5 144 (by decide +kernel) (by decide +kernel)) (w_m5 146 (by decide +kernel) (by decide +kernel)) (w_m0 47 (by decide +kernel) (by decide +kernel)) (w_m1 12 (by decide +kernel) (by decide +kernel)) (w_m5 147 (by decide +kernel) (by decide +kernel)) ⟨by decide +kernel, by decide +kernel, by decide +kernel⟩, by decide, by decide⟩, List.forall_mem_cons.mpr ⟨⟨_, _, w_callV (own := RX10) (idx := 190) (ci := 10) c_X10_want rfl rfl h_X10_want (w_m5 136 (by decide +kernel) (by decide +kernel)) (w_m5 138 (by decide +kernel) (by decide +kernel)) (w_m0 45 (by decide +kernel) (by decide +kernel)) (w_m1 12 (by decide +kernel) (by decide +kernel)) (w_m5 139 (by decide +kernel) (by decide +kernel)) ⟨by decide +kernel, by decide +kernel, by decide +kernel⟩, by decide, by decide⟩, fun _ h => absurd h List.not_mem_nil⟩⟩
  intro av w hp
  unfold p_X10_give at hp
  split at hp
  case h_2 => exact hp.elim
  rename_i this m most bw hf
  intro G hG
  simp only [w_ent, w_pos, w_cat, Nat.reduceEqDiff, ↓reduceIte, List.length_cons, List.length_nil, Nat.reduceAdd, Nat.reduceSub, List.cons_append, List.nil_append, List.replicate_succ, List.replicate_zero]
  obtain ⟨rfl, hS, hMU, h6, hm, hmost, hbw, hhf, hlv⟩ := hp
  have hl0 := eMin_in hmost.1 hlv.1
  have hU := hMU.2
  have hu := hS.1
  obtain ⟨n, hn⟩ : ∃ n : Nat, S 4 0 = n := ⟨(S 4 0).toNat, by omega⟩
  have hnN : (S 4 0).toNat = n := by omega
  have h9 : ∀ f g, mw w f g 135 9 = n := fun f g => by rw [mw_y _ _ _ (Or.inl (by decide)), hMU.1, hn]
  have y6 : ∀ f g, mw w f g 139 6 = S 0 6 := fun f g => by rw [mw_x _ _ _ ⟨by decide, by decide⟩]; exact h6
  have xs : ∀ f g i, mw w f g 139 i = w 139 i := fun f g i => mw_x _ _ _ ⟨by decide, by decide⟩
  have hMUm : ∀ f g, mU S (mw w f g) := fun f g => mU_of hMU (mw_y _ _ _ (Or.inl (by decide))) (fun i => mw_x _ _ _ ⟨by decide, by decide⟩)
  have hl0e : gl0 w most = eMin most (w 135 22) := rfl
  generalize gl0 w most = l0 at hl0e
  have hl00 : 0 ≤ l0 ∧ l0 ≤ 200 := by omega
  have loop : ∀ d k : Nat, k + d = n → ∀ (f : Nat → Int) (x8 x9 x10 : Option wV), f 20 = w 135 20 → f 21 = dG S m hf (dO S bw) l0 k → f 22 = w 135 22 → f 23 = dC S m hf (dO S bw) l0 (w 135 20 * S 0 6) k → (f 17 = w 135 17 ∧ f 18 = w 135 18 ∧ f 19 = w 135 19) →
      G 45 [some (vr 135), some (vi m), some (vi most), some (vi bw), some (vi hf), some (vi (dL S m hf (dO S bw) l0 k)), some (vi (mkN S bw k : Nat)), some (vi k), x8, x9, x10] [] (mw w f (dS S m hf (dO S bw) l0 (w 144) k)) := by
    intro d
    induction d with
    | zero =>
      intro k hk f x8 x9 x10 f20 f21 f22 f23 fe
      have e : k = n := by omega
      subst e
      (apply hG [45] 2000; simp only [w_br_i, w_ite, w_all, w_all0, forall_eq, w_b0, w_b1, ↓reduceIte, w_ent, w_pos, List.replicate_succ, List.replicate_zero, wp_s, wk_s, w_lk_c, w_ld0, w_ldS, w_kp0, w_kp, w_s1, w_s2, w_to, w_if, w_call, w_sw, w_cat, w_cats, w_psh, w_fv, List.contains_cons, List.contains_nil, List.set_cons_zero, List.set_cons_succ, List.length_cons, List.length_nil, List.find?_cons, List.find?_nil, List.take_succ_cons, List.take_zero, List.drop_succ_cons, List.drop_zero, List.reverse_cons, List.reverse_nil, List.nil_append, List.cons_append, Option.map_some, Option.map_none, Nat.reduceAdd, Nat.reduceBEq, Nat.reduceEqDiff, Nat.reduceLT, Nat.reduceLeDiff, Nat.reduceSub, Int.reduceAdd, Int.reduceSub, Int.reduceMul, Int.reduceNeg, Int.reduceToNat, Int.reduceLT, Int.reduceLE, Int.reduceEq, Bool.false_eq_true, Bool.or_false, Bool.false_or, Bool.true_or, Bool.or_true, if_true, if_false, ite_true, ite_false, true_and, and_true, false_and, and_false, true_or, or_true, false_or, or_false, Int.cast_ofNat_Int, Int.toNat_natCast, Int.natCast_add, List.getElem?_cons_zero, List.getElem?_cons_succ, true_implies, forall_const, not_true_eq_false, not_false_eq_true, ne_eq, beq_iff_eq, imp_self, List.length_set, Nat.zero_add, Nat.add_zero, Int.zero_add, Int.add_zero, w1_iload_n_2, w1_aload_n_0, w1_getfield, w1_if_icmp, w1_goto, w1_istore, w1_iconst, w1_putfield, w1_putfield2, w1_bipush, w1_iaload, w1_imul, w1_iload, w1_iload_n_3, w1_invokevirtual, w1_ishl, w1_ior, w1_iload_n_1, w1_ifCond, w1_idiv, w1_isub, w1_dup, w1_dup2, w1_iadd, w1_iastore, w1_iinc, w1_return, dX10_give_0, dX10_give_1, dX10_give_2, dX10_give_5, dX10_give_8, dX10_give_9, dX10_give_12, dX10_give_13, dX10_give_16, dX10_give_18, dX10_give_19, dX10_give_20, dX10_give_23, dX10_give_24, dX10_give_25, dX10_give_28, dX10_give_29, dX10_give_32, dX10_give_34, dX10_give_35, dX10_give_36, dX10_give_39, dX10_give_40, dX10_give_42, dX10_give_43, dX10_give_45, dX10_give_47, dX10_give_48, dX10_give_51, dX10_give_54, dX10_give_55, dX10_give_57, dX10_give_58, dX10_give_61, dX10_give_63, dX10_give_65, dX10_give_66, dX10_give_68, dX10_give_69, dX10_give_70, dX10_give_72, dX10_give_73, dX10_give_75, dX10_give_76, dX10_give_79, dX10_give_81, dX10_give_83, dX10_give_86, dX10_give_88, dX10_give_89, dX10_give_90, dX10_give_93, dX10_give_95, dX10_give_97, dX10_give_99, dX10_give_101, dX10_give_104, dX10_give_106, dX10_give_109, dX10_give_111, dX10_give_113, dX10_give_115, dX10_give_117, dX10_give_118, dX10_give_120, dX10_give_121, dX10_give_122, dX10_give_125, dX10_give_127, dX10_give_128, dX10_give_131, dX10_give_132, dX10_give_135, dX10_give_137, dX10_give_139, dX10_give_141, dX10_give_142, dX10_give_143, dX10_give_144, dX10_give_145, dX10_give_148, dX10_give_150, dX10_give_152, dX10_give_153, dX10_give_154, dX10_give_157, dX10_give_159, dX10_give_160, dX10_give_162, dX10_give_163, dX10_give_164, dX10_give_165, dX10_give_166, dX10_give_167, dX10_give_170, dX10_give_173, dX10_give_176, dX10_give_177, dX10_give_178, dX10_give_181, dX10_give_182, dX10_give_185, dX10_give_186, dX10_give_189, w_flk10_138, w_flk10_168, w_flk10_177, w_flk10_180, w_flk10_183, w_flk10_19, w_flk10_34, w_kd_135, w_rf_135_0, w_rf_135_2, w_rf_135_3, w_rf_135_8, w_rf_135_12, w_rf_135_14, w_rf_135_15, w_rf_135_16, w_rf_135_24, w_rf_135_25, w_rf_135_26, w_rf_135_27, w_rf_135_28, w_rf_135_29, w_rf_135_30, w_rf_135_33, w_rf_135_34, w_rf_135_39, w_rf_135_40, w_rf_135_41, w_rf_135_42, h9, mw_f, mw_uf, f21, f22])
      (repeat' (with_reducible (first | refine And.intro ?_ ?_ | intro _))) <;> (try (first | (with_reducible assumption) | (simp only [inI, inL]; omega) | omega))
      all_goals first
        | (exfalso; omega)
        | (show q_X10_give S [vr 135, vi m, vi most, vi bw, vi hf] w 0 _
           simp only [q_X10_give]
           rw [hnN, show gl0 w most = l0 from hl0e.symm]
           refine ⟨_, rfl, ?_, ?_, ?_, ?_⟩
           · rw [fup_ne (by decide), f21, dG_L]
           · rw [fup_eq, dG_L]
           · rw [fup_ne (by decide)]; exact f23
           · rw [fup_ne (by decide), fup_ne (by decide), fup_ne (by decide), fup_ne (by decide)]; exact ⟨fe.1, fe.2.1, fe.2.2, f20⟩)
    | succ d ih =>
      intro k hk f x8 x9 x10 f20 f21 f22 f23 fe
      have hku : k < (S 4 0).toNat := by omega
      have ho := dO_lt hS bw hku
      have hLi := dL_in hS m hf bw hl00.1 k (by omega)
      have hw := dW_in hS ho m
      have hwh := dWh_in hS ho m hf
      obtain ⟨hnx, hmk⟩ := nx_ord hS hbw hku
      generalize hoe : dO S bw k = o at *
      have hou : o < 3 := by omega
      have hor := nx_or (s := mkN S bw k) (u := o) hmk hou
      obtain ⟨g6, g7, g8⟩ := hU o ho
      have e := ih (k + 1) (by omega)
      simp only [dL, dG, dC, dS, mkN, hoe, Int.natCast_add, Int.cast_ofNat_Int] at e
      generalize hLe : dL S m hf (dO S bw) l0 k = L at *
      have t9 : (9 + 3 * (o : Int)).toNat = 9 + 3 * o := by omega
      have e111 : ∀ x10, G 111 [some (vr 135), some (vi m), some (vi most), some (vi bw), some (vi hf), some (vi L), some (vi (mkN S bw k ||| 2 ^ o : Nat)), some (vi k), some (vi o), some (vi (dW S o m)), x10] [vi (dg S m hf o L)] (mw w f (dS S m hf (dO S bw) l0 (w 144) k)) := by
        intro x10
        have e := e (fup (fup f 21 (dG S m hf (dO S bw) l0 k + dg S m hf o L)) 23 (dC S m hf (dO S bw) l0 (w 135 20 * S 0 6) k + (dW S o m - dg S m hf o L) * S 3 o)) (some (vi o)) (some (vi (dW S o m))) (some (vi (dg S m hf o L))) (by simp [fup, f20]) (by simp [fup]) (by simp [fup, f22]) (by simp [fup]) (by simp [fup, fe])
        (apply hG [45] 2000; simp only [w_br_i, w_ite, w_all, w_all0, forall_eq, w_b0, w_b1, ↓reduceIte, w_ent, w_pos, List.replicate_succ, List.replicate_zero, wp_s, wk_s, w_lk_c, w_ld0, w_ldS, w_kp0, w_kp, w_s1, w_s2, w_to, w_if, w_call, w_sw, w_cat, w_cats, w_psh, w_fv, List.contains_cons, List.contains_nil, List.set_cons_zero, List.set_cons_succ, List.length_cons, List.length_nil, List.find?_cons, List.find?_nil, List.take_succ_cons, List.take_zero, List.drop_succ_cons, List.drop_zero, List.reverse_cons, List.reverse_nil, List.nil_append, List.cons_append, Option.map_some, Option.map_none, Nat.reduceAdd, Nat.reduceBEq, Nat.reduceEqDiff, Nat.reduceLT, Nat.reduceLeDiff, Nat.reduceSub, Int.reduceAdd, Int.reduceSub, Int.reduceMul, Int.reduceNeg, Int.reduceToNat, Int.reduceLT, Int.reduceLE, Int.reduceEq, Bool.false_eq_true, Bool.or_false, Bool.false_or, Bool.true_or, Bool.or_true, if_true, if_false, ite_true, ite_false, true_and, and_true, false_and, and_false, true_or, or_true, false_or, or_false, Int.cast_ofNat_Int, Int.toNat_natCast, Int.natCast_add, List.getElem?_cons_zero, List.getElem?_cons_succ, true_implies, forall_const, not_true_eq_false, not_false_eq_true, ne_eq, beq_iff_eq, imp_self, List.length_set, Nat.zero_add, Nat.add_zero, Int.zero_add, Int.add_zero, w1_iload_n_2, w1_aload_n_0, w1_getfield, w1_if_icmp, w1_goto, w1_istore, w1_iconst, w1_putfield, w1_putfield2, w1_bipush, w1_iaload, w1_imul, w1_iload, w1_iload_n_3, w1_invokevirtual, w1_ishl, w1_ior, w1_iload_n_1, w1_ifCond, w1_idiv, w1_isub, w1_dup, w1_dup2, w1_iadd, w1_iastore, w1_iinc, w1_return, dX10_give_0, dX10_give_1, dX10_give_2, dX10_give_5, dX10_give_8, dX10_give_9, dX10_give_12, dX10_give_13, dX10_give_16, dX10_give_18, dX10_give_19, dX10_give_20, dX10_give_23, dX10_give_24, dX10_give_25, dX10_give_28, dX10_give_29, dX10_give_32, dX10_give_34, dX10_give_35, dX10_give_36, dX10_give_39, dX10_give_40, dX10_give_42, dX10_give_43, dX10_give_45, dX10_give_47, dX10_give_48, dX10_give_51, dX10_give_54, dX10_give_55, dX10_give_57, dX10_give_58, dX10_give_61, dX10_give_63, dX10_give_65, dX10_give_66, dX10_give_68, dX10_give_69, dX10_give_70, dX10_give_72, dX10_give_73, dX10_give_75, dX10_give_76, dX10_give_79, dX10_give_81, dX10_give_83, dX10_give_86, dX10_give_88, dX10_give_89, dX10_give_90, dX10_give_93, dX10_give_95, dX10_give_97, dX10_give_99, dX10_give_101, dX10_give_104, dX10_give_106, dX10_give_109, dX10_give_111, dX10_give_113, dX10_give_115, dX10_give_117, dX10_give_118, dX10_give_120, dX10_give_121, dX10_give_122, dX10_give_125, dX10_give_127, dX10_give_128, dX10_give_131, dX10_give_132, dX10_give_135, dX10_give_137, dX10_give_139, dX10_give_141, dX10_give_142, dX10_give_143, dX10_give_144, dX10_give_145, dX10_give_148, dX10_give_150, dX10_give_152, dX10_give_153, dX10_give_154, dX10_give_157, dX10_give_159, dX10_give_160, dX10_give_162, dX10_give_163, dX10_give_164, dX10_give_165, dX10_give_166, dX10_give_167, dX10_give_170, dX10_give_173, dX10_give_176, dX10_give_177, dX10_give_178, dX10_give_181, dX10_give_182, dX10_give_185, dX10_give_186, dX10_give_189, w_flk10_138, w_flk10_168, w_flk10_177, w_flk10_180, w_flk10_183, w_flk10_19, w_flk10_34, w_kd_135, w_rf_135_0, w_rf_135_2, w_rf_135_3, w_rf_135_8, w_rf_135_12, w_rf_135_14, w_rf_135_15, w_rf_135_16, w_rf_135_24, w_rf_135_25, w_rf_135_26, w_rf_135_27, w_rf_135_28, w_rf_135_29, w_rf_135_30, w_rf_135_33, w_rf_135_34, w_rf_135_39, w_rf_135_40, w_rf_135_41, w_rf_135_42, w_kd_139, w_ln_139, w_kd_144, w_ln_144, mw_f, mw_uf, mw_ug, mw_g, xs, fup_i, f21, f23, t9, g8])
        (repeat' (with_reducible (first | refine And.intro ?_ ?_ | intro _))) <;> (try (first | (with_reducible assumption) | (simp only [inI, inL]; omega) | omega))
        all_goals first
          | exact e
          | (exfalso; omega)
      have e95 : ∀ x10, G 95 [some (vr 135), some (vi m), some (vi most), some (vi bw), some (vi hf), some (vi L), some (vi (mkN S bw k ||| 2 ^ o : Nat)), some (vi k), some (vi o), some (vi (dW S o m)), x10] [vi (dWh S o m hf)] (mw w f (dS S m hf (dO S bw) l0 (w 144) k)) := by
        intro x10
        unfold dg at e111
        (apply hG [111, 45] 2000; simp only [w_br_i, w_ite, w_all, w_all0, forall_eq, w_b0, w_b1, ↓reduceIte, w_ent, w_pos, List.replicate_succ, List.replicate_zero, wp_s, wk_s, w_lk_c, w_ld0, w_ldS, w_kp0, w_kp, w_s1, w_s2, w_to, w_if, w_call, w_sw, w_cat, w_cats, w_psh, w_fv, List.contains_cons, List.contains_nil, List.set_cons_zero, List.set_cons_succ, List.length_cons, List.length_nil, List.find?_cons, List.find?_nil, List.take_succ_cons, List.take_zero, List.drop_succ_cons, List.drop_zero, List.reverse_cons, List.reverse_nil, List.nil_append, List.cons_append, Option.map_some, Option.map_none, Nat.reduceAdd, Nat.reduceBEq, Nat.reduceEqDiff, Nat.reduceLT, Nat.reduceLeDiff, Nat.reduceSub, Int.reduceAdd, Int.reduceSub, Int.reduceMul, Int.reduceNeg, Int.reduceToNat, Int.reduceLT, Int.reduceLE, Int.reduceEq, Bool.false_eq_true, Bool.or_false, Bool.false_or, Bool.true_or, Bool.or_true, if_true, if_false, ite_true, ite_false, true_and, and_true, false_and, and_false, true_or, or_true, false_or, or_false, Int.cast_ofNat_Int, Int.toNat_natCast, Int.natCast_add, List.getElem?_cons_zero, List.getElem?_cons_succ, true_implies, forall_const, not_true_eq_false, not_false_eq_true, ne_eq, beq_iff_eq, imp_self, List.length_set, Nat.zero_add, Nat.add_zero, Int.zero_add, Int.add_zero, w1_iload_n_2, w1_aload_n_0, w1_getfield, w1_if_icmp, w1_goto, w1_istore, w1_iconst, w1_putfield, w1_putfield2, w1_bipush, w1_iaload, w1_imul, w1_iload, w1_iload_n_3, w1_invokevirtual, w1_ishl, w1_ior, w1_iload_n_1, w1_ifCond, w1_idiv, w1_isub, w1_dup, w1_dup2, w1_iadd, w1_iastore, w1_iinc, w1_return, dX10_give_0, dX10_give_1, dX10_give_2, dX10_give_5, dX10_give_8, dX10_give_9, dX10_give_12, dX10_give_13, dX10_give_16, dX10_give_18, dX10_give_19, dX10_give_20, dX10_give_23, dX10_give_24, dX10_give_25, dX10_give_28, dX10_give_29, dX10_give_32, dX10_give_34, dX10_give_35, dX10_give_36, dX10_give_39, dX10_give_40, dX10_give_42, dX10_give_43, dX10_give_45, dX10_give_47, dX10_give_48, dX10_give_51, dX10_give_54, dX10_give_55, dX10_give_57, dX10_give_58, dX10_give_61, dX10_give_63, dX10_give_65, dX10_give_66, dX10_give_68, dX10_give_69, dX10_give_70, dX10_give_72, dX10_give_73, dX10_give_75, dX10_give_76, dX10_give_79, dX10_give_81, dX10_give_83, dX10_give_86, dX10_give_88, dX10_give_89, dX10_give_90, dX10_give_93, dX10_give_95, dX10_give_97, dX10_give_99, dX10_give_101, dX10_give_104, dX10_give_106, dX10_give_109, dX10_give_111, dX10_give_113, dX10_give_115, dX10_give_117, dX10_give_118, dX10_give_120, dX10_give_121, dX10_give_122, dX10_give_125, dX10_give_127, dX10_give_128, dX10_give_131, dX10_give_132, dX10_give_135, dX10_give_137, dX10_give_139, dX10_give_141, dX10_give_142, dX10_give_143, dX10_give_144, dX10_give_145, dX10_give_148, dX10_give_150, dX10_give_152, dX10_give_153, dX10_give_154, dX10_give_157, dX10_give_159, dX10_give_160, dX10_give_162, dX10_give_163, dX10_give_164, dX10_give_165, dX10_give_166, dX10_give_167, dX10_give_170, dX10_give_173, dX10_give_176, dX10_give_177, dX10_give_178, dX10_give_181, dX10_give_182, dX10_give_185, dX10_give_186, dX10_give_189, w_flk10_138, w_flk10_168, w_flk10_177, w_flk10_180, w_flk10_183, w_flk10_19, w_flk10_34])
        by_cases q : dWh S o m hf < L
        · rw [if_pos q] at e111
          (repeat' (with_reducible (first | refine And.intro ?_ ?_ | intro _))) <;> (try (first | (with_reducible assumption) | (simp only [inI, inL]; omega) | omega))
          all_goals first
            | exact e111 _
            | (exfalso; omega)
        · rw [if_neg q] at e111
          (repeat' (with_reducible (first | refine And.intro ?_ ?_ | intro _))) <;> (try (first | (with_reducible assumption) | (simp only [inI, inL]; omega) | omega))
          all_goals first
            | exact e111 _
            | (exfalso; omega)
      have hpc1 : p_X10_nextUse S [vr 135, vi (mkN S bw k : Nat), vi bw] (mw w f (dS S m hf (dO S bw) l0 (w 144) k)) := ⟨rfl, hS, hMUm _ _, by omega, by rcases hbw with h | h <;> rw [h] <;> decide⟩
      have hpc2 : p_X10_want [vr 135, vi o, vi m] (mw w f (dS S m hf (dO S bw) l0 (w 144) k)) := ⟨rfl, by omega, hm⟩
      have hwe : mw w f (dS S m hf (dO S bw) l0 (w 144) k) 139 (7 + 3 * o) + (if 5 ≤ m ∧ m ≤ 7 then mw w f (dS S m hf (dO S bw) l0 (w 144) k) 139 (8 + 3 * o) else 0) = dW S o m := by rw [xs, xs, g6, g7, dW]
      have e79 : G 79 [some (vr 135), some (vi m), some (vi most), some (vi bw), some (vi hf), some (vi L), some (vi (mkN S bw k ||| 2 ^ o : Nat)), some (vi k), some (vi o), x9, x10] [vi (dW S o m)] (mw w f (dS S m hf (dO S bw) l0 (w 144) k)) := by
        have ht2 : (dW S o m).tdiv 2 = dW S o m / 2 := Int.tdiv_eq_ediv_of_nonneg (by omega)
        unfold dWh at e95
        (apply hG [95, 45] 2000; simp only [w_br_i, w_ite, w_all, w_all0, forall_eq, w_b0, w_b1, ↓reduceIte, w_ent, w_pos, List.replicate_succ, List.replicate_zero, wp_s, wk_s, w_lk_c, w_ld0, w_ldS, w_kp0, w_kp, w_s1, w_s2, w_to, w_if, w_call, w_sw, w_cat, w_cats, w_psh, w_fv, List.contains_cons, List.contains_nil, List.set_cons_zero, List.set_cons_succ, List.length_cons, List.length_nil, List.find?_cons, List.find?_nil, List.take_succ_cons, List.take_zero, List.drop_succ_cons, List.drop_zero, List.reverse_cons, List.reverse_nil, List.nil_append, List.cons_append, Option.map_some, Option.map_none, Nat.reduceAdd, Nat.reduceBEq, Nat.reduceEqDiff, Nat.reduceLT, Nat.reduceLeDiff, Nat.reduceSub, Int.reduceAdd, Int.reduceSub, Int.reduceMul, Int.reduceNeg, Int.reduceToNat, Int.reduceLT, Int.reduceLE, Int.reduceEq, Bool.false_eq_true, Bool.or_false, Bool.false_or, Bool.true_or, Bool.or_true, if_true, if_false, ite_true, ite_false, true_and, and_true, false_and, and_false, true_or, or_true, false_or, or_false, Int.cast_ofNat_Int, Int.toNat_natCast, Int.natCast_add, List.getElem?_cons_zero, List.getElem?_cons_succ, true_implies, forall_const, not_true_eq_false, not_false_eq_true, ne_eq, beq_iff_eq, imp_self, List.length_set, Nat.zero_add, Nat.add_zero, Int.zero_add, Int.add_zero, w1_iload_n_2, w1_aload_n_0, w1_getfield, w1_if_icmp, w1_goto, w1_istore, w1_iconst, w1_putfield, w1_putfield2, w1_bipush, w1_iaload, w1_imul, w1_iload, w1_iload_n_3, w1_invokevirtual, w1_ishl, w1_ior, w1_iload_n_1, w1_ifCond, w1_idiv, w1_isub, w1_dup, w1_dup2, w1_iadd, w1_iastore, w1_iinc, w1_return, dX10_give_0, dX10_give_1, dX10_give_2, dX10_give_5, dX10_give_8, dX10_give_9, dX10_give_12, dX10_give_13, dX10_give_16, dX10_give_18, dX10_give_19, dX10_give_20, dX10_give_23, dX10_give_24, dX10_give_25, dX10_give_28, dX10_give_29, dX10_give_32, dX10_give_34, dX10_give_35, dX10_give_36, dX10_give_39, dX10_give_40, dX10_give_42, dX10_give_43, dX10_give_45, dX10_give_47, dX10_give_48, dX10_give_51, dX10_give_54, dX10_give_55, dX10_give_57, dX10_give_58, dX10_give_61, dX10_give_63, dX10_give_65, dX10_give_66, dX10_give_68, dX10_give_69, dX10_give_70, dX10_give_72, dX10_give_73, dX10_give_75, dX10_give_76, dX10_give_79, dX10_give_81, dX10_give_83, dX10_give_86, dX10_give_88, dX10_give_89, dX10_give_90, dX10_give_93, dX10_give_95, dX10_give_97, dX10_give_99, dX10_give_101, dX10_give_104, dX10_give_106, dX10_give_109, dX10_give_111, dX10_give_113, dX10_give_115, dX10_give_117, dX10_give_118, dX10_give_120, dX10_give_121, dX10_give_122, dX10_give_125, dX10_give_127, dX10_give_128, dX10_give_131, dX10_give_132, dX10_give_135, dX10_give_137, dX10_give_139, dX10_give_141, dX10_give_142, dX10_give_143, dX10_give_144, dX10_give_145, dX10_give_148, dX10_give_150, dX10_give_152, dX10_give_153, dX10_give_154, dX10_give_157, dX10_give_159, dX10_give_160, dX10_give_162, dX10_give_163, dX10_give_164, dX10_give_165, dX10_give_166, dX10_give_167, dX10_give_170, dX10_give_173, dX10_give_176, dX10_give_177, dX10_give_178, dX10_give_181, dX10_give_182, dX10_give_185, dX10_give_186, dX10_give_189, w_flk10_138, w_flk10_168, w_flk10_177, w_flk10_180, w_flk10_183, w_flk10_19, w_flk10_34, w_kd_135, w_rf_135_0, w_rf_135_2, w_rf_135_3, w_rf_135_8, w_rf_135_12, w_rf_135_14, w_rf_135_15, w_rf_135_16, w_rf_135_24, w_rf_135_25, w_rf_135_26, w_rf_135_27, w_rf_135_28, w_rf_135_29, w_rf_135_30, w_rf_135_33, w_rf_135_34, w_rf_135_39, w_rf_135_40, w_rf_135_41, w_rf_135_42, ht2])
        rcases hhf with q | q
        · rw [if_pos q] at e95
          (repeat' (with_reducible (first | refine And.intro ?_ ?_ | intro _))) <;> (try (first | (with_reducible assumption) | (simp only [inI, inL]; omega) | omega))
          all_goals first
            | exact e95 _
            | (exfalso; omega)
        · rw [if_neg (by omega)] at e95
          (repeat' (with_reducible (first | refine And.intro ?_ ?_ | intro _))) <;> (try (first | (with_reducible assumption) | (simp only [inI, inL]; omega) | omega))
          all_goals first
            | exact e95 _
            | (exfalso; omega)
      have hnx' : nxF (S 3) (mkN S bw k) bw n = (o : Int) := by rw [← hnN]; exact hnx
      (apply hG [79, 45] 2000; simp only [w_br_i, w_ite, w_all, w_all0, forall_eq, w_b0, w_b1, ↓reduceIte, w_ent, w_pos, List.replicate_succ, List.replicate_zero, wp_s, wk_s, w_lk_c, w_ld0, w_ldS, w_kp0, w_kp, w_s1, w_s2, w_to, w_if, w_call, w_sw, w_cat, w_cats, w_psh, w_fv, List.contains_cons, List.contains_nil, List.set_cons_zero, List.set_cons_succ, List.length_cons, List.length_nil, List.find?_cons, List.find?_nil, List.take_succ_cons, List.take_zero, List.drop_succ_cons, List.drop_zero, List.reverse_cons, List.reverse_nil, List.nil_append, List.cons_append, Option.map_some, Option.map_none, Nat.reduceAdd, Nat.reduceBEq, Nat.reduceEqDiff, Nat.reduceLT, Nat.reduceLeDiff, Nat.reduceSub, Int.reduceAdd, Int.reduceSub, Int.reduceMul, Int.reduceNeg, Int.reduceToNat, Int.reduceLT, Int.reduceLE, Int.reduceEq, Bool.false_eq_true, Bool.or_false, Bool.false_or, Bool.true_or, Bool.or_true, if_true, if_false, ite_true, ite_false, true_and, and_true, false_and, and_false, true_or, or_true, false_or, or_false, Int.cast_ofNat_Int, Int.toNat_natCast, Int.natCast_add, List.getElem?_cons_zero, List.getElem?_cons_succ, true_implies, forall_const, not_true_eq_false, not_false_eq_true, ne_eq, beq_iff_eq, imp_self, List.length_set, Nat.zero_add, Nat.add_zero, Int.zero_add, Int.add_zero, w1_iload_n_2, w1_aload_n_0, w1_getfield, w1_if_icmp, w1_goto, w1_istore, w1_iconst, w1_putfield, w1_putfield2, w1_bipush, w1_iaload, w1_imul, w1_iload, w1_iload_n_3, w1_invokevirtual, w1_ishl, w1_ior, w1_iload_n_1, w1_ifCond, w1_idiv, w1_isub, w1_dup, w1_dup2, w1_iadd, w1_iastore, w1_iinc, w1_return, dX10_give_0, dX10_give_1, dX10_give_2, dX10_give_5, dX10_give_8, dX10_give_9, dX10_give_12, dX10_give_13, dX10_give_16, dX10_give_18, dX10_give_19, dX10_give_20, dX10_give_23, dX10_give_24, dX10_give_25, dX10_give_28, dX10_give_29, dX10_give_32, dX10_give_34, dX10_give_35, dX10_give_36, dX10_give_39, dX10_give_40, dX10_give_42, dX10_give_43, dX10_give_45, dX10_give_47, dX10_give_48, dX10_give_51, dX10_give_54, dX10_give_55, dX10_give_57, dX10_give_58, dX10_give_61, dX10_give_63, dX10_give_65, dX10_give_66, dX10_give_68, dX10_give_69, dX10_give_70, dX10_give_72, dX10_give_73, dX10_give_75, dX10_give_76, dX10_give_79, dX10_give_81, dX10_give_83, dX10_give_86, dX10_give_88, dX10_give_89, dX10_give_90, dX10_give_93, dX10_give_95, dX10_give_97, dX10_give_99, dX10_give_101, dX10_give_104, dX10_give_106, dX10_give_109, dX10_give_111, dX10_give_113, dX10_give_115, dX10_give_117, dX10_give_118, dX10_give_120, dX10_give_121, dX10_give_122, dX10_give_125, dX10_give_127, dX10_give_128, dX10_give_131, dX10_give_132, dX10_give_135, dX10_give_137, dX10_give_139, dX10_give_141, dX10_give_142, dX10_give_143, dX10_give_144, dX10_give_145, dX10_give_148, dX10_give_150, dX10_give_152, dX10_give_153, dX10_give_154, dX10_give_157, dX10_give_159, dX10_give_160, dX10_give_162, dX10_give_163, dX10_give_164, dX10_give_165, dX10_give_166, dX10_give_167, dX10_give_170, dX10_give_173, dX10_give_176, dX10_give_177, dX10_give_178, dX10_give_181, dX10_give_182, dX10_give_185, dX10_give_186, dX10_give_189, w_flk10_138, w_flk10_168, w_flk10_177, w_flk10_180, w_flk10_183, w_flk10_19, w_flk10_34, w_kd_135, w_rf_135_0, w_rf_135_2, w_rf_135_3, w_rf_135_8, w_rf_135_12, w_rf_135_14, w_rf_135_15, w_rf_135_16, w_rf_135_24, w_rf_135_25, w_rf_135_26, w_rf_135_27, w_rf_135_28, w_rf_135_29, w_rf_135_30, w_rf_135_33, w_rf_135_34, w_rf_135_39, w_rf_135_40, w_rf_135_41, w_rf_135_42, h9, hpc1, q_X10_nextUse, hnN, hnx', hor.1, hpc2, q_X10_want, hwe])
      (repeat' (with_reducible (first | refine And.intro ?_ ?_ | intro _))) <;> (try (first | (with_reducible assumption) | (simp only [inI, inL]; omega) | omega))
      all_goals first
        | exact e79
        | (exfalso; omega)
  have e16 : ∀ x5 x6 x7 x8 x9 x10, G 16 [some (vr 135), some (vi m), some (vi most), some (vi bw), some (vi hf), x5, x6, x7, x8, x9, x10] [vi l0] w := by
    intro x5 x6 x7 x8 x9 x10
    have e := loop n 0 (by omega) (fup (fup (w 135) 21 0) 23 (w 135 20 * S 0 6)) x8 x9 x10 (by simp [fup]) (by simp [fup, dG]) (by simp [fup]) (by simp [fup, dC]) (by simp [fup])
    simp only [dL, dS, mkN, Int.cast_ofNat_Int] at e
    rw [← mw_id w]
    (apply hG [45] 2000; simp only [w_br_i, w_ite, w_all, w_all0, forall_eq, w_b0, w_b1, ↓reduceIte, w_ent, w_pos, List.replicate_succ, List.replicate_zero, wp_s, wk_s, w_lk_c, w_ld0, w_ldS, w_kp0, w_kp, w_s1, w_s2, w_to, w_if, w_call, w_sw, w_cat, w_cats, w_psh, w_fv, List.contains_cons, List.contains_nil, List.set_cons_zero, List.set_cons_succ, List.length_cons, List.length_nil, List.find?_cons, List.find?_nil, List.take_succ_cons, List.take_zero, List.drop_succ_cons, List.drop_zero, List.reverse_cons, List.reverse_nil, List.nil_append, List.cons_append, Option.map_some, Option.map_none, Nat.reduceAdd, Nat.reduceBEq, Nat.reduceEqDiff, Nat.reduceLT, Nat.reduceLeDiff, Nat.reduceSub, Int.reduceAdd, Int.reduceSub, Int.reduceMul, Int.reduceNeg, Int.reduceToNat, Int.reduceLT, Int.reduceLE, Int.reduceEq, Bool.false_eq_true, Bool.or_false, Bool.false_or, Bool.true_or, Bool.or_true, if_true, if_false, ite_true, ite_false, true_and, and_true, false_and, and_false, true_or, or_true, false_or, or_false, Int.cast_ofNat_Int, Int.toNat_natCast, Int.natCast_add, List.getElem?_cons_zero, List.getElem?_cons_succ, true_implies, forall_const, not_true_eq_false, not_false_eq_true, ne_eq, beq_iff_eq, imp_self, List.length_set, Nat.zero_add, Nat.add_zero, Int.zero_add, Int.add_zero, w1_iload_n_2, w1_aload_n_0, w1_getfield, w1_if_icmp, w1_goto, w1_istore, w1_iconst, w1_putfield, w1_putfield2, w1_bipush, w1_iaload, w1_imul, w1_iload, w1_iload_n_3, w1_invokevirtual, w1_ishl, w1_ior, w1_iload_n_1, w1_ifCond, w1_idiv, w1_isub, w1_dup, w1_dup2, w1_iadd, w1_iastore, w1_iinc, w1_return, dX10_give_0, dX10_give_1, dX10_give_2, dX10_give_5, dX10_give_8, dX10_give_9, dX10_give_12, dX10_give_13, dX10_give_16, dX10_give_18, dX10_give_19, dX10_give_20, dX10_give_23, dX10_give_24, dX10_give_25, dX10_give_28, dX10_give_29, dX10_give_32, dX10_give_34, dX10_give_35, dX10_give_36, dX10_give_39, dX10_give_40, dX10_give_42, dX10_give_43, dX10_give_45, dX10_give_47, dX10_give_48, dX10_give_51, dX10_give_54, dX10_give_55, dX10_give_57, dX10_give_58, dX10_give_61, dX10_give_63, dX10_give_65, dX10_give_66, dX10_give_68, dX10_give_69, dX10_give_70, dX10_give_72, dX10_give_73, dX10_give_75, dX10_give_76, dX10_give_79, dX10_give_81, dX10_give_83, dX10_give_86, dX10_give_88, dX10_give_89, dX10_give_90, dX10_give_93, dX10_give_95, dX10_give_97, dX10_give_99, dX10_give_101, dX10_give_104, dX10_give_106, dX10_give_109, dX10_give_111, dX10_give_113, dX10_give_115, dX10_give_117, dX10_give_118, dX10_give_120, dX10_give_121, dX10_give_122, dX10_give_125, dX10_give_127, dX10_give_128, dX10_give_131, dX10_give_132, dX10_give_135, dX10_give_137, dX10_give_139, dX10_give_141, dX10_give_142, dX10_give_143, dX10_give_144, dX10_give_145, dX10_give_148, dX10_give_150, dX10_give_152, dX10_give_153, dX10_give_154, dX10_give_157, dX10_give_159, dX10_give_160, dX10_give_162, dX10_give_163, dX10_give_164, dX10_give_165, dX10_give_166, dX10_give_167, dX10_give_170, dX10_give_173, dX10_give_176, dX10_give_177, dX10_give_178, dX10_give_181, dX10_give_182, dX10_give_185, dX10_give_186, dX10_give_189, w_flk10_138, w_flk10_168, w_flk10_177, w_flk10_180, w_flk10_183, w_flk10_19, w_flk10_34, w_kd_135, w_rf_135_0, w_rf_135_2, w_rf_135_3, w_rf_135_8, w_rf_135_12, w_rf_135_14, w_rf_135_15, w_rf_135_16, w_rf_135_24, w_rf_135_25, w_rf_135_26, w_rf_135_27, w_rf_135_28, w_rf_135_29, w_rf_135_30, w_rf_135_33, w_rf_135_34, w_rf_135_39, w_rf_135_40, w_rf_135_41, w_rf_135_42, w_kd_139, w_ln_139, mw_f, mw_uf, fup_i, y6])
    exact e
  unfold eMin at hl0e
  (apply hG [16, 45] 2000; simp only [w_br_i, w_ite, w_all, w_all0, forall_eq, w_b0, w_b1, ↓reduceIte, w_ent, w_pos, List.replicate_succ, List.replicate_zero, wp_s, wk_s, w_lk_c, w_ld0, w_ldS, w_kp0, w_kp, w_s1, w_s2, w_to, w_if, w_call, w_sw, w_cat, w_cats, w_psh, w_fv, List.contains_cons, List.contains_nil, List.set_cons_zero, List.set_cons_succ, List.length_cons, List.length_nil, List.find?_cons, List.find?_nil, List.take_succ_cons, List.take_zero, List.drop_succ_cons, List.drop_zero, List.reverse_cons, List.reverse_nil, List.nil_append, List.cons_append, Option.map_some, Option.map_none, Nat.reduceAdd, Nat.reduceBEq, Nat.reduceEqDiff, Nat.reduceLT, Nat.reduceLeDiff, Nat.reduceSub, Int.reduceAdd, Int.reduceSub, Int.reduceMul, Int.reduceNeg, Int.reduceToNat, Int.reduceLT, Int.reduceLE, Int.reduceEq, Bool.false_eq_true, Bool.or_false, Bool.false_or, Bool.true_or, Bool.or_true, if_true, if_false, ite_true, ite_false, true_and, and_true, false_and, and_false, true_or, or_true, false_or, or_false, Int.cast_ofNat_Int, Int.toNat_natCast, Int.natCast_add, List.getElem?_cons_zero, List.getElem?_cons_succ, true_implies, forall_const, not_true_eq_false, not_false_eq_true, ne_eq, beq_iff_eq, imp_self, List.length_set, Nat.zero_add, Nat.add_zero, Int.zero_add, Int.add_zero, w1_iload_n_2, w1_aload_n_0, w1_getfield, w1_if_icmp, w1_goto, w1_istore, w1_iconst, w1_putfield, w1_putfield2, w1_bipush, w1_iaload, w1_imul, w1_iload, w1_iload_n_3, w1_invokevirtual, w1_ishl, w1_ior, w1_iload_n_1, w1_ifCond, w1_idiv, w1_isub, w1_dup, w1_dup2, w1_iadd, w1_iastore, w1_iinc, w1_return, dX10_give_0, dX10_give_1, dX10_give_2, dX10_give_5, dX10_give_8, dX10_give_9, dX10_give_12, dX10_give_13, dX10_give_16, dX10_give_18, dX10_give_19, dX10_give_20, dX10_give_23, dX10_give_24, dX10_give_25, dX10_give_28, dX10_give_29, dX10_give_32, dX10_give_34, dX10_give_35, dX10_give_36, dX10_give_39, dX10_give_40, dX10_give_42, dX10_give_43, dX10_give_45, dX10_give_47, dX10_give_48, dX10_give_51, dX10_give_54, dX10_give_55, dX10_give_57, dX10_give_58, dX10_give_61, dX10_give_63, dX10_give_65, dX10_give_66, dX10_give_68, dX10_give_69, dX10_give_70, dX10_give_72, dX10_give_73, dX10_give_75, dX10_give_76, dX10_give_79, dX10_give_81, dX10_give_83, dX10_give_86, dX10_give_88, dX10_give_89, dX10_give_90, dX10_give_93, dX10_give_95, dX10_give_97, dX10_give_99, dX10_give_101, dX10_give_104, dX10_give_106, dX10_give_109, dX10_give_111, dX10_give_113, dX10_give_115, dX10_give_117, dX10_give_118, dX10_give_120, dX10_give_121, dX10_give_122, dX10_give_125, dX10_give_127, dX10_give_128, dX10_give_131, dX10_give_132, dX10_give_135, dX10_give_137, dX10_give_139, dX10_give_141, dX10_give_142, dX10_give_143, dX10_give_144, dX10_give_145, dX10_give_148, dX10_give_150, dX10_give_152, dX10_give_153, dX10_give_154, dX10_give_157, dX10_give_159, dX10_give_160, dX10_give_162, dX10_give_163, dX10_give_164, dX10_give_165, dX10_give_166, dX10_give_167, dX10_give_170, dX10_give_173, dX10_give_176, dX10_give_177, dX10_give_178, dX10_give_181, dX10_give_182, dX10_give_185, dX10_give_186, dX10_give_189, w_flk10_138, w_flk10_168, w_flk10_177, w_flk10_180, w_flk10_183, w_flk10_19, w_flk10_34, w_kd_135, w_rf_135_0, w_rf_135_2, w_rf_135_3, w_rf_135_8, w_rf_135_12, w_rf_135_14, w_rf_135_15, w_rf_135_16, w_rf_135_24, w_rf_135_25, w_rf_135_26, w_rf_135_27, w_rf_135_28, w_rf_135_29, w_rf_135_30, w_rf_135_33, w_rf_135_34, w_rf_135_39, w_rf_135_40, w_rf_135_41, w_rf_135_42])
  by_cases q : most < w 135 22
  · rw [if_pos q] at hl0e
    rw [hl0e] at e16
    (repeat' (with_reducible (first | refine And.intro ?_ ?_ | intro _))) <;> (try (first | (with_reducible assumption) | (simp only [inI, inL]; omega) | omega))
    all_goals first
      | exact e16 _ _ _ _ _ _
      | (exfalso; omega)
  · rw [if_neg q] at hl0e
    rw [hl0e] at e16
    (repeat' (with_reducible (first | refine And.intro ?_ ?_ | intro _))) <;> (try (first | (with_reducible assumption) | (simp only [inI, inL]; omega) | omega))
    all_goals first
      | exact e16 _ _ _ _ _ _
      | (exfalso; omega)
def dyF (g : Nat → Int) : Nat → Int
  | 0 => 0
  | u + 1 => if ¬ dyF g u = 0 ∨ 0 < g u then 1 else 0
theorem dyF_in (g : Nat → Int) : ∀ u, dyF g u = 0 ∨ dyF g u = 1
  | 0 => Or.inl rfl
  | u + 1 => by
    simp only [dyF]
    split
    · exact Or.inr rfl
    · exact Or.inl rfl
def p_X10_isDry (S : wW) : List wV → wW → Prop := fun av w => match av with
  | [.inr (.inr (some this))] => this = 135 ∧ (0 ≤ w 135 9 ∧ w 135 9 ≤ 3) ∧ ∀ u, u < 3 → u < (w 135 9).toNat → inI (w 144 u)
  | _ => False
theorem h_X10_isDry (S : wW) : ∀ av w, (p_X10_isDry S) av w → ∃ a r, av = vr a :: r ∧ w_kd a = 100 + 10 := by
  intro av w h
  unfold p_X10_isDry at h
  split at h
  · refine ⟨_, _, rfl, ?_⟩
    first | (rw [h.1]; rfl) | (rw [h]; rfl)
  · exact h.elim
def q_X10_isDry (S : wW) : List wV → wW → Int → wW → Prop := fun av w r w' => match av with
  | [.inr (.inr (some this))] => r = dyF (w 144) (w 135 9).toNat ∧ w' = w
  | _ => False
set_option maxRecDepth 100000 in
set_option maxHeartbeats 4000000 in
theorem c_X10_isDry (S : wW) : w_Ct yX10_isDry cX10_isDry 3 3 0 0 (p_X10_isDry S) (q_X10_isDry S) := by
  refine w_met (own := RX10) (fl := w_fl10) (gs := w_gs10) (kl := w_kl10) (ki := w_ki10) (cs := []) (by decide +kernel) rfl ?_ w_flok10 w_gsok10 w_klok10 w_kiok10 ?_ ?_
  · intro av w h
    unfold p_X10_isDry at h
    split at h
    · simp [w_pos, w_cat]
    · exact h.elim
  · exact fun _ h => absurd h List.not_mem_nil
  intro av w hp
  unfold p_X10_isDry at hp
  split at hp
  case h_2 => exact hp.elim
  rename_i this
  intro G hG
  simp only [w_ent, w_pos, w_cat, Nat.reduceEqDiff, ↓reduceIte, List.length_cons, List.length_nil, Nat.reduceAdd, Nat.reduceSub, List.cons_append, List.nil_append, List.replicate_succ, List.replicate_zero]
  obtain ⟨rfl, hu, hg⟩ := hp
  obtain ⟨n, hn⟩ : ∃ n : Nat, w 135 9 = n := ⟨(w 135 9).toNat, by omega⟩
  have loop : ∀ d u : Nat, u + d = n → G 4 [some (vr 135), some (vi (dyF (w 144) u)), some (vi u)] [] w := by
    intro d
    induction d with
    | zero =>
      intro u hu'
      have e : u = n := by omega
      subst e
      have h01 := dyF_in (w 144) u
      (apply hG [4] 2000; simp only [w_br_i, w_ite, w_all, w_all0, forall_eq, w_b0, w_b1, ↓reduceIte, w_ent, w_pos, List.replicate_succ, List.replicate_zero, wp_s, wk_s, w_lk_c, w_ld0, w_ldS, w_kp0, w_kp, w_s1, w_s2, w_to, w_if, w_call, w_sw, w_cat, w_cats, w_psh, w_fv, List.contains_cons, List.contains_nil, List.set_cons_zero, List.set_cons_succ, List.length_cons, List.length_nil, List.find?_cons, List.find?_nil, List.take_succ_cons, List.take_zero, List.drop_succ_cons, List.drop_zero, List.reverse_cons, List.reverse_nil, List.nil_append, List.cons_append, Option.map_some, Option.map_none, Nat.reduceAdd, Nat.reduceBEq, Nat.reduceEqDiff, Nat.reduceLT, Nat.reduceLeDiff, Nat.reduceSub, Int.reduceAdd, Int.reduceSub, Int.reduceMul, Int.reduceNeg, Int.reduceToNat, Int.reduceLT, Int.reduceLE, Int.reduceEq, Bool.false_eq_true, Bool.or_false, Bool.false_or, Bool.true_or, Bool.or_true, if_true, if_false, ite_true, ite_false, true_and, and_true, false_and, and_false, true_or, or_true, false_or, or_false, Int.cast_ofNat_Int, Int.toNat_natCast, Int.natCast_add, List.getElem?_cons_zero, List.getElem?_cons_succ, true_implies, forall_const, not_true_eq_false, not_false_eq_true, ne_eq, beq_iff_eq, imp_self, List.length_set, Nat.zero_add, Nat.add_zero, Int.zero_add, Int.add_zero, w1_iconst, w1_istore_n_1, w1_istore_n_2, w1_iload_n_2, w1_aload_n_0, w1_getfield, w1_if_icmp, w1_iload_n_1, w1_ifCond, w1_iaload, w1_goto, w1_iinc, w1_ireturn, dX10_isDry_0, dX10_isDry_1, dX10_isDry_2, dX10_isDry_3, dX10_isDry_4, dX10_isDry_5, dX10_isDry_6, dX10_isDry_9, dX10_isDry_12, dX10_isDry_13, dX10_isDry_16, dX10_isDry_17, dX10_isDry_20, dX10_isDry_21, dX10_isDry_22, dX10_isDry_25, dX10_isDry_26, dX10_isDry_29, dX10_isDry_30, dX10_isDry_31, dX10_isDry_34, dX10_isDry_37, dX10_isDry_38, w_flk10_138, w_flk10_34, w_kd_135, w_rf_135_0, w_rf_135_2, w_rf_135_3, w_rf_135_8, w_rf_135_12, w_rf_135_14, w_rf_135_15, w_rf_135_16, w_rf_135_24, w_rf_135_25, w_rf_135_26, w_rf_135_27, w_rf_135_28, w_rf_135_29, w_rf_135_30, w_rf_135_33, w_rf_135_34, w_rf_135_39, w_rf_135_40, w_rf_135_41, w_rf_135_42, hn])
      (repeat' (with_reducible (first | refine And.intro ?_ ?_ | intro _))) <;> (try (first | (with_reducible assumption) | (simp only [inI, inL]; omega) | omega))
      all_goals first
        | (simp only [q_X10_isDry, hn, Int.toNat_natCast]; exact ⟨trivial, trivial⟩)
        | (exfalso; omega)
    | succ d ih =>
      intro u hu'
      have h01 := dyF_in (w 144) u
      have hgu := hg u (by omega) (by omega)
      have e := ih (u + 1) (by omega)
      simp only [dyF, Int.natCast_add, Int.cast_ofNat_Int] at e
      by_cases q : ¬ dyF (w 144) u = 0 ∨ 0 < w 144 u
      · rw [if_pos q] at e
        (apply hG [4] 2000; simp only [w_br_i, w_ite, w_all, w_all0, forall_eq, w_b0, w_b1, ↓reduceIte, w_ent, w_pos, List.replicate_succ, List.replicate_zero, wp_s, wk_s, w_lk_c, w_ld0, w_ldS, w_kp0, w_kp, w_s1, w_s2, w_to, w_if, w_call, w_sw, w_cat, w_cats, w_psh, w_fv, List.contains_cons, List.contains_nil, List.set_cons_zero, List.set_cons_succ, List.length_cons, List.length_nil, List.find?_cons, List.find?_nil, List.take_succ_cons, List.take_zero, List.drop_succ_cons, List.drop_zero, List.reverse_cons, List.reverse_nil, List.nil_append, List.cons_append, Option.map_some, Option.map_none, Nat.reduceAdd, Nat.reduceBEq, Nat.reduceEqDiff, Nat.reduceLT, Nat.reduceLeDiff, Nat.reduceSub, Int.reduceAdd, Int.reduceSub, Int.reduceMul, Int.reduceNeg, Int.reduceToNat, Int.reduceLT, Int.reduceLE, Int.reduceEq, Bool.false_eq_true, Bool.or_false, Bool.false_or, Bool.true_or, Bool.or_true, if_true, if_false, ite_true, ite_false, true_and, and_true, false_and, and_false, true_or, or_true, false_or, or_false, Int.cast_ofNat_Int, Int.toNat_natCast, Int.natCast_add, List.getElem?_cons_zero, List.getElem?_cons_succ, true_implies, forall_const, not_true_eq_false, not_false_eq_true, ne_eq, beq_iff_eq, imp_self, List.length_set, Nat.zero_add, Nat.add_zero, Int.zero_add, Int.add_zero, w1_iconst, w1_istore_n_1, w1_istore_n_2, w1_iload_n_2, w1_aload_n_0, w1_getfield, w1_if_icmp, w1_iload_n_1, w1_ifCond, w1_iaload, w1_goto, w1_iinc, w1_ireturn, dX10_isDry_0, dX10_isDry_1, dX10_isDry_2, dX10_isDry_3, dX10_isDry_4, dX10_isDry_5, dX10_isDry_6, dX10_isDry_9, dX10_isDry_12, dX10_isDry_13, dX10_isDry_16, dX10_isDry_17, dX10_isDry_20, dX10_isDry_21, dX10_isDry_22, dX10_isDry_25, dX10_isDry_26, dX10_isDry_29, dX10_isDry_30, dX10_isDry_31, dX10_isDry_34, dX10_isDry_37, dX10_isDry_38, w_flk10_138, w_flk10_34, w_kd_135, w_rf_135_0, w_rf_135_2, w_rf_135_3, w_rf_135_8, w_rf_135_12, w_rf_135_14, w_rf_135_15, w_rf_135_16, w_rf_135_24, w_rf_135_25, w_rf_135_26, w_rf_135_27, w_rf_135_28, w_rf_135_29, w_rf_135_30, w_rf_135_33, w_rf_135_34, w_rf_135_39, w_rf_135_40, w_rf_135_41, w_rf_135_42, w_kd_144, w_ln_144, hn])
        (repeat' (with_reducible (first | refine And.intro ?_ ?_ | intro _))) <;> (try (first | (with_reducible assumption) | (simp only [inI, inL]; omega) | omega))
        all_goals first
          | exact e
          | exact hgu.1
          | exact hgu.2
          | (exfalso; omega)
      · rw [if_neg q] at e
        (apply hG [4] 2000; simp only [w_br_i, w_ite, w_all, w_all0, forall_eq, w_b0, w_b1, ↓reduceIte, w_ent, w_pos, List.replicate_succ, List.replicate_zero, wp_s, wk_s, w_lk_c, w_ld0, w_ldS, w_kp0, w_kp, w_s1, w_s2, w_to, w_if, w_call, w_sw, w_cat, w_cats, w_psh, w_fv, List.contains_cons, List.contains_nil, List.set_cons_zero, List.set_cons_succ, List.length_cons, List.length_nil, List.find?_cons, List.find?_nil, List.take_succ_cons, List.take_zero, List.drop_succ_cons, List.drop_zero, List.reverse_cons, List.reverse_nil, List.nil_append, List.cons_append, Option.map_some, Option.map_none, Nat.reduceAdd, Nat.reduceBEq, Nat.reduceEqDiff, Nat.reduceLT, Nat.reduceLeDiff, Nat.reduceSub, Int.reduceAdd, Int.reduceSub, Int.reduceMul, Int.reduceNeg, Int.reduceToNat, Int.reduceLT, Int.reduceLE, Int.reduceEq, Bool.false_eq_true, Bool.or_false, Bool.false_or, Bool.true_or, Bool.or_true, if_true, if_false, ite_true, ite_false, true_and, and_true, false_and, and_false, true_or, or_true, false_or, or_false, Int.cast_ofNat_Int, Int.toNat_natCast, Int.natCast_add, List.getElem?_cons_zero, List.getElem?_cons_succ, true_implies, forall_const, not_true_eq_false, not_false_eq_true, ne_eq, beq_iff_eq, imp_self, List.length_set, Nat.zero_add, Nat.add_zero, Int.zero_add, Int.add_zero, w1_iconst, w1_istore_n_1, w1_istore_n_2, w1_iload_n_2, w1_aload_n_0, w1_getfield, w1_if_icmp, w1_iload_n_1, w1_ifCond, w1_iaload, w1_goto, w1_iinc, w1_ireturn, dX10_isDry_0, dX10_isDry_1, dX10_isDry_2, dX10_isDry_3, dX10_isDry_4, dX10_isDry_5, dX10_isDry_6, dX10_isDry_9, dX10_isDry_12, dX10_isDry_13, dX10_isDry_16, dX10_isDry_17, dX10_isDry_20, dX10_isDry_21, dX10_isDry_22, dX10_isDry_25, dX10_isDry_26, dX10_isDry_29, dX10_isDry_30, dX10_isDry_31, dX10_isDry_34, dX10_isDry_37, dX10_isDry_38, w_flk10_138, w_flk10_34, w_kd_135, w_rf_135_0, w_rf_135_2, w_rf_135_3, w_rf_135_8, w_rf_135_12, w_rf_135_14, w_rf_135_15, w_rf_135_16, w_rf_135_24, w_rf_135_25, w_rf_135_26, w_rf_135_27, w_rf_135_28, w_rf_135_29, w_rf_135_30, w_rf_135_33, w_rf_135_34, w_rf_135_39, w_rf_135_40, w_rf_135_41, w_rf_135_42, w_kd_144, w_ln_144, hn])
        (repeat' (with_reducible (first | refine And.intro ?_ ?_ | intro _))) <;> (try (first | (with_reducible assumption) | (simp only [inI, inL]; omega) | omega))
        all_goals first
          | exact e
          | exact hgu.1
          | exact hgu.2
          | (exfalso; omega)
  have e := loop n 0 (by omega)
  simp only [dyF, Int.cast_ofNat_Int] at e
  (apply hG [4] 2000; simp only [w_br_i, w_ite, w_all, w_all0, forall_eq, w_b0, w_b1, ↓reduceIte, w_ent, w_pos, List.replicate_succ, List.replicate_zero, wp_s, wk_s, w_lk_c, w_ld0, w_ldS, w_kp0, w_kp, w_s1, w_s2, w_to, w_if, w_call, w_sw, w_cat, w_cats, w_psh, w_fv, List.contains_cons, List.contains_nil, List.set_cons_zero, List.set_cons_succ, List.length_cons, List.length_nil, List.find?_cons, List.find?_nil, List.take_succ_cons, List.take_zero, List.drop_succ_cons, List.drop_zero, List.reverse_cons, List.reverse_nil, List.nil_append, List.cons_append, Option.map_some, Option.map_none, Nat.reduceAdd, Nat.reduceBEq, Nat.reduceEqDiff, Nat.reduceLT, Nat.reduceLeDiff, Nat.reduceSub, Int.reduceAdd, Int.reduceSub, Int.reduceMul, Int.reduceNeg, Int.reduceToNat, Int.reduceLT, Int.reduceLE, Int.reduceEq, Bool.false_eq_true, Bool.or_false, Bool.false_or, Bool.true_or, Bool.or_true, if_true, if_false, ite_true, ite_false, true_and, and_true, false_and, and_false, true_or, or_true, false_or, or_false, Int.cast_ofNat_Int, Int.toNat_natCast, Int.natCast_add, List.getElem?_cons_zero, List.getElem?_cons_succ, true_implies, forall_const, not_true_eq_false, not_false_eq_true, ne_eq, beq_iff_eq, imp_self, List.length_set, Nat.zero_add, Nat.add_zero, Int.zero_add, Int.add_zero, w1_iconst, w1_istore_n_1, w1_istore_n_2, w1_iload_n_2, w1_aload_n_0, w1_getfield, w1_if_icmp, w1_iload_n_1, w1_ifCond, w1_iaload, w1_goto, w1_iinc, w1_ireturn, dX10_isDry_0, dX10_isDry_1, dX10_isDry_2, dX10_isDry_3, dX10_isDry_4, dX10_isDry_5, dX10_isDry_6, dX10_isDry_9, dX10_isDry_12, dX10_isDry_13, dX10_isDry_16, dX10_isDry_17, dX10_isDry_20, dX10_isDry_21, dX10_isDry_22, dX10_isDry_25, dX10_isDry_26, dX10_isDry_29, dX10_isDry_30, dX10_isDry_31, dX10_isDry_34, dX10_isDry_37, dX10_isDry_38, w_flk10_138, w_flk10_34])
  exact e
