theorem dC_in {S : wW} (hS : hR S) (m hf bw : Int) {l0 : Int} (hl : 0 ≤ l0) (c0 : Int) : ∀ i, i ≤ (S 4 0).toNat → c0 ≤ dC S m hf (dO S bw) l0 c0 i ∧ dC S m hf (dO S bw) l0 c0 i ≤ c0 + 216 * i
  | 0, _ => by simp [dC]
  | i + 1, hi => by
    have ih := dC_in hS m hf bw hl c0 i (by omega)
    have ho := dO_lt hS bw (i := i) (by omega)
    have hw := dW_in hS ho m
    have hL := dL_in hS m hf bw hl i (by omega)
    have hg := dg_in hS ho m hf hL.1
    have h3 := (hS.2.2.2.2.2.2.2.2 _ ho).2.2
    have hm := mul_bd (a := dW S (dO S bw i) m - dg S m hf (dO S bw i) (dL S m hf (dO S bw) l0 i)) (A := 24) (by omega) (by omega) (show 0 ≤ S 3 (dO S bw i) by omega) h3.2
    simp only [dC]
    omega
theorem zC_in {S : wW} (hS : hR S) {size : Int} {r : Nat → Int} {m lv : Int} (hl : 0 ≤ lv) (hs : size ≤ 200) (h : okr S size r m lv) : 0 ≤ zC S size r m lv ∧ zC S size r m lv ≤ 2448 := by
  have h6 := hS.2.2.2.2.2.2.2.1
  have hP := h.1
  have hm := mul_bd hP.1 (show zP S size r m lv ≤ 200 by omega) h6.1 h6.2
  have := dC_in hS m (zH S size r m lv) (zB r) (z0_in hl h).1 (zP S size r m lv * S 0 6) (S 4 0).toNat (Nat.le_refl _)
  have := hS.1
  unfold zC
  omega
theorem rnM_in {E : rE} {K : Nat} (h : okE E K) {k : Nat} (hk : k < K) : 0 ≤ rnM E k ∧ rnM E k ≤ 2448 := by
  have hB := rnB_in h hk
  exact zC_in h.1 hB.1.1 h.2.2.1.2 hB.2
theorem sm_in {v : Nat → Int} {A : Int} {K : Nat} (h : ∀ k, k < K → 0 ≤ v k ∧ v k ≤ A) : ∀ k, k ≤ K → 0 ≤ sm v k ∧ sm v k ≤ A * k
  | 0, _ => by simp [sm]
  | k + 1, hk => by
    have ih := sm_in h k (by omega)
    have := h k (by omega)
    simp only [sm]
    rw [Int.natCast_add, Int.mul_add]
    omega
theorem sm_mono {v : Nat → Int} {K : Nat} (h : ∀ k, k < K → 0 ≤ v k) {i : Nat} : ∀ k, i ≤ k → k ≤ K → sm v i ≤ sm v k
  | 0, hi, _ => by rw [show i = 0 by omega]; exact Int.le_refl _
  | k + 1, hi, hk => by
    by_cases q : i = k + 1
    · rw [q]; exact Int.le_refl _
    · have ih := sm_mono h (i := i) k (by omega) (by omega)
      have := h k (by omega)
      simp only [sm]
      omega
def p_X5_costBelow (S : wW) : List wV → wW → Prop := fun av w => match av with
  | [.inr (.inr (some this)), .inr (.inr (some a)), .inl area, .inl size, .inl lim] => this = 90 ∧ hR S ∧ hX S w ∧ (yR S ∧ yX S w) ∧ rR w a ∧ plA w a size ∧ (0 ≤ area ∧ area ≤ 25) ∧ (0 ≤ size ∧ size ≤ 200) ∧ (0 < lim ∧ lim ≤ 2147483647)
  | _ => False
theorem h_X5_costBelow (S : wW) : ∀ av w, (p_X5_costBelow S) av w → ∃ a r, av = vr a :: r ∧ w_kd a = 100 + 5 := by
  intro av w h
  unfold p_X5_costBelow at h
  split at h
  · refine ⟨_, _, rfl, ?_⟩
    first | (rw [h.1]; rfl) | (rw [h]; rfl)
  · exact h.elim
def cbF (c lim : Int) : Int := if c < lim then c else lim
def q_X5_costBelow (S : wW) : List wV → wW → Int → wW → Prop := fun av w r w' => match av with
  | [.inr (.inr (some this)), .inr (.inr (some a)), .inl area, .inl size, .inl lim] => r = cbF (sm (rnM (runE S area size (rX w a))) (monthsF S)) lim ∧ ev 88 92 w w' ∧ (∀ i, w' 90 i = w 90 i) ∧ (∀ i, w' 91 i = w 91 i) ∧ (∀ i, w' 92 i = w 92 i)
  | _ => False
set_option maxRecDepth 100000 in
set_option maxHeartbeats 4000000 in
theorem c_X5_costBelow (S : wW) : w_Ct yX5_costBelow cX5_costBelow 9 1 4 97 (p_X5_costBelow S) (q_X5_costBelow S) := by
  refine w_met (own := RX5) (fl := w_fl5) (gs := w_gs5) (kl := w_kl5) (ki := w_ki5) (cs := [(40, (0, 3, 0, (p_X6_startFull S), (q_X6_startFull S))), (55, (0, 4, 0, (p_X6_pass S), (q_X6_pass S)))]) (by decide +kernel) rfl ?_ w_flok5 w_gsok5 w_klok5 w_kiok5 ?_ ?_
  · intro av w h
    unfold p_X5_costBelow at h
    split at h
    · simp [w_pos, w_cat]
    · exact h.elim
  · exact List.forall_mem_cons.mpr ⟨⟨_, _, w_callV (own := RX5) (idx := 40) (ci := 6) (c_X6_startFull S) rfl rfl (h_X6_startFull S) (w_m3 141 (by decide +kernel) (by decide +kernel)) (w_m3 142 (by decide +kernel) (by decide +kernel)) (w_m3 143 (by decide +kernel) (by decide +kernel)) (w_m1 9 (by decide +kernel) (by decide +kernel)) (w_m3 144 (by decide +kernel) (by decide +kernel)) ⟨by decide +kernel, by decide +kernel, by decide +kernel⟩, by decide, by decide⟩, List.forall_mem_cons.mpr ⟨⟨_, _, w_callV (own := RX5) (idx := 55) (ci := 6) (c_X6_pass S) rfl rfl (h_X6_pass S) (w_m3 145 (by decide +kernel) (by decide +kernel)) (w_m3 146 (by decide +kernel) (by decide +kernel)) (w_m3 147 (by decide +kernel) (by decide +kernel)) (w_m1 9 (by decide +kernel) (by decide +kernel)) (w_m3 148 (by decide +kernel) (by decide +kernel)) ⟨by decide +kernel, by decide +kernel, by decide +kernel⟩, by decide, by decide⟩, fun _ h => absurd h List.not_mem_nil⟩⟩
  intro av w hp
  unfold p_X5_costBelow at hp
  split at hp
  case h_2 => exact hp.elim
  rename_i this a area size lim
  intro G hG
  simp only [w_ent, w_pos, w_cat, Nat.reduceEqDiff, ↓reduceIte, List.length_cons, List.length_nil, Nat.reduceAdd, Nat.reduceSub, List.cons_append, List.nil_append, List.replicate_succ, List.replicate_zero]
  obtain ⟨rfl, hS, hXw, ⟨hy, hyX⟩, hr, hp, h1, h2, hlim⟩ := hp
  have hok := okE_run hS hy hr hp h1 h2
  have ha := hr.1
  obtain ⟨ny, hny⟩ : ∃ n : Nat, S 4 1 = n := ⟨(S 4 1).toNat, by have := hy.1; omega⟩
  have hny8 : ny ≤ 8 := by have := hy.1; omega
  have hmon : monthsF S = 12 * ny := by unfold monthsF; rw [hny, Int.toNat_natCast]
  have hM := fun k hk => rnM_in hok (k := k) hk
  have hsm := sm_in hM
  have hlast := hsm (monthsF S) (Nat.le_refl _)
  have inner : ∀ y : Nat, y < ny → (∀ w1, (inR S w a area size (12 * (y + 1)) w1 ∧ (∀ i, w1 90 i = w 90 i) ∧ (∀ i, w1 91 i = w 91 i) ∧ (∀ i, w1 92 i = w 92 i)) → sm (rnM (runE S area size (rX w a))) (12 * (y + 1)) < lim → ∀ x7 x8, G 92 [some (vr 90), some (vr a), some (vi area), some (vi size), some (vi lim), some (vi (sm (rnM (runE S area size (rX w a))) (12 * (y + 1)))), some (vi y), x7, x8] [] w1) →
      ∀ n m : Nat, m + n = 12 → ∀ w1, (inR S w a area size (12 * y + m) w1 ∧ (∀ i, w1 90 i = w 90 i) ∧ (∀ i, w1 91 i = w 91 i) ∧ (∀ i, w1 92 i = w 92 i)) → sm (rnM (runE S area size (rX w a))) (12 * y + m) < lim →
        G 42 [some (vr 90), some (vr a), some (vi area), some (vi size), some (vi lim), some (vi (sm (rnM (runE S area size (rX w a))) (12 * y + m))), some (vi y), some (vr (13 + y)), some (vi m)] [] w1 := by
    intro y hy' hnext n
    induction n with
    | zero =>
      intro m hm w1 hw1 hc
      have e : m = 12 := by omega
      subst e
      have e := hnext w1 hw1 hc
      (apply hG [42, 92, 15] 2000; simp only [w_br_i, w_ite, w_all, w_all0, forall_eq, w_b0, w_b1, ↓reduceIte, w_ent, w_pos, List.replicate_succ, List.replicate_zero, wp_s, wk_s, w_lk_c, w_ld0, w_ldS, w_kp0, w_kp, w_s1, w_s2, w_to, w_if, w_call, w_sw, w_cat, w_cats, w_psh, w_fv, List.contains_cons, List.contains_nil, List.set_cons_zero, List.set_cons_succ, List.length_cons, List.length_nil, List.find?_cons, List.find?_nil, List.take_succ_cons, List.take_zero, List.drop_succ_cons, List.drop_zero, List.reverse_cons, List.reverse_nil, List.nil_append, List.cons_append, Option.map_some, Option.map_none, Nat.reduceAdd, Nat.reduceBEq, Nat.reduceEqDiff, Nat.reduceLT, Nat.reduceLeDiff, Nat.reduceSub, Int.reduceAdd, Int.reduceSub, Int.reduceMul, Int.reduceNeg, Int.reduceToNat, Int.reduceLT, Int.reduceLE, Int.reduceEq, Bool.false_eq_true, Bool.or_false, Bool.false_or, Bool.true_or, Bool.or_true, if_true, if_false, ite_true, ite_false, true_and, and_true, false_and, and_false, true_or, or_true, false_or, or_false, Int.cast_ofNat_Int, Int.toNat_natCast, Int.natCast_add, List.getElem?_cons_zero, List.getElem?_cons_succ, true_implies, forall_const, not_true_eq_false, not_false_eq_true, ne_eq, beq_iff_eq, imp_self, List.length_set, Nat.zero_add, Nat.add_zero, Int.zero_add, Int.add_zero, w1_iconst, w1_istore, w1_aload_n_0, w1_getfield, w1_iload_n_2, w1_iload_n_3, w1_invokevirtual, w1_iload, w1_if_icmp, w1_aaload, w1_astore, w1_bipush, w1_aload_n_1, w1_aload, w1_iaload, w1_iadd, w1_ireturn, w1_iinc, w1_goto, dX5_costBelow_0, dX5_costBelow_1, dX5_costBelow_3, dX5_costBelow_4, dX5_costBelow_7, dX5_costBelow_8, dX5_costBelow_9, dX5_costBelow_12, dX5_costBelow_13, dX5_costBelow_15, dX5_costBelow_17, dX5_costBelow_18, dX5_costBelow_21, dX5_costBelow_24, dX5_costBelow_27, dX5_costBelow_28, dX5_costBelow_31, dX5_costBelow_34, dX5_costBelow_36, dX5_costBelow_37, dX5_costBelow_39, dX5_costBelow_40, dX5_costBelow_42, dX5_costBelow_44, dX5_costBelow_46, dX5_costBelow_49, dX5_costBelow_50, dX5_costBelow_53, dX5_costBelow_54, dX5_costBelow_56, dX5_costBelow_58, dX5_costBelow_60, dX5_costBelow_61, dX5_costBelow_64, dX5_costBelow_66, dX5_costBelow_67, dX5_costBelow_70, dX5_costBelow_73, dX5_costBelow_74, dX5_costBelow_76, dX5_costBelow_78, dX5_costBelow_80, dX5_costBelow_83, dX5_costBelow_85, dX5_costBelow_86, dX5_costBelow_89, dX5_costBelow_92, dX5_costBelow_95, dX5_costBelow_98, dX5_costBelow_100, w_flk5_22, w_flk5_26, w_flk5_46, w_flk5_51, w_flk5_75, w_kd_90, w_rf_90_0, w_rf_90_1, w_rf_90_2, w_rf_90_3, w_rf_90_4])
      (repeat' (with_reducible (first | refine And.intro ?_ ?_ | intro _))) <;> (try (first | assumption | contradiction | exact Or.inl trivial | exact Or.inl rfl | exact Or.inr rfl | (simp only [inI, inL]; omega) | omega))
      all_goals exact e _ _
    | succ n ih =>
      intro m hm w1 hw1 hc
      have hm12 : m < 12 := by omega
      have hk : 12 * y + m < monthsF S := by omega
      have hkm : (12 * y + m) % 12 = m := by omega
      have hkd : (12 * y + m) / 12 = y := by omega
      have ky := (w_kdy (y := y) (by omega)).1
      have hrain : w1 (13 + y) m = rainF S (12 * y + m) := by
        rw [hw1.1.1 _ _ (Or.inl (by omega)), hyX.2 y m (by omega) hm12, rainF, hkd, hkm]
      have hpre := inR_pre hS hXw hy hr hp h1 h2 hw1.1 hk hkm (rain := rainF S (12 * y + m)) rfl
      have hMk := hM _ hk
      have hsk := hsm (12 * y + m) (by omega)
      have hsk1 := hsm (12 * y + m + 1) (by omega)
      have hmo := sm_mono (fun k hk => (hM k hk).1) (i := 12 * y + m + 1) (monthsF S) (by omega) (Nat.le_refl _)
      have hsd : sm (rnM (runE S area size (rX w a))) (12 * y + m + 1) = sm (rnM (runE S area size (rX w a))) (12 * y + m) + rnM (runE S area size (rX w a)) (12 * y + m) := rfl
      have e64 : ∀ r w2, q_X6_pass S [vr 88, vr a, vi m, vi (rainF S (12 * y + m))] w1 r w2 → G 64 [some (vr 90), some (vr a), some (vi area), some (vi size), some (vi lim), some (vi (sm (rnM (runE S area size (rX w a))) (12 * y + m))), some (vi y), some (vr (13 + y)), some (vi m)] [] w2 := by
        intro r w2 hq
        obtain ⟨hI2, i90, i91, i92, -, -, -, -, -, -, t14, -⟩ := inR_pass ha hw1.1 hkm rfl hq
        have hinv : inR S w a area size (12 * y + (m + 1)) w2 ∧ (∀ i, w2 90 i = w 90 i) ∧ (∀ i, w2 91 i = w 91 i) ∧ (∀ i, w2 92 i = w 92 i) := ⟨hI2, fun i => by rw [i90, hw1.2.1], fun i => by rw [i91, hw1.2.2.1], fun i => by rw [i92, hw1.2.2.2]⟩
        have e := ih (m + 1) (by omega) w2 hinv
        simp only [Int.natCast_add, Int.cast_ofNat_Int, ← Nat.add_assoc, hsd] at e
        (apply hG [42, 15] 2000; simp only [w_br_i, w_ite, w_all, w_all0, forall_eq, w_b0, w_b1, ↓reduceIte, w_ent, w_pos, List.replicate_succ, List.replicate_zero, wp_s, wk_s, w_lk_c, w_ld0, w_ldS, w_kp0, w_kp, w_s1, w_s2, w_to, w_if, w_call, w_sw, w_cat, w_cats, w_psh, w_fv, List.contains_cons, List.contains_nil, List.set_cons_zero, List.set_cons_succ, List.length_cons, List.length_nil, List.find?_cons, List.find?_nil, List.take_succ_cons, List.take_zero, List.drop_succ_cons, List.drop_zero, List.reverse_cons, List.reverse_nil, List.nil_append, List.cons_append, Option.map_some, Option.map_none, Nat.reduceAdd, Nat.reduceBEq, Nat.reduceEqDiff, Nat.reduceLT, Nat.reduceLeDiff, Nat.reduceSub, Int.reduceAdd, Int.reduceSub, Int.reduceMul, Int.reduceNeg, Int.reduceToNat, Int.reduceLT, Int.reduceLE, Int.reduceEq, Bool.false_eq_true, Bool.or_false, Bool.false_or, Bool.true_or, Bool.or_true, if_true, if_false, ite_true, ite_false, true_and, and_true, false_and, and_false, true_or, or_true, false_or, or_false, Int.cast_ofNat_Int, Int.toNat_natCast, Int.natCast_add, List.getElem?_cons_zero, List.getElem?_cons_succ, true_implies, forall_const, not_true_eq_false, not_false_eq_true, ne_eq, beq_iff_eq, imp_self, List.length_set, Nat.zero_add, Nat.add_zero, Int.zero_add, Int.add_zero, w1_iconst, w1_istore, w1_aload_n_0, w1_getfield, w1_iload_n_2, w1_iload_n_3, w1_invokevirtual, w1_iload, w1_if_icmp, w1_aaload, w1_astore, w1_bipush, w1_aload_n_1, w1_aload, w1_iaload, w1_iadd, w1_ireturn, w1_iinc, w1_goto, dX5_costBelow_0, dX5_costBelow_1, dX5_costBelow_3, dX5_costBelow_4, dX5_costBelow_7, dX5_costBelow_8, dX5_costBelow_9, dX5_costBelow_12, dX5_costBelow_13, dX5_costBelow_15, dX5_costBelow_17, dX5_costBelow_18, dX5_costBelow_21, dX5_costBelow_24, dX5_costBelow_27, dX5_costBelow_28, dX5_costBelow_31, dX5_costBelow_34, dX5_costBelow_36, dX5_costBelow_37, dX5_costBelow_39, dX5_costBelow_40, dX5_costBelow_42, dX5_costBelow_44, dX5_costBelow_46, dX5_costBelow_49, dX5_costBelow_50, dX5_costBelow_53, dX5_costBelow_54, dX5_costBelow_56, dX5_costBelow_58, dX5_costBelow_60, dX5_costBelow_61, dX5_costBelow_64, dX5_costBelow_66, dX5_costBelow_67, dX5_costBelow_70, dX5_costBelow_73, dX5_costBelow_74, dX5_costBelow_76, dX5_costBelow_78, dX5_costBelow_80, dX5_costBelow_83, dX5_costBelow_85, dX5_costBelow_86, dX5_costBelow_89, dX5_costBelow_92, dX5_costBelow_95, dX5_costBelow_98, dX5_costBelow_100, w_flk5_22, w_flk5_26, w_flk5_46, w_flk5_51, w_flk5_75, w_kd_88, w_rf_88_0, w_rf_88_1, w_rf_88_2, w_kd_90, w_rf_90_0, w_rf_90_1, w_rf_90_2, w_rf_90_3, w_rf_90_4, t14])
        (repeat' (with_reducible (first | refine And.intro ?_ ?_ | intro _))) <;> (try (first | assumption | contradiction | exact Or.inl trivial | exact Or.inl rfl | exact Or.inr rfl | (simp only [inI, inL]; omega) | omega))
        all_goals first
          | exact e (by omega)
          | (simp only [q_X5_costBelow, cbF]; rw [if_neg (by omega)]; exact ⟨by first | rfl | trivial, hI2.1, hinv.2⟩)
      (apply hG [64, 92, 42, 15] 2000; simp only [w_br_i, w_ite, w_all, w_all0, forall_eq, w_b0, w_b1, ↓reduceIte, w_ent, w_pos, List.replicate_succ, List.replicate_zero, wp_s, wk_s, w_lk_c, w_ld0, w_ldS, w_kp0, w_kp, w_s1, w_s2, w_to, w_if, w_call, w_sw, w_cat, w_cats, w_psh, w_fv, List.contains_cons, List.contains_nil, List.set_cons_zero, List.set_cons_succ, List.length_cons, List.length_nil, List.find?_cons, List.find?_nil, List.take_succ_cons, List.take_zero, List.drop_succ_cons, List.drop_zero, List.reverse_cons, List.reverse_nil, List.nil_append, List.cons_append, Option.map_some, Option.map_none, Nat.reduceAdd, Nat.reduceBEq, Nat.reduceEqDiff, Nat.reduceLT, Nat.reduceLeDiff, Nat.reduceSub, Int.reduceAdd, Int.reduceSub, Int.reduceMul, Int.reduceNeg, Int.reduceToNat, Int.reduceLT, Int.reduceLE, Int.reduceEq, Bool.false_eq_true, Bool.or_false, Bool.false_or, Bool.true_or, Bool.or_true, if_true, if_false, ite_true, ite_false, true_and, and_true, false_and, and_false, true_or, or_true, false_or, or_false, Int.cast_ofNat_Int, Int.toNat_natCast, Int.natCast_add, List.getElem?_cons_zero, List.getElem?_cons_succ, true_implies, forall_const, not_true_eq_false, not_false_eq_true, ne_eq, beq_iff_eq, imp_self, List.length_set, Nat.zero_add, Nat.add_zero, Int.zero_add, Int.add_zero, w1_iconst, w1_istore, w1_aload_n_0, w1_getfield, w1_iload_n_2, w1_iload_n_3, w1_invokevirtual, w1_iload, w1_if_icmp, w1_aaload, w1_astore, w1_bipush, w1_aload_n_1, w1_aload, w1_iaload, w1_iadd, w1_ireturn, w1_iinc, w1_goto, dX5_costBelow_0, dX5_costBelow_1, dX5_costBelow_3, dX5_costBelow_4, dX5_costBelow_7, dX5_costBelow_8, dX5_costBelow_9, dX5_costBelow_12, dX5_costBelow_13, dX5_costBelow_15, dX5_costBelow_17, dX5_costBelow_18, dX5_costBelow_21, dX5_costBelow_24, dX5_costBelow_27, dX5_costBelow_28, dX5_costBelow_31, dX5_costBelow_34, dX5_costBelow_36, dX5_costBelow_37, dX5_costBelow_39, dX5_costBelow_40, dX5_costBelow_42, dX5_costBelow_44, dX5_costBelow_46, dX5_costBelow_49, dX5_costBelow_50, dX5_costBelow_53, dX5_costBelow_54, dX5_costBelow_56, dX5_costBelow_58, dX5_costBelow_60, dX5_costBelow_61, dX5_costBelow_64, dX5_costBelow_66, dX5_costBelow_67, dX5_costBelow_70, dX5_costBelow_73, dX5_costBelow_74, dX5_costBelow_76, dX5_costBelow_78, dX5_costBelow_80, dX5_costBelow_83, dX5_costBelow_85, dX5_costBelow_86, dX5_costBelow_89, dX5_costBelow_92, dX5_costBelow_95, dX5_costBelow_98, dX5_costBelow_100, w_flk5_22, w_flk5_26, w_flk5_46, w_flk5_51, w_flk5_75, w_kd_90, w_rf_90_0, w_rf_90_1, w_rf_90_2, w_rf_90_3, w_rf_90_4, ky.1, ky.2, hrain, hpre])
      (repeat' (with_reducible (first | refine And.intro ?_ ?_ | intro _))) <;> (try (first | assumption | contradiction | exact Or.inl trivial | exact Or.inl rfl | exact Or.inr rfl | (simp only [inI, inL]; omega) | omega))
      all_goals first
        | exact e64 _ _ (by assumption)
        | (exfalso; omega)
  have outer : ∀ n y : Nat, y + n = ny → ∀ w1, (inR S w a area size (12 * y) w1 ∧ (∀ i, w1 90 i = w 90 i) ∧ (∀ i, w1 91 i = w 91 i) ∧ (∀ i, w1 92 i = w 92 i)) → sm (rnM (runE S area size (rX w a))) (12 * y) < lim → ∀ x7 x8 : Option wV, G 15 [some (vr 90), some (vr a), some (vi area), some (vi size), some (vi lim), some (vi (sm (rnM (runE S area size (rX w a))) (12 * y))), some (vi y), x7, x8] [] w1 := by
    intro n
    induction n with
    | zero =>
      intro y hy' w1 hw1 hc x7 x8
      have e : y = ny := by omega
      subst e
      have hcnt : w1 11 1 = y := by rw [hw1.1.1 11 1 (by decide), hyX.1, hny]
      (apply hG [15, 42] 2000; simp only [w_br_i, w_ite, w_all, w_all0, forall_eq, w_b0, w_b1, ↓reduceIte, w_ent, w_pos, List.replicate_succ, List.replicate_zero, wp_s, wk_s, w_lk_c, w_ld0, w_ldS, w_kp0, w_kp, w_s1, w_s2, w_to, w_if, w_call, w_sw, w_cat, w_cats, w_psh, w_fv, List.contains_cons, List.contains_nil, List.set_cons_zero, List.set_cons_succ, List.length_cons, List.length_nil, List.find?_cons, List.find?_nil, List.take_succ_cons, List.take_zero, List.drop_succ_cons, List.drop_zero, List.reverse_cons, List.reverse_nil, List.nil_append, List.cons_append, Option.map_some, Option.map_none, Nat.reduceAdd, Nat.reduceBEq, Nat.reduceEqDiff, Nat.reduceLT, Nat.reduceLeDiff, Nat.reduceSub, Int.reduceAdd, Int.reduceSub, Int.reduceMul, Int.reduceNeg, Int.reduceToNat, Int.reduceLT, Int.reduceLE, Int.reduceEq, Bool.false_eq_true, Bool.or_false, Bool.false_or, Bool.true_or, Bool.or_true, if_true, if_false, ite_true, ite_false, true_and, and_true, false_and, and_false, true_or, or_true, false_or, or_false, Int.cast_ofNat_Int, Int.toNat_natCast, Int.natCast_add, List.getElem?_cons_zero, List.getElem?_cons_succ, true_implies, forall_const, not_true_eq_false, not_false_eq_true, ne_eq, beq_iff_eq, imp_self, List.length_set, Nat.zero_add, Nat.add_zero, Int.zero_add, Int.add_zero, w1_iconst, w1_istore, w1_aload_n_0, w1_getfield, w1_iload_n_2, w1_iload_n_3, w1_invokevirtual, w1_iload, w1_if_icmp, w1_aaload, w1_astore, w1_bipush, w1_aload_n_1, w1_aload, w1_iaload, w1_iadd, w1_ireturn, w1_iinc, w1_goto, dX5_costBelow_0, dX5_costBelow_1, dX5_costBelow_3, dX5_costBelow_4, dX5_costBelow_7, dX5_costBelow_8, dX5_costBelow_9, dX5_costBelow_12, dX5_costBelow_13, dX5_costBelow_15, dX5_costBelow_17, dX5_costBelow_18, dX5_costBelow_21, dX5_costBelow_24, dX5_costBelow_27, dX5_costBelow_28, dX5_costBelow_31, dX5_costBelow_34, dX5_costBelow_36, dX5_costBelow_37, dX5_costBelow_39, dX5_costBelow_40, dX5_costBelow_42, dX5_costBelow_44, dX5_costBelow_46, dX5_costBelow_49, dX5_costBelow_50, dX5_costBelow_53, dX5_costBelow_54, dX5_costBelow_56, dX5_costBelow_58, dX5_costBelow_60, dX5_costBelow_61, dX5_costBelow_64, dX5_costBelow_66, dX5_costBelow_67, dX5_costBelow_70, dX5_costBelow_73, dX5_costBelow_74, dX5_costBelow_76, dX5_costBelow_78, dX5_costBelow_80, dX5_costBelow_83, dX5_costBelow_85, dX5_costBelow_86, dX5_costBelow_89, dX5_costBelow_92, dX5_costBelow_95, dX5_costBelow_98, dX5_costBelow_100, w_flk5_22, w_flk5_26, w_flk5_46, w_flk5_51, w_flk5_75, w_kd_11, w_rf_11_0, w_kd_90, w_rf_90_0, w_rf_90_1, w_rf_90_2, w_rf_90_3, w_rf_90_4, hcnt])
      (repeat' (with_reducible (first | refine And.intro ?_ ?_ | intro _))) <;> (try (first | assumption | contradiction | exact Or.inl trivial | exact Or.inl rfl | exact Or.inr rfl | (simp only [inI, inL]; omega) | omega))
      all_goals first
        | (simp only [q_X5_costBelow, cbF, hmon]; rw [if_pos hc]; exact ⟨by first | rfl | trivial, hw1.1.1, hw1.2⟩)
        | (exfalso; omega)
    | succ n ih =>
      intro y hy' w1 hw1 hc x7 x8
      have hcnt : w1 11 1 = ny := by rw [hw1.1.1 11 1 (by decide), hyX.1, hny]
      have e := inner y (by omega) (fun w1 hw1 hc x7 x8 => by
        have e := ih (y + 1) (by omega) w1 hw1 hc x7 x8
        simp only [Int.natCast_add, Int.cast_ofNat_Int] at e
        (apply hG [15, 42] 2000; simp only [w_br_i, w_ite, w_all, w_all0, forall_eq, w_b0, w_b1, ↓reduceIte, w_ent, w_pos, List.replicate_succ, List.replicate_zero, wp_s, wk_s, w_lk_c, w_ld0, w_ldS, w_kp0, w_kp, w_s1, w_s2, w_to, w_if, w_call, w_sw, w_cat, w_cats, w_psh, w_fv, List.contains_cons, List.contains_nil, List.set_cons_zero, List.set_cons_succ, List.length_cons, List.length_nil, List.find?_cons, List.find?_nil, List.take_succ_cons, List.take_zero, List.drop_succ_cons, List.drop_zero, List.reverse_cons, List.reverse_nil, List.nil_append, List.cons_append, Option.map_some, Option.map_none, Nat.reduceAdd, Nat.reduceBEq, Nat.reduceEqDiff, Nat.reduceLT, Nat.reduceLeDiff, Nat.reduceSub, Int.reduceAdd, Int.reduceSub, Int.reduceMul, Int.reduceNeg, Int.reduceToNat, Int.reduceLT, Int.reduceLE, Int.reduceEq, Bool.false_eq_true, Bool.or_false, Bool.false_or, Bool.true_or, Bool.or_true, if_true, if_false, ite_true, ite_false, true_and, and_true, false_and, and_false, true_or, or_true, false_or, or_false, Int.cast_ofNat_Int, Int.toNat_natCast, Int.natCast_add, List.getElem?_cons_zero, List.getElem?_cons_succ, true_implies, forall_const, not_true_eq_false, not_false_eq_true, ne_eq, beq_iff_eq, imp_self, List.length_set, Nat.zero_add, Nat.add_zero, Int.zero_add, Int.add_zero, w1_iconst, w1_istore, w1_aload_n_0, w1_getfield, w1_iload_n_2, w1_iload_n_3, w1_invokevirtual, w1_iload, w1_if_icmp, w1_aaload, w1_astore, w1_bipush, w1_aload_n_1, w1_aload, w1_iaload, w1_iadd, w1_ireturn, w1_iinc, w1_goto, dX5_costBelow_0, dX5_costBelow_1, dX5_costBelow_3, dX5_costBelow_4, dX5_costBelow_7, dX5_costBelow_8, dX5_costBelow_9, dX5_costBelow_12, dX5_costBelow_13, dX5_costBelow_15, dX5_costBelow_17, dX5_costBelow_18, dX5_costBelow_21, dX5_costBelow_24, dX5_costBelow_27, dX5_costBelow_28, dX5_costBelow_31, dX5_costBelow_34, dX5_costBelow_36, dX5_costBelow_37, dX5_costBelow_39, dX5_costBelow_40, dX5_costBelow_42, dX5_costBelow_44, dX5_costBelow_46, dX5_costBelow_49, dX5_costBelow_50, dX5_costBelow_53, dX5_costBelow_54, dX5_costBelow_56, dX5_costBelow_58, dX5_costBelow_60, dX5_costBelow_61, dX5_costBelow_64, dX5_costBelow_66, dX5_costBelow_67, dX5_costBelow_70, dX5_costBelow_73, dX5_costBelow_74, dX5_costBelow_76, dX5_costBelow_78, dX5_costBelow_80, dX5_costBelow_83, dX5_costBelow_85, dX5_costBelow_86, dX5_costBelow_89, dX5_costBelow_92, dX5_costBelow_95, dX5_costBelow_98, dX5_costBelow_100, w_flk5_22, w_flk5_26, w_flk5_46, w_flk5_51, w_flk5_75, w_kd_90, w_rf_90_0, w_rf_90_1, w_rf_90_2, w_rf_90_3, w_rf_90_4])
        exact e) 12 0 rfl w1 hw1 hc
      simp only [Int.cast_ofNat_Int] at e
      (apply hG [42, 98, 15] 2000; simp only [w_br_i, w_ite, w_all, w_all0, forall_eq, w_b0, w_b1, ↓reduceIte, w_ent, w_pos, List.replicate_succ, List.replicate_zero, wp_s, wk_s, w_lk_c, w_ld0, w_ldS, w_kp0, w_kp, w_s1, w_s2, w_to, w_if, w_call, w_sw, w_cat, w_cats, w_psh, w_fv, List.contains_cons, List.contains_nil, List.set_cons_zero, List.set_cons_succ, List.length_cons, List.length_nil, List.find?_cons, List.find?_nil, List.take_succ_cons, List.take_zero, List.drop_succ_cons, List.drop_zero, List.reverse_cons, List.reverse_nil, List.nil_append, List.cons_append, Option.map_some, Option.map_none, Nat.reduceAdd, Nat.reduceBEq, Nat.reduceEqDiff, Nat.reduceLT, Nat.reduceLeDiff, Nat.reduceSub, Int.reduceAdd, Int.reduceSub, Int.reduceMul, Int.reduceNeg, Int.reduceToNat, Int.reduceLT, Int.reduceLE, Int.reduceEq, Bool.false_eq_true, Bool.or_false, Bool.false_or, Bool.true_or, Bool.or_true, if_true, if_false, ite_true, ite_false, true_and, and_true, false_and, and_false, true_or, or_true, false_or, or_false, Int.cast_ofNat_Int, Int.toNat_natCast, Int.natCast_add, List.getElem?_cons_zero, List.getElem?_cons_succ, true_implies, forall_const, not_true_eq_false, not_false_eq_true, ne_eq, beq_iff_eq, imp_self, List.length_set, Nat.zero_add, Nat.add_zero, Int.zero_add, Int.add_zero, w1_iconst, w1_istore, w1_aload_n_0, w1_getfield, w1_iload_n_2, w1_iload_n_3, w1_invokevirtual, w1_iload, w1_if_icmp, w1_aaload, w1_astore, w1_bipush, w1_aload_n_1, w1_aload, w1_iaload, w1_iadd, w1_ireturn, w1_iinc, w1_goto, dX5_costBelow_0, dX5_costBelow_1, dX5_costBelow_3, dX5_costBelow_4, dX5_costBelow_7, dX5_costBelow_8, dX5_costBelow_9, dX5_costBelow_12, dX5_costBelow_13, dX5_costBelow_15, dX5_costBelow_17, dX5_costBelow_18, dX5_costBelow_21, dX5_costBelow_24, dX5_costBelow_27, dX5_costBelow_28, dX5_costBelow_31, dX5_costBelow_34, dX5_costBelow_36, dX5_costBelow_37, dX5_costBelow_39, dX5_costBelow_40, dX5_costBelow_42, dX5_costBelow_44, dX5_costBelow_46, dX5_costBelow_49, dX5_costBelow_50, dX5_costBelow_53, dX5_costBelow_54, dX5_costBelow_56, dX5_costBelow_58, dX5_costBelow_60, dX5_costBelow_61, dX5_costBelow_64, dX5_costBelow_66, dX5_costBelow_67, dX5_costBelow_70, dX5_costBelow_73, dX5_costBelow_74, dX5_costBelow_76, dX5_costBelow_78, dX5_costBelow_80, dX5_costBelow_83, dX5_costBelow_85, dX5_costBelow_86, dX5_costBelow_89, dX5_costBelow_92, dX5_costBelow_95, dX5_costBelow_98, dX5_costBelow_100, w_flk5_22, w_flk5_26, w_flk5_46, w_flk5_51, w_flk5_75, w_kd_11, w_rf_11_0, w_kd_12, w_ln_12, w_kd_90, w_rf_90_0, w_rf_90_1, w_rf_90_2, w_rf_90_3, w_rf_90_4, hcnt])
      (repeat' (with_reducible (first | refine And.intro ?_ ?_ | intro _))) <;> (try (first | assumption | contradiction | exact Or.inl trivial | exact Or.inl rfl | exact Or.inr rfl | (simp only [inI, inL]; omega) | omega))
      all_goals first
        | exact e
        | (exfalso; omega)
  have hpc : p_X6_startFull S [vr 88, vi area, vi size] w := ⟨rfl, hXw⟩
  have e := outer ny 0 (by omega) _ ⟨inR_start, fun i => tw_x _ _ _ ⟨by decide, by decide⟩, fun i => tw_x _ _ _ ⟨by decide, by decide⟩, fun i => tw_x _ _ _ ⟨by decide, by decide⟩⟩ hlim.1 none none
  simp only [Int.cast_ofNat_Int, sm] at e
  (apply hG [15, 42] 2000; simp only [w_br_i, w_ite, w_all, w_all0, forall_eq, w_b0, w_b1, ↓reduceIte, w_ent, w_pos, List.replicate_succ, List.replicate_zero, wp_s, wk_s, w_lk_c, w_ld0, w_ldS, w_kp0, w_kp, w_s1, w_s2, w_to, w_if, w_call, w_sw, w_cat, w_cats, w_psh, w_fv, List.contains_cons, List.contains_nil, List.set_cons_zero, List.set_cons_succ, List.length_cons, List.length_nil, List.find?_cons, List.find?_nil, List.take_succ_cons, List.take_zero, List.drop_succ_cons, List.drop_zero, List.reverse_cons, List.reverse_nil, List.nil_append, List.cons_append, Option.map_some, Option.map_none, Nat.reduceAdd, Nat.reduceBEq, Nat.reduceEqDiff, Nat.reduceLT, Nat.reduceLeDiff, Nat.reduceSub, Int.reduceAdd, Int.reduceSub, Int.reduceMul, Int.reduceNeg, Int.reduceToNat, Int.reduceLT, Int.reduceLE, Int.reduceEq, Bool.false_eq_true, Bool.or_false, Bool.false_or, Bool.true_or, Bool.or_true, if_true, if_false, ite_true, ite_false, true_and, and_true, false_and, and_false, true_or, or_true, false_or, or_false, Int.cast_ofNat_Int, Int.toNat_natCast, Int.natCast_add, List.getElem?_cons_zero, List.getElem?_cons_succ, true_implies, forall_const, not_true_eq_false, not_false_eq_true, ne_eq, beq_iff_eq, imp_self, List.length_set, Nat.zero_add, Nat.add_zero, Int.zero_add, Int.add_zero, w1_iconst, w1_istore, w1_aload_n_0, w1_getfield, w1_iload_n_2, w1_iload_n_3, w1_invokevirtual, w1_iload, w1_if_icmp, w1_aaload, w1_astore, w1_bipush, w1_aload_n_1, w1_aload, w1_iaload, w1_iadd, w1_ireturn, w1_iinc, w1_goto, dX5_costBelow_0, dX5_costBelow_1, dX5_costBelow_3, dX5_costBelow_4, dX5_costBelow_7, dX5_costBelow_8, dX5_costBelow_9, dX5_costBelow_12, dX5_costBelow_13, dX5_costBelow_15, dX5_costBelow_17, dX5_costBelow_18, dX5_costBelow_21, dX5_costBelow_24, dX5_costBelow_27, dX5_costBelow_28, dX5_costBelow_31, dX5_costBelow_34, dX5_costBelow_36, dX5_costBelow_37, dX5_costBelow_39, dX5_costBelow_40, dX5_costBelow_42, dX5_costBelow_44, dX5_costBelow_46, dX5_costBelow_49, dX5_costBelow_50, dX5_costBelow_53, dX5_costBelow_54, dX5_costBelow_56, dX5_costBelow_58, dX5_costBelow_60, dX5_costBelow_61, dX5_costBelow_64, dX5_costBelow_66, dX5_costBelow_67, dX5_costBelow_70, dX5_costBelow_73, dX5_costBelow_74, dX5_costBelow_76, dX5_costBelow_78, dX5_costBelow_80, dX5_costBelow_83, dX5_costBelow_85, dX5_costBelow_86, dX5_costBelow_89, dX5_costBelow_92, dX5_costBelow_95, dX5_costBelow_98, dX5_costBelow_100, w_flk5_22, w_flk5_26, w_flk5_46, w_flk5_51, w_flk5_75, w_kd_90, w_rf_90_0, w_rf_90_1, w_rf_90_2, w_rf_90_3, w_rf_90_4, hpc, q_X6_startFull])
  exact e
