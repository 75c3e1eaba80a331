/-! the reference's trials: the rule ALL, by a size -/

/-- what a trial rests on: the house with area A -/
def mTQ (S w : wW) (A : Int) : Prop := hR S ∧ (yR S ∧ mY S w) ∧ (0 ≤ A ∧ A ≤ 25) ∧ (∃ Z, mH S A Z w) ∧ (∀ m, m < 12 → 0 ≤ w 143 (84 + m) ∧ w 143 (84 + m) ≤ 99)
theorem mTQ_ev {S w w1 : wW} {A : Int} (h : mTQ S w A) (he : evG w w1) : mTQ S w1 A := by
  obtain ⟨h1, h2, h3, ⟨Z, h4⟩, h5⟩ := h
  exact ⟨h1, ⟨h2.1, mY_of h2.2 (he 135 11 (by omega) (by omega)) (fun i => he 140 i (by omega) (by omega))⟩, h3, ⟨Z, mH_of h4 (he 135 9 (by omega) (by omega)) (fun i => he 139 i (by omega) (by omega))⟩, fun m hm => by rw [he 143 _ (by omega) (by omega)]; exact h5 m hm⟩
theorem okr_pl {S : wW} (hS : hR S) {Z m lv : Int} (hl : 0 ≤ lv ∧ lv ≤ Z) {k : Nat} {a b : Int} : okr S Z (rPl k a b) m lv := by
  have eP : zP S Z (rPl k a b) m lv = 0 := by simp [zP, ePump, rPl]
  refine ⟨by rw [eP]; omega, ?_⟩
  show 0 ≤ eMost 0 0 0 72
  decide
def p_X10_goTrial (S : wW) : List wV → wW → Prop := fun av w => match av with
  | [.inr (.inr (some this)), .inl kind, .inl n, .inl size] => this = 135 ∧ kind = 0 ∧ n = 0 ∧ (0 ≤ size ∧ size ≤ 200) ∧ mTQ S w (w 139 0)
  | _ => False
theorem h_X10_goTrial (S : wW) : ∀ av w, (p_X10_goTrial S) av w → ∃ a r, av = vr a :: r ∧ w_kd a = 100 + 10 := by
  intro av w h
  unfold p_X10_goTrial at h
  split at h
  · refine ⟨_, _, rfl, ?_⟩
    first | (rw [h.1]; rfl) | (rw [h]; rfl)
  · exact h.elim
def trV (S w : wW) (A size : Int) (w' : wW) : Prop := evG w w' ∧ (∀ j, j < 6 → w' 149 j = sm (sV (runE S A size rPl) j) (monthsF S)) ∧ w' 135 31 = rnF (runE S A size rPl) (monthsF S)
def q_X10_goTrial (S : wW) : List wV → wW → Int → wW → Prop := fun av w r w' => match av with
  | [.inr (.inr (some this)), .inl kind, .inl n, .inl size] => trV S w (w 139 0) size w'
  | _ => False
set_option maxRecDepth 100000 in
set_option maxHeartbeats 4000000 in
theorem c_X10_goTrial (S : wW) : w_Ct yX10_goTrial cX10_goTrial 7 0 6 157 (p_X10_goTrial S) (q_X10_goTrial S) := by
  refine w_met (own := RX10) (fl := w_fl10) (gs := w_gs10) (kl := w_kl10) (ki := w_ki10) (cs := [(243, (0, 2, 0, (p_X10_goRun S), (q_X10_goRun S)))]) (by decide +kernel) rfl ?_ w_flok10 w_gsok10 w_klok10 w_kiok10 ?_ ?_
  · intro av w h
    unfold p_X10_goTrial at h
    split at h
    · simp [w_pos, w_cat]
    · exact h.elim
  · exact List.forall_mem_cons.mpr ⟨⟨_, _, w_callV (own := RX10) (idx := 243) (ci := 10) (c_X10_goRun S) rfl rfl (h_X10_goRun S) (w_m5 105 (by decide +kernel) (by decide +kernel)) (w_m5 107 (by decide +kernel) (by decide +kernel)) (w_m0 38 (by decide +kernel) (by decide +kernel)) (w_m1 12 (by decide +kernel) (by decide +kernel)) (w_m5 108 (by decide +kernel) (by decide +kernel)) ⟨by decide +kernel, by decide +kernel, by decide +kernel⟩, by decide, by decide⟩, fun _ h => absurd h List.not_mem_nil⟩
  intro av w hp
  unfold p_X10_goTrial at hp
  split at hp
  case h_2 => exact hp.elim
  rename_i this kind n size
  intro G hG
  simp only [w_ent, w_pos, w_cat, Nat.reduceEqDiff, ↓reduceIte, List.length_cons, List.length_nil, Nat.reduceAdd, Nat.reduceSub, List.cons_append, List.nil_append, List.replicate_succ, List.replicate_zero]
  obtain ⟨rfl, rfl, rfl, hsz, hS, ⟨hy, hY⟩, hA, ⟨Z, hM⟩, hcap⟩ := hp
  -- the world of the trial
  have ht : ∀ w1, w1 = w_up (w_up (w_up w 139 1 size) 141 7 0) 142 7 0 → p_X10_goRun S [vr 135, vi 7] w1 ∧ ∀ v w2, q_X10_goRun S [vr 135, vi 7] w1 v w2 → trV S w (w 139 0) size (w_up (w_up (w_up w2 141 7 (w 141 7)) 142 7 (w 142 7)) 139 1 (w 139 1)) := by
    intro w1 hw1
    have x139 : ∀ i, i ≠ 1 → w1 139 i = w 139 i := fun i hi => by rw [hw1, up_k (by decide), up_k (by decide), up_ne (fun q => hi q.2)]
    have x1 : w1 139 1 = size := by rw [hw1, up_k (by decide), up_k (by decide), up_eq]
    have x141 : w1 141 7 = 0 := by rw [hw1, up_k (by decide), up_eq]
    have x142 : w1 142 7 = 0 := by rw [hw1, up_eq]
    have xk : ∀ k i, k ≠ 139 → k ≠ 141 → k ≠ 142 → w1 k i = w k i := fun k i a b c => by rw [hw1, up_k c, up_k b, up_k a]
    have hM1 : mH S (w 139 0) size w1 := ⟨x139 0 (by decide), x1, fun j h2 h7 => by rw [x139 j (by omega)]; exact hM.2.2.1 j h2 h7, ⟨by rw [xk _ _ (by decide) (by decide) (by decide)]; exact hM.2.2.2.1, fun u hu => by rw [x139 _ (by omega), x139 _ (by omega), x139 _ (by omega)]; exact hM.2.2.2.2 u hu⟩⟩
    have hmr : mrR w1 7 := ⟨by decide, by rw [x141]; decide, by rw [x142]; decide, fun m hm => by rw [xk _ _ (by decide) (by decide) (by decide)]; exact hcap m hm⟩
    refine ⟨⟨rfl, by decide, hS, ⟨hy, mY_of hY (xk _ _ (by decide) (by decide) (by decide)) (fun i => xk _ _ (by decide) (by decide) (by decide))⟩, hmr, w 139 0, size, hM1, hA, hsz, fun h3 => ?_⟩, fun v w2 hq => ?_⟩
    · have h3' : w1 141 7 = 3 := h3
      rw [x141] at h3'
      exact absurd h3' (by decide)
    · simp only [q_X10_goRun, Int.reduceToNat] at hq
      unfold mgV mgE at hq
      rw [hM1.1, hM1.2.1] at hq
      obtain ⟨g1, g2, -, -, g5⟩ := hq
      have hok : okE (runE S (w 139 0) size rPl) (monthsF S) := okE_mg (T := S) (r := 0) hS hy hA hsz (fun m lv wet hm l1 l2 hw => okr_pl hS ⟨l1, l2⟩)
      have hlk : ∀ m, m < 12 → ∀ lv wet, (0 ≤ lv ∧ lv ≤ size) → (wet = 0 ∨ wet = 1) → rLk (rPl m lv wet) (rMS S w1 7 m lv wet) := by
        intro m hm lv wet _ _
        refine ⟨x141.symm, x142.symm, fun q => ?_, fun q => ?_, by show (72 : Int) ≤ 72; decide, by show (72 : Int) ≤ 200; decide⟩
        · have q' : (0 : Int) = 5 := q
          exact absurd q' (by decide)
        · have q' : (0 : Int) = 3 := q
          exact absurd q' (by decide)
      refine ⟨fun k i h1 h2 => ?_, fun j hj => ?_, ?_⟩
      · by_cases c : k = 139
        · rw [c]
          by_cases d : i = 1
          · rw [d, up_eq]
          · rw [up_ne (fun q => d q.2), up_k (by decide), up_k (by decide), g1 139 i (by omega) (by omega), x139 i d]
        · rw [up_k c]
          by_cases c2 : k = 142
          · rw [c2]
            by_cases d : i = 7
            · rw [d, up_eq]
            · rw [up_ne (fun q => d q.2), up_k (by decide), g1 142 i (by omega) (by omega), hw1, up_ne (fun q => d q.2), up_k (by decide), up_k (by decide)]
          · rw [up_k c2]
            by_cases c3 : k = 141
            · rw [c3]
              by_cases d : i = 7
              · rw [d, up_eq]
              · rw [up_ne (fun q => d q.2), g1 141 i (by omega) (by omega), hw1, up_k (by decide), up_ne (fun q => d q.2), up_k (by decide)]
            · rw [up_k c3, g1 k i h1 h2]; exact xk k i c c3 c2
      · rw [up_k (by decide), up_k (by decide), up_k (by decide), g2 j hj]; exact (sV_like hok hlk j).symm
      · rw [up_k (by decide), up_k (by decide), up_k (by decide), g5]; exact (rnF_c _ (fun k hk => (rn_like hok hlk k hk).2.2.1)).symm
  obtain ⟨hpc, hqc⟩ := ht _ rfl
  have u1 : ∀ v, w_up w 139 1 v 141 7 = w 141 7 := fun v => up_k (by decide)
  have u2 : ∀ v, w_up w 139 1 v 142 7 = w 142 7 := fun v => up_k (by decide)
  have e55 : ∀ v w2, q_X10_goRun S [vr 135, vi 7] (w_up (w_up (w_up w 139 1 size) 141 7 0) 142 7 0) v w2 → G 55 [some (vr 135), some (vi 0), some (vi 0), some (vi size), some (vi (w 139 1)), some (vi (w 141 7)), some (vi (w 142 7))] [] w2 := by
    intro v w2 hq
    have f := hqc v w2 hq
    (apply hG [] 2000; simp only [w_br_i, w_ite, w_all, w_all0, forall_eq, w_b0, w_b1, ↓reduceIte, w_ent, w_pos, List.replicate_succ, List.replicate_zero, wp_s, wk_s, w_lk_c, w_ld0, w_ldS, w_kp0, w_kp, w_s1, w_s2, w_to, w_if, w_call, w_sw, w_cat, w_cats, w_psh, w_fv, List.contains_cons, List.contains_nil, List.set_cons_zero, List.set_cons_succ, List.length_cons, List.length_nil, List.find?_cons, List.find?_nil, List.take_succ_cons, List.take_zero, List.drop_succ_cons, List.drop_zero, List.reverse_cons, List.reverse_nil, List.nil_append, List.cons_append, Option.map_some, Option.map_none, Nat.reduceAdd, Nat.reduceBEq, Nat.reduceEqDiff, Nat.reduceLT, Nat.reduceLeDiff, Nat.reduceSub, Int.reduceAdd, Int.reduceSub, Int.reduceMul, Int.reduceNeg, Int.reduceToNat, Int.reduceLT, Int.reduceLE, Int.reduceEq, Bool.false_eq_true, Bool.or_false, Bool.false_or, Bool.true_or, Bool.or_true, if_true, if_false, ite_true, ite_false, true_and, and_true, false_and, and_false, true_or, or_true, false_or, or_false, Int.cast_ofNat_Int, Int.toNat_natCast, Int.natCast_add, List.getElem?_cons_zero, List.getElem?_cons_succ, true_implies, forall_const, not_true_eq_false, not_false_eq_true, ne_eq, beq_iff_eq, imp_self, List.length_set, Nat.zero_add, Nat.add_zero, Int.zero_add, Int.add_zero, w1_aload_n_0, w1_getfield, w1_iconst, w1_iaload, w1_istore, w1_iload_n_3, w1_iastore, w1_bipush, w1_iload_n_1, w1_iload_n_2, w1_invokevirtual, w1_iload, w1_return, dX10_goTrial_0, dX10_goTrial_1, dX10_goTrial_4, dX10_goTrial_5, dX10_goTrial_6, dX10_goTrial_8, dX10_goTrial_9, dX10_goTrial_12, dX10_goTrial_13, dX10_goTrial_14, dX10_goTrial_15, dX10_goTrial_16, dX10_goTrial_19, dX10_goTrial_21, dX10_goTrial_22, dX10_goTrial_24, dX10_goTrial_25, dX10_goTrial_28, dX10_goTrial_30, dX10_goTrial_31, dX10_goTrial_33, dX10_goTrial_34, dX10_goTrial_37, dX10_goTrial_39, dX10_goTrial_40, dX10_goTrial_41, dX10_goTrial_42, dX10_goTrial_45, dX10_goTrial_47, dX10_goTrial_48, dX10_goTrial_49, dX10_goTrial_50, dX10_goTrial_52, dX10_goTrial_55, dX10_goTrial_56, dX10_goTrial_59, dX10_goTrial_61, dX10_goTrial_63, dX10_goTrial_64, dX10_goTrial_65, dX10_goTrial_68, dX10_goTrial_70, dX10_goTrial_72, dX10_goTrial_73, dX10_goTrial_74, dX10_goTrial_77, dX10_goTrial_78, dX10_goTrial_80, dX10_goTrial_81, w_flk10_19, w_flk10_25, w_flk10_28, w_kd_135, w_rf_135_0, w_rf_135_2, w_rf_135_3, w_rf_135_8, w_rf_135_12, w_rf_135_14, w_rf_135_15, w_rf_135_16, w_rf_135_24, w_rf_135_25, w_rf_135_26, w_rf_135_27, w_rf_135_28, w_rf_135_29, w_rf_135_30, w_rf_135_33, w_rf_135_34, w_rf_135_39, w_rf_135_40, w_rf_135_41, w_rf_135_42, w_kd_139, w_ln_139, w_kd_141, w_ln_141, w_kd_142, w_ln_142])
    (repeat' (with_reducible (first | refine And.intro ?_ ?_ | intro _))) <;> (try (first | (with_reducible assumption) | (simp only [inI, inL]; omega) | omega))
    all_goals exact f
  (apply hG [55] 2000; simp only [w_br_i, w_ite, w_all, w_all0, forall_eq, w_b0, w_b1, ↓reduceIte, w_ent, w_pos, List.replicate_succ, List.replicate_zero, wp_s, wk_s, w_lk_c, w_ld0, w_ldS, w_kp0, w_kp, w_s1, w_s2, w_to, w_if, w_call, w_sw, w_cat, w_cats, w_psh, w_fv, List.contains_cons, List.contains_nil, List.set_cons_zero, List.set_cons_succ, List.length_cons, List.length_nil, List.find?_cons, List.find?_nil, List.take_succ_cons, List.take_zero, List.drop_succ_cons, List.drop_zero, List.reverse_cons, List.reverse_nil, List.nil_append, List.cons_append, Option.map_some, Option.map_none, Nat.reduceAdd, Nat.reduceBEq, Nat.reduceEqDiff, Nat.reduceLT, Nat.reduceLeDiff, Nat.reduceSub, Int.reduceAdd, Int.reduceSub, Int.reduceMul, Int.reduceNeg, Int.reduceToNat, Int.reduceLT, Int.reduceLE, Int.reduceEq, Bool.false_eq_true, Bool.or_false, Bool.false_or, Bool.true_or, Bool.or_true, if_true, if_false, ite_true, ite_false, true_and, and_true, false_and, and_false, true_or, or_true, false_or, or_false, Int.cast_ofNat_Int, Int.toNat_natCast, Int.natCast_add, List.getElem?_cons_zero, List.getElem?_cons_succ, true_implies, forall_const, not_true_eq_false, not_false_eq_true, ne_eq, beq_iff_eq, imp_self, List.length_set, Nat.zero_add, Nat.add_zero, Int.zero_add, Int.add_zero, w1_aload_n_0, w1_getfield, w1_iconst, w1_iaload, w1_istore, w1_iload_n_3, w1_iastore, w1_bipush, w1_iload_n_1, w1_iload_n_2, w1_invokevirtual, w1_iload, w1_return, dX10_goTrial_0, dX10_goTrial_1, dX10_goTrial_4, dX10_goTrial_5, dX10_goTrial_6, dX10_goTrial_8, dX10_goTrial_9, dX10_goTrial_12, dX10_goTrial_13, dX10_goTrial_14, dX10_goTrial_15, dX10_goTrial_16, dX10_goTrial_19, dX10_goTrial_21, dX10_goTrial_22, dX10_goTrial_24, dX10_goTrial_25, dX10_goTrial_28, dX10_goTrial_30, dX10_goTrial_31, dX10_goTrial_33, dX10_goTrial_34, dX10_goTrial_37, dX10_goTrial_39, dX10_goTrial_40, dX10_goTrial_41, dX10_goTrial_42, dX10_goTrial_45, dX10_goTrial_47, dX10_goTrial_48, dX10_goTrial_49, dX10_goTrial_50, dX10_goTrial_52, dX10_goTrial_55, dX10_goTrial_56, dX10_goTrial_59, dX10_goTrial_61, dX10_goTrial_63, dX10_goTrial_64, dX10_goTrial_65, dX10_goTrial_68, dX10_goTrial_70, dX10_goTrial_72, dX10_goTrial_73, dX10_goTrial_74, dX10_goTrial_77, dX10_goTrial_78, dX10_goTrial_80, dX10_goTrial_81, w_flk10_19, w_flk10_25, w_flk10_28, w_kd_135, w_rf_135_0, w_rf_135_2, w_rf_135_3, w_rf_135_8, w_rf_135_12, w_rf_135_14, w_rf_135_15, w_rf_135_16, w_rf_135_24, w_rf_135_25, w_rf_135_26, w_rf_135_27, w_rf_135_28, w_rf_135_29, w_rf_135_30, w_rf_135_33, w_rf_135_34, w_rf_135_39, w_rf_135_40, w_rf_135_41, w_rf_135_42, w_kd_139, w_ln_139, w_kd_141, w_ln_141, w_kd_142, w_ln_142, u1, u2, hpc])
  (repeat' (with_reducible (first | refine And.intro ?_ ?_ | intro _))) <;> (try (first | (with_reducible assumption) | (simp only [inI, inL]; omega) | omega))
  all_goals exact e55 _ _ (by assumption)
theorem sV_0 (E : rE) : sV E 0 = rnD E := rfl
def p_X10_leastSize (S : wW) : List wV → wW → Prop := fun av w => match av with
  | [.inr (.inr (some this)), .inl k] => this = 135 ∧ (0 ≤ k ∧ k ≤ 96) ∧ w 139 0 = S 0 0 ∧ mTQ S w (S 0 0)
  | _ => False
theorem h_X10_leastSize (S : wW) : ∀ av w, (p_X10_leastSize S) av w → ∃ a r, av = vr a :: r ∧ w_kd a = 100 + 10 := by
  intro av w h
  unfold p_X10_leastSize at h
  split at h
  · refine ⟨_, _, rfl, ?_⟩
    first | (rw [h.1]; rfl) | (rw [h]; rfl)
  · exact h.elim
def q_X10_leastSize (S : wW) : List wV → wW → Int → wW → Prop := fun av w r w' => match av with
  | [.inr (.inr (some this)), .inl k] => isL (dryN S rPl) k r ∧ evG w w'
  | _ => False
set_option maxRecDepth 100000 in
set_option maxHeartbeats 4000000 in
theorem c_X10_leastSize (S : wW) : w_Ct yX10_leastSize cX10_leastSize 3 1 7 183 (p_X10_leastSize S) (q_X10_leastSize S) := by
  refine w_met (own := RX10) (fl := w_fl10) (gs := w_gs10) (kl := w_kl10) (ki := w_ki10) (cs := [(246, (0, 4, 0, (p_X10_goTrial S), (q_X10_goTrial S)))]) (by decide +kernel) rfl ?_ w_flok10 w_gsok10 w_klok10 w_kiok10 ?_ ?_
  · intro av w h
    unfold p_X10_leastSize at h
    split at h
    · simp [w_pos, w_cat]
    · exact h.elim
  · exact List.forall_mem_cons.mpr ⟨⟨_, _, w_callV (own := RX10) (idx := 246) (ci := 10) (c_X10_goTrial S) rfl rfl (h_X10_goTrial S) (w_m5 172 (by decide +kernel) (by decide +kernel)) (w_m5 174 (by decide +kernel) (by decide +kernel)) (w_m0 52 (by decide +kernel) (by decide +kernel)) (w_m1 12 (by decide +kernel) (by decide +kernel)) (w_m5 175 (by decide +kernel) (by decide +kernel)) ⟨by decide +kernel, by decide +kernel, by decide +kernel⟩, by decide, by decide⟩, fun _ h => absurd h List.not_mem_nil⟩
  intro av w hp
  unfold p_X10_leastSize at hp
  split at hp
  case h_2 => exact hp.elim
  rename_i this k
  intro G hG
  simp only [w_ent, w_pos, w_cat, Nat.reduceEqDiff, ↓reduceIte, List.length_cons, List.length_nil, Nat.reduceAdd, Nat.reduceSub, List.cons_append, List.nil_append, List.replicate_succ, List.replicate_zero]
  obtain ⟨rfl, hk, h0, hQ⟩ := hp
  have hdn : ∀ s : Nat, 0 ≤ dryN S rPl s ∧ dryN S rPl s ≤ 96 := fun s => by
    have := rnD_in (E := runE S (S 0 0) s rPl) (monthsF S)
    have hm : monthsF S ≤ 96 := by unfold monthsF; have := hQ.2.1.1.1; omega
    unfold dryN
    omega
  have loop : ∀ d s : Nat, s + d = 201 → ∀ w1, evG w w1 → (∀ t, t < s → k < dryN S rPl t) → G 2 [some (vr 135), some (vi k), some (vi s)] [] w1 := by
    intro d
    induction d with
    | zero =>
      intro s hs w1 hw1 hall
      have e : s = 201 := by omega
      subst e
      (apply hG [2] 2000; simp only [w_br_i, w_ite, w_all, w_all0, forall_eq, w_b0, w_b1, ↓reduceIte, w_ent, w_pos, List.replicate_succ, List.replicate_zero, wp_s, wk_s, w_lk_c, w_ld0, w_ldS, w_kp0, w_kp, w_s1, w_s2, w_to, w_if, w_call, w_sw, w_cat, w_cats, w_psh, w_fv, List.contains_cons, List.contains_nil, List.set_cons_zero, List.set_cons_succ, List.length_cons, List.length_nil, List.find?_cons, List.find?_nil, List.take_succ_cons, List.take_zero, List.drop_succ_cons, List.drop_zero, List.reverse_cons, List.reverse_nil, List.nil_append, List.cons_append, Option.map_some, Option.map_none, Nat.reduceAdd, Nat.reduceBEq, Nat.reduceEqDiff, Nat.reduceLT, Nat.reduceLeDiff, Nat.reduceSub, Int.reduceAdd, Int.reduceSub, Int.reduceMul, Int.reduceNeg, Int.reduceToNat, Int.reduceLT, Int.reduceLE, Int.reduceEq, Bool.false_eq_true, Bool.or_false, Bool.false_or, Bool.true_or, Bool.or_true, if_true, if_false, ite_true, ite_false, true_and, and_true, false_and, and_false, true_or, or_true, false_or, or_false, Int.cast_ofNat_Int, Int.toNat_natCast, Int.natCast_add, List.getElem?_cons_zero, List.getElem?_cons_succ, true_implies, forall_const, not_true_eq_false, not_false_eq_true, ne_eq, beq_iff_eq, imp_self, List.length_set, Nat.zero_add, Nat.add_zero, Int.zero_add, Int.add_zero, w1_iconst, w1_istore_n_2, w1_iload_n_2, w1_sipush, w1_if_icmp, w1_aload_n_0, w1_invokevirtual, w1_getfield, w1_iaload, w1_iload_n_1, w1_ireturn, w1_iinc, w1_goto, dX10_leastSize_0, dX10_leastSize_1, dX10_leastSize_2, dX10_leastSize_3, dX10_leastSize_6, dX10_leastSize_9, dX10_leastSize_10, dX10_leastSize_11, dX10_leastSize_12, dX10_leastSize_13, dX10_leastSize_16, dX10_leastSize_17, dX10_leastSize_20, dX10_leastSize_21, dX10_leastSize_22, dX10_leastSize_23, dX10_leastSize_26, dX10_leastSize_27, dX10_leastSize_28, dX10_leastSize_31, dX10_leastSize_34, dX10_leastSize_35, w_flk10_50, w_kd_135, w_rf_135_0, w_rf_135_2, w_rf_135_3, w_rf_135_8, w_rf_135_12, w_rf_135_14, w_rf_135_15, w_rf_135_16, w_rf_135_24, w_rf_135_25, w_rf_135_26, w_rf_135_27, w_rf_135_28, w_rf_135_29, w_rf_135_30, w_rf_135_33, w_rf_135_34, w_rf_135_39, w_rf_135_40, w_rf_135_41, w_rf_135_42])
      (repeat' (with_reducible (first | refine And.intro ?_ ?_ | intro _))) <;> (try (first | (with_reducible assumption) | (simp only [inI, inL]; omega) | omega))
      all_goals first
        | (exfalso; omega)
        | exact ⟨Or.inl ⟨rfl, fun t ht => hall t (by omega)⟩, hw1⟩
    | succ d ih =>
      intro s hs w1 hw1 hall
      have c0 : w1 139 0 = S 0 0 := by rw [hw1 139 0 (by omega) (by omega)]; exact h0
      have hpc : p_X10_goTrial S [vr 135, vi 0, vi 0, vi s] w1 := ⟨rfl, rfl, rfl, by omega, by rw [c0]; exact mTQ_ev hQ hw1⟩
      have e16 : ∀ v w2, q_X10_goTrial S [vr 135, vi 0, vi 0, vi s] w1 v w2 → G 16 [some (vr 135), some (vi k), some (vi s)] [] w2 := by
        intro v w2 hq
        simp only [q_X10_goTrial, c0] at hq
        obtain ⟨g1, g2, -⟩ := hq
        have hw2 := evG_t hw1 g1
        have c149 : w2 149 0 = dryN S rPl s := by rw [g2 0 (by decide)]; rfl
        have hd := hdn s
        by_cases c : dryN S rPl s ≤ k
        · (apply hG [2] 2000; simp only [w_br_i, w_ite, w_all, w_all0, forall_eq, w_b0, w_b1, ↓reduceIte, w_ent, w_pos, List.replicate_succ, List.replicate_zero, wp_s, wk_s, w_lk_c, w_ld0, w_ldS, w_kp0, w_kp, w_s1, w_s2, w_to, w_if, w_call, w_sw, w_cat, w_cats, w_psh, w_fv, List.contains_cons, List.contains_nil, List.set_cons_zero, List.set_cons_succ, List.length_cons, List.length_nil, List.find?_cons, List.find?_nil, List.take_succ_cons, List.take_zero, List.drop_succ_cons, List.drop_zero, List.reverse_cons, List.reverse_nil, List.nil_append, List.cons_append, Option.map_some, Option.map_none, Nat.reduceAdd, Nat.reduceBEq, Nat.reduceEqDiff, Nat.reduceLT, Nat.reduceLeDiff, Nat.reduceSub, Int.reduceAdd, Int.reduceSub, Int.reduceMul, Int.reduceNeg, Int.reduceToNat, Int.reduceLT, Int.reduceLE, Int.reduceEq, Bool.false_eq_true, Bool.or_false, Bool.false_or, Bool.true_or, Bool.or_true, if_true, if_false, ite_true, ite_false, true_and, and_true, false_and, and_false, true_or, or_true, false_or, or_false, Int.cast_ofNat_Int, Int.toNat_natCast, Int.natCast_add, List.getElem?_cons_zero, List.getElem?_cons_succ, true_implies, forall_const, not_true_eq_false, not_false_eq_true, ne_eq, beq_iff_eq, imp_self, List.length_set, Nat.zero_add, Nat.add_zero, Int.zero_add, Int.add_zero, w1_iconst, w1_istore_n_2, w1_iload_n_2, w1_sipush, w1_if_icmp, w1_aload_n_0, w1_invokevirtual, w1_getfield, w1_iaload, w1_iload_n_1, w1_ireturn, w1_iinc, w1_goto, dX10_leastSize_0, dX10_leastSize_1, dX10_leastSize_2, dX10_leastSize_3, dX10_leastSize_6, dX10_leastSize_9, dX10_leastSize_10, dX10_leastSize_11, dX10_leastSize_12, dX10_leastSize_13, dX10_leastSize_16, dX10_leastSize_17, dX10_leastSize_20, dX10_leastSize_21, dX10_leastSize_22, dX10_leastSize_23, dX10_leastSize_26, dX10_leastSize_27, dX10_leastSize_28, dX10_leastSize_31, dX10_leastSize_34, dX10_leastSize_35, w_flk10_50, w_kd_135, w_rf_135_0, w_rf_135_2, w_rf_135_3, w_rf_135_8, w_rf_135_12, w_rf_135_14, w_rf_135_15, w_rf_135_16, w_rf_135_24, w_rf_135_25, w_rf_135_26, w_rf_135_27, w_rf_135_28, w_rf_135_29, w_rf_135_30, w_rf_135_33, w_rf_135_34, w_rf_135_39, w_rf_135_40, w_rf_135_41, w_rf_135_42, w_kd_149, w_ln_149, c149])
          (repeat' (with_reducible (first | refine And.intro ?_ ?_ | intro _))) <;> (try (first | (with_reducible assumption) | (simp only [inI, inL]; omega) | omega))
          all_goals first
            | (exfalso; omega)
            | exact ⟨Or.inr ⟨by omega, by rw [Int.toNat_natCast]; exact c, fun t ht => hall t (by omega)⟩, hw2⟩
        · have e := ih (s + 1) (by omega) w2 hw2 (fun t ht => by
            by_cases q : t = s
            · rw [q]; omega
            · exact hall t (by omega))
          simp only [Int.natCast_add, Int.cast_ofNat_Int] at e
          (apply hG [2] 2000; simp only [w_br_i, w_ite, w_all, w_all0, forall_eq, w_b0, w_b1, ↓reduceIte, w_ent, w_pos, List.replicate_succ, List.replicate_zero, wp_s, wk_s, w_lk_c, w_ld0, w_ldS, w_kp0, w_kp, w_s1, w_s2, w_to, w_if, w_call, w_sw, w_cat, w_cats, w_psh, w_fv, List.contains_cons, List.contains_nil, List.set_cons_zero, List.set_cons_succ, List.length_cons, List.length_nil, List.find?_cons, List.find?_nil, List.take_succ_cons, List.take_zero, List.drop_succ_cons, List.drop_zero, List.reverse_cons, List.reverse_nil, List.nil_append, List.cons_append, Option.map_some, Option.map_none, Nat.reduceAdd, Nat.reduceBEq, Nat.reduceEqDiff, Nat.reduceLT, Nat.reduceLeDiff, Nat.reduceSub, Int.reduceAdd, Int.reduceSub, Int.reduceMul, Int.reduceNeg, Int.reduceToNat, Int.reduceLT, Int.reduceLE, Int.reduceEq, Bool.false_eq_true, Bool.or_false, Bool.false_or, Bool.true_or, Bool.or_true, if_true, if_false, ite_true, ite_false, true_and, and_true, false_and, and_false, true_or, or_true, false_or, or_false, Int.cast_ofNat_Int, Int.toNat_natCast, Int.natCast_add, List.getElem?_cons_zero, List.getElem?_cons_succ, true_implies, forall_const, not_true_eq_false, not_false_eq_true, ne_eq, beq_iff_eq, imp_self, List.length_set, Nat.zero_add, Nat.add_zero, Int.zero_add, Int.add_zero, w1_iconst, w1_istore_n_2, w1_iload_n_2, w1_sipush, w1_if_icmp, w1_aload_n_0, w1_invokevirtual, w1_getfield, w1_iaload, w1_iload_n_1, w1_ireturn, w1_iinc, w1_goto, dX10_leastSize_0, dX10_leastSize_1, dX10_leastSize_2, dX10_leastSize_3, dX10_leastSize_6, dX10_leastSize_9, dX10_leastSize_10, dX10_leastSize_11, dX10_leastSize_12, dX10_leastSize_13, dX10_leastSize_16, dX10_leastSize_17, dX10_leastSize_20, dX10_leastSize_21, dX10_leastSize_22, dX10_leastSize_23, dX10_leastSize_26, dX10_leastSize_27, dX10_leastSize_28, dX10_leastSize_31, dX10_leastSize_34, dX10_leastSize_35, w_flk10_50, w_kd_135, w_rf_135_0, w_rf_135_2, w_rf_135_3, w_rf_135_8, w_rf_135_12, w_rf_135_14, w_rf_135_15, w_rf_135_16, w_rf_135_24, w_rf_135_25, w_rf_135_26, w_rf_135_27, w_rf_135_28, w_rf_135_29, w_rf_135_30, w_rf_135_33, w_rf_135_34, w_rf_135_39, w_rf_135_40, w_rf_135_41, w_rf_135_42, w_kd_149, w_ln_149, c149])
          (repeat' (with_reducible (first | refine And.intro ?_ ?_ | intro _))) <;> (try (first | (with_reducible assumption) | (simp only [inI, inL]; omega) | omega))
          all_goals first
            | (exfalso; omega)
            | exact e
      (apply hG [2, 16] 2000; simp only [w_br_i, w_ite, w_all, w_all0, forall_eq, w_b0, w_b1, ↓reduceIte, w_ent, w_pos, List.replicate_succ, List.replicate_zero, wp_s, wk_s, w_lk_c, w_ld0, w_ldS, w_kp0, w_kp, w_s1, w_s2, w_to, w_if, w_call, w_sw, w_cat, w_cats, w_psh, w_fv, List.contains_cons, List.contains_nil, List.set_cons_zero, List.set_cons_succ, List.length_cons, List.length_nil, List.find?_cons, List.find?_nil, List.take_succ_cons, List.take_zero, List.drop_succ_cons, List.drop_zero, List.reverse_cons, List.reverse_nil, List.nil_append, List.cons_append, Option.map_some, Option.map_none, Nat.reduceAdd, Nat.reduceBEq, Nat.reduceEqDiff, Nat.reduceLT, Nat.reduceLeDiff, Nat.reduceSub, Int.reduceAdd, Int.reduceSub, Int.reduceMul, Int.reduceNeg, Int.reduceToNat, Int.reduceLT, Int.reduceLE, Int.reduceEq, Bool.false_eq_true, Bool.or_false, Bool.false_or, Bool.true_or, Bool.or_true, if_true, if_false, ite_true, ite_false, true_and, and_true, false_and, and_false, true_or, or_true, false_or, or_false, Int.cast_ofNat_Int, Int.toNat_natCast, Int.natCast_add, List.getElem?_cons_zero, List.getElem?_cons_succ, true_implies, forall_const, not_true_eq_false, not_false_eq_true, ne_eq, beq_iff_eq, imp_self, List.length_set, Nat.zero_add, Nat.add_zero, Int.zero_add, Int.add_zero, w1_iconst, w1_istore_n_2, w1_iload_n_2, w1_sipush, w1_if_icmp, w1_aload_n_0, w1_invokevirtual, w1_getfield, w1_iaload, w1_iload_n_1, w1_ireturn, w1_iinc, w1_goto, dX10_leastSize_0, dX10_leastSize_1, dX10_leastSize_2, dX10_leastSize_3, dX10_leastSize_6, dX10_leastSize_9, dX10_leastSize_10, dX10_leastSize_11, dX10_leastSize_12, dX10_leastSize_13, dX10_leastSize_16, dX10_leastSize_17, dX10_leastSize_20, dX10_leastSize_21, dX10_leastSize_22, dX10_leastSize_23, dX10_leastSize_26, dX10_leastSize_27, dX10_leastSize_28, dX10_leastSize_31, dX10_leastSize_34, dX10_leastSize_35, w_flk10_50, w_kd_135, w_rf_135_0, w_rf_135_2, w_rf_135_3, w_rf_135_8, w_rf_135_12, w_rf_135_14, w_rf_135_15, w_rf_135_16, w_rf_135_24, w_rf_135_25, w_rf_135_26, w_rf_135_27, w_rf_135_28, w_rf_135_29, w_rf_135_30, w_rf_135_33, w_rf_135_34, w_rf_135_39, w_rf_135_40, w_rf_135_41, w_rf_135_42, hpc])
      (repeat' (with_reducible (first | refine And.intro ?_ ?_ | intro _))) <;> (try (first | (with_reducible assumption) | (simp only [inI, inL]; omega) | omega))
      all_goals first
        | exact e16 _ _ (by assumption)
        | (exfalso; omega)
  have e := loop 201 0 rfl w (fun k i _ _ => rfl) (fun t ht => by omega)
  simp only [Int.cast_ofNat_Int] at e
  (apply hG [2] 2000; simp only [w_br_i, w_ite, w_all, w_all0, forall_eq, w_b0, w_b1, ↓reduceIte, w_ent, w_pos, List.replicate_succ, List.replicate_zero, wp_s, wk_s, w_lk_c, w_ld0, w_ldS, w_kp0, w_kp, w_s1, w_s2, w_to, w_if, w_call, w_sw, w_cat, w_cats, w_psh, w_fv, List.contains_cons, List.contains_nil, List.set_cons_zero, List.set_cons_succ, List.length_cons, List.length_nil, List.find?_cons, List.find?_nil, List.take_succ_cons, List.take_zero, List.drop_succ_cons, List.drop_zero, List.reverse_cons, List.reverse_nil, List.nil_append, List.cons_append, Option.map_some, Option.map_none, Nat.reduceAdd, Nat.reduceBEq, Nat.reduceEqDiff, Nat.reduceLT, Nat.reduceLeDiff, Nat.reduceSub, Int.reduceAdd, Int.reduceSub, Int.reduceMul, Int.reduceNeg, Int.reduceToNat, Int.reduceLT, Int.reduceLE, Int.reduceEq, Bool.false_eq_true, Bool.or_false, Bool.false_or, Bool.true_or, Bool.or_true, if_true, if_false, ite_true, ite_false, true_and, and_true, false_and, and_false, true_or, or_true, false_or, or_false, Int.cast_ofNat_Int, Int.toNat_natCast, Int.natCast_add, List.getElem?_cons_zero, List.getElem?_cons_succ, true_implies, forall_const, not_true_eq_false, not_false_eq_true, ne_eq, beq_iff_eq, imp_self, List.length_set, Nat.zero_add, Nat.add_zero, Int.zero_add, Int.add_zero, w1_iconst, w1_istore_n_2, w1_iload_n_2, w1_sipush, w1_if_icmp, w1_aload_n_0, w1_invokevirtual, w1_getfield, w1_iaload, w1_iload_n_1, w1_ireturn, w1_iinc, w1_goto, dX10_leastSize_0, dX10_leastSize_1, dX10_leastSize_2, dX10_leastSize_3, dX10_leastSize_6, dX10_leastSize_9, dX10_leastSize_10, dX10_leastSize_11, dX10_leastSize_12, dX10_leastSize_13, dX10_leastSize_16, dX10_leastSize_17, dX10_leastSize_20, dX10_leastSize_21, dX10_leastSize_22, dX10_leastSize_23, dX10_leastSize_26, dX10_leastSize_27, dX10_leastSize_28, dX10_leastSize_31, dX10_leastSize_34, dX10_leastSize_35, w_flk10_50])
  exact e
theorem mMQ_T {S T w : wW} (h : mMQ S T w) (h4 : ¬ T 4 4 = 0) : w 139 0 = S 0 0 ∧ mTQ S w (S 0 0) := by
  obtain ⟨-, -, h3, hH, h5, -⟩ := h
  obtain ⟨hS, hM⟩ := hH h4
  have hA := hS.2.1
  exact ⟨hM.1, hS, h3, by omega, ⟨_, hM⟩, fun m hm => (h5 7 (by decide)).2.2.2 m hm⟩
def p_X10_let (S T : wW) : List wV → wW → Prop := fun av w => match av with
  | [.inr (.inr (some this)), .inl k] => this = 135 ∧ mMQ S T w ∧ inI k
  | _ => False
theorem h_X10_let (S T : wW) : ∀ av w, (p_X10_let S T) av w → ∃ a r, av = vr a :: r ∧ w_kd a = 100 + 10 := by
  intro av w h
  unfold p_X10_let at h
  split at h
  · refine ⟨_, _, rfl, ?_⟩
    first | (rw [h.1]; rfl) | (rw [h]; rfl)
  · exact h.elim
def q_X10_let (S T : wW) : List wV → wW → Int → wW → Prop := fun av w r w' => match av with
  | [.inr (.inr (some this)), .inl k] => letP S T k r ∧ evG w w'
  | _ => False
set_option maxRecDepth 100000 in
set_option maxHeartbeats 4000000 in
theorem c_X10_let (S T : wW) : w_Ct yX10_let cX10_let 2 1 8 205 (p_X10_let S T) (q_X10_let S T) := by
  refine w_met (own := RX10) (fl := w_fl10) (gs := w_gs10) (kl := w_kl10) (ki := w_ki10) (cs := [(236, (0, 1, 3, p_X10_lacks, q_X10_lacks)), (107, (1, 3, 3, p_X10_in, q_X10_in)), (250, (0, 2, 1, (p_X10_leastSize S), (q_X10_leastSize S)))]) (by decide +kernel) rfl ?_ w_flok10 w_gsok10 w_klok10 w_kiok10 ?_ ?_
  · intro av w h
    unfold p_X10_let at h
    split at h
    · simp [w_pos, w_cat]
    · exact h.elim
  · exact List.forall_mem_cons.mpr ⟨⟨_, _, w_callV (own := RX10) (idx := 236) (ci := 10) c_X10_lacks rfl rfl h_X10_lacks (w_m5 99 (by decide +kernel) (by decide +kernel)) (w_m5 101 (by decide +kernel) (by decide +kernel)) (w_m0 37 (by decide +kernel) (by decide +kernel)) (w_m1 12 (by decide +kernel) (by decide +kernel)) (w_m5 102 (by decide +kernel) (by decide +kernel)) ⟨by decide +kernel, by decide +kernel, by decide +kernel⟩, by decide, by decide⟩, List.forall_mem_cons.mpr ⟨⟨_, _, w_callS (own := RX10) (idx := 107) c_X10_in (w_m5 14 (by decide +kernel) (by decide +kernel)) (w_m5 15 (by decide +kernel) (by decide +kernel)) (w_m1 12 (by decide +kernel) (by decide +kernel)) (w_m5 16 (by decide +kernel) (by decide +kernel)) ⟨by decide +kernel, by decide +kernel, by decide +kernel⟩, by decide, by decide⟩, List.forall_mem_cons.mpr ⟨⟨_, _, w_callV (own := RX10) (idx := 250) (ci := 10) (c_X10_leastSize S) rfl rfl (h_X10_leastSize S) (w_m5 168 (by decide +kernel) (by decide +kernel)) (w_m5 170 (by decide +kernel) (by decide +kernel)) (w_m0 51 (by decide +kernel) (by decide +kernel)) (w_m1 12 (by decide +kernel) (by decide +kernel)) (w_m5 171 (by decide +kernel) (by decide +kernel)) ⟨by decide +kernel, by decide +kernel, by decide +kernel⟩, by decide, by decide⟩, fun _ h => absurd h List.not_mem_nil⟩⟩⟩
  intro av w hp
  unfold p_X10_let at hp
  split at hp
  case h_2 => exact hp.elim
  rename_i this k
  intro G hG
  simp only [w_ent, w_pos, w_cat, Nat.reduceEqDiff, ↓reduceIte, List.length_cons, List.length_nil, Nat.reduceAdd, Nat.reduceSub, List.cons_append, List.nil_append, List.replicate_succ, List.replicate_zero]
  obtain ⟨rfl, hQ, hk⟩ := hp
  have hT0 : evG w w := fun k i _ _ => rfl
  obtain ⟨-, ⟨hu0, hu3, hu4⟩, ⟨hy, hY⟩, hH, -, -⟩ := id hQ
  have hyc := hy.1
  have hy1 := hY.1
  have e22 : ¬ (T 4 4 = 0 ∨ S 4 1 = 0) → (0 ≤ k ∧ k ≤ 96) → G 22 [some (vr 135), some (vi k)] [] w := by
    intro h2 h3
    obtain ⟨c0, hTQ⟩ := mMQ_T hQ (by omega)
    have hpc : p_X10_leastSize S [vr 135, vi k] w := ⟨rfl, h3, c0, hTQ⟩
    have e27 : ∀ v w1, q_X10_leastSize S [vr 135, vi k] w v w1 → G 27 [some (vr 135), some (vi k)] [vi v] w1 := by
      intro v w1 hq
      simp only [q_X10_leastSize] at hq
      (apply hG [] 2000; simp only [w_br_i, w_ite, w_all, w_all0, forall_eq, w_b0, w_b1, ↓reduceIte, w_ent, w_pos, List.replicate_succ, List.replicate_zero, wp_s, wk_s, w_lk_c, w_ld0, w_ldS, w_kp0, w_kp, w_s1, w_s2, w_to, w_if, w_call, w_sw, w_cat, w_cats, w_psh, w_fv, List.contains_cons, List.contains_nil, List.set_cons_zero, List.set_cons_succ, List.length_cons, List.length_nil, List.find?_cons, List.find?_nil, List.take_succ_cons, List.take_zero, List.drop_succ_cons, List.drop_zero, List.reverse_cons, List.reverse_nil, List.nil_append, List.cons_append, Option.map_some, Option.map_none, Nat.reduceAdd, Nat.reduceBEq, Nat.reduceEqDiff, Nat.reduceLT, Nat.reduceLeDiff, Nat.reduceSub, Int.reduceAdd, Int.reduceSub, Int.reduceMul, Int.reduceNeg, Int.reduceToNat, Int.reduceLT, Int.reduceLE, Int.reduceEq, Bool.false_eq_true, Bool.or_false, Bool.false_or, Bool.true_or, Bool.or_true, if_true, if_false, ite_true, ite_false, true_and, and_true, false_and, and_false, true_or, or_true, false_or, or_false, Int.cast_ofNat_Int, Int.toNat_natCast, Int.natCast_add, List.getElem?_cons_zero, List.getElem?_cons_succ, true_implies, forall_const, not_true_eq_false, not_false_eq_true, ne_eq, beq_iff_eq, imp_self, List.length_set, Nat.zero_add, Nat.add_zero, Int.zero_add, Int.add_zero, w1_aload_n_0, w1_invokevirtual, w1_ifCond, w1_bipush, w1_ireturn, w1_iload_n_1, w1_i2l, w1_lconst, w1_ldc2_w, w1_invokestatic, w1_goto, dX10_let_0, dX10_let_1, dX10_let_4, dX10_let_7, dX10_let_9, dX10_let_10, dX10_let_11, dX10_let_12, dX10_let_13, dX10_let_16, dX10_let_19, dX10_let_22, dX10_let_23, dX10_let_24, dX10_let_27, dX10_let_30, dX10_let_32, w_klk10_253, w_kd_135, w_rf_135_0, w_rf_135_2, w_rf_135_3, w_rf_135_8, w_rf_135_12, w_rf_135_14, w_rf_135_15, w_rf_135_16, w_rf_135_24, w_rf_135_25, w_rf_135_26, w_rf_135_27, w_rf_135_28, w_rf_135_29, w_rf_135_30, w_rf_135_33, w_rf_135_34, w_rf_135_39, w_rf_135_40, w_rf_135_41, w_rf_135_42, lc0, lc1])
      (repeat' (with_reducible (first | refine And.intro ?_ ?_ | intro _))) <;> (try (first | (with_reducible assumption) | (simp only [inI, inL]; omega) | omega))
      all_goals (refine ⟨?_, hq.2⟩; unfold letP; rw [if_neg h2, if_neg (by omega)]; exact hq.1)
    (apply hG [27] 2000; simp only [w_br_i, w_ite, w_all, w_all0, forall_eq, w_b0, w_b1, ↓reduceIte, w_ent, w_pos, List.replicate_succ, List.replicate_zero, wp_s, wk_s, w_lk_c, w_ld0, w_ldS, w_kp0, w_kp, w_s1, w_s2, w_to, w_if, w_call, w_sw, w_cat, w_cats, w_psh, w_fv, List.contains_cons, List.contains_nil, List.set_cons_zero, List.set_cons_succ, List.length_cons, List.length_nil, List.find?_cons, List.find?_nil, List.take_succ_cons, List.take_zero, List.drop_succ_cons, List.drop_zero, List.reverse_cons, List.reverse_nil, List.nil_append, List.cons_append, Option.map_some, Option.map_none, Nat.reduceAdd, Nat.reduceBEq, Nat.reduceEqDiff, Nat.reduceLT, Nat.reduceLeDiff, Nat.reduceSub, Int.reduceAdd, Int.reduceSub, Int.reduceMul, Int.reduceNeg, Int.reduceToNat, Int.reduceLT, Int.reduceLE, Int.reduceEq, Bool.false_eq_true, Bool.or_false, Bool.false_or, Bool.true_or, Bool.or_true, if_true, if_false, ite_true, ite_false, true_and, and_true, false_and, and_false, true_or, or_true, false_or, or_false, Int.cast_ofNat_Int, Int.toNat_natCast, Int.natCast_add, List.getElem?_cons_zero, List.getElem?_cons_succ, true_implies, forall_const, not_true_eq_false, not_false_eq_true, ne_eq, beq_iff_eq, imp_self, List.length_set, Nat.zero_add, Nat.add_zero, Int.zero_add, Int.add_zero, w1_aload_n_0, w1_invokevirtual, w1_ifCond, w1_bipush, w1_ireturn, w1_iload_n_1, w1_i2l, w1_lconst, w1_ldc2_w, w1_invokestatic, w1_goto, dX10_let_0, dX10_let_1, dX10_let_4, dX10_let_7, dX10_let_9, dX10_let_10, dX10_let_11, dX10_let_12, dX10_let_13, dX10_let_16, dX10_let_19, dX10_let_22, dX10_let_23, dX10_let_24, dX10_let_27, dX10_let_30, dX10_let_32, w_klk10_253, w_kd_135, w_rf_135_0, w_rf_135_2, w_rf_135_3, w_rf_135_8, w_rf_135_12, w_rf_135_14, w_rf_135_15, w_rf_135_16, w_rf_135_24, w_rf_135_25, w_rf_135_26, w_rf_135_27, w_rf_135_28, w_rf_135_29, w_rf_135_30, w_rf_135_33, w_rf_135_34, w_rf_135_39, w_rf_135_40, w_rf_135_41, w_rf_135_42, lc0, lc1, hpc])
    (repeat' (with_reducible (first | refine And.intro ?_ ?_ | intro _))) <;> (try (first | (with_reducible assumption) | (simp only [inI, inL]; omega) | omega))
    all_goals exact e27 _ _ (by assumption)
  (apply hG [22] 2000; simp only [w_br_i, w_ite, w_all, w_all0, forall_eq, w_b0, w_b1, ↓reduceIte, w_ent, w_pos, List.replicate_succ, List.replicate_zero, wp_s, wk_s, w_lk_c, w_ld0, w_ldS, w_kp0, w_kp, w_s1, w_s2, w_to, w_if, w_call, w_sw, w_cat, w_cats, w_psh, w_fv, List.contains_cons, List.contains_nil, List.set_cons_zero, List.set_cons_succ, List.length_cons, List.length_nil, List.find?_cons, List.find?_nil, List.take_succ_cons, List.take_zero, List.drop_succ_cons, List.drop_zero, List.reverse_cons, List.reverse_nil, List.nil_append, List.cons_append, Option.map_some, Option.map_none, Nat.reduceAdd, Nat.reduceBEq, Nat.reduceEqDiff, Nat.reduceLT, Nat.reduceLeDiff, Nat.reduceSub, Int.reduceAdd, Int.reduceSub, Int.reduceMul, Int.reduceNeg, Int.reduceToNat, Int.reduceLT, Int.reduceLE, Int.reduceEq, Bool.false_eq_true, Bool.or_false, Bool.false_or, Bool.true_or, Bool.or_true, if_true, if_false, ite_true, ite_false, true_and, and_true, false_and, and_false, true_or, or_true, false_or, or_false, Int.cast_ofNat_Int, Int.toNat_natCast, Int.natCast_add, List.getElem?_cons_zero, List.getElem?_cons_succ, true_implies, forall_const, not_true_eq_false, not_false_eq_true, ne_eq, beq_iff_eq, imp_self, List.length_set, Nat.zero_add, Nat.add_zero, Int.zero_add, Int.add_zero, w1_aload_n_0, w1_invokevirtual, w1_ifCond, w1_bipush, w1_ireturn, w1_iload_n_1, w1_i2l, w1_lconst, w1_ldc2_w, w1_invokestatic, w1_goto, dX10_let_0, dX10_let_1, dX10_let_4, dX10_let_7, dX10_let_9, dX10_let_10, dX10_let_11, dX10_let_12, dX10_let_13, dX10_let_16, dX10_let_19, dX10_let_22, dX10_let_23, dX10_let_24, dX10_let_27, dX10_let_30, dX10_let_32, w_klk10_253, w_kd_135, w_rf_135_0, w_rf_135_2, w_rf_135_3, w_rf_135_8, w_rf_135_12, w_rf_135_14, w_rf_135_15, w_rf_135_16, w_rf_135_24, w_rf_135_25, w_rf_135_26, w_rf_135_27, w_rf_135_28, w_rf_135_29, w_rf_135_30, w_rf_135_33, w_rf_135_34, w_rf_135_39, w_rf_135_40, w_rf_135_41, w_rf_135_42, lc0, lc1, p_X10_lacks, q_X10_lacks, p_X10_in, q_X10_in, hu0, hy1])
  (repeat' (with_reducible (first | refine And.intro ?_ ?_ | intro _))) <;> (try (first | (with_reducible assumption) | (simp only [inI, inL]; omega) | omega))
  all_goals first
    | exact e22 (by omega) (by omega)
    | exact ⟨by unfold letP; (repeat' split) <;> first | rfl | (exfalso; omega), hT0⟩
def p_X10_never (S T : wW) : List wV → wW → Prop := fun av w => match av with
  | [.inr (.inr (some this)), .inl what] => this = 135 ∧ mMQ S T w ∧ inI what
  | _ => False
theorem h_X10_never (S T : wW) : ∀ av w, (p_X10_never S T) av w → ∃ a r, av = vr a :: r ∧ w_kd a = 100 + 10 := by
  intro av w h
  unfold p_X10_never at h
  split at h
  · refine ⟨_, _, rfl, ?_⟩
    first | (rw [h.1]; rfl) | (rw [h]; rfl)
  · exact h.elim
def q_X10_never (S T : wW) : List wV → wW → Int → wW → Prop := fun av w r w' => match av with
  | [.inr (.inr (some this)), .inl what] => nevP S T what r ∧ evG w w'
  | _ => False
set_option maxRecDepth 100000 in
set_option maxHeartbeats 4000000 in
theorem c_X10_never (S T : wW) : w_Ct yX10_never cX10_never 3 1 8 205 (p_X10_never S T) (q_X10_never S T) := by
  refine w_met (own := RX10) (fl := w_fl10) (gs := w_gs10) (kl := w_kl10) (ki := w_ki10) (cs := [(236, (0, 1, 3, p_X10_lacks, q_X10_lacks)), (107, (1, 3, 3, p_X10_in, q_X10_in)), (250, (0, 2, 1, (p_X10_leastSize S), (q_X10_leastSize S))), (246, (0, 4, 0, (p_X10_goTrial S), (q_X10_goTrial S)))]) (by decide +kernel) rfl ?_ w_flok10 w_gsok10 w_klok10 w_kiok10 ?_ ?_
  · intro av w h
    unfold p_X10_never at h
    split at h
    · simp [w_pos, w_cat]
    · exact h.elim
  · exact List.forall_mem_cons.mpr ⟨⟨_, _, w_callV (own := RX10) (idx := 236) (ci := 10) c_X10_lacks rfl rfl h_X10_lacks (w_m5 99 (by decide +kernel) (by decide +kernel)) (w_m5 101 (by decide +kernel) (by decide +kernel)) (w_m0 37 (by decide +kernel) (by decide +kernel)) (w_m1 12 (by decide +kernel) (by decide +kernel)) (w_m5 102 (by decide +kernel) (by decide +kernel)) ⟨by decide +kernel, by decide +kernel, by decide +kernel⟩, by decide, by decide⟩, List.forall_mem_cons.mpr ⟨⟨_, _, w_callS (own := RX10) (idx := 107) c_X10_in (w_m5 14 (by decide +kernel) (by decide +kernel)) (w_m5 15 (by decide +kernel) (by decide +kernel)) (w_m1 12 (by decide +kernel) (by decide +kernel)) (w_m5 16 (by decide +kernel) (by decide +kernel)) ⟨by decide +kernel, by decide +kernel, by decide +kernel⟩, by decide, by decide⟩, List.forall_mem_cons.mpr ⟨⟨_, _, w_callV (own := RX10) (idx := 250) (ci := 10) (c_X10_leastSize S) rfl rfl (h_X10_leastSize S) (w_m5 168 (by decide +kernel) (by decide +kernel)) (w_m5 170 (by decide +kernel) (by decide +kernel)) (w_m0 51 (by decide +kernel) (by decide +kernel)) (w_m1 12 (by decide +kernel) (by decide +kernel)) (w_m5 171 (by decide +kernel) (by decide +kernel)) ⟨by decide +kernel, by decide +kernel, by decide +kernel⟩, by decide, by decide⟩, List.forall_mem_cons.mpr ⟨⟨_, _, w_callV (own := RX10) (idx := 246) (ci := 10) (c_X10_goTrial S) rfl rfl (h_X10_goTrial S) (w_m5 172 (by decide +kernel) (by decide +kernel)) (w_m5 174 (by decide +kernel) (by decide +kernel)) (w_m0 52 (by decide +kernel) (by decide +kernel)) (w_m1 12 (by decide +kernel) (by decide +kernel)) (w_m5 175 (by decide +kernel) (by decide +kernel)) ⟨by decide +kernel, by decide +kernel, by decide +kernel⟩, by decide, by decide⟩, fun _ h => absurd h List.not_mem_nil⟩⟩⟩⟩
  intro av w hp
  unfold p_X10_never at hp
  split at hp
  case h_2 => exact hp.elim
  rename_i this what
  intro G hG
  simp only [w_ent, w_pos, w_cat, Nat.reduceEqDiff, ↓reduceIte, List.length_cons, List.length_nil, Nat.reduceAdd, Nat.reduceSub, List.cons_append, List.nil_append, List.replicate_succ, List.replicate_zero]
  obtain ⟨rfl, hQ, hk⟩ := hp
  have hT0 : evG w w := fun k i _ _ => rfl
  obtain ⟨-, ⟨hu0, hu3, hu4⟩, ⟨hy, hY⟩, hH, -, -⟩ := id hQ
  have hyc := hy.1
  have hy1 := hY.1
  have e25 : ∀ x2, ¬ (T 4 4 = 0 ∨ S 4 1 = 0) → (0 ≤ what ∧ what ≤ 2) → G 25 [some (vr 135), some (vi what), x2] [] w := by
    intro x2 h2 h3
    obtain ⟨c0, hTQ⟩ := mMQ_T hQ (by omega)
    have hpc : p_X10_leastSize S [vr 135, vi 0] w := ⟨rfl, by decide, c0, hTQ⟩
    have e30 : ∀ z w1, q_X10_leastSize S [vr 135, vi 0] w z w1 → G 30 [some (vr 135), some (vi what), x2] [vi z] w1 := by
      intro z w1 hq
      simp only [q_X10_leastSize] at hq
      obtain ⟨g3, hev⟩ := hq
      have hz : -1 ≤ z ∧ z ≤ 200 := by
        rcases g3 with ⟨h, -⟩ | ⟨h, -⟩ <;> omega
      have e50 : ¬ what = 0 → 0 < z → G 50 [some (vr 135), some (vi what), some (vi z)] [] w1 := by
        intro hw0 hz0
        have c1 : w1 139 0 = S 0 0 := by rw [hev 139 0 (by omega) (by omega)]; exact c0
        have hpc2 : p_X10_goTrial S [vr 135, vi 0, vi 0, vi (z - 1)] w1 := ⟨rfl, rfl, rfl, by omega, by rw [c1]; exact mTQ_ev hTQ hev⟩
        have e59 : ∀ v w2, q_X10_goTrial S [vr 135, vi 0, vi 0, vi (z - 1)] w1 v w2 → G 59 [some (vr 135), some (vi what), some (vi z)] [] w2 := by
          intro v w2 hq2
          simp only [q_X10_goTrial, c1] at hq2
          obtain ⟨f1, -, f3⟩ := hq2
          have ef : w2 135 31 = nevF S z := f3
          have hFr := rnF_in (runE S (S 0 0) (z - 1) rPl) (monthsF S)
          have hF0 : 0 ≤ nevF S z := by
            have hlt : (0 : Int) < dryN S rPl (z - 1).toNat := by
              rcases g3 with ⟨h, -⟩ | ⟨-, -, h⟩
              · omega
              · exact h _ (by omega)
            unfold dryN at hlt
            rw [show (((z - 1).toNat : Nat) : Int) = z - 1 by omega] at hlt
            have := rnF_pos (E := runE S (S 0 0) (z - 1) rPl) (monthsF S)
            unfold nevF
            omega
          have hF1 : nevF S z ≤ 96 := by unfold nevF; have : monthsF S ≤ 96 := by { unfold monthsF; omega }; omega
          have ed : Int.tdiv (nevF S z) 12 = nevF S z / 12 := Int.tdiv_eq_ediv_of_nonneg hF0
          have em : Int.tmod (nevF S z) 12 = nevF S z % 12 := Int.tmod_eq_emod_of_nonneg hF0
          have hT2 : evG w w2 := evG_t hev f1
          have fin : ∀ r, ((what = 1 → r = nevF S z / 12) ∧ (what = 2 → r = nevF S z % 12)) → q_X10_never S T [vr 135, vi what] w r w2 := by
            intro r hr
            refine ⟨?_, hT2⟩
            unfold nevP
            rw [if_neg h2, if_neg (by omega)]
            exact ⟨z, g3, fun h => by omega, fun _ => ⟨fun h => by omega, fun _ => ⟨hF0, hr⟩⟩⟩
          (apply hG [] 2000; simp only [w_br_i, w_ite, w_all, w_all0, forall_eq, w_b0, w_b1, ↓reduceIte, w_ent, w_pos, List.replicate_succ, List.replicate_zero, wp_s, wk_s, w_lk_c, w_ld0, w_ldS, w_kp0, w_kp, w_s1, w_s2, w_to, w_if, w_call, w_sw, w_cat, w_cats, w_psh, w_fv, List.contains_cons, List.contains_nil, List.set_cons_zero, List.set_cons_succ, List.length_cons, List.length_nil, List.find?_cons, List.find?_nil, List.take_succ_cons, List.take_zero, List.drop_succ_cons, List.drop_zero, List.reverse_cons, List.reverse_nil, List.nil_append, List.cons_append, Option.map_some, Option.map_none, Nat.reduceAdd, Nat.reduceBEq, Nat.reduceEqDiff, Nat.reduceLT, Nat.reduceLeDiff, Nat.reduceSub, Int.reduceAdd, Int.reduceSub, Int.reduceMul, Int.reduceNeg, Int.reduceToNat, Int.reduceLT, Int.reduceLE, Int.reduceEq, Bool.false_eq_true, Bool.or_false, Bool.false_or, Bool.true_or, Bool.or_true, if_true, if_false, ite_true, ite_false, true_and, and_true, false_and, and_false, true_or, or_true, false_or, or_false, Int.cast_ofNat_Int, Int.toNat_natCast, Int.natCast_add, List.getElem?_cons_zero, List.getElem?_cons_succ, true_implies, forall_const, not_true_eq_false, not_false_eq_true, ne_eq, beq_iff_eq, imp_self, List.length_set, Nat.zero_add, Nat.add_zero, Int.zero_add, Int.add_zero, w1_aload_n_0, w1_invokevirtual, w1_ifCond, w1_bipush, w1_ireturn, w1_iload_n_1, w1_i2l, w1_lconst, w1_ldc2_w, w1_invokestatic, w1_iconst, w1_istore_n_2, w1_iload_n_2, w1_if_icmp, w1_goto, w1_isub, w1_getfield, w1_idiv, w1_irem, dX10_never_0, dX10_never_1, dX10_never_4, dX10_never_7, dX10_never_9, dX10_never_10, dX10_never_11, dX10_never_12, dX10_never_13, dX10_never_16, dX10_never_19, dX10_never_22, dX10_never_24, dX10_never_25, dX10_never_26, dX10_never_27, dX10_never_30, dX10_never_31, dX10_never_32, dX10_never_35, dX10_never_36, dX10_never_37, dX10_never_40, dX10_never_41, dX10_never_44, dX10_never_45, dX10_never_48, dX10_never_49, dX10_never_50, dX10_never_51, dX10_never_52, dX10_never_53, dX10_never_54, dX10_never_55, dX10_never_56, dX10_never_59, dX10_never_60, dX10_never_61, dX10_never_64, dX10_never_65, dX10_never_68, dX10_never_70, dX10_never_71, dX10_never_74, dX10_never_75, dX10_never_78, dX10_never_80, dX10_never_81, w_flk10_222, w_klk10_133, w_kd_135, w_rf_135_0, w_rf_135_2, w_rf_135_3, w_rf_135_8, w_rf_135_12, w_rf_135_14, w_rf_135_15, w_rf_135_16, w_rf_135_24, w_rf_135_25, w_rf_135_26, w_rf_135_27, w_rf_135_28, w_rf_135_29, w_rf_135_30, w_rf_135_33, w_rf_135_34, w_rf_135_39, w_rf_135_40, w_rf_135_41, w_rf_135_42, lc0, lc1, ef, ed, em])
          (repeat' (with_reducible (first | refine And.intro ?_ ?_ | intro _))) <;> (try (first | (with_reducible assumption) | (simp only [inI, inL]; omega) | omega))
          all_goals (refine fin _ ⟨fun h => ?_, fun h => ?_⟩ <;> first | rfl | omega)
        (apply hG [59] 2000; simp only [w_br_i, w_ite, w_all, w_all0, forall_eq, w_b0, w_b1, ↓reduceIte, w_ent, w_pos, List.replicate_succ, List.replicate_zero, wp_s, wk_s, w_lk_c, w_ld0, w_ldS, w_kp0, w_kp, w_s1, w_s2, w_to, w_if, w_call, w_sw, w_cat, w_cats, w_psh, w_fv, List.contains_cons, List.contains_nil, List.set_cons_zero, List.set_cons_succ, List.length_cons, List.length_nil, List.find?_cons, List.find?_nil, List.take_succ_cons, List.take_zero, List.drop_succ_cons, List.drop_zero, List.reverse_cons, List.reverse_nil, List.nil_append, List.cons_append, Option.map_some, Option.map_none, Nat.reduceAdd, Nat.reduceBEq, Nat.reduceEqDiff, Nat.reduceLT, Nat.reduceLeDiff, Nat.reduceSub, Int.reduceAdd, Int.reduceSub, Int.reduceMul, Int.reduceNeg, Int.reduceToNat, Int.reduceLT, Int.reduceLE, Int.reduceEq, Bool.false_eq_true, Bool.or_false, Bool.false_or, Bool.true_or, Bool.or_true, if_true, if_false, ite_true, ite_false, true_and, and_true, false_and, and_false, true_or, or_true, false_or, or_false, Int.cast_ofNat_Int, Int.toNat_natCast, Int.natCast_add, List.getElem?_cons_zero, List.getElem?_cons_succ, true_implies, forall_const, not_true_eq_false, not_false_eq_true, ne_eq, beq_iff_eq, imp_self, List.length_set, Nat.zero_add, Nat.add_zero, Int.zero_add, Int.add_zero, w1_aload_n_0, w1_invokevirtual, w1_ifCond, w1_bipush, w1_ireturn, w1_iload_n_1, w1_i2l, w1_lconst, w1_ldc2_w, w1_invokestatic, w1_iconst, w1_istore_n_2, w1_iload_n_2, w1_if_icmp, w1_goto, w1_isub, w1_getfield, w1_idiv, w1_irem, dX10_never_0, dX10_never_1, dX10_never_4, dX10_never_7, dX10_never_9, dX10_never_10, dX10_never_11, dX10_never_12, dX10_never_13, dX10_never_16, dX10_never_19, dX10_never_22, dX10_never_24, dX10_never_25, dX10_never_26, dX10_never_27, dX10_never_30, dX10_never_31, dX10_never_32, dX10_never_35, dX10_never_36, dX10_never_37, dX10_never_40, dX10_never_41, dX10_never_44, dX10_never_45, dX10_never_48, dX10_never_49, dX10_never_50, dX10_never_51, dX10_never_52, dX10_never_53, dX10_never_54, dX10_never_55, dX10_never_56, dX10_never_59, dX10_never_60, dX10_never_61, dX10_never_64, dX10_never_65, dX10_never_68, dX10_never_70, dX10_never_71, dX10_never_74, dX10_never_75, dX10_never_78, dX10_never_80, dX10_never_81, w_flk10_222, w_klk10_133, w_kd_135, w_rf_135_0, w_rf_135_2, w_rf_135_3, w_rf_135_8, w_rf_135_12, w_rf_135_14, w_rf_135_15, w_rf_135_16, w_rf_135_24, w_rf_135_25, w_rf_135_26, w_rf_135_27, w_rf_135_28, w_rf_135_29, w_rf_135_30, w_rf_135_33, w_rf_135_34, w_rf_135_39, w_rf_135_40, w_rf_135_41, w_rf_135_42, lc0, lc1, hpc2])
        (repeat' (with_reducible (first | refine And.intro ?_ ?_ | intro _))) <;> (try (first | (with_reducible assumption) | (simp only [inI, inL]; omega) | omega))
        all_goals exact e59 _ _ (by assumption)
      (apply hG [50] 2000; simp only [w_br_i, w_ite, w_all, w_all0, forall_eq, w_b0, w_b1, ↓reduceIte, w_ent, w_pos, List.replicate_succ, List.replicate_zero, wp_s, wk_s, w_lk_c, w_ld0, w_ldS, w_kp0, w_kp, w_s1, w_s2, w_to, w_if, w_call, w_sw, w_cat, w_cats, w_psh, w_fv, List.contains_cons, List.contains_nil, List.set_cons_zero, List.set_cons_succ, List.length_cons, List.length_nil, List.find?_cons, List.find?_nil, List.take_succ_cons, List.take_zero, List.drop_succ_cons, List.drop_zero, List.reverse_cons, List.reverse_nil, List.nil_append, List.cons_append, Option.map_some, Option.map_none, Nat.reduceAdd, Nat.reduceBEq, Nat.reduceEqDiff, Nat.reduceLT, Nat.reduceLeDiff, Nat.reduceSub, Int.reduceAdd, Int.reduceSub, Int.reduceMul, Int.reduceNeg, Int.reduceToNat, Int.reduceLT, Int.reduceLE, Int.reduceEq, Bool.false_eq_true, Bool.or_false, Bool.false_or, Bool.true_or, Bool.or_true, if_true, if_false, ite_true, ite_false, true_and, and_true, false_and, and_false, true_or, or_true, false_or, or_false, Int.cast_ofNat_Int, Int.toNat_natCast, Int.natCast_add, List.getElem?_cons_zero, List.getElem?_cons_succ, true_implies, forall_const, not_true_eq_false, not_false_eq_true, ne_eq, beq_iff_eq, imp_self, List.length_set, Nat.zero_add, Nat.add_zero, Int.zero_add, Int.add_zero, w1_aload_n_0, w1_invokevirtual, w1_ifCond, w1_bipush, w1_ireturn, w1_iload_n_1, w1_i2l, w1_lconst, w1_ldc2_w, w1_invokestatic, w1_iconst, w1_istore_n_2, w1_iload_n_2, w1_if_icmp, w1_goto, w1_isub, w1_getfield, w1_idiv, w1_irem, dX10_never_0, dX10_never_1, dX10_never_4, dX10_never_7, dX10_never_9, dX10_never_10, dX10_never_11, dX10_never_12, dX10_never_13, dX10_never_16, dX10_never_19, dX10_never_22, dX10_never_24, dX10_never_25, dX10_never_26, dX10_never_27, dX10_never_30, dX10_never_31, dX10_never_32, dX10_never_35, dX10_never_36, dX10_never_37, dX10_never_40, dX10_never_41, dX10_never_44, dX10_never_45, dX10_never_48, dX10_never_49, dX10_never_50, dX10_never_51, dX10_never_52, dX10_never_53, dX10_never_54, dX10_never_55, dX10_never_56, dX10_never_59, dX10_never_60, dX10_never_61, dX10_never_64, dX10_never_65, dX10_never_68, dX10_never_70, dX10_never_71, dX10_never_74, dX10_never_75, dX10_never_78, dX10_never_80, dX10_never_81, w_flk10_222, w_klk10_133, w_kd_135, w_rf_135_0, w_rf_135_2, w_rf_135_3, w_rf_135_8, w_rf_135_12, w_rf_135_14, w_rf_135_15, w_rf_135_16, w_rf_135_24, w_rf_135_25, w_rf_135_26, w_rf_135_27, w_rf_135_28, w_rf_135_29, w_rf_135_30, w_rf_135_33, w_rf_135_34, w_rf_135_39, w_rf_135_40, w_rf_135_41, w_rf_135_42, lc0, lc1])
      (repeat' (with_reducible (first | refine And.intro ?_ ?_ | intro _))) <;> (try (first | (with_reducible assumption) | (simp only [inI, inL]; omega) | omega))
      all_goals first
        | exact e50 (by omega) (by omega)
        | (refine ⟨?_, hev⟩; unfold nevP; rw [if_neg h2, if_neg (by omega)]; exact ⟨z, g3, fun h => by omega, fun h => ⟨fun h => by omega, fun h => by omega⟩⟩)
    (apply hG [30] 2000; simp only [w_br_i, w_ite, w_all, w_all0, forall_eq, w_b0, w_b1, ↓reduceIte, w_ent, w_pos, List.replicate_succ, List.replicate_zero, wp_s, wk_s, w_lk_c, w_ld0, w_ldS, w_kp0, w_kp, w_s1, w_s2, w_to, w_if, w_call, w_sw, w_cat, w_cats, w_psh, w_fv, List.contains_cons, List.contains_nil, List.set_cons_zero, List.set_cons_succ, List.length_cons, List.length_nil, List.find?_cons, List.find?_nil, List.take_succ_cons, List.take_zero, List.drop_succ_cons, List.drop_zero, List.reverse_cons, List.reverse_nil, List.nil_append, List.cons_append, Option.map_some, Option.map_none, Nat.reduceAdd, Nat.reduceBEq, Nat.reduceEqDiff, Nat.reduceLT, Nat.reduceLeDiff, Nat.reduceSub, Int.reduceAdd, Int.reduceSub, Int.reduceMul, Int.reduceNeg, Int.reduceToNat, Int.reduceLT, Int.reduceLE, Int.reduceEq, Bool.false_eq_true, Bool.or_false, Bool.false_or, Bool.true_or, Bool.or_true, if_true, if_false, ite_true, ite_false, true_and, and_true, false_and, and_false, true_or, or_true, false_or, or_false, Int.cast_ofNat_Int, Int.toNat_natCast, Int.natCast_add, List.getElem?_cons_zero, List.getElem?_cons_succ, true_implies, forall_const, not_true_eq_false, not_false_eq_true, ne_eq, beq_iff_eq, imp_self, List.length_set, Nat.zero_add, Nat.add_zero, Int.zero_add, Int.add_zero, w1_aload_n_0, w1_invokevirtual, w1_ifCond, w1_bipush, w1_ireturn, w1_iload_n_1, w1_i2l, w1_lconst, w1_ldc2_w, w1_invokestatic, w1_iconst, w1_istore_n_2, w1_iload_n_2, w1_if_icmp, w1_goto, w1_isub, w1_getfield, w1_idiv, w1_irem, dX10_never_0, dX10_never_1, dX10_never_4, dX10_never_7, dX10_never_9, dX10_never_10, dX10_never_11, dX10_never_12, dX10_never_13, dX10_never_16, dX10_never_19, dX10_never_22, dX10_never_24, dX10_never_25, dX10_never_26, dX10_never_27, dX10_never_30, dX10_never_31, dX10_never_32, dX10_never_35, dX10_never_36, dX10_never_37, dX10_never_40, dX10_never_41, dX10_never_44, dX10_never_45, dX10_never_48, dX10_never_49, dX10_never_50, dX10_never_51, dX10_never_52, dX10_never_53, dX10_never_54, dX10_never_55, dX10_never_56, dX10_never_59, dX10_never_60, dX10_never_61, dX10_never_64, dX10_never_65, dX10_never_68, dX10_never_70, dX10_never_71, dX10_never_74, dX10_never_75, dX10_never_78, dX10_never_80, dX10_never_81, w_flk10_222, w_klk10_133, w_kd_135, w_rf_135_0, w_rf_135_2, w_rf_135_3, w_rf_135_8, w_rf_135_12, w_rf_135_14, w_rf_135_15, w_rf_135_16, w_rf_135_24, w_rf_135_25, w_rf_135_26, w_rf_135_27, w_rf_135_28, w_rf_135_29, w_rf_135_30, w_rf_135_33, w_rf_135_34, w_rf_135_39, w_rf_135_40, w_rf_135_41, w_rf_135_42, lc0, lc1, hpc])
    (repeat' (with_reducible (first | refine And.intro ?_ ?_ | intro _))) <;> (try (first | (with_reducible assumption) | (simp only [inI, inL]; omega) | omega))
    all_goals exact e30 _ _ (by assumption)
  (apply hG [25] 2000; simp only [w_br_i, w_ite, w_all, w_all0, forall_eq, w_b0, w_b1, ↓reduceIte, w_ent, w_pos, List.replicate_succ, List.replicate_zero, wp_s, wk_s, w_lk_c, w_ld0, w_ldS, w_kp0, w_kp, w_s1, w_s2, w_to, w_if, w_call, w_sw, w_cat, w_cats, w_psh, w_fv, List.contains_cons, List.contains_nil, List.set_cons_zero, List.set_cons_succ, List.length_cons, List.length_nil, List.find?_cons, List.find?_nil, List.take_succ_cons, List.take_zero, List.drop_succ_cons, List.drop_zero, List.reverse_cons, List.reverse_nil, List.nil_append, List.cons_append, Option.map_some, Option.map_none, Nat.reduceAdd, Nat.reduceBEq, Nat.reduceEqDiff, Nat.reduceLT, Nat.reduceLeDiff, Nat.reduceSub, Int.reduceAdd, Int.reduceSub, Int.reduceMul, Int.reduceNeg, Int.reduceToNat, Int.reduceLT, Int.reduceLE, Int.reduceEq, Bool.false_eq_true, Bool.or_false, Bool.false_or, Bool.true_or, Bool.or_true, if_true, if_false, ite_true, ite_false, true_and, and_true, false_and, and_false, true_or, or_true, false_or, or_false, Int.cast_ofNat_Int, Int.toNat_natCast, Int.natCast_add, List.getElem?_cons_zero, List.getElem?_cons_succ, true_implies, forall_const, not_true_eq_false, not_false_eq_true, ne_eq, beq_iff_eq, imp_self, List.length_set, Nat.zero_add, Nat.add_zero, Int.zero_add, Int.add_zero, w1_aload_n_0, w1_invokevirtual, w1_ifCond, w1_bipush, w1_ireturn, w1_iload_n_1, w1_i2l, w1_lconst, w1_ldc2_w, w1_invokestatic, w1_iconst, w1_istore_n_2, w1_iload_n_2, w1_if_icmp, w1_goto, w1_isub, w1_getfield, w1_idiv, w1_irem, dX10_never_0, dX10_never_1, dX10_never_4, dX10_never_7, dX10_never_9, dX10_never_10, dX10_never_11, dX10_never_12, dX10_never_13, dX10_never_16, dX10_never_19, dX10_never_22, dX10_never_24, dX10_never_25, dX10_never_26, dX10_never_27, dX10_never_30, dX10_never_31, dX10_never_32, dX10_never_35, dX10_never_36, dX10_never_37, dX10_never_40, dX10_never_41, dX10_never_44, dX10_never_45, dX10_never_48, dX10_never_49, dX10_never_50, dX10_never_51, dX10_never_52, dX10_never_53, dX10_never_54, dX10_never_55, dX10_never_56, dX10_never_59, dX10_never_60, dX10_never_61, dX10_never_64, dX10_never_65, dX10_never_68, dX10_never_70, dX10_never_71, dX10_never_74, dX10_never_75, dX10_never_78, dX10_never_80, dX10_never_81, w_flk10_222, w_klk10_133, w_kd_135, w_rf_135_0, w_rf_135_2, w_rf_135_3, w_rf_135_8, w_rf_135_12, w_rf_135_14, w_rf_135_15, w_rf_135_16, w_rf_135_24, w_rf_135_25, w_rf_135_26, w_rf_135_27, w_rf_135_28, w_rf_135_29, w_rf_135_30, w_rf_135_33, w_rf_135_34, w_rf_135_39, w_rf_135_40, w_rf_135_41, w_rf_135_42, lc0, lc1, p_X10_lacks, q_X10_lacks, p_X10_in, q_X10_in, hu0, hy1])
  (repeat' (with_reducible (first | refine And.intro ?_ ?_ | intro _))) <;> (try (first | (with_reducible assumption) | (simp only [inI, inL]; omega) | omega))
  all_goals first
    | exact e25 _ (by omega) (by omega)
    | exact ⟨by unfold nevP; (repeat' split) <;> first | rfl | (exfalso; omega), hT0⟩
