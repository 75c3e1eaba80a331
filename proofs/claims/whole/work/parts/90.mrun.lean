/-! the reference's run -/
/-- rule r by its cells, and the plan by the state -/
def rMS (S w : wW) (r m : Nat) (lv wet : Int) : Nat → Int := fun j => if j = 0 then w 141 r else if j = 1 then w 142 r else if j = 2 then w 143 (12 * r + m) else if j = 3 then xA S m (wy S (11 - m)) (wA S (11 - m)) wet.toNat lv.toNat else if j = 4 then gA S m (wy S (11 - m)) (wA S (11 - m)) wet.toNat (lv.toNat + xA S m (wy S (11 - m)) (wA S (11 - m)) wet.toNat lv.toNat) else 200
theorem stF_e {lv wet : Int} (hl : 0 ≤ lv) (hw : wet = 0 ∨ wet = 1) : stF lv wet = 2 * lv.toNat + wet.toNat := by
  unfold stF
  rcases hw with rfl | rfl
  · simp; omega
  · simp; omega
theorem rM_S {S w w1 : wW} {r : Nat} {Z : Int} (hS : hR S) (he : ∀ k i, 141 ≤ k → k ≤ 143 → w1 k i = w k i) (hk : w 141 r = 3 → Z = S 0 1 ∧ mplW S w1) : ∀ m, m < 12 → ∀ lv wet, (0 ≤ lv ∧ lv ≤ Z) → (wet = 0 ∨ wet = 1) → rLk (rM w1 r m lv wet) (rMS S w r m lv wet) := by
  intro m hm lv wet hl hw
  have hSz := hS.2.2.1
  refine ⟨he 141 r (by decide) (by decide), he 142 r (by decide) (by decide), fun _ => he 143 _ (by decide) (by decide), fun h3 => ?_, by show (72 : Int) ≤ 200; decide, by show (72 : Int) ≤ 200; decide⟩
  have h3' : w1 141 r = 3 := h3
  rw [he 141 r (by decide) (by decide)] at h3'
  obtain ⟨hZ, hp⟩ := hk h3'
  have e := hp m (2 * lv.toNat + wet.toNat) hm (by unfold nSt; omega)
  rw [show (2 * lv.toNat + wet.toNat) % 2 = wet.toNat by omega, show (2 * lv.toNat + wet.toNat) / 2 = lv.toNat by omega] at e
  show w1 146 (402 * m + stF lv wet) = _ ∧ w1 147 (402 * m + stF lv wet) = _
  rw [stF_e hl.1 hw]
  exact e
theorem mpl_S {S w1 : wW} {r : Nat} {Z : Int} (hS : hR S) (hk : w1 141 r = 3 → Z = S 0 1 ∧ mplW S w1) : mpl w1 r Z := by
  intro h3 m lv wet hm l1 l2 hw
  have hSz := hS.2.2.1
  obtain ⟨hZ, hp⟩ := hk h3
  have e := hp m (2 * lv.toNat + wet.toNat) hm (by unfold nSt; omega)
  rw [show (2 * lv.toNat + wet.toNat) % 2 = wet.toNat by omega, show (2 * lv.toNat + wet.toNat) / 2 = lv.toNat by omega] at e
  rw [stF_e l1 hw, e.1, e.2]
  have hpN := pNw_in hS m (lv := lv.toNat) (by omega)
  have hx := amF_le (fA S m (wy S (11 - m)) (wA S (11 - m)) wet.toNat lv.toNat) (pNw S m lv.toNat)
  have hx' : xA S m (wy S (11 - m)) (wA S (11 - m)) wet.toNat lv.toNat = amF (fA S m (wy S (11 - m)) (wA S (11 - m)) wet.toNat lv.toNat) (pNw S m lv.toNat) := rfl
  generalize xA S m (wy S (11 - m)) (wA S (11 - m)) wet.toNat lv.toNat = x at *
  have hg := gNa_in hS m (lv.toNat + x)
  have hgl : gA S m (wy S (11 - m)) (wA S (11 - m)) wet.toNat (lv.toNat + x) ≤ gNa S m (lv.toNat + x) := amL_le _ _
  omega
/-- what changes by a run -/
def evG (w w1 : wW) : Prop := ∀ k i, ¬ (144 ≤ k ∧ k ≤ 150) → ¬ (k = 135 ∧ ((17 ≤ i ∧ i ≤ 23) ∨ i = 31)) → w1 k i = w k i
def mgE (S w : wW) (A Z : Int) (r : Nat) : rE := runE S A Z (rMS S w r)
theorem okE_M {S w : wW} {A Z : Int} {r : Nat} (hS : hR S) (hy : yR S) (hA : 0 ≤ A ∧ A ≤ 25) (hZ : 0 ≤ Z ∧ Z ≤ 200) (hr : mrR w r) (hp : mpl w r Z) : okE (runE S A Z (rM w r)) (monthsF S) :=
  ⟨hS, hA, hZ, fun k _ => hS.2.2.2.2.2.1, fun k hk => mY_in hy hk, fun m lv wet hm l1 l2 hw => okr_rM hS hr hp hm ⟨l1, l2⟩ hw⟩
def p_X10_goRun (S : wW) : List wV → wW → Prop := fun av w => match av with
  | [.inr (.inr (some this)), .inl r] => this = 135 ∧ 0 ≤ r ∧ hR S ∧ (yR S ∧ mY S w) ∧ mrR w r.toNat ∧ ∃ A Z, mH S A Z w ∧ (0 ≤ A ∧ A ≤ 25) ∧ (0 ≤ Z ∧ Z ≤ 200) ∧ (w 141 r.toNat = 3 → A = S 0 0 ∧ Z = S 0 1)
  | _ => False
theorem h_X10_goRun (S : wW) : ∀ av w, (p_X10_goRun S) av w → ∃ a r, av = vr a :: r ∧ w_kd a = 100 + 10 := by
  intro av w h
  unfold p_X10_goRun at h
  split at h
  · refine ⟨_, _, rfl, ?_⟩
    first | (rw [h.1]; rfl) | (rw [h]; rfl)
  · exact h.elim
def mgV (S w : wW) (r : Nat) (w' : wW) : Prop := evG w w' ∧ (∀ j, j < 6 → w' 149 j = sm (sV (mgE S w (w 139 0) (w 139 1) r) j) (monthsF S)) ∧ w' 149 6 = (rnQ (mgE S w (w 139 0) (w 139 1) r) (monthsF S)).1 ∧ (∀ u, u < (S 4 0).toNat → w' 150 u = sm (rnS (mgE S w (w 139 0) (w 139 1) r) u) (monthsF S)) ∧ w' 135 31 = rnF (mgE S w (w 139 0) (w 139 1) r) (monthsF S)
def q_X10_goRun (S : wW) : List wV → wW → Int → wW → Prop := fun av w r w' => match av with
  | [.inr (.inr (some this)), .inl r] => mgV S w r.toNat w'
  | _ => False
/-- in the middle of a run, behind k months; w0: the world behind the plan -/
def miV (S w0 : wW) (A Z : Int) (r k : Nat) (w1 : wW) : Prop := evG w0 w1 ∧ (∀ i, w1 146 i = w0 146 i ∧ w1 147 i = w0 147 i) ∧ w1 135 22 = (rnQ (runE S A Z (rM w0 r)) k).1 ∧ (∀ j, j < 6 → w1 149 j = sm (sV (runE S A Z (rM w0 r)) j) k) ∧ (∀ u, u < (S 4 0).toNat → w1 150 u = sm (rnS (runE S A Z (rM w0 r)) u) k) ∧ w1 135 31 = rnF (runE S A Z (rM w0 r)) k
theorem mi_p {S w0 w1 : wW} {A Z : Int} {r k : Nat} (hS : hR S) (hy : yR S) (hY : mY S w0) (hM : mH S A Z w0) (hA : 0 ≤ A ∧ A ≤ 25) (hZ : 0 ≤ Z ∧ Z ≤ 200) (hr : mrR w0 r) (hp : mpl w0 r Z) (hk : k < monthsF S) (h : miV S w0 A Z r k w1) : gmP S w1 A Z r k (rnQ (runE S A Z (rM w0 r)) k).1 (rnQ (runE S A Z (rM w0 r)) k).2 ∧ rM w1 r = rM w0 r := by
  have hQ := rnQ_in (okE_M hS hy hA hZ hr hp) k (by omega)
  have hx : ∀ k i, k < 135 ∨ (136 ≤ k ∧ k ≤ 143) → w1 k i = w0 k i := fun k i hk => h.1 k i (by omega) (by omega)
  have he : ∀ k i, 141 ≤ k → k ≤ 147 → k ≠ 144 → k ≠ 145 → w1 k i = w0 k i := by
    intro k i h1 h2 h3 h4
    by_cases c : k = 146
    · rw [c]; exact (h.2.1 i).1
    · by_cases c2 : k = 147
      · rw [c2]; exact (h.2.1 i).2
      · exact hx k i (by omega)
  refine ⟨⟨hS, hy, mH_of hM (h.1 135 9 (by omega) (by omega)) (fun i => hx 139 i (by omega)), mY_of hY (h.1 135 11 (by omega) (by omega)) (fun i => hx 140 i (by omega)), hA, hZ, mrR_c hr (fun k i h1 h2 => he k i h1 (by omega) (by omega) (by omega)), mpl_c hp he, hk, hQ.1, hQ.2⟩, ?_⟩
  funext m lv wet
  exact rM_c he r m lv wet
theorem mi_q {S w0 w1 w2 : wW} {A Z : Int} {r k : Nat} {v : Int} (hS : hR S) (hM : mH S A Z w0) (hP : gmP S w1 A Z r k (rnQ (runE S A Z (rM w0 r)) k).1 (rnQ (runE S A Z (rM w0 r)) k).2) (hR' : rM w1 r = rM w0 r) (h : miV S w0 A Z r k w1) (hq : q_X10_goMonth S [vr 135, vi r, vi k, vi (rnQ (runE S A Z (rM w0 r)) k).2] w1 v w2) : miV S w0 A Z r (k + 1) w2 := by
  obtain ⟨he, hpl, h22, h149, h150, h31⟩ := h
  have h139 : ∀ i, w1 139 i = w0 139 i := fun i => he 139 i (by omega) (by omega)
  simp only [q_X10_goMonth, Int.toNat_natCast] at hq
  rw [h139, h139, hM.1, hM.2.1, h22] at hq
  obtain ⟨g1, g2, ⟨s0, s1, s2, s3, s4, s5, s6⟩, g4, g5⟩ := hq
  have eB : gB S A Z k (rnQ (runE S A Z (rM w0 r)) k).1 (rnQ (runE S A Z (rM w0 r)) k).2 = rnB (runE S A Z (rM w0 r)) k := rfl
  have eR : gR S w1 A Z r k (rnQ (runE S A Z (rM w0 r)) k).1 (rnQ (runE S A Z (rM w0 r)) k).2 = rnR (runE S A Z (rM w0 r)) k := by
    unfold gR rnR
    rw [hR', eB]
    rfl
  have eK : gK S w1 A Z r k (rnQ (runE S A Z (rM w0 r)) k).1 (rnQ (runE S A Z (rM w0 r)) k).2 = rnK (runE S A Z (rM w0 r)) k := by
    unfold gK rnK
    rw [eR, eB]
    rfl
  have eC : gC S A k (rnQ (runE S A Z (rM w0 r)) k).2 = rnC (runE S A Z (rM w0 r)) k := rfl
  rw [eR, eB] at g2 s2 s4
  rw [eK] at s0 s1 g5
  rw [eC] at s3 s5
  refine ⟨fun k i h1 h2 => ?_, fun i => ?_, ?_, fun j hj => ?_, fun u hu => ?_, ?_⟩
  · rw [g1 k i (by omega) (by omega) (by omega) h2]; exact he k i h1 h2
  · rw [g1 146 i (by omega) (by omega) (by omega) (by omega), g1 147 i (by omega) (by omega) (by omega) (by omega)]; exact hpl i
  · rw [g2, rnQ_s]; rfl
  · have hj' : j = 0 ∨ j = 1 ∨ j = 2 ∨ j = 3 ∨ j = 4 ∨ j = 5 := by omega
    rcases hj' with rfl | rfl | rfl | rfl | rfl | rfl
    · rw [s0, h149 0 (by decide)]; rfl
    · rw [s1, h149 1 (by decide)]; rfl
    · rw [s2, h149 2 (by decide)]; rfl
    · rw [s3, h149 3 (by decide)]; rfl
    · rw [s4, h149 4 (by decide)]; rfl
    · rw [s5, h149 5 (by decide)]; rfl
  · rw [g4 u hu, h150 u hu, eR, eB]; rfl
  · rw [g5, h31]
    simp only [rnF]
    by_cases c : 0 < rnK (runE S A Z (rM w0 r)) k ∧ rnF (runE S A Z (rM w0 r)) k = -1
    · rw [if_pos c, if_pos ⟨c.2, c.1⟩]
    · rw [if_neg c, if_neg (fun z => c ⟨z.2, z.1⟩)]
set_option maxRecDepth 100000 in
set_option maxHeartbeats 4000000 in
theorem c_X10_goRun (S : wW) : w_Ct yX10_goRun cX10_goRun 4 0 5 134 (p_X10_goRun S) (q_X10_goRun S) := by
  refine w_met (own := RX10) (fl := w_fl10) (gs := w_gs10) (kl := w_kl10) (ki := w_ki10) (cs := [(219, (0, 1, 0, (p_X10_layWise S), (q_X10_layWise S))), (225, (0, 4, 0, (p_X10_goMonth S), (q_X10_goMonth S)))]) (by decide +kernel) rfl ?_ w_flok10 w_gsok10 w_klok10 w_kiok10 ?_ ?_
  · intro av w h
    unfold p_X10_goRun at h
    split at h
    · simp [w_pos, w_cat]
    · exact h.elim
  · exact List.forall_mem_cons.mpr ⟨⟨_, _, w_callV (own := RX10) (idx := 219) (ci := 10) (c_X10_layWise S) rfl rfl (h_X10_layWise S) (w_m5 109 (by decide +kernel) (by decide +kernel)) (w_m5 111 (by decide +kernel) (by decide +kernel)) (w_m0 39 (by decide +kernel) (by decide +kernel)) (w_m1 12 (by decide +kernel) (by decide +kernel)) (w_m5 112 (by decide +kernel) (by decide +kernel)) ⟨by decide +kernel, by decide +kernel, by decide +kernel⟩, by decide, by decide⟩, List.forall_mem_cons.mpr ⟨⟨_, _, w_callV (own := RX10) (idx := 225) (ci := 10) (c_X10_goMonth S) rfl rfl (h_X10_goMonth S) (w_m5 148 (by decide +kernel) (by decide +kernel)) (w_m5 150 (by decide +kernel) (by decide +kernel)) (w_m0 48 (by decide +kernel) (by decide +kernel)) (w_m1 12 (by decide +kernel) (by decide +kernel)) (w_m5 151 (by decide +kernel) (by decide +kernel)) ⟨by decide +kernel, by decide +kernel, by decide +kernel⟩, by decide, by decide⟩, fun _ h => absurd h List.not_mem_nil⟩⟩
  intro av w hp
  unfold p_X10_goRun at hp
  split at hp
  case h_2 => exact hp.elim
  rename_i this r
  intro G hG
  simp only [w_ent, w_pos, w_cat, Nat.reduceEqDiff, ↓reduceIte, List.length_cons, List.length_nil, Nat.reduceAdd, Nat.reduceSub, List.cons_append, List.nil_append, List.replicate_succ, List.replicate_zero]
  obtain ⟨rfl, hr0, hS, ⟨hy, hY⟩, hr, A, Z, hM, hA, hZ, hk3⟩ := hp
  obtain ⟨r, rfl⟩ : ∃ n : Nat, r = n := ⟨r.toNat, by omega⟩
  simp only [Int.toNat_natCast] at hr hk3
  have hyc := hy.1
  obtain ⟨hr8, hk, -⟩ := id hr
  have hmon : monthsF S ≤ 96 := by unfold monthsF; omega
  obtain ⟨ny, hny⟩ : ∃ n : Nat, S 4 1 = n := ⟨(S 4 1).toNat, by omega⟩
  have hmny : (monthsF S : Int) = 12 * ny := by unfold monthsF; omega
  -- from behind the plan
  have e14 : ∀ w0, evL w w0 → (w 141 r = 3 → mplW S w0) → ∀ x2 x3, G 14 [some (vr 135), some (vi r), x2, x3] [] w0 := by
    intro w0 hev hplan x2 x3
    have h139 : ∀ i, w0 139 i = w 139 i := fun i => hev 139 i (by omega) (by omega)
    have he : ∀ k i, 141 ≤ k → k ≤ 143 → w0 k i = w k i := fun k i h1 h2 => hev k i (by omega) (by omega)
    have hM0 : mH S A Z w0 := mH_of hM (hev 135 9 (by omega) (by omega)) h139
    have hY0 : mY S w0 := mY_of hY (hev 135 11 (by omega) (by omega)) (fun i => hev 140 i (by omega) (by omega))
    have hr0' : mrR w0 r := mrR_c hr he
    have hp0 : mpl w0 r Z := mpl_S hS (fun h3 => by rw [he 141 _ (by decide) (by decide)] at h3; exact ⟨(hk3 h3).2, hplan h3⟩)
    have hok := okE_M hS hy hA hZ hr0' hp0
    have hlk := rM_S (Z := Z) hS he (fun h3 => ⟨(hk3 h3).2, hplan h3⟩)
    have fin : ∀ w1, miV S w0 A Z r (monthsF S) w1 → q_X10_goRun S [vr 135, vi r] w 0 (w_up w1 149 6 (w1 135 22)) := by
      intro w1 h1
      obtain ⟨g1, g2, g3, g4, g5, g6⟩ := h1
      simp only [q_X10_goRun, Int.toNat_natCast]
      unfold mgV
      rw [hM.1, hM.2.1]
      refine ⟨fun k i h1 h2 => ?_, fun j hj => ?_, ?_, fun u hu => ?_, ?_⟩
      · rw [up_k (by omega), g1 k i h1 h2]; exact hev k i (by omega) (by omega)
      · rw [up_ne (by omega), g4 j hj]; exact sV_like hok hlk j
      · rw [up_eq, g3]; exact congrArg Prod.fst (rnQ_like hok hlk (monthsF S) (Nat.le_refl _))
      · rw [up_k (by decide), g5 u hu]; exact sm_c _ (fun k hk => (rn_like hok hlk k hk).2.2.2.2.1 u)
      · rw [up_k (by decide), g6]; exact rnF_c _ (fun k hk => (rn_like hok hlk k hk).2.2.1)
    have loop : ∀ d k : Nat, k + d = monthsF S → ∀ w1, miV S w0 A Z r k w1 → G 74 [some (vr 135), some (vi r), some (vi (rnQ (runE S A Z (rM w0 r)) k).2), some (vi k)] [] w1 := by
      intro d
      induction d with
      | zero =>
        intro k hk w1 hw1
        have e : k = monthsF S := by omega
        have f := fin w1 (by rw [← e]; exact hw1)
        have c11 : w1 135 11 = ny := by rw [hw1.1 135 11 (by omega) (by omega), hY0.1, hny]
        (apply hG [74, 16, 37] 2000; simp only [w_br_i, w_ite, w_all, w_all0, forall_eq, w_b0, w_b1, ↓reduceIte, w_ent, w_pos, List.replicate_succ, List.replicate_zero, wp_s, wk_s, w_lk_c, w_ld0, w_ldS, w_kp0, w_kp, w_s1, w_s2, w_to, w_if, w_call, w_sw, w_cat, w_cats, w_psh, w_fv, List.contains_cons, List.contains_nil, List.set_cons_zero, List.set_cons_succ, List.length_cons, List.length_nil, List.find?_cons, List.find?_nil, List.take_succ_cons, List.take_zero, List.drop_succ_cons, List.drop_zero, List.reverse_cons, List.reverse_nil, List.nil_append, List.cons_append, Option.map_some, Option.map_none, Nat.reduceAdd, Nat.reduceBEq, Nat.reduceEqDiff, Nat.reduceLT, Nat.reduceLeDiff, Nat.reduceSub, Int.reduceAdd, Int.reduceSub, Int.reduceMul, Int.reduceNeg, Int.reduceToNat, Int.reduceLT, Int.reduceLE, Int.reduceEq, Bool.false_eq_true, Bool.or_false, Bool.false_or, Bool.true_or, Bool.or_true, if_true, if_false, ite_true, ite_false, true_and, and_true, false_and, and_false, true_or, or_true, false_or, or_false, Int.cast_ofNat_Int, Int.toNat_natCast, Int.natCast_add, List.getElem?_cons_zero, List.getElem?_cons_succ, true_implies, forall_const, not_true_eq_false, not_false_eq_true, ne_eq, beq_iff_eq, imp_self, List.length_set, Nat.zero_add, Nat.add_zero, Int.zero_add, Int.add_zero, w1_aload_n_0, w1_getfield, w1_iload_n_1, w1_iaload, w1_iconst, w1_if_icmp, w1_invokevirtual, w1_istore_n_2, w1_iload_n_2, w1_bipush, w1_iastore, w1_iinc, w1_goto, w1_putfield, w1_putfield2, w1_istore_n_3, w1_iload_n_3, w1_imul, w1_ifCond, w1_return, dX10_goRun_0, dX10_goRun_1, dX10_goRun_4, dX10_goRun_5, dX10_goRun_6, dX10_goRun_7, dX10_goRun_10, dX10_goRun_11, dX10_goRun_14, dX10_goRun_15, dX10_goRun_16, dX10_goRun_17, dX10_goRun_19, dX10_goRun_22, dX10_goRun_23, dX10_goRun_26, dX10_goRun_27, dX10_goRun_28, dX10_goRun_29, dX10_goRun_32, dX10_goRun_35, dX10_goRun_36, dX10_goRun_37, dX10_goRun_38, dX10_goRun_39, dX10_goRun_42, dX10_goRun_43, dX10_goRun_46, dX10_goRun_47, dX10_goRun_48, dX10_goRun_49, dX10_goRun_52, dX10_goRun_55, dX10_goRun_56, dX10_goRun_57, dX10_goRun_60, dX10_goRun_61, dX10_goRun_62, dX10_goRun_65, dX10_goRun_66, dX10_goRun_67, dX10_goRun_70, dX10_goRun_71, dX10_goRun_72, dX10_goRun_73, dX10_goRun_74, dX10_goRun_75, dX10_goRun_77, dX10_goRun_78, dX10_goRun_81, dX10_goRun_82, dX10_goRun_85, dX10_goRun_86, dX10_goRun_87, dX10_goRun_88, dX10_goRun_89, dX10_goRun_92, dX10_goRun_93, dX10_goRun_96, dX10_goRun_97, dX10_goRun_98, dX10_goRun_101, dX10_goRun_102, dX10_goRun_105, dX10_goRun_106, dX10_goRun_107, dX10_goRun_110, dX10_goRun_113, dX10_goRun_114, dX10_goRun_117, dX10_goRun_119, dX10_goRun_120, dX10_goRun_123, dX10_goRun_124, w_flk10_144, w_flk10_168, w_flk10_19, w_flk10_22, w_flk10_25, w_flk10_50, w_flk10_53, w_flk10_222, w_kd_135, w_rf_135_0, w_rf_135_2, w_rf_135_3, w_rf_135_8, w_rf_135_12, w_rf_135_14, w_rf_135_15, w_rf_135_16, w_rf_135_24, w_rf_135_25, w_rf_135_26, w_rf_135_27, w_rf_135_28, w_rf_135_29, w_rf_135_30, w_rf_135_33, w_rf_135_34, w_rf_135_39, w_rf_135_40, w_rf_135_41, w_rf_135_42, w_kd_149, w_ln_149, c11])
        (repeat' (with_reducible (first | refine And.intro ?_ ?_ | intro _))) <;> (try (first | (with_reducible assumption) | (simp only [inI, inL]; omega) | omega))
        all_goals first
          | (exfalso; omega)
          | exact f
      | succ d ih =>
        intro k hk w1 hw1
        have hkm : k < monthsF S := by omega
        obtain ⟨hP, hR'⟩ := mi_p hS hy hY0 hM0 hA hZ hr0' hp0 hkm hw1
        have hQ2 := (rnQ_in hok k (by omega)).2
        have c11 : w1 135 11 = ny := by rw [hw1.1 135 11 (by omega) (by omega), hY0.1, hny]
        have hrn := mY_in hy hkm
        have hF := rnF_in (runE S A Z (rM w0 r)) k
        have hpc : p_X10_goMonth S [vr 135, vi r, vi k, vi (rnQ (runE S A Z (rM w0 r)) k).2] w1 := ⟨rfl, by omega, by omega, ⟨A, Z, by rw [Int.toNat_natCast, Int.toNat_natCast, hw1.2.2.1]; exact hP⟩, by rw [hw1.2.2.2.2.2]; exact ⟨by omega, by omega⟩⟩
        have e92 : ∀ v w2, q_X10_goMonth S [vr 135, vi r, vi k, vi (rnQ (runE S A Z (rM w0 r)) k).2] w1 v w2 → G 92 [some (vr 135), some (vi r), some (vi (rnQ (runE S A Z (rM w0 r)) k).2), some (vi k)] [] w2 := by
          intro v w2 hq
          have h2 := mi_q hS hM0 hP hR' hw1 hq
          have c140 : w2 140 k = rainF S k := by rw [h2.1 140 k (by omega) (by omega)]; exact hY0.2 k hkm
          have e := ih (k + 1) (by omega) w2 h2
          have hwf : (rnQ (runE S A Z (rM w0 r)) (k + 1)).2 = wetF (rainF S k) := rfl
          rw [hwf] at e
          unfold wetF at e
          simp only [Int.natCast_add, Int.cast_ofNat_Int] at e
          by_cases q : 0 < rainF S k
          · rw [if_pos q] at e
            (apply hG [74, 16, 37] 2000; simp only [w_br_i, w_ite, w_all, w_all0, forall_eq, w_b0, w_b1, ↓reduceIte, w_ent, w_pos, List.replicate_succ, List.replicate_zero, wp_s, wk_s, w_lk_c, w_ld0, w_ldS, w_kp0, w_kp, w_s1, w_s2, w_to, w_if, w_call, w_sw, w_cat, w_cats, w_psh, w_fv, List.contains_cons, List.contains_nil, List.set_cons_zero, List.set_cons_succ, List.length_cons, List.length_nil, List.find?_cons, List.find?_nil, List.take_succ_cons, List.take_zero, List.drop_succ_cons, List.drop_zero, List.reverse_cons, List.reverse_nil, List.nil_append, List.cons_append, Option.map_some, Option.map_none, Nat.reduceAdd, Nat.reduceBEq, Nat.reduceEqDiff, Nat.reduceLT, Nat.reduceLeDiff, Nat.reduceSub, Int.reduceAdd, Int.reduceSub, Int.reduceMul, Int.reduceNeg, Int.reduceToNat, Int.reduceLT, Int.reduceLE, Int.reduceEq, Bool.false_eq_true, Bool.or_false, Bool.false_or, Bool.true_or, Bool.or_true, if_true, if_false, ite_true, ite_false, true_and, and_true, false_and, and_false, true_or, or_true, false_or, or_false, Int.cast_ofNat_Int, Int.toNat_natCast, Int.natCast_add, List.getElem?_cons_zero, List.getElem?_cons_succ, true_implies, forall_const, not_true_eq_false, not_false_eq_true, ne_eq, beq_iff_eq, imp_self, List.length_set, Nat.zero_add, Nat.add_zero, Int.zero_add, Int.add_zero, w1_aload_n_0, w1_getfield, w1_iload_n_1, w1_iaload, w1_iconst, w1_if_icmp, w1_invokevirtual, w1_istore_n_2, w1_iload_n_2, w1_bipush, w1_iastore, w1_iinc, w1_goto, w1_putfield, w1_putfield2, w1_istore_n_3, w1_iload_n_3, w1_imul, w1_ifCond, w1_return, dX10_goRun_0, dX10_goRun_1, dX10_goRun_4, dX10_goRun_5, dX10_goRun_6, dX10_goRun_7, dX10_goRun_10, dX10_goRun_11, dX10_goRun_14, dX10_goRun_15, dX10_goRun_16, dX10_goRun_17, dX10_goRun_19, dX10_goRun_22, dX10_goRun_23, dX10_goRun_26, dX10_goRun_27, dX10_goRun_28, dX10_goRun_29, dX10_goRun_32, dX10_goRun_35, dX10_goRun_36, dX10_goRun_37, dX10_goRun_38, dX10_goRun_39, dX10_goRun_42, dX10_goRun_43, dX10_goRun_46, dX10_goRun_47, dX10_goRun_48, dX10_goRun_49, dX10_goRun_52, dX10_goRun_55, dX10_goRun_56, dX10_goRun_57, dX10_goRun_60, dX10_goRun_61, dX10_goRun_62, dX10_goRun_65, dX10_goRun_66, dX10_goRun_67, dX10_goRun_70, dX10_goRun_71, dX10_goRun_72, dX10_goRun_73, dX10_goRun_74, dX10_goRun_75, dX10_goRun_77, dX10_goRun_78, dX10_goRun_81, dX10_goRun_82, dX10_goRun_85, dX10_goRun_86, dX10_goRun_87, dX10_goRun_88, dX10_goRun_89, dX10_goRun_92, dX10_goRun_93, dX10_goRun_96, dX10_goRun_97, dX10_goRun_98, dX10_goRun_101, dX10_goRun_102, dX10_goRun_105, dX10_goRun_106, dX10_goRun_107, dX10_goRun_110, dX10_goRun_113, dX10_goRun_114, dX10_goRun_117, dX10_goRun_119, dX10_goRun_120, dX10_goRun_123, dX10_goRun_124, w_flk10_144, w_flk10_168, w_flk10_19, w_flk10_22, w_flk10_25, w_flk10_50, w_flk10_53, w_flk10_222, w_kd_135, w_rf_135_0, w_rf_135_2, w_rf_135_3, w_rf_135_8, w_rf_135_12, w_rf_135_14, w_rf_135_15, w_rf_135_16, w_rf_135_24, w_rf_135_25, w_rf_135_26, w_rf_135_27, w_rf_135_28, w_rf_135_29, w_rf_135_30, w_rf_135_33, w_rf_135_34, w_rf_135_39, w_rf_135_40, w_rf_135_41, w_rf_135_42, w_kd_140, w_ln_140, c140])
            (repeat' (with_reducible (first | refine And.intro ?_ ?_ | intro _))) <;> (try (first | (with_reducible assumption) | (simp only [inI, inL]; omega) | omega))
            all_goals first
              | exact e
              | (exfalso; omega)
          · rw [if_neg q] at e
            (apply hG [74, 16, 37] 2000; simp only [w_br_i, w_ite, w_all, w_all0, forall_eq, w_b0, w_b1, ↓reduceIte, w_ent, w_pos, List.replicate_succ, List.replicate_zero, wp_s, wk_s, w_lk_c, w_ld0, w_ldS, w_kp0, w_kp, w_s1, w_s2, w_to, w_if, w_call, w_sw, w_cat, w_cats, w_psh, w_fv, List.contains_cons, List.contains_nil, List.set_cons_zero, List.set_cons_succ, List.length_cons, List.length_nil, List.find?_cons, List.find?_nil, List.take_succ_cons, List.take_zero, List.drop_succ_cons, List.drop_zero, List.reverse_cons, List.reverse_nil, List.nil_append, List.cons_append, Option.map_some, Option.map_none, Nat.reduceAdd, Nat.reduceBEq, Nat.reduceEqDiff, Nat.reduceLT, Nat.reduceLeDiff, Nat.reduceSub, Int.reduceAdd, Int.reduceSub, Int.reduceMul, Int.reduceNeg, Int.reduceToNat, Int.reduceLT, Int.reduceLE, Int.reduceEq, Bool.false_eq_true, Bool.or_false, Bool.false_or, Bool.true_or, Bool.or_true, if_true, if_false, ite_true, ite_false, true_and, and_true, false_and, and_false, true_or, or_true, false_or, or_false, Int.cast_ofNat_Int, Int.toNat_natCast, Int.natCast_add, List.getElem?_cons_zero, List.getElem?_cons_succ, true_implies, forall_const, not_true_eq_false, not_false_eq_true, ne_eq, beq_iff_eq, imp_self, List.length_set, Nat.zero_add, Nat.add_zero, Int.zero_add, Int.add_zero, w1_aload_n_0, w1_getfield, w1_iload_n_1, w1_iaload, w1_iconst, w1_if_icmp, w1_invokevirtual, w1_istore_n_2, w1_iload_n_2, w1_bipush, w1_iastore, w1_iinc, w1_goto, w1_putfield, w1_putfield2, w1_istore_n_3, w1_iload_n_3, w1_imul, w1_ifCond, w1_return, dX10_goRun_0, dX10_goRun_1, dX10_goRun_4, dX10_goRun_5, dX10_goRun_6, dX10_goRun_7, dX10_goRun_10, dX10_goRun_11, dX10_goRun_14, dX10_goRun_15, dX10_goRun_16, dX10_goRun_17, dX10_goRun_19, dX10_goRun_22, dX10_goRun_23, dX10_goRun_26, dX10_goRun_27, dX10_goRun_28, dX10_goRun_29, dX10_goRun_32, dX10_goRun_35, dX10_goRun_36, dX10_goRun_37, dX10_goRun_38, dX10_goRun_39, dX10_goRun_42, dX10_goRun_43, dX10_goRun_46, dX10_goRun_47, dX10_goRun_48, dX10_goRun_49, dX10_goRun_52, dX10_goRun_55, dX10_goRun_56, dX10_goRun_57, dX10_goRun_60, dX10_goRun_61, dX10_goRun_62, dX10_goRun_65, dX10_goRun_66, dX10_goRun_67, dX10_goRun_70, dX10_goRun_71, dX10_goRun_72, dX10_goRun_73, dX10_goRun_74, dX10_goRun_75, dX10_goRun_77, dX10_goRun_78, dX10_goRun_81, dX10_goRun_82, dX10_goRun_85, dX10_goRun_86, dX10_goRun_87, dX10_goRun_88, dX10_goRun_89, dX10_goRun_92, dX10_goRun_93, dX10_goRun_96, dX10_goRun_97, dX10_goRun_98, dX10_goRun_101, dX10_goRun_102, dX10_goRun_105, dX10_goRun_106, dX10_goRun_107, dX10_goRun_110, dX10_goRun_113, dX10_goRun_114, dX10_goRun_117, dX10_goRun_119, dX10_goRun_120, dX10_goRun_123, dX10_goRun_124, w_flk10_144, w_flk10_168, w_flk10_19, w_flk10_22, w_flk10_25, w_flk10_50, w_flk10_53, w_flk10_222, w_kd_135, w_rf_135_0, w_rf_135_2, w_rf_135_3, w_rf_135_8, w_rf_135_12, w_rf_135_14, w_rf_135_15, w_rf_135_16, w_rf_135_24, w_rf_135_25, w_rf_135_26, w_rf_135_27, w_rf_135_28, w_rf_135_29, w_rf_135_30, w_rf_135_33, w_rf_135_34, w_rf_135_39, w_rf_135_40, w_rf_135_41, w_rf_135_42, w_kd_140, w_ln_140, c140])
            (repeat' (with_reducible (first | refine And.intro ?_ ?_ | intro _))) <;> (try (first | (with_reducible assumption) | (simp only [inI, inL]; omega) | omega))
            all_goals first
              | exact e
              | (exfalso; omega)
        (apply hG [74, 92, 16, 37] 2000; simp only [w_br_i, w_ite, w_all, w_all0, forall_eq, w_b0, w_b1, ↓reduceIte, w_ent, w_pos, List.replicate_succ, List.replicate_zero, wp_s, wk_s, w_lk_c, w_ld0, w_ldS, w_kp0, w_kp, w_s1, w_s2, w_to, w_if, w_call, w_sw, w_cat, w_cats, w_psh, w_fv, List.contains_cons, List.contains_nil, List.set_cons_zero, List.set_cons_succ, List.length_cons, List.length_nil, List.find?_cons, List.find?_nil, List.take_succ_cons, List.take_zero, List.drop_succ_cons, List.drop_zero, List.reverse_cons, List.reverse_nil, List.nil_append, List.cons_append, Option.map_some, Option.map_none, Nat.reduceAdd, Nat.reduceBEq, Nat.reduceEqDiff, Nat.reduceLT, Nat.reduceLeDiff, Nat.reduceSub, Int.reduceAdd, Int.reduceSub, Int.reduceMul, Int.reduceNeg, Int.reduceToNat, Int.reduceLT, Int.reduceLE, Int.reduceEq, Bool.false_eq_true, Bool.or_false, Bool.false_or, Bool.true_or, Bool.or_true, if_true, if_false, ite_true, ite_false, true_and, and_true, false_and, and_false, true_or, or_true, false_or, or_false, Int.cast_ofNat_Int, Int.toNat_natCast, Int.natCast_add, List.getElem?_cons_zero, List.getElem?_cons_succ, true_implies, forall_const, not_true_eq_false, not_false_eq_true, ne_eq, beq_iff_eq, imp_self, List.length_set, Nat.zero_add, Nat.add_zero, Int.zero_add, Int.add_zero, w1_aload_n_0, w1_getfield, w1_iload_n_1, w1_iaload, w1_iconst, w1_if_icmp, w1_invokevirtual, w1_istore_n_2, w1_iload_n_2, w1_bipush, w1_iastore, w1_iinc, w1_goto, w1_putfield, w1_putfield2, w1_istore_n_3, w1_iload_n_3, w1_imul, w1_ifCond, w1_return, dX10_goRun_0, dX10_goRun_1, dX10_goRun_4, dX10_goRun_5, dX10_goRun_6, dX10_goRun_7, dX10_goRun_10, dX10_goRun_11, dX10_goRun_14, dX10_goRun_15, dX10_goRun_16, dX10_goRun_17, dX10_goRun_19, dX10_goRun_22, dX10_goRun_23, dX10_goRun_26, dX10_goRun_27, dX10_goRun_28, dX10_goRun_29, dX10_goRun_32, dX10_goRun_35, dX10_goRun_36, dX10_goRun_37, dX10_goRun_38, dX10_goRun_39, dX10_goRun_42, dX10_goRun_43, dX10_goRun_46, dX10_goRun_47, dX10_goRun_48, dX10_goRun_49, dX10_goRun_52, dX10_goRun_55, dX10_goRun_56, dX10_goRun_57, dX10_goRun_60, dX10_goRun_61, dX10_goRun_62, dX10_goRun_65, dX10_goRun_66, dX10_goRun_67, dX10_goRun_70, dX10_goRun_71, dX10_goRun_72, dX10_goRun_73, dX10_goRun_74, dX10_goRun_75, dX10_goRun_77, dX10_goRun_78, dX10_goRun_81, dX10_goRun_82, dX10_goRun_85, dX10_goRun_86, dX10_goRun_87, dX10_goRun_88, dX10_goRun_89, dX10_goRun_92, dX10_goRun_93, dX10_goRun_96, dX10_goRun_97, dX10_goRun_98, dX10_goRun_101, dX10_goRun_102, dX10_goRun_105, dX10_goRun_106, dX10_goRun_107, dX10_goRun_110, dX10_goRun_113, dX10_goRun_114, dX10_goRun_117, dX10_goRun_119, dX10_goRun_120, dX10_goRun_123, dX10_goRun_124, w_flk10_144, w_flk10_168, w_flk10_19, w_flk10_22, w_flk10_25, w_flk10_50, w_flk10_53, w_flk10_222, w_kd_135, w_rf_135_0, w_rf_135_2, w_rf_135_3, w_rf_135_8, w_rf_135_12, w_rf_135_14, w_rf_135_15, w_rf_135_16, w_rf_135_24, w_rf_135_25, w_rf_135_26, w_rf_135_27, w_rf_135_28, w_rf_135_29, w_rf_135_30, w_rf_135_33, w_rf_135_34, w_rf_135_39, w_rf_135_40, w_rf_135_41, w_rf_135_42, c11, hpc])
        (repeat' (with_reducible (first | refine And.intro ?_ ?_ | intro _))) <;> (try (first | (with_reducible assumption) | (simp only [inI, inL]; omega) | omega))
        all_goals first
          | exact e92 _ _ (by assumption)
          | (exfalso; omega)
    have z2 : ∀ w1, w1 = wfl (wfl w0 149 7 0) 150 3 0 → ∀ x2 x3, G 55 [some (vr 135), some (vi r), x2, x3] [] w1 := by
      intro w1 hw1 x2 x3
      have c1 : w_up w1 135 31 (-1) 139 1 = Z := by rw [up_k (by decide), hw1, wfl_x (by decide), wfl_x (by decide), hM0.2.1]
      have e := loop (monthsF S) 0 (by omega) (w_up (w_up w1 135 31 (-1)) 135 22 Z) (by
        refine ⟨fun k i h1 h2 => ?_, fun i => ?_, ?_, fun j hj => ?_, fun u hu => ?_, ?_⟩
        · rw [up_ne (by omega), up_ne (by omega), hw1, wfl_x (by omega), wfl_x (by omega)]
        · rw [up_k (by decide), up_k (by decide), up_k (by decide), up_k (by decide), hw1, wfl_x (by decide), wfl_x (by decide), wfl_x (by decide), wfl_x (by decide)]; exact ⟨rfl, rfl⟩
        · rw [up_eq]; rfl
        · rw [up_k (by decide), up_k (by decide), hw1, wfl_x (by decide), wfl_a (by omega)]; rfl
        · rw [up_k (by decide), up_k (by decide), hw1, wfl_a (by have := hS.1; omega)]; rfl
        · rw [up_ne (by decide), up_eq]; rfl)
      have hq0 : (rnQ (runE S A Z (rM w0 r)) 0).2 = 1 := rfl
      rw [hq0] at e
      simp only [Int.cast_ofNat_Int] at e
      (apply hG [74, 16, 37] 2000; simp only [w_br_i, w_ite, w_all, w_all0, forall_eq, w_b0, w_b1, ↓reduceIte, w_ent, w_pos, List.replicate_succ, List.replicate_zero, wp_s, wk_s, w_lk_c, w_ld0, w_ldS, w_kp0, w_kp, w_s1, w_s2, w_to, w_if, w_call, w_sw, w_cat, w_cats, w_psh, w_fv, List.contains_cons, List.contains_nil, List.set_cons_zero, List.set_cons_succ, List.length_cons, List.length_nil, List.find?_cons, List.find?_nil, List.take_succ_cons, List.take_zero, List.drop_succ_cons, List.drop_zero, List.reverse_cons, List.reverse_nil, List.nil_append, List.cons_append, Option.map_some, Option.map_none, Nat.reduceAdd, Nat.reduceBEq, Nat.reduceEqDiff, Nat.reduceLT, Nat.reduceLeDiff, Nat.reduceSub, Int.reduceAdd, Int.reduceSub, Int.reduceMul, Int.reduceNeg, Int.reduceToNat, Int.reduceLT, Int.reduceLE, Int.reduceEq, Bool.false_eq_true, Bool.or_false, Bool.false_or, Bool.true_or, Bool.or_true, if_true, if_false, ite_true, ite_false, true_and, and_true, false_and, and_false, true_or, or_true, false_or, or_false, Int.cast_ofNat_Int, Int.toNat_natCast, Int.natCast_add, List.getElem?_cons_zero, List.getElem?_cons_succ, true_implies, forall_const, not_true_eq_false, not_false_eq_true, ne_eq, beq_iff_eq, imp_self, List.length_set, Nat.zero_add, Nat.add_zero, Int.zero_add, Int.add_zero, w1_aload_n_0, w1_getfield, w1_iload_n_1, w1_iaload, w1_iconst, w1_if_icmp, w1_invokevirtual, w1_istore_n_2, w1_iload_n_2, w1_bipush, w1_iastore, w1_iinc, w1_goto, w1_putfield, w1_putfield2, w1_istore_n_3, w1_iload_n_3, w1_imul, w1_ifCond, w1_return, dX10_goRun_0, dX10_goRun_1, dX10_goRun_4, dX10_goRun_5, dX10_goRun_6, dX10_goRun_7, dX10_goRun_10, dX10_goRun_11, dX10_goRun_14, dX10_goRun_15, dX10_goRun_16, dX10_goRun_17, dX10_goRun_19, dX10_goRun_22, dX10_goRun_23, dX10_goRun_26, dX10_goRun_27, dX10_goRun_28, dX10_goRun_29, dX10_goRun_32, dX10_goRun_35, dX10_goRun_36, dX10_goRun_37, dX10_goRun_38, dX10_goRun_39, dX10_goRun_42, dX10_goRun_43, dX10_goRun_46, dX10_goRun_47, dX10_goRun_48, dX10_goRun_49, dX10_goRun_52, dX10_goRun_55, dX10_goRun_56, dX10_goRun_57, dX10_goRun_60, dX10_goRun_61, dX10_goRun_62, dX10_goRun_65, dX10_goRun_66, dX10_goRun_67, dX10_goRun_70, dX10_goRun_71, dX10_goRun_72, dX10_goRun_73, dX10_goRun_74, dX10_goRun_75, dX10_goRun_77, dX10_goRun_78, dX10_goRun_81, dX10_goRun_82, dX10_goRun_85, dX10_goRun_86, dX10_goRun_87, dX10_goRun_88, dX10_goRun_89, dX10_goRun_92, dX10_goRun_93, dX10_goRun_96, dX10_goRun_97, dX10_goRun_98, dX10_goRun_101, dX10_goRun_102, dX10_goRun_105, dX10_goRun_106, dX10_goRun_107, dX10_goRun_110, dX10_goRun_113, dX10_goRun_114, dX10_goRun_117, dX10_goRun_119, dX10_goRun_120, dX10_goRun_123, dX10_goRun_124, w_flk10_144, w_flk10_168, w_flk10_19, w_flk10_22, w_flk10_25, w_flk10_50, w_flk10_53, w_flk10_222, w_kd_135, w_rf_135_0, w_rf_135_2, w_rf_135_3, w_rf_135_8, w_rf_135_12, w_rf_135_14, w_rf_135_15, w_rf_135_16, w_rf_135_24, w_rf_135_25, w_rf_135_26, w_rf_135_27, w_rf_135_28, w_rf_135_29, w_rf_135_30, w_rf_135_33, w_rf_135_34, w_rf_135_39, w_rf_135_40, w_rf_135_41, w_rf_135_42, w_kd_139, w_ln_139, c1])
      (repeat' (with_reducible (first | refine And.intro ?_ ?_ | intro _))) <;> (try (first | (with_reducible assumption) | (simp only [inI, inL]; omega) | omega))
      all_goals first
        | exact e
        | (exfalso; omega)
    have z1 : ∀ d i : Nat, i + d = 3 → ∀ x3, G 37 [some (vr 135), some (vi r), some (vi i), x3] [] (wfl (wfl w0 149 7 0) 150 i 0) := by
      intro d
      induction d with
      | zero =>
        intro i hi x3
        have e : i = 3 := by omega
        subst e
        have e := z2 _ rfl (some (vi (3 : Nat))) x3
        simp only [Int.cast_ofNat_Int] at e
        (apply hG [37, 55, 16, 74] 2000; simp only [w_br_i, w_ite, w_all, w_all0, forall_eq, w_b0, w_b1, ↓reduceIte, w_ent, w_pos, List.replicate_succ, List.replicate_zero, wp_s, wk_s, w_lk_c, w_ld0, w_ldS, w_kp0, w_kp, w_s1, w_s2, w_to, w_if, w_call, w_sw, w_cat, w_cats, w_psh, w_fv, List.contains_cons, List.contains_nil, List.set_cons_zero, List.set_cons_succ, List.length_cons, List.length_nil, List.find?_cons, List.find?_nil, List.take_succ_cons, List.take_zero, List.drop_succ_cons, List.drop_zero, List.reverse_cons, List.reverse_nil, List.nil_append, List.cons_append, Option.map_some, Option.map_none, Nat.reduceAdd, Nat.reduceBEq, Nat.reduceEqDiff, Nat.reduceLT, Nat.reduceLeDiff, Nat.reduceSub, Int.reduceAdd, Int.reduceSub, Int.reduceMul, Int.reduceNeg, Int.reduceToNat, Int.reduceLT, Int.reduceLE, Int.reduceEq, Bool.false_eq_true, Bool.or_false, Bool.false_or, Bool.true_or, Bool.or_true, if_true, if_false, ite_true, ite_false, true_and, and_true, false_and, and_false, true_or, or_true, false_or, or_false, Int.cast_ofNat_Int, Int.toNat_natCast, Int.natCast_add, List.getElem?_cons_zero, List.getElem?_cons_succ, true_implies, forall_const, not_true_eq_false, not_false_eq_true, ne_eq, beq_iff_eq, imp_self, List.length_set, Nat.zero_add, Nat.add_zero, Int.zero_add, Int.add_zero, w1_aload_n_0, w1_getfield, w1_iload_n_1, w1_iaload, w1_iconst, w1_if_icmp, w1_invokevirtual, w1_istore_n_2, w1_iload_n_2, w1_bipush, w1_iastore, w1_iinc, w1_goto, w1_putfield, w1_putfield2, w1_istore_n_3, w1_iload_n_3, w1_imul, w1_ifCond, w1_return, dX10_goRun_0, dX10_goRun_1, dX10_goRun_4, dX10_goRun_5, dX10_goRun_6, dX10_goRun_7, dX10_goRun_10, dX10_goRun_11, dX10_goRun_14, dX10_goRun_15, dX10_goRun_16, dX10_goRun_17, dX10_goRun_19, dX10_goRun_22, dX10_goRun_23, dX10_goRun_26, dX10_goRun_27, dX10_goRun_28, dX10_goRun_29, dX10_goRun_32, dX10_goRun_35, dX10_goRun_36, dX10_goRun_37, dX10_goRun_38, dX10_goRun_39, dX10_goRun_42, dX10_goRun_43, dX10_goRun_46, dX10_goRun_47, dX10_goRun_48, dX10_goRun_49, dX10_goRun_52, dX10_goRun_55, dX10_goRun_56, dX10_goRun_57, dX10_goRun_60, dX10_goRun_61, dX10_goRun_62, dX10_goRun_65, dX10_goRun_66, dX10_goRun_67, dX10_goRun_70, dX10_goRun_71, dX10_goRun_72, dX10_goRun_73, dX10_goRun_74, dX10_goRun_75, dX10_goRun_77, dX10_goRun_78, dX10_goRun_81, dX10_goRun_82, dX10_goRun_85, dX10_goRun_86, dX10_goRun_87, dX10_goRun_88, dX10_goRun_89, dX10_goRun_92, dX10_goRun_93, dX10_goRun_96, dX10_goRun_97, dX10_goRun_98, dX10_goRun_101, dX10_goRun_102, dX10_goRun_105, dX10_goRun_106, dX10_goRun_107, dX10_goRun_110, dX10_goRun_113, dX10_goRun_114, dX10_goRun_117, dX10_goRun_119, dX10_goRun_120, dX10_goRun_123, dX10_goRun_124, w_flk10_144, w_flk10_168, w_flk10_19, w_flk10_22, w_flk10_25, w_flk10_50, w_flk10_53, w_flk10_222, w_kd_135, w_rf_135_0, w_rf_135_2, w_rf_135_3, w_rf_135_8, w_rf_135_12, w_rf_135_14, w_rf_135_15, w_rf_135_16, w_rf_135_24, w_rf_135_25, w_rf_135_26, w_rf_135_27, w_rf_135_28, w_rf_135_29, w_rf_135_30, w_rf_135_33, w_rf_135_34, w_rf_135_39, w_rf_135_40, w_rf_135_41, w_rf_135_42])
        (repeat' (with_reducible (first | refine And.intro ?_ ?_ | intro _))) <;> (try (first | (with_reducible assumption) | (simp only [inI, inL]; omega) | omega))
        all_goals first
          | exact e
          | (exfalso; omega)
      | succ d ih =>
        intro i hi x3
        have e := ih (i + 1) (by omega) x3
        rw [← wfl_s] at e
        simp only [Int.natCast_add, Int.cast_ofNat_Int] at e
        (apply hG [37, 55, 16, 74] 2000; simp only [w_br_i, w_ite, w_all, w_all0, forall_eq, w_b0, w_b1, ↓reduceIte, w_ent, w_pos, List.replicate_succ, List.replicate_zero, wp_s, wk_s, w_lk_c, w_ld0, w_ldS, w_kp0, w_kp, w_s1, w_s2, w_to, w_if, w_call, w_sw, w_cat, w_cats, w_psh, w_fv, List.contains_cons, List.contains_nil, List.set_cons_zero, List.set_cons_succ, List.length_cons, List.length_nil, List.find?_cons, List.find?_nil, List.take_succ_cons, List.take_zero, List.drop_succ_cons, List.drop_zero, List.reverse_cons, List.reverse_nil, List.nil_append, List.cons_append, Option.map_some, Option.map_none, Nat.reduceAdd, Nat.reduceBEq, Nat.reduceEqDiff, Nat.reduceLT, Nat.reduceLeDiff, Nat.reduceSub, Int.reduceAdd, Int.reduceSub, Int.reduceMul, Int.reduceNeg, Int.reduceToNat, Int.reduceLT, Int.reduceLE, Int.reduceEq, Bool.false_eq_true, Bool.or_false, Bool.false_or, Bool.true_or, Bool.or_true, if_true, if_false, ite_true, ite_false, true_and, and_true, false_and, and_false, true_or, or_true, false_or, or_false, Int.cast_ofNat_Int, Int.toNat_natCast, Int.natCast_add, List.getElem?_cons_zero, List.getElem?_cons_succ, true_implies, forall_const, not_true_eq_false, not_false_eq_true, ne_eq, beq_iff_eq, imp_self, List.length_set, Nat.zero_add, Nat.add_zero, Int.zero_add, Int.add_zero, w1_aload_n_0, w1_getfield, w1_iload_n_1, w1_iaload, w1_iconst, w1_if_icmp, w1_invokevirtual, w1_istore_n_2, w1_iload_n_2, w1_bipush, w1_iastore, w1_iinc, w1_goto, w1_putfield, w1_putfield2, w1_istore_n_3, w1_iload_n_3, w1_imul, w1_ifCond, w1_return, dX10_goRun_0, dX10_goRun_1, dX10_goRun_4, dX10_goRun_5, dX10_goRun_6, dX10_goRun_7, dX10_goRun_10, dX10_goRun_11, dX10_goRun_14, dX10_goRun_15, dX10_goRun_16, dX10_goRun_17, dX10_goRun_19, dX10_goRun_22, dX10_goRun_23, dX10_goRun_26, dX10_goRun_27, dX10_goRun_28, dX10_goRun_29, dX10_goRun_32, dX10_goRun_35, dX10_goRun_36, dX10_goRun_37, dX10_goRun_38, dX10_goRun_39, dX10_goRun_42, dX10_goRun_43, dX10_goRun_46, dX10_goRun_47, dX10_goRun_48, dX10_goRun_49, dX10_goRun_52, dX10_goRun_55, dX10_goRun_56, dX10_goRun_57, dX10_goRun_60, dX10_goRun_61, dX10_goRun_62, dX10_goRun_65, dX10_goRun_66, dX10_goRun_67, dX10_goRun_70, dX10_goRun_71, dX10_goRun_72, dX10_goRun_73, dX10_goRun_74, dX10_goRun_75, dX10_goRun_77, dX10_goRun_78, dX10_goRun_81, dX10_goRun_82, dX10_goRun_85, dX10_goRun_86, dX10_goRun_87, dX10_goRun_88, dX10_goRun_89, dX10_goRun_92, dX10_goRun_93, dX10_goRun_96, dX10_goRun_97, dX10_goRun_98, dX10_goRun_101, dX10_goRun_102, dX10_goRun_105, dX10_goRun_106, dX10_goRun_107, dX10_goRun_110, dX10_goRun_113, dX10_goRun_114, dX10_goRun_117, dX10_goRun_119, dX10_goRun_120, dX10_goRun_123, dX10_goRun_124, w_flk10_144, w_flk10_168, w_flk10_19, w_flk10_22, w_flk10_25, w_flk10_50, w_flk10_53, w_flk10_222, w_kd_135, w_rf_135_0, w_rf_135_2, w_rf_135_3, w_rf_135_8, w_rf_135_12, w_rf_135_14, w_rf_135_15, w_rf_135_16, w_rf_135_24, w_rf_135_25, w_rf_135_26, w_rf_135_27, w_rf_135_28, w_rf_135_29, w_rf_135_30, w_rf_135_33, w_rf_135_34, w_rf_135_39, w_rf_135_40, w_rf_135_41, w_rf_135_42, w_kd_150, w_ln_150])
        (repeat' (with_reducible (first | refine And.intro ?_ ?_ | intro _))) <;> (try (first | (with_reducible assumption) | (simp only [inI, inL]; omega) | omega))
        all_goals first
          | exact e
          | (exfalso; omega)
    have z0 : ∀ d i : Nat, i + d = 7 → ∀ x3, G 16 [some (vr 135), some (vi r), some (vi i), x3] [] (wfl w0 149 i 0) := by
      intro d
      induction d with
      | zero =>
        intro i hi x3
        have e : i = 7 := by omega
        subst e
        have e := z1 3 0 rfl x3
        rw [wfl_0] at e
        simp only [Int.cast_ofNat_Int] at e
        (apply hG [16, 37, 74] 2000; simp only [w_br_i, w_ite, w_all, w_all0, forall_eq, w_b0, w_b1, ↓reduceIte, w_ent, w_pos, List.replicate_succ, List.replicate_zero, wp_s, wk_s, w_lk_c, w_ld0, w_ldS, w_kp0, w_kp, w_s1, w_s2, w_to, w_if, w_call, w_sw, w_cat, w_cats, w_psh, w_fv, List.contains_cons, List.contains_nil, List.set_cons_zero, List.set_cons_succ, List.length_cons, List.length_nil, List.find?_cons, List.find?_nil, List.take_succ_cons, List.take_zero, List.drop_succ_cons, List.drop_zero, List.reverse_cons, List.reverse_nil, List.nil_append, List.cons_append, Option.map_some, Option.map_none, Nat.reduceAdd, Nat.reduceBEq, Nat.reduceEqDiff, Nat.reduceLT, Nat.reduceLeDiff, Nat.reduceSub, Int.reduceAdd, Int.reduceSub, Int.reduceMul, Int.reduceNeg, Int.reduceToNat, Int.reduceLT, Int.reduceLE, Int.reduceEq, Bool.false_eq_true, Bool.or_false, Bool.false_or, Bool.true_or, Bool.or_true, if_true, if_false, ite_true, ite_false, true_and, and_true, false_and, and_false, true_or, or_true, false_or, or_false, Int.cast_ofNat_Int, Int.toNat_natCast, Int.natCast_add, List.getElem?_cons_zero, List.getElem?_cons_succ, true_implies, forall_const, not_true_eq_false, not_false_eq_true, ne_eq, beq_iff_eq, imp_self, List.length_set, Nat.zero_add, Nat.add_zero, Int.zero_add, Int.add_zero, w1_aload_n_0, w1_getfield, w1_iload_n_1, w1_iaload, w1_iconst, w1_if_icmp, w1_invokevirtual, w1_istore_n_2, w1_iload_n_2, w1_bipush, w1_iastore, w1_iinc, w1_goto, w1_putfield, w1_putfield2, w1_istore_n_3, w1_iload_n_3, w1_imul, w1_ifCond, w1_return, dX10_goRun_0, dX10_goRun_1, dX10_goRun_4, dX10_goRun_5, dX10_goRun_6, dX10_goRun_7, dX10_goRun_10, dX10_goRun_11, dX10_goRun_14, dX10_goRun_15, dX10_goRun_16, dX10_goRun_17, dX10_goRun_19, dX10_goRun_22, dX10_goRun_23, dX10_goRun_26, dX10_goRun_27, dX10_goRun_28, dX10_goRun_29, dX10_goRun_32, dX10_goRun_35, dX10_goRun_36, dX10_goRun_37, dX10_goRun_38, dX10_goRun_39, dX10_goRun_42, dX10_goRun_43, dX10_goRun_46, dX10_goRun_47, dX10_goRun_48, dX10_goRun_49, dX10_goRun_52, dX10_goRun_55, dX10_goRun_56, dX10_goRun_57, dX10_goRun_60, dX10_goRun_61, dX10_goRun_62, dX10_goRun_65, dX10_goRun_66, dX10_goRun_67, dX10_goRun_70, dX10_goRun_71, dX10_goRun_72, dX10_goRun_73, dX10_goRun_74, dX10_goRun_75, dX10_goRun_77, dX10_goRun_78, dX10_goRun_81, dX10_goRun_82, dX10_goRun_85, dX10_goRun_86, dX10_goRun_87, dX10_goRun_88, dX10_goRun_89, dX10_goRun_92, dX10_goRun_93, dX10_goRun_96, dX10_goRun_97, dX10_goRun_98, dX10_goRun_101, dX10_goRun_102, dX10_goRun_105, dX10_goRun_106, dX10_goRun_107, dX10_goRun_110, dX10_goRun_113, dX10_goRun_114, dX10_goRun_117, dX10_goRun_119, dX10_goRun_120, dX10_goRun_123, dX10_goRun_124, w_flk10_144, w_flk10_168, w_flk10_19, w_flk10_22, w_flk10_25, w_flk10_50, w_flk10_53, w_flk10_222, w_kd_135, w_rf_135_0, w_rf_135_2, w_rf_135_3, w_rf_135_8, w_rf_135_12, w_rf_135_14, w_rf_135_15, w_rf_135_16, w_rf_135_24, w_rf_135_25, w_rf_135_26, w_rf_135_27, w_rf_135_28, w_rf_135_29, w_rf_135_30, w_rf_135_33, w_rf_135_34, w_rf_135_39, w_rf_135_40, w_rf_135_41, w_rf_135_42])
        (repeat' (with_reducible (first | refine And.intro ?_ ?_ | intro _))) <;> (try (first | (with_reducible assumption) | (simp only [inI, inL]; omega) | omega))
        all_goals first
          | exact e
          | (exfalso; omega)
      | succ d ih =>
        intro i hi x3
        have e := ih (i + 1) (by omega) x3
        rw [← wfl_s] at e
        simp only [Int.natCast_add, Int.cast_ofNat_Int] at e
        (apply hG [16, 37, 74] 2000; simp only [w_br_i, w_ite, w_all, w_all0, forall_eq, w_b0, w_b1, ↓reduceIte, w_ent, w_pos, List.replicate_succ, List.replicate_zero, wp_s, wk_s, w_lk_c, w_ld0, w_ldS, w_kp0, w_kp, w_s1, w_s2, w_to, w_if, w_call, w_sw, w_cat, w_cats, w_psh, w_fv, List.contains_cons, List.contains_nil, List.set_cons_zero, List.set_cons_succ, List.length_cons, List.length_nil, List.find?_cons, List.find?_nil, List.take_succ_cons, List.take_zero, List.drop_succ_cons, List.drop_zero, List.reverse_cons, List.reverse_nil, List.nil_append, List.cons_append, Option.map_some, Option.map_none, Nat.reduceAdd, Nat.reduceBEq, Nat.reduceEqDiff, Nat.reduceLT, Nat.reduceLeDiff, Nat.reduceSub, Int.reduceAdd, Int.reduceSub, Int.reduceMul, Int.reduceNeg, Int.reduceToNat, Int.reduceLT, Int.reduceLE, Int.reduceEq, Bool.false_eq_true, Bool.or_false, Bool.false_or, Bool.true_or, Bool.or_true, if_true, if_false, ite_true, ite_false, true_and, and_true, false_and, and_false, true_or, or_true, false_or, or_false, Int.cast_ofNat_Int, Int.toNat_natCast, Int.natCast_add, List.getElem?_cons_zero, List.getElem?_cons_succ, true_implies, forall_const, not_true_eq_false, not_false_eq_true, ne_eq, beq_iff_eq, imp_self, List.length_set, Nat.zero_add, Nat.add_zero, Int.zero_add, Int.add_zero, w1_aload_n_0, w1_getfield, w1_iload_n_1, w1_iaload, w1_iconst, w1_if_icmp, w1_invokevirtual, w1_istore_n_2, w1_iload_n_2, w1_bipush, w1_iastore, w1_iinc, w1_goto, w1_putfield, w1_putfield2, w1_istore_n_3, w1_iload_n_3, w1_imul, w1_ifCond, w1_return, dX10_goRun_0, dX10_goRun_1, dX10_goRun_4, dX10_goRun_5, dX10_goRun_6, dX10_goRun_7, dX10_goRun_10, dX10_goRun_11, dX10_goRun_14, dX10_goRun_15, dX10_goRun_16, dX10_goRun_17, dX10_goRun_19, dX10_goRun_22, dX10_goRun_23, dX10_goRun_26, dX10_goRun_27, dX10_goRun_28, dX10_goRun_29, dX10_goRun_32, dX10_goRun_35, dX10_goRun_36, dX10_goRun_37, dX10_goRun_38, dX10_goRun_39, dX10_goRun_42, dX10_goRun_43, dX10_goRun_46, dX10_goRun_47, dX10_goRun_48, dX10_goRun_49, dX10_goRun_52, dX10_goRun_55, dX10_goRun_56, dX10_goRun_57, dX10_goRun_60, dX10_goRun_61, dX10_goRun_62, dX10_goRun_65, dX10_goRun_66, dX10_goRun_67, dX10_goRun_70, dX10_goRun_71, dX10_goRun_72, dX10_goRun_73, dX10_goRun_74, dX10_goRun_75, dX10_goRun_77, dX10_goRun_78, dX10_goRun_81, dX10_goRun_82, dX10_goRun_85, dX10_goRun_86, dX10_goRun_87, dX10_goRun_88, dX10_goRun_89, dX10_goRun_92, dX10_goRun_93, dX10_goRun_96, dX10_goRun_97, dX10_goRun_98, dX10_goRun_101, dX10_goRun_102, dX10_goRun_105, dX10_goRun_106, dX10_goRun_107, dX10_goRun_110, dX10_goRun_113, dX10_goRun_114, dX10_goRun_117, dX10_goRun_119, dX10_goRun_120, dX10_goRun_123, dX10_goRun_124, w_flk10_144, w_flk10_168, w_flk10_19, w_flk10_22, w_flk10_25, w_flk10_50, w_flk10_53, w_flk10_222, w_kd_135, w_rf_135_0, w_rf_135_2, w_rf_135_3, w_rf_135_8, w_rf_135_12, w_rf_135_14, w_rf_135_15, w_rf_135_16, w_rf_135_24, w_rf_135_25, w_rf_135_26, w_rf_135_27, w_rf_135_28, w_rf_135_29, w_rf_135_30, w_rf_135_33, w_rf_135_34, w_rf_135_39, w_rf_135_40, w_rf_135_41, w_rf_135_42, w_kd_149, w_ln_149])
        (repeat' (with_reducible (first | refine And.intro ?_ ?_ | intro _))) <;> (try (first | (with_reducible assumption) | (simp only [inI, inL]; omega) | omega))
        all_goals first
          | exact e
          | (exfalso; omega)
    have e := z0 7 0 rfl x3
    rw [wfl_0] at e
    simp only [Int.cast_ofNat_Int] at e
    (apply hG [16, 37, 74] 2000; simp only [w_br_i, w_ite, w_all, w_all0, forall_eq, w_b0, w_b1, ↓reduceIte, w_ent, w_pos, List.replicate_succ, List.replicate_zero, wp_s, wk_s, w_lk_c, w_ld0, w_ldS, w_kp0, w_kp, w_s1, w_s2, w_to, w_if, w_call, w_sw, w_cat, w_cats, w_psh, w_fv, List.contains_cons, List.contains_nil, List.set_cons_zero, List.set_cons_succ, List.length_cons, List.length_nil, List.find?_cons, List.find?_nil, List.take_succ_cons, List.take_zero, List.drop_succ_cons, List.drop_zero, List.reverse_cons, List.reverse_nil, List.nil_append, List.cons_append, Option.map_some, Option.map_none, Nat.reduceAdd, Nat.reduceBEq, Nat.reduceEqDiff, Nat.reduceLT, Nat.reduceLeDiff, Nat.reduceSub, Int.reduceAdd, Int.reduceSub, Int.reduceMul, Int.reduceNeg, Int.reduceToNat, Int.reduceLT, Int.reduceLE, Int.reduceEq, Bool.false_eq_true, Bool.or_false, Bool.false_or, Bool.true_or, Bool.or_true, if_true, if_false, ite_true, ite_false, true_and, and_true, false_and, and_false, true_or, or_true, false_or, or_false, Int.cast_ofNat_Int, Int.toNat_natCast, Int.natCast_add, List.getElem?_cons_zero, List.getElem?_cons_succ, true_implies, forall_const, not_true_eq_false, not_false_eq_true, ne_eq, beq_iff_eq, imp_self, List.length_set, Nat.zero_add, Nat.add_zero, Int.zero_add, Int.add_zero, w1_aload_n_0, w1_getfield, w1_iload_n_1, w1_iaload, w1_iconst, w1_if_icmp, w1_invokevirtual, w1_istore_n_2, w1_iload_n_2, w1_bipush, w1_iastore, w1_iinc, w1_goto, w1_putfield, w1_putfield2, w1_istore_n_3, w1_iload_n_3, w1_imul, w1_ifCond, w1_return, dX10_goRun_0, dX10_goRun_1, dX10_goRun_4, dX10_goRun_5, dX10_goRun_6, dX10_goRun_7, dX10_goRun_10, dX10_goRun_11, dX10_goRun_14, dX10_goRun_15, dX10_goRun_16, dX10_goRun_17, dX10_goRun_19, dX10_goRun_22, dX10_goRun_23, dX10_goRun_26, dX10_goRun_27, dX10_goRun_28, dX10_goRun_29, dX10_goRun_32, dX10_goRun_35, dX10_goRun_36, dX10_goRun_37, dX10_goRun_38, dX10_goRun_39, dX10_goRun_42, dX10_goRun_43, dX10_goRun_46, dX10_goRun_47, dX10_goRun_48, dX10_goRun_49, dX10_goRun_52, dX10_goRun_55, dX10_goRun_56, dX10_goRun_57, dX10_goRun_60, dX10_goRun_61, dX10_goRun_62, dX10_goRun_65, dX10_goRun_66, dX10_goRun_67, dX10_goRun_70, dX10_goRun_71, dX10_goRun_72, dX10_goRun_73, dX10_goRun_74, dX10_goRun_75, dX10_goRun_77, dX10_goRun_78, dX10_goRun_81, dX10_goRun_82, dX10_goRun_85, dX10_goRun_86, dX10_goRun_87, dX10_goRun_88, dX10_goRun_89, dX10_goRun_92, dX10_goRun_93, dX10_goRun_96, dX10_goRun_97, dX10_goRun_98, dX10_goRun_101, dX10_goRun_102, dX10_goRun_105, dX10_goRun_106, dX10_goRun_107, dX10_goRun_110, dX10_goRun_113, dX10_goRun_114, dX10_goRun_117, dX10_goRun_119, dX10_goRun_120, dX10_goRun_123, dX10_goRun_124, w_flk10_144, w_flk10_168, w_flk10_19, w_flk10_22, w_flk10_25, w_flk10_50, w_flk10_53, w_flk10_222, w_kd_135, w_rf_135_0, w_rf_135_2, w_rf_135_3, w_rf_135_8, w_rf_135_12, w_rf_135_14, w_rf_135_15, w_rf_135_16, w_rf_135_24, w_rf_135_25, w_rf_135_26, w_rf_135_27, w_rf_135_28, w_rf_135_29, w_rf_135_30, w_rf_135_33, w_rf_135_34, w_rf_135_39, w_rf_135_40, w_rf_135_41, w_rf_135_42])
    exact e
  by_cases k3 : w 141 r = 3
  · obtain ⟨rfl, rfl⟩ := hk3 k3
    have hpc : p_X10_layWise S [vr 135] w := ⟨rfl, hS, ⟨hy, hY⟩, hM⟩
    have e14' : ∀ v w1, q_X10_layWise S [vr 135] w v w1 → G 14 [some (vr 135), some (vi r), none, none] [] w1 := fun v w1 hq => by
      simp only [q_X10_layWise] at hq
      exact e14 w1 hq.1 (fun _ => hq.2) none none
    (apply hG [14, 16, 37, 74] 2000; simp only [w_br_i, w_ite, w_all, w_all0, forall_eq, w_b0, w_b1, ↓reduceIte, w_ent, w_pos, List.replicate_succ, List.replicate_zero, wp_s, wk_s, w_lk_c, w_ld0, w_ldS, w_kp0, w_kp, w_s1, w_s2, w_to, w_if, w_call, w_sw, w_cat, w_cats, w_psh, w_fv, List.contains_cons, List.contains_nil, List.set_cons_zero, List.set_cons_succ, List.length_cons, List.length_nil, List.find?_cons, List.find?_nil, List.take_succ_cons, List.take_zero, List.drop_succ_cons, List.drop_zero, List.reverse_cons, List.reverse_nil, List.nil_append, List.cons_append, Option.map_some, Option.map_none, Nat.reduceAdd, Nat.reduceBEq, Nat.reduceEqDiff, Nat.reduceLT, Nat.reduceLeDiff, Nat.reduceSub, Int.reduceAdd, Int.reduceSub, Int.reduceMul, Int.reduceNeg, Int.reduceToNat, Int.reduceLT, Int.reduceLE, Int.reduceEq, Bool.false_eq_true, Bool.or_false, Bool.false_or, Bool.true_or, Bool.or_true, if_true, if_false, ite_true, ite_false, true_and, and_true, false_and, and_false, true_or, or_true, false_or, or_false, Int.cast_ofNat_Int, Int.toNat_natCast, Int.natCast_add, List.getElem?_cons_zero, List.getElem?_cons_succ, true_implies, forall_const, not_true_eq_false, not_false_eq_true, ne_eq, beq_iff_eq, imp_self, List.length_set, Nat.zero_add, Nat.add_zero, Int.zero_add, Int.add_zero, w1_aload_n_0, w1_getfield, w1_iload_n_1, w1_iaload, w1_iconst, w1_if_icmp, w1_invokevirtual, w1_istore_n_2, w1_iload_n_2, w1_bipush, w1_iastore, w1_iinc, w1_goto, w1_putfield, w1_putfield2, w1_istore_n_3, w1_iload_n_3, w1_imul, w1_ifCond, w1_return, dX10_goRun_0, dX10_goRun_1, dX10_goRun_4, dX10_goRun_5, dX10_goRun_6, dX10_goRun_7, dX10_goRun_10, dX10_goRun_11, dX10_goRun_14, dX10_goRun_15, dX10_goRun_16, dX10_goRun_17, dX10_goRun_19, dX10_goRun_22, dX10_goRun_23, dX10_goRun_26, dX10_goRun_27, dX10_goRun_28, dX10_goRun_29, dX10_goRun_32, dX10_goRun_35, dX10_goRun_36, dX10_goRun_37, dX10_goRun_38, dX10_goRun_39, dX10_goRun_42, dX10_goRun_43, dX10_goRun_46, dX10_goRun_47, dX10_goRun_48, dX10_goRun_49, dX10_goRun_52, dX10_goRun_55, dX10_goRun_56, dX10_goRun_57, dX10_goRun_60, dX10_goRun_61, dX10_goRun_62, dX10_goRun_65, dX10_goRun_66, dX10_goRun_67, dX10_goRun_70, dX10_goRun_71, dX10_goRun_72, dX10_goRun_73, dX10_goRun_74, dX10_goRun_75, dX10_goRun_77, dX10_goRun_78, dX10_goRun_81, dX10_goRun_82, dX10_goRun_85, dX10_goRun_86, dX10_goRun_87, dX10_goRun_88, dX10_goRun_89, dX10_goRun_92, dX10_goRun_93, dX10_goRun_96, dX10_goRun_97, dX10_goRun_98, dX10_goRun_101, dX10_goRun_102, dX10_goRun_105, dX10_goRun_106, dX10_goRun_107, dX10_goRun_110, dX10_goRun_113, dX10_goRun_114, dX10_goRun_117, dX10_goRun_119, dX10_goRun_120, dX10_goRun_123, dX10_goRun_124, w_flk10_144, w_flk10_168, w_flk10_19, w_flk10_22, w_flk10_25, w_flk10_50, w_flk10_53, w_flk10_222, w_kd_135, w_rf_135_0, w_rf_135_2, w_rf_135_3, w_rf_135_8, w_rf_135_12, w_rf_135_14, w_rf_135_15, w_rf_135_16, w_rf_135_24, w_rf_135_25, w_rf_135_26, w_rf_135_27, w_rf_135_28, w_rf_135_29, w_rf_135_30, w_rf_135_33, w_rf_135_34, w_rf_135_39, w_rf_135_40, w_rf_135_41, w_rf_135_42, w_kd_141, w_ln_141, k3, hpc])
    (repeat' (with_reducible (first | refine And.intro ?_ ?_ | intro _))) <;> (try (first | (with_reducible assumption) | (simp only [inI, inL]; omega) | omega))
    all_goals first
      | exact e14' _ _ (by assumption)
      | (exfalso; omega)
  · have e := e14 w (fun k i _ _ => rfl) (fun h => absurd h k3) none none
    (apply hG [14, 16, 37, 74] 2000; simp only [w_br_i, w_ite, w_all, w_all0, forall_eq, w_b0, w_b1, ↓reduceIte, w_ent, w_pos, List.replicate_succ, List.replicate_zero, wp_s, wk_s, w_lk_c, w_ld0, w_ldS, w_kp0, w_kp, w_s1, w_s2, w_to, w_if, w_call, w_sw, w_cat, w_cats, w_psh, w_fv, List.contains_cons, List.contains_nil, List.set_cons_zero, List.set_cons_succ, List.length_cons, List.length_nil, List.find?_cons, List.find?_nil, List.take_succ_cons, List.take_zero, List.drop_succ_cons, List.drop_zero, List.reverse_cons, List.reverse_nil, List.nil_append, List.cons_append, Option.map_some, Option.map_none, Nat.reduceAdd, Nat.reduceBEq, Nat.reduceEqDiff, Nat.reduceLT, Nat.reduceLeDiff, Nat.reduceSub, Int.reduceAdd, Int.reduceSub, Int.reduceMul, Int.reduceNeg, Int.reduceToNat, Int.reduceLT, Int.reduceLE, Int.reduceEq, Bool.false_eq_true, Bool.or_false, Bool.false_or, Bool.true_or, Bool.or_true, if_true, if_false, ite_true, ite_false, true_and, and_true, false_and, and_false, true_or, or_true, false_or, or_false, Int.cast_ofNat_Int, Int.toNat_natCast, Int.natCast_add, List.getElem?_cons_zero, List.getElem?_cons_succ, true_implies, forall_const, not_true_eq_false, not_false_eq_true, ne_eq, beq_iff_eq, imp_self, List.length_set, Nat.zero_add, Nat.add_zero, Int.zero_add, Int.add_zero, w1_aload_n_0, w1_getfield, w1_iload_n_1, w1_iaload, w1_iconst, w1_if_icmp, w1_invokevirtual, w1_istore_n_2, w1_iload_n_2, w1_bipush, w1_iastore, w1_iinc, w1_goto, w1_putfield, w1_putfield2, w1_istore_n_3, w1_iload_n_3, w1_imul, w1_ifCond, w1_return, dX10_goRun_0, dX10_goRun_1, dX10_goRun_4, dX10_goRun_5, dX10_goRun_6, dX10_goRun_7, dX10_goRun_10, dX10_goRun_11, dX10_goRun_14, dX10_goRun_15, dX10_goRun_16, dX10_goRun_17, dX10_goRun_19, dX10_goRun_22, dX10_goRun_23, dX10_goRun_26, dX10_goRun_27, dX10_goRun_28, dX10_goRun_29, dX10_goRun_32, dX10_goRun_35, dX10_goRun_36, dX10_goRun_37, dX10_goRun_38, dX10_goRun_39, dX10_goRun_42, dX10_goRun_43, dX10_goRun_46, dX10_goRun_47, dX10_goRun_48, dX10_goRun_49, dX10_goRun_52, dX10_goRun_55, dX10_goRun_56, dX10_goRun_57, dX10_goRun_60, dX10_goRun_61, dX10_goRun_62, dX10_goRun_65, dX10_goRun_66, dX10_goRun_67, dX10_goRun_70, dX10_goRun_71, dX10_goRun_72, dX10_goRun_73, dX10_goRun_74, dX10_goRun_75, dX10_goRun_77, dX10_goRun_78, dX10_goRun_81, dX10_goRun_82, dX10_goRun_85, dX10_goRun_86, dX10_goRun_87, dX10_goRun_88, dX10_goRun_89, dX10_goRun_92, dX10_goRun_93, dX10_goRun_96, dX10_goRun_97, dX10_goRun_98, dX10_goRun_101, dX10_goRun_102, dX10_goRun_105, dX10_goRun_106, dX10_goRun_107, dX10_goRun_110, dX10_goRun_113, dX10_goRun_114, dX10_goRun_117, dX10_goRun_119, dX10_goRun_120, dX10_goRun_123, dX10_goRun_124, w_flk10_144, w_flk10_168, w_flk10_19, w_flk10_22, w_flk10_25, w_flk10_50, w_flk10_53, w_flk10_222, w_kd_135, w_rf_135_0, w_rf_135_2, w_rf_135_3, w_rf_135_8, w_rf_135_12, w_rf_135_14, w_rf_135_15, w_rf_135_16, w_rf_135_24, w_rf_135_25, w_rf_135_26, w_rf_135_27, w_rf_135_28, w_rf_135_29, w_rf_135_30, w_rf_135_33, w_rf_135_34, w_rf_135_39, w_rf_135_40, w_rf_135_41, w_rf_135_42, w_kd_141, w_ln_141])
    (repeat' (with_reducible (first | refine And.intro ?_ ?_ | intro _))) <;> (try (first | (with_reducible assumption) | (simp only [inI, inL]; omega) | omega))
    all_goals first
      | exact e
      | (exfalso; omega)
