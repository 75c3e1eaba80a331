/-! each use's short, and their sum -/
theorem dO_inj {S : wW} (hS : hR S) {bw : Int} {i j : Nat} (hi : i < (S 4 0).toNat) (hj : j < (S 4 0).toNat) (h : dO S bw i = dO S bw j) : i = j := by
  unfold dO at h
  by_cases hb : bw = 0
  · rw [if_pos hb, if_pos hb] at h; exact h
  · rw [if_neg hb, if_neg hb] at h
    have h1 := hS.1
    have hn : (S 4 0).toNat = 1 ∨ (S 4 0).toNat = 2 ∨ (S 4 0).toNat = 3 := by omega
    rcases hn with e | e | e <;> rw [e] at hi hj h
    · omega
    · have a : i = 0 ∨ i = 1 := by omega
      have b : j = 0 ∨ j = 1 := by omega
      by_cases q : S 3 0 < S 3 1 <;> rcases a with rfl | rfl <;> rcases b with rfl | rfl <;> simp [o_ord, q] at h ⊢
    · have a : i = 0 ∨ i = 1 ∨ i = 2 := by omega
      have b : j = 0 ∨ j = 1 ∨ j = 2 := by omega
      by_cases q1 : S 3 0 < S 3 1 <;> by_cases q2 : S 3 0 < S 3 2 <;> by_cases q3 : S 3 1 < S 3 2 <;> rcases a with rfl | rfl | rfl <;> rcases b with rfl | rfl | rfl <;> simp [o_ord, q1, q2, q3] at h ⊢
theorem dS_at {S : wW} (m hf : Int) {os : Nat → Nat} (l0 : Int) (f0 : Nat → Int) {i : Nat} : ∀ n, i < n → (∀ a b, a < n → b < n → os a = os b → a = b) → dS S m hf os l0 f0 n (os i) = dW S (os i) m - dg S m hf (os i) (dL S m hf os l0 i)
  | 0, h, _ => by omega
  | n + 1, h, hin => by
    simp only [dS, fup]
    by_cases q : i = n
    · subst q
      rw [if_pos rfl]
    · rw [if_neg (fun z => q (hin i n h (by omega) z))]
      exact dS_at m hf l0 f0 n (by omega) (fun a b ha hb => hin a b (by omega) (by omega))
theorem dK_sm (S : wW) (m hf : Int) (os : Nat → Nat) (l0 : Int) : ∀ n, dK S m hf os l0 n = sm (fun i => dW S (os i) m - dg S m hf (os i) (dL S m hf os l0 i)) n
  | 0 => rfl
  | n + 1 => by simp only [dK, sm, dK_sm S m hf os l0 n]
theorem o_perm2 {S : wW} (hS : hR S) (bw : Int) (f : Nat → Int) : sm (fun i => f (dO S bw i)) (S 4 0).toNat = sm f (S 4 0).toNat := by
  by_cases hb : bw = 0
  · refine sm_c _ (fun i _ => ?_)
    unfold dO
    rw [if_pos hb]
  · have e : ∀ i, dO S bw i = dO S 1 i := fun i => by unfold dO; rw [if_neg hb, if_neg (by decide)]
    have e2 : (fun i => f (dO S bw i)) = (fun i => f (dO S 1 i)) := funext (fun i => by rw [e])
    rw [e2]
    exact o_perm hS f
theorem dS_sum {S : wW} (hS : hR S) (m hf bw l0 : Int) (f0 : Nat → Int) : sm (dS S m hf (dO S bw) l0 f0 (S 4 0).toNat) (S 4 0).toNat = dK S m hf (dO S bw) l0 (S 4 0).toNat := by
  rw [← o_perm2 hS bw, dK_sm]
  exact sm_c _ (fun i hi => dS_at m hf l0 f0 _ hi (fun a b ha hb => dO_inj hS ha hb))
theorem dS_nn {S : wW} (hS : hR S) (m hf bw : Int) {l0 : Int} (hl : 0 ≤ l0) (f0 : Nat → Int) {u : Nat} (hu : u < (S 4 0).toNat) : 0 ≤ dS S m hf (dO S bw) l0 f0 (S 4 0).toNat u ∧ dS S m hf (dO S bw) l0 f0 (S 4 0).toNat u ≤ 24 := by
  obtain ⟨i, hi, rfl⟩ := dO_onto hS bw hu
  have e := dS_at (S := S) (os := dO S bw) m hf l0 f0 (i := i) _ hi (fun a b ha hb => dO_inj hS ha hb)
  rw [e]
  have hL := dL_in hS m hf bw hl i (by omega)
  have hg := dg_in hS (dO_lt hS bw hi) m hf hL.1
  have hw := dW_in hS (dO_lt hS bw hi) m
  omega
theorem zS_sum {S : wW} (hS : hR S) {size : Int} {r : Nat → Int} {m lv : Int} (f0 : Nat → Int) : sm (zS S size r m lv f0) (S 4 0).toNat = zK S size r m lv := dS_sum hS _ _ _ _ _
theorem zS_in {S : wW} (hS : hR S) {size : Int} {r : Nat → Int} {m lv : Int} (hl : 0 ≤ lv) (h : okr S size r m lv) (f0 : Nat → Int) {u : Nat} (hu : u < (S 4 0).toNat) : 0 ≤ zS S size r m lv f0 u ∧ zS S size r m lv f0 u ≤ 24 := dS_nn hS _ _ _ (z0_in hl h).1 _ hu
theorem dyF_sm {g : Nat → Int} : ∀ n, (∀ u, u < n → 0 ≤ g u) → dyF g n = if 0 < sm g n then 1 else 0
  | 0, _ => rfl
  | n + 1, h => by
    have ih := dyF_sm n (fun u hu => h u (by omega))
    have h0 := sm_nn n (fun u hu => h u (by omega))
    have h1 := h n (by omega)
    simp only [dyF, sm, ih]
    (repeat' split) <;> omega
/-! a month's end -/
def rM (w : wW) (r m : Nat) (lv wet : Int) : Nat → Int := fun j => if j = 0 then w 141 r else if j = 1 then w 142 r else if j = 2 then w 143 (12 * r + m) else if j = 3 then w 146 (402 * m + stF lv wet) else if j = 4 then w 147 (402 * m + stF lv wet) else 200
/-- a rule's numbers in range -/
def mrR (w : wW) (r : Nat) : Prop := r < 8 ∧ (0 ≤ w 141 r ∧ w 141 r ≤ 5) ∧ (0 ≤ w 142 r ∧ w 142 r ≤ 200) ∧ ∀ m, m < 12 → 0 ≤ w 143 (12 * r + m) ∧ w 143 (12 * r + m) ≤ 99
def mpl (w : wW) (r : Nat) (Z : Int) : Prop := w 141 r = 3 → ∀ (m : Nat) (lv wet : Int), m < 12 → 0 ≤ lv → lv ≤ Z → (wet = 0 ∨ wet = 1) → (0 ≤ w 146 (402 * m + stF lv wet) ∧ lv + w 146 (402 * m + stF lv wet) ≤ Z) ∧ (0 ≤ w 147 (402 * m + stF lv wet) ∧ w 147 (402 * m + stF lv wet) ≤ 200)
theorem okr_rM {S w : wW} {r m : Nat} {Z lv wet : Int} (hS : hR S) (hr : mrR w r) (hp : mpl w r Z) (hm : m < 12) (hl : 0 ≤ lv ∧ lv ≤ Z) (hw : wet = 0 ∨ wet = 1) : okr S Z (rM w r m lv wet) m lv := by
  have h05 := hS.2.2.2.2.2.2.1
  have hc := hr.2.2.2 m hm
  unfold okr zP ePump eMost
  have e0 : rM w r m lv wet 0 = w 141 r := rfl
  have e1 : rM w r m lv wet 1 = w 142 r := rfl
  have e2 : rM w r m lv wet 2 = w 143 (12 * r + m) := rfl
  have e3 : rM w r m lv wet 3 = w 146 (402 * m + stF lv wet) := rfl
  have e4 : rM w r m lv wet 4 = w 147 (402 * m + stF lv wet) := rfl
  have e5 : rM w r m lv wet 5 = 200 := rfl
  rw [e0, e1, e2, e3, e4, e5]
  by_cases k3 : w 141 r = 3
  · have h := hp k3 m lv wet hm hl.1 hl.2 hw
    rw [if_pos k3, if_pos k3]
    exact ⟨h.1, h.2.1⟩
  · rw [if_neg k3, if_neg k3]
    refine ⟨?_, by split <;> omega⟩
    split
    · have : 0 ≤ (if (m : Int) = 7 then 0 else S 0 5) := by split <;> omega
      split <;> omega
    · omega
def p_X10_end (S : wW) : List wV → wW → Prop := fun av w => match av with
  | [.inr (.inr (some this)), .inl r, .inl m, .inl wet] => this = 135 ∧ hR S ∧ (∃ A Z, mH S A Z w ∧ Z ≤ 200 ∧ (0 ≤ w 135 22 ∧ w 135 22 ≤ Z) ∧ mpl w r.toNat Z) ∧ 0 ≤ r ∧ mrR w r.toNat ∧ (0 ≤ m ∧ m < 12) ∧ (wet = 0 ∨ wet = 1)
  | _ => False
theorem h_X10_end (S : wW) : ∀ av w, (p_X10_end S) av w → ∃ a r, av = vr a :: r ∧ w_kd a = 100 + 10 := by
  intro av w h
  unfold p_X10_end at h
  split at h
  · refine ⟨_, _, rfl, ?_⟩
    first | (rw [h.1]; rfl) | (rw [h]; rfl)
  · exact h.elim
def meR (w : wW) (r m wet : Int) : Nat → Int := rM w r.toNat m.toNat (w 135 22) wet
def q_X10_end (S : wW) : List wV → wW → Int → wW → Prop := fun av w r w' => match av with
  | [.inr (.inr (some this)), .inl r, .inl m, .inl wet] => ∃ f, w' = mw w f (zS S (w 139 1) (meR w r m wet) m (w 135 22) (w 144)) ∧ f 20 = zP S (w 139 1) (meR w r m wet) m (w 135 22) ∧ f 21 = zG S (w 139 1) (meR w r m wet) m (w 135 22) ∧ f 22 = zE S (w 139 1) (meR w r m wet) m (w 135 22) ∧ f 23 = zC S (w 139 1) (meR w r m wet) m (w 135 22) ∧ (f 17 = w 135 17 ∧ f 18 = w 135 18 ∧ f 19 = w 135 19)
  | _ => False
set_option maxRecDepth 100000 in
set_option maxHeartbeats 4000000 in
theorem c_X10_end (S : wW) : w_Ct yX10_end cX10_end 7 0 3 77 (p_X10_end S) (q_X10_end S) := by
  refine w_met (own := RX10) (fl := w_fl10) (gs := w_gs10) (kl := w_kl10) (ki := w_ki10) (cs := [(193, (0, 3, 1, p_X10_mostPumped, q_X10_mostPumped)), (196, (1, 3, 1, p_X10_stateAt, q_X10_stateAt)), (200, (0, 5, 0, (p_X10_give S), (q_X10_give S)))]) (by decide +kernel) rfl ?_ w_flok10 w_gsok10 w_klok10 w_kiok10 ?_ ?_
  · intro av w h
    unfold p_X10_end at h
    split at h
    · simp [w_pos, w_cat]
    · exact h.elim
  · exact List.forall_mem_cons.mpr ⟨⟨_, _, w_callV (own := RX10) (idx := 193) (ci := 10) c_X10_mostPumped rfl rfl h_X10_mostPumped (w_m5 128 (by decide +kernel) (by decide +kernel)) (w_m5 130 (by decide +kernel) (by decide +kernel)) (w_m0 43 (by decide +kernel) (by decide +kernel)) (w_m1 12 (by decide +kernel) (by decide +kernel)) (w_m5 131 (by decide +kernel) (by decide +kernel)) ⟨by decide +kernel, by decide +kernel, by decide +kernel⟩, by decide, by decide⟩, List.forall_mem_cons.mpr ⟨⟨_, _, w_callS (own := RX10) (idx := 196) c_X10_stateAt (w_m5 121 (by decide +kernel) (by decide +kernel)) (w_m5 122 (by decide +kernel) (by decide +kernel)) (w_m1 12 (by decide +kernel) (by decide +kernel)) (w_m5 123 (by decide +kernel) (by decide +kernel)) ⟨by decide +kernel, by decide +kernel, by decide +kernel⟩, by decide, by decide⟩, List.forall_mem_cons.mpr ⟨⟨_, _, w_callV (own := RX10) (idx := 200) (ci := 10) (c_X10_give S) rfl rfl (h_X10_give S) (w_m5 140 (by decide +kernel) (by decide +kernel)) (w_m5 142 (by decide +kernel) (by decide +kernel)) (w_m0 46 (by decide +kernel) (by decide +kernel)) (w_m1 12 (by decide +kernel) (by decide +kernel)) (w_m5 143 (by decide +kernel) (by decide +kernel)) ⟨by decide +kernel, by decide +kernel, by decide +kernel⟩, by decide, by decide⟩, fun _ h => absurd h List.not_mem_nil⟩⟩⟩
  intro av w hp
  unfold p_X10_end at hp
  split at hp
  case h_2 => exact hp.elim
  rename_i this r m wet
  intro G hG
  simp only [w_ent, w_pos, w_cat, Nat.reduceEqDiff, ↓reduceIte, List.length_cons, List.length_nil, Nat.reduceAdd, Nat.reduceSub, List.cons_append, List.nil_append, List.replicate_succ, List.replicate_zero]
  obtain ⟨rfl, hS, ⟨A, Z, hM, hZ, hlv, hpl⟩, hr0, hr, hm, hwet⟩ := hp
  obtain ⟨r, rfl⟩ : ∃ n : Nat, r = n := ⟨r.toNat, by omega⟩
  obtain ⟨m, rfl⟩ : ∃ n : Nat, m = n := ⟨m.toNat, by omega⟩
  simp only [Int.toNat_natCast] at hpl hr
  have hok := okr_rM hS hr hpl (show m < 12 by omega) hlv hwet
  obtain ⟨hr8, hk, hn, hcap⟩ := hr
  have hcm := hcap m (by omega)
  obtain ⟨m0, m1, mj, hMU⟩ := id hM
  have m6 := mj 6 (by decide) (by decide)
  have m5 := mj 5 (by decide) (by decide)
  have h05 := hS.2.2.2.2.2.2.1
  have hmo : eMost (w 141 r) (w 143 (12 * r + m)) (w 147 (402 * m + stF (w 135 22) wet)) 200 ≤ 200 := by
    unfold eMost
    split
    · exact ((hpl (by assumption) m (w 135 22) wet (by omega) hlv.1 hlv.2 hwet).2).2
    · split <;> omega
  have eme : meR w r m wet = rM w r m (w 135 22) wet := by unfold meR; rw [Int.toNat_natCast, Int.toNat_natCast]
  generalize hRe : rM w r m (w 135 22) wet = R at *
  have r0 : R 0 = w 141 r := by rw [← hRe]; rfl
  have r1 : R 1 = w 142 r := by rw [← hRe]; rfl
  have r2 : R 2 = w 143 (12 * r + m) := by rw [← hRe]; rfl
  have r3 : R 3 = w 146 (402 * m + stF (w 135 22) wet) := by rw [← hRe]; rfl
  have r4 : R 4 = w 147 (402 * m + stF (w 135 22) wet) := by rw [← hRe]; rfl
  have r5 : R 5 = 200 := by rw [← hRe]; rfl
  obtain ⟨hP, hMo⟩ := hok
  have ePd : zP S Z R m (w 135 22) = ePump S Z (w 141 r) (w 142 r) (w 146 (402 * m + stF (w 135 22) wet)) m (w 135 22) := by unfold zP; rw [r0, r1, r3]
  have e3d : z3 S Z R m (w 135 22) = w 135 22 + zP S Z R m (w 135 22) := rfl
  have eMd : eMost (R 0) (R 2) (R 4) (R 5) = eMost (w 141 r) (w 143 (12 * r + m)) (w 147 (402 * m + stF (w 135 22) wet)) 200 := by rw [r0, r2, r4, r5]
  rw [eMd] at hMo
  generalize hPe : zP S Z R m (w 135 22) = P at *
  generalize hMe : eMost (w 141 r) (w 143 (12 * r + m)) (w 147 (402 * m + stF (w 135 22) wet)) 200 = M at *
  have eH : zH S Z R m (w 135 22) = if w 141 r = 1 ∧ w 135 22 + P < w 142 r then 1 else 0 := by unfold zH; rw [r0, r1, e3d]
  have eB : zB R = if 2 ≤ w 141 r then 1 else 0 := by unfold zB; rw [r0]
  generalize hHe : zH S Z R m (w 135 22) = hf at *
  generalize hBe : zB R = bw at *
  have xx : ∀ f g k i, k ≠ 135 → k ≠ 144 → mw w f g k i = w k i := fun f g k i h1 h2 => mw_x w f g ⟨h1, h2⟩
  -- the last call
  have e158 : ∀ (f : Nat → Int) (y4 y5 y6 : Option wV), f 20 = P → f 22 = w 135 22 + P → (f 17 = w 135 17 ∧ f 18 = w 135 18 ∧ f 19 = w 135 19) → G 158 [some (vr 135), some (vi r), some (vi m), some (vi wet), y4, y5, y6] [vi hf, vi bw, vi M, vi m, vr 135] (mw w f (w 144)) := by
    intro f y4 y5 y6 f20 f22 fe
    have h22 : mw w f (w 144) 135 22 = w 135 22 + P := by rw [mw_f _ _ _ _ (by decide), f22]
    have h20 : mw w f (w 144) 135 20 = P := by rw [mw_f _ _ _ _ (by decide), f20]
    have hpc : p_X10_give S [vr 135, vi m, vi M, vi bw, vi hf] (mw w f (w 144)) := by
      refine ⟨rfl, hS, (mH_mw hM).2.2.2, by rw [xx _ _ _ _ (by decide) (by decide)]; exact m6, ⟨by omega, by omega⟩, by omega, ?_, ?_, by rw [h22]; omega⟩
      · rw [eB]; split
        · exact Or.inr rfl
        · exact Or.inl rfl
      · rw [eH]; split
        · exact Or.inr rfl
        · exact Or.inl rfl
    have e161 : ∀ v w2, q_X10_give S [vr 135, vi m, vi M, vi bw, vi hf] (mw w f (w 144)) v w2 → G 161 [some (vr 135), some (vi r), some (vi m), some (vi wet), y4, y5, y6] [] w2 := by
      intro v w2 hq
      simp only [q_X10_give, gl0, h22, h20, mw_mw, mw_g] at hq
      obtain ⟨f', rfl, g21, g22, g23, g17, g18, g19, g20⟩ := hq
      have e0 : z0 S Z R m (w 135 22) = eMin M (w 135 22 + P) := by unfold z0; rw [eMd, e3d]
      (apply hG [] 2000; simp only [w_br_i, w_ite, w_all, w_all0, forall_eq, w_b0, w_b1, ↓reduceIte, w_ent, w_pos, List.replicate_succ, List.replicate_zero, wp_s, wk_s, w_lk_c, w_ld0, w_ldS, w_kp0, w_kp, w_s1, w_s2, w_to, w_if, w_call, w_sw, w_cat, w_cats, w_psh, w_fv, List.contains_cons, List.contains_nil, List.set_cons_zero, List.set_cons_succ, List.length_cons, List.length_nil, List.find?_cons, List.find?_nil, List.take_succ_cons, List.take_zero, List.drop_succ_cons, List.drop_zero, List.reverse_cons, List.reverse_nil, List.nil_append, List.cons_append, Option.map_some, Option.map_none, Nat.reduceAdd, Nat.reduceBEq, Nat.reduceEqDiff, Nat.reduceLT, Nat.reduceLeDiff, Nat.reduceSub, Int.reduceAdd, Int.reduceSub, Int.reduceMul, Int.reduceNeg, Int.reduceToNat, Int.reduceLT, Int.reduceLE, Int.reduceEq, Bool.false_eq_true, Bool.or_false, Bool.false_or, Bool.true_or, Bool.or_true, if_true, if_false, ite_true, ite_false, true_and, and_true, false_and, and_false, true_or, or_true, false_or, or_false, Int.cast_ofNat_Int, Int.toNat_natCast, Int.natCast_add, List.getElem?_cons_zero, List.getElem?_cons_succ, true_implies, forall_const, not_true_eq_false, not_false_eq_true, ne_eq, beq_iff_eq, imp_self, List.length_set, Nat.zero_add, Nat.add_zero, Int.zero_add, Int.add_zero, w1_aload_n_0, w1_getfield, w1_iload_n_1, w1_iaload, w1_istore, w1_iconst, w1_putfield, w1_putfield2, w1_sipush, w1_iload, w1_if_icmp, w1_iload_n_2, w1_invokevirtual, w1_bipush, w1_imul, w1_iadd, w1_iload_n_3, w1_invokestatic, w1_dup, w1_dup2, w1_goto, w1_return, dX10_end_0, dX10_end_1, dX10_end_4, dX10_end_5, dX10_end_6, dX10_end_8, dX10_end_9, dX10_end_10, dX10_end_13, dX10_end_16, dX10_end_18, dX10_end_20, dX10_end_21, dX10_end_24, dX10_end_25, dX10_end_28, dX10_end_29, dX10_end_32, dX10_end_33, dX10_end_34, dX10_end_37, dX10_end_38, dX10_end_39, dX10_end_40, dX10_end_41, dX10_end_44, dX10_end_47, dX10_end_50, dX10_end_52, dX10_end_53, dX10_end_56, dX10_end_57, dX10_end_60, dX10_end_62, dX10_end_63, dX10_end_64, dX10_end_65, dX10_end_66, dX10_end_67, dX10_end_69, dX10_end_71, dX10_end_72, dX10_end_75, dX10_end_76, dX10_end_77, dX10_end_80, dX10_end_81, dX10_end_84, dX10_end_86, dX10_end_87, dX10_end_88, dX10_end_91, dX10_end_93, dX10_end_94, dX10_end_97, dX10_end_98, dX10_end_101, dX10_end_103, dX10_end_104, dX10_end_106, dX10_end_107, dX10_end_108, dX10_end_111, dX10_end_112, dX10_end_115, dX10_end_116, dX10_end_119, dX10_end_120, dX10_end_121, dX10_end_123, dX10_end_125, dX10_end_126, dX10_end_129, dX10_end_130, dX10_end_133, dX10_end_134, dX10_end_136, dX10_end_137, dX10_end_140, dX10_end_141, dX10_end_144, dX10_end_145, dX10_end_148, dX10_end_149, dX10_end_150, dX10_end_153, dX10_end_154, dX10_end_157, dX10_end_158, dX10_end_161, w_flk10_168, w_flk10_180, w_flk10_25, w_flk10_28, w_flk10_31, w_flk10_41, w_flk10_44])
      (repeat' (with_reducible (first | refine And.intro ?_ ?_ | intro _))) <;> (try (first | (with_reducible assumption) | (simp only [inI, inL]; omega) | omega))
      all_goals (simp only [q_X10_end]; rw [eme, m1]; refine ⟨f', ?_, ?_, ?_, ?_, ?_, ?_, ?_, ?_⟩)
      · unfold zS; rw [hHe, hBe, e0]
      · rw [g20, hPe]
      · rw [g21]; unfold zG zL; rw [hHe, hBe, e0]
      · rw [g22]; unfold zE zG zL; rw [hHe, hBe, e0, e3d]
      · rw [g23]; unfold zC; rw [hHe, hBe, e0, hPe]
      · rw [g17, mw_f _ _ _ _ (by decide)]; exact fe.1
      · rw [g18, mw_f _ _ _ _ (by decide)]; exact fe.2.1
      · rw [g19, mw_f _ _ _ _ (by decide)]; exact fe.2.2
    (apply hG [161] 2000; simp only [w_br_i, w_ite, w_all, w_all0, forall_eq, w_b0, w_b1, ↓reduceIte, w_ent, w_pos, List.replicate_succ, List.replicate_zero, wp_s, wk_s, w_lk_c, w_ld0, w_ldS, w_kp0, w_kp, w_s1, w_s2, w_to, w_if, w_call, w_sw, w_cat, w_cats, w_psh, w_fv, List.contains_cons, List.contains_nil, List.set_cons_zero, List.set_cons_succ, List.length_cons, List.length_nil, List.find?_cons, List.find?_nil, List.take_succ_cons, List.take_zero, List.drop_succ_cons, List.drop_zero, List.reverse_cons, List.reverse_nil, List.nil_append, List.cons_append, Option.map_some, Option.map_none, Nat.reduceAdd, Nat.reduceBEq, Nat.reduceEqDiff, Nat.reduceLT, Nat.reduceLeDiff, Nat.reduceSub, Int.reduceAdd, Int.reduceSub, Int.reduceMul, Int.reduceNeg, Int.reduceToNat, Int.reduceLT, Int.reduceLE, Int.reduceEq, Bool.false_eq_true, Bool.or_false, Bool.false_or, Bool.true_or, Bool.or_true, if_true, if_false, ite_true, ite_false, true_and, and_true, false_and, and_false, true_or, or_true, false_or, or_false, Int.cast_ofNat_Int, Int.toNat_natCast, Int.natCast_add, List.getElem?_cons_zero, List.getElem?_cons_succ, true_implies, forall_const, not_true_eq_false, not_false_eq_true, ne_eq, beq_iff_eq, imp_self, List.length_set, Nat.zero_add, Nat.add_zero, Int.zero_add, Int.add_zero, w1_aload_n_0, w1_getfield, w1_iload_n_1, w1_iaload, w1_istore, w1_iconst, w1_putfield, w1_putfield2, w1_sipush, w1_iload, w1_if_icmp, w1_iload_n_2, w1_invokevirtual, w1_bipush, w1_imul, w1_iadd, w1_iload_n_3, w1_invokestatic, w1_dup, w1_dup2, w1_goto, w1_return, dX10_end_0, dX10_end_1, dX10_end_4, dX10_end_5, dX10_end_6, dX10_end_8, dX10_end_9, dX10_end_10, dX10_end_13, dX10_end_16, dX10_end_18, dX10_end_20, dX10_end_21, dX10_end_24, dX10_end_25, dX10_end_28, dX10_end_29, dX10_end_32, dX10_end_33, dX10_end_34, dX10_end_37, dX10_end_38, dX10_end_39, dX10_end_40, dX10_end_41, dX10_end_44, dX10_end_47, dX10_end_50, dX10_end_52, dX10_end_53, dX10_end_56, dX10_end_57, dX10_end_60, dX10_end_62, dX10_end_63, dX10_end_64, dX10_end_65, dX10_end_66, dX10_end_67, dX10_end_69, dX10_end_71, dX10_end_72, dX10_end_75, dX10_end_76, dX10_end_77, dX10_end_80, dX10_end_81, dX10_end_84, dX10_end_86, dX10_end_87, dX10_end_88, dX10_end_91, dX10_end_93, dX10_end_94, dX10_end_97, dX10_end_98, dX10_end_101, dX10_end_103, dX10_end_104, dX10_end_106, dX10_end_107, dX10_end_108, dX10_end_111, dX10_end_112, dX10_end_115, dX10_end_116, dX10_end_119, dX10_end_120, dX10_end_121, dX10_end_123, dX10_end_125, dX10_end_126, dX10_end_129, dX10_end_130, dX10_end_133, dX10_end_134, dX10_end_136, dX10_end_137, dX10_end_140, dX10_end_141, dX10_end_144, dX10_end_145, dX10_end_148, dX10_end_149, dX10_end_150, dX10_end_153, dX10_end_154, dX10_end_157, dX10_end_158, dX10_end_161, w_flk10_168, w_flk10_180, w_flk10_25, w_flk10_28, w_flk10_31, w_flk10_41, w_flk10_44, w_kd_135, w_rf_135_0, w_rf_135_2, w_rf_135_3, w_rf_135_8, w_rf_135_12, w_rf_135_14, w_rf_135_15, w_rf_135_16, w_rf_135_24, w_rf_135_25, w_rf_135_26, w_rf_135_27, w_rf_135_28, w_rf_135_29, w_rf_135_30, w_rf_135_33, w_rf_135_34, w_rf_135_39, w_rf_135_40, w_rf_135_41, w_rf_135_42, hpc])
    (repeat' (with_reducible (first | refine And.intro ?_ ?_ | intro _))) <;> (try (first | (with_reducible assumption) | (simp only [inI, inL]; omega) | omega))
    all_goals exact e161 _ _ (by assumption)
  have e106 : ∀ (f : Nat → Int) (y6 : Option wV), f 20 = P → f 22 = w 135 22 → (f 17 = w 135 17 ∧ f 18 = w 135 18 ∧ f 19 = w 135 19) → G 106 [some (vr 135), some (vi r), some (vi m), some (vi wet), some (vi (w 141 r)), some (vi M), y6] [] (mw w f (w 144)) := by
    intro f y6 f20 f22 fe
    have e := e158 (fup f 22 (w 135 22 + P)) (some (vi (w 141 r))) (some (vi M)) y6 (by simp [fup, f20]) (by simp [fup]) (by simp [fup, fe])
    (apply hG [158] 2000; simp only [w_br_i, w_ite, w_all, w_all0, forall_eq, w_b0, w_b1, ↓reduceIte, w_ent, w_pos, List.replicate_succ, List.replicate_zero, wp_s, wk_s, w_lk_c, w_ld0, w_ldS, w_kp0, w_kp, w_s1, w_s2, w_to, w_if, w_call, w_sw, w_cat, w_cats, w_psh, w_fv, List.contains_cons, List.contains_nil, List.set_cons_zero, List.set_cons_succ, List.length_cons, List.length_nil, List.find?_cons, List.find?_nil, List.take_succ_cons, List.take_zero, List.drop_succ_cons, List.drop_zero, List.reverse_cons, List.reverse_nil, List.nil_append, List.cons_append, Option.map_some, Option.map_none, Nat.reduceAdd, Nat.reduceBEq, Nat.reduceEqDiff, Nat.reduceLT, Nat.reduceLeDiff, Nat.reduceSub, Int.reduceAdd, Int.reduceSub, Int.reduceMul, Int.reduceNeg, Int.reduceToNat, Int.reduceLT, Int.reduceLE, Int.reduceEq, Bool.false_eq_true, Bool.or_false, Bool.false_or, Bool.true_or, Bool.or_true, if_true, if_false, ite_true, ite_false, true_and, and_true, false_and, and_false, true_or, or_true, false_or, or_false, Int.cast_ofNat_Int, Int.toNat_natCast, Int.natCast_add, List.getElem?_cons_zero, List.getElem?_cons_succ, true_implies, forall_const, not_true_eq_false, not_false_eq_true, ne_eq, beq_iff_eq, imp_self, List.length_set, Nat.zero_add, Nat.add_zero, Int.zero_add, Int.add_zero, w1_aload_n_0, w1_getfield, w1_iload_n_1, w1_iaload, w1_istore, w1_iconst, w1_putfield, w1_putfield2, w1_sipush, w1_iload, w1_if_icmp, w1_iload_n_2, w1_invokevirtual, w1_bipush, w1_imul, w1_iadd, w1_iload_n_3, w1_invokestatic, w1_dup, w1_dup2, w1_goto, w1_return, dX10_end_0, dX10_end_1, dX10_end_4, dX10_end_5, dX10_end_6, dX10_end_8, dX10_end_9, dX10_end_10, dX10_end_13, dX10_end_16, dX10_end_18, dX10_end_20, dX10_end_21, dX10_end_24, dX10_end_25, dX10_end_28, dX10_end_29, dX10_end_32, dX10_end_33, dX10_end_34, dX10_end_37, dX10_end_38, dX10_end_39, dX10_end_40, dX10_end_41, dX10_end_44, dX10_end_47, dX10_end_50, dX10_end_52, dX10_end_53, dX10_end_56, dX10_end_57, dX10_end_60, dX10_end_62, dX10_end_63, dX10_end_64, dX10_end_65, dX10_end_66, dX10_end_67, dX10_end_69, dX10_end_71, dX10_end_72, dX10_end_75, dX10_end_76, dX10_end_77, dX10_end_80, dX10_end_81, dX10_end_84, dX10_end_86, dX10_end_87, dX10_end_88, dX10_end_91, dX10_end_93, dX10_end_94, dX10_end_97, dX10_end_98, dX10_end_101, dX10_end_103, dX10_end_104, dX10_end_106, dX10_end_107, dX10_end_108, dX10_end_111, dX10_end_112, dX10_end_115, dX10_end_116, dX10_end_119, dX10_end_120, dX10_end_121, dX10_end_123, dX10_end_125, dX10_end_126, dX10_end_129, dX10_end_130, dX10_end_133, dX10_end_134, dX10_end_136, dX10_end_137, dX10_end_140, dX10_end_141, dX10_end_144, dX10_end_145, dX10_end_148, dX10_end_149, dX10_end_150, dX10_end_153, dX10_end_154, dX10_end_157, dX10_end_158, dX10_end_161, w_flk10_168, w_flk10_180, w_flk10_25, w_flk10_28, w_flk10_31, w_flk10_41, w_flk10_44, w_kd_135, w_rf_135_0, w_rf_135_2, w_rf_135_3, w_rf_135_8, w_rf_135_12, w_rf_135_14, w_rf_135_15, w_rf_135_16, w_rf_135_24, w_rf_135_25, w_rf_135_26, w_rf_135_27, w_rf_135_28, w_rf_135_29, w_rf_135_30, w_rf_135_33, w_rf_135_34, w_rf_135_39, w_rf_135_40, w_rf_135_41, w_rf_135_42, w_kd_142, w_ln_142, mw_uf, mw_f, fup_i, f20, f22, xx])
    (repeat' (with_reducible (first | refine And.intro ?_ ?_ | intro _))) <;> (try (first | (with_reducible assumption) | (simp only [inI, inL]; omega) | omega))
    all_goals first
      | (exfalso; omega)
      | (rw [eH, eB] at e
         first
           | (rw [if_pos (show w 141 r = 1 ∧ w 135 22 + P < w 142 r by omega), if_pos (show (2 : Int) ≤ w 141 r by omega)] at e; exact e)
           | (rw [if_pos (show w 141 r = 1 ∧ w 135 22 + P < w 142 r by omega), if_neg (show ¬ (2 : Int) ≤ w 141 r by omega)] at e; exact e)
           | (rw [if_neg (show ¬ (w 141 r = 1 ∧ w 135 22 + P < w 142 r) by omega), if_pos (show (2 : Int) ≤ w 141 r by omega)] at e; exact e)
           | (rw [if_neg (show ¬ (w 141 r = 1 ∧ w 135 22 + P < w 142 r) by omega), if_neg (show ¬ (2 : Int) ≤ w 141 r by omega)] at e; exact e))
  have t12 : (12 * (r : Int) + m).toNat = 12 * r + m := by omega
  have hst : (402 * (m : Int) + 2 * w 135 22 + if wet = 0 then 0 else 1) = (402 * m + stF (w 135 22) wet : Nat) := by
    unfold stF
    split <;> omega
  have hstt : (402 * m + stF (w 135 22) wet) < 4824 := by
    unfold stF
    split <;> omega
  have hstt0 : ((402 * m + stF (w 135 22) wet : Nat) : Int) < 4824 := by omega
  by_cases k3 : w 141 r = 3
  · have hPk : P = w 146 (402 * m + stF (w 135 22) wet) := by rw [ePd]; unfold ePump; rw [if_pos k3]
    have hMk : M = w 147 (402 * m + stF (w 135 22) wet) := by rw [← hMe]; unfold eMost; rw [if_pos k3]
    have e := e106 (fup (fup (w 135) 20 0) 20 P) (some (vi ((402 * m + stF (w 135 22) wet : Nat)))) (by simp [fup]) (by simp [fup]) (by simp [fup])
    rw [← mw_id w]
    generalize hse : 402 * m + stF (w 135 22) wet = se at *
    (apply hG [106] 2000; simp only [w_br_i, w_ite, w_all, w_all0, forall_eq, w_b0, w_b1, ↓reduceIte, w_ent, w_pos, List.replicate_succ, List.replicate_zero, wp_s, wk_s, w_lk_c, w_ld0, w_ldS, w_kp0, w_kp, w_s1, w_s2, w_to, w_if, w_call, w_sw, w_cat, w_cats, w_psh, w_fv, List.contains_cons, List.contains_nil, List.set_cons_zero, List.set_cons_succ, List.length_cons, List.length_nil, List.find?_cons, List.find?_nil, List.take_succ_cons, List.take_zero, List.drop_succ_cons, List.drop_zero, List.reverse_cons, List.reverse_nil, List.nil_append, List.cons_append, Option.map_some, Option.map_none, Nat.reduceAdd, Nat.reduceBEq, Nat.reduceEqDiff, Nat.reduceLT, Nat.reduceLeDiff, Nat.reduceSub, Int.reduceAdd, Int.reduceSub, Int.reduceMul, Int.reduceNeg, Int.reduceToNat, Int.reduceLT, Int.reduceLE, Int.reduceEq, Bool.false_eq_true, Bool.or_false, Bool.false_or, Bool.true_or, Bool.or_true, if_true, if_false, ite_true, ite_false, true_and, and_true, false_and, and_false, true_or, or_true, false_or, or_false, Int.cast_ofNat_Int, Int.toNat_natCast, Int.natCast_add, List.getElem?_cons_zero, List.getElem?_cons_succ, true_implies, forall_const, not_true_eq_false, not_false_eq_true, ne_eq, beq_iff_eq, imp_self, List.length_set, Nat.zero_add, Nat.add_zero, Int.zero_add, Int.add_zero, w1_aload_n_0, w1_getfield, w1_iload_n_1, w1_iaload, w1_istore, w1_iconst, w1_putfield, w1_putfield2, w1_sipush, w1_iload, w1_if_icmp, w1_iload_n_2, w1_invokevirtual, w1_bipush, w1_imul, w1_iadd, w1_iload_n_3, w1_invokestatic, w1_dup, w1_dup2, w1_goto, w1_return, dX10_end_0, dX10_end_1, dX10_end_4, dX10_end_5, dX10_end_6, dX10_end_8, dX10_end_9, dX10_end_10, dX10_end_13, dX10_end_16, dX10_end_18, dX10_end_20, dX10_end_21, dX10_end_24, dX10_end_25, dX10_end_28, dX10_end_29, dX10_end_32, dX10_end_33, dX10_end_34, dX10_end_37, dX10_end_38, dX10_end_39, dX10_end_40, dX10_end_41, dX10_end_44, dX10_end_47, dX10_end_50, dX10_end_52, dX10_end_53, dX10_end_56, dX10_end_57, dX10_end_60, dX10_end_62, dX10_end_63, dX10_end_64, dX10_end_65, dX10_end_66, dX10_end_67, dX10_end_69, dX10_end_71, dX10_end_72, dX10_end_75, dX10_end_76, dX10_end_77, dX10_end_80, dX10_end_81, dX10_end_84, dX10_end_86, dX10_end_87, dX10_end_88, dX10_end_91, dX10_end_93, dX10_end_94, dX10_end_97, dX10_end_98, dX10_end_101, dX10_end_103, dX10_end_104, dX10_end_106, dX10_end_107, dX10_end_108, dX10_end_111, dX10_end_112, dX10_end_115, dX10_end_116, dX10_end_119, dX10_end_120, dX10_end_121, dX10_end_123, dX10_end_125, dX10_end_126, dX10_end_129, dX10_end_130, dX10_end_133, dX10_end_134, dX10_end_136, dX10_end_137, dX10_end_140, dX10_end_141, dX10_end_144, dX10_end_145, dX10_end_148, dX10_end_149, dX10_end_150, dX10_end_153, dX10_end_154, dX10_end_157, dX10_end_158, dX10_end_161, w_flk10_168, w_flk10_180, w_flk10_25, w_flk10_28, w_flk10_31, w_flk10_41, w_flk10_44, w_kd_135, w_rf_135_0, w_rf_135_2, w_rf_135_3, w_rf_135_8, w_rf_135_12, w_rf_135_14, w_rf_135_15, w_rf_135_16, w_rf_135_24, w_rf_135_25, w_rf_135_26, w_rf_135_27, w_rf_135_28, w_rf_135_29, w_rf_135_30, w_rf_135_33, w_rf_135_34, w_rf_135_39, w_rf_135_40, w_rf_135_41, w_rf_135_42, w_kd_141, w_ln_141, w_kd_146, w_ln_146, w_kd_147, w_ln_147, mw_uf, mw_f, fup_i, xx, k3, p_X10_stateAt, q_X10_stateAt, hst])
    (repeat' (with_reducible (first | refine And.intro ?_ ?_ | intro _))) <;> (try (first | (with_reducible assumption) | (simp only [inI, inL]; omega) | omega))
    all_goals first
      | (exfalso; omega)
      | (rw [k3, hMk] at e; rw [hPk] at e; exact e)
  · by_cases k4 : w 141 r = 4 ∧ w 135 22 < w 142 r
    · have hPk : P = if Z - w 135 22 < (if (m : Int) = 7 then 0 else S 0 5) then Z - w 135 22 else (if (m : Int) = 7 then 0 else S 0 5) := by rw [ePd]; unfold ePump; rw [if_neg k3, if_pos k4]
      have hPk' := hPk.symm
      have hMk : M = 200 := by rw [← hMe]; unfold eMost; rw [if_neg k3, if_neg (by omega)]
      have e := e106 (fup (fup (w 135) 20 0) 20 P) none (by simp [fup]) (by simp [fup]) (by simp [fup])
      have hpc : p_X10_mostPumped [vr 135, vi m, vi (w 135 22)] (mw w (fup (w 135) 20 0) (w 144)) := ⟨rfl, ⟨by omega, by omega⟩, by rw [xx _ _ _ _ (by decide) (by decide), m5]; exact h05, by rw [xx _ _ _ _ (by decide) (by decide), m1]; omega, by omega⟩
      have k41 := k4.1
      rw [k41, hMk] at e
      rw [← mw_id w]
      (apply hG [106] 2000; simp only [w_br_i, w_ite, w_all, w_all0, forall_eq, w_b0, w_b1, ↓reduceIte, w_ent, w_pos, List.replicate_succ, List.replicate_zero, wp_s, wk_s, w_lk_c, w_ld0, w_ldS, w_kp0, w_kp, w_s1, w_s2, w_to, w_if, w_call, w_sw, w_cat, w_cats, w_psh, w_fv, List.contains_cons, List.contains_nil, List.set_cons_zero, List.set_cons_succ, List.length_cons, List.length_nil, List.find?_cons, List.find?_nil, List.take_succ_cons, List.take_zero, List.drop_succ_cons, List.drop_zero, List.reverse_cons, List.reverse_nil, List.nil_append, List.cons_append, Option.map_some, Option.map_none, Nat.reduceAdd, Nat.reduceBEq, Nat.reduceEqDiff, Nat.reduceLT, Nat.reduceLeDiff, Nat.reduceSub, Int.reduceAdd, Int.reduceSub, Int.reduceMul, Int.reduceNeg, Int.reduceToNat, Int.reduceLT, Int.reduceLE, Int.reduceEq, Bool.false_eq_true, Bool.or_false, Bool.false_or, Bool.true_or, Bool.or_true, if_true, if_false, ite_true, ite_false, true_and, and_true, false_and, and_false, true_or, or_true, false_or, or_false, Int.cast_ofNat_Int, Int.toNat_natCast, Int.natCast_add, List.getElem?_cons_zero, List.getElem?_cons_succ, true_implies, forall_const, not_true_eq_false, not_false_eq_true, ne_eq, beq_iff_eq, imp_self, List.length_set, Nat.zero_add, Nat.add_zero, Int.zero_add, Int.add_zero, w1_aload_n_0, w1_getfield, w1_iload_n_1, w1_iaload, w1_istore, w1_iconst, w1_putfield, w1_putfield2, w1_sipush, w1_iload, w1_if_icmp, w1_iload_n_2, w1_invokevirtual, w1_bipush, w1_imul, w1_iadd, w1_iload_n_3, w1_invokestatic, w1_dup, w1_dup2, w1_goto, w1_return, dX10_end_0, dX10_end_1, dX10_end_4, dX10_end_5, dX10_end_6, dX10_end_8, dX10_end_9, dX10_end_10, dX10_end_13, dX10_end_16, dX10_end_18, dX10_end_20, dX10_end_21, dX10_end_24, dX10_end_25, dX10_end_28, dX10_end_29, dX10_end_32, dX10_end_33, dX10_end_34, dX10_end_37, dX10_end_38, dX10_end_39, dX10_end_40, dX10_end_41, dX10_end_44, dX10_end_47, dX10_end_50, dX10_end_52, dX10_end_53, dX10_end_56, dX10_end_57, dX10_end_60, dX10_end_62, dX10_end_63, dX10_end_64, dX10_end_65, dX10_end_66, dX10_end_67, dX10_end_69, dX10_end_71, dX10_end_72, dX10_end_75, dX10_end_76, dX10_end_77, dX10_end_80, dX10_end_81, dX10_end_84, dX10_end_86, dX10_end_87, dX10_end_88, dX10_end_91, dX10_end_93, dX10_end_94, dX10_end_97, dX10_end_98, dX10_end_101, dX10_end_103, dX10_end_104, dX10_end_106, dX10_end_107, dX10_end_108, dX10_end_111, dX10_end_112, dX10_end_115, dX10_end_116, dX10_end_119, dX10_end_120, dX10_end_121, dX10_end_123, dX10_end_125, dX10_end_126, dX10_end_129, dX10_end_130, dX10_end_133, dX10_end_134, dX10_end_136, dX10_end_137, dX10_end_140, dX10_end_141, dX10_end_144, dX10_end_145, dX10_end_148, dX10_end_149, dX10_end_150, dX10_end_153, dX10_end_154, dX10_end_157, dX10_end_158, dX10_end_161, w_flk10_168, w_flk10_180, w_flk10_25, w_flk10_28, w_flk10_31, w_flk10_41, w_flk10_44, w_kd_135, w_rf_135_0, w_rf_135_2, w_rf_135_3, w_rf_135_8, w_rf_135_12, w_rf_135_14, w_rf_135_15, w_rf_135_16, w_rf_135_24, w_rf_135_25, w_rf_135_26, w_rf_135_27, w_rf_135_28, w_rf_135_29, w_rf_135_30, w_rf_135_33, w_rf_135_34, w_rf_135_39, w_rf_135_40, w_rf_135_41, w_rf_135_42, w_kd_141, w_ln_141, w_kd_142, w_ln_142, mw_uf, mw_f, fup_i, xx, k41, hpc, q_X10_mostPumped, m1, m5, hPk'])
      (repeat' (with_reducible (first | refine And.intro ?_ ?_ | intro _))) <;> (try (first | (with_reducible assumption) | (simp only [inI, inL]; omega) | omega))
      all_goals first
        | (exfalso; omega)
        | exact e
    · have hPk : P = 0 := by rw [ePd]; unfold ePump; rw [if_neg k3, if_neg k4]
      have e := e106 (fup (w 135) 20 0) none (by simp [fup, hPk]) (by simp [fup]) (by simp [fup])
      by_cases k5 : w 141 r = 5
      · have hMk : M = w 143 (12 * r + m) := by rw [← hMe]; unfold eMost; rw [if_neg k3, if_pos k5]
        rw [k5, hMk] at e
        rw [← mw_id w]
        (apply hG [106] 2000; simp only [w_br_i, w_ite, w_all, w_all0, forall_eq, w_b0, w_b1, ↓reduceIte, w_ent, w_pos, List.replicate_succ, List.replicate_zero, wp_s, wk_s, w_lk_c, w_ld0, w_ldS, w_kp0, w_kp, w_s1, w_s2, w_to, w_if, w_call, w_sw, w_cat, w_cats, w_psh, w_fv, List.contains_cons, List.contains_nil, List.set_cons_zero, List.set_cons_succ, List.length_cons, List.length_nil, List.find?_cons, List.find?_nil, List.take_succ_cons, List.take_zero, List.drop_succ_cons, List.drop_zero, List.reverse_cons, List.reverse_nil, List.nil_append, List.cons_append, Option.map_some, Option.map_none, Nat.reduceAdd, Nat.reduceBEq, Nat.reduceEqDiff, Nat.reduceLT, Nat.reduceLeDiff, Nat.reduceSub, Int.reduceAdd, Int.reduceSub, Int.reduceMul, Int.reduceNeg, Int.reduceToNat, Int.reduceLT, Int.reduceLE, Int.reduceEq, Bool.false_eq_true, Bool.or_false, Bool.false_or, Bool.true_or, Bool.or_true, if_true, if_false, ite_true, ite_false, true_and, and_true, false_and, and_false, true_or, or_true, false_or, or_false, Int.cast_ofNat_Int, Int.toNat_natCast, Int.natCast_add, List.getElem?_cons_zero, List.getElem?_cons_succ, true_implies, forall_const, not_true_eq_false, not_false_eq_true, ne_eq, beq_iff_eq, imp_self, List.length_set, Nat.zero_add, Nat.add_zero, Int.zero_add, Int.add_zero, w1_aload_n_0, w1_getfield, w1_iload_n_1, w1_iaload, w1_istore, w1_iconst, w1_putfield, w1_putfield2, w1_sipush, w1_iload, w1_if_icmp, w1_iload_n_2, w1_invokevirtual, w1_bipush, w1_imul, w1_iadd, w1_iload_n_3, w1_invokestatic, w1_dup, w1_dup2, w1_goto, w1_return, dX10_end_0, dX10_end_1, dX10_end_4, dX10_end_5, dX10_end_6, dX10_end_8, dX10_end_9, dX10_end_10, dX10_end_13, dX10_end_16, dX10_end_18, dX10_end_20, dX10_end_21, dX10_end_24, dX10_end_25, dX10_end_28, dX10_end_29, dX10_end_32, dX10_end_33, dX10_end_34, dX10_end_37, dX10_end_38, dX10_end_39, dX10_end_40, dX10_end_41, dX10_end_44, dX10_end_47, dX10_end_50, dX10_end_52, dX10_end_53, dX10_end_56, dX10_end_57, dX10_end_60, dX10_end_62, dX10_end_63, dX10_end_64, dX10_end_65, dX10_end_66, dX10_end_67, dX10_end_69, dX10_end_71, dX10_end_72, dX10_end_75, dX10_end_76, dX10_end_77, dX10_end_80, dX10_end_81, dX10_end_84, dX10_end_86, dX10_end_87, dX10_end_88, dX10_end_91, dX10_end_93, dX10_end_94, dX10_end_97, dX10_end_98, dX10_end_101, dX10_end_103, dX10_end_104, dX10_end_106, dX10_end_107, dX10_end_108, dX10_end_111, dX10_end_112, dX10_end_115, dX10_end_116, dX10_end_119, dX10_end_120, dX10_end_121, dX10_end_123, dX10_end_125, dX10_end_126, dX10_end_129, dX10_end_130, dX10_end_133, dX10_end_134, dX10_end_136, dX10_end_137, dX10_end_140, dX10_end_141, dX10_end_144, dX10_end_145, dX10_end_148, dX10_end_149, dX10_end_150, dX10_end_153, dX10_end_154, dX10_end_157, dX10_end_158, dX10_end_161, w_flk10_168, w_flk10_180, w_flk10_25, w_flk10_28, w_flk10_31, w_flk10_41, w_flk10_44, w_kd_135, w_rf_135_0, w_rf_135_2, w_rf_135_3, w_rf_135_8, w_rf_135_12, w_rf_135_14, w_rf_135_15, w_rf_135_16, w_rf_135_24, w_rf_135_25, w_rf_135_26, w_rf_135_27, w_rf_135_28, w_rf_135_29, w_rf_135_30, w_rf_135_33, w_rf_135_34, w_rf_135_39, w_rf_135_40, w_rf_135_41, w_rf_135_42, w_kd_141, w_ln_141, w_kd_142, w_ln_142, w_kd_143, w_ln_143, mw_uf, mw_f, fup_i, xx, k5, t12])
        (repeat' (with_reducible (first | refine And.intro ?_ ?_ | intro _))) <;> (try (first | (with_reducible assumption) | (simp only [inI, inL]; omega) | omega))
        all_goals first
          | (exfalso; omega)
          | exact e
      · have hMk : M = 200 := by rw [← hMe]; unfold eMost; rw [if_neg k3, if_neg k5]
        rw [hMk] at e
        rw [← mw_id w]
        (apply hG [106] 2000; simp only [w_br_i, w_ite, w_all, w_all0, forall_eq, w_b0, w_b1, ↓reduceIte, w_ent, w_pos, List.replicate_succ, List.replicate_zero, wp_s, wk_s, w_lk_c, w_ld0, w_ldS, w_kp0, w_kp, w_s1, w_s2, w_to, w_if, w_call, w_sw, w_cat, w_cats, w_psh, w_fv, List.contains_cons, List.contains_nil, List.set_cons_zero, List.set_cons_succ, List.length_cons, List.length_nil, List.find?_cons, List.find?_nil, List.take_succ_cons, List.take_zero, List.drop_succ_cons, List.drop_zero, List.reverse_cons, List.reverse_nil, List.nil_append, List.cons_append, Option.map_some, Option.map_none, Nat.reduceAdd, Nat.reduceBEq, Nat.reduceEqDiff, Nat.reduceLT, Nat.reduceLeDiff, Nat.reduceSub, Int.reduceAdd, Int.reduceSub, Int.reduceMul, Int.reduceNeg, Int.reduceToNat, Int.reduceLT, Int.reduceLE, Int.reduceEq, Bool.false_eq_true, Bool.or_false, Bool.false_or, Bool.true_or, Bool.or_true, if_true, if_false, ite_true, ite_false, true_and, and_true, false_and, and_false, true_or, or_true, false_or, or_false, Int.cast_ofNat_Int, Int.toNat_natCast, Int.natCast_add, List.getElem?_cons_zero, List.getElem?_cons_succ, true_implies, forall_const, not_true_eq_false, not_false_eq_true, ne_eq, beq_iff_eq, imp_self, List.length_set, Nat.zero_add, Nat.add_zero, Int.zero_add, Int.add_zero, w1_aload_n_0, w1_getfield, w1_iload_n_1, w1_iaload, w1_istore, w1_iconst, w1_putfield, w1_putfield2, w1_sipush, w1_iload, w1_if_icmp, w1_iload_n_2, w1_invokevirtual, w1_bipush, w1_imul, w1_iadd, w1_iload_n_3, w1_invokestatic, w1_dup, w1_dup2, w1_goto, w1_return, dX10_end_0, dX10_end_1, dX10_end_4, dX10_end_5, dX10_end_6, dX10_end_8, dX10_end_9, dX10_end_10, dX10_end_13, dX10_end_16, dX10_end_18, dX10_end_20, dX10_end_21, dX10_end_24, dX10_end_25, dX10_end_28, dX10_end_29, dX10_end_32, dX10_end_33, dX10_end_34, dX10_end_37, dX10_end_38, dX10_end_39, dX10_end_40, dX10_end_41, dX10_end_44, dX10_end_47, dX10_end_50, dX10_end_52, dX10_end_53, dX10_end_56, dX10_end_57, dX10_end_60, dX10_end_62, dX10_end_63, dX10_end_64, dX10_end_65, dX10_end_66, dX10_end_67, dX10_end_69, dX10_end_71, dX10_end_72, dX10_end_75, dX10_end_76, dX10_end_77, dX10_end_80, dX10_end_81, dX10_end_84, dX10_end_86, dX10_end_87, dX10_end_88, dX10_end_91, dX10_end_93, dX10_end_94, dX10_end_97, dX10_end_98, dX10_end_101, dX10_end_103, dX10_end_104, dX10_end_106, dX10_end_107, dX10_end_108, dX10_end_111, dX10_end_112, dX10_end_115, dX10_end_116, dX10_end_119, dX10_end_120, dX10_end_121, dX10_end_123, dX10_end_125, dX10_end_126, dX10_end_129, dX10_end_130, dX10_end_133, dX10_end_134, dX10_end_136, dX10_end_137, dX10_end_140, dX10_end_141, dX10_end_144, dX10_end_145, dX10_end_148, dX10_end_149, dX10_end_150, dX10_end_153, dX10_end_154, dX10_end_157, dX10_end_158, dX10_end_161, w_flk10_168, w_flk10_180, w_flk10_25, w_flk10_28, w_flk10_31, w_flk10_41, w_flk10_44, w_kd_135, w_rf_135_0, w_rf_135_2, w_rf_135_3, w_rf_135_8, w_rf_135_12, w_rf_135_14, w_rf_135_15, w_rf_135_16, w_rf_135_24, w_rf_135_25, w_rf_135_26, w_rf_135_27, w_rf_135_28, w_rf_135_29, w_rf_135_30, w_rf_135_33, w_rf_135_34, w_rf_135_39, w_rf_135_40, w_rf_135_41, w_rf_135_42, w_kd_141, w_ln_141, w_kd_142, w_ln_142, w_kd_143, w_ln_143, mw_uf, mw_f, fup_i, xx])
        (repeat' (with_reducible (first | refine And.intro ?_ ?_ | intro _))) <;> (try (first | (with_reducible assumption) | (simp only [inI, inL]; omega) | omega))
        all_goals first
          | (exfalso; omega)
          | exact e
