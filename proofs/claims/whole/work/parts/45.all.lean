/-! the years: S 4 1 how many, S (20 + y) m the rain -/
def yR (S : wW) : Prop := (0 ≤ S 4 1 ∧ S 4 1 ≤ 8) ∧ ∀ y m, y < (S 4 1).toNat → m < 12 → 0 ≤ S (20 + y) m ∧ S (20 + y) m ≤ 9
def yX (S w : wW) : Prop := w 11 1 = S 4 1 ∧ ∀ y m, y < (S 4 1).toNat → m < 12 → w (13 + y) m = S (20 + y) m
def rainF (S : wW) (k : Nat) : Int := S (20 + k / 12) (k % 12)
/-- the run of the rule at cell a, by this area and size -/
def runE (S : wW) (area size : Int) (R : Nat → Int → Int → Nat → Int) : rE := (S, area, size, fun _ => S 0 4, R, rainF S)
def monthsF (S : wW) : Nat := 12 * (S 4 1).toNat
def ev (p q : Nat) (w w1 : wW) : Prop := ∀ k i, (k < p ∨ q < k) → w1 k i = w k i
theorem hX_ev {S w w1 : wW} (h : hX S w) (he : ev 88 92 w w1) : hX S w1 := hX_of h (fun k i hk => he k i (by omega))
theorem rR_ev {w w1 : wW} {a : Nat} (h : rR w a) (he : ev 88 92 w w1) : rR w1 a := by
  obtain ⟨h1, h2, h3, h4⟩ := h
  exact ⟨h1, by rw [he a 1 (by omega)]; exact h2, by rw [he a 2 (by omega)]; exact h3, fun m hm => by rw [he (a + 10) m (by omega)]; exact h4 m hm⟩
theorem plA_ev {w w1 : wW} {a : Nat} {size : Int} (ha : 36 ≤ a ∧ a < 46) (h : plA w a size) (he : ev 88 92 w w1) : plA w1 a size := by
  intro k3 m lv wet hm h1 h2 h3
  rw [he a 1 (by omega)] at k3
  rw [he (58 + m) _ (by omega), he (71 + m) _ (by omega)]
  exact h k3 m lv wet hm h1 h2 h3
theorem rX_ev {w w1 : wW} {a m : Nat} (ha : 36 ≤ a ∧ a < 46) (hm : m < 12) (he : ev 88 92 w w1) (lv wet : Int) : rX w1 a m lv wet = rX w a m lv wet := by
  funext j
  unfold rX
  rw [he a _ (by omega), he a _ (by omega), he (a + 10) _ (by omega), he (58 + m) _ (by omega), he (71 + m) _ (by omega)]
theorem okE_run {S w : wW} {a : Nat} {area size : Int} (hS : hR S) (hy : yR S) (hr : rR w a) (hp : plA w a size) (h1 : 0 ≤ area ∧ area ≤ 25) (h2 : 0 ≤ size ∧ size ≤ 200) : okE (runE S area size (rX w a)) (monthsF S) := by
  refine ⟨hS, h1, h2, fun k _ => hS.2.2.2.2.2.1, fun k hk => ?_, fun m lv wet hm l1 l2 hw => okr_rX hS hr hp hm ⟨l1, l2⟩ hw⟩
  unfold monthsF at hk
  exact hy.2 (k / 12) (k % 12) (by omega) (by omega)
/-- the world in the middle of a run: behind k months -/
def inR (S w : wW) (a : Nat) (area size : Int) (k : Nat) (w1 : wW) : Prop := ev 88 92 w w1 ∧ (w1 88 3 = area ∧ w1 88 4 = size ∧ w1 88 5 = S 0 4) ∧ w1 88 6 = (rnQ (runE S area size (rX w a)) k).1 ∧ w1 88 7 = (rnQ (runE S area size (rX w a)) k).2
theorem inR_pass {S w w1 w2 : wW} {a : Nat} {area size : Int} {k m : Nat} {rain r : Int} (ha : 36 ≤ a ∧ a < 46) (h : inR S w a area size k w1) (hm : k % 12 = m) (hrain : rain = rainF S k) (hq : q_X6_pass S [vr 88, vr a, vi m, vi rain] w1 r w2) :
    inR S w a area size (k + 1) w2 ∧ (∀ i, w2 90 i = w1 90 i) ∧ (∀ i, w2 91 i = w1 91 i) ∧ (∀ i, w2 92 i = w1 92 i) ∧ w2 88 8 = rnC (runE S area size (rX w a)) k ∧ w2 88 9 = rnO (runE S area size (rX w a)) k ∧ w2 88 10 = rnL (runE S area size (rX w a)) k ∧ w2 88 11 = rnP (runE S area size (rX w a)) k ∧ w2 88 12 = rnG (runE S area size (rX w a)) k ∧ w2 88 13 = rnK (runE S area size (rX w a)) k ∧ w2 88 14 = rnM (runE S area size (rX w a)) k ∧
    ∃ f0, w2 89 = zS S size (rnR (runE S area size (rX w a)) k) (k % 12 : Nat) (rnB (runE S area size (rX w a)) k) f0 := by
  obtain ⟨he, ⟨h3, h4, h5⟩, h6, h7⟩ := h
  have hm' : m < 12 := by omega
  have eB : pLv S w1 rain = rnB (runE S area size (rX w a)) k := by
    unfold pLv rnB
    rw [h3, h4, h5, h6, h7, hrain]
    rfl
  have eR : pR S w1 a m rain = rnR (runE S area size (rX w a)) k := by
    unfold pR rnR
    rw [eB, Int.toNat_natCast, rX_ev ha hm' he, hrain, hm]
    rfl
  have eC : pCm S w1 rain = rnC (runE S area size (rX w a)) k := by
    unfold pCm rnC
    rw [h3, h7, hrain]
    rfl
  simp only [q_X6_pass, eB, eR, eC, h3, h4, h5, h6] at hq
  obtain ⟨f, rfl, ⟨g3, g4, g5⟩, g6, g7, g8, g9, g10, g11, g12, g13, g14⟩ := hq
  refine ⟨⟨fun k i hk => ?_, ⟨?_, ?_, ?_⟩, ?_, ?_⟩, fun i => ?_, fun i => ?_, fun i => ?_, ?_, ?_, ?_, ?_, ?_, ?_, ?_, ⟨w1 89, ?_⟩⟩
  · rw [tw_x _ _ _ ⟨by omega, by omega⟩]; exact he k i hk
  · rw [tw_88 _ _ _ _ (by decide)]; exact g3
  · rw [tw_88 _ _ _ _ (by decide)]; exact g4
  · rw [tw_88 _ _ _ _ (by decide)]; exact g5
  · rw [tw_88 _ _ _ _ (by decide), g6, rnQ_s, hm]; rfl
  · rw [tw_88 _ _ _ _ (by decide), g7, rnQ_s, hrain]; rfl
  · rw [tw_x _ _ _ ⟨by decide, by decide⟩]
  · rw [tw_x _ _ _ ⟨by decide, by decide⟩]
  · rw [tw_x _ _ _ ⟨by decide, by decide⟩]
  · rw [tw_88 _ _ _ _ (by decide)]; exact g8
  · rw [tw_88 _ _ _ _ (by decide), g9]; rfl
  · rw [tw_88 _ _ _ _ (by decide), g10]; rfl
  · rw [tw_88 _ _ _ _ (by decide), g11, rnP, hm]; rfl
  · rw [tw_88 _ _ _ _ (by decide), g12, rnG, hm]; rfl
  · rw [tw_88 _ _ _ _ (by decide), g13, rnK, hm]; rfl
  · rw [tw_88 _ _ _ _ (by decide), g14, rnM, hm]; rfl
  · rw [tw_89, hm]
theorem inR_pre {S w w1 : wW} {a : Nat} {area size : Int} {k m : Nat} {rain : Int} (hS : hR S) (hXw : hX S w) (hy : yR S) (hr : rR w a) (hp : plA w a size) (h1 : 0 ≤ area ∧ area ≤ 25) (h2 : 0 ≤ size ∧ size ≤ 200) (h : inR S w a area size k w1) (hk : k < monthsF S) (hm : k % 12 = m) (hrain : rain = rainF S k) : p_X6_pass S [vr 88, vr a, vi m, vi rain] w1 := by
  have hok := okE_run hS hy hr hp h1 h2
  have hq := rnQ_in hok k (by omega)
  obtain ⟨he, ⟨h3, h4, h5⟩, h6, h7⟩ := h
  have hl := hS.2.2.2.2.2.1
  refine ⟨rfl, hS, hX_ev hXw he, rR_ev hr he, by omega, ?_, ⟨?_, ?_, ?_, ?_⟩, ?_⟩
  · rw [hrain]; exact hok.2.2.2.2.1 k hk
  · rw [h3]; exact h1
  · rw [h4, h6]; exact ⟨hq.1.1, hq.1.2, h2.2⟩
  · rw [h5]; exact hl
  · rw [h7]; exact hq.2
  · rw [h4]; exact plA_ev hr.1 hp he

def p_X5_passAll (S : wW) : List wV → wW → Prop := fun av w => match av with
  | [.inr (.inr (some this)), .inr (.inr (some a)), .inl area, .inl size] => this = 90 ∧ hR S ∧ hX S w ∧ (yR S ∧ yX S w) ∧ rR w a ∧ plA w a size ∧ (0 ≤ area ∧ area ≤ 25) ∧ (0 ≤ size ∧ size ≤ 200)
  | _ => False
theorem h_X5_passAll (S : wW) : ∀ av w, (p_X5_passAll S) av w → ∃ a r, av = vr a :: r ∧ w_kd a = 100 + 5 := by
  intro av w h
  unfold p_X5_passAll at h
  split at h
  · refine ⟨_, _, rfl, ?_⟩
    first | (rw [h.1]; rfl) | (rw [h]; rfl)
  · exact h.elim
def q_X5_passAll (S : wW) : List wV → wW → Int → wW → Prop := fun av w r w' => match av with
  | [.inr (.inr (some this)), .inr (.inr (some a)), .inl area, .inl size] => ev 88 92 w w' ∧ (∀ i, i ≠ 5 → w' 90 i = w 90 i) ∧ (∀ j, j < 6 → w' 91 j = sm (sV (runE S area size (rX w a)) j) (monthsF S)) ∧ w' 91 6 = (rnQ (runE S area size (rX w a)) (monthsF S)).1 ∧ (∀ u, u < (S 4 0).toNat → w' 92 u = sm (rnS (runE S area size (rX w a)) u) (monthsF S)) ∧ w' 90 5 = rnF (runE S area size (rX w a)) (monthsF S)
  | _ => False
/-- and its sums -/
def inA (S w : wW) (a : Nat) (area size : Int) (k : Nat) (w1 : wW) : Prop := inR S w a area size k w1 ∧ (∀ i, i ≠ 5 → w1 90 i = w 90 i) ∧ (∀ j, j < 6 → w1 91 j = sm (sV (runE S area size (rX w a)) j) k) ∧ (∀ u, u < (S 4 0).toNat → w1 92 u = sm (rnS (runE S area size (rX w a)) u) k) ∧ w1 90 5 = rnF (runE S area size (rX w a)) k
theorem inA_add {S w w1 w2 w3 : wW} {a : Nat} {area size : Int} {k m : Nat} {rain r num r2 : Int} (hok : okE (runE S area size (rX w a)) (monthsF S)) (hk : k < monthsF S) (hXw : hX S w) (ha : 36 ≤ a ∧ a < 46) (h : inA S w a area size k w1) (hm : k % 12 = m) (hrain : rain = rainF S k) (hq : q_X6_pass S [vr 88, vr a, vi m, vi rain] w1 r w2)
    (hnum : num = k) (hq2 : q_X5_addMonth [vr 90, vi num] w2 r2 w3) : inA S w a area size (k + 1) w3 := by
  obtain ⟨hI, h90, h91, h92, h5⟩ := h
  obtain ⟨hI2, i90, i91, i92, e8, e9, e10, e11, e12, e13, e14, f0, e89⟩ := inR_pass ha hI hm hrain hq
  simp only [q_X5_addMonth] at hq2
  obtain ⟨g1, g2, ⟨s0, s1, s2, s3, s4, s5, s6⟩, g4⟩ := hq2
  have hu : w2 4 6 = S 4 0 := by rw [hI2.1 4 6 (by decide)]; exact hXw.1
  obtain ⟨he, ⟨a3, a4, a5⟩, a6, a7⟩ := hI2
  have hK := rnK_in hok hk
  refine ⟨⟨fun k i hk => ?_, ⟨?_, ?_, ?_⟩, ?_, ?_⟩, fun i hi => ?_, fun j hj => ?_, fun u hu' => ?_, ?_⟩
  · rw [g1 k i (by omega) (by omega) (by omega)]; exact he k i hk
  · rw [g1 88 3 (by decide) (by decide) (by omega)]; exact a3
  · rw [g1 88 4 (by decide) (by decide) (by omega)]; exact a4
  · rw [g1 88 5 (by decide) (by decide) (by omega)]; exact a5
  · rw [g1 88 6 (by decide) (by decide) (by omega)]; exact a6
  · rw [g1 88 7 (by decide) (by decide) (by omega)]; exact a7
  · rw [g1 90 i (by decide) (by decide) (by omega), i90]; exact h90 i hi
  · have hj' : j = 0 ∨ j = 1 ∨ j = 2 ∨ j = 3 ∨ j = 4 ∨ j = 5 := by omega
    rcases hj' with rfl | rfl | rfl | rfl | rfl | rfl
    · rw [s0, i91, h91 0 (by decide), e13]; rfl
    · rw [s1, i91, h91 1 (by decide), e13]; rfl
    · rw [s2, i91, h91 2 (by decide), e14]; rfl
    · rw [s3, i91, h91 3 (by decide), e9]; rfl
    · rw [s4, i91, h91 4 (by decide), e11]; rfl
    · rw [s5, i91, h91 5 (by decide), e10]; rfl
  · rw [g4 u (by rw [hu]; exact hu'), i92, h92 u hu', e13, e89]
    have e : adI (rnK (runE S area size (rX w a)) k) (zS S size (rnR (runE S area size (rX w a)) k) (k % 12 : Nat) (rnB (runE S area size (rX w a)) k) f0 u) = rnS (runE S area size (rX w a)) u k := by
      unfold adI
      by_cases q : 0 < rnK (runE S area size (rX w a)) k
      · rw [if_pos q, zS_any (S := S) hok.1 f0 (fun _ => 0) hu']
        rfl
      · rw [if_neg q, rnS_nil hok hk u q]
    rw [e]
    rfl
  · rw [g2, e13, i90, h5, hnum]
    rfl
set_option maxRecDepth 100000 in
set_option maxHeartbeats 4000000 in
theorem c_X5_passAll (S : wW) : w_Ct yX5_passAll cX5_passAll 6 0 4 97 (p_X5_passAll S) (q_X5_passAll S) := by
  refine w_met (own := RX5) (fl := w_fl5) (gs := w_gs5) (kl := w_kl5) (ki := w_ki5) (cs := [(30, (1, 2, 0, p_J7_fill_53178, q_J7_fill_53178)), (40, (0, 3, 0, (p_X6_startFull S), (q_X6_startFull S))), (55, (0, 4, 0, (p_X6_pass S), (q_X6_pass S))), (59, (0, 2, 0, p_X5_addMonth, q_X5_addMonth))]) (by decide +kernel) rfl ?_ w_flok5 w_gsok5 w_klok5 w_kiok5 ?_ ?_
  · intro av w h
    unfold p_X5_passAll at h
    split at h
    · simp [w_pos, w_cat]
    · exact h.elim
  · exact List.forall_mem_cons.mpr ⟨⟨_, _, w_callS (own := RX5) (idx := 30) c_J7_fill_53178 (w_m3 140 (by decide +kernel) (by decide +kernel)) (w_m1 183 (by decide +kernel) (by decide +kernel)) (w_m1 7 (by decide +kernel) (by decide +kernel)) (w_m1 184 (by decide +kernel) (by decide +kernel)) ⟨by decide +kernel, by decide +kernel, by decide +kernel⟩, by decide, by decide⟩, List.forall_mem_cons.mpr ⟨⟨_, _, w_callV (own := RX5) (idx := 40) (ci := 6) (c_X6_startFull S) rfl rfl (h_X6_startFull S) (w_m3 141 (by decide +kernel) (by decide +kernel)) (w_m3 142 (by decide +kernel) (by decide +kernel)) (w_m3 143 (by decide +kernel) (by decide +kernel)) (w_m1 9 (by decide +kernel) (by decide +kernel)) (w_m3 144 (by decide +kernel) (by decide +kernel)) ⟨by decide +kernel, by decide +kernel, by decide +kernel⟩, by decide, by decide⟩, List.forall_mem_cons.mpr ⟨⟨_, _, w_callV (own := RX5) (idx := 55) (ci := 6) (c_X6_pass S) rfl rfl (h_X6_pass S) (w_m3 145 (by decide +kernel) (by decide +kernel)) (w_m3 146 (by decide +kernel) (by decide +kernel)) (w_m3 147 (by decide +kernel) (by decide +kernel)) (w_m1 9 (by decide +kernel) (by decide +kernel)) (w_m3 148 (by decide +kernel) (by decide +kernel)) ⟨by decide +kernel, by decide +kernel, by decide +kernel⟩, by decide, by decide⟩, List.forall_mem_cons.mpr ⟨⟨_, _, w_callV (own := RX5) (idx := 59) (ci := 5) c_X5_addMonth rfl rfl h_X5_addMonth (w_m3 165 (by decide +kernel) (by decide +kernel)) (w_m3 167 (by decide +kernel) (by decide +kernel)) (w_m0 20 (by decide +kernel) (by decide +kernel)) (w_m1 10 (by decide +kernel) (by decide +kernel)) (w_m3 168 (by decide +kernel) (by decide +kernel)) ⟨by decide +kernel, by decide +kernel, by decide +kernel⟩, by decide, by decide⟩, fun _ h => absurd h List.not_mem_nil⟩⟩⟩⟩
  intro av w hp
  unfold p_X5_passAll at hp
  split at hp
  case h_2 => exact hp.elim
  rename_i this a area size
  intro G hG
  simp only [w_ent, w_pos, w_cat, Nat.reduceEqDiff, ↓reduceIte, List.length_cons, List.length_nil, Nat.reduceAdd, Nat.reduceSub, List.cons_append, List.nil_append, List.replicate_succ, List.replicate_zero]
  obtain ⟨rfl, hS, hXw, ⟨hy, hyX⟩, hr, hp, h1, h2⟩ := hp
  have hok := okE_run hS hy hr hp h1 h2
  have ha := hr.1
  obtain ⟨ny, hny⟩ : ∃ n : Nat, S 4 1 = n := ⟨(S 4 1).toNat, by have := hy.1; omega⟩
  have hny8 : ny ≤ 8 := by have := hy.1; omega
  have hmon : monthsF S = 12 * ny := by unfold monthsF; rw [hny, Int.toNat_natCast]
  have inner : ∀ y : Nat, y < ny → (∀ w1, inA S w a area size (12 * (y + 1)) w1 → G 96 [some (vr 90), some (vr a), some (vi area), some (vi size), some (vi y), some (vi (12 : Nat))] [] w1) →
      ∀ n m : Nat, m + n = 12 → ∀ w1, inA S w a area size (12 * y + m) w1 → G 48 [some (vr 90), some (vr a), some (vi area), some (vi size), some (vi y), some (vi m)] [] w1 := by
    intro y hy' hnext n
    induction n with
    | zero =>
      intro m hm w1 hw1
      have e : m = 12 := by omega
      subst e
      have e := hnext w1 hw1
      simp only [Int.cast_ofNat_Int] at e
      (apply hG [48, 96, 33] 2000; simp only [w_br_i, w_ite, w_all, w_all0, forall_eq, w_b0, w_b1, ↓reduceIte, w_ent, w_pos, List.replicate_succ, List.replicate_zero, wp_s, wk_s, w_lk_c, w_ld0, w_ldS, w_kp0, w_kp, w_s1, w_s2, w_to, w_if, w_call, w_sw, w_cat, w_cats, w_psh, w_fv, List.contains_cons, List.contains_nil, List.set_cons_zero, List.set_cons_succ, List.length_cons, List.length_nil, List.find?_cons, List.find?_nil, List.take_succ_cons, List.take_zero, List.drop_succ_cons, List.drop_zero, List.reverse_cons, List.reverse_nil, List.nil_append, List.cons_append, Option.map_some, Option.map_none, Nat.reduceAdd, Nat.reduceBEq, Nat.reduceEqDiff, Nat.reduceLT, Nat.reduceLeDiff, Nat.reduceSub, Int.reduceAdd, Int.reduceSub, Int.reduceMul, Int.reduceNeg, Int.reduceToNat, Int.reduceLT, Int.reduceLE, Int.reduceEq, Bool.false_eq_true, Bool.or_false, Bool.false_or, Bool.true_or, Bool.or_true, if_true, if_false, ite_true, ite_false, true_and, and_true, false_and, and_false, true_or, or_true, false_or, or_false, Int.cast_ofNat_Int, Int.toNat_natCast, Int.natCast_add, List.getElem?_cons_zero, List.getElem?_cons_succ, true_implies, forall_const, not_true_eq_false, not_false_eq_true, ne_eq, beq_iff_eq, imp_self, List.length_set, Nat.zero_add, Nat.add_zero, Int.zero_add, Int.add_zero, w1_aload_n_0, w1_getfield, w1_iconst, w1_invokestatic, w1_putfield, w1_putfield2, w1_iload_n_2, w1_iload_n_3, w1_invokevirtual, w1_istore, w1_iload, w1_if_icmp, w1_bipush, w1_aload_n_1, w1_aaload, w1_iaload, w1_imul, w1_iadd, w1_iinc, w1_goto, w1_iastore, w1_return, dX5_passAll_0, dX5_passAll_1, dX5_passAll_4, dX5_passAll_5, dX5_passAll_8, dX5_passAll_9, dX5_passAll_12, dX5_passAll_13, dX5_passAll_16, dX5_passAll_17, dX5_passAll_18, dX5_passAll_21, dX5_passAll_22, dX5_passAll_25, dX5_passAll_26, dX5_passAll_27, dX5_passAll_30, dX5_passAll_31, dX5_passAll_33, dX5_passAll_35, dX5_passAll_36, dX5_passAll_39, dX5_passAll_42, dX5_passAll_45, dX5_passAll_46, dX5_passAll_48, dX5_passAll_50, dX5_passAll_52, dX5_passAll_55, dX5_passAll_56, dX5_passAll_59, dX5_passAll_60, dX5_passAll_62, dX5_passAll_63, dX5_passAll_66, dX5_passAll_69, dX5_passAll_71, dX5_passAll_72, dX5_passAll_74, dX5_passAll_75, dX5_passAll_78, dX5_passAll_79, dX5_passAll_81, dX5_passAll_83, dX5_passAll_84, dX5_passAll_86, dX5_passAll_87, dX5_passAll_90, dX5_passAll_93, dX5_passAll_96, dX5_passAll_99, dX5_passAll_102, dX5_passAll_103, dX5_passAll_106, dX5_passAll_108, dX5_passAll_109, dX5_passAll_112, dX5_passAll_115, dX5_passAll_116, w_flk5_15, w_flk5_22, w_flk5_26, w_flk5_46, w_flk5_51, w_flk5_63, w_flk5_9, w_flk5_36, w_kd_90, w_rf_90_0, w_rf_90_1, w_rf_90_2, w_rf_90_3, w_rf_90_4])
      (repeat' (with_reducible (first | refine And.intro ?_ ?_ | intro _))) <;> (try (first | assumption | contradiction | exact Or.inl trivial | exact Or.inl rfl | exact Or.inr rfl | (simp only [inI, inL]; omega) | omega))
    | succ n ih =>
      intro m hm w1 hw1
      have hm12 : m < 12 := by omega
      have hk : 12 * y + m < monthsF S := by omega
      have hkm : (12 * y + m) % 12 = m := by omega
      have hkd : (12 * y + m) / 12 = y := by omega
      have ky := (w_kdy (y := y) (by omega)).1
      have hrain : w1 (13 + y) m = rainF S (12 * y + m) := by
        rw [hw1.1.1 _ _ (Or.inl (by omega)), hyX.2 y m (by omega) hm12, rainF, hkd, hkm]
      have hpre := inR_pre hS hXw hy hr hp h1 h2 hw1.1 hk hkm (rain := rainF S (12 * y + m)) rfl
      have hF := rnF_in (runE S area size (rX w a)) (12 * y + m)
      have hK := rnK_in hok hk
      have e78 : ∀ r w2, q_X6_pass S [vr 88, vr a, vi m, vi (rainF S (12 * y + m))] w1 r w2 → G 78 [some (vr 90), some (vr a), some (vi area), some (vi size), some (vi y), some (vi m)] [] w2 := by
        intro r w2 hq
        obtain ⟨hI2, i90, -, -, -, -, -, -, -, e13, -⟩ := inR_pass ha hw1.1 hkm rfl hq
        have hpa : p_X5_addMonth [vr 90, vi (y * 12 + m)] w2 := by
          refine ⟨rfl, ?_, ?_, ?_⟩
          · rw [hI2.1 4 6 (by decide), hXw.1]; exact hS.1
          · rw [e13]; exact ⟨by omega, by omega⟩
          · rw [i90, hw1.2.2.2.2]
            exact ⟨by omega, by omega⟩
        have e90 : ∀ r2 w3, q_X5_addMonth [vr 90, vi (y * 12 + m)] w2 r2 w3 → G 90 [some (vr 90), some (vr a), some (vi area), some (vi size), some (vi y), some (vi m)] [] w3 := by
          intro r2 w3 hq2
          have hA := inA_add hok hk hXw ha hw1 hkm rfl hq (by omega) hq2
          have e := ih (m + 1) (by omega) w3 hA
          simp only [Int.natCast_add, Int.cast_ofNat_Int] at e
          (apply hG [48, 33] 2000; simp only [w_br_i, w_ite, w_all, w_all0, forall_eq, w_b0, w_b1, ↓reduceIte, w_ent, w_pos, List.replicate_succ, List.replicate_zero, wp_s, wk_s, w_lk_c, w_ld0, w_ldS, w_kp0, w_kp, w_s1, w_s2, w_to, w_if, w_call, w_sw, w_cat, w_cats, w_psh, w_fv, List.contains_cons, List.contains_nil, List.set_cons_zero, List.set_cons_succ, List.length_cons, List.length_nil, List.find?_cons, List.find?_nil, List.take_succ_cons, List.take_zero, List.drop_succ_cons, List.drop_zero, List.reverse_cons, List.reverse_nil, List.nil_append, List.cons_append, Option.map_some, Option.map_none, Nat.reduceAdd, Nat.reduceBEq, Nat.reduceEqDiff, Nat.reduceLT, Nat.reduceLeDiff, Nat.reduceSub, Int.reduceAdd, Int.reduceSub, Int.reduceMul, Int.reduceNeg, Int.reduceToNat, Int.reduceLT, Int.reduceLE, Int.reduceEq, Bool.false_eq_true, Bool.or_false, Bool.false_or, Bool.true_or, Bool.or_true, if_true, if_false, ite_true, ite_false, true_and, and_true, false_and, and_false, true_or, or_true, false_or, or_false, Int.cast_ofNat_Int, Int.toNat_natCast, Int.natCast_add, List.getElem?_cons_zero, List.getElem?_cons_succ, true_implies, forall_const, not_true_eq_false, not_false_eq_true, ne_eq, beq_iff_eq, imp_self, List.length_set, Nat.zero_add, Nat.add_zero, Int.zero_add, Int.add_zero, w1_aload_n_0, w1_getfield, w1_iconst, w1_invokestatic, w1_putfield, w1_putfield2, w1_iload_n_2, w1_iload_n_3, w1_invokevirtual, w1_istore, w1_iload, w1_if_icmp, w1_bipush, w1_aload_n_1, w1_aaload, w1_iaload, w1_imul, w1_iadd, w1_iinc, w1_goto, w1_iastore, w1_return, dX5_passAll_0, dX5_passAll_1, dX5_passAll_4, dX5_passAll_5, dX5_passAll_8, dX5_passAll_9, dX5_passAll_12, dX5_passAll_13, dX5_passAll_16, dX5_passAll_17, dX5_passAll_18, dX5_passAll_21, dX5_passAll_22, dX5_passAll_25, dX5_passAll_26, dX5_passAll_27, dX5_passAll_30, dX5_passAll_31, dX5_passAll_33, dX5_passAll_35, dX5_passAll_36, dX5_passAll_39, dX5_passAll_42, dX5_passAll_45, dX5_passAll_46, dX5_passAll_48, dX5_passAll_50, dX5_passAll_52, dX5_passAll_55, dX5_passAll_56, dX5_passAll_59, dX5_passAll_60, dX5_passAll_62, dX5_passAll_63, dX5_passAll_66, dX5_passAll_69, dX5_passAll_71, dX5_passAll_72, dX5_passAll_74, dX5_passAll_75, dX5_passAll_78, dX5_passAll_79, dX5_passAll_81, dX5_passAll_83, dX5_passAll_84, dX5_passAll_86, dX5_passAll_87, dX5_passAll_90, dX5_passAll_93, dX5_passAll_96, dX5_passAll_99, dX5_passAll_102, dX5_passAll_103, dX5_passAll_106, dX5_passAll_108, dX5_passAll_109, dX5_passAll_112, dX5_passAll_115, dX5_passAll_116, w_flk5_15, w_flk5_22, w_flk5_26, w_flk5_46, w_flk5_51, w_flk5_63, w_flk5_9, w_flk5_36, w_kd_90, w_rf_90_0, w_rf_90_1, w_rf_90_2, w_rf_90_3, w_rf_90_4])
          exact e
        (apply hG [90, 48, 33] 2000; simp only [w_br_i, w_ite, w_all, w_all0, forall_eq, w_b0, w_b1, ↓reduceIte, w_ent, w_pos, List.replicate_succ, List.replicate_zero, wp_s, wk_s, w_lk_c, w_ld0, w_ldS, w_kp0, w_kp, w_s1, w_s2, w_to, w_if, w_call, w_sw, w_cat, w_cats, w_psh, w_fv, List.contains_cons, List.contains_nil, List.set_cons_zero, List.set_cons_succ, List.length_cons, List.length_nil, List.find?_cons, List.find?_nil, List.take_succ_cons, List.take_zero, List.drop_succ_cons, List.drop_zero, List.reverse_cons, List.reverse_nil, List.nil_append, List.cons_append, Option.map_some, Option.map_none, Nat.reduceAdd, Nat.reduceBEq, Nat.reduceEqDiff, Nat.reduceLT, Nat.reduceLeDiff, Nat.reduceSub, Int.reduceAdd, Int.reduceSub, Int.reduceMul, Int.reduceNeg, Int.reduceToNat, Int.reduceLT, Int.reduceLE, Int.reduceEq, Bool.false_eq_true, Bool.or_false, Bool.false_or, Bool.true_or, Bool.or_true, if_true, if_false, ite_true, ite_false, true_and, and_true, false_and, and_false, true_or, or_true, false_or, or_false, Int.cast_ofNat_Int, Int.toNat_natCast, Int.natCast_add, List.getElem?_cons_zero, List.getElem?_cons_succ, true_implies, forall_const, not_true_eq_false, not_false_eq_true, ne_eq, beq_iff_eq, imp_self, List.length_set, Nat.zero_add, Nat.add_zero, Int.zero_add, Int.add_zero, w1_aload_n_0, w1_getfield, w1_iconst, w1_invokestatic, w1_putfield, w1_putfield2, w1_iload_n_2, w1_iload_n_3, w1_invokevirtual, w1_istore, w1_iload, w1_if_icmp, w1_bipush, w1_aload_n_1, w1_aaload, w1_iaload, w1_imul, w1_iadd, w1_iinc, w1_goto, w1_iastore, w1_return, dX5_passAll_0, dX5_passAll_1, dX5_passAll_4, dX5_passAll_5, dX5_passAll_8, dX5_passAll_9, dX5_passAll_12, dX5_passAll_13, dX5_passAll_16, dX5_passAll_17, dX5_passAll_18, dX5_passAll_21, dX5_passAll_22, dX5_passAll_25, dX5_passAll_26, dX5_passAll_27, dX5_passAll_30, dX5_passAll_31, dX5_passAll_33, dX5_passAll_35, dX5_passAll_36, dX5_passAll_39, dX5_passAll_42, dX5_passAll_45, dX5_passAll_46, dX5_passAll_48, dX5_passAll_50, dX5_passAll_52, dX5_passAll_55, dX5_passAll_56, dX5_passAll_59, dX5_passAll_60, dX5_passAll_62, dX5_passAll_63, dX5_passAll_66, dX5_passAll_69, dX5_passAll_71, dX5_passAll_72, dX5_passAll_74, dX5_passAll_75, dX5_passAll_78, dX5_passAll_79, dX5_passAll_81, dX5_passAll_83, dX5_passAll_84, dX5_passAll_86, dX5_passAll_87, dX5_passAll_90, dX5_passAll_93, dX5_passAll_96, dX5_passAll_99, dX5_passAll_102, dX5_passAll_103, dX5_passAll_106, dX5_passAll_108, dX5_passAll_109, dX5_passAll_112, dX5_passAll_115, dX5_passAll_116, w_flk5_15, w_flk5_22, w_flk5_26, w_flk5_46, w_flk5_51, w_flk5_63, w_flk5_9, w_flk5_36, w_kd_90, w_rf_90_0, w_rf_90_1, w_rf_90_2, w_rf_90_3, w_rf_90_4, hpa])
        (repeat' (with_reducible (first | refine And.intro ?_ ?_ | intro _))) <;> (try (first | assumption | contradiction | exact Or.inl trivial | exact Or.inl rfl | exact Or.inr rfl | (simp only [inI, inL]; omega) | omega))
        all_goals exact e90 _ _ (by assumption)
      (apply hG [78, 96, 48, 33] 2000; simp only [w_br_i, w_ite, w_all, w_all0, forall_eq, w_b0, w_b1, ↓reduceIte, w_ent, w_pos, List.replicate_succ, List.replicate_zero, wp_s, wk_s, w_lk_c, w_ld0, w_ldS, w_kp0, w_kp, w_s1, w_s2, w_to, w_if, w_call, w_sw, w_cat, w_cats, w_psh, w_fv, List.contains_cons, List.contains_nil, List.set_cons_zero, List.set_cons_succ, List.length_cons, List.length_nil, List.find?_cons, List.find?_nil, List.take_succ_cons, List.take_zero, List.drop_succ_cons, List.drop_zero, List.reverse_cons, List.reverse_nil, List.nil_append, List.cons_append, Option.map_some, Option.map_none, Nat.reduceAdd, Nat.reduceBEq, Nat.reduceEqDiff, Nat.reduceLT, Nat.reduceLeDiff, Nat.reduceSub, Int.reduceAdd, Int.reduceSub, Int.reduceMul, Int.reduceNeg, Int.reduceToNat, Int.reduceLT, Int.reduceLE, Int.reduceEq, Bool.false_eq_true, Bool.or_false, Bool.false_or, Bool.true_or, Bool.or_true, if_true, if_false, ite_true, ite_false, true_and, and_true, false_and, and_false, true_or, or_true, false_or, or_false, Int.cast_ofNat_Int, Int.toNat_natCast, Int.natCast_add, List.getElem?_cons_zero, List.getElem?_cons_succ, true_implies, forall_const, not_true_eq_false, not_false_eq_true, ne_eq, beq_iff_eq, imp_self, List.length_set, Nat.zero_add, Nat.add_zero, Int.zero_add, Int.add_zero, w1_aload_n_0, w1_getfield, w1_iconst, w1_invokestatic, w1_putfield, w1_putfield2, w1_iload_n_2, w1_iload_n_3, w1_invokevirtual, w1_istore, w1_iload, w1_if_icmp, w1_bipush, w1_aload_n_1, w1_aaload, w1_iaload, w1_imul, w1_iadd, w1_iinc, w1_goto, w1_iastore, w1_return, dX5_passAll_0, dX5_passAll_1, dX5_passAll_4, dX5_passAll_5, dX5_passAll_8, dX5_passAll_9, dX5_passAll_12, dX5_passAll_13, dX5_passAll_16, dX5_passAll_17, dX5_passAll_18, dX5_passAll_21, dX5_passAll_22, dX5_passAll_25, dX5_passAll_26, dX5_passAll_27, dX5_passAll_30, dX5_passAll_31, dX5_passAll_33, dX5_passAll_35, dX5_passAll_36, dX5_passAll_39, dX5_passAll_42, dX5_passAll_45, dX5_passAll_46, dX5_passAll_48, dX5_passAll_50, dX5_passAll_52, dX5_passAll_55, dX5_passAll_56, dX5_passAll_59, dX5_passAll_60, dX5_passAll_62, dX5_passAll_63, dX5_passAll_66, dX5_passAll_69, dX5_passAll_71, dX5_passAll_72, dX5_passAll_74, dX5_passAll_75, dX5_passAll_78, dX5_passAll_79, dX5_passAll_81, dX5_passAll_83, dX5_passAll_84, dX5_passAll_86, dX5_passAll_87, dX5_passAll_90, dX5_passAll_93, dX5_passAll_96, dX5_passAll_99, dX5_passAll_102, dX5_passAll_103, dX5_passAll_106, dX5_passAll_108, dX5_passAll_109, dX5_passAll_112, dX5_passAll_115, dX5_passAll_116, w_flk5_15, w_flk5_22, w_flk5_26, w_flk5_46, w_flk5_51, w_flk5_63, w_flk5_9, w_flk5_36, w_kd_11, w_rf_11_0, w_kd_12, w_ln_12, w_kd_90, w_rf_90_0, w_rf_90_1, w_rf_90_2, w_rf_90_3, w_rf_90_4, ky.1, ky.2, hrain, hpre])
      (repeat' (with_reducible (first | refine And.intro ?_ ?_ | intro _))) <;> (try (first | assumption | contradiction | exact Or.inl trivial | exact Or.inl rfl | exact Or.inr rfl | (simp only [inI, inL]; omega) | omega))
      all_goals first
        | exact e78 _ _ (by assumption)
        | omega
        | skip
  have outer : ∀ n y : Nat, y + n = ny → ∀ w1, inA S w a area size (12 * y) w1 → ∀ x5 : Option wV, G 33 [some (vr 90), some (vr a), some (vi area), some (vi size), some (vi y), x5] [] w1 := by
    intro n
    induction n with
    | zero =>
      intro y hy' w1 hw1 x5
      have e : y = ny := by omega
      subst e
      have hc : w1 11 1 = y := by rw [hw1.1.1 11 1 (by decide), hyX.1, hny]
      have h6 : w1 88 6 = (rnQ (runE S area size (rX w a)) (12 * y)).1 := hw1.1.2.2.1
      (apply hG [33, 48] 2000; simp only [w_br_i, w_ite, w_all, w_all0, forall_eq, w_b0, w_b1, ↓reduceIte, w_ent, w_pos, List.replicate_succ, List.replicate_zero, wp_s, wk_s, w_lk_c, w_ld0, w_ldS, w_kp0, w_kp, w_s1, w_s2, w_to, w_if, w_call, w_sw, w_cat, w_cats, w_psh, w_fv, List.contains_cons, List.contains_nil, List.set_cons_zero, List.set_cons_succ, List.length_cons, List.length_nil, List.find?_cons, List.find?_nil, List.take_succ_cons, List.take_zero, List.drop_succ_cons, List.drop_zero, List.reverse_cons, List.reverse_nil, List.nil_append, List.cons_append, Option.map_some, Option.map_none, Nat.reduceAdd, Nat.reduceBEq, Nat.reduceEqDiff, Nat.reduceLT, Nat.reduceLeDiff, Nat.reduceSub, Int.reduceAdd, Int.reduceSub, Int.reduceMul, Int.reduceNeg, Int.reduceToNat, Int.reduceLT, Int.reduceLE, Int.reduceEq, Bool.false_eq_true, Bool.or_false, Bool.false_or, Bool.true_or, Bool.or_true, if_true, if_false, ite_true, ite_false, true_and, and_true, false_and, and_false, true_or, or_true, false_or, or_false, Int.cast_ofNat_Int, Int.toNat_natCast, Int.natCast_add, List.getElem?_cons_zero, List.getElem?_cons_succ, true_implies, forall_const, not_true_eq_false, not_false_eq_true, ne_eq, beq_iff_eq, imp_self, List.length_set, Nat.zero_add, Nat.add_zero, Int.zero_add, Int.add_zero, w1_aload_n_0, w1_getfield, w1_iconst, w1_invokestatic, w1_putfield, w1_putfield2, w1_iload_n_2, w1_iload_n_3, w1_invokevirtual, w1_istore, w1_iload, w1_if_icmp, w1_bipush, w1_aload_n_1, w1_aaload, w1_iaload, w1_imul, w1_iadd, w1_iinc, w1_goto, w1_iastore, w1_return, dX5_passAll_0, dX5_passAll_1, dX5_passAll_4, dX5_passAll_5, dX5_passAll_8, dX5_passAll_9, dX5_passAll_12, dX5_passAll_13, dX5_passAll_16, dX5_passAll_17, dX5_passAll_18, dX5_passAll_21, dX5_passAll_22, dX5_passAll_25, dX5_passAll_26, dX5_passAll_27, dX5_passAll_30, dX5_passAll_31, dX5_passAll_33, dX5_passAll_35, dX5_passAll_36, dX5_passAll_39, dX5_passAll_42, dX5_passAll_45, dX5_passAll_46, dX5_passAll_48, dX5_passAll_50, dX5_passAll_52, dX5_passAll_55, dX5_passAll_56, dX5_passAll_59, dX5_passAll_60, dX5_passAll_62, dX5_passAll_63, dX5_passAll_66, dX5_passAll_69, dX5_passAll_71, dX5_passAll_72, dX5_passAll_74, dX5_passAll_75, dX5_passAll_78, dX5_passAll_79, dX5_passAll_81, dX5_passAll_83, dX5_passAll_84, dX5_passAll_86, dX5_passAll_87, dX5_passAll_90, dX5_passAll_93, dX5_passAll_96, dX5_passAll_99, dX5_passAll_102, dX5_passAll_103, dX5_passAll_106, dX5_passAll_108, dX5_passAll_109, dX5_passAll_112, dX5_passAll_115, dX5_passAll_116, w_flk5_15, w_flk5_22, w_flk5_26, w_flk5_46, w_flk5_51, w_flk5_63, w_flk5_9, w_flk5_36, w_kd_11, w_rf_11_0, w_kd_88, w_rf_88_0, w_rf_88_1, w_rf_88_2, w_kd_90, w_rf_90_0, w_rf_90_1, w_rf_90_2, w_rf_90_3, w_rf_90_4, w_kd_91, w_ln_91, hc, h6])
      (repeat' (with_reducible (first | refine And.intro ?_ ?_ | intro _))) <;> (try (first | assumption | contradiction | exact Or.inl trivial | exact Or.inl rfl | exact Or.inr rfl | (simp only [inI, inL]; omega) | omega))
      simp only [q_X5_passAll, hmon]
      obtain ⟨⟨he, -⟩, h90, h91, h92, h5⟩ := hw1
      refine ⟨fun k i hk => ?_, fun i hi => ?_, fun j hj => ?_, ?_, fun u hu => ?_, ?_⟩
      · rw [up_k (by omega)]; exact he k i hk
      · rw [up_k (by decide)]; exact h90 i hi
      · rw [up_ne (by omega)]; exact h91 j hj
      · rw [up_eq]
      · rw [up_k (by decide)]; exact h92 u hu
      · rw [up_k (by decide)]; exact h5
    | succ n ih =>
      intro y hy' w1 hw1 x5
      have hc : w1 11 1 = ny := by rw [hw1.1.1 11 1 (by decide), hyX.1, hny]
      have hnext : ∀ w1, inA S w a area size (12 * (y + 1)) w1 → G 96 [some (vr 90), some (vr a), some (vi area), some (vi size), some (vi y), some (vi (12 : Nat))] [] w1 := by
        intro w1 hw1
        have e := ih (y + 1) (by omega) w1 hw1 (some (vi 12))
        simp only [Int.natCast_add, Int.cast_ofNat_Int] at e
        (apply hG [33, 48] 2000; simp only [w_br_i, w_ite, w_all, w_all0, forall_eq, w_b0, w_b1, ↓reduceIte, w_ent, w_pos, List.replicate_succ, List.replicate_zero, wp_s, wk_s, w_lk_c, w_ld0, w_ldS, w_kp0, w_kp, w_s1, w_s2, w_to, w_if, w_call, w_sw, w_cat, w_cats, w_psh, w_fv, List.contains_cons, List.contains_nil, List.set_cons_zero, List.set_cons_succ, List.length_cons, List.length_nil, List.find?_cons, List.find?_nil, List.take_succ_cons, List.take_zero, List.drop_succ_cons, List.drop_zero, List.reverse_cons, List.reverse_nil, List.nil_append, List.cons_append, Option.map_some, Option.map_none, Nat.reduceAdd, Nat.reduceBEq, Nat.reduceEqDiff, Nat.reduceLT, Nat.reduceLeDiff, Nat.reduceSub, Int.reduceAdd, Int.reduceSub, Int.reduceMul, Int.reduceNeg, Int.reduceToNat, Int.reduceLT, Int.reduceLE, Int.reduceEq, Bool.false_eq_true, Bool.or_false, Bool.false_or, Bool.true_or, Bool.or_true, if_true, if_false, ite_true, ite_false, true_and, and_true, false_and, and_false, true_or, or_true, false_or, or_false, Int.cast_ofNat_Int, Int.toNat_natCast, Int.natCast_add, List.getElem?_cons_zero, List.getElem?_cons_succ, true_implies, forall_const, not_true_eq_false, not_false_eq_true, ne_eq, beq_iff_eq, imp_self, List.length_set, Nat.zero_add, Nat.add_zero, Int.zero_add, Int.add_zero, w1_aload_n_0, w1_getfield, w1_iconst, w1_invokestatic, w1_putfield, w1_putfield2, w1_iload_n_2, w1_iload_n_3, w1_invokevirtual, w1_istore, w1_iload, w1_if_icmp, w1_bipush, w1_aload_n_1, w1_aaload, w1_iaload, w1_imul, w1_iadd, w1_iinc, w1_goto, w1_iastore, w1_return, dX5_passAll_0, dX5_passAll_1, dX5_passAll_4, dX5_passAll_5, dX5_passAll_8, dX5_passAll_9, dX5_passAll_12, dX5_passAll_13, dX5_passAll_16, dX5_passAll_17, dX5_passAll_18, dX5_passAll_21, dX5_passAll_22, dX5_passAll_25, dX5_passAll_26, dX5_passAll_27, dX5_passAll_30, dX5_passAll_31, dX5_passAll_33, dX5_passAll_35, dX5_passAll_36, dX5_passAll_39, dX5_passAll_42, dX5_passAll_45, dX5_passAll_46, dX5_passAll_48, dX5_passAll_50, dX5_passAll_52, dX5_passAll_55, dX5_passAll_56, dX5_passAll_59, dX5_passAll_60, dX5_passAll_62, dX5_passAll_63, dX5_passAll_66, dX5_passAll_69, dX5_passAll_71, dX5_passAll_72, dX5_passAll_74, dX5_passAll_75, dX5_passAll_78, dX5_passAll_79, dX5_passAll_81, dX5_passAll_83, dX5_passAll_84, dX5_passAll_86, dX5_passAll_87, dX5_passAll_90, dX5_passAll_93, dX5_passAll_96, dX5_passAll_99, dX5_passAll_102, dX5_passAll_103, dX5_passAll_106, dX5_passAll_108, dX5_passAll_109, dX5_passAll_112, dX5_passAll_115, dX5_passAll_116, w_flk5_15, w_flk5_22, w_flk5_26, w_flk5_46, w_flk5_51, w_flk5_63, w_flk5_9, w_flk5_36, w_kd_90, w_rf_90_0, w_rf_90_1, w_rf_90_2, w_rf_90_3, w_rf_90_4])
        exact e
      have e := inner y (by omega) hnext 12 0 rfl w1 hw1
      simp only [Int.cast_ofNat_Int] at e
      (apply hG [48, 102, 33] 2000; simp only [w_br_i, w_ite, w_all, w_all0, forall_eq, w_b0, w_b1, ↓reduceIte, w_ent, w_pos, List.replicate_succ, List.replicate_zero, wp_s, wk_s, w_lk_c, w_ld0, w_ldS, w_kp0, w_kp, w_s1, w_s2, w_to, w_if, w_call, w_sw, w_cat, w_cats, w_psh, w_fv, List.contains_cons, List.contains_nil, List.set_cons_zero, List.set_cons_succ, List.length_cons, List.length_nil, List.find?_cons, List.find?_nil, List.take_succ_cons, List.take_zero, List.drop_succ_cons, List.drop_zero, List.reverse_cons, List.reverse_nil, List.nil_append, List.cons_append, Option.map_some, Option.map_none, Nat.reduceAdd, Nat.reduceBEq, Nat.reduceEqDiff, Nat.reduceLT, Nat.reduceLeDiff, Nat.reduceSub, Int.reduceAdd, Int.reduceSub, Int.reduceMul, Int.reduceNeg, Int.reduceToNat, Int.reduceLT, Int.reduceLE, Int.reduceEq, Bool.false_eq_true, Bool.or_false, Bool.false_or, Bool.true_or, Bool.or_true, if_true, if_false, ite_true, ite_false, true_and, and_true, false_and, and_false, true_or, or_true, false_or, or_false, Int.cast_ofNat_Int, Int.toNat_natCast, Int.natCast_add, List.getElem?_cons_zero, List.getElem?_cons_succ, true_implies, forall_const, not_true_eq_false, not_false_eq_true, ne_eq, beq_iff_eq, imp_self, List.length_set, Nat.zero_add, Nat.add_zero, Int.zero_add, Int.add_zero, w1_aload_n_0, w1_getfield, w1_iconst, w1_invokestatic, w1_putfield, w1_putfield2, w1_iload_n_2, w1_iload_n_3, w1_invokevirtual, w1_istore, w1_iload, w1_if_icmp, w1_bipush, w1_aload_n_1, w1_aaload, w1_iaload, w1_imul, w1_iadd, w1_iinc, w1_goto, w1_iastore, w1_return, dX5_passAll_0, dX5_passAll_1, dX5_passAll_4, dX5_passAll_5, dX5_passAll_8, dX5_passAll_9, dX5_passAll_12, dX5_passAll_13, dX5_passAll_16, dX5_passAll_17, dX5_passAll_18, dX5_passAll_21, dX5_passAll_22, dX5_passAll_25, dX5_passAll_26, dX5_passAll_27, dX5_passAll_30, dX5_passAll_31, dX5_passAll_33, dX5_passAll_35, dX5_passAll_36, dX5_passAll_39, dX5_passAll_42, dX5_passAll_45, dX5_passAll_46, dX5_passAll_48, dX5_passAll_50, dX5_passAll_52, dX5_passAll_55, dX5_passAll_56, dX5_passAll_59, dX5_passAll_60, dX5_passAll_62, dX5_passAll_63, dX5_passAll_66, dX5_passAll_69, dX5_passAll_71, dX5_passAll_72, dX5_passAll_74, dX5_passAll_75, dX5_passAll_78, dX5_passAll_79, dX5_passAll_81, dX5_passAll_83, dX5_passAll_84, dX5_passAll_86, dX5_passAll_87, dX5_passAll_90, dX5_passAll_93, dX5_passAll_96, dX5_passAll_99, dX5_passAll_102, dX5_passAll_103, dX5_passAll_106, dX5_passAll_108, dX5_passAll_109, dX5_passAll_112, dX5_passAll_115, dX5_passAll_116, w_flk5_15, w_flk5_22, w_flk5_26, w_flk5_46, w_flk5_51, w_flk5_63, w_flk5_9, w_flk5_36, w_kd_11, w_rf_11_0, w_kd_90, w_rf_90_0, w_rf_90_1, w_rf_90_2, w_rf_90_3, w_rf_90_4, hc])
      (repeat' (with_reducible (first | refine And.intro ?_ ?_ | intro _))) <;> (try (first | assumption | contradiction | exact Or.inl trivial | exact Or.inl rfl | exact Or.inr rfl | (simp only [inI, inL]; omega) | omega))
      all_goals first
        | exact e
        | omega
        | skip
  have hxc : hX S (w_up (wfl (wfl w 91 7 0) 92 3 0) 90 5 (-1)) := hX_ev hXw (fun k i hk => by rw [up_k (by omega), wfl_x (by omega), wfl_x (by omega)])
  have hpc : p_X6_startFull S [vr 88, vi area, vi size] (w_up (wfl (wfl w 91 7 0) 92 3 0) 90 5 (-1)) := ⟨rfl, hxc⟩
  have e := outer ny 0 (by omega) (tw (w_up (wfl (wfl w 91 7 0) 92 3 0) 90 5 (-1)) (t_start (w_up (wfl (wfl w 91 7 0) 92 3 0) 90 5 (-1)) area size (S 0 4)) (w_up (wfl (wfl w 91 7 0) 92 3 0) 90 5 (-1) 89)) (by
    refine ⟨⟨fun k i hk => ?_, ⟨?_, ?_, ?_⟩, ?_, ?_⟩, fun i hi => ?_, fun j hj => ?_, fun u hu => ?_, ?_⟩
    · rw [tw_x _ _ _ ⟨by omega, by omega⟩, up_k (by omega), wfl_x (by omega), wfl_x (by omega)]
    · rw [tw_88 _ _ _ _ (by decide)]; simp [t_start, fup]
    · rw [tw_88 _ _ _ _ (by decide)]; simp [t_start, fup]
    · rw [tw_88 _ _ _ _ (by decide)]; simp [t_start, fup]
    · rw [tw_88 _ _ _ _ (by decide)]; simp [t_start, fup, rnQ, runE]
    · rw [tw_88 _ _ _ _ (by decide)]; simp [t_start, fup, rnQ, runE]
    · rw [tw_x _ _ _ ⟨by decide, by decide⟩, up_ne (by omega), wfl_x (by decide), wfl_x (by decide)]
    · rw [tw_x _ _ _ ⟨by decide, by decide⟩, up_k (by decide), wfl_x (by decide), wfl_a (by omega)]; rfl
    · rw [tw_x _ _ _ ⟨by decide, by decide⟩, up_k (by decide), wfl_a (by have := hS.1; omega)]; rfl
    · rw [tw_x _ _ _ ⟨by decide, by decide⟩, up_eq]; rfl) none
  simp only [Int.cast_ofNat_Int] at e
  (apply hG [33, 48] 2000; simp only [w_br_i, w_ite, w_all, w_all0, forall_eq, w_b0, w_b1, ↓reduceIte, w_ent, w_pos, List.replicate_succ, List.replicate_zero, wp_s, wk_s, w_lk_c, w_ld0, w_ldS, w_kp0, w_kp, w_s1, w_s2, w_to, w_if, w_call, w_sw, w_cat, w_cats, w_psh, w_fv, List.contains_cons, List.contains_nil, List.set_cons_zero, List.set_cons_succ, List.length_cons, List.length_nil, List.find?_cons, List.find?_nil, List.take_succ_cons, List.take_zero, List.drop_succ_cons, List.drop_zero, List.reverse_cons, List.reverse_nil, List.nil_append, List.cons_append, Option.map_some, Option.map_none, Nat.reduceAdd, Nat.reduceBEq, Nat.reduceEqDiff, Nat.reduceLT, Nat.reduceLeDiff, Nat.reduceSub, Int.reduceAdd, Int.reduceSub, Int.reduceMul, Int.reduceNeg, Int.reduceToNat, Int.reduceLT, Int.reduceLE, Int.reduceEq, Bool.false_eq_true, Bool.or_false, Bool.false_or, Bool.true_or, Bool.or_true, if_true, if_false, ite_true, ite_false, true_and, and_true, false_and, and_false, true_or, or_true, false_or, or_false, Int.cast_ofNat_Int, Int.toNat_natCast, Int.natCast_add, List.getElem?_cons_zero, List.getElem?_cons_succ, true_implies, forall_const, not_true_eq_false, not_false_eq_true, ne_eq, beq_iff_eq, imp_self, List.length_set, Nat.zero_add, Nat.add_zero, Int.zero_add, Int.add_zero, w1_aload_n_0, w1_getfield, w1_iconst, w1_invokestatic, w1_putfield, w1_putfield2, w1_iload_n_2, w1_iload_n_3, w1_invokevirtual, w1_istore, w1_iload, w1_if_icmp, w1_bipush, w1_aload_n_1, w1_aaload, w1_iaload, w1_imul, w1_iadd, w1_iinc, w1_goto, w1_iastore, w1_return, dX5_passAll_0, dX5_passAll_1, dX5_passAll_4, dX5_passAll_5, dX5_passAll_8, dX5_passAll_9, dX5_passAll_12, dX5_passAll_13, dX5_passAll_16, dX5_passAll_17, dX5_passAll_18, dX5_passAll_21, dX5_passAll_22, dX5_passAll_25, dX5_passAll_26, dX5_passAll_27, dX5_passAll_30, dX5_passAll_31, dX5_passAll_33, dX5_passAll_35, dX5_passAll_36, dX5_passAll_39, dX5_passAll_42, dX5_passAll_45, dX5_passAll_46, dX5_passAll_48, dX5_passAll_50, dX5_passAll_52, dX5_passAll_55, dX5_passAll_56, dX5_passAll_59, dX5_passAll_60, dX5_passAll_62, dX5_passAll_63, dX5_passAll_66, dX5_passAll_69, dX5_passAll_71, dX5_passAll_72, dX5_passAll_74, dX5_passAll_75, dX5_passAll_78, dX5_passAll_79, dX5_passAll_81, dX5_passAll_83, dX5_passAll_84, dX5_passAll_86, dX5_passAll_87, dX5_passAll_90, dX5_passAll_93, dX5_passAll_96, dX5_passAll_99, dX5_passAll_102, dX5_passAll_103, dX5_passAll_106, dX5_passAll_108, dX5_passAll_109, dX5_passAll_112, dX5_passAll_115, dX5_passAll_116, w_flk5_15, w_flk5_22, w_flk5_26, w_flk5_46, w_flk5_51, w_flk5_63, w_flk5_9, w_flk5_36, w_kd_88, w_rf_88_0, w_rf_88_1, w_rf_88_2, w_kd_90, w_rf_90_0, w_rf_90_1, w_rf_90_2, w_rf_90_3, w_rf_90_4, w_kd_91, w_ln_91, w_kd_92, w_ln_92, p_J7_fill_53178, q_J7_fill_53178, hpc, q_X6_startFull])
  (repeat' (with_reducible (first | refine And.intro ?_ ?_ | intro _))) <;> (try (first | assumption | contradiction | exact Or.inl trivial | exact Or.inl rfl | exact Or.inr rfl | (simp only [inI, inL]; omega) | omega))
