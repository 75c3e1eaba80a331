theorem lc0 : (((0 : Fin 2) : Nat) : Int) = 0 := rfl
theorem lc1 : (((1 : Fin 2) : Nat) : Int) = 1 := rfl
/-! in how many ways each state is come to -/
theorem sm_add (f g : Nat → Int) : ∀ n, sm (fun i => f i + g i) n = sm f n + sm g n
  | 0 => rfl
  | n + 1 => by simp only [sm, sm_add f g n]; omega
theorem sm_mul (c : Int) (f : Nat → Int) : ∀ n, sm (fun i => c * f i) n = c * sm f n
  | 0 => by simp [sm]
  | n + 1 => by simp only [sm, sm_mul c f n, Int.mul_add]
theorem sm_zero : ∀ n, sm (fun _ => 0) n = 0
  | 0 => rfl
  | n + 1 => by simp only [sm, sm_zero n]; rfl
theorem sm_const (c : Int) : ∀ n, sm (fun _ => c) n = c * n
  | 0 => by simp [sm]
  | n + 1 => by simp only [sm, sm_const c n]; rw [Int.natCast_add, Int.mul_add]; omega
theorem sm_le {f g : Nat → Int} : ∀ n, (∀ i, i < n → f i ≤ g i) → sm f n ≤ sm g n
  | 0, _ => Int.le_refl _
  | n + 1, h => by
    have := sm_le n (fun i hi => h i (by omega))
    have := h n (by omega)
    simp only [sm]
    omega
theorem sm_nn {f : Nat → Int} (n : Nat) (h : ∀ i, i < n → 0 ≤ f i) : 0 ≤ sm f n := by
  have := sm_le (f := fun _ => 0) (g := f) n h
  rwa [sm_zero] at this
theorem sm_one {f : Nat → Int} {n j : Nat} (h : ∀ i, i < n → 0 ≤ f i) (hj : j < n) : f j ≤ sm f n := by
  induction n with
  | zero => omega
  | succ n ih =>
    have h0 := sm_nn n (fun i hi => h i (by omega))
    have hn := h n (by omega)
    simp only [sm]
    by_cases q : j = n
    · rw [q]; omega
    · have := ih (fun i hi => h i (by omega)) (by omega)
      omega
theorem sm_swap (f : Nat → Nat → Int) (A : Nat) : ∀ B, sm (fun s => sm (fun i => f s i) A) B = sm (fun i => sm (fun s => f s i) B) A
  | 0 => by simp only [sm]; exact (sm_zero A).symm
  | B + 1 => by
    simp only [sm]
    rw [sm_swap f A B, sm_add]
theorem sm_pt (f : Nat → Int) (j : Nat) : ∀ N, sm (fun s => if j = s then f s else 0) N = if j < N then f j else 0
  | 0 => by simp [sm]
  | N + 1 => by
    simp only [sm]
    rw [sm_pt f j N]
    by_cases q : j = N
    · subst q
      rw [if_neg (by omega), if_pos rfl, if_pos (by omega)]
      omega
    · by_cases q2 : j < N
      · rw [if_pos q2, if_neg q, if_pos (by omega)]; omega
      · rw [if_neg q2, if_neg q, if_neg (by omega)]; rfl
def nSt (S : wW) : Nat := 2 * (S 0 1).toNat + 2
/-- behind the leak: v tells the ways of the states at the end of the month ahead -/
def lrY (S : wW) (v : Nat → Int) (m s st : Nat) (y : Nat) : Int := if sbl S (S (20 + y) m) st = s then v st else 0
def lrF (S : wW) (v : Nat → Int) (m s : Nat) : Int := sm (fun st => sm (lrY S v m s st) (S 4 1).toNat) (nSt S)
theorem lrY_in {S : wW} {v : Nat → Int} {m s st : Nat} (h : 0 ≤ v st) (y : Nat) : 0 ≤ lrY S v m s st y := by
  unfold lrY
  split <;> omega
theorem lrY_0 {S : wW} {v : Nat → Int} {m s st : Nat} (h : v st = 0) : ∀ n, sm (lrY S v m s st) n = 0
  | 0 => rfl
  | n + 1 => by
    simp only [sm]
    rw [lrY_0 h n]
    unfold lrY
    rw [h]
    split <;> rfl
def p_X0_startFull (S : wW) : List wV → wW → Prop := fun av w => match av with
  | [.inr (.inr (some this))] => this = 93 ∧ hR S ∧ hX S w
  | _ => False
theorem h_X0_startFull (S : wW) : ∀ av w, (p_X0_startFull S) av w → ∃ a r, av = vr a :: r ∧ w_kd a = 100 + 0 := by
  intro av w h
  unfold p_X0_startFull at h
  split at h
  · refine ⟨_, _, rfl, ?_⟩
    first | (rw [h.1]; rfl) | (rw [h]; rfl)
  · exact h.elim
def q_X0_startFull (S : wW) : List wV → wW → Int → wW → Prop := fun av w r w' => match av with
  | [.inr (.inr (some this))] => (∀ k i, k ≠ 133 → w' k i = w k i) ∧ ∀ s, s < 402 → w' 133 s = if s = 2 * (S 0 1).toNat + 1 then 1 else 0
  | _ => False
set_option maxRecDepth 100000 in
set_option maxHeartbeats 4000000 in
theorem c_X0_startFull (S : wW) : w_Ct yX0_startFull cX0_startFull 1 0 1 24 (p_X0_startFull S) (q_X0_startFull S) := by
  refine w_met (own := RX0) (fl := w_fl0) (gs := w_gs0) (kl := w_kl0) (ki := w_ki0) (cs := [(105, (1, 2, 0, p_J7_fill_d0a16, q_J7_fill_d0a16)), (111, (1, 2, 1, p_X9_stateOf, q_X9_stateOf))]) (by decide +kernel) rfl ?_ w_flok0 w_gsok0 w_klok0 w_kiok0 ?_ ?_
  · intro av w h
    unfold p_X0_startFull at h
    split at h
    · simp [w_pos, w_cat]
    · exact h.elim
  · exact List.forall_mem_cons.mpr ⟨⟨_, _, w_callS (own := RX0) (idx := 105) c_J7_fill_d0a16 (w_m3 239 (by decide +kernel) (by decide +kernel)) (w_m3 105 (by decide +kernel) (by decide +kernel)) (w_m1 7 (by decide +kernel) (by decide +kernel)) (w_m3 106 (by decide +kernel) (by decide +kernel)) ⟨by decide +kernel, by decide +kernel, by decide +kernel⟩, by decide, by decide⟩, List.forall_mem_cons.mpr ⟨⟨_, _, w_callSN (own := RX0) (idx := 111) (host := "HowBigTank") c_X9_stateOf (w_m4 0 (by decide +kernel) (by decide +kernel)) (w_m3 159 (by decide +kernel) (by decide +kernel)) (w_m1 1 (by decide +kernel) (by decide +kernel)) (w_m3 160 (by decide +kernel) (by decide +kernel)) ⟨by decide +kernel, by decide +kernel, by decide +kernel⟩, by decide, by decide⟩, fun _ h => absurd h List.not_mem_nil⟩⟩
  intro av w hp
  unfold p_X0_startFull at hp
  split at hp
  case h_2 => exact hp.elim
  rename_i this
  intro G hG
  simp only [w_ent, w_pos, w_cat, Nat.reduceEqDiff, ↓reduceIte, List.length_cons, List.length_nil, Nat.reduceAdd, Nat.reduceSub, List.cons_append, List.nil_append, List.replicate_succ, List.replicate_zero]
  obtain ⟨rfl, hS, hXw⟩ := hp
  have hSz := hS.2.2.1
  have s1 : wfl w 133 402 0 5 1 = S 0 1 := by rw [wfl_x (by decide)]; exact hXw.2.1 1 (by decide)
  (apply hG [] 2000; simp only [w_br_i, w_ite, w_all, w_all0, forall_eq, w_b0, w_b1, ↓reduceIte, w_ent, w_pos, List.replicate_succ, List.replicate_zero, wp_s, wk_s, w_lk_c, w_ld0, w_ldS, w_kp0, w_kp, w_s1, w_s2, w_to, w_if, w_call, w_sw, w_cat, w_cats, w_psh, w_fv, List.contains_cons, List.contains_nil, List.set_cons_zero, List.set_cons_succ, List.length_cons, List.length_nil, List.find?_cons, List.find?_nil, List.take_succ_cons, List.take_zero, List.drop_succ_cons, List.drop_zero, List.reverse_cons, List.reverse_nil, List.nil_append, List.cons_append, Option.map_some, Option.map_none, Nat.reduceAdd, Nat.reduceBEq, Nat.reduceEqDiff, Nat.reduceLT, Nat.reduceLeDiff, Nat.reduceSub, Int.reduceAdd, Int.reduceSub, Int.reduceMul, Int.reduceNeg, Int.reduceToNat, Int.reduceLT, Int.reduceLE, Int.reduceEq, Bool.false_eq_true, Bool.or_false, Bool.false_or, Bool.true_or, Bool.or_true, if_true, if_false, ite_true, ite_false, true_and, and_true, false_and, and_false, true_or, or_true, false_or, or_false, Int.cast_ofNat_Int, Int.toNat_natCast, Int.natCast_add, List.getElem?_cons_zero, List.getElem?_cons_succ, true_implies, forall_const, not_true_eq_false, not_false_eq_true, ne_eq, beq_iff_eq, imp_self, List.length_set, Nat.zero_add, Nat.add_zero, Int.zero_add, Int.add_zero, w1_aload_n_0, w1_getfield, w1_lconst, w1_invokestatic, w1_iconst, w1_iaload, w1_lastore, w1_return, dX0_startFull_0, dX0_startFull_1, dX0_startFull_4, dX0_startFull_5, dX0_startFull_8, dX0_startFull_9, dX0_startFull_12, dX0_startFull_13, dX0_startFull_16, dX0_startFull_19, dX0_startFull_20, dX0_startFull_21, dX0_startFull_22, dX0_startFull_25, dX0_startFull_26, dX0_startFull_27, w_flk0_29, w_flk0_36, w_flk0_48, w_kd_4, w_rf_4_0, w_rf_4_1, w_rf_4_2, w_rf_4_3, w_rf_4_4, w_rf_4_5, w_kd_5, w_ln_5, w_kd_93, w_rf_93_0, w_rf_93_1, w_rf_93_2, w_rf_93_3, w_rf_93_4, w_rf_93_5, w_rf_93_6, w_rf_93_7, w_rf_93_8, w_kd_133, w_ln_133, lc0, lc1, p_J7_fill_d0a16, q_J7_fill_d0a16, s1, p_X9_stateOf, q_X9_stateOf])
  (repeat' (with_reducible (first | refine And.intro ?_ ?_ | intro _))) <;> (try (first | assumption | contradiction | exact Or.inl trivial | exact Or.inl rfl | exact Or.inr rfl | (simp only [inI, inL]; omega) | omega))
  all_goals (simp only [q_X0_startFull]; refine ⟨fun k i hk => ?_, fun s hs => ?_⟩)
  · rw [up_k hk, wfl_x hk]
  · by_cases q : s = 2 * (S 0 1).toNat + 1
    · rw [if_pos q, q, show (2 * S 0 1 + 1).toNat = 2 * (S 0 1).toNat + 1 by omega, up_eq]
    · rw [if_neg q, up_ne (by omega), wfl_a hs]
def p_X0_letRain (S : wW) : List wV → wW → Prop := fun av w => match av with
  | [.inr (.inr (some this)), .inl m] => this = 93 ∧ hR S ∧ hX S w ∧ (yR S ∧ yX S w) ∧ (0 ≤ m ∧ m < 12) ∧ ∀ s, s < nSt S → 0 ≤ w 133 s ∧ w 133 s ≤ 68719476736
  | _ => False
theorem h_X0_letRain (S : wW) : ∀ av w, (p_X0_letRain S) av w → ∃ a r, av = vr a :: r ∧ w_kd a = 100 + 0 := by
  intro av w h
  unfold p_X0_letRain at h
  split at h
  · refine ⟨_, _, rfl, ?_⟩
    first | (rw [h.1]; rfl) | (rw [h]; rfl)
  · exact h.elim
def q_X0_letRain (S : wW) : List wV → wW → Int → wW → Prop := fun av w r w' => match av with
  | [.inr (.inr (some this)), .inl m] => (∀ k i, k ≠ 134 → w' k i = w k i) ∧ ∀ s, s < 402 → w' 134 s = lrF S (w 133) m.toNat s
  | _ => False
def lrV (S w : wW) (m st y : Nat) (w1 : wW) : Prop := (∀ k i, k ≠ 134 → w1 k i = w k i) ∧ ∀ s, s < 402 → w1 134 s = sm (fun st => sm (lrY S (w 133) m s st) (S 4 1).toNat) st + sm (lrY S (w 133) m s st) y
set_option maxRecDepth 100000 in
set_option maxHeartbeats 4000000 in
theorem c_X0_letRain (S : wW) : w_Ct yX0_letRain cX0_letRain 7 0 1 24 (p_X0_letRain S) (q_X0_letRain S) := by
  refine w_met (own := RX0) (fl := w_fl0) (gs := w_gs0) (kl := w_kl0) (ki := w_ki0) (cs := [(105, (1, 2, 0, p_J7_fill_d0a16, q_J7_fill_d0a16)), (123, (1, 3, 1, (p_X9_stateBehindLeak S), (q_X9_stateBehindLeak S)))]) (by decide +kernel) rfl ?_ w_flok0 w_gsok0 w_klok0 w_kiok0 ?_ ?_
  · intro av w h
    unfold p_X0_letRain at h
    split at h
    · simp [w_pos, w_cat]
    · exact h.elim
  · exact List.forall_mem_cons.mpr ⟨⟨_, _, w_callS (own := RX0) (idx := 105) c_J7_fill_d0a16 (w_m3 239 (by decide +kernel) (by decide +kernel)) (w_m3 105 (by decide +kernel) (by decide +kernel)) (w_m1 7 (by decide +kernel) (by decide +kernel)) (w_m3 106 (by decide +kernel) (by decide +kernel)) ⟨by decide +kernel, by decide +kernel, by decide +kernel⟩, by decide, by decide⟩, List.forall_mem_cons.mpr ⟨⟨_, _, w_callSN (own := RX0) (idx := 123) (host := "HowBigTank") (c_X9_stateBehindLeak S) (w_m4 5 (by decide +kernel) (by decide +kernel)) (w_m3 134 (by decide +kernel) (by decide +kernel)) (w_m1 1 (by decide +kernel) (by decide +kernel)) (w_m3 135 (by decide +kernel) (by decide +kernel)) ⟨by decide +kernel, by decide +kernel, by decide +kernel⟩, by decide, by decide⟩, fun _ h => absurd h List.not_mem_nil⟩⟩
  intro av w hp
  unfold p_X0_letRain at hp
  split at hp
  case h_2 => exact hp.elim
  rename_i this m
  intro G hG
  simp only [w_ent, w_pos, w_cat, Nat.reduceEqDiff, ↓reduceIte, List.length_cons, List.length_nil, Nat.reduceAdd, Nat.reduceSub, List.cons_append, List.nil_append, List.replicate_succ, List.replicate_zero]
  obtain ⟨rfl, hS, hXw, ⟨hy, hyX⟩, hm, h133⟩ := hp
  obtain ⟨m, rfl⟩ : ∃ n : Nat, m = n := ⟨m.toNat, by omega⟩
  have hSz := hS.2.2.1
  obtain ⟨sz, hsz⟩ : ∃ n : Nat, S 0 1 = n := ⟨(S 0 1).toNat, by omega⟩
  have hns : nSt S = 2 * sz + 2 := by unfold nSt; omega
  have s1 : wfl w 134 402 0 5 1 = sz := by rw [wfl_x (by decide), ← hsz]; exact hXw.2.1 1 (by decide)
  obtain ⟨ny, hny⟩ : ∃ n : Nat, S 4 1 = n := ⟨(S 4 1).toNat, by have := hy.1; omega⟩
  have hny8 : ny ≤ 8 := by have := hy.1; omega
  have hnN : (S 4 1).toNat = ny := by omega
  have inner : ∀ st : Nat, st < 2 * sz + 2 → (∀ w1, lrV S w m (st + 1) 0 w1 → ∀ x4 x5 x6, G 24 [some (vr 93), some (vi m), some (vi (2 * ((sz : Int) + 1))), some (vi (st + 1)), x4, x5, x6] [] w1) →
      ∀ d y : Nat, y + d = ny → ∀ w1, lrV S w m st y w1 → (w 133 st = 0 → y = 0) → G 40 [some (vr 93), some (vi m), some (vi (2 * ((sz : Int) + 1))), some (vi st), some (vl (w 133 st)), none, some (vi y)] [] w1 := by
    intro st hst hnext d
    have hv := h133 st (by omega)
    have done : ∀ y w1, lrV S w m st y w1 → (y = ny ∨ w 133 st = 0) → lrV S w m (st + 1) 0 w1 := by
      intro y w1 hw1 hc
      refine ⟨hw1.1, fun s hs => ?_⟩
      rw [hw1.2 s hs]
      simp only [sm]
      rcases hc with hc | hc
      · rw [hc, hnN]; omega
      · rw [lrY_0 hc, lrY_0 hc]; omega
    induction d with
    | zero =>
      intro y hyy w1 hw1 hz
      have ey : y = ny := by omega
      have hc : w1 11 1 = ny := by rw [hw1.1 11 1 (by decide), hyX.1, hny]
      have e := hnext w1 (done y w1 hw1 (Or.inl ey))
      (apply hG [40, 24] 2000; simp only [w_br_i, w_ite, w_all, w_all0, forall_eq, w_b0, w_b1, ↓reduceIte, w_ent, w_pos, List.replicate_succ, List.replicate_zero, wp_s, wk_s, w_lk_c, w_ld0, w_ldS, w_kp0, w_kp, w_s1, w_s2, w_to, w_if, w_call, w_sw, w_cat, w_cats, w_psh, w_fv, List.contains_cons, List.contains_nil, List.set_cons_zero, List.set_cons_succ, List.length_cons, List.length_nil, List.find?_cons, List.find?_nil, List.take_succ_cons, List.take_zero, List.drop_succ_cons, List.drop_zero, List.reverse_cons, List.reverse_nil, List.nil_append, List.cons_append, Option.map_some, Option.map_none, Nat.reduceAdd, Nat.reduceBEq, Nat.reduceEqDiff, Nat.reduceLT, Nat.reduceLeDiff, Nat.reduceSub, Int.reduceAdd, Int.reduceSub, Int.reduceMul, Int.reduceNeg, Int.reduceToNat, Int.reduceLT, Int.reduceLE, Int.reduceEq, Bool.false_eq_true, Bool.or_false, Bool.false_or, Bool.true_or, Bool.or_true, if_true, if_false, ite_true, ite_false, true_and, and_true, false_and, and_false, true_or, or_true, false_or, or_false, Int.cast_ofNat_Int, Int.toNat_natCast, Int.natCast_add, List.getElem?_cons_zero, List.getElem?_cons_succ, true_implies, forall_const, not_true_eq_false, not_false_eq_true, ne_eq, beq_iff_eq, imp_self, List.length_set, Nat.zero_add, Nat.add_zero, Int.zero_add, Int.add_zero, w1_aload_n_0, w1_getfield, w1_lconst, w1_invokestatic, w1_iconst, w1_iaload, w1_iadd, w1_imul, w1_istore_n_2, w1_istore_n_3, w1_iload_n_3, w1_iload_n_2, w1_if_icmp, w1_laload, w1_lstore, w1_istore, w1_iload, w1_lload, w1_lcmp, w1_ifCond, w1_aaload, w1_iload_n_1, w1_dup2, w1_dup2i, w1_dup2r, w1_ladd, w1_lastore, w1_iinc, w1_goto, w1_return, dX0_letRain_0, dX0_letRain_1, dX0_letRain_4, dX0_letRain_5, dX0_letRain_8, dX0_letRain_9, dX0_letRain_10, dX0_letRain_13, dX0_letRain_16, dX0_letRain_17, dX0_letRain_18, dX0_letRain_19, dX0_letRain_20, dX0_letRain_21, dX0_letRain_22, dX0_letRain_23, dX0_letRain_24, dX0_letRain_25, dX0_letRain_26, dX0_letRain_29, dX0_letRain_30, dX0_letRain_33, dX0_letRain_34, dX0_letRain_35, dX0_letRain_37, dX0_letRain_38, dX0_letRain_40, dX0_letRain_42, dX0_letRain_43, dX0_letRain_46, dX0_letRain_49, dX0_letRain_52, dX0_letRain_54, dX0_letRain_55, dX0_letRain_56, dX0_letRain_59, dX0_letRain_60, dX0_letRain_63, dX0_letRain_64, dX0_letRain_67, dX0_letRain_68, dX0_letRain_69, dX0_letRain_72, dX0_letRain_75, dX0_letRain_77, dX0_letRain_78, dX0_letRain_79, dX0_letRain_80, dX0_letRain_83, dX0_letRain_84, dX0_letRain_85, dX0_letRain_87, dX0_letRain_88, dX0_letRain_89, dX0_letRain_92, dX0_letRain_95, dX0_letRain_98, dX0_letRain_101, w_flk0_115, w_flk0_120, w_flk0_29, w_flk0_33, w_flk0_36, w_flk0_40, w_flk0_48, w_kd_11, w_rf_11_0, w_kd_93, w_rf_93_0, w_rf_93_1, w_rf_93_2, w_rf_93_3, w_rf_93_4, w_rf_93_5, w_rf_93_6, w_rf_93_7, w_rf_93_8, w_kd_134, w_ln_134, lc0, lc1, hc])
      (repeat' (with_reducible (first | refine And.intro ?_ ?_ | intro _))) <;> (try (first | assumption | contradiction | exact Or.inl trivial | exact Or.inl rfl | exact Or.inr rfl | (simp only [inI, inL]; omega) | omega))
      all_goals first
        | exact e _ _ _
        | (exfalso; omega)
    | succ d ih =>
      intro y hyy w1 hw1 hz
      have hc : w1 11 1 = ny := by rw [hw1.1 11 1 (by decide), hyX.1, hny]
      by_cases q : w 133 st = 0
      · have e := hnext w1 (done y w1 hw1 (Or.inr q))
        have hcm := w_cmp_r (w 133 st) 0
        (apply hG [24, 59, 40] 2000; simp only [w_br_i, w_ite, w_all, w_all0, forall_eq, w_b0, w_b1, ↓reduceIte, w_ent, w_pos, List.replicate_succ, List.replicate_zero, wp_s, wk_s, w_lk_c, w_ld0, w_ldS, w_kp0, w_kp, w_s1, w_s2, w_to, w_if, w_call, w_sw, w_cat, w_cats, w_psh, w_fv, List.contains_cons, List.contains_nil, List.set_cons_zero, List.set_cons_succ, List.length_cons, List.length_nil, List.find?_cons, List.find?_nil, List.take_succ_cons, List.take_zero, List.drop_succ_cons, List.drop_zero, List.reverse_cons, List.reverse_nil, List.nil_append, List.cons_append, Option.map_some, Option.map_none, Nat.reduceAdd, Nat.reduceBEq, Nat.reduceEqDiff, Nat.reduceLT, Nat.reduceLeDiff, Nat.reduceSub, Int.reduceAdd, Int.reduceSub, Int.reduceMul, Int.reduceNeg, Int.reduceToNat, Int.reduceLT, Int.reduceLE, Int.reduceEq, Bool.false_eq_true, Bool.or_false, Bool.false_or, Bool.true_or, Bool.or_true, if_true, if_false, ite_true, ite_false, true_and, and_true, false_and, and_false, true_or, or_true, false_or, or_false, Int.cast_ofNat_Int, Int.toNat_natCast, Int.natCast_add, List.getElem?_cons_zero, List.getElem?_cons_succ, true_implies, forall_const, not_true_eq_false, not_false_eq_true, ne_eq, beq_iff_eq, imp_self, List.length_set, Nat.zero_add, Nat.add_zero, Int.zero_add, Int.add_zero, w1_aload_n_0, w1_getfield, w1_lconst, w1_invokestatic, w1_iconst, w1_iaload, w1_iadd, w1_imul, w1_istore_n_2, w1_istore_n_3, w1_iload_n_3, w1_iload_n_2, w1_if_icmp, w1_laload, w1_lstore, w1_istore, w1_iload, w1_lload, w1_lcmp, w1_ifCond, w1_aaload, w1_iload_n_1, w1_dup2, w1_dup2i, w1_dup2r, w1_ladd, w1_lastore, w1_iinc, w1_goto, w1_return, dX0_letRain_0, dX0_letRain_1, dX0_letRain_4, dX0_letRain_5, dX0_letRain_8, dX0_letRain_9, dX0_letRain_10, dX0_letRain_13, dX0_letRain_16, dX0_letRain_17, dX0_letRain_18, dX0_letRain_19, dX0_letRain_20, dX0_letRain_21, dX0_letRain_22, dX0_letRain_23, dX0_letRain_24, dX0_letRain_25, dX0_letRain_26, dX0_letRain_29, dX0_letRain_30, dX0_letRain_33, dX0_letRain_34, dX0_letRain_35, dX0_letRain_37, dX0_letRain_38, dX0_letRain_40, dX0_letRain_42, dX0_letRain_43, dX0_letRain_46, dX0_letRain_49, dX0_letRain_52, dX0_letRain_54, dX0_letRain_55, dX0_letRain_56, dX0_letRain_59, dX0_letRain_60, dX0_letRain_63, dX0_letRain_64, dX0_letRain_67, dX0_letRain_68, dX0_letRain_69, dX0_letRain_72, dX0_letRain_75, dX0_letRain_77, dX0_letRain_78, dX0_letRain_79, dX0_letRain_80, dX0_letRain_83, dX0_letRain_84, dX0_letRain_85, dX0_letRain_87, dX0_letRain_88, dX0_letRain_89, dX0_letRain_92, dX0_letRain_95, dX0_letRain_98, dX0_letRain_101, w_flk0_115, w_flk0_120, w_flk0_29, w_flk0_33, w_flk0_36, w_flk0_40, w_flk0_48, w_kd_11, w_rf_11_0, w_kd_93, w_rf_93_0, w_rf_93_1, w_rf_93_2, w_rf_93_3, w_rf_93_4, w_rf_93_5, w_rf_93_6, w_rf_93_7, w_rf_93_8, w_kd_134, w_ln_134, lc0, lc1, hc])
        (repeat' (with_reducible (first | refine And.intro ?_ ?_ | intro _))) <;> (try (first | assumption | contradiction | exact Or.inl trivial | exact Or.inl rfl | exact Or.inr rfl | (simp only [inI, inL]; omega) | omega))
        all_goals first
          | exact e _ _ _
          | (exfalso; omega)
      · have ky := (w_kdy (y := y) (by omega)).1
        have hrain : w1 (13 + y) m = S (20 + y) m := by rw [hw1.1 _ _ (by omega)]; exact hyX.2 y m (by omega) (by omega)
        have hr := hy.2 y m (by omega) (by omega)
        have hs := (sbl_in hS hr (st := st) (by omega)).2
        have hcm := w_cmp_r (w 133 st) 0
        have hpc : p_X9_stateBehindLeak S [vr 4, vi st, vi (S (20 + y) m)] w1 := by
          refine ⟨rfl, hS, hX_of hXw (fun k i hk => hw1.1 k i (by omega)), by omega, hr⟩
        have e := ih (y + 1) (by omega) (w_up w1 134 (sbl S (S (20 + y) m) st) (w1 134 (sbl S (S (20 + y) m) st) + w 133 st)) (by
          refine ⟨fun k i hk => by rw [up_k hk]; exact hw1.1 k i hk, fun s hs' => ?_⟩
          simp only [sm]
          by_cases c : sbl S (S (20 + y) m) st = s
          · rw [c, up_eq, hw1.2 s hs']
            have e : lrY S (w 133) m s st y = w 133 st := by unfold lrY; rw [if_pos c]
            rw [e]; omega
          · rw [up_ne (by omega), hw1.2 s hs']
            have e : lrY S (w 133) m s st y = 0 := by unfold lrY; rw [if_neg c]
            rw [e]; omega) (fun z => absurd z q)
        simp only [Int.natCast_add, Int.cast_ofNat_Int] at e
        (apply hG [40, 24] 2000; simp only [w_br_i, w_ite, w_all, w_all0, forall_eq, w_b0, w_b1, ↓reduceIte, w_ent, w_pos, List.replicate_succ, List.replicate_zero, wp_s, wk_s, w_lk_c, w_ld0, w_ldS, w_kp0, w_kp, w_s1, w_s2, w_to, w_if, w_call, w_sw, w_cat, w_cats, w_psh, w_fv, List.contains_cons, List.contains_nil, List.set_cons_zero, List.set_cons_succ, List.length_cons, List.length_nil, List.find?_cons, List.find?_nil, List.take_succ_cons, List.take_zero, List.drop_succ_cons, List.drop_zero, List.reverse_cons, List.reverse_nil, List.nil_append, List.cons_append, Option.map_some, Option.map_none, Nat.reduceAdd, Nat.reduceBEq, Nat.reduceEqDiff, Nat.reduceLT, Nat.reduceLeDiff, Nat.reduceSub, Int.reduceAdd, Int.reduceSub, Int.reduceMul, Int.reduceNeg, Int.reduceToNat, Int.reduceLT, Int.reduceLE, Int.reduceEq, Bool.false_eq_true, Bool.or_false, Bool.false_or, Bool.true_or, Bool.or_true, if_true, if_false, ite_true, ite_false, true_and, and_true, false_and, and_false, true_or, or_true, false_or, or_false, Int.cast_ofNat_Int, Int.toNat_natCast, Int.natCast_add, List.getElem?_cons_zero, List.getElem?_cons_succ, true_implies, forall_const, not_true_eq_false, not_false_eq_true, ne_eq, beq_iff_eq, imp_self, List.length_set, Nat.zero_add, Nat.add_zero, Int.zero_add, Int.add_zero, w1_aload_n_0, w1_getfield, w1_lconst, w1_invokestatic, w1_iconst, w1_iaload, w1_iadd, w1_imul, w1_istore_n_2, w1_istore_n_3, w1_iload_n_3, w1_iload_n_2, w1_if_icmp, w1_laload, w1_lstore, w1_istore, w1_iload, w1_lload, w1_lcmp, w1_ifCond, w1_aaload, w1_iload_n_1, w1_dup2, w1_dup2i, w1_dup2r, w1_ladd, w1_lastore, w1_iinc, w1_goto, w1_return, dX0_letRain_0, dX0_letRain_1, dX0_letRain_4, dX0_letRain_5, dX0_letRain_8, dX0_letRain_9, dX0_letRain_10, dX0_letRain_13, dX0_letRain_16, dX0_letRain_17, dX0_letRain_18, dX0_letRain_19, dX0_letRain_20, dX0_letRain_21, dX0_letRain_22, dX0_letRain_23, dX0_letRain_24, dX0_letRain_25, dX0_letRain_26, dX0_letRain_29, dX0_letRain_30, dX0_letRain_33, dX0_letRain_34, dX0_letRain_35, dX0_letRain_37, dX0_letRain_38, dX0_letRain_40, dX0_letRain_42, dX0_letRain_43, dX0_letRain_46, dX0_letRain_49, dX0_letRain_52, dX0_letRain_54, dX0_letRain_55, dX0_letRain_56, dX0_letRain_59, dX0_letRain_60, dX0_letRain_63, dX0_letRain_64, dX0_letRain_67, dX0_letRain_68, dX0_letRain_69, dX0_letRain_72, dX0_letRain_75, dX0_letRain_77, dX0_letRain_78, dX0_letRain_79, dX0_letRain_80, dX0_letRain_83, dX0_letRain_84, dX0_letRain_85, dX0_letRain_87, dX0_letRain_88, dX0_letRain_89, dX0_letRain_92, dX0_letRain_95, dX0_letRain_98, dX0_letRain_101, w_flk0_115, w_flk0_120, w_flk0_29, w_flk0_33, w_flk0_36, w_flk0_40, w_flk0_48, w_kd_4, w_rf_4_0, w_rf_4_1, w_rf_4_2, w_rf_4_3, w_rf_4_4, w_rf_4_5, w_kd_11, w_rf_11_0, w_kd_12, w_ln_12, w_kd_93, w_rf_93_0, w_rf_93_1, w_rf_93_2, w_rf_93_3, w_rf_93_4, w_rf_93_5, w_rf_93_6, w_rf_93_7, w_rf_93_8, w_kd_134, w_ln_134, lc0, lc1, hc, ky.1, ky.2, hrain, hpc, q_X9_stateBehindLeak])
        (repeat' (with_reducible (first | refine And.intro ?_ ?_ | intro _))) <;> (try (first | assumption | contradiction | exact Or.inl trivial | exact Or.inl rfl | exact Or.inr rfl | (simp only [inI, inL]; omega) | omega))
        all_goals first
          | exact e
          | (exfalso; omega)
  have outer : ∀ d st : Nat, st + d = 2 * sz + 2 → ∀ w1, lrV S w m st 0 w1 → ∀ x4 x5 x6 : Option wV, G 24 [some (vr 93), some (vi m), some (vi (2 * ((sz : Int) + 1))), some (vi st), x4, x5, x6] [] w1 := by
    intro d
    induction d with
    | zero =>
      intro st hst w1 hw1 x4 x5 x6
      have e : st = 2 * sz + 2 := by omega
      (apply hG [24, 40] 2000; simp only [w_br_i, w_ite, w_all, w_all0, forall_eq, w_b0, w_b1, ↓reduceIte, w_ent, w_pos, List.replicate_succ, List.replicate_zero, wp_s, wk_s, w_lk_c, w_ld0, w_ldS, w_kp0, w_kp, w_s1, w_s2, w_to, w_if, w_call, w_sw, w_cat, w_cats, w_psh, w_fv, List.contains_cons, List.contains_nil, List.set_cons_zero, List.set_cons_succ, List.length_cons, List.length_nil, List.find?_cons, List.find?_nil, List.take_succ_cons, List.take_zero, List.drop_succ_cons, List.drop_zero, List.reverse_cons, List.reverse_nil, List.nil_append, List.cons_append, Option.map_some, Option.map_none, Nat.reduceAdd, Nat.reduceBEq, Nat.reduceEqDiff, Nat.reduceLT, Nat.reduceLeDiff, Nat.reduceSub, Int.reduceAdd, Int.reduceSub, Int.reduceMul, Int.reduceNeg, Int.reduceToNat, Int.reduceLT, Int.reduceLE, Int.reduceEq, Bool.false_eq_true, Bool.or_false, Bool.false_or, Bool.true_or, Bool.or_true, if_true, if_false, ite_true, ite_false, true_and, and_true, false_and, and_false, true_or, or_true, false_or, or_false, Int.cast_ofNat_Int, Int.toNat_natCast, Int.natCast_add, List.getElem?_cons_zero, List.getElem?_cons_succ, true_implies, forall_const, not_true_eq_false, not_false_eq_true, ne_eq, beq_iff_eq, imp_self, List.length_set, Nat.zero_add, Nat.add_zero, Int.zero_add, Int.add_zero, w1_aload_n_0, w1_getfield, w1_lconst, w1_invokestatic, w1_iconst, w1_iaload, w1_iadd, w1_imul, w1_istore_n_2, w1_istore_n_3, w1_iload_n_3, w1_iload_n_2, w1_if_icmp, w1_laload, w1_lstore, w1_istore, w1_iload, w1_lload, w1_lcmp, w1_ifCond, w1_aaload, w1_iload_n_1, w1_dup2, w1_dup2i, w1_dup2r, w1_ladd, w1_lastore, w1_iinc, w1_goto, w1_return, dX0_letRain_0, dX0_letRain_1, dX0_letRain_4, dX0_letRain_5, dX0_letRain_8, dX0_letRain_9, dX0_letRain_10, dX0_letRain_13, dX0_letRain_16, dX0_letRain_17, dX0_letRain_18, dX0_letRain_19, dX0_letRain_20, dX0_letRain_21, dX0_letRain_22, dX0_letRain_23, dX0_letRain_24, dX0_letRain_25, dX0_letRain_26, dX0_letRain_29, dX0_letRain_30, dX0_letRain_33, dX0_letRain_34, dX0_letRain_35, dX0_letRain_37, dX0_letRain_38, dX0_letRain_40, dX0_letRain_42, dX0_letRain_43, dX0_letRain_46, dX0_letRain_49, dX0_letRain_52, dX0_letRain_54, dX0_letRain_55, dX0_letRain_56, dX0_letRain_59, dX0_letRain_60, dX0_letRain_63, dX0_letRain_64, dX0_letRain_67, dX0_letRain_68, dX0_letRain_69, dX0_letRain_72, dX0_letRain_75, dX0_letRain_77, dX0_letRain_78, dX0_letRain_79, dX0_letRain_80, dX0_letRain_83, dX0_letRain_84, dX0_letRain_85, dX0_letRain_87, dX0_letRain_88, dX0_letRain_89, dX0_letRain_92, dX0_letRain_95, dX0_letRain_98, dX0_letRain_101, w_flk0_115, w_flk0_120, w_flk0_29, w_flk0_33, w_flk0_36, w_flk0_40, w_flk0_48, w_kd_93, w_rf_93_0, w_rf_93_1, w_rf_93_2, w_rf_93_3, w_rf_93_4, w_rf_93_5, w_rf_93_6, w_rf_93_7, w_rf_93_8, lc0, lc1])
      (repeat' (with_reducible (first | refine And.intro ?_ ?_ | intro _))) <;> (try (first | assumption | contradiction | exact Or.inl trivial | exact Or.inl rfl | exact Or.inr rfl | (simp only [inI, inL]; omega) | omega))
      all_goals first
        | (simp only [q_X0_letRain, Int.toNat_natCast]; refine ⟨hw1.1, fun s hs => ?_⟩; rw [hw1.2 s hs, lrF, hns, e]; simp only [sm]; omega)
        | (exfalso; omega)
    | succ d ih =>
      intro st hst w1 hw1 x4 x5 x6
      have h13 : w1 133 st = w 133 st := hw1.1 133 st (by decide)
      have e := inner st (by omega) (fun w1 hw1 x4 x5 x6 => by
        have e := ih (st + 1) (by omega) w1 hw1 x4 x5 x6
        simp only [Int.natCast_add, Int.cast_ofNat_Int] at e
        exact e) ny 0 (by omega) w1 hw1 (fun _ => rfl)
      simp only [Int.cast_ofNat_Int] at e
      (apply hG [24, 40] 2000; simp only [w_br_i, w_ite, w_all, w_all0, forall_eq, w_b0, w_b1, ↓reduceIte, w_ent, w_pos, List.replicate_succ, List.replicate_zero, wp_s, wk_s, w_lk_c, w_ld0, w_ldS, w_kp0, w_kp, w_s1, w_s2, w_to, w_if, w_call, w_sw, w_cat, w_cats, w_psh, w_fv, List.contains_cons, List.contains_nil, List.set_cons_zero, List.set_cons_succ, List.length_cons, List.length_nil, List.find?_cons, List.find?_nil, List.take_succ_cons, List.take_zero, List.drop_succ_cons, List.drop_zero, List.reverse_cons, List.reverse_nil, List.nil_append, List.cons_append, Option.map_some, Option.map_none, Nat.reduceAdd, Nat.reduceBEq, Nat.reduceEqDiff, Nat.reduceLT, Nat.reduceLeDiff, Nat.reduceSub, Int.reduceAdd, Int.reduceSub, Int.reduceMul, Int.reduceNeg, Int.reduceToNat, Int.reduceLT, Int.reduceLE, Int.reduceEq, Bool.false_eq_true, Bool.or_false, Bool.false_or, Bool.true_or, Bool.or_true, if_true, if_false, ite_true, ite_false, true_and, and_true, false_and, and_false, true_or, or_true, false_or, or_false, Int.cast_ofNat_Int, Int.toNat_natCast, Int.natCast_add, List.getElem?_cons_zero, List.getElem?_cons_succ, true_implies, forall_const, not_true_eq_false, not_false_eq_true, ne_eq, beq_iff_eq, imp_self, List.length_set, Nat.zero_add, Nat.add_zero, Int.zero_add, Int.add_zero, w1_aload_n_0, w1_getfield, w1_lconst, w1_invokestatic, w1_iconst, w1_iaload, w1_iadd, w1_imul, w1_istore_n_2, w1_istore_n_3, w1_iload_n_3, w1_iload_n_2, w1_if_icmp, w1_laload, w1_lstore, w1_istore, w1_iload, w1_lload, w1_lcmp, w1_ifCond, w1_aaload, w1_iload_n_1, w1_dup2, w1_dup2i, w1_dup2r, w1_ladd, w1_lastore, w1_iinc, w1_goto, w1_return, dX0_letRain_0, dX0_letRain_1, dX0_letRain_4, dX0_letRain_5, dX0_letRain_8, dX0_letRain_9, dX0_letRain_10, dX0_letRain_13, dX0_letRain_16, dX0_letRain_17, dX0_letRain_18, dX0_letRain_19, dX0_letRain_20, dX0_letRain_21, dX0_letRain_22, dX0_letRain_23, dX0_letRain_24, dX0_letRain_25, dX0_letRain_26, dX0_letRain_29, dX0_letRain_30, dX0_letRain_33, dX0_letRain_34, dX0_letRain_35, dX0_letRain_37, dX0_letRain_38, dX0_letRain_40, dX0_letRain_42, dX0_letRain_43, dX0_letRain_46, dX0_letRain_49, dX0_letRain_52, dX0_letRain_54, dX0_letRain_55, dX0_letRain_56, dX0_letRain_59, dX0_letRain_60, dX0_letRain_63, dX0_letRain_64, dX0_letRain_67, dX0_letRain_68, dX0_letRain_69, dX0_letRain_72, dX0_letRain_75, dX0_letRain_77, dX0_letRain_78, dX0_letRain_79, dX0_letRain_80, dX0_letRain_83, dX0_letRain_84, dX0_letRain_85, dX0_letRain_87, dX0_letRain_88, dX0_letRain_89, dX0_letRain_92, dX0_letRain_95, dX0_letRain_98, dX0_letRain_101, w_flk0_115, w_flk0_120, w_flk0_29, w_flk0_33, w_flk0_36, w_flk0_40, w_flk0_48, w_kd_93, w_rf_93_0, w_rf_93_1, w_rf_93_2, w_rf_93_3, w_rf_93_4, w_rf_93_5, w_rf_93_6, w_rf_93_7, w_rf_93_8, w_kd_133, w_ln_133, lc0, lc1, h13])
      (repeat' (with_reducible (first | refine And.intro ?_ ?_ | intro _))) <;> (try (first | assumption | contradiction | exact Or.inl trivial | exact Or.inl rfl | exact Or.inr rfl | (simp only [inI, inL]; omega) | omega))
      all_goals first
        | exact e
        | (exfalso; omega)
  have e := outer (2 * sz + 2) 0 (by omega) (wfl w 134 402 0) ⟨fun k i hk => wfl_x hk, fun s hs => by rw [wfl_a hs]; rfl⟩ none none none
  simp only [Int.cast_ofNat_Int] at e
  (apply hG [24, 40] 2000; simp only [w_br_i, w_ite, w_all, w_all0, forall_eq, w_b0, w_b1, ↓reduceIte, w_ent, w_pos, List.replicate_succ, List.replicate_zero, wp_s, wk_s, w_lk_c, w_ld0, w_ldS, w_kp0, w_kp, w_s1, w_s2, w_to, w_if, w_call, w_sw, w_cat, w_cats, w_psh, w_fv, List.contains_cons, List.contains_nil, List.set_cons_zero, List.set_cons_succ, List.length_cons, List.length_nil, List.find?_cons, List.find?_nil, List.take_succ_cons, List.take_zero, List.drop_succ_cons, List.drop_zero, List.reverse_cons, List.reverse_nil, List.nil_append, List.cons_append, Option.map_some, Option.map_none, Nat.reduceAdd, Nat.reduceBEq, Nat.reduceEqDiff, Nat.reduceLT, Nat.reduceLeDiff, Nat.reduceSub, Int.reduceAdd, Int.reduceSub, Int.reduceMul, Int.reduceNeg, Int.reduceToNat, Int.reduceLT, Int.reduceLE, Int.reduceEq, Bool.false_eq_true, Bool.or_false, Bool.false_or, Bool.true_or, Bool.or_true, if_true, if_false, ite_true, ite_false, true_and, and_true, false_and, and_false, true_or, or_true, false_or, or_false, Int.cast_ofNat_Int, Int.toNat_natCast, Int.natCast_add, List.getElem?_cons_zero, List.getElem?_cons_succ, true_implies, forall_const, not_true_eq_false, not_false_eq_true, ne_eq, beq_iff_eq, imp_self, List.length_set, Nat.zero_add, Nat.add_zero, Int.zero_add, Int.add_zero, w1_aload_n_0, w1_getfield, w1_lconst, w1_invokestatic, w1_iconst, w1_iaload, w1_iadd, w1_imul, w1_istore_n_2, w1_istore_n_3, w1_iload_n_3, w1_iload_n_2, w1_if_icmp, w1_laload, w1_lstore, w1_istore, w1_iload, w1_lload, w1_lcmp, w1_ifCond, w1_aaload, w1_iload_n_1, w1_dup2, w1_dup2i, w1_dup2r, w1_ladd, w1_lastore, w1_iinc, w1_goto, w1_return, dX0_letRain_0, dX0_letRain_1, dX0_letRain_4, dX0_letRain_5, dX0_letRain_8, dX0_letRain_9, dX0_letRain_10, dX0_letRain_13, dX0_letRain_16, dX0_letRain_17, dX0_letRain_18, dX0_letRain_19, dX0_letRain_20, dX0_letRain_21, dX0_letRain_22, dX0_letRain_23, dX0_letRain_24, dX0_letRain_25, dX0_letRain_26, dX0_letRain_29, dX0_letRain_30, dX0_letRain_33, dX0_letRain_34, dX0_letRain_35, dX0_letRain_37, dX0_letRain_38, dX0_letRain_40, dX0_letRain_42, dX0_letRain_43, dX0_letRain_46, dX0_letRain_49, dX0_letRain_52, dX0_letRain_54, dX0_letRain_55, dX0_letRain_56, dX0_letRain_59, dX0_letRain_60, dX0_letRain_63, dX0_letRain_64, dX0_letRain_67, dX0_letRain_68, dX0_letRain_69, dX0_letRain_72, dX0_letRain_75, dX0_letRain_77, dX0_letRain_78, dX0_letRain_79, dX0_letRain_80, dX0_letRain_83, dX0_letRain_84, dX0_letRain_85, dX0_letRain_87, dX0_letRain_88, dX0_letRain_89, dX0_letRain_92, dX0_letRain_95, dX0_letRain_98, dX0_letRain_101, w_flk0_115, w_flk0_120, w_flk0_29, w_flk0_33, w_flk0_36, w_flk0_40, w_flk0_48, w_kd_4, w_rf_4_0, w_rf_4_1, w_rf_4_2, w_rf_4_3, w_rf_4_4, w_rf_4_5, w_kd_5, w_ln_5, w_kd_93, w_rf_93_0, w_rf_93_1, w_rf_93_2, w_rf_93_3, w_rf_93_4, w_rf_93_5, w_rf_93_6, w_rf_93_7, w_rf_93_8, w_kd_134, w_ln_134, lc0, lc1, p_J7_fill_d0a16, q_J7_fill_d0a16, s1])
  (repeat' (with_reducible (first | refine And.intro ?_ ?_ | intro _))) <;> (try (first | assumption | contradiction | exact Or.inl trivial | exact Or.inl rfl | exact Or.inr rfl | (simp only [inI, inL]; omega) | omega))
  all_goals exact e
/-- the ways that go on, where each state ends, and what it costs -/
def dwF (sh : Nat → Int) (nd : Int) (b : Nat → Int) (s : Nat) : Int := if nd ≠ 0 ∧ 0 < sh s then 0 else b s
def enF (e : Nat → Int) (s : Nat) : Nat := (2 * e s + (s % 2 : Nat)).toNat
def drY (e sh : Nat → Int) (nd : Int) (b : Nat → Int) (t s : Nat) : Int := if enF e s = t then dwF sh nd b s else 0
def drF (e sh : Nat → Int) (nd : Int) (b : Nat → Int) (N t : Nat) : Int := sm (drY e sh nd b t) N
def drC (c sh : Nat → Int) (nd : Int) (b : Nat → Int) (N : Nat) : Int := sm (fun s => dwF sh nd b s * c s) N
def p_X0_draw (S : wW) : List wV → wW → Prop := fun av w => match av with
  | [.inr (.inr (some this)), .inl m, .inl nd] => this = 93 ∧ hR S ∧ hX S w ∧ (0 ≤ m ∧ m < 12) ∧ inI nd ∧ ∀ s, s < nSt S → (0 ≤ w 134 s ∧ w 134 s ≤ 68719476736) ∧ (0 ≤ w (95 + m.toNat) s ∧ w (95 + m.toNat) s ≤ S 0 1) ∧ inI (w (108 + m.toNat) s) ∧ inI (w (121 + m.toNat) s)
  | _ => False
theorem h_X0_draw (S : wW) : ∀ av w, (p_X0_draw S) av w → ∃ a r, av = vr a :: r ∧ w_kd a = 100 + 0 := by
  intro av w h
  unfold p_X0_draw at h
  split at h
  · refine ⟨_, _, rfl, ?_⟩
    first | (rw [h.1]; rfl) | (rw [h]; rfl)
  · exact h.elim
def q_X0_draw (S : wW) : List wV → wW → Int → wW → Prop := fun av w r w' => match av with
  | [.inr (.inr (some this)), .inl m, .inl nd] => (∀ k i, k ≠ 133 → w' k i = w k i) ∧ (∀ t, t < 402 → w' 133 t = drF (w (95 + m.toNat)) (w (108 + m.toNat)) nd (w 134) (nSt S) t) ∧ r = drC (w (121 + m.toNat)) (w (108 + m.toNat)) nd (w 134) (nSt S)
  | _ => False
def drV (w : wW) (m : Nat) (nd : Int) (n : Nat) (w1 : wW) : Prop := (∀ k i, k ≠ 133 → w1 k i = w k i) ∧ ∀ t, t < 402 → w1 133 t = drF (w (95 + m)) (w (108 + m)) nd (w 134) n t
set_option maxRecDepth 100000 in
set_option maxHeartbeats 4000000 in
theorem c_X0_draw (S : wW) : w_Ct yX0_draw cX0_draw 12 2 1 24 (p_X0_draw S) (q_X0_draw S) := by
  refine w_met (own := RX0) (fl := w_fl0) (gs := w_gs0) (kl := w_kl0) (ki := w_ki0) (cs := [(105, (1, 2, 0, p_J7_fill_d0a16, q_J7_fill_d0a16))]) (by decide +kernel) rfl ?_ w_flok0 w_gsok0 w_klok0 w_kiok0 ?_ ?_
  · intro av w h
    unfold p_X0_draw at h
    split at h
    · simp [w_pos, w_cat]
    · exact h.elim
  · exact List.forall_mem_cons.mpr ⟨⟨_, _, w_callS (own := RX0) (idx := 105) c_J7_fill_d0a16 (w_m3 239 (by decide +kernel) (by decide +kernel)) (w_m3 105 (by decide +kernel) (by decide +kernel)) (w_m1 7 (by decide +kernel) (by decide +kernel)) (w_m3 106 (by decide +kernel) (by decide +kernel)) ⟨by decide +kernel, by decide +kernel, by decide +kernel⟩, by decide, by decide⟩, fun _ h => absurd h List.not_mem_nil⟩
  intro av w hp
  unfold p_X0_draw at hp
  split at hp
  case h_2 => exact hp.elim
  rename_i this m nd
  intro G hG
  simp only [w_ent, w_pos, w_cat, Nat.reduceEqDiff, ↓reduceIte, List.length_cons, List.length_nil, Nat.reduceAdd, Nat.reduceSub, List.cons_append, List.nil_append, List.replicate_succ, List.replicate_zero]
  obtain ⟨rfl, hS, hXw, hm, hnd, hb⟩ := hp
  obtain ⟨m, rfl⟩ : ∃ n : Nat, m = n := ⟨m.toNat, by omega⟩
  simp only [Int.toNat_natCast] at hb
  have hSz := hS.2.2.1
  obtain ⟨sz, hsz⟩ : ∃ n : Nat, S 0 1 = n := ⟨(S 0 1).toNat, by omega⟩
  have hns : nSt S = 2 * sz + 2 := by unfold nSt; omega
  have s1 : wfl w 133 402 0 5 1 = sz := by rw [wfl_x (by decide), ← hsz]; exact hXw.2.1 1 (by decide)
  have kw := (w_kdw (m := m) (by omega)).2
  have loop : ∀ d n : Nat, n + d = 2 * sz + 2 → ∀ w1, drV w m nd n w1 → ∀ x10 x11 : Option wV, G 52 [some (vr 93), some (vi m), some (vi nd), some (vi (2 * ((sz : Int) + 1))), some (vr (95 + m)), some (vr (121 + m)), some (vr (108 + m)), some (vl (drC (w (121 + m)) (w (108 + m)) nd (w 134) n)), none, some (vi n), x10, x11] [] w1 := by
    intro d
    induction d with
    | zero =>
      intro n hn w1 hw1 x10 x11
      have e : n = 2 * sz + 2 := by omega
      (apply hG [52] 2000; simp only [w_br_i, w_ite, w_all, w_all0, forall_eq, w_b0, w_b1, ↓reduceIte, w_ent, w_pos, List.replicate_succ, List.replicate_zero, wp_s, wk_s, w_lk_c, w_ld0, w_ldS, w_kp0, w_kp, w_s1, w_s2, w_to, w_if, w_call, w_sw, w_cat, w_cats, w_psh, w_fv, List.contains_cons, List.contains_nil, List.set_cons_zero, List.set_cons_succ, List.length_cons, List.length_nil, List.find?_cons, List.find?_nil, List.take_succ_cons, List.take_zero, List.drop_succ_cons, List.drop_zero, List.reverse_cons, List.reverse_nil, List.nil_append, List.cons_append, Option.map_some, Option.map_none, Nat.reduceAdd, Nat.reduceBEq, Nat.reduceEqDiff, Nat.reduceLT, Nat.reduceLeDiff, Nat.reduceSub, Int.reduceAdd, Int.reduceSub, Int.reduceMul, Int.reduceNeg, Int.reduceToNat, Int.reduceLT, Int.reduceLE, Int.reduceEq, Bool.false_eq_true, Bool.or_false, Bool.false_or, Bool.true_or, Bool.or_true, if_true, if_false, ite_true, ite_false, true_and, and_true, false_and, and_false, true_or, or_true, false_or, or_false, Int.cast_ofNat_Int, Int.toNat_natCast, Int.natCast_add, List.getElem?_cons_zero, List.getElem?_cons_succ, true_implies, forall_const, not_true_eq_false, not_false_eq_true, ne_eq, beq_iff_eq, imp_self, List.length_set, Nat.zero_add, Nat.add_zero, Int.zero_add, Int.add_zero, w1_aload_n_0, w1_getfield, w1_lconst, w1_invokestatic, w1_iconst, w1_iaload, w1_iadd, w1_imul, w1_istore_n_3, w1_iload_n_1, w1_aaload, w1_astore, w1_lstore, w1_istore, w1_iload, w1_iload_n_3, w1_if_icmp, w1_laload, w1_lload, w1_lcmp, w1_ifCond, w1_iload_n_2, w1_aload, w1_iand, w1_dup2, w1_dup2i, w1_dup2r, w1_ladd, w1_lastore, w1_i2l, w1_lmul, w1_iinc, w1_goto, w1_lreturn, dX0_draw_0, dX0_draw_1, dX0_draw_4, dX0_draw_5, dX0_draw_8, dX0_draw_9, dX0_draw_10, dX0_draw_13, dX0_draw_16, dX0_draw_17, dX0_draw_18, dX0_draw_19, dX0_draw_20, dX0_draw_21, dX0_draw_22, dX0_draw_23, dX0_draw_26, dX0_draw_27, dX0_draw_28, dX0_draw_30, dX0_draw_31, dX0_draw_34, dX0_draw_35, dX0_draw_36, dX0_draw_38, dX0_draw_39, dX0_draw_42, dX0_draw_43, dX0_draw_44, dX0_draw_46, dX0_draw_47, dX0_draw_49, dX0_draw_50, dX0_draw_52, dX0_draw_54, dX0_draw_55, dX0_draw_58, dX0_draw_59, dX0_draw_62, dX0_draw_64, dX0_draw_65, dX0_draw_67, dX0_draw_69, dX0_draw_70, dX0_draw_71, dX0_draw_74, dX0_draw_75, dX0_draw_78, dX0_draw_80, dX0_draw_82, dX0_draw_83, dX0_draw_86, dX0_draw_87, dX0_draw_90, dX0_draw_91, dX0_draw_93, dX0_draw_95, dX0_draw_96, dX0_draw_97, dX0_draw_99, dX0_draw_100, dX0_draw_101, dX0_draw_102, dX0_draw_103, dX0_draw_104, dX0_draw_106, dX0_draw_107, dX0_draw_108, dX0_draw_110, dX0_draw_112, dX0_draw_114, dX0_draw_116, dX0_draw_117, dX0_draw_118, dX0_draw_119, dX0_draw_120, dX0_draw_122, dX0_draw_125, dX0_draw_128, dX0_draw_130, w_flk0_20, w_flk0_23, w_flk0_26, w_flk0_29, w_flk0_33, w_flk0_36, w_flk0_48, w_kd_93, w_rf_93_0, w_rf_93_1, w_rf_93_2, w_rf_93_3, w_rf_93_4, w_rf_93_5, w_rf_93_6, w_rf_93_7, w_rf_93_8, lc0, lc1])
      (repeat' (with_reducible (first | refine And.intro ?_ ?_ | intro _))) <;> (try (first | assumption | contradiction | exact Or.inl trivial | exact Or.inl rfl | exact Or.inr rfl | (simp only [inI, inL]; omega) | omega))
      all_goals first
        | (simp only [q_X0_draw, Int.toNat_natCast, hns, ← e]; exact ⟨hw1.1, hw1.2, by first | rfl | trivial⟩)
        | (exfalso; omega)
    | succ d ih =>
      intro n hn w1 hw1 x10 x11
      obtain ⟨b1, b2, b3, b4⟩ := hb n (by omega)
      have h134 : w1 134 n = w 134 n := hw1.1 134 n (by decide)
      have h95 : w1 (95 + m) n = w (95 + m) n := hw1.1 _ n (by omega)
      have h108 : w1 (108 + m) n = w (108 + m) n := hw1.1 _ n (by omega)
      have h121 : w1 (121 + m) n = w (121 + m) n := hw1.1 _ n (by omega)
      have h121u : ∀ i v, w_up w1 133 i v (121 + m) n = w (121 + m) n := fun i v => by rw [up_k (by omega)]; exact h121
      have hcm := w_cmp_r (w 134 n) 0
      have ha1 := w_and1 (x := (n : Int)) (by omega) (by omega)
      have hen : (2 * w (95 + m) n + (n : Int) % 2).toNat = enF (w (95 + m)) n := by unfold enF; omega
      have henr : enF (w (95 + m)) n < 402 := by unfold enF; omega
      have stay : dwF (w (108 + m)) nd (w 134) n = 0 → G 122 [some (vr 93), some (vi m), some (vi nd), some (vi (2 * ((sz : Int) + 1))), some (vr (95 + m)), some (vr (121 + m)), some (vr (108 + m)), some (vl (drC (w (121 + m)) (w (108 + m)) nd (w 134) n)), none, some (vi n), some (vl (w 134 n)), none] [] w1 := by
        intro h0
        have e := ih (n + 1) (by omega) w1 ⟨hw1.1, fun t ht => by
          rw [hw1.2 t ht]
          unfold drF
          simp only [sm]
          have : drY (w (95 + m)) (w (108 + m)) nd (w 134) t n = 0 := by unfold drY; rw [h0]; split <;> rfl
          omega⟩ (some (vl (w 134 n))) none
        have ec : drC (w (121 + m)) (w (108 + m)) nd (w 134) (n + 1) = drC (w (121 + m)) (w (108 + m)) nd (w 134) n := by
          unfold drC
          simp only [sm]
          rw [h0]; omega
        rw [ec] at e
        simp only [Int.natCast_add, Int.cast_ofNat_Int] at e
        (apply hG [52] 2000; simp only [w_br_i, w_ite, w_all, w_all0, forall_eq, w_b0, w_b1, ↓reduceIte, w_ent, w_pos, List.replicate_succ, List.replicate_zero, wp_s, wk_s, w_lk_c, w_ld0, w_ldS, w_kp0, w_kp, w_s1, w_s2, w_to, w_if, w_call, w_sw, w_cat, w_cats, w_psh, w_fv, List.contains_cons, List.contains_nil, List.set_cons_zero, List.set_cons_succ, List.length_cons, List.length_nil, List.find?_cons, List.find?_nil, List.take_succ_cons, List.take_zero, List.drop_succ_cons, List.drop_zero, List.reverse_cons, List.reverse_nil, List.nil_append, List.cons_append, Option.map_some, Option.map_none, Nat.reduceAdd, Nat.reduceBEq, Nat.reduceEqDiff, Nat.reduceLT, Nat.reduceLeDiff, Nat.reduceSub, Int.reduceAdd, Int.reduceSub, Int.reduceMul, Int.reduceNeg, Int.reduceToNat, Int.reduceLT, Int.reduceLE, Int.reduceEq, Bool.false_eq_true, Bool.or_false, Bool.false_or, Bool.true_or, Bool.or_true, if_true, if_false, ite_true, ite_false, true_and, and_true, false_and, and_false, true_or, or_true, false_or, or_false, Int.cast_ofNat_Int, Int.toNat_natCast, Int.natCast_add, List.getElem?_cons_zero, List.getElem?_cons_succ, true_implies, forall_const, not_true_eq_false, not_false_eq_true, ne_eq, beq_iff_eq, imp_self, List.length_set, Nat.zero_add, Nat.add_zero, Int.zero_add, Int.add_zero, w1_aload_n_0, w1_getfield, w1_lconst, w1_invokestatic, w1_iconst, w1_iaload, w1_iadd, w1_imul, w1_istore_n_3, w1_iload_n_1, w1_aaload, w1_astore, w1_lstore, w1_istore, w1_iload, w1_iload_n_3, w1_if_icmp, w1_laload, w1_lload, w1_lcmp, w1_ifCond, w1_iload_n_2, w1_aload, w1_iand, w1_dup2, w1_dup2i, w1_dup2r, w1_ladd, w1_lastore, w1_i2l, w1_lmul, w1_iinc, w1_goto, w1_lreturn, dX0_draw_0, dX0_draw_1, dX0_draw_4, dX0_draw_5, dX0_draw_8, dX0_draw_9, dX0_draw_10, dX0_draw_13, dX0_draw_16, dX0_draw_17, dX0_draw_18, dX0_draw_19, dX0_draw_20, dX0_draw_21, dX0_draw_22, dX0_draw_23, dX0_draw_26, dX0_draw_27, dX0_draw_28, dX0_draw_30, dX0_draw_31, dX0_draw_34, dX0_draw_35, dX0_draw_36, dX0_draw_38, dX0_draw_39, dX0_draw_42, dX0_draw_43, dX0_draw_44, dX0_draw_46, dX0_draw_47, dX0_draw_49, dX0_draw_50, dX0_draw_52, dX0_draw_54, dX0_draw_55, dX0_draw_58, dX0_draw_59, dX0_draw_62, dX0_draw_64, dX0_draw_65, dX0_draw_67, dX0_draw_69, dX0_draw_70, dX0_draw_71, dX0_draw_74, dX0_draw_75, dX0_draw_78, dX0_draw_80, dX0_draw_82, dX0_draw_83, dX0_draw_86, dX0_draw_87, dX0_draw_90, dX0_draw_91, dX0_draw_93, dX0_draw_95, dX0_draw_96, dX0_draw_97, dX0_draw_99, dX0_draw_100, dX0_draw_101, dX0_draw_102, dX0_draw_103, dX0_draw_104, dX0_draw_106, dX0_draw_107, dX0_draw_108, dX0_draw_110, dX0_draw_112, dX0_draw_114, dX0_draw_116, dX0_draw_117, dX0_draw_118, dX0_draw_119, dX0_draw_120, dX0_draw_122, dX0_draw_125, dX0_draw_128, dX0_draw_130, w_flk0_20, w_flk0_23, w_flk0_26, w_flk0_29, w_flk0_33, w_flk0_36, w_flk0_48, w_kd_93, w_rf_93_0, w_rf_93_1, w_rf_93_2, w_rf_93_3, w_rf_93_4, w_rf_93_5, w_rf_93_6, w_rf_93_7, w_rf_93_8, lc0, lc1])
        exact e
      have goes : dwF (w (108 + m)) nd (w 134) n = w 134 n → G 86 [some (vr 93), some (vi m), some (vi nd), some (vi (2 * ((sz : Int) + 1))), some (vr (95 + m)), some (vr (121 + m)), some (vr (108 + m)), some (vl (drC (w (121 + m)) (w (108 + m)) nd (w 134) n)), none, some (vi n), some (vl (w 134 n)), none] [] w1 := by
        intro h0
        have e := ih (n + 1) (by omega) (w_up w1 133 (enF (w (95 + m)) n) (w1 133 (enF (w (95 + m)) n) + w 134 n)) ⟨fun k i hk => by rw [up_k hk]; exact hw1.1 k i hk, fun t ht => by
          unfold drF
          simp only [sm]
          by_cases c : enF (w (95 + m)) n = t
          · have : drY (w (95 + m)) (w (108 + m)) nd (w 134) t n = w 134 n := by unfold drY; rw [if_pos c, h0]
            rw [this, c, up_eq, hw1.2 t ht]
            rfl
          · have : drY (w (95 + m)) (w (108 + m)) nd (w 134) t n = 0 := by unfold drY; rw [if_neg c]
            rw [this, up_ne (by omega), hw1.2 t ht, Int.add_zero]
            rfl⟩ (some (vl (w 134 n))) none
        have ec : drC (w (121 + m)) (w (108 + m)) nd (w 134) (n + 1) = drC (w (121 + m)) (w (108 + m)) nd (w 134) n + w 134 n * w (121 + m) n := by
          unfold drC
          simp only [sm]
          rw [h0]
        rw [ec] at e
        simp only [Int.natCast_add, Int.cast_ofNat_Int] at e
        (apply hG [52] 2000; simp only [w_br_i, w_ite, w_all, w_all0, forall_eq, w_b0, w_b1, ↓reduceIte, w_ent, w_pos, List.replicate_succ, List.replicate_zero, wp_s, wk_s, w_lk_c, w_ld0, w_ldS, w_kp0, w_kp, w_s1, w_s2, w_to, w_if, w_call, w_sw, w_cat, w_cats, w_psh, w_fv, List.contains_cons, List.contains_nil, List.set_cons_zero, List.set_cons_succ, List.length_cons, List.length_nil, List.find?_cons, List.find?_nil, List.take_succ_cons, List.take_zero, List.drop_succ_cons, List.drop_zero, List.reverse_cons, List.reverse_nil, List.nil_append, List.cons_append, Option.map_some, Option.map_none, Nat.reduceAdd, Nat.reduceBEq, Nat.reduceEqDiff, Nat.reduceLT, Nat.reduceLeDiff, Nat.reduceSub, Int.reduceAdd, Int.reduceSub, Int.reduceMul, Int.reduceNeg, Int.reduceToNat, Int.reduceLT, Int.reduceLE, Int.reduceEq, Bool.false_eq_true, Bool.or_false, Bool.false_or, Bool.true_or, Bool.or_true, if_true, if_false, ite_true, ite_false, true_and, and_true, false_and, and_false, true_or, or_true, false_or, or_false, Int.cast_ofNat_Int, Int.toNat_natCast, Int.natCast_add, List.getElem?_cons_zero, List.getElem?_cons_succ, true_implies, forall_const, not_true_eq_false, not_false_eq_true, ne_eq, beq_iff_eq, imp_self, List.length_set, Nat.zero_add, Nat.add_zero, Int.zero_add, Int.add_zero, w1_aload_n_0, w1_getfield, w1_lconst, w1_invokestatic, w1_iconst, w1_iaload, w1_iadd, w1_imul, w1_istore_n_3, w1_iload_n_1, w1_aaload, w1_astore, w1_lstore, w1_istore, w1_iload, w1_iload_n_3, w1_if_icmp, w1_laload, w1_lload, w1_lcmp, w1_ifCond, w1_iload_n_2, w1_aload, w1_iand, w1_dup2, w1_dup2i, w1_dup2r, w1_ladd, w1_lastore, w1_i2l, w1_lmul, w1_iinc, w1_goto, w1_lreturn, dX0_draw_0, dX0_draw_1, dX0_draw_4, dX0_draw_5, dX0_draw_8, dX0_draw_9, dX0_draw_10, dX0_draw_13, dX0_draw_16, dX0_draw_17, dX0_draw_18, dX0_draw_19, dX0_draw_20, dX0_draw_21, dX0_draw_22, dX0_draw_23, dX0_draw_26, dX0_draw_27, dX0_draw_28, dX0_draw_30, dX0_draw_31, dX0_draw_34, dX0_draw_35, dX0_draw_36, dX0_draw_38, dX0_draw_39, dX0_draw_42, dX0_draw_43, dX0_draw_44, dX0_draw_46, dX0_draw_47, dX0_draw_49, dX0_draw_50, dX0_draw_52, dX0_draw_54, dX0_draw_55, dX0_draw_58, dX0_draw_59, dX0_draw_62, dX0_draw_64, dX0_draw_65, dX0_draw_67, dX0_draw_69, dX0_draw_70, dX0_draw_71, dX0_draw_74, dX0_draw_75, dX0_draw_78, dX0_draw_80, dX0_draw_82, dX0_draw_83, dX0_draw_86, dX0_draw_87, dX0_draw_90, dX0_draw_91, dX0_draw_93, dX0_draw_95, dX0_draw_96, dX0_draw_97, dX0_draw_99, dX0_draw_100, dX0_draw_101, dX0_draw_102, dX0_draw_103, dX0_draw_104, dX0_draw_106, dX0_draw_107, dX0_draw_108, dX0_draw_110, dX0_draw_112, dX0_draw_114, dX0_draw_116, dX0_draw_117, dX0_draw_118, dX0_draw_119, dX0_draw_120, dX0_draw_122, dX0_draw_125, dX0_draw_128, dX0_draw_130, w_flk0_20, w_flk0_23, w_flk0_26, w_flk0_29, w_flk0_33, w_flk0_36, w_flk0_48, w_kd_93, w_rf_93_0, w_rf_93_1, w_rf_93_2, w_rf_93_3, w_rf_93_4, w_rf_93_5, w_rf_93_6, w_rf_93_7, w_rf_93_8, w_kd_133, w_ln_133, lc0, lc1, kw.1.1, kw.1.2, kw.2.2.1, kw.2.2.2, h95, h121, h121u, ha1, hen])
        (repeat' (with_reducible (first | refine And.intro ?_ ?_ | intro _))) <;> (try (first | assumption | contradiction | exact Or.inl trivial | exact Or.inl rfl | exact Or.inr rfl | (simp only [inI, inL]; omega) | omega))
      by_cases c0 : 0 < w 134 n
      · by_cases cn : nd = 0
        · have h0 : dwF (w (108 + m)) nd (w 134) n = w 134 n := by unfold dwF; rw [if_neg (by omega)]
          (apply hG [52, 86, 122] 2000; simp only [w_br_i, w_ite, w_all, w_all0, forall_eq, w_b0, w_b1, ↓reduceIte, w_ent, w_pos, List.replicate_succ, List.replicate_zero, wp_s, wk_s, w_lk_c, w_ld0, w_ldS, w_kp0, w_kp, w_s1, w_s2, w_to, w_if, w_call, w_sw, w_cat, w_cats, w_psh, w_fv, List.contains_cons, List.contains_nil, List.set_cons_zero, List.set_cons_succ, List.length_cons, List.length_nil, List.find?_cons, List.find?_nil, List.take_succ_cons, List.take_zero, List.drop_succ_cons, List.drop_zero, List.reverse_cons, List.reverse_nil, List.nil_append, List.cons_append, Option.map_some, Option.map_none, Nat.reduceAdd, Nat.reduceBEq, Nat.reduceEqDiff, Nat.reduceLT, Nat.reduceLeDiff, Nat.reduceSub, Int.reduceAdd, Int.reduceSub, Int.reduceMul, Int.reduceNeg, Int.reduceToNat, Int.reduceLT, Int.reduceLE, Int.reduceEq, Bool.false_eq_true, Bool.or_false, Bool.false_or, Bool.true_or, Bool.or_true, if_true, if_false, ite_true, ite_false, true_and, and_true, false_and, and_false, true_or, or_true, false_or, or_false, Int.cast_ofNat_Int, Int.toNat_natCast, Int.natCast_add, List.getElem?_cons_zero, List.getElem?_cons_succ, true_implies, forall_const, not_true_eq_false, not_false_eq_true, ne_eq, beq_iff_eq, imp_self, List.length_set, Nat.zero_add, Nat.add_zero, Int.zero_add, Int.add_zero, w1_aload_n_0, w1_getfield, w1_lconst, w1_invokestatic, w1_iconst, w1_iaload, w1_iadd, w1_imul, w1_istore_n_3, w1_iload_n_1, w1_aaload, w1_astore, w1_lstore, w1_istore, w1_iload, w1_iload_n_3, w1_if_icmp, w1_laload, w1_lload, w1_lcmp, w1_ifCond, w1_iload_n_2, w1_aload, w1_iand, w1_dup2, w1_dup2i, w1_dup2r, w1_ladd, w1_lastore, w1_i2l, w1_lmul, w1_iinc, w1_goto, w1_lreturn, dX0_draw_0, dX0_draw_1, dX0_draw_4, dX0_draw_5, dX0_draw_8, dX0_draw_9, dX0_draw_10, dX0_draw_13, dX0_draw_16, dX0_draw_17, dX0_draw_18, dX0_draw_19, dX0_draw_20, dX0_draw_21, dX0_draw_22, dX0_draw_23, dX0_draw_26, dX0_draw_27, dX0_draw_28, dX0_draw_30, dX0_draw_31, dX0_draw_34, dX0_draw_35, dX0_draw_36, dX0_draw_38, dX0_draw_39, dX0_draw_42, dX0_draw_43, dX0_draw_44, dX0_draw_46, dX0_draw_47, dX0_draw_49, dX0_draw_50, dX0_draw_52, dX0_draw_54, dX0_draw_55, dX0_draw_58, dX0_draw_59, dX0_draw_62, dX0_draw_64, dX0_draw_65, dX0_draw_67, dX0_draw_69, dX0_draw_70, dX0_draw_71, dX0_draw_74, dX0_draw_75, dX0_draw_78, dX0_draw_80, dX0_draw_82, dX0_draw_83, dX0_draw_86, dX0_draw_87, dX0_draw_90, dX0_draw_91, dX0_draw_93, dX0_draw_95, dX0_draw_96, dX0_draw_97, dX0_draw_99, dX0_draw_100, dX0_draw_101, dX0_draw_102, dX0_draw_103, dX0_draw_104, dX0_draw_106, dX0_draw_107, dX0_draw_108, dX0_draw_110, dX0_draw_112, dX0_draw_114, dX0_draw_116, dX0_draw_117, dX0_draw_118, dX0_draw_119, dX0_draw_120, dX0_draw_122, dX0_draw_125, dX0_draw_128, dX0_draw_130, w_flk0_20, w_flk0_23, w_flk0_26, w_flk0_29, w_flk0_33, w_flk0_36, w_flk0_48, w_kd_93, w_rf_93_0, w_rf_93_1, w_rf_93_2, w_rf_93_3, w_rf_93_4, w_rf_93_5, w_rf_93_6, w_rf_93_7, w_rf_93_8, w_kd_134, w_ln_134, lc0, lc1, h134, kw.2.1.1, kw.2.1.2, h108])
          (repeat' (with_reducible (first | refine And.intro ?_ ?_ | intro _)))
          all_goals first
            | omega
            | exact goes h0
            | (exfalso; omega)
        · by_cases cs : 0 < w (108 + m) n
          · have h0 : dwF (w (108 + m)) nd (w 134) n = 0 := by unfold dwF; rw [if_pos ⟨cn, cs⟩]
            (apply hG [52, 86, 122] 2000; simp only [w_br_i, w_ite, w_all, w_all0, forall_eq, w_b0, w_b1, ↓reduceIte, w_ent, w_pos, List.replicate_succ, List.replicate_zero, wp_s, wk_s, w_lk_c, w_ld0, w_ldS, w_kp0, w_kp, w_s1, w_s2, w_to, w_if, w_call, w_sw, w_cat, w_cats, w_psh, w_fv, List.contains_cons, List.contains_nil, List.set_cons_zero, List.set_cons_succ, List.length_cons, List.length_nil, List.find?_cons, List.find?_nil, List.take_succ_cons, List.take_zero, List.drop_succ_cons, List.drop_zero, List.reverse_cons, List.reverse_nil, List.nil_append, List.cons_append, Option.map_some, Option.map_none, Nat.reduceAdd, Nat.reduceBEq, Nat.reduceEqDiff, Nat.reduceLT, Nat.reduceLeDiff, Nat.reduceSub, Int.reduceAdd, Int.reduceSub, Int.reduceMul, Int.reduceNeg, Int.reduceToNat, Int.reduceLT, Int.reduceLE, Int.reduceEq, Bool.false_eq_true, Bool.or_false, Bool.false_or, Bool.true_or, Bool.or_true, if_true, if_false, ite_true, ite_false, true_and, and_true, false_and, and_false, true_or, or_true, false_or, or_false, Int.cast_ofNat_Int, Int.toNat_natCast, Int.natCast_add, List.getElem?_cons_zero, List.getElem?_cons_succ, true_implies, forall_const, not_true_eq_false, not_false_eq_true, ne_eq, beq_iff_eq, imp_self, List.length_set, Nat.zero_add, Nat.add_zero, Int.zero_add, Int.add_zero, w1_aload_n_0, w1_getfield, w1_lconst, w1_invokestatic, w1_iconst, w1_iaload, w1_iadd, w1_imul, w1_istore_n_3, w1_iload_n_1, w1_aaload, w1_astore, w1_lstore, w1_istore, w1_iload, w1_iload_n_3, w1_if_icmp, w1_laload, w1_lload, w1_lcmp, w1_ifCond, w1_iload_n_2, w1_aload, w1_iand, w1_dup2, w1_dup2i, w1_dup2r, w1_ladd, w1_lastore, w1_i2l, w1_lmul, w1_iinc, w1_goto, w1_lreturn, dX0_draw_0, dX0_draw_1, dX0_draw_4, dX0_draw_5, dX0_draw_8, dX0_draw_9, dX0_draw_10, dX0_draw_13, dX0_draw_16, dX0_draw_17, dX0_draw_18, dX0_draw_19, dX0_draw_20, dX0_draw_21, dX0_draw_22, dX0_draw_23, dX0_draw_26, dX0_draw_27, dX0_draw_28, dX0_draw_30, dX0_draw_31, dX0_draw_34, dX0_draw_35, dX0_draw_36, dX0_draw_38, dX0_draw_39, dX0_draw_42, dX0_draw_43, dX0_draw_44, dX0_draw_46, dX0_draw_47, dX0_draw_49, dX0_draw_50, dX0_draw_52, dX0_draw_54, dX0_draw_55, dX0_draw_58, dX0_draw_59, dX0_draw_62, dX0_draw_64, dX0_draw_65, dX0_draw_67, dX0_draw_69, dX0_draw_70, dX0_draw_71, dX0_draw_74, dX0_draw_75, dX0_draw_78, dX0_draw_80, dX0_draw_82, dX0_draw_83, dX0_draw_86, dX0_draw_87, dX0_draw_90, dX0_draw_91, dX0_draw_93, dX0_draw_95, dX0_draw_96, dX0_draw_97, dX0_draw_99, dX0_draw_100, dX0_draw_101, dX0_draw_102, dX0_draw_103, dX0_draw_104, dX0_draw_106, dX0_draw_107, dX0_draw_108, dX0_draw_110, dX0_draw_112, dX0_draw_114, dX0_draw_116, dX0_draw_117, dX0_draw_118, dX0_draw_119, dX0_draw_120, dX0_draw_122, dX0_draw_125, dX0_draw_128, dX0_draw_130, w_flk0_20, w_flk0_23, w_flk0_26, w_flk0_29, w_flk0_33, w_flk0_36, w_flk0_48, w_kd_93, w_rf_93_0, w_rf_93_1, w_rf_93_2, w_rf_93_3, w_rf_93_4, w_rf_93_5, w_rf_93_6, w_rf_93_7, w_rf_93_8, w_kd_134, w_ln_134, lc0, lc1, h134, kw.2.1.1, kw.2.1.2, h108])
            (repeat' (with_reducible (first | refine And.intro ?_ ?_ | intro _)))
            all_goals first
            | omega
              | exact stay h0
              | (exfalso; omega)
          · have h0 : dwF (w (108 + m)) nd (w 134) n = w 134 n := by unfold dwF; rw [if_neg (fun q => cs q.2)]
            (apply hG [52, 86, 122] 2000; simp only [w_br_i, w_ite, w_all, w_all0, forall_eq, w_b0, w_b1, ↓reduceIte, w_ent, w_pos, List.replicate_succ, List.replicate_zero, wp_s, wk_s, w_lk_c, w_ld0, w_ldS, w_kp0, w_kp, w_s1, w_s2, w_to, w_if, w_call, w_sw, w_cat, w_cats, w_psh, w_fv, List.contains_cons, List.contains_nil, List.set_cons_zero, List.set_cons_succ, List.length_cons, List.length_nil, List.find?_cons, List.find?_nil, List.take_succ_cons, List.take_zero, List.drop_succ_cons, List.drop_zero, List.reverse_cons, List.reverse_nil, List.nil_append, List.cons_append, Option.map_some, Option.map_none, Nat.reduceAdd, Nat.reduceBEq, Nat.reduceEqDiff, Nat.reduceLT, Nat.reduceLeDiff, Nat.reduceSub, Int.reduceAdd, Int.reduceSub, Int.reduceMul, Int.reduceNeg, Int.reduceToNat, Int.reduceLT, Int.reduceLE, Int.reduceEq, Bool.false_eq_true, Bool.or_false, Bool.false_or, Bool.true_or, Bool.or_true, if_true, if_false, ite_true, ite_false, true_and, and_true, false_and, and_false, true_or, or_true, false_or, or_false, Int.cast_ofNat_Int, Int.toNat_natCast, Int.natCast_add, List.getElem?_cons_zero, List.getElem?_cons_succ, true_implies, forall_const, not_true_eq_false, not_false_eq_true, ne_eq, beq_iff_eq, imp_self, List.length_set, Nat.zero_add, Nat.add_zero, Int.zero_add, Int.add_zero, w1_aload_n_0, w1_getfield, w1_lconst, w1_invokestatic, w1_iconst, w1_iaload, w1_iadd, w1_imul, w1_istore_n_3, w1_iload_n_1, w1_aaload, w1_astore, w1_lstore, w1_istore, w1_iload, w1_iload_n_3, w1_if_icmp, w1_laload, w1_lload, w1_lcmp, w1_ifCond, w1_iload_n_2, w1_aload, w1_iand, w1_dup2, w1_dup2i, w1_dup2r, w1_ladd, w1_lastore, w1_i2l, w1_lmul, w1_iinc, w1_goto, w1_lreturn, dX0_draw_0, dX0_draw_1, dX0_draw_4, dX0_draw_5, dX0_draw_8, dX0_draw_9, dX0_draw_10, dX0_draw_13, dX0_draw_16, dX0_draw_17, dX0_draw_18, dX0_draw_19, dX0_draw_20, dX0_draw_21, dX0_draw_22, dX0_draw_23, dX0_draw_26, dX0_draw_27, dX0_draw_28, dX0_draw_30, dX0_draw_31, dX0_draw_34, dX0_draw_35, dX0_draw_36, dX0_draw_38, dX0_draw_39, dX0_draw_42, dX0_draw_43, dX0_draw_44, dX0_draw_46, dX0_draw_47, dX0_draw_49, dX0_draw_50, dX0_draw_52, dX0_draw_54, dX0_draw_55, dX0_draw_58, dX0_draw_59, dX0_draw_62, dX0_draw_64, dX0_draw_65, dX0_draw_67, dX0_draw_69, dX0_draw_70, dX0_draw_71, dX0_draw_74, dX0_draw_75, dX0_draw_78, dX0_draw_80, dX0_draw_82, dX0_draw_83, dX0_draw_86, dX0_draw_87, dX0_draw_90, dX0_draw_91, dX0_draw_93, dX0_draw_95, dX0_draw_96, dX0_draw_97, dX0_draw_99, dX0_draw_100, dX0_draw_101, dX0_draw_102, dX0_draw_103, dX0_draw_104, dX0_draw_106, dX0_draw_107, dX0_draw_108, dX0_draw_110, dX0_draw_112, dX0_draw_114, dX0_draw_116, dX0_draw_117, dX0_draw_118, dX0_draw_119, dX0_draw_120, dX0_draw_122, dX0_draw_125, dX0_draw_128, dX0_draw_130, w_flk0_20, w_flk0_23, w_flk0_26, w_flk0_29, w_flk0_33, w_flk0_36, w_flk0_48, w_kd_93, w_rf_93_0, w_rf_93_1, w_rf_93_2, w_rf_93_3, w_rf_93_4, w_rf_93_5, w_rf_93_6, w_rf_93_7, w_rf_93_8, w_kd_134, w_ln_134, lc0, lc1, h134, kw.2.1.1, kw.2.1.2, h108])
            (repeat' (with_reducible (first | refine And.intro ?_ ?_ | intro _)))
            all_goals first
            | omega
              | exact goes h0
              | (exfalso; omega)
      · have h0 : dwF (w (108 + m)) nd (w 134) n = 0 := by unfold dwF; split <;> omega
        (apply hG [52, 74, 122] 2000; simp only [w_br_i, w_ite, w_all, w_all0, forall_eq, w_b0, w_b1, ↓reduceIte, w_ent, w_pos, List.replicate_succ, List.replicate_zero, wp_s, wk_s, w_lk_c, w_ld0, w_ldS, w_kp0, w_kp, w_s1, w_s2, w_to, w_if, w_call, w_sw, w_cat, w_cats, w_psh, w_fv, List.contains_cons, List.contains_nil, List.set_cons_zero, List.set_cons_succ, List.length_cons, List.length_nil, List.find?_cons, List.find?_nil, List.take_succ_cons, List.take_zero, List.drop_succ_cons, List.drop_zero, List.reverse_cons, List.reverse_nil, List.nil_append, List.cons_append, Option.map_some, Option.map_none, Nat.reduceAdd, Nat.reduceBEq, Nat.reduceEqDiff, Nat.reduceLT, Nat.reduceLeDiff, Nat.reduceSub, Int.reduceAdd, Int.reduceSub, Int.reduceMul, Int.reduceNeg, Int.reduceToNat, Int.reduceLT, Int.reduceLE, Int.reduceEq, Bool.false_eq_true, Bool.or_false, Bool.false_or, Bool.true_or, Bool.or_true, if_true, if_false, ite_true, ite_false, true_and, and_true, false_and, and_false, true_or, or_true, false_or, or_false, Int.cast_ofNat_Int, Int.toNat_natCast, Int.natCast_add, List.getElem?_cons_zero, List.getElem?_cons_succ, true_implies, forall_const, not_true_eq_false, not_false_eq_true, ne_eq, beq_iff_eq, imp_self, List.length_set, Nat.zero_add, Nat.add_zero, Int.zero_add, Int.add_zero, w1_aload_n_0, w1_getfield, w1_lconst, w1_invokestatic, w1_iconst, w1_iaload, w1_iadd, w1_imul, w1_istore_n_3, w1_iload_n_1, w1_aaload, w1_astore, w1_lstore, w1_istore, w1_iload, w1_iload_n_3, w1_if_icmp, w1_laload, w1_lload, w1_lcmp, w1_ifCond, w1_iload_n_2, w1_aload, w1_iand, w1_dup2, w1_dup2i, w1_dup2r, w1_ladd, w1_lastore, w1_i2l, w1_lmul, w1_iinc, w1_goto, w1_lreturn, dX0_draw_0, dX0_draw_1, dX0_draw_4, dX0_draw_5, dX0_draw_8, dX0_draw_9, dX0_draw_10, dX0_draw_13, dX0_draw_16, dX0_draw_17, dX0_draw_18, dX0_draw_19, dX0_draw_20, dX0_draw_21, dX0_draw_22, dX0_draw_23, dX0_draw_26, dX0_draw_27, dX0_draw_28, dX0_draw_30, dX0_draw_31, dX0_draw_34, dX0_draw_35, dX0_draw_36, dX0_draw_38, dX0_draw_39, dX0_draw_42, dX0_draw_43, dX0_draw_44, dX0_draw_46, dX0_draw_47, dX0_draw_49, dX0_draw_50, dX0_draw_52, dX0_draw_54, dX0_draw_55, dX0_draw_58, dX0_draw_59, dX0_draw_62, dX0_draw_64, dX0_draw_65, dX0_draw_67, dX0_draw_69, dX0_draw_70, dX0_draw_71, dX0_draw_74, dX0_draw_75, dX0_draw_78, dX0_draw_80, dX0_draw_82, dX0_draw_83, dX0_draw_86, dX0_draw_87, dX0_draw_90, dX0_draw_91, dX0_draw_93, dX0_draw_95, dX0_draw_96, dX0_draw_97, dX0_draw_99, dX0_draw_100, dX0_draw_101, dX0_draw_102, dX0_draw_103, dX0_draw_104, dX0_draw_106, dX0_draw_107, dX0_draw_108, dX0_draw_110, dX0_draw_112, dX0_draw_114, dX0_draw_116, dX0_draw_117, dX0_draw_118, dX0_draw_119, dX0_draw_120, dX0_draw_122, dX0_draw_125, dX0_draw_128, dX0_draw_130, w_flk0_20, w_flk0_23, w_flk0_26, w_flk0_29, w_flk0_33, w_flk0_36, w_flk0_48, w_kd_93, w_rf_93_0, w_rf_93_1, w_rf_93_2, w_rf_93_3, w_rf_93_4, w_rf_93_5, w_rf_93_6, w_rf_93_7, w_rf_93_8, w_kd_134, w_ln_134, lc0, lc1, h134])
        (repeat' (with_reducible (first | refine And.intro ?_ ?_ | intro _))) <;> (try (first | assumption | contradiction | exact Or.inl trivial | exact Or.inl rfl | exact Or.inr rfl | (simp only [inI, inL]; omega) | omega))
        all_goals first
          | exact stay h0
          | (exfalso; omega)
  have e := loop (2 * sz + 2) 0 (by omega) (wfl w 133 402 0) ⟨fun k i hk => wfl_x hk, fun t ht => by rw [wfl_a ht]; rfl⟩ none none
  simp only [Int.cast_ofNat_Int] at e
  (apply hG [52] 2000; simp only [w_br_i, w_ite, w_all, w_all0, forall_eq, w_b0, w_b1, ↓reduceIte, w_ent, w_pos, List.replicate_succ, List.replicate_zero, wp_s, wk_s, w_lk_c, w_ld0, w_ldS, w_kp0, w_kp, w_s1, w_s2, w_to, w_if, w_call, w_sw, w_cat, w_cats, w_psh, w_fv, List.contains_cons, List.contains_nil, List.set_cons_zero, List.set_cons_succ, List.length_cons, List.length_nil, List.find?_cons, List.find?_nil, List.take_succ_cons, List.take_zero, List.drop_succ_cons, List.drop_zero, List.reverse_cons, List.reverse_nil, List.nil_append, List.cons_append, Option.map_some, Option.map_none, Nat.reduceAdd, Nat.reduceBEq, Nat.reduceEqDiff, Nat.reduceLT, Nat.reduceLeDiff, Nat.reduceSub, Int.reduceAdd, Int.reduceSub, Int.reduceMul, Int.reduceNeg, Int.reduceToNat, Int.reduceLT, Int.reduceLE, Int.reduceEq, Bool.false_eq_true, Bool.or_false, Bool.false_or, Bool.true_or, Bool.or_true, if_true, if_false, ite_true, ite_false, true_and, and_true, false_and, and_false, true_or, or_true, false_or, or_false, Int.cast_ofNat_Int, Int.toNat_natCast, Int.natCast_add, List.getElem?_cons_zero, List.getElem?_cons_succ, true_implies, forall_const, not_true_eq_false, not_false_eq_true, ne_eq, beq_iff_eq, imp_self, List.length_set, Nat.zero_add, Nat.add_zero, Int.zero_add, Int.add_zero, w1_aload_n_0, w1_getfield, w1_lconst, w1_invokestatic, w1_iconst, w1_iaload, w1_iadd, w1_imul, w1_istore_n_3, w1_iload_n_1, w1_aaload, w1_astore, w1_lstore, w1_istore, w1_iload, w1_iload_n_3, w1_if_icmp, w1_laload, w1_lload, w1_lcmp, w1_ifCond, w1_iload_n_2, w1_aload, w1_iand, w1_dup2, w1_dup2i, w1_dup2r, w1_ladd, w1_lastore, w1_i2l, w1_lmul, w1_iinc, w1_goto, w1_lreturn, dX0_draw_0, dX0_draw_1, dX0_draw_4, dX0_draw_5, dX0_draw_8, dX0_draw_9, dX0_draw_10, dX0_draw_13, dX0_draw_16, dX0_draw_17, dX0_draw_18, dX0_draw_19, dX0_draw_20, dX0_draw_21, dX0_draw_22, dX0_draw_23, dX0_draw_26, dX0_draw_27, dX0_draw_28, dX0_draw_30, dX0_draw_31, dX0_draw_34, dX0_draw_35, dX0_draw_36, dX0_draw_38, dX0_draw_39, dX0_draw_42, dX0_draw_43, dX0_draw_44, dX0_draw_46, dX0_draw_47, dX0_draw_49, dX0_draw_50, dX0_draw_52, dX0_draw_54, dX0_draw_55, dX0_draw_58, dX0_draw_59, dX0_draw_62, dX0_draw_64, dX0_draw_65, dX0_draw_67, dX0_draw_69, dX0_draw_70, dX0_draw_71, dX0_draw_74, dX0_draw_75, dX0_draw_78, dX0_draw_80, dX0_draw_82, dX0_draw_83, dX0_draw_86, dX0_draw_87, dX0_draw_90, dX0_draw_91, dX0_draw_93, dX0_draw_95, dX0_draw_96, dX0_draw_97, dX0_draw_99, dX0_draw_100, dX0_draw_101, dX0_draw_102, dX0_draw_103, dX0_draw_104, dX0_draw_106, dX0_draw_107, dX0_draw_108, dX0_draw_110, dX0_draw_112, dX0_draw_114, dX0_draw_116, dX0_draw_117, dX0_draw_118, dX0_draw_119, dX0_draw_120, dX0_draw_122, dX0_draw_125, dX0_draw_128, dX0_draw_130, w_flk0_20, w_flk0_23, w_flk0_26, w_flk0_29, w_flk0_33, w_flk0_36, w_flk0_48, w_kd_4, w_rf_4_0, w_rf_4_1, w_rf_4_2, w_rf_4_3, w_rf_4_4, w_rf_4_5, w_kd_5, w_ln_5, w_kd_93, w_rf_93_0, w_rf_93_1, w_rf_93_2, w_rf_93_3, w_rf_93_4, w_rf_93_5, w_rf_93_6, w_rf_93_7, w_rf_93_8, w_kd_94, w_ln_94, w_kd_107, w_ln_107, w_kd_120, w_ln_120, w_kd_133, w_ln_133, lc0, lc1, p_J7_fill_d0a16, q_J7_fill_d0a16, s1])
  (repeat' (with_reducible (first | refine And.intro ?_ ?_ | intro _))) <;> (try (first | assumption | contradiction | exact Or.inl trivial | exact Or.inl rfl | exact Or.inr rfl | (simp only [inI, inL]; omega) | omega))
  all_goals exact e
