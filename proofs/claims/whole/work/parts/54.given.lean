/-! the last of the least, and the first -/
theorem w_cmp_r (a b : Int) : (-1 ≤ w_cmp a b ∧ w_cmp a b ≤ 1) ∧ (0 < w_cmp a b ↔ b < a) ∧ (w_cmp a b < 0 ↔ a < b) := by
  unfold w_cmp
  (repeat' split) <;> omega
def amL (f : Nat → Int) : Nat → Nat
  | 0 => 0
  | n + 1 => if f (n + 1) ≤ f (amL f n) then n + 1 else amL f n
def amF (f : Nat → Int) : Nat → Nat
  | 0 => 0
  | n + 1 => if f (n + 1) < f (amF f n) then n + 1 else amF f n
theorem amL_le (f : Nat → Int) : ∀ n, amL f n ≤ n
  | 0 => Nat.le_refl _
  | n + 1 => by
    have := amL_le f n
    simp only [amL]
    split <;> omega
theorem amF_le (f : Nat → Int) : ∀ n, amF f n ≤ n
  | 0 => Nat.le_refl _
  | n + 1 => by
    have := amF_le f n
    simp only [amF]
    split <;> omega
def mxL : Int := 1152921504606846976
def leL (f : Nat → Int) : Nat → Int
  | 0 => mxL
  | n + 1 => f (amL f n)
def chL (f : Nat → Int) : Nat → Nat
  | 0 => 0
  | n + 1 => amL f n
theorem leL_y {f : Nat → Int} {g : Nat} (h : f g ≤ leL f g) : leL f (g + 1) = f g ∧ chL f (g + 1) = g := by
  cases g with
  | zero => exact ⟨rfl, rfl⟩
  | succ g =>
    have e : amL f (g + 1) = g + 1 := by
      simp only [amL]
      exact if_pos h
    simp only [leL, chL]
    rw [e]
    exact ⟨by first | rfl | trivial, by first | rfl | trivial⟩
theorem leL_n {f : Nat → Int} {g : Nat} (h0 : f 0 ≤ mxL) (h : ¬ f g ≤ leL f g) : leL f (g + 1) = leL f g ∧ chL f (g + 1) = chL f g := by
  cases g with
  | zero => exact absurd h0 h
  | succ g =>
    have e : amL f (g + 1) = amL f g := by
      simp only [amL]
      exact if_neg h
    simp only [leL, chL]
    rw [e]
    exact ⟨by first | rfl | trivial, by first | rfl | trivial⟩
def leF (f : Nat → Int) : Nat → Int
  | 0 => mxL
  | n + 1 => f (amF f n)
def chF (f : Nat → Int) : Nat → Nat
  | 0 => 0
  | n + 1 => amF f n
theorem leF_y {f : Nat → Int} {g : Nat} (h : f g < leF f g) : leF f (g + 1) = f g ∧ chF f (g + 1) = g := by
  cases g with
  | zero => exact ⟨rfl, rfl⟩
  | succ g =>
    have e : amF f (g + 1) = g + 1 := by
      simp only [amF]
      exact if_pos h
    simp only [leF, chF]
    rw [e]
    exact ⟨by first | rfl | trivial, by first | rfl | trivial⟩
theorem leF_n {f : Nat → Int} {g : Nat} (h0 : f 0 < mxL) (h : ¬ f g < leF f g) : leF f (g + 1) = leF f g ∧ chF f (g + 1) = chF f g := by
  cases g with
  | zero => exact absurd h0 h
  | succ g =>
    have e : amF f (g + 1) = amF f g := by
      simp only [amF]
      exact if_neg h
    simp only [leF, chF]
    rw [e]
    exact ⟨by first | rfl | trivial, by first | rfl | trivial⟩
theorem leL_in {f : Nat → Int} {M : Int} : ∀ g, (∀ j, j < g → 0 ≤ f j ∧ f j ≤ M) → M ≤ mxL → 0 ≤ leL f g ∧ leL f g ≤ mxL
  | 0, _, _ => by simp [leL, mxL]
  | g + 1, h, hM => by
    have := h (amL f g) (by have := amL_le f g; omega)
    simp only [leL]
    omega
theorem leF_in {f : Nat → Int} {M : Int} : ∀ g, (∀ j, j < g → 0 ≤ f j ∧ f j ≤ M) → M ≤ mxL → 0 ≤ leF f g ∧ leF f g ≤ mxL
  | 0, _, _ => by simp [leF, mxL]
  | g + 1, h, hM => by
    have := h (amF f g) (by have := amF_le f g; omega)
    simp only [leF]
    omega
def p_X7_chooseGiven (S : wW) : List wV → wW → Prop := fun av w => match av with
  | [.inr (.inr (some this)), .inl wet] => this = 56 ∧ hR S ∧ hX S w ∧ (0 ≤ wet ∧ wet ≤ 1) ∧ (0 ≤ w 56 9 ∧ w 56 9 ≤ 72) ∧ (∀ g : Nat, (g : Int) ≤ w 56 9 → 0 ≤ w 87 g ∧ w 87 g ≤ 100000000000000000) ∧ (∀ s : Nat, (s : Int) ≤ 2 * S 0 1 + 1 → 0 ≤ w 83 s ∧ w 83 s ≤ 100000000000000000)
  | _ => False
theorem h_X7_chooseGiven (S : wW) : ∀ av w, (p_X7_chooseGiven S) av w → ∃ a r, av = vr a :: r ∧ w_kd a = 100 + 7 := by
  intro av w h
  unfold p_X7_chooseGiven at h
  split at h
  · refine ⟨_, _, rfl, ?_⟩
    first | (rw [h.1]; rfl) | (rw [h]; rfl)
  · exact h.elim
def hGw (w : wW) (wet : Int) (lv g : Nat) : Int := w 87 g + w 83 (2 * (lv - g) + wet.toNat)
def gNw (w : wW) (lv : Nat) : Nat := if (lv : Int) ≤ w 56 9 then lv else (w 56 9).toNat
def cgV (S w : wW) (wet : Int) (n : Nat) (w1 : wW) : Prop := (∀ k i, ¬ k = 85 → ¬ k = 86 → w1 k i = w k i) ∧ ∀ lv, lv < n → w1 85 lv = hGw w wet lv (amL (hGw w wet lv) (gNw w lv)) ∧ w1 86 lv = (amL (hGw w wet lv) (gNw w lv) : Nat)
def q_X7_chooseGiven (S : wW) : List wV → wW → Int → wW → Prop := fun av w r w' => match av with
  | [.inr (.inr (some this)), .inl wet] => cgV S w wet ((S 0 1).toNat + 1) w'
  | _ => False
set_option maxRecDepth 100000 in
set_option maxHeartbeats 4000000 in
theorem c_X7_chooseGiven (S : wW) : w_Ct yX7_chooseGiven cX7_chooseGiven 11 0 1 21 (p_X7_chooseGiven S) (q_X7_chooseGiven S) := by
  refine w_met (own := RX7) (fl := w_fl7) (gs := w_gs7) (kl := w_kl7) (ki := w_ki7) (cs := [(95, (1, 2, 1, w_preMM, w_postMin))]) (by decide +kernel) rfl ?_ w_flok7 w_gsok7 w_klok7 w_kiok7 ?_ ?_
  · intro av w h
    unfold p_X7_chooseGiven at h
    split at h
    · simp [w_pos, w_cat]
    · exact h.elim
  · exact List.forall_mem_cons.mpr ⟨⟨_, _, w_callMin (own := RX7) (idx := 95) (w_m3 119 (by decide +kernel) (by decide +kernel)) (w_m3 15 (by decide +kernel) (by decide +kernel)) (w_m1 14 (by decide +kernel) (by decide +kernel)) (w_m3 16 (by decide +kernel) (by decide +kernel)), by decide, by decide⟩, fun _ h => absurd h List.not_mem_nil⟩
  intro av w hp
  unfold p_X7_chooseGiven at hp
  split at hp
  case h_2 => exact hp.elim
  rename_i this wet
  intro G hG
  simp only [w_ent, w_pos, w_cat, Nat.reduceEqDiff, ↓reduceIte, List.length_cons, List.length_nil, Nat.reduceAdd, Nat.reduceSub, List.cons_append, List.nil_append, List.replicate_succ, List.replicate_zero]
  obtain ⟨rfl, hS, hXw, hwet, hT, h87, h83⟩ := hp
  obtain ⟨wet, rfl⟩ : ∃ n : Nat, wet = n := ⟨wet.toNat, by omega⟩
  have hSz := hS.2.2.1
  obtain ⟨sz, hsz⟩ : ∃ n : Nat, S 0 1 = n := ⟨(S 0 1).toNat, by omega⟩
  have s1 : w 5 1 = sz := by rw [← hsz]; exact hXw.2.1 1 (by decide)
  rw [hsz] at h83 hSz
  have hf : ∀ lv g : Nat, lv ≤ sz → g ≤ gNw w lv → (0 ≤ w 87 g ∧ w 87 g ≤ 100000000000000000) ∧ (0 ≤ w 83 (2 * (lv - g) + wet) ∧ w 83 (2 * (lv - g) + wet) ≤ 100000000000000000) ∧ g ≤ lv ∧ (g : Int) ≤ w 56 9 := by
    intro lv g h1 h2
    have h3 : g ≤ lv ∧ (g : Int) ≤ w 56 9 := by
      unfold gNw at h2
      split at h2 <;> omega
    exact ⟨h87 g h3.2, h83 _ (by omega), h3⟩
  have inner : ∀ lv : Nat, lv ≤ sz → (∀ w1, cgV S w wet (lv + 1) w1 → ∀ x4 x5 x6 x7 x8 x9 x10, G 12 [some (vr 56), some (vi wet), some (vi sz), some (vi (lv + 1)), x4, x5, x6, x7, x8, x9, x10] [] w1) →
      ∀ d g : Nat, g + d = gNw w lv + 1 → ∀ w1, cgV S w wet lv w1 → ∀ x9 x10 : Option wV, G 38 [some (vr 56), some (vi wet), some (vi sz), some (vi lv), some (vi (gNw w lv)), some (vl (leL (hGw w wet lv) g)), none, some (vi (chL (hGw w wet lv) g)), some (vi g), x9, x10] [] w1 := by
    intro lv hlv hnext d
    induction d with
    | zero =>
      intro g hg w1 hw1 x9 x10
      have eg : g = gNw w lv + 1 := by omega
      subst eg
      have hle := leL_in (f := hGw w wet lv) (M := 200000000000000000) (gNw w lv + 1) (fun j hj => by
        have := hf lv j hlv (by omega)
        unfold hGw
        rw [Int.toNat_natCast]
        omega) (by decide)
      unfold mxL at hle
      have hch := amL_le (hGw w wet lv) (gNw w lv)
      have h3 := hf lv (gNw w lv) hlv (Nat.le_refl _)
      have e := hnext (w_up (w_up w1 85 lv (leL (hGw w wet lv) (gNw w lv + 1))) 86 lv (chL (hGw w wet lv) (gNw w lv + 1))) (by
        refine ⟨fun k j h1 h2 => ?_, fun l hl => ?_⟩
        · rw [up_k h2, up_k h1]; exact hw1.1 k j h1 h2
        · by_cases q : l = lv
          · subst q
            rw [up_k (by decide), up_eq, up_eq]
            exact ⟨rfl, rfl⟩
          · rw [up_k (by decide), up_ne (by omega), up_ne (by omega)]
            exact hw1.2 l (by omega))
      simp only [chL] at e ⊢
      (apply hG [38, 12] 2000; simp only [w_br_i, w_ite, w_all, w_all0, forall_eq, w_b0, w_b1, ↓reduceIte, w_ent, w_pos, List.replicate_succ, List.replicate_zero, wp_s, wk_s, w_lk_c, w_ld0, w_ldS, w_kp0, w_kp, w_s1, w_s2, w_to, w_if, w_call, w_sw, w_cat, w_cats, w_psh, w_fv, List.contains_cons, List.contains_nil, List.set_cons_zero, List.set_cons_succ, List.length_cons, List.length_nil, List.find?_cons, List.find?_nil, List.take_succ_cons, List.take_zero, List.drop_succ_cons, List.drop_zero, List.reverse_cons, List.reverse_nil, List.nil_append, List.cons_append, Option.map_some, Option.map_none, Nat.reduceAdd, Nat.reduceBEq, Nat.reduceEqDiff, Nat.reduceLT, Nat.reduceLeDiff, Nat.reduceSub, Int.reduceAdd, Int.reduceSub, Int.reduceMul, Int.reduceNeg, Int.reduceToNat, Int.reduceLT, Int.reduceLE, Int.reduceEq, Bool.false_eq_true, Bool.or_false, Bool.false_or, Bool.true_or, Bool.or_true, if_true, if_false, ite_true, ite_false, true_and, and_true, false_and, and_false, true_or, or_true, false_or, or_false, Int.cast_ofNat_Int, Int.toNat_natCast, Int.natCast_add, List.getElem?_cons_zero, List.getElem?_cons_succ, true_implies, forall_const, not_true_eq_false, not_false_eq_true, ne_eq, beq_iff_eq, imp_self, List.length_set, Nat.zero_add, Nat.add_zero, Int.zero_add, Int.add_zero, w1_aload_n_0, w1_getfield, w1_iconst, w1_iaload, w1_istore_n_2, w1_istore_n_3, w1_iload_n_3, w1_iload_n_2, w1_if_icmp, w1_invokestatic, w1_istore, w1_ldc2_w, w1_lstore, w1_iload, w1_laload, w1_isub, w1_imul, w1_iload_n_1, w1_iadd, w1_ladd, w1_lload, w1_lcmp, w1_ifCond, w1_iinc, w1_goto, w1_lastore, w1_iastore, w1_return, dX7_chooseGiven_0, dX7_chooseGiven_1, dX7_chooseGiven_4, dX7_chooseGiven_7, dX7_chooseGiven_8, dX7_chooseGiven_9, dX7_chooseGiven_10, dX7_chooseGiven_11, dX7_chooseGiven_12, dX7_chooseGiven_13, dX7_chooseGiven_14, dX7_chooseGiven_17, dX7_chooseGiven_18, dX7_chooseGiven_19, dX7_chooseGiven_22, dX7_chooseGiven_25, dX7_chooseGiven_27, dX7_chooseGiven_30, dX7_chooseGiven_32, dX7_chooseGiven_33, dX7_chooseGiven_35, dX7_chooseGiven_36, dX7_chooseGiven_38, dX7_chooseGiven_40, dX7_chooseGiven_42, dX7_chooseGiven_45, dX7_chooseGiven_46, dX7_chooseGiven_49, dX7_chooseGiven_51, dX7_chooseGiven_52, dX7_chooseGiven_53, dX7_chooseGiven_56, dX7_chooseGiven_57, dX7_chooseGiven_58, dX7_chooseGiven_60, dX7_chooseGiven_61, dX7_chooseGiven_62, dX7_chooseGiven_63, dX7_chooseGiven_64, dX7_chooseGiven_65, dX7_chooseGiven_66, dX7_chooseGiven_68, dX7_chooseGiven_70, dX7_chooseGiven_72, dX7_chooseGiven_73, dX7_chooseGiven_76, dX7_chooseGiven_78, dX7_chooseGiven_80, dX7_chooseGiven_82, dX7_chooseGiven_84, dX7_chooseGiven_87, dX7_chooseGiven_90, dX7_chooseGiven_91, dX7_chooseGiven_94, dX7_chooseGiven_95, dX7_chooseGiven_97, dX7_chooseGiven_98, dX7_chooseGiven_99, dX7_chooseGiven_102, dX7_chooseGiven_103, dX7_chooseGiven_105, dX7_chooseGiven_106, dX7_chooseGiven_109, dX7_chooseGiven_112, w_flk7_19, w_flk7_26, w_flk7_29, w_flk7_33, w_flk7_40, w_flk7_86, w_flk7_92, w_klk7_100, w_kd_56, w_rf_56_0, w_rf_56_1, w_rf_56_2, w_rf_56_3, w_rf_56_4, w_rf_56_5, w_rf_56_6, w_rf_56_7, w_rf_56_8, w_kd_85, w_ln_85, w_kd_86, w_ln_86])
      (repeat' (with_reducible (first | refine And.intro ?_ ?_ | intro _))) <;> (try (first | assumption | contradiction | exact Or.inl trivial | exact Or.inl rfl | exact Or.inr rfl | (simp only [inI, inL]; omega) | omega))
      all_goals first
        | exact e _ _ _ _ _ _ _
        | omega
    | succ d ih =>
      intro g hg w1 hw1 x9 x10
      have h3 := hf lv g hlv (by omega)
      have hgN := hf lv (gNw w lv) hlv (Nat.le_refl _)
      have h30 := hf lv 0 hlv (by omega)
      have hfg : hGw w wet lv g = w 87 g + w 83 (2 * (lv - g) + wet) := by unfold hGw; rw [Int.toNat_natCast]
      have hf0 : hGw w wet lv 0 ≤ mxL := by
        unfold hGw mxL
        rw [Int.toNat_natCast]
        omega
      have hle := leL_in (f := hGw w wet lv) (M := 200000000000000000) g (fun j hj => by
        have := hf lv j hlv (by omega)
        unfold hGw
        rw [Int.toNat_natCast]
        omega) (by decide)
      unfold mxL at hle
      have hcm := w_cmp_r (w 87 g + w 83 (2 * (lv - g) + wet)) (leL (hGw w wet lv) g)
      have e87 : w1 87 g = w 87 g := hw1.1 87 g (by decide) (by decide)
      have e83 : w1 83 (2 * ((lv : Int) - g) + wet).toNat = w 83 (2 * (lv - g) + wet) := by
        rw [hw1.1 83 _ (by decide) (by decide), show (2 * ((lv : Int) - g) + wet).toNat = 2 * (lv - g) + wet by omega]
      by_cases c : hGw w wet lv g ≤ leL (hGw w wet lv) g
      · have e := ih (g + 1) (by omega) w1 hw1
        rw [(leL_y c).1, (leL_y c).2] at e
        rw [hfg] at c e
        simp only [Int.natCast_add, Int.cast_ofNat_Int] at e
        (apply hG [38, 90, 12] 2000; simp only [w_br_i, w_ite, w_all, w_all0, forall_eq, w_b0, w_b1, ↓reduceIte, w_ent, w_pos, List.replicate_succ, List.replicate_zero, wp_s, wk_s, w_lk_c, w_ld0, w_ldS, w_kp0, w_kp, w_s1, w_s2, w_to, w_if, w_call, w_sw, w_cat, w_cats, w_psh, w_fv, List.contains_cons, List.contains_nil, List.set_cons_zero, List.set_cons_succ, List.length_cons, List.length_nil, List.find?_cons, List.find?_nil, List.take_succ_cons, List.take_zero, List.drop_succ_cons, List.drop_zero, List.reverse_cons, List.reverse_nil, List.nil_append, List.cons_append, Option.map_some, Option.map_none, Nat.reduceAdd, Nat.reduceBEq, Nat.reduceEqDiff, Nat.reduceLT, Nat.reduceLeDiff, Nat.reduceSub, Int.reduceAdd, Int.reduceSub, Int.reduceMul, Int.reduceNeg, Int.reduceToNat, Int.reduceLT, Int.reduceLE, Int.reduceEq, Bool.false_eq_true, Bool.or_false, Bool.false_or, Bool.true_or, Bool.or_true, if_true, if_false, ite_true, ite_false, true_and, and_true, false_and, and_false, true_or, or_true, false_or, or_false, Int.cast_ofNat_Int, Int.toNat_natCast, Int.natCast_add, List.getElem?_cons_zero, List.getElem?_cons_succ, true_implies, forall_const, not_true_eq_false, not_false_eq_true, ne_eq, beq_iff_eq, imp_self, List.length_set, Nat.zero_add, Nat.add_zero, Int.zero_add, Int.add_zero, w1_aload_n_0, w1_getfield, w1_iconst, w1_iaload, w1_istore_n_2, w1_istore_n_3, w1_iload_n_3, w1_iload_n_2, w1_if_icmp, w1_invokestatic, w1_istore, w1_ldc2_w, w1_lstore, w1_iload, w1_laload, w1_isub, w1_imul, w1_iload_n_1, w1_iadd, w1_ladd, w1_lload, w1_lcmp, w1_ifCond, w1_iinc, w1_goto, w1_lastore, w1_iastore, w1_return, dX7_chooseGiven_0, dX7_chooseGiven_1, dX7_chooseGiven_4, dX7_chooseGiven_7, dX7_chooseGiven_8, dX7_chooseGiven_9, dX7_chooseGiven_10, dX7_chooseGiven_11, dX7_chooseGiven_12, dX7_chooseGiven_13, dX7_chooseGiven_14, dX7_chooseGiven_17, dX7_chooseGiven_18, dX7_chooseGiven_19, dX7_chooseGiven_22, dX7_chooseGiven_25, dX7_chooseGiven_27, dX7_chooseGiven_30, dX7_chooseGiven_32, dX7_chooseGiven_33, dX7_chooseGiven_35, dX7_chooseGiven_36, dX7_chooseGiven_38, dX7_chooseGiven_40, dX7_chooseGiven_42, dX7_chooseGiven_45, dX7_chooseGiven_46, dX7_chooseGiven_49, dX7_chooseGiven_51, dX7_chooseGiven_52, dX7_chooseGiven_53, dX7_chooseGiven_56, dX7_chooseGiven_57, dX7_chooseGiven_58, dX7_chooseGiven_60, dX7_chooseGiven_61, dX7_chooseGiven_62, dX7_chooseGiven_63, dX7_chooseGiven_64, dX7_chooseGiven_65, dX7_chooseGiven_66, dX7_chooseGiven_68, dX7_chooseGiven_70, dX7_chooseGiven_72, dX7_chooseGiven_73, dX7_chooseGiven_76, dX7_chooseGiven_78, dX7_chooseGiven_80, dX7_chooseGiven_82, dX7_chooseGiven_84, dX7_chooseGiven_87, dX7_chooseGiven_90, dX7_chooseGiven_91, dX7_chooseGiven_94, dX7_chooseGiven_95, dX7_chooseGiven_97, dX7_chooseGiven_98, dX7_chooseGiven_99, dX7_chooseGiven_102, dX7_chooseGiven_103, dX7_chooseGiven_105, dX7_chooseGiven_106, dX7_chooseGiven_109, dX7_chooseGiven_112, w_flk7_19, w_flk7_26, w_flk7_29, w_flk7_33, w_flk7_40, w_flk7_86, w_flk7_92, w_klk7_100, w_kd_56, w_rf_56_0, w_rf_56_1, w_rf_56_2, w_rf_56_3, w_rf_56_4, w_rf_56_5, w_rf_56_6, w_rf_56_7, w_rf_56_8, w_kd_83, w_ln_83, w_kd_87, w_ln_87, e87, e83])
        (repeat' (with_reducible (first | refine And.intro ?_ ?_ | intro _))) <;> (try (first | assumption | contradiction | exact Or.inl trivial | exact Or.inl rfl | exact Or.inr rfl | (simp only [inI, inL]; omega) | omega))
        all_goals first
          | exact e _ _
          | (exfalso; omega)
          | omega
      · have e := ih (g + 1) (by omega) w1 hw1
        rw [(leL_n hf0 c).1, (leL_n hf0 c).2] at e
        rw [hfg] at c
        simp only [Int.natCast_add, Int.cast_ofNat_Int] at e
        (apply hG [38, 90, 12] 2000; simp only [w_br_i, w_ite, w_all, w_all0, forall_eq, w_b0, w_b1, ↓reduceIte, w_ent, w_pos, List.replicate_succ, List.replicate_zero, wp_s, wk_s, w_lk_c, w_ld0, w_ldS, w_kp0, w_kp, w_s1, w_s2, w_to, w_if, w_call, w_sw, w_cat, w_cats, w_psh, w_fv, List.contains_cons, List.contains_nil, List.set_cons_zero, List.set_cons_succ, List.length_cons, List.length_nil, List.find?_cons, List.find?_nil, List.take_succ_cons, List.take_zero, List.drop_succ_cons, List.drop_zero, List.reverse_cons, List.reverse_nil, List.nil_append, List.cons_append, Option.map_some, Option.map_none, Nat.reduceAdd, Nat.reduceBEq, Nat.reduceEqDiff, Nat.reduceLT, Nat.reduceLeDiff, Nat.reduceSub, Int.reduceAdd, Int.reduceSub, Int.reduceMul, Int.reduceNeg, Int.reduceToNat, Int.reduceLT, Int.reduceLE, Int.reduceEq, Bool.false_eq_true, Bool.or_false, Bool.false_or, Bool.true_or, Bool.or_true, if_true, if_false, ite_true, ite_false, true_and, and_true, false_and, and_false, true_or, or_true, false_or, or_false, Int.cast_ofNat_Int, Int.toNat_natCast, Int.natCast_add, List.getElem?_cons_zero, List.getElem?_cons_succ, true_implies, forall_const, not_true_eq_false, not_false_eq_true, ne_eq, beq_iff_eq, imp_self, List.length_set, Nat.zero_add, Nat.add_zero, Int.zero_add, Int.add_zero, w1_aload_n_0, w1_getfield, w1_iconst, w1_iaload, w1_istore_n_2, w1_istore_n_3, w1_iload_n_3, w1_iload_n_2, w1_if_icmp, w1_invokestatic, w1_istore, w1_ldc2_w, w1_lstore, w1_iload, w1_laload, w1_isub, w1_imul, w1_iload_n_1, w1_iadd, w1_ladd, w1_lload, w1_lcmp, w1_ifCond, w1_iinc, w1_goto, w1_lastore, w1_iastore, w1_return, dX7_chooseGiven_0, dX7_chooseGiven_1, dX7_chooseGiven_4, dX7_chooseGiven_7, dX7_chooseGiven_8, dX7_chooseGiven_9, dX7_chooseGiven_10, dX7_chooseGiven_11, dX7_chooseGiven_12, dX7_chooseGiven_13, dX7_chooseGiven_14, dX7_chooseGiven_17, dX7_chooseGiven_18, dX7_chooseGiven_19, dX7_chooseGiven_22, dX7_chooseGiven_25, dX7_chooseGiven_27, dX7_chooseGiven_30, dX7_chooseGiven_32, dX7_chooseGiven_33, dX7_chooseGiven_35, dX7_chooseGiven_36, dX7_chooseGiven_38, dX7_chooseGiven_40, dX7_chooseGiven_42, dX7_chooseGiven_45, dX7_chooseGiven_46, dX7_chooseGiven_49, dX7_chooseGiven_51, dX7_chooseGiven_52, dX7_chooseGiven_53, dX7_chooseGiven_56, dX7_chooseGiven_57, dX7_chooseGiven_58, dX7_chooseGiven_60, dX7_chooseGiven_61, dX7_chooseGiven_62, dX7_chooseGiven_63, dX7_chooseGiven_64, dX7_chooseGiven_65, dX7_chooseGiven_66, dX7_chooseGiven_68, dX7_chooseGiven_70, dX7_chooseGiven_72, dX7_chooseGiven_73, dX7_chooseGiven_76, dX7_chooseGiven_78, dX7_chooseGiven_80, dX7_chooseGiven_82, dX7_chooseGiven_84, dX7_chooseGiven_87, dX7_chooseGiven_90, dX7_chooseGiven_91, dX7_chooseGiven_94, dX7_chooseGiven_95, dX7_chooseGiven_97, dX7_chooseGiven_98, dX7_chooseGiven_99, dX7_chooseGiven_102, dX7_chooseGiven_103, dX7_chooseGiven_105, dX7_chooseGiven_106, dX7_chooseGiven_109, dX7_chooseGiven_112, w_flk7_19, w_flk7_26, w_flk7_29, w_flk7_33, w_flk7_40, w_flk7_86, w_flk7_92, w_klk7_100, w_kd_56, w_rf_56_0, w_rf_56_1, w_rf_56_2, w_rf_56_3, w_rf_56_4, w_rf_56_5, w_rf_56_6, w_rf_56_7, w_rf_56_8, w_kd_83, w_ln_83, w_kd_87, w_ln_87, e87, e83])
        (repeat' (with_reducible (first | refine And.intro ?_ ?_ | intro _))) <;> (try (first | assumption | contradiction | exact Or.inl trivial | exact Or.inl rfl | exact Or.inr rfl | (simp only [inI, inL]; omega) | omega))
        all_goals first
          | exact e _ _
          | (exfalso; omega)
          | omega
  have outer : ∀ d lv : Nat, lv + d = sz + 1 → ∀ w1, cgV S w wet lv w1 → ∀ x4 x5 x6 x7 x8 x9 x10 : Option wV, G 12 [some (vr 56), some (vi wet), some (vi sz), some (vi lv), x4, x5, x6, x7, x8, x9, x10] [] w1 := by
    intro d
    induction d with
    | zero =>
      intro lv hlv w1 hw1 x4 x5 x6 x7 x8 x9 x10
      have e : lv = sz + 1 := by omega
      subst e
      simp only [Int.natCast_add, Int.cast_ofNat_Int]
      (apply hG [12, 38] 2000; simp only [w_br_i, w_ite, w_all, w_all0, forall_eq, w_b0, w_b1, ↓reduceIte, w_ent, w_pos, List.replicate_succ, List.replicate_zero, wp_s, wk_s, w_lk_c, w_ld0, w_ldS, w_kp0, w_kp, w_s1, w_s2, w_to, w_if, w_call, w_sw, w_cat, w_cats, w_psh, w_fv, List.contains_cons, List.contains_nil, List.set_cons_zero, List.set_cons_succ, List.length_cons, List.length_nil, List.find?_cons, List.find?_nil, List.take_succ_cons, List.take_zero, List.drop_succ_cons, List.drop_zero, List.reverse_cons, List.reverse_nil, List.nil_append, List.cons_append, Option.map_some, Option.map_none, Nat.reduceAdd, Nat.reduceBEq, Nat.reduceEqDiff, Nat.reduceLT, Nat.reduceLeDiff, Nat.reduceSub, Int.reduceAdd, Int.reduceSub, Int.reduceMul, Int.reduceNeg, Int.reduceToNat, Int.reduceLT, Int.reduceLE, Int.reduceEq, Bool.false_eq_true, Bool.or_false, Bool.false_or, Bool.true_or, Bool.or_true, if_true, if_false, ite_true, ite_false, true_and, and_true, false_and, and_false, true_or, or_true, false_or, or_false, Int.cast_ofNat_Int, Int.toNat_natCast, Int.natCast_add, List.getElem?_cons_zero, List.getElem?_cons_succ, true_implies, forall_const, not_true_eq_false, not_false_eq_true, ne_eq, beq_iff_eq, imp_self, List.length_set, Nat.zero_add, Nat.add_zero, Int.zero_add, Int.add_zero, w1_aload_n_0, w1_getfield, w1_iconst, w1_iaload, w1_istore_n_2, w1_istore_n_3, w1_iload_n_3, w1_iload_n_2, w1_if_icmp, w1_invokestatic, w1_istore, w1_ldc2_w, w1_lstore, w1_iload, w1_laload, w1_isub, w1_imul, w1_iload_n_1, w1_iadd, w1_ladd, w1_lload, w1_lcmp, w1_ifCond, w1_iinc, w1_goto, w1_lastore, w1_iastore, w1_return, dX7_chooseGiven_0, dX7_chooseGiven_1, dX7_chooseGiven_4, dX7_chooseGiven_7, dX7_chooseGiven_8, dX7_chooseGiven_9, dX7_chooseGiven_10, dX7_chooseGiven_11, dX7_chooseGiven_12, dX7_chooseGiven_13, dX7_chooseGiven_14, dX7_chooseGiven_17, dX7_chooseGiven_18, dX7_chooseGiven_19, dX7_chooseGiven_22, dX7_chooseGiven_25, dX7_chooseGiven_27, dX7_chooseGiven_30, dX7_chooseGiven_32, dX7_chooseGiven_33, dX7_chooseGiven_35, dX7_chooseGiven_36, dX7_chooseGiven_38, dX7_chooseGiven_40, dX7_chooseGiven_42, dX7_chooseGiven_45, dX7_chooseGiven_46, dX7_chooseGiven_49, dX7_chooseGiven_51, dX7_chooseGiven_52, dX7_chooseGiven_53, dX7_chooseGiven_56, dX7_chooseGiven_57, dX7_chooseGiven_58, dX7_chooseGiven_60, dX7_chooseGiven_61, dX7_chooseGiven_62, dX7_chooseGiven_63, dX7_chooseGiven_64, dX7_chooseGiven_65, dX7_chooseGiven_66, dX7_chooseGiven_68, dX7_chooseGiven_70, dX7_chooseGiven_72, dX7_chooseGiven_73, dX7_chooseGiven_76, dX7_chooseGiven_78, dX7_chooseGiven_80, dX7_chooseGiven_82, dX7_chooseGiven_84, dX7_chooseGiven_87, dX7_chooseGiven_90, dX7_chooseGiven_91, dX7_chooseGiven_94, dX7_chooseGiven_95, dX7_chooseGiven_97, dX7_chooseGiven_98, dX7_chooseGiven_99, dX7_chooseGiven_102, dX7_chooseGiven_103, dX7_chooseGiven_105, dX7_chooseGiven_106, dX7_chooseGiven_109, dX7_chooseGiven_112, w_flk7_19, w_flk7_26, w_flk7_29, w_flk7_33, w_flk7_40, w_flk7_86, w_flk7_92, w_klk7_100, w_kd_56, w_rf_56_0, w_rf_56_1, w_rf_56_2, w_rf_56_3, w_rf_56_4, w_rf_56_5, w_rf_56_6, w_rf_56_7, w_rf_56_8])
      (repeat' (with_reducible (first | refine And.intro ?_ ?_ | intro _))) <;> (try (first | assumption | contradiction | exact Or.inl trivial | exact Or.inl rfl | exact Or.inr rfl | (simp only [inI, inL]; omega) | omega))
      all_goals first
        | (simp only [q_X7_chooseGiven]; rw [hsz, Int.toNat_natCast]; exact hw1)
        | (exfalso; omega)
    | succ d ih =>
      intro lv hlv w1 hw1 x4 x5 x6 x7 x8 x9 x10
      have e9 : w1 56 9 = w 56 9 := hw1.1 56 9 (by decide) (by decide)
      have e := inner lv (by omega) (fun w1 hw1 x4 x5 x6 x7 x8 x9 x10 => by
        have e := ih (lv + 1) (by omega) w1 hw1 x4 x5 x6 x7 x8 x9 x10
        simp only [Int.natCast_add, Int.cast_ofNat_Int] at e
        exact e) (gNw w lv + 1) 0 (by omega) w1 hw1
      simp only [Int.cast_ofNat_Int, leL, chL, mxL] at e
      have hg : (gNw w lv : Int) = if w 56 9 < (lv : Int) then w 56 9 else lv := by
        unfold gNw
        split <;> split <;> omega
      rw [hg] at e
      (apply hG [12, 38] 2000; simp only [w_br_i, w_ite, w_all, w_all0, forall_eq, w_b0, w_b1, ↓reduceIte, w_ent, w_pos, List.replicate_succ, List.replicate_zero, wp_s, wk_s, w_lk_c, w_ld0, w_ldS, w_kp0, w_kp, w_s1, w_s2, w_to, w_if, w_call, w_sw, w_cat, w_cats, w_psh, w_fv, List.contains_cons, List.contains_nil, List.set_cons_zero, List.set_cons_succ, List.length_cons, List.length_nil, List.find?_cons, List.find?_nil, List.take_succ_cons, List.take_zero, List.drop_succ_cons, List.drop_zero, List.reverse_cons, List.reverse_nil, List.nil_append, List.cons_append, Option.map_some, Option.map_none, Nat.reduceAdd, Nat.reduceBEq, Nat.reduceEqDiff, Nat.reduceLT, Nat.reduceLeDiff, Nat.reduceSub, Int.reduceAdd, Int.reduceSub, Int.reduceMul, Int.reduceNeg, Int.reduceToNat, Int.reduceLT, Int.reduceLE, Int.reduceEq, Bool.false_eq_true, Bool.or_false, Bool.false_or, Bool.true_or, Bool.or_true, if_true, if_false, ite_true, ite_false, true_and, and_true, false_and, and_false, true_or, or_true, false_or, or_false, Int.cast_ofNat_Int, Int.toNat_natCast, Int.natCast_add, List.getElem?_cons_zero, List.getElem?_cons_succ, true_implies, forall_const, not_true_eq_false, not_false_eq_true, ne_eq, beq_iff_eq, imp_self, List.length_set, Nat.zero_add, Nat.add_zero, Int.zero_add, Int.add_zero, w1_aload_n_0, w1_getfield, w1_iconst, w1_iaload, w1_istore_n_2, w1_istore_n_3, w1_iload_n_3, w1_iload_n_2, w1_if_icmp, w1_invokestatic, w1_istore, w1_ldc2_w, w1_lstore, w1_iload, w1_laload, w1_isub, w1_imul, w1_iload_n_1, w1_iadd, w1_ladd, w1_lload, w1_lcmp, w1_ifCond, w1_iinc, w1_goto, w1_lastore, w1_iastore, w1_return, dX7_chooseGiven_0, dX7_chooseGiven_1, dX7_chooseGiven_4, dX7_chooseGiven_7, dX7_chooseGiven_8, dX7_chooseGiven_9, dX7_chooseGiven_10, dX7_chooseGiven_11, dX7_chooseGiven_12, dX7_chooseGiven_13, dX7_chooseGiven_14, dX7_chooseGiven_17, dX7_chooseGiven_18, dX7_chooseGiven_19, dX7_chooseGiven_22, dX7_chooseGiven_25, dX7_chooseGiven_27, dX7_chooseGiven_30, dX7_chooseGiven_32, dX7_chooseGiven_33, dX7_chooseGiven_35, dX7_chooseGiven_36, dX7_chooseGiven_38, dX7_chooseGiven_40, dX7_chooseGiven_42, dX7_chooseGiven_45, dX7_chooseGiven_46, dX7_chooseGiven_49, dX7_chooseGiven_51, dX7_chooseGiven_52, dX7_chooseGiven_53, dX7_chooseGiven_56, dX7_chooseGiven_57, dX7_chooseGiven_58, dX7_chooseGiven_60, dX7_chooseGiven_61, dX7_chooseGiven_62, dX7_chooseGiven_63, dX7_chooseGiven_64, dX7_chooseGiven_65, dX7_chooseGiven_66, dX7_chooseGiven_68, dX7_chooseGiven_70, dX7_chooseGiven_72, dX7_chooseGiven_73, dX7_chooseGiven_76, dX7_chooseGiven_78, dX7_chooseGiven_80, dX7_chooseGiven_82, dX7_chooseGiven_84, dX7_chooseGiven_87, dX7_chooseGiven_90, dX7_chooseGiven_91, dX7_chooseGiven_94, dX7_chooseGiven_95, dX7_chooseGiven_97, dX7_chooseGiven_98, dX7_chooseGiven_99, dX7_chooseGiven_102, dX7_chooseGiven_103, dX7_chooseGiven_105, dX7_chooseGiven_106, dX7_chooseGiven_109, dX7_chooseGiven_112, w_flk7_19, w_flk7_26, w_flk7_29, w_flk7_33, w_flk7_40, w_flk7_86, w_flk7_92, w_klk7_100, w_kd_56, w_rf_56_0, w_rf_56_1, w_rf_56_2, w_rf_56_3, w_rf_56_4, w_rf_56_5, w_rf_56_6, w_rf_56_7, w_rf_56_8, e9, w_preMM, w_postMin])
      (repeat' (with_reducible (first | refine And.intro ?_ ?_ | intro _))) <;> (try (first | assumption | contradiction | exact Or.inl trivial | exact Or.inl rfl | exact Or.inr rfl | (simp only [inI, inL]; omega) | omega))
      all_goals first
        | exact e _ _
        | (exfalso; omega)
        | omega
  have e := outer (sz + 1) 0 (by omega) w ⟨fun k i _ _ => rfl, fun l hl => by omega⟩ none none none none none none none
  simp only [Int.cast_ofNat_Int] at e
  (apply hG [12, 38] 2000; simp only [w_br_i, w_ite, w_all, w_all0, forall_eq, w_b0, w_b1, ↓reduceIte, w_ent, w_pos, List.replicate_succ, List.replicate_zero, wp_s, wk_s, w_lk_c, w_ld0, w_ldS, w_kp0, w_kp, w_s1, w_s2, w_to, w_if, w_call, w_sw, w_cat, w_cats, w_psh, w_fv, List.contains_cons, List.contains_nil, List.set_cons_zero, List.set_cons_succ, List.length_cons, List.length_nil, List.find?_cons, List.find?_nil, List.take_succ_cons, List.take_zero, List.drop_succ_cons, List.drop_zero, List.reverse_cons, List.reverse_nil, List.nil_append, List.cons_append, Option.map_some, Option.map_none, Nat.reduceAdd, Nat.reduceBEq, Nat.reduceEqDiff, Nat.reduceLT, Nat.reduceLeDiff, Nat.reduceSub, Int.reduceAdd, Int.reduceSub, Int.reduceMul, Int.reduceNeg, Int.reduceToNat, Int.reduceLT, Int.reduceLE, Int.reduceEq, Bool.false_eq_true, Bool.or_false, Bool.false_or, Bool.true_or, Bool.or_true, if_true, if_false, ite_true, ite_false, true_and, and_true, false_and, and_false, true_or, or_true, false_or, or_false, Int.cast_ofNat_Int, Int.toNat_natCast, Int.natCast_add, List.getElem?_cons_zero, List.getElem?_cons_succ, true_implies, forall_const, not_true_eq_false, not_false_eq_true, ne_eq, beq_iff_eq, imp_self, List.length_set, Nat.zero_add, Nat.add_zero, Int.zero_add, Int.add_zero, w1_aload_n_0, w1_getfield, w1_iconst, w1_iaload, w1_istore_n_2, w1_istore_n_3, w1_iload_n_3, w1_iload_n_2, w1_if_icmp, w1_invokestatic, w1_istore, w1_ldc2_w, w1_lstore, w1_iload, w1_laload, w1_isub, w1_imul, w1_iload_n_1, w1_iadd, w1_ladd, w1_lload, w1_lcmp, w1_ifCond, w1_iinc, w1_goto, w1_lastore, w1_iastore, w1_return, dX7_chooseGiven_0, dX7_chooseGiven_1, dX7_chooseGiven_4, dX7_chooseGiven_7, dX7_chooseGiven_8, dX7_chooseGiven_9, dX7_chooseGiven_10, dX7_chooseGiven_11, dX7_chooseGiven_12, dX7_chooseGiven_13, dX7_chooseGiven_14, dX7_chooseGiven_17, dX7_chooseGiven_18, dX7_chooseGiven_19, dX7_chooseGiven_22, dX7_chooseGiven_25, dX7_chooseGiven_27, dX7_chooseGiven_30, dX7_chooseGiven_32, dX7_chooseGiven_33, dX7_chooseGiven_35, dX7_chooseGiven_36, dX7_chooseGiven_38, dX7_chooseGiven_40, dX7_chooseGiven_42, dX7_chooseGiven_45, dX7_chooseGiven_46, dX7_chooseGiven_49, dX7_chooseGiven_51, dX7_chooseGiven_52, dX7_chooseGiven_53, dX7_chooseGiven_56, dX7_chooseGiven_57, dX7_chooseGiven_58, dX7_chooseGiven_60, dX7_chooseGiven_61, dX7_chooseGiven_62, dX7_chooseGiven_63, dX7_chooseGiven_64, dX7_chooseGiven_65, dX7_chooseGiven_66, dX7_chooseGiven_68, dX7_chooseGiven_70, dX7_chooseGiven_72, dX7_chooseGiven_73, dX7_chooseGiven_76, dX7_chooseGiven_78, dX7_chooseGiven_80, dX7_chooseGiven_82, dX7_chooseGiven_84, dX7_chooseGiven_87, dX7_chooseGiven_90, dX7_chooseGiven_91, dX7_chooseGiven_94, dX7_chooseGiven_95, dX7_chooseGiven_97, dX7_chooseGiven_98, dX7_chooseGiven_99, dX7_chooseGiven_102, dX7_chooseGiven_103, dX7_chooseGiven_105, dX7_chooseGiven_106, dX7_chooseGiven_109, dX7_chooseGiven_112, w_flk7_19, w_flk7_26, w_flk7_29, w_flk7_33, w_flk7_40, w_flk7_86, w_flk7_92, w_klk7_100, w_kd_4, w_rf_4_0, w_rf_4_1, w_rf_4_2, w_rf_4_3, w_rf_4_4, w_rf_4_5, w_kd_5, w_ln_5, w_kd_56, w_rf_56_0, w_rf_56_1, w_rf_56_2, w_rf_56_3, w_rf_56_4, w_rf_56_5, w_rf_56_6, w_rf_56_7, w_rf_56_8, s1])
  (repeat' (with_reducible (first | refine And.intro ?_ ?_ | intro _))) <;> (try (first | assumption | contradiction | exact Or.inl trivial | exact Or.inl rfl | exact Or.inr rfl | (simp only [inI, inL]; omega) | omega))
