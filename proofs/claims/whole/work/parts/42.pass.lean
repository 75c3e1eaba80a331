/-! a month's first two steps -/
def lvC (S : wW) (area rain wet : Int) : Int := o_comes area rain (S 0 2) (S 0 3) wet
def lvO (size x : Int) : Int := if size < x then x - size else 0
def lvK (leak x : Int) : Int := if x < leak then x else leak
/-- the level behind the leak -/
def lvB (S : wW) (area size leak rain lv wet : Int) : Int := (lv + lvC S area rain wet - lvO size (lv + lvC S area rain wet)) - lvK leak (lv + lvC S area rain wet - lvO size (lv + lvC S area rain wet))
def wetF (rain : Int) : Int := if 0 < rain then 1 else 0
theorem lvC_in {S : wW} (h : hR S) {area rain wet : Int} (ha : 0 ≤ area ∧ area ≤ 25) (hr : 0 ≤ rain ∧ rain ≤ 9) : 0 ≤ lvC S area rain wet ∧ lvC S area rain wet ≤ 225 := by
  have hm := mul_bd ha.1 ha.2 hr.1 hr.2
  have h2 := h.2.2.2.1
  have h3 := h.2.2.2.2.1
  unfold lvC o_comes o_c1
  split
  · omega
  · split
    · split <;> (try split) <;> omega
    · split <;> (try split) <;> omega
theorem lvB_in {S : wW} (h : hR S) {area size leak rain lv wet : Int} (ha : 0 ≤ area ∧ area ≤ 25) (hr : 0 ≤ rain ∧ rain ≤ 9) (hl : 0 ≤ lv ∧ lv ≤ size) (hk : 0 ≤ leak) : 0 ≤ lvB S area size leak rain lv wet ∧ lvB S area size leak rain lv wet ≤ size := by
  have hc := lvC_in (wet := wet) h ha hr
  unfold lvB lvO lvK
  split <;> split <;> omega
/-- what the plan must say -/
def plA (w : wW) (a : Nat) (size : Int) : Prop := w a 1 = 3 → ∀ (m : Nat) (lv wet : Int), m < 12 → 0 ≤ lv → lv ≤ size → (wet = 0 ∨ wet = 1) → (0 ≤ w (58 + m) (stF lv wet) ∧ lv + w (58 + m) (stF lv wet) ≤ size) ∧ (0 ≤ w (71 + m) (stF lv wet) ∧ w (71 + m) (stF lv wet) ≤ 200)
theorem rR_tw {w : wW} {a : Nat} {f g : Nat → Int} : rR (tw w f g) a ↔ rR w a := by
  unfold rR
  constructor
  · rintro ⟨h1, h2, h3, h4⟩
    rw [tw_x _ _ _ ⟨by omega, by omega⟩] at h2 h3
    exact ⟨h1, h2, h3, fun m hm => by have := h4 m hm; rwa [tw_x _ _ _ ⟨by omega, by omega⟩] at this⟩
  · rintro ⟨h1, h2, h3, h4⟩
    exact ⟨h1, by rwa [tw_x _ _ _ ⟨by omega, by omega⟩], by rwa [tw_x _ _ _ ⟨by omega, by omega⟩], fun m hm => by rw [tw_x _ _ _ ⟨by omega, by omega⟩]; exact h4 m hm⟩
theorem rX_tw {w : wW} {a m : Nat} (ha : 36 ≤ a ∧ a < 46) (hm : m < 12) (f g : Nat → Int) (lv wet : Int) : rX (tw w f g) a m lv wet = rX w a m lv wet := by
  funext j
  unfold rX
  rw [tw_x _ _ _ ⟨by omega, by omega⟩, tw_x _ _ _ ⟨by omega, by omega⟩, tw_x _ _ _ ⟨by omega, by omega⟩, tw_x _ _ _ ⟨by omega, by omega⟩, tw_x _ _ _ ⟨by omega, by omega⟩]
/-- a month's state: the tank's fields in range -/
def tR (w : wW) : Prop := (0 ≤ w 88 3 ∧ w 88 3 ≤ 25) ∧ (0 ≤ w 88 6 ∧ w 88 6 ≤ w 88 4 ∧ w 88 4 ≤ 200) ∧ (0 ≤ w 88 5 ∧ w 88 5 ≤ 9) ∧ (w 88 7 = 0 ∨ w 88 7 = 1)
def p_X6_pass (S : wW) : List wV → wW → Prop := fun av w => match av with
  | [.inr (.inr (some this)), .inr (.inr (some a)), .inl m, .inl rain] => this = 88 ∧ hR S ∧ hX S w ∧ rR w a ∧ (0 ≤ m ∧ m < 12) ∧ (0 ≤ rain ∧ rain ≤ 9) ∧ tR w ∧ plA w a (w 88 4)
  | _ => False
theorem h_X6_pass (S : wW) : ∀ av w, (p_X6_pass S) av w → ∃ a r, av = vr a :: r ∧ w_kd a = 100 + 6 := by
  intro av w h
  unfold p_X6_pass at h
  split at h
  · refine ⟨_, _, rfl, ?_⟩
    first | (rw [h.1]; rfl) | (rw [h]; rfl)
  · exact h.elim
def pLv (S w : wW) (rain : Int) : Int := lvB S (w 88 3) (w 88 4) (w 88 5) rain (w 88 6) (w 88 7)
def pR (S w : wW) (a : Nat) (m rain : Int) : Nat → Int := rX w a m.toNat (pLv S w rain) (wetF rain)
def pCm (S w : wW) (rain : Int) : Int := lvC S (w 88 3) rain (w 88 7)
def q_X6_pass (S : wW) : List wV → wW → Int → wW → Prop := fun av w r w' => match av with
  | [.inr (.inr (some this)), .inr (.inr (some a)), .inl m, .inl rain] => ∃ f, w' = tw w f (zS S (w 88 4) (pR S w a m rain) m (pLv S w rain) (w 89)) ∧ (f 3 = w 88 3 ∧ f 4 = w 88 4 ∧ f 5 = w 88 5) ∧ f 6 = zE S (w 88 4) (pR S w a m rain) m (pLv S w rain) ∧ f 7 = wetF rain ∧ f 8 = pCm S w rain ∧ f 9 = lvO (w 88 4) (w 88 6 + pCm S w rain) ∧
    f 10 = lvK (w 88 5) (w 88 6 + pCm S w rain - lvO (w 88 4) (w 88 6 + pCm S w rain)) ∧ f 11 = zP S (w 88 4) (pR S w a m rain) m (pLv S w rain) ∧ f 12 = zG S (w 88 4) (pR S w a m rain) m (pLv S w rain) ∧ f 13 = zK S (w 88 4) (pR S w a m rain) m (pLv S w rain) ∧ f 14 = zC S (w 88 4) (pR S w a m rain) m (pLv S w rain)
  | _ => False
set_option maxRecDepth 100000 in
set_option maxHeartbeats 4000000 in
theorem c_X6_pass (S : wW) : w_Ct yX6_pass cX6_pass 4 0 3 74 (p_X6_pass S) (q_X6_pass S) := by
  refine w_met (own := RX6) (fl := w_fl6) (gs := w_gs6) (kl := w_kl6) (ki := w_ki6) (cs := [(45, (0, 4, 1, p_X1_comesBy, q_X1_comesBy)), (58, (0, 3, 0, (p_X6_pumpAndDraw S), (q_X6_pumpAndDraw S)))]) (by decide +kernel) rfl ?_ w_flok6 w_gsok6 w_klok6 w_kiok6 ?_ ?_
  · intro av w h
    unfold p_X6_pass at h
    split at h
    · simp [w_pos, w_cat]
    · exact h.elim
  · exact List.forall_mem_cons.mpr ⟨⟨_, _, w_callV (own := RX6) (idx := 45) (ci := 1) c_X1_comesBy rfl rfl h_X1_comesBy (w_m3 149 (by decide +kernel) (by decide +kernel)) (w_m3 26 (by decide +kernel) (by decide +kernel)) (w_m3 27 (by decide +kernel) (by decide +kernel)) (w_m1 3 (by decide +kernel) (by decide +kernel)) (w_m3 28 (by decide +kernel) (by decide +kernel)) ⟨by decide +kernel, by decide +kernel, by decide +kernel⟩, by decide, by decide⟩, List.forall_mem_cons.mpr ⟨⟨_, _, w_callV (own := RX6) (idx := 58) (ci := 6) (c_X6_pumpAndDraw S) rfl rfl (h_X6_pumpAndDraw S) (w_m3 150 (by decide +kernel) (by decide +kernel)) (w_m3 151 (by decide +kernel) (by decide +kernel)) (w_m3 152 (by decide +kernel) (by decide +kernel)) (w_m1 9 (by decide +kernel) (by decide +kernel)) (w_m3 153 (by decide +kernel) (by decide +kernel)) ⟨by decide +kernel, by decide +kernel, by decide +kernel⟩, by decide, by decide⟩, fun _ h => absurd h List.not_mem_nil⟩⟩
  intro av w hp
  unfold p_X6_pass at hp
  split at hp
  case h_2 => exact hp.elim
  rename_i this a m rain
  intro G hG
  simp only [w_ent, w_pos, w_cat, Nat.reduceEqDiff, ↓reduceIte, List.length_cons, List.length_nil, Nat.reduceAdd, Nat.reduceSub, List.cons_append, List.nil_append, List.replicate_succ, List.replicate_zero]
  obtain ⟨rfl, hS, hXw, hr, hm, hrain, ht, hpl⟩ := hp
  obtain ⟨h3, h6, h5, h7⟩ := ht
  have ha := hr.1
  obtain ⟨m, rfl⟩ : ∃ n : Nat, m = n := ⟨m.toNat, by omega⟩
  have hm' : m < 12 := by omega
  have hC := lvC_in (wet := w 88 7) hS h3 hrain
  have hB := lvB_in (wet := w 88 7) hS (leak := w 88 5) h3 hrain ⟨h6.1, h6.2.1⟩ h5.1
  have s2 := hXw.2.1 2 (by decide)
  have s3 := hXw.2.1 3 (by decide)
  have hS2 := hS.2.2.2.1
  have hS3 := hS.2.2.2.2.1
  have x5 : ∀ f g i, tw w f g 5 i = w 5 i := fun f g i => tw_x w f g ⟨by omega, by omega⟩
  have hOo : lvO (w 88 4) (w 88 6 + lvC S (w 88 3) rain (w 88 7)) = if w 88 4 < w 88 6 + lvC S (w 88 3) rain (w 88 7) then w 88 6 + lvC S (w 88 3) rain (w 88 7) - w 88 4 else 0 := rfl
  generalize hCe : lvC S (w 88 3) rain (w 88 7) = C at *
  generalize hOe : lvO (w 88 4) (w 88 6 + C) = O at *
  have hOr : 0 ≤ O ∧ w 88 6 + C - O ≤ w 88 4 ∧ 0 ≤ w 88 6 + C - O := by rw [hOo]; split <;> omega
  have hKo : lvK (w 88 5) (w 88 6 + C - O) = if w 88 6 + C - O < w 88 5 then w 88 6 + C - O else w 88 5 := rfl
  generalize hKe : lvK (w 88 5) (w 88 6 + C - O) = K at *
  have hBe : pLv S w rain = w 88 6 + C - O - K := by rw [pLv, lvB, hCe, hOe, hKe]
  rw [show lvB S (w 88 3) (w 88 4) (w 88 5) rain (w 88 6) (w 88 7) = pLv S w rain from rfl, hBe] at hB
  have hwr : wetF rain = 0 ∨ wetF rain = 1 := by unfold wetF; split <;> omega
  have e110 : ∀ f : Nat → Int, (f 3 = w 88 3 ∧ f 4 = w 88 4 ∧ f 5 = w 88 5) → f 6 = w 88 6 + C - O → f 7 = wetF rain → f 8 = C → f 9 = O → G 110 [some (vr 88), some (vr a), some (vi m), some (vi rain)] [vi K, vr 88] (tw w f (w 89)) := by
    intro f hf h6f h7f h8f h9f
    have fin : ∀ r w', q_X6_pumpAndDraw S [vr 88, vr a, vi m] (tw w (fup (fup f 10 K) 6 (w 88 6 + C - O - K)) (w 89)) r w' → q_X6_pass S [vr 88, vr a, vi m, vi rain] w 0 w' := by
      intro r w' hq
      simp only [q_X6_pumpAndDraw, tw_tw, tw_89, tw_88 _ _ _ 4 (by decide), tw_88 _ _ _ 6 (by decide), tw_88 _ _ _ 7 (by decide), fup_eq, fup_ne (show (4 : Nat) ≠ 6 by decide), fup_ne (show (4 : Nat) ≠ 10 by decide), fup_ne (show (7 : Nat) ≠ 6 by decide), fup_ne (show (7 : Nat) ≠ 10 by decide), hf.2.1, h7f, Int.toNat_natCast, rX_tw ha hm'] at hq
      simp only [q_X6_pass, pR, pCm, hBe, hCe, hOe, hKe, Int.toNat_natCast]
      obtain ⟨f2, rfl, g6, g11, g12, g13, g14, gr⟩ := hq
      have gr' : ∀ i, 3 ≤ i → i ≠ 6 → i < 11 → f2 i = fup (fup f 10 K) 6 (w 88 6 + C - O - K) i := fun i h3 h1 h2 => by rw [gr i h1 h2, tw_88 _ _ _ _ h3]
      refine ⟨f2, rfl, ⟨?_, ?_, ?_⟩, g6, ?_, ?_, ?_, ?_, g11, g12, g13, g14⟩
      · rw [gr' 3 (by decide) (by decide) (by decide), fup_ne (by decide), fup_ne (by decide)]; exact hf.1
      · rw [gr' 4 (by decide) (by decide) (by decide), fup_ne (by decide), fup_ne (by decide)]; exact hf.2.1
      · rw [gr' 5 (by decide) (by decide) (by decide), fup_ne (by decide), fup_ne (by decide)]; exact hf.2.2
      · rw [gr' 7 (by decide) (by decide) (by decide), fup_ne (by decide), fup_ne (by decide)]; exact h7f
      · rw [gr' 8 (by decide) (by decide) (by decide), fup_ne (by decide), fup_ne (by decide)]; exact h8f
      · rw [gr' 9 (by decide) (by decide) (by decide), fup_ne (by decide), fup_ne (by decide)]; exact h9f
      · rw [gr' 10 (by decide) (by decide) (by decide), fup_ne (by decide), fup_eq]
    have hpre : p_X6_pumpAndDraw S [vr 88, vr a, vi m] (tw w (fup (fup f 10 K) 6 (w 88 6 + C - O - K)) (w 89)) := by
      simp only [p_X6_pumpAndDraw, hX_tw, rR_tw, tw_88 _ _ _ 4 (show 3 ≤ 4 by decide), tw_88 _ _ _ 6 (show 3 ≤ 6 by decide), tw_88 _ _ _ 7 (show 3 ≤ 7 by decide), fup_eq, fup_ne (show (4 : Nat) ≠ 6 by decide), fup_ne (show (4 : Nat) ≠ 10 by decide), fup_ne (show (7 : Nat) ≠ 6 by decide), fup_ne (show (7 : Nat) ≠ 10 by decide), hf.2.1, h7f]
      refine ⟨trivial, hS, hXw, hr, by omega, by omega, hwr, ?_⟩
      unfold plR
      have ya : ∀ F g i, tw w F g a i = w a i := fun F g i => tw_x w F g ⟨by omega, by omega⟩
      have y1 : ∀ F g i, tw w F g (58 + m) i = w (58 + m) i := fun F g i => tw_x w F g ⟨by omega, by omega⟩
      have y2 : ∀ F g i, tw w F g (71 + m) i = w (71 + m) i := fun F g i => tw_x w F g ⟨by omega, by omega⟩
      simp only [Int.toNat_natCast, ya, y1, y2, tw_88 _ _ _ 4 (show 3 ≤ 4 by decide), tw_88 _ _ _ 6 (show 3 ≤ 6 by decide), tw_88 _ _ _ 7 (show 3 ≤ 7 by decide), fup_eq, fup_ne (show (4 : Nat) ≠ 6 by decide), fup_ne (show (4 : Nat) ≠ 10 by decide), fup_ne (show (7 : Nat) ≠ 6 by decide), fup_ne (show (7 : Nat) ≠ 10 by decide), hf.2.1, h7f]
      intro k3
      exact hpl k3 m (w 88 6 + C - O - K) (wetF rain) hm' hB.1 hB.2 hwr
    (apply hG [] 2000; simp only [w_br_i, w_ite, w_all, w_all0, forall_eq, w_b0, w_b1, ↓reduceIte, w_ent, w_pos, List.replicate_succ, List.replicate_zero, wp_s, wk_s, w_lk_c, w_ld0, w_ldS, w_kp0, w_kp, w_s1, w_s2, w_to, w_if, w_call, w_sw, w_cat, w_cats, w_psh, w_fv, List.contains_cons, List.contains_nil, List.set_cons_zero, List.set_cons_succ, List.length_cons, List.length_nil, List.find?_cons, List.find?_nil, List.take_succ_cons, List.take_zero, List.drop_succ_cons, List.drop_zero, List.reverse_cons, List.reverse_nil, List.nil_append, List.cons_append, Option.map_some, Option.map_none, Nat.reduceAdd, Nat.reduceBEq, Nat.reduceEqDiff, Nat.reduceLT, Nat.reduceLeDiff, Nat.reduceSub, Int.reduceAdd, Int.reduceSub, Int.reduceMul, Int.reduceNeg, Int.reduceToNat, Int.reduceLT, Int.reduceLE, Int.reduceEq, Bool.false_eq_true, Bool.or_false, Bool.false_or, Bool.true_or, Bool.or_true, if_true, if_false, ite_true, ite_false, true_and, and_true, false_and, and_false, true_or, or_true, false_or, or_false, Int.cast_ofNat_Int, Int.toNat_natCast, Int.natCast_add, List.getElem?_cons_zero, List.getElem?_cons_succ, true_implies, forall_const, not_true_eq_false, not_false_eq_true, ne_eq, beq_iff_eq, imp_self, List.length_set, Nat.zero_add, Nat.add_zero, Int.zero_add, Int.add_zero, w1_aload_n_0, w1_getfield, w1_iload_n_3, w1_invokevirtual, w1_putfield, w1_putfield2, w1_ifCond, w1_iconst, w1_goto, w1_dup, w1_dup2, w1_iadd, w1_if_icmp, w1_isub, w1_aload_n_1, w1_iload_n_2, w1_return, dX6_pass_0, dX6_pass_1, dX6_pass_2, dX6_pass_5, dX6_pass_6, dX6_pass_9, dX6_pass_10, dX6_pass_11, dX6_pass_14, dX6_pass_17, dX6_pass_20, dX6_pass_21, dX6_pass_22, dX6_pass_25, dX6_pass_26, dX6_pass_29, dX6_pass_30, dX6_pass_33, dX6_pass_34, dX6_pass_35, dX6_pass_38, dX6_pass_39, dX6_pass_42, dX6_pass_43, dX6_pass_46, dX6_pass_47, dX6_pass_48, dX6_pass_51, dX6_pass_52, dX6_pass_55, dX6_pass_58, dX6_pass_59, dX6_pass_62, dX6_pass_63, dX6_pass_66, dX6_pass_67, dX6_pass_70, dX6_pass_71, dX6_pass_74, dX6_pass_75, dX6_pass_76, dX6_pass_79, dX6_pass_80, dX6_pass_83, dX6_pass_84, dX6_pass_87, dX6_pass_88, dX6_pass_89, dX6_pass_92, dX6_pass_93, dX6_pass_96, dX6_pass_99, dX6_pass_100, dX6_pass_103, dX6_pass_106, dX6_pass_107, dX6_pass_110, dX6_pass_113, dX6_pass_114, dX6_pass_115, dX6_pass_118, dX6_pass_119, dX6_pass_122, dX6_pass_123, dX6_pass_126, dX6_pass_127, dX6_pass_128, dX6_pass_129, dX6_pass_132, w_flk6_15, w_flk6_23, w_flk6_27, w_flk6_35, w_flk6_38, w_flk6_41, w_flk6_49, w_flk6_52, w_flk6_55, w_kd_88, w_rf_88_0, w_rf_88_1, w_rf_88_2, tw_88, tw_uf, fup_i, h6f, hpre])
    (repeat' (with_reducible (first | refine And.intro ?_ ?_ | intro _))) <;> (try (first | assumption | contradiction | exact Or.inl trivial | exact Or.inl rfl | exact Or.inr rfl | (simp only [inI, inL]; omega) | omega))
    all_goals exact fin _ _ (by assumption)
  have e71 : ∀ f : Nat → Int, (f 3 = w 88 3 ∧ f 4 = w 88 4 ∧ f 5 = w 88 5) → f 6 = w 88 6 + C → f 7 = wetF rain → f 8 = C → G 71 [some (vr 88), some (vr a), some (vi m), some (vi rain)] [vi O, vr 88] (tw w f (w 89)) := by
    intro f hf h6f h7f h8f
    have e := e110 (fup (fup f 9 O) 6 (w 88 6 + C - O)) (by simp [fup, hf]) (by simp [fup]) (by simp [fup, h7f]) (by simp [fup, h8f]) (by simp [fup])
    rw [hKo] at e
    (apply hG [110] 2000; simp only [w_br_i, w_ite, w_all, w_all0, forall_eq, w_b0, w_b1, ↓reduceIte, w_ent, w_pos, List.replicate_succ, List.replicate_zero, wp_s, wk_s, w_lk_c, w_ld0, w_ldS, w_kp0, w_kp, w_s1, w_s2, w_to, w_if, w_call, w_sw, w_cat, w_cats, w_psh, w_fv, List.contains_cons, List.contains_nil, List.set_cons_zero, List.set_cons_succ, List.length_cons, List.length_nil, List.find?_cons, List.find?_nil, List.take_succ_cons, List.take_zero, List.drop_succ_cons, List.drop_zero, List.reverse_cons, List.reverse_nil, List.nil_append, List.cons_append, Option.map_some, Option.map_none, Nat.reduceAdd, Nat.reduceBEq, Nat.reduceEqDiff, Nat.reduceLT, Nat.reduceLeDiff, Nat.reduceSub, Int.reduceAdd, Int.reduceSub, Int.reduceMul, Int.reduceNeg, Int.reduceToNat, Int.reduceLT, Int.reduceLE, Int.reduceEq, Bool.false_eq_true, Bool.or_false, Bool.false_or, Bool.true_or, Bool.or_true, if_true, if_false, ite_true, ite_false, true_and, and_true, false_and, and_false, true_or, or_true, false_or, or_false, Int.cast_ofNat_Int, Int.toNat_natCast, Int.natCast_add, List.getElem?_cons_zero, List.getElem?_cons_succ, true_implies, forall_const, not_true_eq_false, not_false_eq_true, ne_eq, beq_iff_eq, imp_self, List.length_set, Nat.zero_add, Nat.add_zero, Int.zero_add, Int.add_zero, w1_aload_n_0, w1_getfield, w1_iload_n_3, w1_invokevirtual, w1_putfield, w1_putfield2, w1_ifCond, w1_iconst, w1_goto, w1_dup, w1_dup2, w1_iadd, w1_if_icmp, w1_isub, w1_aload_n_1, w1_iload_n_2, w1_return, dX6_pass_0, dX6_pass_1, dX6_pass_2, dX6_pass_5, dX6_pass_6, dX6_pass_9, dX6_pass_10, dX6_pass_11, dX6_pass_14, dX6_pass_17, dX6_pass_20, dX6_pass_21, dX6_pass_22, dX6_pass_25, dX6_pass_26, dX6_pass_29, dX6_pass_30, dX6_pass_33, dX6_pass_34, dX6_pass_35, dX6_pass_38, dX6_pass_39, dX6_pass_42, dX6_pass_43, dX6_pass_46, dX6_pass_47, dX6_pass_48, dX6_pass_51, dX6_pass_52, dX6_pass_55, dX6_pass_58, dX6_pass_59, dX6_pass_62, dX6_pass_63, dX6_pass_66, dX6_pass_67, dX6_pass_70, dX6_pass_71, dX6_pass_74, dX6_pass_75, dX6_pass_76, dX6_pass_79, dX6_pass_80, dX6_pass_83, dX6_pass_84, dX6_pass_87, dX6_pass_88, dX6_pass_89, dX6_pass_92, dX6_pass_93, dX6_pass_96, dX6_pass_99, dX6_pass_100, dX6_pass_103, dX6_pass_106, dX6_pass_107, dX6_pass_110, dX6_pass_113, dX6_pass_114, dX6_pass_115, dX6_pass_118, dX6_pass_119, dX6_pass_122, dX6_pass_123, dX6_pass_126, dX6_pass_127, dX6_pass_128, dX6_pass_129, dX6_pass_132, w_flk6_15, w_flk6_23, w_flk6_27, w_flk6_35, w_flk6_38, w_flk6_41, w_flk6_49, w_flk6_52, w_flk6_55, w_kd_88, w_rf_88_0, w_rf_88_1, w_rf_88_2, tw_88, tw_uf, fup_i, h6f, hf.2.2])
    by_cases q : w 88 6 + C - O < w 88 5
    · rw [if_pos q] at e
      (repeat' (with_reducible (first | refine And.intro ?_ ?_ | intro _))) <;> (try (first | assumption | contradiction | exact Or.inl trivial | exact Or.inl rfl | exact Or.inr rfl | (simp only [inI, inL]; omega) | omega))
    · rw [if_neg q] at e
      (repeat' (with_reducible (first | refine And.intro ?_ ?_ | intro _))) <;> (try (first | assumption | contradiction | exact Or.inl trivial | exact Or.inl rfl | exact Or.inr rfl | (simp only [inI, inL]; omega) | omega))
  have e30 : G 30 [some (vr 88), some (vr a), some (vi m), some (vi rain)] [vi (wetF rain), vr 88] (tw w (fup (w 88) 8 C) (w 89)) := by
    have e := e71 (fup (fup (fup (w 88) 8 C) 7 (wetF rain)) 6 (w 88 6 + C)) (by simp [fup]) (by simp [fup]) (by simp [fup]) (by simp [fup])
    rw [hOo] at e
    (apply hG [71] 2000; simp only [w_br_i, w_ite, w_all, w_all0, forall_eq, w_b0, w_b1, ↓reduceIte, w_ent, w_pos, List.replicate_succ, List.replicate_zero, wp_s, wk_s, w_lk_c, w_ld0, w_ldS, w_kp0, w_kp, w_s1, w_s2, w_to, w_if, w_call, w_sw, w_cat, w_cats, w_psh, w_fv, List.contains_cons, List.contains_nil, List.set_cons_zero, List.set_cons_succ, List.length_cons, List.length_nil, List.find?_cons, List.find?_nil, List.take_succ_cons, List.take_zero, List.drop_succ_cons, List.drop_zero, List.reverse_cons, List.reverse_nil, List.nil_append, List.cons_append, Option.map_some, Option.map_none, Nat.reduceAdd, Nat.reduceBEq, Nat.reduceEqDiff, Nat.reduceLT, Nat.reduceLeDiff, Nat.reduceSub, Int.reduceAdd, Int.reduceSub, Int.reduceMul, Int.reduceNeg, Int.reduceToNat, Int.reduceLT, Int.reduceLE, Int.reduceEq, Bool.false_eq_true, Bool.or_false, Bool.false_or, Bool.true_or, Bool.or_true, if_true, if_false, ite_true, ite_false, true_and, and_true, false_and, and_false, true_or, or_true, false_or, or_false, Int.cast_ofNat_Int, Int.toNat_natCast, Int.natCast_add, List.getElem?_cons_zero, List.getElem?_cons_succ, true_implies, forall_const, not_true_eq_false, not_false_eq_true, ne_eq, beq_iff_eq, imp_self, List.length_set, Nat.zero_add, Nat.add_zero, Int.zero_add, Int.add_zero, w1_aload_n_0, w1_getfield, w1_iload_n_3, w1_invokevirtual, w1_putfield, w1_putfield2, w1_ifCond, w1_iconst, w1_goto, w1_dup, w1_dup2, w1_iadd, w1_if_icmp, w1_isub, w1_aload_n_1, w1_iload_n_2, w1_return, dX6_pass_0, dX6_pass_1, dX6_pass_2, dX6_pass_5, dX6_pass_6, dX6_pass_9, dX6_pass_10, dX6_pass_11, dX6_pass_14, dX6_pass_17, dX6_pass_20, dX6_pass_21, dX6_pass_22, dX6_pass_25, dX6_pass_26, dX6_pass_29, dX6_pass_30, dX6_pass_33, dX6_pass_34, dX6_pass_35, dX6_pass_38, dX6_pass_39, dX6_pass_42, dX6_pass_43, dX6_pass_46, dX6_pass_47, dX6_pass_48, dX6_pass_51, dX6_pass_52, dX6_pass_55, dX6_pass_58, dX6_pass_59, dX6_pass_62, dX6_pass_63, dX6_pass_66, dX6_pass_67, dX6_pass_70, dX6_pass_71, dX6_pass_74, dX6_pass_75, dX6_pass_76, dX6_pass_79, dX6_pass_80, dX6_pass_83, dX6_pass_84, dX6_pass_87, dX6_pass_88, dX6_pass_89, dX6_pass_92, dX6_pass_93, dX6_pass_96, dX6_pass_99, dX6_pass_100, dX6_pass_103, dX6_pass_106, dX6_pass_107, dX6_pass_110, dX6_pass_113, dX6_pass_114, dX6_pass_115, dX6_pass_118, dX6_pass_119, dX6_pass_122, dX6_pass_123, dX6_pass_126, dX6_pass_127, dX6_pass_128, dX6_pass_129, dX6_pass_132, w_flk6_15, w_flk6_23, w_flk6_27, w_flk6_35, w_flk6_38, w_flk6_41, w_flk6_49, w_flk6_52, w_flk6_55, w_kd_88, w_rf_88_0, w_rf_88_1, w_rf_88_2, tw_88, tw_uf, fup_i])
    by_cases q : w 88 4 < w 88 6 + C
    · rw [if_pos q] at e
      (repeat' (with_reducible (first | refine And.intro ?_ ?_ | intro _))) <;> (try (first | assumption | contradiction | exact Or.inl trivial | exact Or.inl rfl | exact Or.inr rfl | (simp only [inI, inL]; omega) | omega))
    · rw [if_neg q] at e
      (repeat' (with_reducible (first | refine And.intro ?_ ?_ | intro _))) <;> (try (first | assumption | contradiction | exact Or.inl trivial | exact Or.inl rfl | exact Or.inr rfl | (simp only [inI, inL]; omega) | omega))
  have hCc : o_comes (w 88 3) rain (S 0 2) (S 0 3) (w 88 7) = C := hCe
  have hpc : p_X1_comesBy [vr 4, vi (w 88 3), vi rain, vi (w 88 7)] (tw w (w 88) (w 89)) := by
    simp only [p_X1_comesBy, x5, s2, s3]
    exact ⟨trivial, h3, hrain, by rcases h7 with q | q <;> rw [q] <;> decide, hS2, hS3⟩
  unfold wetF at e30
  rw [← tw_id w]
  (apply hG [30] 2000; simp only [w_br_i, w_ite, w_all, w_all0, forall_eq, w_b0, w_b1, ↓reduceIte, w_ent, w_pos, List.replicate_succ, List.replicate_zero, wp_s, wk_s, w_lk_c, w_ld0, w_ldS, w_kp0, w_kp, w_s1, w_s2, w_to, w_if, w_call, w_sw, w_cat, w_cats, w_psh, w_fv, List.contains_cons, List.contains_nil, List.set_cons_zero, List.set_cons_succ, List.length_cons, List.length_nil, List.find?_cons, List.find?_nil, List.take_succ_cons, List.take_zero, List.drop_succ_cons, List.drop_zero, List.reverse_cons, List.reverse_nil, List.nil_append, List.cons_append, Option.map_some, Option.map_none, Nat.reduceAdd, Nat.reduceBEq, Nat.reduceEqDiff, Nat.reduceLT, Nat.reduceLeDiff, Nat.reduceSub, Int.reduceAdd, Int.reduceSub, Int.reduceMul, Int.reduceNeg, Int.reduceToNat, Int.reduceLT, Int.reduceLE, Int.reduceEq, Bool.false_eq_true, Bool.or_false, Bool.false_or, Bool.true_or, Bool.or_true, if_true, if_false, ite_true, ite_false, true_and, and_true, false_and, and_false, true_or, or_true, false_or, or_false, Int.cast_ofNat_Int, Int.toNat_natCast, Int.natCast_add, List.getElem?_cons_zero, List.getElem?_cons_succ, true_implies, forall_const, not_true_eq_false, not_false_eq_true, ne_eq, beq_iff_eq, imp_self, List.length_set, Nat.zero_add, Nat.add_zero, Int.zero_add, Int.add_zero, w1_aload_n_0, w1_getfield, w1_iload_n_3, w1_invokevirtual, w1_putfield, w1_putfield2, w1_ifCond, w1_iconst, w1_goto, w1_dup, w1_dup2, w1_iadd, w1_if_icmp, w1_isub, w1_aload_n_1, w1_iload_n_2, w1_return, dX6_pass_0, dX6_pass_1, dX6_pass_2, dX6_pass_5, dX6_pass_6, dX6_pass_9, dX6_pass_10, dX6_pass_11, dX6_pass_14, dX6_pass_17, dX6_pass_20, dX6_pass_21, dX6_pass_22, dX6_pass_25, dX6_pass_26, dX6_pass_29, dX6_pass_30, dX6_pass_33, dX6_pass_34, dX6_pass_35, dX6_pass_38, dX6_pass_39, dX6_pass_42, dX6_pass_43, dX6_pass_46, dX6_pass_47, dX6_pass_48, dX6_pass_51, dX6_pass_52, dX6_pass_55, dX6_pass_58, dX6_pass_59, dX6_pass_62, dX6_pass_63, dX6_pass_66, dX6_pass_67, dX6_pass_70, dX6_pass_71, dX6_pass_74, dX6_pass_75, dX6_pass_76, dX6_pass_79, dX6_pass_80, dX6_pass_83, dX6_pass_84, dX6_pass_87, dX6_pass_88, dX6_pass_89, dX6_pass_92, dX6_pass_93, dX6_pass_96, dX6_pass_99, dX6_pass_100, dX6_pass_103, dX6_pass_106, dX6_pass_107, dX6_pass_110, dX6_pass_113, dX6_pass_114, dX6_pass_115, dX6_pass_118, dX6_pass_119, dX6_pass_122, dX6_pass_123, dX6_pass_126, dX6_pass_127, dX6_pass_128, dX6_pass_129, dX6_pass_132, w_flk6_15, w_flk6_23, w_flk6_27, w_flk6_35, w_flk6_38, w_flk6_41, w_flk6_49, w_flk6_52, w_flk6_55, w_kd_88, w_rf_88_0, w_rf_88_1, w_rf_88_2, tw_88, tw_uf, fup_i, x5, s2, s3, q_X1_comesBy, hpc, hCc])
  by_cases q : 0 < rain
  · rw [if_pos q] at e30
    (repeat' (with_reducible (first | refine And.intro ?_ ?_ | intro _))) <;> (try (first | assumption | contradiction | exact Or.inl trivial | exact Or.inl rfl | exact Or.inr rfl | (simp only [inI, inL]; omega) | omega))
  · rw [if_neg q] at e30
    (repeat' (with_reducible (first | refine And.intro ?_ ?_ | intro _))) <;> (try (first | assumption | contradiction | exact Or.inl trivial | exact Or.inl rfl | exact Or.inr rfl | (simp only [inI, inL]; omega) | omega))
