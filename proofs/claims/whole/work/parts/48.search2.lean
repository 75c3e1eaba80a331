/-! the search -/
theorem rnQ_R {S : wW} {area size : Int} {lk : Nat → Int} {R R' : Nat → Int → Int → Nat → Int} {rain : Nat → Int} (h : ∀ m, m < 12 → ∀ lv wet, R m lv wet = R' m lv wet) : ∀ k, rnQ (S, area, size, lk, R, rain) k = rnQ (S, area, size, lk, R', rain) k
  | 0 => rfl
  | k + 1 => by
    have ih := rnQ_R (S := S) (area := area) (size := size) (lk := lk) (rain := rain) h k
    rw [rnQ_s, rnQ_s]
    simp only [rnR, rnB, ih, h _ (Nat.mod_lt k (show 0 < 12 by decide))]
theorem rnM_R {S : wW} {area size : Int} {lk : Nat → Int} {R R' : Nat → Int → Int → Nat → Int} {rain : Nat → Int} (h : ∀ m, m < 12 → ∀ lv wet, R m lv wet = R' m lv wet) : rnM (S, area, size, lk, R, rain) = rnM (S, area, size, lk, R', rain) := by
  funext k
  simp only [rnM, rnR, rnB, rnQ_R h k, h _ (Nat.mod_lt k (show 0 < 12 by decide))]
theorem rnM_ev {S w w1 : wW} {a : Nat} {area size : Int} (ha : 36 ≤ a ∧ a < 46) (he : ev 88 92 w w1) : rnM (runE S area size (rX w1 a)) = rnM (runE S area size (rX w a)) :=
  rnM_R (fun m hm lv wet => rX_ev ha hm he lv wet)
def stp (t s e : Int) (x : Int × Int × Int) : Int × Int × Int := if t < x.1 then (t, s, e) else x
def seI (t : Nat → Int) (e : Int) (x : Int × Int × Int) : Nat → Int × Int × Int
  | 0 => x
  | s + 1 => stp (t s) s e (seI t e x s)
def seO (t : Nat → Nat → Int) (x : Int × Int × Int) : Nat → Int × Int × Int
  | 0 => x
  | e + 1 => seI (t e) e (seO t x e) 201
def seT (S : wW) (price roof : Int) (R : Nat → Int → Int → Nat → Int) (e s : Nat) : Int := price * s + roof * e + sm (rnM (runE S (S 0 0 + e) s R)) (monthsF S)
theorem seI_stop {t : Nat → Int} {e : Int} {x : Int × Int × Int} {s : Nat} : ∀ n, (∀ j, s ≤ j → j < n → (seI t e x s).1 ≤ t j) → s ≤ n → seI t e x n = seI t e x s
  | 0, _, hs => by rw [show s = 0 by omega]
  | n + 1, h, hs => by
    by_cases q : s = n + 1
    · rw [q]
    · have ih := seI_stop n (fun j h1 h2 => h j h1 (by omega)) (by omega)
      have := h n (by omega) (by omega)
      simp only [seI, stp]
      rw [ih, if_neg (by omega)]
theorem stp_in {t s e : Int} {x : Int × Int × Int} {M : Int} (ht : 0 ≤ t) (h : 0 ≤ x.1 ∧ x.1 ≤ M) : 0 ≤ (stp t s e x).1 ∧ (stp t s e x).1 ≤ M := by
  unfold stp
  split
  · simp only; omega
  · exact h
theorem seI_in {t : Nat → Int} {e : Int} {x : Int × Int × Int} {M : Int} (h : 0 ≤ x.1 ∧ x.1 ≤ M) : ∀ n, (∀ j, j < n → 0 ≤ t j) → 0 ≤ (seI t e x n).1 ∧ (seI t e x n).1 ≤ M
  | 0, _ => h
  | n + 1, ht => stp_in (ht n (by omega)) (seI_in h n (fun j hj => ht j (by omega)))
theorem seO_in {t : Nat → Nat → Int} {x : Int × Int × Int} {M : Int} (h : 0 ≤ x.1 ∧ x.1 ≤ M) : ∀ n, (∀ i j, i < n → j < 201 → 0 ≤ t i j) → 0 ≤ (seO t x n).1 ∧ (seO t x n).1 ≤ M
  | 0, _ => h
  | n + 1, ht => seI_in (seO_in h n (fun i j hi hj => ht i j (by omega) hj)) 201 (fun j hj => ht n j (by omega) hj)
theorem plA_no {w : wW} {a : Nat} {size : Int} (h : ¬ w a 1 = 3) : plA w a size := fun h3 => absurd h3 h
def p_X5_search (S : wW) : List wV → wW → Prop := fun av w => match av with
  | [.inr (.inr (some this)), .inr (.inr (some a)), .inl price, .inl roof, .inl mm] => this = 90 ∧ hR S ∧ hX S w ∧ (yR S ∧ yX S w) ∧ rR w a ∧ (¬ w a 1 = 3) ∧ (0 ≤ price ∧ price ≤ 99) ∧ (0 ≤ roof ∧ roof ≤ 99) ∧ (0 ≤ mm ∧ mm ≤ 5)
  | _ => False
theorem h_X5_search (S : wW) : ∀ av w, (p_X5_search S) av w → ∃ a r, av = vr a :: r ∧ w_kd a = 100 + 5 := by
  intro av w h
  unfold p_X5_search at h
  split at h
  · refine ⟨_, _, rfl, ?_⟩
    first | (rw [h.1]; rfl) | (rw [h]; rfl)
  · exact h.elim
def seR (S w : wW) (a : Nat) (price roof mm : Int) : Int × Int × Int := seO (seT S price roof (rX w a)) (1073741824, w 90 6, w 90 7) (mm.toNat + 1)
def q_X5_search (S : wW) : List wV → wW → Int → wW → Prop := fun av w r w' => match av with
  | [.inr (.inr (some this)), .inr (.inr (some a)), .inl price, .inl roof, .inl mm] => ev 88 92 w w' ∧ w' 90 8 = (seR S w a price roof mm).1 ∧ w' 90 6 = (seR S w a price roof mm).2.1 ∧ w' 90 7 = (seR S w a price roof mm).2.2
  | _ => False
def seV (S w : wW) (a : Nat) (x : Int × Int × Int) (w1 : wW) : Prop := ev 88 92 w w1 ∧ w1 90 8 = x.1 ∧ w1 90 6 = x.2.1 ∧ w1 90 7 = x.2.2
theorem seT_in {S w : wW} {a : Nat} {price roof : Int} (hS : hR S) (hy : yR S) (hr : rR w a) (h3 : ¬ w a 1 = 3) (hp : 0 ≤ price ∧ price ≤ 99) (hf : 0 ≤ roof ∧ roof ≤ 99) {e s : Nat} (he : e ≤ 5) (hs : s ≤ 200) :
    (0 ≤ price * s ∧ price * s ≤ 19800) ∧ (0 ≤ roof * e ∧ roof * e ≤ 495) ∧ 0 ≤ sm (rnM (runE S (S 0 0 + e) s (rX w a))) (monthsF S) ∧ sm (rnM (runE S (S 0 0 + e) s (rX w a))) (monthsF S) ≤ 235008 := by
  have h1 := mul_bd hp.1 hp.2 (show 0 ≤ (s : Int) by omega) (show (s : Int) ≤ 200 by omega)
  have h2 := mul_bd hf.1 hf.2 (show 0 ≤ (e : Int) by omega) (show (e : Int) ≤ 5 by omega)
  have hA := hS.2.1
  have hok := okE_run (area := S 0 0 + e) (size := s) hS hy hr (plA_no h3) (by omega) (by omega)
  have h5 := sm_in (fun k hk => rnM_in hok (k := k) hk) (monthsF S) (Nat.le_refl _)
  have hm : monthsF S ≤ 96 := by unfold monthsF; have := hy.1; omega
  omega
set_option maxRecDepth 100000 in
set_option maxHeartbeats 4000000 in
theorem c_X5_search (S : wW) : w_Ct yX5_search cX5_search 9 0 5 125 (p_X5_search S) (q_X5_search S) := by
  refine w_met (own := RX5) (fl := w_fl5) (gs := w_gs5) (kl := w_kl5) (ki := w_ki5) (cs := [(97, (0, 5, 1, (p_X5_costBelow S), (q_X5_costBelow S)))]) (by decide +kernel) rfl ?_ w_flok5 w_gsok5 w_klok5 w_kiok5 ?_ ?_
  · intro av w h
    unfold p_X5_search at h
    split at h
    · simp [w_pos, w_cat]
    · exact h.elim
  · exact List.forall_mem_cons.mpr ⟨⟨_, _, w_callV (own := RX5) (idx := 97) (ci := 5) (c_X5_costBelow S) rfl rfl (h_X5_costBelow S) (w_m3 206 (by decide +kernel) (by decide +kernel)) (w_m3 208 (by decide +kernel) (by decide +kernel)) (w_m0 21 (by decide +kernel) (by decide +kernel)) (w_m1 10 (by decide +kernel) (by decide +kernel)) (w_m3 209 (by decide +kernel) (by decide +kernel)) ⟨by decide +kernel, by decide +kernel, by decide +kernel⟩, by decide, by decide⟩, fun _ h => absurd h List.not_mem_nil⟩
  intro av w hp
  unfold p_X5_search at hp
  split at hp
  case h_2 => exact hp.elim
  rename_i this a price roof mm
  intro G hG
  simp only [w_ent, w_pos, w_cat, Nat.reduceEqDiff, ↓reduceIte, List.length_cons, List.length_nil, Nat.reduceAdd, Nat.reduceSub, List.cons_append, List.nil_append, List.replicate_succ, List.replicate_zero]
  obtain ⟨rfl, hS, hXw, ⟨hy, hyX⟩, hr, h3, hpr, hro, hmm⟩ := hp
  have ha := hr.1
  have hA := hS.2.1
  obtain ⟨mm, rfl⟩ : ∃ n : Nat, mm = n := ⟨mm.toNat, by omega⟩
  have hT := fun {e s : Nat} (he : e ≤ 5) (hs : s ≤ 200) => seT_in hS hy hr h3 hpr hro he hs
  have hT0 : ∀ i j, i ≤ 5 → j < 201 → 0 ≤ seT S price roof (rX w a) i j := fun i j hi hj => by
    have := hT hi (show j ≤ 200 by omega)
    unfold seT
    omega
  have hO := fun n (hn : n ≤ 6) => seO_in (t := seT S price roof (rX w a)) (x := (1073741824, w 90 6, w 90 7)) (M := 1073741824) (by simp) n (fun i j hi hj => hT0 i j (by omega) hj)
  have inner : ∀ e : Nat, e ≤ mm → (∀ w1, seV S w a (seO (seT S price roof (rX w a)) (1073741824, w 90 6, w 90 7) (e + 1)) w1 → ∀ x6 x7 x8, G 117 [some (vr 90), some (vr a), some (vi price), some (vi roof), some (vi mm), some (vi e), x6, x7, x8] [] w1) →
      ∀ n s : Nat, s + n = 201 → ∀ w1, seV S w a (seI (seT S price roof (rX w a) e) e (seO (seT S price roof (rX w a)) (1073741824, w 90 6, w 90 7) e) s) w1 → ∀ x7 x8 : Option wV, G 19 [some (vr 90), some (vr a), some (vi price), some (vi roof), some (vi mm), some (vi e), some (vi s), x7, x8] [] w1 := by
    intro e he hnext n
    have hIn := fun s (hs : s ≤ 201) => seI_in (t := seT S price roof (rX w a) e) (e := e) (hO e (by omega)) s (fun j hj => hT0 e j (by omega) (by omega))
    induction n with
    | zero =>
      intro s hs w1 hw1 x7 x8
      have e1 : s = 201 := by omega
      subst e1
      have e1 := hnext w1 hw1
      (apply hG [19, 117, 9] 2000; simp only [w_br_i, w_ite, w_all, w_all0, forall_eq, w_b0, w_b1, ↓reduceIte, w_ent, w_pos, List.replicate_succ, List.replicate_zero, wp_s, wk_s, w_lk_c, w_ld0, w_ldS, w_kp0, w_kp, w_s1, w_s2, w_to, w_if, w_call, w_sw, w_cat, w_cats, w_psh, w_fv, List.contains_cons, List.contains_nil, List.set_cons_zero, List.set_cons_succ, List.length_cons, List.length_nil, List.find?_cons, List.find?_nil, List.take_succ_cons, List.take_zero, List.drop_succ_cons, List.drop_zero, List.reverse_cons, List.reverse_nil, List.nil_append, List.cons_append, Option.map_some, Option.map_none, Nat.reduceAdd, Nat.reduceBEq, Nat.reduceEqDiff, Nat.reduceLT, Nat.reduceLeDiff, Nat.reduceSub, Int.reduceAdd, Int.reduceSub, Int.reduceMul, Int.reduceNeg, Int.reduceToNat, Int.reduceLT, Int.reduceLE, Int.reduceEq, Bool.false_eq_true, Bool.or_false, Bool.false_or, Bool.true_or, Bool.or_true, if_true, if_false, ite_true, ite_false, true_and, and_true, false_and, and_false, true_or, or_true, false_or, or_false, Int.cast_ofNat_Int, Int.toNat_natCast, Int.natCast_add, List.getElem?_cons_zero, List.getElem?_cons_succ, true_implies, forall_const, not_true_eq_false, not_false_eq_true, ne_eq, beq_iff_eq, imp_self, List.length_set, Nat.zero_add, Nat.add_zero, Int.zero_add, Int.add_zero, w1_aload_n_0, w1_ldc, w1_putfield, w1_putfield2, w1_iconst, w1_istore, w1_iload, w1_if_icmp, w1_sipush, w1_iload_n_2, w1_imul, w1_iload_n_3, w1_iadd, w1_getfield, w1_goto, w1_aload_n_1, w1_iaload, w1_isub, w1_invokevirtual, w1_iinc, w1_return, dX5_search_0, dX5_search_1, dX5_search_3, dX5_search_6, dX5_search_7, dX5_search_9, dX5_search_11, dX5_search_13, dX5_search_16, dX5_search_17, dX5_search_19, dX5_search_21, dX5_search_24, dX5_search_27, dX5_search_28, dX5_search_30, dX5_search_31, dX5_search_32, dX5_search_34, dX5_search_35, dX5_search_36, dX5_search_38, dX5_search_40, dX5_search_41, dX5_search_44, dX5_search_47, dX5_search_50, dX5_search_51, dX5_search_52, dX5_search_53, dX5_search_56, dX5_search_59, dX5_search_60, dX5_search_61, dX5_search_63, dX5_search_64, dX5_search_66, dX5_search_67, dX5_search_70, dX5_search_72, dX5_search_73, dX5_search_76, dX5_search_78, dX5_search_80, dX5_search_81, dX5_search_84, dX5_search_86, dX5_search_87, dX5_search_90, dX5_search_91, dX5_search_93, dX5_search_95, dX5_search_96, dX5_search_99, dX5_search_100, dX5_search_102, dX5_search_105, dX5_search_106, dX5_search_108, dX5_search_111, dX5_search_114, dX5_search_117, dX5_search_120, dX5_search_123, w_flk5_18, w_flk5_87, w_flk5_94, w_kik5_93, w_flk5_101, w_flk5_104, w_kd_90, w_rf_90_0, w_rf_90_1, w_rf_90_2, w_rf_90_3, w_rf_90_4])
      (repeat' (with_reducible (first | refine And.intro ?_ ?_ | intro _))) <;> (try (first | assumption | contradiction | exact Or.inl trivial | exact Or.inl rfl | exact Or.inr rfl | (simp only [inI, inL]; omega) | omega))
      all_goals exact e1 _ _ _
    | succ n ih =>
      intro s hs w1 hw1 x7 x8
      have hts := hT (show e ≤ 5 by omega) (show s ≤ 200 by omega)
      have hXi := hIn s (by omega)
      have hw8 := hw1.2.1
      have s0 : w1 5 0 = S 0 0 := by rw [hw1.1 5 0 (by decide)]; exact hXw.2.1 0 (by decide)
      by_cases hb : price * s + roof * e < w1 90 8
      · have hpc : p_X5_costBelow S [vr 90, vr a, vi (S 0 0 + e), vi s, vi (w1 90 8 - (price * s + roof * e))] w1 := by
          refine ⟨rfl, hS, hX_ev hXw hw1.1, ⟨hy, ?_⟩, rR_ev hr hw1.1, plA_no (by rw [hw1.1 a 1 (by omega)]; exact h3), by omega, by omega, by omega⟩
          exact ⟨by rw [hw1.1 11 1 (by decide)]; exact hyX.1, fun y m hy' hm => by rw [hw1.1 _ _ (by have := hy.1; omega)]; exact hyX.2 y m hy' hm⟩
        have e76 : ∀ r w2, q_X5_costBelow S [vr 90, vr a, vi (S 0 0 + e), vi s, vi (w1 90 8 - (price * s + roof * e))] w1 r w2 → G 76 [some (vr 90), some (vr a), some (vi price), some (vi roof), some (vi mm), some (vi e), some (vi s), some (vi (price * s + roof * e)), x8] [vi r] w2 := by
          intro r w2 hq
          simp only [q_X5_costBelow] at hq
          obtain ⟨hr2, hev, h90, -, -⟩ := hq
          rw [rnM_ev ha hw1.1] at hr2
          have hw28 := h90 8
          have hrr : 0 ≤ r ∧ r ≤ 2147483647 := by rw [hr2]; unfold cbF; split <;> omega
          have ev2 : ev 88 92 w w2 := fun k i hk => by rw [hev k i hk, hw1.1 k i hk]
          by_cases hc : r < w1 90 8 - (price * s + roof * e)
          · have er : r = sm (rnM (runE S (S 0 0 + e) s (rX w a))) (monthsF S) := by
              rw [hr2] at hc ⊢
              unfold cbF at hc ⊢
              split
              · rfl
              · rename_i q; rw [if_neg q] at hc; omega
            have eT : price * s + roof * e + r = seT S price roof (rX w a) e s := by rw [er]; rfl
            have e1 := ih (s + 1) (by omega) (w_up (w_up (w_up w2 90 8 (price * s + roof * e + r)) 90 6 s) 90 7 e) (by
              simp only [seI, stp]
              rw [if_pos (by omega)]
              refine ⟨fun k i hk => ?_, ?_, ?_, ?_⟩
              · rw [up_k (by omega), up_k (by omega), up_k (by omega)]; exact ev2 k i hk
              · rw [up_ne (by decide), up_ne (by decide), up_eq, eT]
              · rw [up_ne (by decide), up_eq]
              · rw [up_eq])
            simp only [Int.natCast_add, Int.cast_ofNat_Int] at e1
            (apply hG [19, 117, 9] 2000; simp only [w_br_i, w_ite, w_all, w_all0, forall_eq, w_b0, w_b1, ↓reduceIte, w_ent, w_pos, List.replicate_succ, List.replicate_zero, wp_s, wk_s, w_lk_c, w_ld0, w_ldS, w_kp0, w_kp, w_s1, w_s2, w_to, w_if, w_call, w_sw, w_cat, w_cats, w_psh, w_fv, List.contains_cons, List.contains_nil, List.set_cons_zero, List.set_cons_succ, List.length_cons, List.length_nil, List.find?_cons, List.find?_nil, List.take_succ_cons, List.take_zero, List.drop_succ_cons, List.drop_zero, List.reverse_cons, List.reverse_nil, List.nil_append, List.cons_append, Option.map_some, Option.map_none, Nat.reduceAdd, Nat.reduceBEq, Nat.reduceEqDiff, Nat.reduceLT, Nat.reduceLeDiff, Nat.reduceSub, Int.reduceAdd, Int.reduceSub, Int.reduceMul, Int.reduceNeg, Int.reduceToNat, Int.reduceLT, Int.reduceLE, Int.reduceEq, Bool.false_eq_true, Bool.or_false, Bool.false_or, Bool.true_or, Bool.or_true, if_true, if_false, ite_true, ite_false, true_and, and_true, false_and, and_false, true_or, or_true, false_or, or_false, Int.cast_ofNat_Int, Int.toNat_natCast, Int.natCast_add, List.getElem?_cons_zero, List.getElem?_cons_succ, true_implies, forall_const, not_true_eq_false, not_false_eq_true, ne_eq, beq_iff_eq, imp_self, List.length_set, Nat.zero_add, Nat.add_zero, Int.zero_add, Int.add_zero, w1_aload_n_0, w1_ldc, w1_putfield, w1_putfield2, w1_iconst, w1_istore, w1_iload, w1_if_icmp, w1_sipush, w1_iload_n_2, w1_imul, w1_iload_n_3, w1_iadd, w1_getfield, w1_goto, w1_aload_n_1, w1_iaload, w1_isub, w1_invokevirtual, w1_iinc, w1_return, dX5_search_0, dX5_search_1, dX5_search_3, dX5_search_6, dX5_search_7, dX5_search_9, dX5_search_11, dX5_search_13, dX5_search_16, dX5_search_17, dX5_search_19, dX5_search_21, dX5_search_24, dX5_search_27, dX5_search_28, dX5_search_30, dX5_search_31, dX5_search_32, dX5_search_34, dX5_search_35, dX5_search_36, dX5_search_38, dX5_search_40, dX5_search_41, dX5_search_44, dX5_search_47, dX5_search_50, dX5_search_51, dX5_search_52, dX5_search_53, dX5_search_56, dX5_search_59, dX5_search_60, dX5_search_61, dX5_search_63, dX5_search_64, dX5_search_66, dX5_search_67, dX5_search_70, dX5_search_72, dX5_search_73, dX5_search_76, dX5_search_78, dX5_search_80, dX5_search_81, dX5_search_84, dX5_search_86, dX5_search_87, dX5_search_90, dX5_search_91, dX5_search_93, dX5_search_95, dX5_search_96, dX5_search_99, dX5_search_100, dX5_search_102, dX5_search_105, dX5_search_106, dX5_search_108, dX5_search_111, dX5_search_114, dX5_search_117, dX5_search_120, dX5_search_123, w_flk5_18, w_flk5_87, w_flk5_94, w_kik5_93, w_flk5_101, w_flk5_104, w_kd_90, w_rf_90_0, w_rf_90_1, w_rf_90_2, w_rf_90_3, w_rf_90_4, hw28])
            (repeat' (with_reducible (first | refine And.intro ?_ ?_ | intro _))) <;> (try (first | assumption | contradiction | exact Or.inl trivial | exact Or.inl rfl | exact Or.inr rfl | (simp only [inI, inL]; omega) | omega))
            all_goals first
              | exact e1 _ _
              | (exfalso; omega)
          · have e1 := ih (s + 1) (by omega) w2 (by
              simp only [seI, stp]
              rw [if_neg (by
                have : w1 90 8 - (price * s + roof * e) ≤ sm (rnM (runE S (S 0 0 + e) s (rX w a))) (monthsF S) := by
                  rw [hr2] at hc
                  unfold cbF at hc
                  split at hc <;> omega
                have eT : seT S price roof (rX w a) e s = price * s + roof * e + sm (rnM (runE S (S 0 0 + e) s (rX w a))) (monthsF S) := rfl
                omega)]
              exact ⟨ev2, by rw [h90]; exact hw1.2.1, by rw [h90]; exact hw1.2.2.1, by rw [h90]; exact hw1.2.2.2⟩)
            simp only [Int.natCast_add, Int.cast_ofNat_Int] at e1
            (apply hG [19, 117, 9] 2000; simp only [w_br_i, w_ite, w_all, w_all0, forall_eq, w_b0, w_b1, ↓reduceIte, w_ent, w_pos, List.replicate_succ, List.replicate_zero, wp_s, wk_s, w_lk_c, w_ld0, w_ldS, w_kp0, w_kp, w_s1, w_s2, w_to, w_if, w_call, w_sw, w_cat, w_cats, w_psh, w_fv, List.contains_cons, List.contains_nil, List.set_cons_zero, List.set_cons_succ, List.length_cons, List.length_nil, List.find?_cons, List.find?_nil, List.take_succ_cons, List.take_zero, List.drop_succ_cons, List.drop_zero, List.reverse_cons, List.reverse_nil, List.nil_append, List.cons_append, Option.map_some, Option.map_none, Nat.reduceAdd, Nat.reduceBEq, Nat.reduceEqDiff, Nat.reduceLT, Nat.reduceLeDiff, Nat.reduceSub, Int.reduceAdd, Int.reduceSub, Int.reduceMul, Int.reduceNeg, Int.reduceToNat, Int.reduceLT, Int.reduceLE, Int.reduceEq, Bool.false_eq_true, Bool.or_false, Bool.false_or, Bool.true_or, Bool.or_true, if_true, if_false, ite_true, ite_false, true_and, and_true, false_and, and_false, true_or, or_true, false_or, or_false, Int.cast_ofNat_Int, Int.toNat_natCast, Int.natCast_add, List.getElem?_cons_zero, List.getElem?_cons_succ, true_implies, forall_const, not_true_eq_false, not_false_eq_true, ne_eq, beq_iff_eq, imp_self, List.length_set, Nat.zero_add, Nat.add_zero, Int.zero_add, Int.add_zero, w1_aload_n_0, w1_ldc, w1_putfield, w1_putfield2, w1_iconst, w1_istore, w1_iload, w1_if_icmp, w1_sipush, w1_iload_n_2, w1_imul, w1_iload_n_3, w1_iadd, w1_getfield, w1_goto, w1_aload_n_1, w1_iaload, w1_isub, w1_invokevirtual, w1_iinc, w1_return, dX5_search_0, dX5_search_1, dX5_search_3, dX5_search_6, dX5_search_7, dX5_search_9, dX5_search_11, dX5_search_13, dX5_search_16, dX5_search_17, dX5_search_19, dX5_search_21, dX5_search_24, dX5_search_27, dX5_search_28, dX5_search_30, dX5_search_31, dX5_search_32, dX5_search_34, dX5_search_35, dX5_search_36, dX5_search_38, dX5_search_40, dX5_search_41, dX5_search_44, dX5_search_47, dX5_search_50, dX5_search_51, dX5_search_52, dX5_search_53, dX5_search_56, dX5_search_59, dX5_search_60, dX5_search_61, dX5_search_63, dX5_search_64, dX5_search_66, dX5_search_67, dX5_search_70, dX5_search_72, dX5_search_73, dX5_search_76, dX5_search_78, dX5_search_80, dX5_search_81, dX5_search_84, dX5_search_86, dX5_search_87, dX5_search_90, dX5_search_91, dX5_search_93, dX5_search_95, dX5_search_96, dX5_search_99, dX5_search_100, dX5_search_102, dX5_search_105, dX5_search_106, dX5_search_108, dX5_search_111, dX5_search_114, dX5_search_117, dX5_search_120, dX5_search_123, w_flk5_18, w_flk5_87, w_flk5_94, w_kik5_93, w_flk5_101, w_flk5_104, w_kd_90, w_rf_90_0, w_rf_90_1, w_rf_90_2, w_rf_90_3, w_rf_90_4, hw28])
            (repeat' (with_reducible (first | refine And.intro ?_ ?_ | intro _))) <;> (try (first | assumption | contradiction | exact Or.inl trivial | exact Or.inl rfl | exact Or.inr rfl | (simp only [inI, inL]; omega) | omega))
            all_goals first
              | exact e1 _ _
              | (exfalso; omega)
        (apply hG [19, 76, 117, 9] 2000; simp only [w_br_i, w_ite, w_all, w_all0, forall_eq, w_b0, w_b1, ↓reduceIte, w_ent, w_pos, List.replicate_succ, List.replicate_zero, wp_s, wk_s, w_lk_c, w_ld0, w_ldS, w_kp0, w_kp, w_s1, w_s2, w_to, w_if, w_call, w_sw, w_cat, w_cats, w_psh, w_fv, List.contains_cons, List.contains_nil, List.set_cons_zero, List.set_cons_succ, List.length_cons, List.length_nil, List.find?_cons, List.find?_nil, List.take_succ_cons, List.take_zero, List.drop_succ_cons, List.drop_zero, List.reverse_cons, List.reverse_nil, List.nil_append, List.cons_append, Option.map_some, Option.map_none, Nat.reduceAdd, Nat.reduceBEq, Nat.reduceEqDiff, Nat.reduceLT, Nat.reduceLeDiff, Nat.reduceSub, Int.reduceAdd, Int.reduceSub, Int.reduceMul, Int.reduceNeg, Int.reduceToNat, Int.reduceLT, Int.reduceLE, Int.reduceEq, Bool.false_eq_true, Bool.or_false, Bool.false_or, Bool.true_or, Bool.or_true, if_true, if_false, ite_true, ite_false, true_and, and_true, false_and, and_false, true_or, or_true, false_or, or_false, Int.cast_ofNat_Int, Int.toNat_natCast, Int.natCast_add, List.getElem?_cons_zero, List.getElem?_cons_succ, true_implies, forall_const, not_true_eq_false, not_false_eq_true, ne_eq, beq_iff_eq, imp_self, List.length_set, Nat.zero_add, Nat.add_zero, Int.zero_add, Int.add_zero, w1_aload_n_0, w1_ldc, w1_putfield, w1_putfield2, w1_iconst, w1_istore, w1_iload, w1_if_icmp, w1_sipush, w1_iload_n_2, w1_imul, w1_iload_n_3, w1_iadd, w1_getfield, w1_goto, w1_aload_n_1, w1_iaload, w1_isub, w1_invokevirtual, w1_iinc, w1_return, dX5_search_0, dX5_search_1, dX5_search_3, dX5_search_6, dX5_search_7, dX5_search_9, dX5_search_11, dX5_search_13, dX5_search_16, dX5_search_17, dX5_search_19, dX5_search_21, dX5_search_24, dX5_search_27, dX5_search_28, dX5_search_30, dX5_search_31, dX5_search_32, dX5_search_34, dX5_search_35, dX5_search_36, dX5_search_38, dX5_search_40, dX5_search_41, dX5_search_44, dX5_search_47, dX5_search_50, dX5_search_51, dX5_search_52, dX5_search_53, dX5_search_56, dX5_search_59, dX5_search_60, dX5_search_61, dX5_search_63, dX5_search_64, dX5_search_66, dX5_search_67, dX5_search_70, dX5_search_72, dX5_search_73, dX5_search_76, dX5_search_78, dX5_search_80, dX5_search_81, dX5_search_84, dX5_search_86, dX5_search_87, dX5_search_90, dX5_search_91, dX5_search_93, dX5_search_95, dX5_search_96, dX5_search_99, dX5_search_100, dX5_search_102, dX5_search_105, dX5_search_106, dX5_search_108, dX5_search_111, dX5_search_114, dX5_search_117, dX5_search_120, dX5_search_123, w_flk5_18, w_flk5_87, w_flk5_94, w_kik5_93, w_flk5_101, w_flk5_104, w_kd_4, w_rf_4_0, w_rf_4_1, w_rf_4_2, w_rf_4_3, w_rf_4_4, w_rf_4_5, w_kd_5, w_ln_5, w_kd_90, w_rf_90_0, w_rf_90_1, w_rf_90_2, w_rf_90_3, w_rf_90_4, s0, hpc])
        (repeat' (with_reducible (first | refine And.intro ?_ ?_ | intro _))) <;> (try (first | assumption | contradiction | exact Or.inl trivial | exact Or.inl rfl | exact Or.inr rfl | (simp only [inI, inL]; omega) | omega))
        all_goals first
          | exact e76 _ _ (by assumption)
          | (exfalso; omega)
      · have e1 := hnext w1 (by
          have e2 : seI (seT S price roof (rX w a) e) e (seO (seT S price roof (rX w a)) (1073741824, w 90 6, w 90 7) e) 201 = _ := seI_stop (s := s) 201 (fun j h1 h2 => by
            have hj := hT (show e ≤ 5 by omega) (show j ≤ 200 by omega)
            have hmo : price * s ≤ price * j := Int.mul_le_mul_of_nonneg_left (by omega) hpr.1
            have eT : seT S price roof (rX w a) e j = price * j + roof * e + sm (rnM (runE S (S 0 0 + e) j (rX w a))) (monthsF S) := rfl
            omega) (by omega)
          simp only [seO]
          rw [e2]
          exact hw1)
        (apply hG [19, 76, 117, 9] 2000; simp only [w_br_i, w_ite, w_all, w_all0, forall_eq, w_b0, w_b1, ↓reduceIte, w_ent, w_pos, List.replicate_succ, List.replicate_zero, wp_s, wk_s, w_lk_c, w_ld0, w_ldS, w_kp0, w_kp, w_s1, w_s2, w_to, w_if, w_call, w_sw, w_cat, w_cats, w_psh, w_fv, List.contains_cons, List.contains_nil, List.set_cons_zero, List.set_cons_succ, List.length_cons, List.length_nil, List.find?_cons, List.find?_nil, List.take_succ_cons, List.take_zero, List.drop_succ_cons, List.drop_zero, List.reverse_cons, List.reverse_nil, List.nil_append, List.cons_append, Option.map_some, Option.map_none, Nat.reduceAdd, Nat.reduceBEq, Nat.reduceEqDiff, Nat.reduceLT, Nat.reduceLeDiff, Nat.reduceSub, Int.reduceAdd, Int.reduceSub, Int.reduceMul, Int.reduceNeg, Int.reduceToNat, Int.reduceLT, Int.reduceLE, Int.reduceEq, Bool.false_eq_true, Bool.or_false, Bool.false_or, Bool.true_or, Bool.or_true, if_true, if_false, ite_true, ite_false, true_and, and_true, false_and, and_false, true_or, or_true, false_or, or_false, Int.cast_ofNat_Int, Int.toNat_natCast, Int.natCast_add, List.getElem?_cons_zero, List.getElem?_cons_succ, true_implies, forall_const, not_true_eq_false, not_false_eq_true, ne_eq, beq_iff_eq, imp_self, List.length_set, Nat.zero_add, Nat.add_zero, Int.zero_add, Int.add_zero, w1_aload_n_0, w1_ldc, w1_putfield, w1_putfield2, w1_iconst, w1_istore, w1_iload, w1_if_icmp, w1_sipush, w1_iload_n_2, w1_imul, w1_iload_n_3, w1_iadd, w1_getfield, w1_goto, w1_aload_n_1, w1_iaload, w1_isub, w1_invokevirtual, w1_iinc, w1_return, dX5_search_0, dX5_search_1, dX5_search_3, dX5_search_6, dX5_search_7, dX5_search_9, dX5_search_11, dX5_search_13, dX5_search_16, dX5_search_17, dX5_search_19, dX5_search_21, dX5_search_24, dX5_search_27, dX5_search_28, dX5_search_30, dX5_search_31, dX5_search_32, dX5_search_34, dX5_search_35, dX5_search_36, dX5_search_38, dX5_search_40, dX5_search_41, dX5_search_44, dX5_search_47, dX5_search_50, dX5_search_51, dX5_search_52, dX5_search_53, dX5_search_56, dX5_search_59, dX5_search_60, dX5_search_61, dX5_search_63, dX5_search_64, dX5_search_66, dX5_search_67, dX5_search_70, dX5_search_72, dX5_search_73, dX5_search_76, dX5_search_78, dX5_search_80, dX5_search_81, dX5_search_84, dX5_search_86, dX5_search_87, dX5_search_90, dX5_search_91, dX5_search_93, dX5_search_95, dX5_search_96, dX5_search_99, dX5_search_100, dX5_search_102, dX5_search_105, dX5_search_106, dX5_search_108, dX5_search_111, dX5_search_114, dX5_search_117, dX5_search_120, dX5_search_123, w_flk5_18, w_flk5_87, w_flk5_94, w_kik5_93, w_flk5_101, w_flk5_104, w_kd_90, w_rf_90_0, w_rf_90_1, w_rf_90_2, w_rf_90_3, w_rf_90_4])
        (repeat' (with_reducible (first | refine And.intro ?_ ?_ | intro _))) <;> (try (first | assumption | contradiction | exact Or.inl trivial | exact Or.inl rfl | exact Or.inr rfl | (simp only [inI, inL]; omega) | omega))
        all_goals first
          | exact e1 _ _ _
          | (exfalso; omega)
  have outer : ∀ n e : Nat, e + n = mm + 1 → ∀ w1, seV S w a (seO (seT S price roof (rX w a)) (1073741824, w 90 6, w 90 7) e) w1 → ∀ x6 x7 x8 : Option wV, G 9 [some (vr 90), some (vr a), some (vi price), some (vi roof), some (vi mm), some (vi e), x6, x7, x8] [] w1 := by
    intro n
    induction n with
    | zero =>
      intro e he w1 hw1 x6 x7 x8
      have e1 : e = mm + 1 := by omega
      subst e1
      simp only [Int.natCast_add, Int.cast_ofNat_Int]
      (apply hG [9, 19] 2000; simp only [w_br_i, w_ite, w_all, w_all0, forall_eq, w_b0, w_b1, ↓reduceIte, w_ent, w_pos, List.replicate_succ, List.replicate_zero, wp_s, wk_s, w_lk_c, w_ld0, w_ldS, w_kp0, w_kp, w_s1, w_s2, w_to, w_if, w_call, w_sw, w_cat, w_cats, w_psh, w_fv, List.contains_cons, List.contains_nil, List.set_cons_zero, List.set_cons_succ, List.length_cons, List.length_nil, List.find?_cons, List.find?_nil, List.take_succ_cons, List.take_zero, List.drop_succ_cons, List.drop_zero, List.reverse_cons, List.reverse_nil, List.nil_append, List.cons_append, Option.map_some, Option.map_none, Nat.reduceAdd, Nat.reduceBEq, Nat.reduceEqDiff, Nat.reduceLT, Nat.reduceLeDiff, Nat.reduceSub, Int.reduceAdd, Int.reduceSub, Int.reduceMul, Int.reduceNeg, Int.reduceToNat, Int.reduceLT, Int.reduceLE, Int.reduceEq, Bool.false_eq_true, Bool.or_false, Bool.false_or, Bool.true_or, Bool.or_true, if_true, if_false, ite_true, ite_false, true_and, and_true, false_and, and_false, true_or, or_true, false_or, or_false, Int.cast_ofNat_Int, Int.toNat_natCast, Int.natCast_add, List.getElem?_cons_zero, List.getElem?_cons_succ, true_implies, forall_const, not_true_eq_false, not_false_eq_true, ne_eq, beq_iff_eq, imp_self, List.length_set, Nat.zero_add, Nat.add_zero, Int.zero_add, Int.add_zero, w1_aload_n_0, w1_ldc, w1_putfield, w1_putfield2, w1_iconst, w1_istore, w1_iload, w1_if_icmp, w1_sipush, w1_iload_n_2, w1_imul, w1_iload_n_3, w1_iadd, w1_getfield, w1_goto, w1_aload_n_1, w1_iaload, w1_isub, w1_invokevirtual, w1_iinc, w1_return, dX5_search_0, dX5_search_1, dX5_search_3, dX5_search_6, dX5_search_7, dX5_search_9, dX5_search_11, dX5_search_13, dX5_search_16, dX5_search_17, dX5_search_19, dX5_search_21, dX5_search_24, dX5_search_27, dX5_search_28, dX5_search_30, dX5_search_31, dX5_search_32, dX5_search_34, dX5_search_35, dX5_search_36, dX5_search_38, dX5_search_40, dX5_search_41, dX5_search_44, dX5_search_47, dX5_search_50, dX5_search_51, dX5_search_52, dX5_search_53, dX5_search_56, dX5_search_59, dX5_search_60, dX5_search_61, dX5_search_63, dX5_search_64, dX5_search_66, dX5_search_67, dX5_search_70, dX5_search_72, dX5_search_73, dX5_search_76, dX5_search_78, dX5_search_80, dX5_search_81, dX5_search_84, dX5_search_86, dX5_search_87, dX5_search_90, dX5_search_91, dX5_search_93, dX5_search_95, dX5_search_96, dX5_search_99, dX5_search_100, dX5_search_102, dX5_search_105, dX5_search_106, dX5_search_108, dX5_search_111, dX5_search_114, dX5_search_117, dX5_search_120, dX5_search_123, w_flk5_18, w_flk5_87, w_flk5_94, w_kik5_93, w_flk5_101, w_flk5_104, w_kd_90, w_rf_90_0, w_rf_90_1, w_rf_90_2, w_rf_90_3, w_rf_90_4])
      (repeat' (with_reducible (first | refine And.intro ?_ ?_ | intro _))) <;> (try (first | assumption | contradiction | exact Or.inl trivial | exact Or.inl rfl | exact Or.inr rfl | (simp only [inI, inL]; omega) | omega))
      all_goals first
        | (simp only [q_X5_search, seR, Int.toNat_natCast]; exact hw1)
        | (exfalso; omega)
    | succ n ih =>
      intro e he w1 hw1 x6 x7 x8
      have e1 := inner e (by omega) (fun w1 hw1 x6 x7 x8 => by
        have e1 := ih (e + 1) (by omega) w1 hw1 x6 x7 x8
        simp only [Int.natCast_add, Int.cast_ofNat_Int] at e1
        (apply hG [9, 19] 2000; simp only [w_br_i, w_ite, w_all, w_all0, forall_eq, w_b0, w_b1, ↓reduceIte, w_ent, w_pos, List.replicate_succ, List.replicate_zero, wp_s, wk_s, w_lk_c, w_ld0, w_ldS, w_kp0, w_kp, w_s1, w_s2, w_to, w_if, w_call, w_sw, w_cat, w_cats, w_psh, w_fv, List.contains_cons, List.contains_nil, List.set_cons_zero, List.set_cons_succ, List.length_cons, List.length_nil, List.find?_cons, List.find?_nil, List.take_succ_cons, List.take_zero, List.drop_succ_cons, List.drop_zero, List.reverse_cons, List.reverse_nil, List.nil_append, List.cons_append, Option.map_some, Option.map_none, Nat.reduceAdd, Nat.reduceBEq, Nat.reduceEqDiff, Nat.reduceLT, Nat.reduceLeDiff, Nat.reduceSub, Int.reduceAdd, Int.reduceSub, Int.reduceMul, Int.reduceNeg, Int.reduceToNat, Int.reduceLT, Int.reduceLE, Int.reduceEq, Bool.false_eq_true, Bool.or_false, Bool.false_or, Bool.true_or, Bool.or_true, if_true, if_false, ite_true, ite_false, true_and, and_true, false_and, and_false, true_or, or_true, false_or, or_false, Int.cast_ofNat_Int, Int.toNat_natCast, Int.natCast_add, List.getElem?_cons_zero, List.getElem?_cons_succ, true_implies, forall_const, not_true_eq_false, not_false_eq_true, ne_eq, beq_iff_eq, imp_self, List.length_set, Nat.zero_add, Nat.add_zero, Int.zero_add, Int.add_zero, w1_aload_n_0, w1_ldc, w1_putfield, w1_putfield2, w1_iconst, w1_istore, w1_iload, w1_if_icmp, w1_sipush, w1_iload_n_2, w1_imul, w1_iload_n_3, w1_iadd, w1_getfield, w1_goto, w1_aload_n_1, w1_iaload, w1_isub, w1_invokevirtual, w1_iinc, w1_return, dX5_search_0, dX5_search_1, dX5_search_3, dX5_search_6, dX5_search_7, dX5_search_9, dX5_search_11, dX5_search_13, dX5_search_16, dX5_search_17, dX5_search_19, dX5_search_21, dX5_search_24, dX5_search_27, dX5_search_28, dX5_search_30, dX5_search_31, dX5_search_32, dX5_search_34, dX5_search_35, dX5_search_36, dX5_search_38, dX5_search_40, dX5_search_41, dX5_search_44, dX5_search_47, dX5_search_50, dX5_search_51, dX5_search_52, dX5_search_53, dX5_search_56, dX5_search_59, dX5_search_60, dX5_search_61, dX5_search_63, dX5_search_64, dX5_search_66, dX5_search_67, dX5_search_70, dX5_search_72, dX5_search_73, dX5_search_76, dX5_search_78, dX5_search_80, dX5_search_81, dX5_search_84, dX5_search_86, dX5_search_87, dX5_search_90, dX5_search_91, dX5_search_93, dX5_search_95, dX5_search_96, dX5_search_99, dX5_search_100, dX5_search_102, dX5_search_105, dX5_search_106, dX5_search_108, dX5_search_111, dX5_search_114, dX5_search_117, dX5_search_120, dX5_search_123, w_flk5_18, w_flk5_87, w_flk5_94, w_kik5_93, w_flk5_101, w_flk5_104, w_kd_90, w_rf_90_0, w_rf_90_1, w_rf_90_2, w_rf_90_3, w_rf_90_4])
        exact e1) 201 0 rfl w1 hw1
      simp only [Int.cast_ofNat_Int] at e1
      (apply hG [19, 9] 2000; simp only [w_br_i, w_ite, w_all, w_all0, forall_eq, w_b0, w_b1, ↓reduceIte, w_ent, w_pos, List.replicate_succ, List.replicate_zero, wp_s, wk_s, w_lk_c, w_ld0, w_ldS, w_kp0, w_kp, w_s1, w_s2, w_to, w_if, w_call, w_sw, w_cat, w_cats, w_psh, w_fv, List.contains_cons, List.contains_nil, List.set_cons_zero, List.set_cons_succ, List.length_cons, List.length_nil, List.find?_cons, List.find?_nil, List.take_succ_cons, List.take_zero, List.drop_succ_cons, List.drop_zero, List.reverse_cons, List.reverse_nil, List.nil_append, List.cons_append, Option.map_some, Option.map_none, Nat.reduceAdd, Nat.reduceBEq, Nat.reduceEqDiff, Nat.reduceLT, Nat.reduceLeDiff, Nat.reduceSub, Int.reduceAdd, Int.reduceSub, Int.reduceMul, Int.reduceNeg, Int.reduceToNat, Int.reduceLT, Int.reduceLE, Int.reduceEq, Bool.false_eq_true, Bool.or_false, Bool.false_or, Bool.true_or, Bool.or_true, if_true, if_false, ite_true, ite_false, true_and, and_true, false_and, and_false, true_or, or_true, false_or, or_false, Int.cast_ofNat_Int, Int.toNat_natCast, Int.natCast_add, List.getElem?_cons_zero, List.getElem?_cons_succ, true_implies, forall_const, not_true_eq_false, not_false_eq_true, ne_eq, beq_iff_eq, imp_self, List.length_set, Nat.zero_add, Nat.add_zero, Int.zero_add, Int.add_zero, w1_aload_n_0, w1_ldc, w1_putfield, w1_putfield2, w1_iconst, w1_istore, w1_iload, w1_if_icmp, w1_sipush, w1_iload_n_2, w1_imul, w1_iload_n_3, w1_iadd, w1_getfield, w1_goto, w1_aload_n_1, w1_iaload, w1_isub, w1_invokevirtual, w1_iinc, w1_return, dX5_search_0, dX5_search_1, dX5_search_3, dX5_search_6, dX5_search_7, dX5_search_9, dX5_search_11, dX5_search_13, dX5_search_16, dX5_search_17, dX5_search_19, dX5_search_21, dX5_search_24, dX5_search_27, dX5_search_28, dX5_search_30, dX5_search_31, dX5_search_32, dX5_search_34, dX5_search_35, dX5_search_36, dX5_search_38, dX5_search_40, dX5_search_41, dX5_search_44, dX5_search_47, dX5_search_50, dX5_search_51, dX5_search_52, dX5_search_53, dX5_search_56, dX5_search_59, dX5_search_60, dX5_search_61, dX5_search_63, dX5_search_64, dX5_search_66, dX5_search_67, dX5_search_70, dX5_search_72, dX5_search_73, dX5_search_76, dX5_search_78, dX5_search_80, dX5_search_81, dX5_search_84, dX5_search_86, dX5_search_87, dX5_search_90, dX5_search_91, dX5_search_93, dX5_search_95, dX5_search_96, dX5_search_99, dX5_search_100, dX5_search_102, dX5_search_105, dX5_search_106, dX5_search_108, dX5_search_111, dX5_search_114, dX5_search_117, dX5_search_120, dX5_search_123, w_flk5_18, w_flk5_87, w_flk5_94, w_kik5_93, w_flk5_101, w_flk5_104, w_kd_90, w_rf_90_0, w_rf_90_1, w_rf_90_2, w_rf_90_3, w_rf_90_4])
      (repeat' (with_reducible (first | refine And.intro ?_ ?_ | intro _))) <;> (try (first | assumption | contradiction | exact Or.inl trivial | exact Or.inl rfl | exact Or.inr rfl | (simp only [inI, inL]; omega) | omega))
      all_goals first
        | exact e1 _ _
        | (exfalso; omega)
  have e1 := outer (mm + 1) 0 (by omega) (w_up w 90 8 1073741824) ⟨fun k i hk => by rw [up_k (by omega)], by rw [up_eq]; rfl, by rw [up_ne (by decide)]; rfl, by rw [up_ne (by decide)]; rfl⟩ none none none
  simp only [Int.cast_ofNat_Int] at e1
  (apply hG [9, 19] 2000; simp only [w_br_i, w_ite, w_all, w_all0, forall_eq, w_b0, w_b1, ↓reduceIte, w_ent, w_pos, List.replicate_succ, List.replicate_zero, wp_s, wk_s, w_lk_c, w_ld0, w_ldS, w_kp0, w_kp, w_s1, w_s2, w_to, w_if, w_call, w_sw, w_cat, w_cats, w_psh, w_fv, List.contains_cons, List.contains_nil, List.set_cons_zero, List.set_cons_succ, List.length_cons, List.length_nil, List.find?_cons, List.find?_nil, List.take_succ_cons, List.take_zero, List.drop_succ_cons, List.drop_zero, List.reverse_cons, List.reverse_nil, List.nil_append, List.cons_append, Option.map_some, Option.map_none, Nat.reduceAdd, Nat.reduceBEq, Nat.reduceEqDiff, Nat.reduceLT, Nat.reduceLeDiff, Nat.reduceSub, Int.reduceAdd, Int.reduceSub, Int.reduceMul, Int.reduceNeg, Int.reduceToNat, Int.reduceLT, Int.reduceLE, Int.reduceEq, Bool.false_eq_true, Bool.or_false, Bool.false_or, Bool.true_or, Bool.or_true, if_true, if_false, ite_true, ite_false, true_and, and_true, false_and, and_false, true_or, or_true, false_or, or_false, Int.cast_ofNat_Int, Int.toNat_natCast, Int.natCast_add, List.getElem?_cons_zero, List.getElem?_cons_succ, true_implies, forall_const, not_true_eq_false, not_false_eq_true, ne_eq, beq_iff_eq, imp_self, List.length_set, Nat.zero_add, Nat.add_zero, Int.zero_add, Int.add_zero, w1_aload_n_0, w1_ldc, w1_putfield, w1_putfield2, w1_iconst, w1_istore, w1_iload, w1_if_icmp, w1_sipush, w1_iload_n_2, w1_imul, w1_iload_n_3, w1_iadd, w1_getfield, w1_goto, w1_aload_n_1, w1_iaload, w1_isub, w1_invokevirtual, w1_iinc, w1_return, dX5_search_0, dX5_search_1, dX5_search_3, dX5_search_6, dX5_search_7, dX5_search_9, dX5_search_11, dX5_search_13, dX5_search_16, dX5_search_17, dX5_search_19, dX5_search_21, dX5_search_24, dX5_search_27, dX5_search_28, dX5_search_30, dX5_search_31, dX5_search_32, dX5_search_34, dX5_search_35, dX5_search_36, dX5_search_38, dX5_search_40, dX5_search_41, dX5_search_44, dX5_search_47, dX5_search_50, dX5_search_51, dX5_search_52, dX5_search_53, dX5_search_56, dX5_search_59, dX5_search_60, dX5_search_61, dX5_search_63, dX5_search_64, dX5_search_66, dX5_search_67, dX5_search_70, dX5_search_72, dX5_search_73, dX5_search_76, dX5_search_78, dX5_search_80, dX5_search_81, dX5_search_84, dX5_search_86, dX5_search_87, dX5_search_90, dX5_search_91, dX5_search_93, dX5_search_95, dX5_search_96, dX5_search_99, dX5_search_100, dX5_search_102, dX5_search_105, dX5_search_106, dX5_search_108, dX5_search_111, dX5_search_114, dX5_search_117, dX5_search_120, dX5_search_123, w_flk5_18, w_flk5_87, w_flk5_94, w_kik5_93, w_flk5_101, w_flk5_104, w_kd_90, w_rf_90_0, w_rf_90_1, w_rf_90_2, w_rf_90_3, w_rf_90_4])
  (repeat' (with_reducible (first | refine And.intro ?_ ?_ | intro _))) <;> (try (first | assumption | contradiction | exact Or.inl trivial | exact Or.inl rfl | exact Or.inr rfl | (simp only [inI, inL]; omega) | omega))
