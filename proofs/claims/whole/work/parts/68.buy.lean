/-! the searches -/
theorem rX_S3 {T w : wW} {r : Nat} (S : wW) (h : rC T w r) (hk : ¬ w (36 + r) 1 = 3) {m : Nat} (hm : m < 12) (lv wet : Int) : rLk (rX w (36 + r) m lv wet) (rS S T r m lv wet) := by
  refine ⟨h.1, h.2.1, fun _ => ?_, fun h3 => absurd h3 hk, by show (72 : Int) ≤ 72; decide, by show (72 : Int) ≤ 72; decide⟩
  show w (36 + r + 10) m = T (40 + r) m
  rw [show 36 + r + 10 = 46 + r by omega]
  exact h.2.2 m hm
theorem seT_like {S : wW} {price roof : Int} {R R' : Nat → Int → Int → Nat → Int} {e s : Nat} (hok : okE (runE S (S 0 0 + e) s R) (monthsF S)) (h : ∀ m, m < 12 → ∀ lv wet, rLk (R m lv wet) (R' m lv wet)) : seT S price roof R e s = seT S price roof R' e s := by
  unfold seT
  rw [show sm (rnM (runE S (S 0 0 + e) s R)) (monthsF S) = sm (rnM (runE S (S 0 0 + e) s R')) (monthsF S) from sm_c _ (fun k hk => (rn_like hok (fun m hm lv wet _ _ => h m hm lv wet) k hk).2.2.2.1)]
theorem seI_c {t t' : Nat → Int} {e : Int} {x : Int × Int × Int} : ∀ n, (∀ j, j < n → t j = t' j) → seI t e x n = seI t' e x n
  | 0, _ => rfl
  | n + 1, h => by
    have ih := seI_c (e := e) (x := x) n (fun j hj => h j (by omega))
    simp only [seI, ih, h n (by omega)]
theorem seO_c {t t' : Nat → Nat → Int} {x : Int × Int × Int} : ∀ n, (∀ i j, i < n → j < 201 → t i j = t' i j) → seO t x n = seO t' x n
  | 0, _ => rfl
  | n + 1, h => by
    have ih := seO_c (x := x) n (fun i j hi hj => h i j (by omega) hj)
    simp only [seO]
    rw [ih]
    exact seI_c 201 (fun j hj => h n j (by omega) hj)
theorem seI_x {t : Nat → Int} {e M a b a' b' : Int} (h0 : t 0 < M) : ∀ n, seI t e (M, a, b) (n + 1) = seI t e (M, a', b') (n + 1)
  | 0 => by
    show stp (t 0) ((0 : Nat) : Int) e (M, a, b) = stp (t 0) ((0 : Nat) : Int) e (M, a', b')
    unfold stp
    exact (if_pos h0).trans (if_pos h0).symm
  | n + 1 => by
    have ih := seI_x (e := e) (a := a) (b := b) (a' := a') (b' := b') h0 n
    show stp (t (n + 1)) _ e (seI t e (M, a, b) (n + 1)) = stp (t (n + 1)) _ e (seI t e (M, a', b') (n + 1))
    rw [ih]
theorem seO_x {t : Nat → Nat → Int} {M a b a' b' : Int} (h0 : t 0 0 < M) : ∀ n, seO t (M, a, b) (n + 1) = seO t (M, a', b') (n + 1)
  | 0 => seI_x h0 200
  | n + 1 => by
    have ih := seO_x (a := a) (b := b) (a' := a') (b' := b') h0 n
    show seI (t (n + 1)) _ (seO t (M, a, b) (n + 1)) 201 = seI (t (n + 1)) _ (seO t (M, a', b') (n + 1)) 201
    rw [ih]
def buyX (S : wW) (price roof : Int) (R : Nat → Int → Int → Nat → Int) (n : Nat) : Int × Int × Int := seO (seT S price roof R) (1073741824, 0, 0) n
theorem seR_like {S w : wW} {a : Nat} {price roof mm : Int} {R : Nat → Int → Int → Nat → Int} (hS : hR S) (hy : yR S) (hr : rR w a) (h3 : ¬ w a 1 = 3) (hp : 0 ≤ price ∧ price ≤ 99) (hf : 0 ≤ roof ∧ roof ≤ 99) (hm : 0 ≤ mm ∧ mm ≤ 5) (h : ∀ m, m < 12 → ∀ lv wet, rLk (rX w a m lv wet) (R m lv wet)) :
    seR S w a price roof mm = buyX S price roof R (mm.toNat + 1) ∧ (0 ≤ (buyX S price roof R (mm.toNat + 1)).1 ∧ (buyX S price roof R (mm.toNat + 1)).1 ≤ 1073741824) := by
  have hA := hS.2.1
  have e1 : seR S w a price roof mm = buyX S price roof R (mm.toNat + 1) := by
    unfold seR buyX
    rw [seO_x (a' := 0) (b' := 0) (by
      have := seT_in hS hy hr h3 hp hf (e := 0) (s := 0) (by decide) (by decide)
      unfold seT
      omega) mm.toNat]
    exact seO_c _ (fun i j hi hj => seT_like (okE_run hS hy hr (plA_no h3) (by omega) (by omega)) h)
  refine ⟨e1, ?_⟩
  rw [← e1]
  unfold seR
  exact seO_in (M := 1073741824) (by simp) _ (fun i j hi hj => by
    have := seT_in hS hy hr h3 hp hf (e := i) (s := j) (by omega) (by omega)
    unfold seT
    omega)
def cheA (S T : wW) (i price what sd : Int) : Int := if i < 0 ∨ T 4 2 ≤ i then -101 else if (T 4 4 = 0 ∨ S 4 1 = 0) ∨ T 5 i.toNat = 3 then -103 else if price < 0 ∨ 99 < price then -102 else if what < 0 ∨ 1 < what then -102 else if 20 ≤ sd then -103 else
  if what = 0 then (buyX S price 0 (rS S T i.toNat) 1).2.1 else (buyX S price 0 (rS S T i.toNat) 1).1
/-- is it reckoned -/
def cheD (S T : wW) (i price what sd : Int) : Int := if i < 0 ∨ T 4 2 ≤ i then 0 else if (T 4 4 = 0 ∨ S 4 1 = 0) ∨ T 5 i.toNat = 3 then 0 else if price < 0 ∨ 99 < price then 0 else if what < 0 ∨ 1 < what then 0 else if 20 ≤ sd then 0 else 1
def evU (S w w' : wW) : Prop := (∀ k i, (k < 56 ∨ 92 < k) → ¬ (k = 0 ∧ i = 13) → w' k i = w k i) ∧ wiI S w'

def p_X9_cheapest (S T : wW) : List wV → wW → Prop := fun av w => match av with
  | [.inr (.inr (some this)), .inl i, .inl price, .inl what] => this = 0 ∧ RQ S T w ∧ inI i ∧ inI price ∧ inI what ∧ (0 ≤ w 0 13 ∧ w 0 13 ≤ 20)
  | _ => False
theorem h_X9_cheapest (S T : wW) : ∀ av w, (p_X9_cheapest S T) av w → ∃ a r, av = vr a :: r ∧ w_kd a = 100 + 9 := by
  intro av w h
  unfold p_X9_cheapest at h
  split at h
  · refine ⟨_, _, rfl, ?_⟩
    first | (rw [h.1]; rfl) | (rw [h]; rfl)
  · exact h.elim
def q_X9_cheapest (S T : wW) : List wV → wW → Int → wW → Prop := fun av w r w' => match av with
  | [.inr (.inr (some this)), .inl i, .inl price, .inl what] => r = cheA S T i price what (w 0 13) ∧ evU S w w' ∧ w' 0 13 = w 0 13 + cheD S T i price what (w 0 13)
  | _ => False
set_option maxRecDepth 100000 in
set_option maxHeartbeats 4000000 in
theorem c_X9_cheapest (S T : wW) : w_Ct yX9_cheapest cX9_cheapest 4 1 6 153 (p_X9_cheapest S T) (q_X9_cheapest S T) := by
  refine w_met (own := RX9) (fl := w_fl9) (gs := w_gs9) (kl := w_kl9) (ki := w_ki9) (cs := [(152, (0, 2, 3, p_X9_isNoRule, q_X9_isNoRule)), (180, (0, 1, 3, p_X9_lacksHouseOrYear, q_X9_lacksHouseOrYear)), (215, (1, 1, 3, p_X9_isNoPrice, q_X9_isNoPrice)), (221, (0, 5, 0, (p_X5_search S), (q_X5_search S)))]) (by decide +kernel) rfl ?_ w_flok9 w_gsok9 w_klok9 w_kiok9 ?_ ?_
  · intro av w h
    unfold p_X9_cheapest at h
    split at h
    · simp [w_pos, w_cat]
    · exact h.elim
  · exact List.forall_mem_cons.mpr ⟨⟨_, _, w_callV (own := RX9) (idx := 152) (ci := 9) c_X9_isNoRule rfl rfl h_X9_isNoRule (w_m3 46 (by decide +kernel) (by decide +kernel)) (w_m3 48 (by decide +kernel) (by decide +kernel)) (w_m0 10 (by decide +kernel) (by decide +kernel)) (w_m1 1 (by decide +kernel) (by decide +kernel)) (w_m3 49 (by decide +kernel) (by decide +kernel)) ⟨by decide +kernel, by decide +kernel, by decide +kernel⟩, by decide, by decide⟩, List.forall_mem_cons.mpr ⟨⟨_, _, w_callV (own := RX9) (idx := 180) (ci := 9) c_X9_lacksHouseOrYear rfl rfl h_X9_lacksHouseOrYear (w_m3 88 (by decide +kernel) (by decide +kernel)) (w_m3 90 (by decide +kernel) (by decide +kernel)) (w_m0 12 (by decide +kernel) (by decide +kernel)) (w_m1 1 (by decide +kernel) (by decide +kernel)) (w_m3 91 (by decide +kernel) (by decide +kernel)) ⟨by decide +kernel, by decide +kernel, by decide +kernel⟩, by decide, by decide⟩, List.forall_mem_cons.mpr ⟨⟨_, _, w_callS (own := RX9) (idx := 215) c_X9_isNoPrice (w_m3 198 (by decide +kernel) (by decide +kernel)) (w_m3 199 (by decide +kernel) (by decide +kernel)) (w_m1 1 (by decide +kernel) (by decide +kernel)) (w_m3 200 (by decide +kernel) (by decide +kernel)) ⟨by decide +kernel, by decide +kernel, by decide +kernel⟩, by decide, by decide⟩, List.forall_mem_cons.mpr ⟨⟨_, _, w_callV (own := RX9) (idx := 221) (ci := 5) (c_X5_search S) rfl rfl (h_X5_search S) (w_m3 201 (by decide +kernel) (by decide +kernel)) (w_m3 202 (by decide +kernel) (by decide +kernel)) (w_m3 203 (by decide +kernel) (by decide +kernel)) (w_m1 10 (by decide +kernel) (by decide +kernel)) (w_m3 204 (by decide +kernel) (by decide +kernel)) ⟨by decide +kernel, by decide +kernel, by decide +kernel⟩, by decide, by decide⟩, fun _ h => absurd h List.not_mem_nil⟩⟩⟩⟩
  intro av w hp
  unfold p_X9_cheapest at hp
  split at hp
  case h_2 => exact hp.elim
  rename_i this i price what
  intro G hG
  simp only [w_ent, w_pos, w_cat, Nat.reduceEqDiff, ↓reduceIte, List.length_cons, List.length_nil, Nat.reduceAdd, Nat.reduceSub, List.cons_append, List.nil_append, List.replicate_succ, List.replicate_zero]
  obtain ⟨rfl, hQ, hi, hpi, hwh, hsd⟩ := hp
  have hT0 : evU S w w := ⟨fun k i _ _ => rfl, hQ.2.2.2.2.1⟩
  obtain ⟨⟨hrc, hrc0⟩, ⟨hh, hh0⟩, ⟨hy, hyX⟩, hH, hwi, hru⟩ := hQ
  have hyc := hy.1
  have hy1 := hyX.1
  have e65 : (0 ≤ i ∧ i < T 4 2) → ¬ (T 4 4 = 0 ∨ S 4 1 = 0) → ¬ T 5 i.toNat = 3 → (0 ≤ price ∧ price ≤ 99) → (0 ≤ what ∧ what ≤ 1) → w 0 13 < 20 → G 65 [some (vr 0), some (vi i), some (vi price), some (vi what)] [] w := by
    intro h1 h2 h3 h4 h5 h6
    obtain ⟨hS, hXw⟩ := hH (by omega)
    have hin := hru i.toNat (by omega)
    have ha : 36 ≤ 36 + i.toNat ∧ 36 + i.toNat < 46 := by omega
    have hu : ∀ k j, ¬ (k = 0 ∧ j = 13) → w_up w 0 13 (w 0 13 + 1) k j = w k j := fun k j h => up_ne (by omega)
    have hr1 : rR (w_up w 0 13 (w 0 13 + 1)) (36 + i.toNat) := rR_of hin.1 (fun k j hk => hu k j (by omega))
    have hrc1 : rC T (w_up w 0 13 (w 0 13 + 1)) i.toNat := rC_of (by omega) hin.2 (fun k j hk => hu k j (by omega))
    have h31 : ¬ w_up w 0 13 (w 0 13 + 1) (36 + i.toNat) 1 = 3 := by rw [hrc1.1]; exact h3
    have hpc : p_X5_search S [vr 90, vr (36 + i.toNat), vi price, vi 0, vi 0] (w_up w 0 13 (w 0 13 + 1)) := ⟨rfl, hS, hX_of hXw (fun k j hk => hu k j (by omega)), ⟨hy, yX_of hy hyX (fun k j hk => hu k j (by omega))⟩, hr1, h31, h4, by decide, by decide⟩
    have hse := seR_like (R := rS S T i.toNat) (mm := 0) hS hy hr1 h31 h4 (show (0 : Int) ≤ 0 ∧ (0 : Int) ≤ 99 by decide) (by decide) (fun m hm lv wet => rX_S3 S hrc1 h31 hm lv wet)
    have e91 : ∀ r1 w1, q_X5_search S [vr 90, vr (36 + i.toNat), vi price, vi 0, vi 0] (w_up w 0 13 (w 0 13 + 1)) r1 w1 → G 91 [some (vr 0), some (vi i), some (vi price), some (vi what)] [] w1 := by
      intro r1 w1 hq
      simp only [q_X5_search, hse.1] at hq
      obtain ⟨g1, g2, g3, g4⟩ := hq
      have hev : evU S w w1 := ⟨fun k j hk hn => by rw [g1 k j (by omega)]; exact hu k j hn, wiI_of hwi (fun k j hk => by rw [g1 k j (by omega)]; exact hu k j (by omega))⟩
      have h13 : w1 0 13 = w 0 13 + 1 := by rw [g1 0 13 (by omega), up_eq]
      have fin : ∀ r, (r = if what = 0 then (buyX S price 0 (rS S T i.toNat) 1).2.1 else (buyX S price 0 (rS S T i.toNat) 1).1) → q_X9_cheapest S T [vr 0, vi i, vi price, vi what] w r w1 := by
        intro r hr
        refine ⟨?_, hev, ?_⟩
        · show r = cheA S T i price what (w 0 13)
          rw [hr]
          unfold cheA
          rw [if_neg (show ¬ (i < 0 ∨ T 4 2 ≤ i) by omega), if_neg (show ¬ ((T 4 4 = 0 ∨ S 4 1 = 0) ∨ T 5 i.toNat = 3) by omega), if_neg (show ¬ (price < 0 ∨ 99 < price) by omega), if_neg (show ¬ (what < 0 ∨ 1 < what) by omega), if_neg (show ¬ 20 ≤ w 0 13 by omega)]
        · rw [h13]
          unfold cheD
          rw [if_neg (by omega), if_neg (by omega), if_neg (by omega), if_neg (by omega), if_neg (by omega)]
      (apply hG [] 2000; simp only [w_br_i, w_ite, w_all, w_all0, forall_eq, w_b0, w_b1, ↓reduceIte, w_ent, w_pos, List.replicate_succ, List.replicate_zero, wp_s, wk_s, w_lk_c, w_ld0, w_ldS, w_kp0, w_kp, w_s1, w_s2, w_to, w_if, w_call, w_sw, w_cat, w_cats, w_psh, w_fv, List.contains_cons, List.contains_nil, List.set_cons_zero, List.set_cons_succ, List.length_cons, List.length_nil, List.find?_cons, List.find?_nil, List.take_succ_cons, List.take_zero, List.drop_succ_cons, List.drop_zero, List.reverse_cons, List.reverse_nil, List.nil_append, List.cons_append, Option.map_some, Option.map_none, Nat.reduceAdd, Nat.reduceBEq, Nat.reduceEqDiff, Nat.reduceLT, Nat.reduceLeDiff, Nat.reduceSub, Int.reduceAdd, Int.reduceSub, Int.reduceMul, Int.reduceNeg, Int.reduceToNat, Int.reduceLT, Int.reduceLE, Int.reduceEq, Bool.false_eq_true, Bool.or_false, Bool.false_or, Bool.true_or, Bool.or_true, if_true, if_false, ite_true, ite_false, true_and, and_true, false_and, and_false, true_or, or_true, false_or, or_false, Int.cast_ofNat_Int, Int.toNat_natCast, Int.natCast_add, List.getElem?_cons_zero, List.getElem?_cons_succ, true_implies, forall_const, not_true_eq_false, not_false_eq_true, ne_eq, beq_iff_eq, imp_self, List.length_set, Nat.zero_add, Nat.add_zero, Int.zero_add, Int.add_zero, w1_aload_n_0, w1_iload_n_1, w1_invokevirtual, w1_ifCond, w1_bipush, w1_ireturn, w1_getfield, w1_aaload, w1_iconst, w1_if_icmp, w1_iload_n_2, w1_invokestatic, w1_iload_n_3, w1_dup, w1_dup2, w1_iadd, w1_putfield, w1_putfield2, w1_goto, dX9_cheapest_0, dX9_cheapest_1, dX9_cheapest_2, dX9_cheapest_5, dX9_cheapest_8, dX9_cheapest_10, dX9_cheapest_11, dX9_cheapest_12, dX9_cheapest_15, dX9_cheapest_18, dX9_cheapest_19, dX9_cheapest_22, dX9_cheapest_23, dX9_cheapest_24, dX9_cheapest_27, dX9_cheapest_28, dX9_cheapest_31, dX9_cheapest_33, dX9_cheapest_34, dX9_cheapest_35, dX9_cheapest_38, dX9_cheapest_41, dX9_cheapest_42, dX9_cheapest_45, dX9_cheapest_46, dX9_cheapest_47, dX9_cheapest_50, dX9_cheapest_52, dX9_cheapest_53, dX9_cheapest_54, dX9_cheapest_57, dX9_cheapest_59, dX9_cheapest_62, dX9_cheapest_64, dX9_cheapest_65, dX9_cheapest_66, dX9_cheapest_67, dX9_cheapest_70, dX9_cheapest_71, dX9_cheapest_72, dX9_cheapest_75, dX9_cheapest_76, dX9_cheapest_79, dX9_cheapest_80, dX9_cheapest_83, dX9_cheapest_84, dX9_cheapest_85, dX9_cheapest_86, dX9_cheapest_87, dX9_cheapest_88, dX9_cheapest_91, dX9_cheapest_92, dX9_cheapest_95, dX9_cheapest_96, dX9_cheapest_99, dX9_cheapest_102, dX9_cheapest_105, dX9_cheapest_106, dX9_cheapest_109, dX9_cheapest_112, w_flk9_143, w_flk9_218, w_flk9_225, w_flk9_228, w_flk9_32, w_flk9_81, w_kd_0, w_rf_0_0, w_rf_0_1, w_rf_0_2, w_rf_0_3, w_rf_0_4, w_rf_0_5, w_rf_0_6, w_rf_0_7, w_rf_0_8, w_rf_0_9, w_rf_0_10, w_kd_90, w_rf_90_0, w_rf_90_1, w_rf_90_2, w_rf_90_3, w_rf_90_4])
      (repeat' (with_reducible (first | refine And.intro ?_ ?_ | intro _))) <;> (try (first | assumption | contradiction | exact Or.inl trivial | exact Or.inl rfl | exact Or.inr rfl | (simp only [inI, inL]; omega) | omega))
      all_goals refine fin _ ?_
      all_goals first
        | (rw [if_pos (by omega)]; exact g3)
        | (rw [if_neg (by omega)]; exact g2)
    (apply hG [91] 2000; simp only [w_br_i, w_ite, w_all, w_all0, forall_eq, w_b0, w_b1, ↓reduceIte, w_ent, w_pos, List.replicate_succ, List.replicate_zero, wp_s, wk_s, w_lk_c, w_ld0, w_ldS, w_kp0, w_kp, w_s1, w_s2, w_to, w_if, w_call, w_sw, w_cat, w_cats, w_psh, w_fv, List.contains_cons, List.contains_nil, List.set_cons_zero, List.set_cons_succ, List.length_cons, List.length_nil, List.find?_cons, List.find?_nil, List.take_succ_cons, List.take_zero, List.drop_succ_cons, List.drop_zero, List.reverse_cons, List.reverse_nil, List.nil_append, List.cons_append, Option.map_some, Option.map_none, Nat.reduceAdd, Nat.reduceBEq, Nat.reduceEqDiff, Nat.reduceLT, Nat.reduceLeDiff, Nat.reduceSub, Int.reduceAdd, Int.reduceSub, Int.reduceMul, Int.reduceNeg, Int.reduceToNat, Int.reduceLT, Int.reduceLE, Int.reduceEq, Bool.false_eq_true, Bool.or_false, Bool.false_or, Bool.true_or, Bool.or_true, if_true, if_false, ite_true, ite_false, true_and, and_true, false_and, and_false, true_or, or_true, false_or, or_false, Int.cast_ofNat_Int, Int.toNat_natCast, Int.natCast_add, List.getElem?_cons_zero, List.getElem?_cons_succ, true_implies, forall_const, not_true_eq_false, not_false_eq_true, ne_eq, beq_iff_eq, imp_self, List.length_set, Nat.zero_add, Nat.add_zero, Int.zero_add, Int.add_zero, w1_aload_n_0, w1_iload_n_1, w1_invokevirtual, w1_ifCond, w1_bipush, w1_ireturn, w1_getfield, w1_aaload, w1_iconst, w1_if_icmp, w1_iload_n_2, w1_invokestatic, w1_iload_n_3, w1_dup, w1_dup2, w1_iadd, w1_putfield, w1_putfield2, w1_goto, dX9_cheapest_0, dX9_cheapest_1, dX9_cheapest_2, dX9_cheapest_5, dX9_cheapest_8, dX9_cheapest_10, dX9_cheapest_11, dX9_cheapest_12, dX9_cheapest_15, dX9_cheapest_18, dX9_cheapest_19, dX9_cheapest_22, dX9_cheapest_23, dX9_cheapest_24, dX9_cheapest_27, dX9_cheapest_28, dX9_cheapest_31, dX9_cheapest_33, dX9_cheapest_34, dX9_cheapest_35, dX9_cheapest_38, dX9_cheapest_41, dX9_cheapest_42, dX9_cheapest_45, dX9_cheapest_46, dX9_cheapest_47, dX9_cheapest_50, dX9_cheapest_52, dX9_cheapest_53, dX9_cheapest_54, dX9_cheapest_57, dX9_cheapest_59, dX9_cheapest_62, dX9_cheapest_64, dX9_cheapest_65, dX9_cheapest_66, dX9_cheapest_67, dX9_cheapest_70, dX9_cheapest_71, dX9_cheapest_72, dX9_cheapest_75, dX9_cheapest_76, dX9_cheapest_79, dX9_cheapest_80, dX9_cheapest_83, dX9_cheapest_84, dX9_cheapest_85, dX9_cheapest_86, dX9_cheapest_87, dX9_cheapest_88, dX9_cheapest_91, dX9_cheapest_92, dX9_cheapest_95, dX9_cheapest_96, dX9_cheapest_99, dX9_cheapest_102, dX9_cheapest_105, dX9_cheapest_106, dX9_cheapest_109, dX9_cheapest_112, w_flk9_143, w_flk9_218, w_flk9_225, w_flk9_228, w_flk9_32, w_flk9_81, w_kd_0, w_rf_0_0, w_rf_0_1, w_rf_0_2, w_rf_0_3, w_rf_0_4, w_rf_0_5, w_rf_0_6, w_rf_0_7, w_rf_0_8, w_rf_0_9, w_rf_0_10, w_kd_35, w_ln_35, ha, hpc])
    (repeat' (with_reducible (first | refine And.intro ?_ ?_ | intro _))) <;> (try (first | assumption | contradiction | exact Or.inl trivial | exact Or.inl rfl | exact Or.inr rfl | (simp only [inI, inL]; omega) | omega))
    all_goals first
      | exact e91 _ _ (by assumption)
  have e11 : (0 ≤ i ∧ i < T 4 2) → G 11 [some (vr 0), some (vi i), some (vi price), some (vi what)] [] w := by
    intro h1
    have kr := w_kdr (a := 36 + i.toNat) (by omega)
    have hin := hru i.toNat (by omega)
    have hk := hin.2.1
    have hkr := hin.1.2.1
    rw [hk] at hkr
    (apply hG [65] 2000; simp only [w_br_i, w_ite, w_all, w_all0, forall_eq, w_b0, w_b1, ↓reduceIte, w_ent, w_pos, List.replicate_succ, List.replicate_zero, wp_s, wk_s, w_lk_c, w_ld0, w_ldS, w_kp0, w_kp, w_s1, w_s2, w_to, w_if, w_call, w_sw, w_cat, w_cats, w_psh, w_fv, List.contains_cons, List.contains_nil, List.set_cons_zero, List.set_cons_succ, List.length_cons, List.length_nil, List.find?_cons, List.find?_nil, List.take_succ_cons, List.take_zero, List.drop_succ_cons, List.drop_zero, List.reverse_cons, List.reverse_nil, List.nil_append, List.cons_append, Option.map_some, Option.map_none, Nat.reduceAdd, Nat.reduceBEq, Nat.reduceEqDiff, Nat.reduceLT, Nat.reduceLeDiff, Nat.reduceSub, Int.reduceAdd, Int.reduceSub, Int.reduceMul, Int.reduceNeg, Int.reduceToNat, Int.reduceLT, Int.reduceLE, Int.reduceEq, Bool.false_eq_true, Bool.or_false, Bool.false_or, Bool.true_or, Bool.or_true, if_true, if_false, ite_true, ite_false, true_and, and_true, false_and, and_false, true_or, or_true, false_or, or_false, Int.cast_ofNat_Int, Int.toNat_natCast, Int.natCast_add, List.getElem?_cons_zero, List.getElem?_cons_succ, true_implies, forall_const, not_true_eq_false, not_false_eq_true, ne_eq, beq_iff_eq, imp_self, List.length_set, Nat.zero_add, Nat.add_zero, Int.zero_add, Int.add_zero, w1_aload_n_0, w1_iload_n_1, w1_invokevirtual, w1_ifCond, w1_bipush, w1_ireturn, w1_getfield, w1_aaload, w1_iconst, w1_if_icmp, w1_iload_n_2, w1_invokestatic, w1_iload_n_3, w1_dup, w1_dup2, w1_iadd, w1_putfield, w1_putfield2, w1_goto, dX9_cheapest_0, dX9_cheapest_1, dX9_cheapest_2, dX9_cheapest_5, dX9_cheapest_8, dX9_cheapest_10, dX9_cheapest_11, dX9_cheapest_12, dX9_cheapest_15, dX9_cheapest_18, dX9_cheapest_19, dX9_cheapest_22, dX9_cheapest_23, dX9_cheapest_24, dX9_cheapest_27, dX9_cheapest_28, dX9_cheapest_31, dX9_cheapest_33, dX9_cheapest_34, dX9_cheapest_35, dX9_cheapest_38, dX9_cheapest_41, dX9_cheapest_42, dX9_cheapest_45, dX9_cheapest_46, dX9_cheapest_47, dX9_cheapest_50, dX9_cheapest_52, dX9_cheapest_53, dX9_cheapest_54, dX9_cheapest_57, dX9_cheapest_59, dX9_cheapest_62, dX9_cheapest_64, dX9_cheapest_65, dX9_cheapest_66, dX9_cheapest_67, dX9_cheapest_70, dX9_cheapest_71, dX9_cheapest_72, dX9_cheapest_75, dX9_cheapest_76, dX9_cheapest_79, dX9_cheapest_80, dX9_cheapest_83, dX9_cheapest_84, dX9_cheapest_85, dX9_cheapest_86, dX9_cheapest_87, dX9_cheapest_88, dX9_cheapest_91, dX9_cheapest_92, dX9_cheapest_95, dX9_cheapest_96, dX9_cheapest_99, dX9_cheapest_102, dX9_cheapest_105, dX9_cheapest_106, dX9_cheapest_109, dX9_cheapest_112, w_flk9_143, w_flk9_218, w_flk9_225, w_flk9_228, w_flk9_32, w_flk9_81, w_kd_0, w_rf_0_0, w_rf_0_1, w_rf_0_2, w_rf_0_3, w_rf_0_4, w_rf_0_5, w_rf_0_6, w_rf_0_7, w_rf_0_8, w_rf_0_9, w_rf_0_10, w_kd_35, w_ln_35, p_X9_lacksHouseOrYear, q_X9_lacksHouseOrYear, p_X9_isNoPrice, q_X9_isNoPrice, hrc0, hh0, hy1, kr, hk])
    (repeat' (with_reducible (first | refine And.intro ?_ ?_ | intro _))) <;> (try (first | assumption | contradiction | exact Or.inl trivial | exact Or.inl rfl | exact Or.inr rfl | (simp only [inI, inL]; omega) | omega))
    all_goals first
      | exact e65 (by omega) (by omega) (by omega) (by omega) (by omega) (by omega)
      | exact ⟨by unfold cheA; (repeat' split) <;> first | rfl | (exfalso; omega), hT0, by unfold cheD; (repeat' split) <;> omega⟩
  (apply hG [11] 2000; simp only [w_br_i, w_ite, w_all, w_all0, forall_eq, w_b0, w_b1, ↓reduceIte, w_ent, w_pos, List.replicate_succ, List.replicate_zero, wp_s, wk_s, w_lk_c, w_ld0, w_ldS, w_kp0, w_kp, w_s1, w_s2, w_to, w_if, w_call, w_sw, w_cat, w_cats, w_psh, w_fv, List.contains_cons, List.contains_nil, List.set_cons_zero, List.set_cons_succ, List.length_cons, List.length_nil, List.find?_cons, List.find?_nil, List.take_succ_cons, List.take_zero, List.drop_succ_cons, List.drop_zero, List.reverse_cons, List.reverse_nil, List.nil_append, List.cons_append, Option.map_some, Option.map_none, Nat.reduceAdd, Nat.reduceBEq, Nat.reduceEqDiff, Nat.reduceLT, Nat.reduceLeDiff, Nat.reduceSub, Int.reduceAdd, Int.reduceSub, Int.reduceMul, Int.reduceNeg, Int.reduceToNat, Int.reduceLT, Int.reduceLE, Int.reduceEq, Bool.false_eq_true, Bool.or_false, Bool.false_or, Bool.true_or, Bool.or_true, if_true, if_false, ite_true, ite_false, true_and, and_true, false_and, and_false, true_or, or_true, false_or, or_false, Int.cast_ofNat_Int, Int.toNat_natCast, Int.natCast_add, List.getElem?_cons_zero, List.getElem?_cons_succ, true_implies, forall_const, not_true_eq_false, not_false_eq_true, ne_eq, beq_iff_eq, imp_self, List.length_set, Nat.zero_add, Nat.add_zero, Int.zero_add, Int.add_zero, w1_aload_n_0, w1_iload_n_1, w1_invokevirtual, w1_ifCond, w1_bipush, w1_ireturn, w1_getfield, w1_aaload, w1_iconst, w1_if_icmp, w1_iload_n_2, w1_invokestatic, w1_iload_n_3, w1_dup, w1_dup2, w1_iadd, w1_putfield, w1_putfield2, w1_goto, dX9_cheapest_0, dX9_cheapest_1, dX9_cheapest_2, dX9_cheapest_5, dX9_cheapest_8, dX9_cheapest_10, dX9_cheapest_11, dX9_cheapest_12, dX9_cheapest_15, dX9_cheapest_18, dX9_cheapest_19, dX9_cheapest_22, dX9_cheapest_23, dX9_cheapest_24, dX9_cheapest_27, dX9_cheapest_28, dX9_cheapest_31, dX9_cheapest_33, dX9_cheapest_34, dX9_cheapest_35, dX9_cheapest_38, dX9_cheapest_41, dX9_cheapest_42, dX9_cheapest_45, dX9_cheapest_46, dX9_cheapest_47, dX9_cheapest_50, dX9_cheapest_52, dX9_cheapest_53, dX9_cheapest_54, dX9_cheapest_57, dX9_cheapest_59, dX9_cheapest_62, dX9_cheapest_64, dX9_cheapest_65, dX9_cheapest_66, dX9_cheapest_67, dX9_cheapest_70, dX9_cheapest_71, dX9_cheapest_72, dX9_cheapest_75, dX9_cheapest_76, dX9_cheapest_79, dX9_cheapest_80, dX9_cheapest_83, dX9_cheapest_84, dX9_cheapest_85, dX9_cheapest_86, dX9_cheapest_87, dX9_cheapest_88, dX9_cheapest_91, dX9_cheapest_92, dX9_cheapest_95, dX9_cheapest_96, dX9_cheapest_99, dX9_cheapest_102, dX9_cheapest_105, dX9_cheapest_106, dX9_cheapest_109, dX9_cheapest_112, w_flk9_143, w_flk9_218, w_flk9_225, w_flk9_228, w_flk9_32, w_flk9_81, w_kd_0, w_rf_0_0, w_rf_0_1, w_rf_0_2, w_rf_0_3, w_rf_0_4, w_rf_0_5, w_rf_0_6, w_rf_0_7, w_rf_0_8, w_rf_0_9, w_rf_0_10, p_X9_isNoRule, q_X9_isNoRule, hrc0])
  (repeat' (with_reducible (first | refine And.intro ?_ ?_ | intro _))) <;> (try (first | assumption | contradiction | exact Or.inl trivial | exact Or.inl rfl | exact Or.inr rfl | (simp only [inI, inL]; omega) | omega))
  all_goals first
    | exact e11 (by omega)
    | exact ⟨by unfold cheA; (repeat' split) <;> first | rfl | (exfalso; omega), hT0, by unfold cheD; (repeat' split) <;> omega⟩
def shaA (S T : wW) (price roof what sd : Int) : Int := if T 4 4 = 0 ∨ S 4 1 = 0 then -103 else if price < 0 ∨ 99 < price then -102 else if roof < 0 ∨ 99 < roof then -102 else if what < 0 ∨ 2 < what then -102 else if 20 ≤ sd then -103 else
  if what = 0 then (buyX S price roof rPl 6).2.1 else if what = 1 then (buyX S price roof rPl 6).2.2 else (buyX S price roof rPl 6).1
def shaD (S T : wW) (price roof what sd : Int) : Int := if T 4 4 = 0 ∨ S 4 1 = 0 then 0 else if price < 0 ∨ 99 < price then 0 else if roof < 0 ∨ 99 < roof then 0 else if what < 0 ∨ 2 < what then 0 else if 20 ≤ sd then 0 else 1
def p_X9_share (S T : wW) : List wV → wW → Prop := fun av w => match av with
  | [.inr (.inr (some this)), .inl price, .inl roof, .inl what] => this = 0 ∧ RQ S T w ∧ PA w ∧ inI price ∧ inI roof ∧ inI what ∧ (0 ≤ w 0 13 ∧ w 0 13 ≤ 20)
  | _ => False
theorem h_X9_share (S T : wW) : ∀ av w, (p_X9_share S T) av w → ∃ a r, av = vr a :: r ∧ w_kd a = 100 + 9 := by
  intro av w h
  unfold p_X9_share at h
  split at h
  · refine ⟨_, _, rfl, ?_⟩
    first | (rw [h.1]; rfl) | (rw [h]; rfl)
  · exact h.elim
def q_X9_share (S T : wW) : List wV → wW → Int → wW → Prop := fun av w r w' => match av with
  | [.inr (.inr (some this)), .inl price, .inl roof, .inl what] => r = shaA S T price roof what (w 0 13) ∧ evU S w w' ∧ w' 0 13 = w 0 13 + shaD S T price roof what (w 0 13)
  | _ => False
set_option maxRecDepth 100000 in
set_option maxHeartbeats 4000000 in
theorem c_X9_share (S T : wW) : w_Ct yX9_share cX9_share 4 1 6 153 (p_X9_share S T) (q_X9_share S T) := by
  refine w_met (own := RX9) (fl := w_fl9) (gs := w_gs9) (kl := w_kl9) (ki := w_ki9) (cs := [(180, (0, 1, 3, p_X9_lacksHouseOrYear, q_X9_lacksHouseOrYear)), (215, (1, 1, 3, p_X9_isNoPrice, q_X9_isNoPrice)), (221, (0, 5, 0, (p_X5_search S), (q_X5_search S)))]) (by decide +kernel) rfl ?_ w_flok9 w_gsok9 w_klok9 w_kiok9 ?_ ?_
  · intro av w h
    unfold p_X9_share at h
    split at h
    · simp [w_pos, w_cat]
    · exact h.elim
  · exact List.forall_mem_cons.mpr ⟨⟨_, _, w_callV (own := RX9) (idx := 180) (ci := 9) c_X9_lacksHouseOrYear rfl rfl h_X9_lacksHouseOrYear (w_m3 88 (by decide +kernel) (by decide +kernel)) (w_m3 90 (by decide +kernel) (by decide +kernel)) (w_m0 12 (by decide +kernel) (by decide +kernel)) (w_m1 1 (by decide +kernel) (by decide +kernel)) (w_m3 91 (by decide +kernel) (by decide +kernel)) ⟨by decide +kernel, by decide +kernel, by decide +kernel⟩, by decide, by decide⟩, List.forall_mem_cons.mpr ⟨⟨_, _, w_callS (own := RX9) (idx := 215) c_X9_isNoPrice (w_m3 198 (by decide +kernel) (by decide +kernel)) (w_m3 199 (by decide +kernel) (by decide +kernel)) (w_m1 1 (by decide +kernel) (by decide +kernel)) (w_m3 200 (by decide +kernel) (by decide +kernel)) ⟨by decide +kernel, by decide +kernel, by decide +kernel⟩, by decide, by decide⟩, List.forall_mem_cons.mpr ⟨⟨_, _, w_callV (own := RX9) (idx := 221) (ci := 5) (c_X5_search S) rfl rfl (h_X5_search S) (w_m3 201 (by decide +kernel) (by decide +kernel)) (w_m3 202 (by decide +kernel) (by decide +kernel)) (w_m3 203 (by decide +kernel) (by decide +kernel)) (w_m1 10 (by decide +kernel) (by decide +kernel)) (w_m3 204 (by decide +kernel) (by decide +kernel)) ⟨by decide +kernel, by decide +kernel, by decide +kernel⟩, by decide, by decide⟩, fun _ h => absurd h List.not_mem_nil⟩⟩⟩
  intro av w hp
  unfold p_X9_share at hp
  split at hp
  case h_2 => exact hp.elim
  rename_i this price roof what
  intro G hG
  simp only [w_ent, w_pos, w_cat, Nat.reduceEqDiff, ↓reduceIte, List.length_cons, List.length_nil, Nat.reduceAdd, Nat.reduceSub, List.cons_append, List.nil_append, List.replicate_succ, List.replicate_zero]
  obtain ⟨rfl, hQ, hPA, hpi, hfi, hwh, hsd⟩ := hp
  have hT0 : evU S w w := ⟨fun k i _ _ => rfl, hQ.2.2.2.2.1⟩
  obtain ⟨-, ⟨hh, hh0⟩, ⟨hy, hyX⟩, hH, hwi, -⟩ := hQ
  have hyc := hy.1
  have hy1 := hyX.1
  have e48 : ¬ (T 4 4 = 0 ∨ S 4 1 = 0) → (0 ≤ price ∧ price ≤ 99) → (0 ≤ roof ∧ roof ≤ 99) → (0 ≤ what ∧ what ≤ 2) → w 0 13 < 20 → G 48 [some (vr 0), some (vi price), some (vi roof), some (vi what)] [] w := by
    intro h2 h4 h4' h5 h6
    obtain ⟨hS, hXw⟩ := hH (by omega)
    have hu : ∀ k j, ¬ (k = 0 ∧ j = 13) → w_up w 0 13 (w 0 13 + 1) k j = w k j := fun k j h => up_ne (by omega)
    have hPA1 : PA (w_up w 0 13 (w 0 13 + 1)) := PA_of hPA (fun k j hk => hu k j (by omega))
    have h31 : ¬ w_up w 0 13 (w 0 13 + 1) 44 1 = 3 := by rw [hPA1.2.1]; decide
    have hpc : p_X5_search S [vr 90, vr 44, vi price, vi roof, vi 5] (w_up w 0 13 (w 0 13 + 1)) := ⟨rfl, hS, hX_of hXw (fun k j hk => hu k j (by omega)), ⟨hy, yX_of hy hyX (fun k j hk => hu k j (by omega))⟩, hPA1.1, h31, h4, h4', by decide⟩
    have hse := seR_like (R := rPl) (mm := 5) hS hy hPA1.1 h31 h4 h4' (by decide) (fun m hm lv wet => PA_l hPA1 m lv wet)
    have e72 : ∀ r1 w1, q_X5_search S [vr 90, vr 44, vi price, vi roof, vi 5] (w_up w 0 13 (w 0 13 + 1)) r1 w1 → G 72 [some (vr 0), some (vi price), some (vi roof), some (vi what)] [] w1 := by
      intro r1 w1 hq
      simp only [q_X5_search, hse.1] at hq
      obtain ⟨g1, g2, g3, g4⟩ := hq
      have hev : evU S w w1 := ⟨fun k j hk hn => by rw [g1 k j (by omega)]; exact hu k j hn, wiI_of hwi (fun k j hk => by rw [g1 k j (by omega)]; exact hu k j (by omega))⟩
      have h13 : w1 0 13 = w 0 13 + 1 := by rw [g1 0 13 (by omega), up_eq]
      have fin : ∀ r, (r = if what = 0 then (buyX S price roof rPl 6).2.1 else if what = 1 then (buyX S price roof rPl 6).2.2 else (buyX S price roof rPl 6).1) → q_X9_share S T [vr 0, vi price, vi roof, vi what] w r w1 := by
        intro r hr
        refine ⟨?_, hev, ?_⟩
        · show r = shaA S T price roof what (w 0 13)
          rw [hr]
          unfold shaA
          rw [if_neg h2, if_neg (show ¬ (price < 0 ∨ 99 < price) by omega), if_neg (show ¬ (roof < 0 ∨ 99 < roof) by omega), if_neg (show ¬ (what < 0 ∨ 2 < what) by omega), if_neg (show ¬ 20 ≤ w 0 13 by omega)]
        · rw [h13]
          unfold shaD
          rw [if_neg h2, if_neg (by omega), if_neg (by omega), if_neg (by omega), if_neg (by omega)]
      (apply hG [] 2000; simp only [w_br_i, w_ite, w_all, w_all0, forall_eq, w_b0, w_b1, ↓reduceIte, w_ent, w_pos, List.replicate_succ, List.replicate_zero, wp_s, wk_s, w_lk_c, w_ld0, w_ldS, w_kp0, w_kp, w_s1, w_s2, w_to, w_if, w_call, w_sw, w_cat, w_cats, w_psh, w_fv, List.contains_cons, List.contains_nil, List.set_cons_zero, List.set_cons_succ, List.length_cons, List.length_nil, List.find?_cons, List.find?_nil, List.take_succ_cons, List.take_zero, List.drop_succ_cons, List.drop_zero, List.reverse_cons, List.reverse_nil, List.nil_append, List.cons_append, Option.map_some, Option.map_none, Nat.reduceAdd, Nat.reduceBEq, Nat.reduceEqDiff, Nat.reduceLT, Nat.reduceLeDiff, Nat.reduceSub, Int.reduceAdd, Int.reduceSub, Int.reduceMul, Int.reduceNeg, Int.reduceToNat, Int.reduceLT, Int.reduceLE, Int.reduceEq, Bool.false_eq_true, Bool.or_false, Bool.false_or, Bool.true_or, Bool.or_true, if_true, if_false, ite_true, ite_false, true_and, and_true, false_and, and_false, true_or, or_true, false_or, or_false, Int.cast_ofNat_Int, Int.toNat_natCast, Int.natCast_add, List.getElem?_cons_zero, List.getElem?_cons_succ, true_implies, forall_const, not_true_eq_false, not_false_eq_true, ne_eq, beq_iff_eq, imp_self, List.length_set, Nat.zero_add, Nat.add_zero, Int.zero_add, Int.add_zero, w1_aload_n_0, w1_invokevirtual, w1_ifCond, w1_bipush, w1_ireturn, w1_iload_n_1, w1_invokestatic, w1_iload_n_2, w1_iload_n_3, w1_iconst, w1_if_icmp, w1_getfield, w1_dup, w1_dup2, w1_iadd, w1_putfield, w1_putfield2, w1_goto, dX9_share_0, dX9_share_1, dX9_share_4, dX9_share_7, dX9_share_9, dX9_share_10, dX9_share_11, dX9_share_14, dX9_share_17, dX9_share_18, dX9_share_21, dX9_share_24, dX9_share_25, dX9_share_28, dX9_share_29, dX9_share_30, dX9_share_33, dX9_share_35, dX9_share_36, dX9_share_37, dX9_share_40, dX9_share_42, dX9_share_45, dX9_share_47, dX9_share_48, dX9_share_49, dX9_share_50, dX9_share_53, dX9_share_54, dX9_share_55, dX9_share_58, dX9_share_59, dX9_share_62, dX9_share_63, dX9_share_66, dX9_share_67, dX9_share_68, dX9_share_69, dX9_share_72, dX9_share_73, dX9_share_76, dX9_share_77, dX9_share_80, dX9_share_83, dX9_share_84, dX9_share_85, dX9_share_86, dX9_share_89, dX9_share_90, dX9_share_93, dX9_share_96, dX9_share_99, dX9_share_100, dX9_share_103, dX9_share_106, w_flk9_218, w_flk9_225, w_flk9_228, w_flk9_231, w_flk9_48, w_flk9_81, w_kd_0, w_rf_0_0, w_rf_0_1, w_rf_0_2, w_rf_0_3, w_rf_0_4, w_rf_0_5, w_rf_0_6, w_rf_0_7, w_rf_0_8, w_rf_0_9, w_rf_0_10, w_kd_90, w_rf_90_0, w_rf_90_1, w_rf_90_2, w_rf_90_3, w_rf_90_4])
      (repeat' (with_reducible (first | refine And.intro ?_ ?_ | intro _))) <;> (try (first | assumption | contradiction | exact Or.inl trivial | exact Or.inl rfl | exact Or.inr rfl | (simp only [inI, inL]; omega) | omega))
      all_goals refine fin _ ?_
      all_goals first
        | (rw [if_pos (by omega)]; exact g3)
        | (rw [if_neg (by omega), if_pos (by omega)]; exact g4)
        | (rw [if_neg (by omega), if_neg (by omega)]; exact g2)
    (apply hG [72] 2000; simp only [w_br_i, w_ite, w_all, w_all0, forall_eq, w_b0, w_b1, ↓reduceIte, w_ent, w_pos, List.replicate_succ, List.replicate_zero, wp_s, wk_s, w_lk_c, w_ld0, w_ldS, w_kp0, w_kp, w_s1, w_s2, w_to, w_if, w_call, w_sw, w_cat, w_cats, w_psh, w_fv, List.contains_cons, List.contains_nil, List.set_cons_zero, List.set_cons_succ, List.length_cons, List.length_nil, List.find?_cons, List.find?_nil, List.take_succ_cons, List.take_zero, List.drop_succ_cons, List.drop_zero, List.reverse_cons, List.reverse_nil, List.nil_append, List.cons_append, Option.map_some, Option.map_none, Nat.reduceAdd, Nat.reduceBEq, Nat.reduceEqDiff, Nat.reduceLT, Nat.reduceLeDiff, Nat.reduceSub, Int.reduceAdd, Int.reduceSub, Int.reduceMul, Int.reduceNeg, Int.reduceToNat, Int.reduceLT, Int.reduceLE, Int.reduceEq, Bool.false_eq_true, Bool.or_false, Bool.false_or, Bool.true_or, Bool.or_true, if_true, if_false, ite_true, ite_false, true_and, and_true, false_and, and_false, true_or, or_true, false_or, or_false, Int.cast_ofNat_Int, Int.toNat_natCast, Int.natCast_add, List.getElem?_cons_zero, List.getElem?_cons_succ, true_implies, forall_const, not_true_eq_false, not_false_eq_true, ne_eq, beq_iff_eq, imp_self, List.length_set, Nat.zero_add, Nat.add_zero, Int.zero_add, Int.add_zero, w1_aload_n_0, w1_invokevirtual, w1_ifCond, w1_bipush, w1_ireturn, w1_iload_n_1, w1_invokestatic, w1_iload_n_2, w1_iload_n_3, w1_iconst, w1_if_icmp, w1_getfield, w1_dup, w1_dup2, w1_iadd, w1_putfield, w1_putfield2, w1_goto, dX9_share_0, dX9_share_1, dX9_share_4, dX9_share_7, dX9_share_9, dX9_share_10, dX9_share_11, dX9_share_14, dX9_share_17, dX9_share_18, dX9_share_21, dX9_share_24, dX9_share_25, dX9_share_28, dX9_share_29, dX9_share_30, dX9_share_33, dX9_share_35, dX9_share_36, dX9_share_37, dX9_share_40, dX9_share_42, dX9_share_45, dX9_share_47, dX9_share_48, dX9_share_49, dX9_share_50, dX9_share_53, dX9_share_54, dX9_share_55, dX9_share_58, dX9_share_59, dX9_share_62, dX9_share_63, dX9_share_66, dX9_share_67, dX9_share_68, dX9_share_69, dX9_share_72, dX9_share_73, dX9_share_76, dX9_share_77, dX9_share_80, dX9_share_83, dX9_share_84, dX9_share_85, dX9_share_86, dX9_share_89, dX9_share_90, dX9_share_93, dX9_share_96, dX9_share_99, dX9_share_100, dX9_share_103, dX9_share_106, w_flk9_218, w_flk9_225, w_flk9_228, w_flk9_231, w_flk9_48, w_flk9_81, w_kd_0, w_rf_0_0, w_rf_0_1, w_rf_0_2, w_rf_0_3, w_rf_0_4, w_rf_0_5, w_rf_0_6, w_rf_0_7, w_rf_0_8, w_rf_0_9, w_rf_0_10, hpc])
    (repeat' (with_reducible (first | refine And.intro ?_ ?_ | intro _))) <;> (try (first | assumption | contradiction | exact Or.inl trivial | exact Or.inl rfl | exact Or.inr rfl | (simp only [inI, inL]; omega) | omega))
    all_goals exact e72 _ _ (by assumption)
  (apply hG [48] 2000; simp only [w_br_i, w_ite, w_all, w_all0, forall_eq, w_b0, w_b1, ↓reduceIte, w_ent, w_pos, List.replicate_succ, List.replicate_zero, wp_s, wk_s, w_lk_c, w_ld0, w_ldS, w_kp0, w_kp, w_s1, w_s2, w_to, w_if, w_call, w_sw, w_cat, w_cats, w_psh, w_fv, List.contains_cons, List.contains_nil, List.set_cons_zero, List.set_cons_succ, List.length_cons, List.length_nil, List.find?_cons, List.find?_nil, List.take_succ_cons, List.take_zero, List.drop_succ_cons, List.drop_zero, List.reverse_cons, List.reverse_nil, List.nil_append, List.cons_append, Option.map_some, Option.map_none, Nat.reduceAdd, Nat.reduceBEq, Nat.reduceEqDiff, Nat.reduceLT, Nat.reduceLeDiff, Nat.reduceSub, Int.reduceAdd, Int.reduceSub, Int.reduceMul, Int.reduceNeg, Int.reduceToNat, Int.reduceLT, Int.reduceLE, Int.reduceEq, Bool.false_eq_true, Bool.or_false, Bool.false_or, Bool.true_or, Bool.or_true, if_true, if_false, ite_true, ite_false, true_and, and_true, false_and, and_false, true_or, or_true, false_or, or_false, Int.cast_ofNat_Int, Int.toNat_natCast, Int.natCast_add, List.getElem?_cons_zero, List.getElem?_cons_succ, true_implies, forall_const, not_true_eq_false, not_false_eq_true, ne_eq, beq_iff_eq, imp_self, List.length_set, Nat.zero_add, Nat.add_zero, Int.zero_add, Int.add_zero, w1_aload_n_0, w1_invokevirtual, w1_ifCond, w1_bipush, w1_ireturn, w1_iload_n_1, w1_invokestatic, w1_iload_n_2, w1_iload_n_3, w1_iconst, w1_if_icmp, w1_getfield, w1_dup, w1_dup2, w1_iadd, w1_putfield, w1_putfield2, w1_goto, dX9_share_0, dX9_share_1, dX9_share_4, dX9_share_7, dX9_share_9, dX9_share_10, dX9_share_11, dX9_share_14, dX9_share_17, dX9_share_18, dX9_share_21, dX9_share_24, dX9_share_25, dX9_share_28, dX9_share_29, dX9_share_30, dX9_share_33, dX9_share_35, dX9_share_36, dX9_share_37, dX9_share_40, dX9_share_42, dX9_share_45, dX9_share_47, dX9_share_48, dX9_share_49, dX9_share_50, dX9_share_53, dX9_share_54, dX9_share_55, dX9_share_58, dX9_share_59, dX9_share_62, dX9_share_63, dX9_share_66, dX9_share_67, dX9_share_68, dX9_share_69, dX9_share_72, dX9_share_73, dX9_share_76, dX9_share_77, dX9_share_80, dX9_share_83, dX9_share_84, dX9_share_85, dX9_share_86, dX9_share_89, dX9_share_90, dX9_share_93, dX9_share_96, dX9_share_99, dX9_share_100, dX9_share_103, dX9_share_106, w_flk9_218, w_flk9_225, w_flk9_228, w_flk9_231, w_flk9_48, w_flk9_81, w_kd_0, w_rf_0_0, w_rf_0_1, w_rf_0_2, w_rf_0_3, w_rf_0_4, w_rf_0_5, w_rf_0_6, w_rf_0_7, w_rf_0_8, w_rf_0_9, w_rf_0_10, p_X9_lacksHouseOrYear, q_X9_lacksHouseOrYear, p_X9_isNoPrice, q_X9_isNoPrice, hh0, hy1])
  (repeat' (with_reducible (first | refine And.intro ?_ ?_ | intro _))) <;> (try (first | assumption | contradiction | exact Or.inl trivial | exact Or.inl rfl | exact Or.inr rfl | (simp only [inI, inL]; omega) | omega))
  all_goals first
    | exact e48 (by omega) (by omega) (by omega) (by omega) (by omega)
    | exact ⟨by unfold shaA; (repeat' split) <;> first | rfl | (exfalso; omega), hT0, by unfold shaD; (repeat' split) <;> omega⟩
