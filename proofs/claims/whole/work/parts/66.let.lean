/-! the rule ALL that no one asked for -/
def PA (w : wW) : Prop := rR w 44 ∧ w 44 1 = 0 ∧ w 44 2 = 0
def rPl (_ : Nat) (_ _ : Int) (j : Nat) : Int := if j = 5 then 72 else 0
theorem PA_l {w : wW} (h : PA w) (m : Nat) (lv wet : Int) : rLk (rX w 44 m lv wet) (rPl m lv wet) := by
  refine ⟨h.2.1, h.2.2, fun q => ?_, fun q => ?_, by show (72 : Int) ≤ 72; decide, by show (72 : Int) ≤ 72; decide⟩
  · have e : w 44 1 = 5 := q
    rw [h.2.1] at e
    exact absurd e (by decide)
  · have e : w 44 1 = 3 := q
    rw [h.2.1] at e
    exact absurd e (by decide)
theorem PA_p {w : wW} (h : PA w) (size : Int) : plA w 44 size := plA_no (by rw [h.2.1]; decide)
theorem PA_dry {S w : wW} (hS : hR S) (hy : yR S) (h : PA w) {s : Nat} (hs : s ≤ 200) : dryN S (rX w 44) s = dryN S rPl s := by
  have hA := hS.2.1
  have hok := okE_run (area := S 0 0) (size := s) hS hy h.1 (PA_p h s) (by omega) (by omega)
  exact sm_c _ (fun k hk => (rn_like hok (fun m _ lv wet _ _ => PA_l h m lv wet) k hk).2.2.2.2.2.2.2.2)
theorem isL_c {f f' : Nat → Int} {k r : Int} (h : isL f k r) (he : ∀ s, s ≤ 200 → f s = f' s) : isL f' k r := by
  rcases h with ⟨h1, h2⟩ | ⟨h1, h2, h3⟩
  · exact Or.inl ⟨h1, fun s hs => by rw [← he s hs]; exact h2 s hs⟩
  · exact Or.inr ⟨h1, by rw [← he _ (by omega)]; exact h2, fun s hs => by rw [← he s (by omega)]; exact h3 s hs⟩
theorem PA_of {w w1 : wW} (h : PA w) (he : ∀ k i, (36 ≤ k ∧ k ≤ 55) → w1 k i = w k i) : PA w1 := ⟨rR_of h.1 he, by rw [he 44 1 (by decide)]; exact h.2.1, by rw [he 44 2 (by decide)]; exact h.2.2⟩
def letP (S T : wW) (k r : Int) : Prop := if T 4 4 = 0 ∨ S 4 1 = 0 then r = -103 else if k < 0 ∨ 96 < k then r = -102 else isL (dryN S rPl) k r

def p_X9_let (S T : wW) : List wV → wW → Prop := fun av w => match av with
  | [.inr (.inr (some this)), .inl k] => this = 0 ∧ RQ S T w ∧ PA w ∧ inI k
  | _ => False
theorem h_X9_let (S T : wW) : ∀ av w, (p_X9_let S T) av w → ∃ a r, av = vr a :: r ∧ w_kd a = 100 + 9 := by
  intro av w h
  unfold p_X9_let at h
  split at h
  · refine ⟨_, _, rfl, ?_⟩
    first | (rw [h.1]; rfl) | (rw [h]; rfl)
  · exact h.elim
def q_X9_let (S T : wW) : List wV → wW → Int → wW → Prop := fun av w r w' => match av with
  | [.inr (.inr (some this)), .inl k] => letP S T k r ∧ evT S w w'
  | _ => False
set_option maxRecDepth 100000 in
set_option maxHeartbeats 4000000 in
theorem c_X9_let (S T : wW) : w_Ct yX9_let cX9_let 2 1 6 148 (p_X9_let S T) (q_X9_let S T) := by
  refine w_met (own := RX9) (fl := w_fl9) (gs := w_gs9) (kl := w_kl9) (ki := w_ki9) (cs := [(180, (0, 1, 3, p_X9_lacksHouseOrYear, q_X9_lacksHouseOrYear)), (205, (0, 3, 1, (p_X5_leastSize S), (q_X5_leastSize S)))]) (by decide +kernel) rfl ?_ w_flok9 w_gsok9 w_klok9 w_kiok9 ?_ ?_
  · intro av w h
    unfold p_X9_let at h
    split at h
    · simp [w_pos, w_cat]
    · exact h.elim
  · exact List.forall_mem_cons.mpr ⟨⟨_, _, w_callV (own := RX9) (idx := 180) (ci := 9) c_X9_lacksHouseOrYear rfl rfl h_X9_lacksHouseOrYear (w_m3 88 (by decide +kernel) (by decide +kernel)) (w_m3 90 (by decide +kernel) (by decide +kernel)) (w_m0 12 (by decide +kernel) (by decide +kernel)) (w_m1 1 (by decide +kernel) (by decide +kernel)) (w_m3 91 (by decide +kernel) (by decide +kernel)) ⟨by decide +kernel, by decide +kernel, by decide +kernel⟩, by decide, by decide⟩, List.forall_mem_cons.mpr ⟨⟨_, _, w_callV (own := RX9) (idx := 205) (ci := 5) (c_X5_leastSize S) rfl rfl (h_X5_leastSize S) (w_m3 185 (by decide +kernel) (by decide +kernel)) (w_m3 186 (by decide +kernel) (by decide +kernel)) (w_m3 187 (by decide +kernel) (by decide +kernel)) (w_m1 10 (by decide +kernel) (by decide +kernel)) (w_m3 188 (by decide +kernel) (by decide +kernel)) ⟨by decide +kernel, by decide +kernel, by decide +kernel⟩, by decide, by decide⟩, fun _ h => absurd h List.not_mem_nil⟩⟩
  intro av w hp
  unfold p_X9_let at hp
  split at hp
  case h_2 => exact hp.elim
  rename_i this k
  intro G hG
  simp only [w_ent, w_pos, w_cat, Nat.reduceEqDiff, ↓reduceIte, List.length_cons, List.length_nil, Nat.reduceAdd, Nat.reduceSub, List.cons_append, List.nil_append, List.replicate_succ, List.replicate_zero]
  obtain ⟨rfl, hQ, hPA, hk⟩ := hp
  have hT0 : evT S w w := ⟨fun k i _ => rfl, hQ.2.2.2.2.1⟩
  obtain ⟨-, ⟨hh, hh0⟩, ⟨hy, hyX⟩, hH, hwi, -⟩ := hQ
  have hyc := hy.1
  have hy1 := hyX.1
  have e23 : ¬ (T 4 4 = 0 ∨ S 4 1 = 0) → (0 ≤ k ∧ k ≤ 96) → G 23 [some (vr 0), some (vi k)] [] w := by
    intro h2 h3
    obtain ⟨hS, hXw⟩ := hH (by omega)
    have hpc : p_X5_leastSize S [vr 90, vr 44, vi k] w := ⟨rfl, hS, hXw, ⟨hy, hyX⟩, hPA.1, hPA.2.1, h3⟩
    have e35 : ∀ r1 w1, q_X5_leastSize S [vr 90, vr 44, vi k] w r1 w1 → G 35 [some (vr 0), some (vi k)] [vi r1] w1 := by
      intro r1 w1 hq
      simp only [q_X5_leastSize] at hq
      obtain ⟨g1, g2, g3⟩ := hq
      (apply hG [] 2000; simp only [w_br_i, w_ite, w_all, w_all0, forall_eq, w_b0, w_b1, ↓reduceIte, w_ent, w_pos, List.replicate_succ, List.replicate_zero, wp_s, wk_s, w_lk_c, w_ld0, w_ldS, w_kp0, w_kp, w_s1, w_s2, w_to, w_if, w_call, w_sw, w_cat, w_cats, w_psh, w_fv, List.contains_cons, List.contains_nil, List.set_cons_zero, List.set_cons_succ, List.length_cons, List.length_nil, List.find?_cons, List.find?_nil, List.take_succ_cons, List.take_zero, List.drop_succ_cons, List.drop_zero, List.reverse_cons, List.reverse_nil, List.nil_append, List.cons_append, Option.map_some, Option.map_none, Nat.reduceAdd, Nat.reduceBEq, Nat.reduceEqDiff, Nat.reduceLT, Nat.reduceLeDiff, Nat.reduceSub, Int.reduceAdd, Int.reduceSub, Int.reduceMul, Int.reduceNeg, Int.reduceToNat, Int.reduceLT, Int.reduceLE, Int.reduceEq, Bool.false_eq_true, Bool.or_false, Bool.false_or, Bool.true_or, Bool.or_true, if_true, if_false, ite_true, ite_false, true_and, and_true, false_and, and_false, true_or, or_true, false_or, or_false, Int.cast_ofNat_Int, Int.toNat_natCast, Int.natCast_add, List.getElem?_cons_zero, List.getElem?_cons_succ, true_implies, forall_const, not_true_eq_false, not_false_eq_true, ne_eq, beq_iff_eq, imp_self, List.length_set, Nat.zero_add, Nat.add_zero, Int.zero_add, Int.add_zero, w1_aload_n_0, w1_invokevirtual, w1_ifCond, w1_bipush, w1_ireturn, w1_iload_n_1, w1_if_icmp, w1_getfield, dX9_let_0, dX9_let_1, dX9_let_4, dX9_let_7, dX9_let_9, dX9_let_10, dX9_let_11, dX9_let_14, dX9_let_15, dX9_let_17, dX9_let_20, dX9_let_22, dX9_let_23, dX9_let_24, dX9_let_27, dX9_let_28, dX9_let_31, dX9_let_32, dX9_let_35, w_flk9_48, w_flk9_81, w_kd_0, w_rf_0_0, w_rf_0_1, w_rf_0_2, w_rf_0_3, w_rf_0_4, w_rf_0_5, w_rf_0_6, w_rf_0_7, w_rf_0_8, w_rf_0_9, w_rf_0_10])
      (repeat' (with_reducible (first | refine And.intro ?_ ?_ | intro _))) <;> (try (first | assumption | contradiction | exact Or.inl trivial | exact Or.inl rfl | exact Or.inr rfl | (simp only [inI, inL]; omega) | omega))
      all_goals (refine ⟨?_, fun k i hk => g1 k i (by omega), wiI_of hwi (fun k i hk => g1 k i (by omega))⟩; unfold letP; rw [if_neg h2, if_neg (by omega)]; exact isL_c g3 (fun s hs => PA_dry hS hy hPA hs))
    (apply hG [35] 2000; simp only [w_br_i, w_ite, w_all, w_all0, forall_eq, w_b0, w_b1, ↓reduceIte, w_ent, w_pos, List.replicate_succ, List.replicate_zero, wp_s, wk_s, w_lk_c, w_ld0, w_ldS, w_kp0, w_kp, w_s1, w_s2, w_to, w_if, w_call, w_sw, w_cat, w_cats, w_psh, w_fv, List.contains_cons, List.contains_nil, List.set_cons_zero, List.set_cons_succ, List.length_cons, List.length_nil, List.find?_cons, List.find?_nil, List.take_succ_cons, List.take_zero, List.drop_succ_cons, List.drop_zero, List.reverse_cons, List.reverse_nil, List.nil_append, List.cons_append, Option.map_some, Option.map_none, Nat.reduceAdd, Nat.reduceBEq, Nat.reduceEqDiff, Nat.reduceLT, Nat.reduceLeDiff, Nat.reduceSub, Int.reduceAdd, Int.reduceSub, Int.reduceMul, Int.reduceNeg, Int.reduceToNat, Int.reduceLT, Int.reduceLE, Int.reduceEq, Bool.false_eq_true, Bool.or_false, Bool.false_or, Bool.true_or, Bool.or_true, if_true, if_false, ite_true, ite_false, true_and, and_true, false_and, and_false, true_or, or_true, false_or, or_false, Int.cast_ofNat_Int, Int.toNat_natCast, Int.natCast_add, List.getElem?_cons_zero, List.getElem?_cons_succ, true_implies, forall_const, not_true_eq_false, not_false_eq_true, ne_eq, beq_iff_eq, imp_self, List.length_set, Nat.zero_add, Nat.add_zero, Int.zero_add, Int.add_zero, w1_aload_n_0, w1_invokevirtual, w1_ifCond, w1_bipush, w1_ireturn, w1_iload_n_1, w1_if_icmp, w1_getfield, dX9_let_0, dX9_let_1, dX9_let_4, dX9_let_7, dX9_let_9, dX9_let_10, dX9_let_11, dX9_let_14, dX9_let_15, dX9_let_17, dX9_let_20, dX9_let_22, dX9_let_23, dX9_let_24, dX9_let_27, dX9_let_28, dX9_let_31, dX9_let_32, dX9_let_35, w_flk9_48, w_flk9_81, w_kd_0, w_rf_0_0, w_rf_0_1, w_rf_0_2, w_rf_0_3, w_rf_0_4, w_rf_0_5, w_rf_0_6, w_rf_0_7, w_rf_0_8, w_rf_0_9, w_rf_0_10, hpc])
    (repeat' (with_reducible (first | refine And.intro ?_ ?_ | intro _))) <;> (try (first | assumption | contradiction | exact Or.inl trivial | exact Or.inl rfl | exact Or.inr rfl | (simp only [inI, inL]; omega) | omega))
    all_goals exact e35 _ _ (by assumption)
  (apply hG [23] 2000; simp only [w_br_i, w_ite, w_all, w_all0, forall_eq, w_b0, w_b1, ↓reduceIte, w_ent, w_pos, List.replicate_succ, List.replicate_zero, wp_s, wk_s, w_lk_c, w_ld0, w_ldS, w_kp0, w_kp, w_s1, w_s2, w_to, w_if, w_call, w_sw, w_cat, w_cats, w_psh, w_fv, List.contains_cons, List.contains_nil, List.set_cons_zero, List.set_cons_succ, List.length_cons, List.length_nil, List.find?_cons, List.find?_nil, List.take_succ_cons, List.take_zero, List.drop_succ_cons, List.drop_zero, List.reverse_cons, List.reverse_nil, List.nil_append, List.cons_append, Option.map_some, Option.map_none, Nat.reduceAdd, Nat.reduceBEq, Nat.reduceEqDiff, Nat.reduceLT, Nat.reduceLeDiff, Nat.reduceSub, Int.reduceAdd, Int.reduceSub, Int.reduceMul, Int.reduceNeg, Int.reduceToNat, Int.reduceLT, Int.reduceLE, Int.reduceEq, Bool.false_eq_true, Bool.or_false, Bool.false_or, Bool.true_or, Bool.or_true, if_true, if_false, ite_true, ite_false, true_and, and_true, false_and, and_false, true_or, or_true, false_or, or_false, Int.cast_ofNat_Int, Int.toNat_natCast, Int.natCast_add, List.getElem?_cons_zero, List.getElem?_cons_succ, true_implies, forall_const, not_true_eq_false, not_false_eq_true, ne_eq, beq_iff_eq, imp_self, List.length_set, Nat.zero_add, Nat.add_zero, Int.zero_add, Int.add_zero, w1_aload_n_0, w1_invokevirtual, w1_ifCond, w1_bipush, w1_ireturn, w1_iload_n_1, w1_if_icmp, w1_getfield, dX9_let_0, dX9_let_1, dX9_let_4, dX9_let_7, dX9_let_9, dX9_let_10, dX9_let_11, dX9_let_14, dX9_let_15, dX9_let_17, dX9_let_20, dX9_let_22, dX9_let_23, dX9_let_24, dX9_let_27, dX9_let_28, dX9_let_31, dX9_let_32, dX9_let_35, w_flk9_48, w_flk9_81, w_kd_0, w_rf_0_0, w_rf_0_1, w_rf_0_2, w_rf_0_3, w_rf_0_4, w_rf_0_5, w_rf_0_6, w_rf_0_7, w_rf_0_8, w_rf_0_9, w_rf_0_10, p_X9_lacksHouseOrYear, q_X9_lacksHouseOrYear, hh0, hy1])
  (repeat' (with_reducible (first | refine And.intro ?_ ?_ | intro _))) <;> (try (first | assumption | contradiction | exact Or.inl trivial | exact Or.inl rfl | exact Or.inr rfl | (simp only [inI, inL]; omega) | omega))
  all_goals first
    | exact e23 (by omega) (by omega)
    | exact ⟨by unfold letP; (repeat' split) <;> first | rfl | (exfalso; omega), hT0⟩
