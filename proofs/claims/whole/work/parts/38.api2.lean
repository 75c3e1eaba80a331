theorem pSign_f (t : Nat → Int) (len c : Int) (p : pP) : (pSign t len c p).2.2 = p.2.2 := by unfold pSign; split <;> rfl
theorem pNum_f (t : Nat → Int) (len least most : Int) (p : pP) : (pNum t len least most p).2.2 = p.2.2 := by unfold pNum; split <;> rfl
theorem pFld_f (t : Nat → Int) (len c : Int) (j : Nat) (least most : Int) (p : pP) : (pFld t len c j least most p).2.2 = (fup p.2.2.1 j (pNumV t len least most (pSign t len c p)), p.2.2.2) := by
  unfold pFld pSet
  simp only [pNum_f, pSign_f]
theorem fup_i (f : Nat → Int) (j i : Nat) (v : Int) : fup f j v i = if i = j then v else f i := rfl
/-- what the reading leaves in its numbers -/
def fR (f : Nat → Int) : Prop := (0 ≤ f 0 ∧ f 0 ≤ 20) ∧ (0 ≤ f 1 ∧ f 1 ≤ 200) ∧ (0 ≤ f 2 ∧ f 2 ≤ 9) ∧ (0 ≤ f 3 ∧ f 3 ≤ 9) ∧ (0 ≤ f 4 ∧ f 4 ≤ 9) ∧ (0 ≤ f 5 ∧ f 5 ≤ 5) ∧ (0 ≤ f 6 ∧ f 6 ≤ 9)
def fT (f : Nat → Int) : Prop := ∀ u, u < 3 → inI (f (9 + 3 * u))
theorem pPq_f {t : Nat → Int} {len : Int} {p : pP} (h : pI len p) : (fR p.2.2.1 → fR (pPq t len p).2.2.1) ∧ (∀ i, 7 ≤ i → (pPq t len p).2.2.1 i = p.2.2.1 i) := by
  unfold pPq
  split
  · exact ⟨fun q => q, fun i _ => rfl⟩
  · have h1 := pFld_I (t := t) (c := 112) (j := 5) (least := 1) (most := 5) (by decide) h
    have n1 := pNumV_in (t := t) (least := 1) (most := 5) (by decide) (by decide) (pSign_I (t := t) (c := 112) h)
    have n2 := pNumV_in (t := t) (least := 0) (most := 9) (by decide) (by decide) (pSign_I (t := t) (c := 113) h1)
    simp only [pFld_f]
    refine ⟨fun q => ?_, fun i hi => ?_⟩
    · obtain ⟨q0, q1, q2, q3, q4, q5, q6⟩ := q
      refine ⟨q0, q1, q2, q3, q4, n1, n2⟩
    · simp only [fup_i]
      rw [if_neg (by omega), if_neg (by omega)]
theorem pK_f {t : Nat → Int} {len : Int} {p : pP} (h : pI len p) : (fR p.2.2.1 → fR (pK t len p).2.2.1) ∧ (∀ i, 7 ≤ i → (pK t len p).2.2.1 i = p.2.2.1 i) := by
  unfold pK
  split
  · exact ⟨fun q => q, fun i _ => rfl⟩
  · have n1 := pNumV_in (t := t) (least := 0) (most := 9) (by decide) (by decide) (pSign_I (t := t) (c := 107) h)
    simp only [pFld_f]
    refine ⟨fun q => ?_, fun i hi => ?_⟩
    · obtain ⟨q0, q1, q2, q3, q4, q5, q6⟩ := q
      exact ⟨q0, q1, q2, q3, n1, q5, q6⟩
    · simp only [fup_i]
      rw [if_neg (by omega)]
theorem pHd_f {t : Nat → Int} {len : Int} {p : pP} (h : pI len p) : fR (pHd t len p).2.2.1 ∧ (∀ i, 7 ≤ i → (pHd t len p).2.2.1 i = p.2.2.1 i) := by
  have h1 := pFld_I (t := t) (c := 97) (j := 0) (least := 1) (most := 20) (by decide) h
  have h2 := pFld_I (t := t) (c := 115) (j := 1) (least := 0) (most := 200) (by decide) h1
  have h3 := pFld_I (t := t) (c := 108) (j := 2) (least := 0) (most := 9) (by decide) h2
  have n1 := pNumV_in (t := t) (least := 1) (most := 20) (by decide) (by decide) (pSign_I (t := t) (c := 97) h)
  have n2 := pNumV_in (t := t) (least := 0) (most := 200) (by decide) (by decide) (pSign_I (t := t) (c := 115) h1)
  have n3 := pNumV_in (t := t) (least := 0) (most := 9) (by decide) (by decide) (pSign_I (t := t) (c := 108) h2)
  have n4 := pNumV_in (t := t) (least := 0) (most := 9) (by decide) (by decide) (pSign_I (t := t) (c := 119) h3)
  unfold pHd pSet
  simp only [pFld_f]
  have z9 : (0 : Int) ≤ 0 ∧ (0 : Int) ≤ 9 := by decide
  have z5 : (0 : Int) ≤ 0 ∧ (0 : Int) ≤ 5 := by decide
  refine ⟨⟨n1, n2, n3, n4, z9, z5, z9⟩, fun i hi => ?_⟩
  simp only [fup_i]
  rw [if_neg (by omega), if_neg (by omega), if_neg (by omega), if_neg (by omega), if_neg (by omega), if_neg (by omega), if_neg (by omega)]
theorem pUse_f {t : Nat → Int} {len : Int} {j : Nat} {p : pP} (h : pI len p) : (∀ i, i < j ∨ j + 2 < i → (pUse t len j p).2.2.1 i = p.2.2.1 i) ∧ (0 ≤ (pUse t len j p).2.2.1 j ∧ (pUse t len j p).2.2.1 j ≤ 15) ∧ (0 ≤ (pUse t len j p).2.2.1 (j + 1) ∧ (pUse t len j p).2.2.1 (j + 1) ≤ 9) ∧ (0 ≤ (pUse t len j p).2.2.1 (j + 2) ∧ (pUse t len j p).2.2.1 (j + 2) ≤ 9) := by
  have h0 := pSign_I (t := t) (c := 59) h
  have h1 := pFld_I (t := t) (c := 117) (j := j) (least := 1) (most := 15) (by decide) h0
  have h2 := pFld_I (t := t) (c := 104) (j := j + 1) (least := 0) (most := 9) (by decide) h1
  have n1 := pNumV_in (t := t) (least := 1) (most := 15) (by decide) (by decide) (pSign_I (t := t) (c := 117) h0)
  have n2 := pNumV_in (t := t) (least := 0) (most := 9) (by decide) (by decide) (pSign_I (t := t) (c := 104) h1)
  have n3 := pNumV_in (t := t) (least := 1) (most := 9) (by decide) (by decide) (pSign_I (t := t) (c := 99) h2)
  unfold pUse
  simp only [pFld_f, pSign_f]
  simp only [fup_i]
  refine ⟨fun i hi => ?_, ?_, ?_, ?_⟩
  · rw [if_neg (by omega), if_neg (by omega), if_neg (by omega)]
  · rw [if_neg (by omega), if_neg (by omega), if_pos trivial]
    exact n1
  · rw [if_neg (by omega), if_pos trivial]
    exact n2
  · rw [if_pos trivial]
    exact n3
theorem pUs_f {t : Nat → Int} {len : Int} : ∀ (n u : Nat) {p : pP}, pI len p → u + n = 3 → 0 < n → (∀ i, i < 7 → (pUs t len n u p).2.2.1 i = p.2.2.1 i) ∧ (fT p.2.2.1 → fT (pUs t len n u p).2.2.1) ∧ ((u : Int) + 1 ≤ (pUs t len n u p).2.2.2 ∧ (pUs t len n u p).2.2.2 ≤ 3)
  | 0, _, _, _, _, h => by omega
  | n + 1, u, p, h, hn, _ => by
    obtain ⟨f1, f2, f3, f4⟩ := pUse_f (t := t) (j := 7 + 3 * u) h
    have e1 : ∀ i, i < 7 → (pUse t len (7 + 3 * u) p).2.2.1 i = p.2.2.1 i := fun i hi => f1 i (by omega)
    have e2 : fT p.2.2.1 → fT (pUse t len (7 + 3 * u) p).2.2.1 := by
      intro q v hv
      by_cases e : v = u
      · subst e
        rw [show 9 + 3 * v = 7 + 3 * v + 2 by omega]
        exact ⟨by omega, by omega⟩
      · rw [f1 _ (by omega)]
        exact q v hv
    simp only [pUs]
    split
    · rename_i hc
      have ih := pUs_f (t := t) n (u + 1) (p := pU0 (pUse t len (7 + 3 * u) p) (u + 1 : Nat)) (pUse_I h) (by omega) hc.2.2
      refine ⟨fun i hi => ?_, fun q => ih.2.1 (e2 q), ?_⟩
      · rw [ih.1 i hi]
        exact e1 i hi
      · have := ih.2.2
        omega
    · refine ⟨e1, e2, ?_⟩
      show (u : Int) + 1 ≤ ((u + 1 : Nat) : Int) ∧ ((u + 1 : Nat) : Int) ≤ 3
      omega
theorem pHs_f {t : Nat → Int} {len : Int} {p : pP} (h : pI len p) : fR (pHs t len p).2.2.1 ∧ (fT p.2.2.1 → fT (pHs t len p).2.2.1) ∧ (1 ≤ (pHs t len p).2.2.2 ∧ (pHs t len p).2.2.2 ≤ 3) := by
  have a := pHd_f (t := t) h
  have ai := pHd_I (t := t) h
  have b := pK_f (t := t) ai
  have bi := pK_I (t := t) ai
  have c := pPq_f (t := t) bi
  have ci := pPq_I (t := t) bi
  have d := pUs_f (t := t) 3 0 (p := pU0 (pPq t len (pK t len (pHd t len p))) 0) ci rfl (by decide)
  have e := c.1 (b.1 a.1)
  obtain ⟨d1, d2, d3⟩ := d
  have d3' : 1 ≤ (pHs t len p).2.2.2 ∧ (pHs t len p).2.2.2 ≤ 3 := by
    unfold pHs
    omega
  have d2' : fT p.2.2.1 → fT (pHs t len p).2.2.1 := by
    intro q
    unfold pHs
    refine d2 ?_
    intro u hu
    have h1 := c.2 (9 + 3 * u) (by omega)
    have h2 := b.2 (9 + 3 * u) (by omega)
    have h3 := a.2 (9 + 3 * u) (by omega)
    have h4 := q u hu
    rw [← h3, ← h2, ← h1] at h4
    exact h4
  refine ⟨?_, d2', d3'⟩
  · unfold pHs
    unfold fR
    rw [d1 0 (by decide), d1 1 (by decide), d1 2 (by decide), d1 3 (by decide), d1 4 (by decide), d1 5 (by decide), d1 6 (by decide)]
    exact e
theorem pAll_I {t : Nat → Int} {len sort : Int} {p : pP} (h : 0 ≤ len) : pI len (pAll t len sort p) := by
  have hI : pI len (0, 1, p.2.2) := ⟨⟨Int.le_refl _, h⟩, Or.inr rfl⟩
  unfold pAll
  split
  · exact pHs_I hI
  · split
    · exact pYr_I _ _ hI
    · exact pRl_I _ _ hI
theorem pEnd_01 (len : Int) (p : pP) : pEnd len p = 0 ∨ pEnd len p = 1 := by
  unfold pEnd
  split
  · exact Or.inr rfl
  · exact Or.inl rfl
theorem pw_x (w : wW) (p : pP) {k i : Nat} (h : k ≠ 3 ∧ k ≠ 1) : pw w p k i = w k i := by
  unfold pw
  rw [if_neg h.1, if_neg (fun q => h.2 q.1), if_neg (fun q => h.2 q.1), if_neg (fun q => h.2 q.1)]
def p_X9_fault : List wV → wW → Prop := fun av w => match av with
  | [.inr (.inr (some this)), .inl sort] => this = 0 ∧ tI w ∧ inI sort
  | _ => False
theorem h_X9_fault : ∀ av w, p_X9_fault av w → ∃ a r, av = vr a :: r ∧ w_kd a = 100 + 9 := by
  intro av w h
  unfold p_X9_fault at h
  split at h
  · refine ⟨_, _, rfl, ?_⟩
    first | (rw [h.1]; rfl) | (rw [h]; rfl)
  · exact h.elim
def q_X9_fault : List wV → wW → Int → wW → Prop := fun av w r w' => match av with
  | [.inr (.inr (some this)), .inl sort] => (r = if sort < 0 ∨ 2 < sort then -102 else (pAll (w 2) (w 1 2) sort (pq w)).1) ∧ w' = if sort < 0 ∨ 2 < sort then w else pw w (pAll (w 2) (w 1 2) sort (pq w))
  | _ => False
set_option maxRecDepth 100000 in
set_option maxHeartbeats 4000000 in
theorem c_X9_fault : w_Ct yX9_fault cX9_fault 2 1 5 110 p_X9_fault q_X9_fault := by
  refine w_met (own := RX9) (fl := w_fl9) (gs := w_gs9) (kl := w_kl9) (ki := w_ki9) (cs := [(104, (0, 2, 3, p_X3_isText, q_X3_isText))]) (by decide +kernel) rfl ?_ w_flok9 w_gsok9 w_klok9 w_kiok9 ?_ ?_
  · intro av w h
    unfold p_X9_fault at h
    split at h
    · simp [w_pos, w_cat]
    · exact h.elim
  · exact List.forall_mem_cons.mpr ⟨⟨_, _, w_callV (own := RX9) (idx := 104) (ci := 3) c_X3_isText rfl rfl h_X3_isText (w_m2 199 (by decide +kernel) (by decide +kernel)) (w_m2 200 (by decide +kernel) (by decide +kernel)) (w_m2 201 (by decide +kernel) (by decide +kernel)) (w_m1 2 (by decide +kernel) (by decide +kernel)) (w_m2 202 (by decide +kernel) (by decide +kernel)) ⟨by decide +kernel, by decide +kernel, by decide +kernel⟩, by decide, by decide⟩, fun _ h => absurd h List.not_mem_nil⟩
  intro av w hp
  unfold p_X9_fault at hp
  split at hp
  case h_2 => exact hp.elim
  rename_i this sort
  intro G hG
  simp only [w_ent, w_pos, w_cat, Nat.reduceEqDiff, ↓reduceIte, List.length_cons, List.length_nil, Nat.reduceAdd, Nat.reduceSub, List.cons_append, List.nil_append, List.replicate_succ, List.replicate_zero]
  obtain ⟨rfl, h2, h3⟩ := hp
  have e01 := pEnd_01 (w 1 2) (pAll (w 2) (w 1 2) sort (pq w))
  (apply hG [] 2000; simp only [w_br_i, w_ite, w_all, w_all0, forall_eq, w_b0, w_b1, ↓reduceIte, w_ent, w_pos, List.replicate_succ, List.replicate_zero, wp_s, wk_s, w_lk_c, w_ld0, w_ldS, w_kp0, w_kp, w_s1, w_s2, w_to, w_if, w_call, w_sw, w_cat, w_cats, w_psh, w_fv, List.contains_cons, List.contains_nil, List.set_cons_zero, List.set_cons_succ, List.length_cons, List.length_nil, List.find?_cons, List.find?_nil, List.take_succ_cons, List.take_zero, List.drop_succ_cons, List.drop_zero, List.reverse_cons, List.reverse_nil, List.nil_append, List.cons_append, Option.map_some, Option.map_none, Nat.reduceAdd, Nat.reduceBEq, Nat.reduceEqDiff, Nat.reduceLT, Nat.reduceLeDiff, Nat.reduceSub, Int.reduceAdd, Int.reduceSub, Int.reduceMul, Int.reduceNeg, Int.reduceToNat, Int.reduceLT, Int.reduceLE, Int.reduceEq, Bool.false_eq_true, Bool.or_false, Bool.false_or, Bool.true_or, Bool.or_true, if_true, if_false, ite_true, ite_false, true_and, and_true, false_and, and_false, true_or, or_true, false_or, or_false, Int.cast_ofNat_Int, Int.toNat_natCast, Int.natCast_add, List.getElem?_cons_zero, List.getElem?_cons_succ, true_implies, forall_const, not_true_eq_false, not_false_eq_true, ne_eq, beq_iff_eq, imp_self, List.length_set, Nat.zero_add, Nat.add_zero, Int.zero_add, Int.add_zero, w1_iload_n_1, w1_ifCond, w1_iconst, w1_if_icmp, w1_bipush, w1_ireturn, w1_aload_n_0, w1_getfield, w1_invokevirtual, w1_pop, w1_pop2, dX9_fault_0, dX9_fault_1, dX9_fault_4, dX9_fault_5, dX9_fault_6, dX9_fault_9, dX9_fault_11, dX9_fault_12, dX9_fault_13, dX9_fault_16, dX9_fault_17, dX9_fault_20, dX9_fault_21, dX9_fault_22, dX9_fault_25, dX9_fault_28, w_flk9_108, w_flk9_12, w_kd_0, w_rf_0_0, w_rf_0_1, w_rf_0_2, w_rf_0_3, w_rf_0_4, w_rf_0_5, w_rf_0_6, w_rf_0_7, w_rf_0_8, w_rf_0_9, w_rf_0_10, w_kd_1, w_rf_1_0, w_rf_1_1, p_X3_isText, q_X3_isText, pw_14, h2])
  (repeat' (with_reducible (first | refine And.intro ?_ ?_ | intro _))) <;> (try (first | assumption | contradiction | exact Or.inl trivial | exact Or.inl rfl | exact Or.inr rfl | (simp only [inI, inL]; omega) | omega))
  all_goals (simp only [q_X9_fault]; ((repeat' (first | refine And.intro ?_ ?_ | split)) <;> (first | rfl | trivial | assumption | contradiction | omega | (exfalso; omega))))
def p_X9_year : List wV → wW → Prop := fun av w => match av with
  | [.inr (.inr (some this))] => this = 0 ∧ tI w ∧ (0 ≤ w 11 1 ∧ w 11 1 ≤ 8)
  | _ => False
theorem h_X9_year : ∀ av w, p_X9_year av w → ∃ a r, av = vr a :: r ∧ w_kd a = 100 + 9 := by
  intro av w h
  unfold p_X9_year at h
  split at h
  · refine ⟨_, _, rfl, ?_⟩
    first | (rw [h.1]; rfl) | (rw [h]; rfl)
  · exact h.elim
def w_year (w : wW) : wW := w_up (w_up (w_up (w_cpy (pw w (pAll (w 2) (w 1 2) 1 (pq w))) 3 0 (13 + (w 11 1).toNat) 0 12) 11 1 (w 11 1 + 1)) 1 2 0) 0 15 (w 0 15 + 1)
def q_X9_year : List wV → wW → Int → wW → Prop := fun av w r w' => match av with
  | [.inr (.inr (some this))] => (pEnd (w 1 2) (pAll (w 2) (w 1 2) 1 (pq w)) = 0 → r = -103 ∧ w' = pw w (pAll (w 2) (w 1 2) 1 (pq w))) ∧ (¬ pEnd (w 1 2) (pAll (w 2) (w 1 2) 1 (pq w)) = 0 → 8 ≤ w 11 1 → r = -104 ∧ w' = pw w (pAll (w 2) (w 1 2) 1 (pq w))) ∧ (¬ pEnd (w 1 2) (pAll (w 2) (w 1 2) 1 (pq w)) = 0 → w 11 1 < 8 → r = w 11 1 ∧ w' = w_year w)
  | _ => False
set_option maxRecDepth 100000 in
set_option maxHeartbeats 4000000 in
theorem c_X9_year : w_Ct yX9_year cX9_year 1 1 5 110 p_X9_year q_X9_year := by
  refine w_met (own := RX9) (fl := w_fl9) (gs := w_gs9) (kl := w_kl9) (ki := w_ki9) (cs := [(104, (0, 2, 3, p_X3_isText, q_X3_isText)), (134, (1, 5, 0, w_preCp, w_postCp))]) (by decide +kernel) rfl ?_ w_flok9 w_gsok9 w_klok9 w_kiok9 ?_ ?_
  · intro av w h
    unfold p_X9_year at h
    split at h
    · simp [w_pos, w_cat]
    · exact h.elim
  · exact List.forall_mem_cons.mpr ⟨⟨_, _, w_callV (own := RX9) (idx := 104) (ci := 3) c_X3_isText rfl rfl h_X3_isText (w_m2 199 (by decide +kernel) (by decide +kernel)) (w_m2 200 (by decide +kernel) (by decide +kernel)) (w_m2 201 (by decide +kernel) (by decide +kernel)) (w_m1 2 (by decide +kernel) (by decide +kernel)) (w_m2 202 (by decide +kernel) (by decide +kernel)) ⟨by decide +kernel, by decide +kernel, by decide +kernel⟩, by decide, by decide⟩, List.forall_mem_cons.mpr ⟨⟨_, _, w_callCp (own := RX9) (idx := 134) (w_m3 33 (by decide +kernel) (by decide +kernel)) (w_m3 12 (by decide +kernel) (by decide +kernel)) (w_m1 13 (by decide +kernel) (by decide +kernel)) (w_m3 13 (by decide +kernel) (by decide +kernel)), by decide, by decide⟩, fun _ h => absurd h List.not_mem_nil⟩⟩
  intro av w hp
  unfold p_X9_year at hp
  split at hp
  case h_2 => exact hp.elim
  rename_i this
  intro G hG
  simp only [w_ent, w_pos, w_cat, Nat.reduceEqDiff, ↓reduceIte, List.length_cons, List.length_nil, Nat.reduceAdd, Nat.reduceSub, List.cons_append, List.nil_append, List.replicate_succ, List.replicate_zero]
  obtain ⟨rfl, h2, h3⟩ := hp
  have e01 := pEnd_01 (w 1 2) (pAll (w 2) (w 1 2) 1 (pq w))
  generalize hA : pAll (w 2) (w 1 2) 1 (pq w) = A at e01
  obtain ⟨c, hc⟩ : ∃ c : Nat, w 11 1 = c := ⟨(w 11 1).toNat, by omega⟩
  have x1 : pw w A 11 1 = c := by rw [pw_x _ _ (by decide), hc]
  have e29 : c < 8 → ¬ pEnd (w 1 2) A = 0 → G 29 [some (vr 0)] [] (pw w A) := by
    intro hc8 hne
    have k := w_kdy (y := c) hc8
    have x2 : w_cpy (pw w A) 3 0 (13 + c) 0 12 11 1 = c := by rw [w_cpy, if_neg (by omega), x1]
    have x3 : ∀ u v, w_up (w_up (w_cpy (pw w A) 3 0 (13 + c) 0 12) 11 1 u) 1 2 v 0 15 = w 0 15 := fun u v => by rw [up_k (by decide), up_k (by decide), w_cpy, if_neg (by omega), pw_x _ _ (by decide)]
    have x4 : ∀ u v z, w_up (w_up (w_up (w_cpy (pw w A) 3 0 (13 + c) 0 12) 11 1 u) 1 2 v) 0 15 z 11 1 = u := fun u v z => by rw [up_k (by decide), up_k (by decide), up_eq]
    (apply hG [] 2000; simp only [w_br_i, w_ite, w_all, w_all0, forall_eq, w_b0, w_b1, ↓reduceIte, w_ent, w_pos, List.replicate_succ, List.replicate_zero, wp_s, wk_s, w_lk_c, w_ld0, w_ldS, w_kp0, w_kp, w_s1, w_s2, w_to, w_if, w_call, w_sw, w_cat, w_cats, w_psh, w_fv, List.contains_cons, List.contains_nil, List.set_cons_zero, List.set_cons_succ, List.length_cons, List.length_nil, List.find?_cons, List.find?_nil, List.take_succ_cons, List.take_zero, List.drop_succ_cons, List.drop_zero, List.reverse_cons, List.reverse_nil, List.nil_append, List.cons_append, Option.map_some, Option.map_none, Nat.reduceAdd, Nat.reduceBEq, Nat.reduceEqDiff, Nat.reduceLT, Nat.reduceLeDiff, Nat.reduceSub, Int.reduceAdd, Int.reduceSub, Int.reduceMul, Int.reduceNeg, Int.reduceToNat, Int.reduceLT, Int.reduceLE, Int.reduceEq, Bool.false_eq_true, Bool.or_false, Bool.false_or, Bool.true_or, Bool.or_true, if_true, if_false, ite_true, ite_false, true_and, and_true, false_and, and_false, true_or, or_true, false_or, or_false, Int.cast_ofNat_Int, Int.toNat_natCast, Int.natCast_add, List.getElem?_cons_zero, List.getElem?_cons_succ, true_implies, forall_const, not_true_eq_false, not_false_eq_true, ne_eq, beq_iff_eq, imp_self, List.length_set, Nat.zero_add, Nat.add_zero, Int.zero_add, Int.add_zero, w1_aload_n_0, w1_getfield, w1_iconst, w1_invokevirtual, w1_ifCond, w1_bipush, w1_ireturn, w1_if_icmp, w1_aaload, w1_invokestatic, w1_dup, w1_dup2, w1_iadd, w1_putfield, w1_putfield2, w1_isub, dX9_year_0, dX9_year_1, dX9_year_4, dX9_year_5, dX9_year_8, dX9_year_11, dX9_year_13, dX9_year_14, dX9_year_15, dX9_year_18, dX9_year_21, dX9_year_23, dX9_year_26, dX9_year_28, dX9_year_29, dX9_year_30, dX9_year_33, dX9_year_36, dX9_year_37, dX9_year_38, dX9_year_41, dX9_year_44, dX9_year_45, dX9_year_48, dX9_year_51, dX9_year_52, dX9_year_53, dX9_year_55, dX9_year_58, dX9_year_59, dX9_year_62, dX9_year_63, dX9_year_66, dX9_year_67, dX9_year_68, dX9_year_71, dX9_year_72, dX9_year_75, dX9_year_76, dX9_year_79, dX9_year_80, dX9_year_81, dX9_year_84, dX9_year_85, dX9_year_86, dX9_year_89, dX9_year_90, dX9_year_93, dX9_year_96, dX9_year_97, dX9_year_98, w_flk9_118, w_flk9_12, w_flk9_124, w_flk9_127, w_flk9_130, w_flk9_26, w_flk9_96, w_kd_0, w_rf_0_0, w_rf_0_1, w_rf_0_2, w_rf_0_3, w_rf_0_4, w_rf_0_5, w_rf_0_6, w_rf_0_7, w_rf_0_8, w_rf_0_9, w_rf_0_10, w_kd_1, w_rf_1_0, w_rf_1_1, w_kd_3, w_ln_3, w_kd_11, w_rf_11_0, w_kd_12, w_ln_12, w_preCp, w_postCp, x1, x2, x3, x4, k.1.1, k.1.2])
    (repeat' (with_reducible (first | refine And.intro ?_ ?_ | intro _))) <;> (try (first | assumption | contradiction | exact Or.inl trivial | exact Or.inl rfl | exact Or.inr rfl | (simp only [inI, inL]; omega) | omega))
    all_goals first
      | (simp only [q_X9_year, hA, hc]; refine ⟨fun q => absurd q hne, fun _ q => by omega, fun _ _ => ⟨by omega, ?_⟩⟩; simp only [w_year, hA, hc, Int.toNat_natCast])
      | skip
  (apply hG [29] 2000; simp only [w_br_i, w_ite, w_all, w_all0, forall_eq, w_b0, w_b1, ↓reduceIte, w_ent, w_pos, List.replicate_succ, List.replicate_zero, wp_s, wk_s, w_lk_c, w_ld0, w_ldS, w_kp0, w_kp, w_s1, w_s2, w_to, w_if, w_call, w_sw, w_cat, w_cats, w_psh, w_fv, List.contains_cons, List.contains_nil, List.set_cons_zero, List.set_cons_succ, List.length_cons, List.length_nil, List.find?_cons, List.find?_nil, List.take_succ_cons, List.take_zero, List.drop_succ_cons, List.drop_zero, List.reverse_cons, List.reverse_nil, List.nil_append, List.cons_append, Option.map_some, Option.map_none, Nat.reduceAdd, Nat.reduceBEq, Nat.reduceEqDiff, Nat.reduceLT, Nat.reduceLeDiff, Nat.reduceSub, Int.reduceAdd, Int.reduceSub, Int.reduceMul, Int.reduceNeg, Int.reduceToNat, Int.reduceLT, Int.reduceLE, Int.reduceEq, Bool.false_eq_true, Bool.or_false, Bool.false_or, Bool.true_or, Bool.or_true, if_true, if_false, ite_true, ite_false, true_and, and_true, false_and, and_false, true_or, or_true, false_or, or_false, Int.cast_ofNat_Int, Int.toNat_natCast, Int.natCast_add, List.getElem?_cons_zero, List.getElem?_cons_succ, true_implies, forall_const, not_true_eq_false, not_false_eq_true, ne_eq, beq_iff_eq, imp_self, List.length_set, Nat.zero_add, Nat.add_zero, Int.zero_add, Int.add_zero, w1_aload_n_0, w1_getfield, w1_iconst, w1_invokevirtual, w1_ifCond, w1_bipush, w1_ireturn, w1_if_icmp, w1_aaload, w1_invokestatic, w1_dup, w1_dup2, w1_iadd, w1_putfield, w1_putfield2, w1_isub, dX9_year_0, dX9_year_1, dX9_year_4, dX9_year_5, dX9_year_8, dX9_year_11, dX9_year_13, dX9_year_14, dX9_year_15, dX9_year_18, dX9_year_21, dX9_year_23, dX9_year_26, dX9_year_28, dX9_year_29, dX9_year_30, dX9_year_33, dX9_year_36, dX9_year_37, dX9_year_38, dX9_year_41, dX9_year_44, dX9_year_45, dX9_year_48, dX9_year_51, dX9_year_52, dX9_year_53, dX9_year_55, dX9_year_58, dX9_year_59, dX9_year_62, dX9_year_63, dX9_year_66, dX9_year_67, dX9_year_68, dX9_year_71, dX9_year_72, dX9_year_75, dX9_year_76, dX9_year_79, dX9_year_80, dX9_year_81, dX9_year_84, dX9_year_85, dX9_year_86, dX9_year_89, dX9_year_90, dX9_year_93, dX9_year_96, dX9_year_97, dX9_year_98, w_flk9_118, w_flk9_12, w_flk9_124, w_flk9_127, w_flk9_130, w_flk9_26, w_flk9_96, w_kd_0, w_rf_0_0, w_rf_0_1, w_rf_0_2, w_rf_0_3, w_rf_0_4, w_rf_0_5, w_rf_0_6, w_rf_0_7, w_rf_0_8, w_rf_0_9, w_rf_0_10, w_kd_1, w_rf_1_0, w_rf_1_1, w_kd_11, w_rf_11_0, p_X3_isText, q_X3_isText, h2, hA, x1])
  (repeat' (with_reducible (first | refine And.intro ?_ ?_ | intro _))) <;> (try (first | assumption | contradiction | exact Or.inl trivial | exact Or.inl rfl | exact Or.inr rfl | (simp only [inI, inL]; omega) | omega))
  all_goals first
    | exact e29 (by omega) (by omega)
    | (simp only [q_X9_year, hA, hc]; refine ⟨fun q1 => ?_, fun q1 q2 => ?_, fun q1 q2 => ?_⟩ <;> first | (exfalso; omega) | exact ⟨rfl, rfl⟩ | exact ⟨trivial, trivial⟩)
def p_X9_tell : List wV → wW → Prop := fun av w => match av with
  | [.inr (.inr (some this))] => this = 0 ∧ tI w ∧ (0 ≤ w 0 11 ∧ w 0 11 ≤ 8)
  | _ => False
theorem h_X9_tell : ∀ av w, p_X9_tell av w → ∃ a r, av = vr a :: r ∧ w_kd a = 100 + 9 := by
  intro av w h
  unfold p_X9_tell at h
  split at h
  · refine ⟨_, _, rfl, ?_⟩
    first | (rw [h.1]; rfl) | (rw [h]; rfl)
  · exact h.elim
def w_tell (w : wW) : wW := w_up (w_up (w_cpy (w_up (w_up (pw w (pAll (w 2) (w 1 2) 2 (pq w))) (36 + (w 0 11).toNat) 1 5) (36 + (w 0 11).toNat) 2 0) 3 0 (36 + (w 0 11).toNat + 10) 0 12) 1 2 0) 0 11 (w 0 11 + 1)
def q_X9_tell : List wV → wW → Int → wW → Prop := fun av w r w' => match av with
  | [.inr (.inr (some this))] => (pEnd (w 1 2) (pAll (w 2) (w 1 2) 2 (pq w)) = 0 → r = -103 ∧ w' = pw w (pAll (w 2) (w 1 2) 2 (pq w))) ∧ (¬ pEnd (w 1 2) (pAll (w 2) (w 1 2) 2 (pq w)) = 0 → 8 ≤ w 0 11 → r = -104 ∧ w' = pw w (pAll (w 2) (w 1 2) 2 (pq w))) ∧ (¬ pEnd (w 1 2) (pAll (w 2) (w 1 2) 2 (pq w)) = 0 → w 0 11 < 8 → r = w 0 11 ∧ w' = w_tell w)
  | _ => False
set_option maxRecDepth 100000 in
set_option maxHeartbeats 4000000 in
theorem c_X9_tell : w_Ct yX9_tell cX9_tell 2 1 5 110 p_X9_tell q_X9_tell := by
  refine w_met (own := RX9) (fl := w_fl9) (gs := w_gs9) (kl := w_kl9) (ki := w_ki9) (cs := [(104, (0, 2, 3, p_X3_isText, q_X3_isText)), (134, (1, 5, 0, w_preCp, w_postCp))]) (by decide +kernel) rfl ?_ w_flok9 w_gsok9 w_klok9 w_kiok9 ?_ ?_
  · intro av w h
    unfold p_X9_tell at h
    split at h
    · simp [w_pos, w_cat]
    · exact h.elim
  · exact List.forall_mem_cons.mpr ⟨⟨_, _, w_callV (own := RX9) (idx := 104) (ci := 3) c_X3_isText rfl rfl h_X3_isText (w_m2 199 (by decide +kernel) (by decide +kernel)) (w_m2 200 (by decide +kernel) (by decide +kernel)) (w_m2 201 (by decide +kernel) (by decide +kernel)) (w_m1 2 (by decide +kernel) (by decide +kernel)) (w_m2 202 (by decide +kernel) (by decide +kernel)) ⟨by decide +kernel, by decide +kernel, by decide +kernel⟩, by decide, by decide⟩, List.forall_mem_cons.mpr ⟨⟨_, _, w_callCp (own := RX9) (idx := 134) (w_m3 33 (by decide +kernel) (by decide +kernel)) (w_m3 12 (by decide +kernel) (by decide +kernel)) (w_m1 13 (by decide +kernel) (by decide +kernel)) (w_m3 13 (by decide +kernel) (by decide +kernel)), by decide, by decide⟩, fun _ h => absurd h List.not_mem_nil⟩⟩
  intro av w hp
  unfold p_X9_tell at hp
  split at hp
  case h_2 => exact hp.elim
  rename_i this
  intro G hG
  simp only [w_ent, w_pos, w_cat, Nat.reduceEqDiff, ↓reduceIte, List.length_cons, List.length_nil, Nat.reduceAdd, Nat.reduceSub, List.cons_append, List.nil_append, List.replicate_succ, List.replicate_zero]
  obtain ⟨rfl, h2, h3⟩ := hp
  have e01 := pEnd_01 (w 1 2) (pAll (w 2) (w 1 2) 2 (pq w))
  generalize hA : pAll (w 2) (w 1 2) 2 (pq w) = A at e01
  obtain ⟨c, hc⟩ : ∃ c : Nat, w 0 11 = c := ⟨(w 0 11).toNat, by omega⟩
  have x1 : pw w A 0 11 = c := by rw [pw_x _ _ (by decide), hc]
  have e26 : c < 8 → ¬ pEnd (w 1 2) A = 0 → G 26 [some (vr 0), none] [] (pw w A) := by
    intro hc8 hne
    have k := w_kdr (a := 36 + c) (by omega)
    have kr := w_rfr (a := 36 + c) (by omega)
    have km := w_kdm (a := 36 + c) (by omega)
    have x3 : ∀ u v z, w_up (w_cpy (w_up (w_up (pw w A) (36 + c) 1 u) (36 + c) 2 v) 3 0 (36 + c + 10) 0 12) 1 2 z 0 11 = c := fun u v z => by rw [up_k (by decide), w_cpy, if_neg (by omega), up_k (by omega), up_k (by omega), x1]
    (apply hG [] 2000; simp only [w_br_i, w_ite, w_all, w_all0, forall_eq, w_b0, w_b1, ↓reduceIte, w_ent, w_pos, List.replicate_succ, List.replicate_zero, wp_s, wk_s, w_lk_c, w_ld0, w_ldS, w_kp0, w_kp, w_s1, w_s2, w_to, w_if, w_call, w_sw, w_cat, w_cats, w_psh, w_fv, List.contains_cons, List.contains_nil, List.set_cons_zero, List.set_cons_succ, List.length_cons, List.length_nil, List.find?_cons, List.find?_nil, List.take_succ_cons, List.take_zero, List.drop_succ_cons, List.drop_zero, List.reverse_cons, List.reverse_nil, List.nil_append, List.cons_append, Option.map_some, Option.map_none, Nat.reduceAdd, Nat.reduceBEq, Nat.reduceEqDiff, Nat.reduceLT, Nat.reduceLeDiff, Nat.reduceSub, Int.reduceAdd, Int.reduceSub, Int.reduceMul, Int.reduceNeg, Int.reduceToNat, Int.reduceLT, Int.reduceLE, Int.reduceEq, Bool.false_eq_true, Bool.or_false, Bool.false_or, Bool.true_or, Bool.or_true, if_true, if_false, ite_true, ite_false, true_and, and_true, false_and, and_false, true_or, or_true, false_or, or_false, Int.cast_ofNat_Int, Int.toNat_natCast, Int.natCast_add, List.getElem?_cons_zero, List.getElem?_cons_succ, true_implies, forall_const, not_true_eq_false, not_false_eq_true, ne_eq, beq_iff_eq, imp_self, List.length_set, Nat.zero_add, Nat.add_zero, Int.zero_add, Int.add_zero, w1_aload_n_0, w1_getfield, w1_iconst, w1_invokevirtual, w1_ifCond, w1_bipush, w1_ireturn, w1_if_icmp, w1_aaload, w1_astore_n_1, w1_aload_n_1, w1_putfield, w1_putfield2, w1_invokestatic, w1_dup, w1_dup2, w1_iadd, w1_isub, dX9_tell_0, dX9_tell_1, dX9_tell_4, dX9_tell_5, dX9_tell_8, dX9_tell_11, dX9_tell_13, dX9_tell_14, dX9_tell_15, dX9_tell_18, dX9_tell_20, dX9_tell_23, dX9_tell_25, dX9_tell_26, dX9_tell_27, dX9_tell_30, dX9_tell_31, dX9_tell_34, dX9_tell_35, dX9_tell_36, dX9_tell_37, dX9_tell_38, dX9_tell_41, dX9_tell_42, dX9_tell_43, dX9_tell_46, dX9_tell_47, dX9_tell_50, dX9_tell_53, dX9_tell_54, dX9_tell_55, dX9_tell_58, dX9_tell_59, dX9_tell_61, dX9_tell_64, dX9_tell_65, dX9_tell_68, dX9_tell_69, dX9_tell_72, dX9_tell_73, dX9_tell_74, dX9_tell_77, dX9_tell_78, dX9_tell_79, dX9_tell_82, dX9_tell_83, dX9_tell_86, dX9_tell_87, dX9_tell_88, w_flk9_12, w_flk9_127, w_flk9_140, w_flk9_149, w_flk9_32, w_flk9_143, w_flk9_146, w_flk9_96, w_kd_0, w_rf_0_0, w_rf_0_1, w_rf_0_2, w_rf_0_3, w_rf_0_4, w_rf_0_5, w_rf_0_6, w_rf_0_7, w_rf_0_8, w_rf_0_9, w_rf_0_10, w_kd_1, w_rf_1_0, w_rf_1_1, w_kd_3, w_ln_3, w_kd_35, w_ln_35, w_preCp, w_postCp, x1, x3, up_eq, k, kr, km.1, km.2])
    (repeat' (with_reducible (first | refine And.intro ?_ ?_ | intro _))) <;> (try (first | assumption | contradiction | exact Or.inl trivial | exact Or.inl rfl | exact Or.inr rfl | (simp only [inI, inL]; omega) | omega))
    all_goals first
      | (simp only [q_X9_tell, hA, hc]; refine ⟨fun q => absurd q hne, fun _ q => by omega, fun _ _ => ⟨by omega, ?_⟩⟩; simp only [w_tell, hA, hc, Int.toNat_natCast])
      | skip
  (apply hG [26] 2000; simp only [w_br_i, w_ite, w_all, w_all0, forall_eq, w_b0, w_b1, ↓reduceIte, w_ent, w_pos, List.replicate_succ, List.replicate_zero, wp_s, wk_s, w_lk_c, w_ld0, w_ldS, w_kp0, w_kp, w_s1, w_s2, w_to, w_if, w_call, w_sw, w_cat, w_cats, w_psh, w_fv, List.contains_cons, List.contains_nil, List.set_cons_zero, List.set_cons_succ, List.length_cons, List.length_nil, List.find?_cons, List.find?_nil, List.take_succ_cons, List.take_zero, List.drop_succ_cons, List.drop_zero, List.reverse_cons, List.reverse_nil, List.nil_append, List.cons_append, Option.map_some, Option.map_none, Nat.reduceAdd, Nat.reduceBEq, Nat.reduceEqDiff, Nat.reduceLT, Nat.reduceLeDiff, Nat.reduceSub, Int.reduceAdd, Int.reduceSub, Int.reduceMul, Int.reduceNeg, Int.reduceToNat, Int.reduceLT, Int.reduceLE, Int.reduceEq, Bool.false_eq_true, Bool.or_false, Bool.false_or, Bool.true_or, Bool.or_true, if_true, if_false, ite_true, ite_false, true_and, and_true, false_and, and_false, true_or, or_true, false_or, or_false, Int.cast_ofNat_Int, Int.toNat_natCast, Int.natCast_add, List.getElem?_cons_zero, List.getElem?_cons_succ, true_implies, forall_const, not_true_eq_false, not_false_eq_true, ne_eq, beq_iff_eq, imp_self, List.length_set, Nat.zero_add, Nat.add_zero, Int.zero_add, Int.add_zero, w1_aload_n_0, w1_getfield, w1_iconst, w1_invokevirtual, w1_ifCond, w1_bipush, w1_ireturn, w1_if_icmp, w1_aaload, w1_astore_n_1, w1_aload_n_1, w1_putfield, w1_putfield2, w1_invokestatic, w1_dup, w1_dup2, w1_iadd, w1_isub, dX9_tell_0, dX9_tell_1, dX9_tell_4, dX9_tell_5, dX9_tell_8, dX9_tell_11, dX9_tell_13, dX9_tell_14, dX9_tell_15, dX9_tell_18, dX9_tell_20, dX9_tell_23, dX9_tell_25, dX9_tell_26, dX9_tell_27, dX9_tell_30, dX9_tell_31, dX9_tell_34, dX9_tell_35, dX9_tell_36, dX9_tell_37, dX9_tell_38, dX9_tell_41, dX9_tell_42, dX9_tell_43, dX9_tell_46, dX9_tell_47, dX9_tell_50, dX9_tell_53, dX9_tell_54, dX9_tell_55, dX9_tell_58, dX9_tell_59, dX9_tell_61, dX9_tell_64, dX9_tell_65, dX9_tell_68, dX9_tell_69, dX9_tell_72, dX9_tell_73, dX9_tell_74, dX9_tell_77, dX9_tell_78, dX9_tell_79, dX9_tell_82, dX9_tell_83, dX9_tell_86, dX9_tell_87, dX9_tell_88, w_flk9_12, w_flk9_127, w_flk9_140, w_flk9_149, w_flk9_32, w_flk9_143, w_flk9_146, w_flk9_96, w_kd_0, w_rf_0_0, w_rf_0_1, w_rf_0_2, w_rf_0_3, w_rf_0_4, w_rf_0_5, w_rf_0_6, w_rf_0_7, w_rf_0_8, w_rf_0_9, w_rf_0_10, w_kd_1, w_rf_1_0, w_rf_1_1, p_X3_isText, q_X3_isText, h2, hA, x1])
  (repeat' (with_reducible (first | refine And.intro ?_ ?_ | intro _))) <;> (try (first | assumption | contradiction | exact Or.inl trivial | exact Or.inl rfl | exact Or.inr rfl | (simp only [inI, inL]; omega) | omega))
  all_goals first
    | exact e26 (by omega) (by omega)
    | (simp only [q_X9_tell, hA, hc]; refine ⟨fun q1 => ?_, fun q1 q2 => ?_, fun q1 q2 => ?_⟩ <;> first | (exfalso; omega) | exact ⟨rfl, rfl⟩ | exact ⟨trivial, trivial⟩)
def p_X9_house : List wV → wW → Prop := fun av w => match av with
  | [.inr (.inr (some this))] => this = 0 ∧ tI w ∧ fT (w 3) ∧ ∀ u, u < 3 → inI (w 8 u)
  | _ => False
theorem h_X9_house : ∀ av w, p_X9_house av w → ∃ a r, av = vr a :: r ∧ w_kd a = 100 + 9 := by
  intro av w h
  unfold p_X9_house at h
  split at h
  · refine ⟨_, _, rfl, ?_⟩
    first | (rw [h.1]; rfl) | (rw [h]; rfl)
  · exact h.elim
def q_X9_house : List wV → wW → Int → wW → Prop := fun av w r w' => match av with
  | [.inr (.inr (some this))] => (pEnd (w 1 2) (pAll (w 2) (w 1 2) 0 (pq w)) = 0 → r = -103 ∧ w' = pw w (pAll (w 2) (w 1 2) 0 (pq w))) ∧ (¬ pEnd (w 1 2) (pAll (w 2) (w 1 2) 0 (pq w)) = 0 → r = (pAll (w 2) (w 1 2) 0 (pq w)).2.2.2 ∧ ∃ r2 w2, q_X1_takeOver [vr 4, vr 1] (pw w (pAll (w 2) (w 1 2) 0 (pq w))) r2 w2 ∧ w' = w_up (w_up (w_up w2 1 2 0) 0 12 (w 0 12 + 1)) 0 15 (w 0 15 + 1))
  | _ => False
set_option maxRecDepth 100000 in
set_option maxHeartbeats 4000000 in
theorem c_X9_house : w_Ct yX9_house cX9_house 1 1 5 110 p_X9_house q_X9_house := by
  refine w_met (own := RX9) (fl := w_fl9) (gs := w_gs9) (kl := w_kl9) (ki := w_ki9) (cs := [(104, (0, 2, 3, p_X3_isText, q_X3_isText)), (111, (0, 2, 0, p_X1_takeOver, q_X1_takeOver))]) (by decide +kernel) rfl ?_ w_flok9 w_gsok9 w_klok9 w_kiok9 ?_ ?_
  · intro av w h
    unfold p_X9_house at h
    split at h
    · simp [w_pos, w_cat]
    · exact h.elim
  · exact List.forall_mem_cons.mpr ⟨⟨_, _, w_callV (own := RX9) (idx := 104) (ci := 3) c_X3_isText rfl rfl h_X3_isText (w_m2 199 (by decide +kernel) (by decide +kernel)) (w_m2 200 (by decide +kernel) (by decide +kernel)) (w_m2 201 (by decide +kernel) (by decide +kernel)) (w_m1 2 (by decide +kernel) (by decide +kernel)) (w_m2 202 (by decide +kernel) (by decide +kernel)) ⟨by decide +kernel, by decide +kernel, by decide +kernel⟩, by decide, by decide⟩, List.forall_mem_cons.mpr ⟨⟨_, _, w_callV (own := RX9) (idx := 111) (ci := 1) c_X1_takeOver rfl rfl h_X1_takeOver (w_m3 7 (by decide +kernel) (by decide +kernel)) (w_m3 8 (by decide +kernel) (by decide +kernel)) (w_m3 9 (by decide +kernel) (by decide +kernel)) (w_m1 3 (by decide +kernel) (by decide +kernel)) (w_m3 10 (by decide +kernel) (by decide +kernel)) ⟨by decide +kernel, by decide +kernel, by decide +kernel⟩, by decide, by decide⟩, fun _ h => absurd h List.not_mem_nil⟩⟩
  intro av w hp
  unfold p_X9_house at hp
  split at hp
  case h_2 => exact hp.elim
  rename_i this
  intro G hG
  simp only [w_ent, w_pos, w_cat, Nat.reduceEqDiff, ↓reduceIte, List.length_cons, List.length_nil, Nat.reduceAdd, Nat.reduceSub, List.cons_append, List.nil_append, List.replicate_succ, List.replicate_zero]
  obtain ⟨rfl, h2, h3, h4⟩ := hp
  have e01 := pEnd_01 (w 1 2) (pAll (w 2) (w 1 2) 0 (pq w))
  have hf : fR (pAll (w 2) (w 1 2) 0 (pq w)).2.2.1 ∧ (fT (w 3) → fT (pAll (w 2) (w 1 2) 0 (pq w)).2.2.1) ∧ (1 ≤ (pAll (w 2) (w 1 2) 0 (pq w)).2.2.2 ∧ (pAll (w 2) (w 1 2) 0 (pq w)).2.2.2 ≤ 3) := by
    unfold pAll
    rw [if_pos rfl]
    exact pHs_f (p := (0, 1, (pq w).2.2)) ⟨⟨Int.le_refl _, h2.1.1⟩, Or.inr rfl⟩
  generalize hA : pAll (w 2) (w 1 2) 0 (pq w) = A at e01 hf
  obtain ⟨⟨f0, f1, f2, f3, -⟩, ft, fu⟩ := hf
  have ft := ft h3
  have a8 : ∀ u, u < 3 → inI (pw w A 8 u) := fun u hu => by rw [pw_x _ _ (by decide)]; exact h4 u hu
  have a9 : ∀ u, u < 3 → inI (pw w A 3 (9 + 3 * u)) := ft
  have a30 : pw w A 3 0 = A.2.2.1 0 := rfl
  have a32 : pw w A 3 2 = A.2.2.1 2 := rfl
  have a33 : pw w A 3 3 = A.2.2.1 3 := rfl
  have e25 : ∀ r2 w2, ¬ pEnd (w 1 2) A = 0 → q_X1_takeOver [vr 4, vr 1] (pw w A) r2 w2 → G 25 [some (vr 0)] [] w2 := by
    intro r2 w2 hne hq
    have hq2 := hq
    simp only [q_X1_takeOver] at hq2
    obtain ⟨g1, -, -, -, -, g6, -⟩ := hq2
    have y1 : ∀ u, w_up w2 1 2 u 0 12 = w 0 12 := fun u => by rw [up_k (by decide), g6 0 12 (by omega) (by omega), pw_x _ _ (by decide)]
    have y2 : ∀ u v, w_up (w_up w2 1 2 u) 0 12 v 0 15 = w 0 15 := fun u v => by rw [up_ne (by decide), up_k (by decide), g6 0 15 (by omega) (by omega), pw_x _ _ (by decide)]
    have y3 : ∀ u v z, w_up (w_up (w_up w2 1 2 u) 0 12 v) 0 15 z 4 6 = A.2.2.2 := fun u v z => by rw [up_k (by decide), up_k (by decide), up_k (by decide), g1, pw_13]
    (apply hG [] 2000; simp only [w_br_i, w_ite, w_all, w_all0, forall_eq, w_b0, w_b1, ↓reduceIte, w_ent, w_pos, List.replicate_succ, List.replicate_zero, wp_s, wk_s, w_lk_c, w_ld0, w_ldS, w_kp0, w_kp, w_s1, w_s2, w_to, w_if, w_call, w_sw, w_cat, w_cats, w_psh, w_fv, List.contains_cons, List.contains_nil, List.set_cons_zero, List.set_cons_succ, List.length_cons, List.length_nil, List.find?_cons, List.find?_nil, List.take_succ_cons, List.take_zero, List.drop_succ_cons, List.drop_zero, List.reverse_cons, List.reverse_nil, List.nil_append, List.cons_append, Option.map_some, Option.map_none, Nat.reduceAdd, Nat.reduceBEq, Nat.reduceEqDiff, Nat.reduceLT, Nat.reduceLeDiff, Nat.reduceSub, Int.reduceAdd, Int.reduceSub, Int.reduceMul, Int.reduceNeg, Int.reduceToNat, Int.reduceLT, Int.reduceLE, Int.reduceEq, Bool.false_eq_true, Bool.or_false, Bool.false_or, Bool.true_or, Bool.or_true, if_true, if_false, ite_true, ite_false, true_and, and_true, false_and, and_false, true_or, or_true, false_or, or_false, Int.cast_ofNat_Int, Int.toNat_natCast, Int.natCast_add, List.getElem?_cons_zero, List.getElem?_cons_succ, true_implies, forall_const, not_true_eq_false, not_false_eq_true, ne_eq, beq_iff_eq, imp_self, List.length_set, Nat.zero_add, Nat.add_zero, Int.zero_add, Int.add_zero, w1_aload_n_0, w1_getfield, w1_iconst, w1_invokevirtual, w1_ifCond, w1_bipush, w1_ireturn, w1_putfield, w1_putfield2, w1_dup, w1_dup2, w1_iadd, dX9_house_0, dX9_house_1, dX9_house_4, dX9_house_5, dX9_house_8, dX9_house_11, dX9_house_13, dX9_house_14, dX9_house_15, dX9_house_18, dX9_house_19, dX9_house_22, dX9_house_25, dX9_house_26, dX9_house_29, dX9_house_30, dX9_house_33, dX9_house_34, dX9_house_35, dX9_house_38, dX9_house_39, dX9_house_40, dX9_house_43, dX9_house_44, dX9_house_45, dX9_house_48, dX9_house_49, dX9_house_50, dX9_house_53, dX9_house_54, dX9_house_57, dX9_house_60, w_flk9_115, w_flk9_118, w_flk9_12, w_flk9_121, w_flk9_19, w_flk9_96, w_kd_0, w_rf_0_0, w_rf_0_1, w_rf_0_2, w_rf_0_3, w_rf_0_4, w_rf_0_5, w_rf_0_6, w_rf_0_7, w_rf_0_8, w_rf_0_9, w_rf_0_10, w_kd_1, w_rf_1_0, w_rf_1_1, w_kd_4, w_rf_4_0, w_rf_4_1, w_rf_4_2, w_rf_4_3, w_rf_4_4, w_rf_4_5, y1, y2, y3])
    (repeat' (with_reducible (first | refine And.intro ?_ ?_ | intro _))) <;> (try (first | assumption | contradiction | exact Or.inl trivial | exact Or.inl rfl | exact Or.inr rfl | (simp only [inI, inL]; omega) | omega))
    all_goals (simp only [q_X9_house, hA]; exact ⟨fun q => absurd q hne, fun _ => ⟨by first | rfl | trivial, r2, w2, hq, rfl⟩⟩)
  (apply hG [25] 2000; simp only [w_br_i, w_ite, w_all, w_all0, forall_eq, w_b0, w_b1, ↓reduceIte, w_ent, w_pos, List.replicate_succ, List.replicate_zero, wp_s, wk_s, w_lk_c, w_ld0, w_ldS, w_kp0, w_kp, w_s1, w_s2, w_to, w_if, w_call, w_sw, w_cat, w_cats, w_psh, w_fv, List.contains_cons, List.contains_nil, List.set_cons_zero, List.set_cons_succ, List.length_cons, List.length_nil, List.find?_cons, List.find?_nil, List.take_succ_cons, List.take_zero, List.drop_succ_cons, List.drop_zero, List.reverse_cons, List.reverse_nil, List.nil_append, List.cons_append, Option.map_some, Option.map_none, Nat.reduceAdd, Nat.reduceBEq, Nat.reduceEqDiff, Nat.reduceLT, Nat.reduceLeDiff, Nat.reduceSub, Int.reduceAdd, Int.reduceSub, Int.reduceMul, Int.reduceNeg, Int.reduceToNat, Int.reduceLT, Int.reduceLE, Int.reduceEq, Bool.false_eq_true, Bool.or_false, Bool.false_or, Bool.true_or, Bool.or_true, if_true, if_false, ite_true, ite_false, true_and, and_true, false_and, and_false, true_or, or_true, false_or, or_false, Int.cast_ofNat_Int, Int.toNat_natCast, Int.natCast_add, List.getElem?_cons_zero, List.getElem?_cons_succ, true_implies, forall_const, not_true_eq_false, not_false_eq_true, ne_eq, beq_iff_eq, imp_self, List.length_set, Nat.zero_add, Nat.add_zero, Int.zero_add, Int.add_zero, w1_aload_n_0, w1_getfield, w1_iconst, w1_invokevirtual, w1_ifCond, w1_bipush, w1_ireturn, w1_putfield, w1_putfield2, w1_dup, w1_dup2, w1_iadd, dX9_house_0, dX9_house_1, dX9_house_4, dX9_house_5, dX9_house_8, dX9_house_11, dX9_house_13, dX9_house_14, dX9_house_15, dX9_house_18, dX9_house_19, dX9_house_22, dX9_house_25, dX9_house_26, dX9_house_29, dX9_house_30, dX9_house_33, dX9_house_34, dX9_house_35, dX9_house_38, dX9_house_39, dX9_house_40, dX9_house_43, dX9_house_44, dX9_house_45, dX9_house_48, dX9_house_49, dX9_house_50, dX9_house_53, dX9_house_54, dX9_house_57, dX9_house_60, w_flk9_115, w_flk9_118, w_flk9_12, w_flk9_121, w_flk9_19, w_flk9_96, w_kd_0, w_rf_0_0, w_rf_0_1, w_rf_0_2, w_rf_0_3, w_rf_0_4, w_rf_0_5, w_rf_0_6, w_rf_0_7, w_rf_0_8, w_rf_0_9, w_rf_0_10, w_kd_1, w_rf_1_0, w_rf_1_1, p_X3_isText, q_X3_isText, p_X1_takeOver, h2, hA, a30, a32, a33, pw_13])
  (repeat' (with_reducible (first | refine And.intro ?_ ?_ | intro _))) <;> (try (first | assumption | contradiction | exact Or.inl trivial | exact Or.inl rfl | exact Or.inr rfl | (simp only [inI, inL]; omega) | omega))
  all_goals first
    | exact e25 _ _ (by omega) (by assumption)
    | exact (a8 _ (by assumption)).1
    | exact (a8 _ (by assumption)).2
    | exact (a9 _ (by assumption)).1
    | exact (a9 _ (by assumption)).2
    | (simp only [q_X9_house, hA]; refine ⟨fun q1 => ?_, fun q1 => ?_⟩ <;> first | (exfalso; omega) | exact ⟨rfl, rfl⟩ | exact ⟨trivial, trivial⟩)
