/-! a house is read: what a reading that succeeds has found -/
theorem pSign_ok {t : Nat → Int} {len c : Int} {p : pP} (h : ¬ (pSign t len c p).2.1 = 0) : ¬ p.2.1 = 0 := by
  unfold pSign at h
  by_cases q : ¬ p.2.1 = 0 ∧ p.1 < len ∧ t p.1.toNat = c
  · exact q.1
  · rw [if_neg q] at h; exact absurd rfl h
theorem pFld_i {t : Nat → Int} {len c least most : Int} {j : Nat} {p : pP} (i : Nat) : (pFld t len c j least most p).2.2.1 i = if i = j then pNumV t len least most (pSign t len c p) else p.2.2.1 i := by
  rw [pFld_f]
  rfl
theorem pFld_ok {t : Nat → Int} {len c least most : Int} {j : Nat} {p : pP} (hI : pI len p) (h0 : 0 ≤ least) (hs : ¬ (pFld t len c j least most p).2.1 = 0) : ¬ p.2.1 = 0 ∧ least ≤ (pFld t len c j least most p).2.2.1 j ∧ (pFld t len c j least most p).2.2.1 j ≤ most := by
  have hI' := pSign_I (t := t) (c := c) hI
  have hv := pV0_in t len (pSign t len c p)
  have hs' : ¬ (pNum t len least most (pSign t len c p)).2.1 = 0 := hs
  have e : (pFld t len c j least most p).2.2.1 j = pNumV t len least most (pSign t len c p) := by rw [pFld_i, if_pos rfl]
  rw [e]
  unfold pNum at hs'
  unfold pNumV
  by_cases q : pV0 t len (pSign t len c p) < least ∨ most < pV0 t len (pSign t len c p)
  · rw [if_pos q] at hs'; exact absurd rfl hs'
  · rw [if_neg q] at hs' ⊢
    obtain ⟨h1, h2⟩ := hI'
    have := pMore_I t len most 2 (pV0 t len (pSign t len c p), (pSign t len c p).1 + 1) (by dsimp only; omega) (by dsimp only; omega) (by dsimp only; omega) (by dsimp only; omega)
    dsimp only at this
    exact ⟨pSign_ok hs', by omega, by omega⟩
theorem pHd_ok {t : Nat → Int} {len : Int} {p : pP} (hI : pI len p) (hs : ¬ (pHd t len p).2.1 = 0) : 1 ≤ (pHd t len p).2.2.1 0 := by
  have i1 := pFld_I (t := t) (c := 97) (j := 0) (least := 1) (most := 20) (by decide) hI
  have i2 := pFld_I (t := t) (c := 115) (j := 1) (least := 0) (most := 200) (by decide) i1
  have i3 := pFld_I (t := t) (c := 108) (j := 2) (least := 0) (most := 9) (by decide) i2
  have s4 : ¬ (pFld t len 119 3 0 9 (pFld t len 108 2 0 9 (pFld t len 115 1 0 200 (pFld t len 97 0 1 20 p)))).2.1 = 0 := hs
  have v := (pFld_ok hI (by decide) (pFld_ok i1 (by decide) (pFld_ok i2 (by decide) (pFld_ok i3 (by decide) s4).1).1).1).2.1
  have e : (pHd t len p).2.2.1 0 = (pFld t len 119 3 0 9 (pFld t len 108 2 0 9 (pFld t len 115 1 0 200 (pFld t len 97 0 1 20 p)))).2.2.1 0 := rfl
  rw [e, pFld_i, if_neg (by decide), pFld_i, if_neg (by decide), pFld_i, if_neg (by decide)]
  exact v
theorem pK_ok {t : Nat → Int} {len : Int} {p : pP} (hI : pI len p) (hs : ¬ (pK t len p).2.1 = 0) : ¬ p.2.1 = 0 ∧ (pK t len p).2.2.1 0 = p.2.2.1 0 := by
  unfold pK at hs ⊢
  by_cases q : pSeesV t len 107 p = 0
  · rw [if_pos q] at hs ⊢; exact ⟨hs, rfl⟩
  · rw [if_neg q] at hs ⊢
    refine ⟨(pFld_ok hI (by decide) hs).1, ?_⟩
    rw [pFld_i, if_neg (by decide)]
theorem pPq_ok {t : Nat → Int} {len : Int} {p : pP} (hI : pI len p) (hs : ¬ (pPq t len p).2.1 = 0) : ¬ p.2.1 = 0 ∧ (pPq t len p).2.2.1 0 = p.2.2.1 0 := by
  have i1 := pFld_I (t := t) (c := 112) (j := 5) (least := 1) (most := 5) (by decide) hI
  unfold pPq at hs ⊢
  by_cases q : pSeesV t len 112 p = 0
  · rw [if_pos q] at hs ⊢; exact ⟨hs, rfl⟩
  · rw [if_neg q] at hs ⊢
    refine ⟨(pFld_ok hI (by decide) (pFld_ok i1 (by decide) hs).1).1, ?_⟩
    rw [pFld_i, if_neg (by decide), pFld_i, if_neg (by decide)]
def uOK (f : Nat → Int) (v : Nat) : Prop := (1 ≤ f (7 + 3 * v) ∧ f (7 + 3 * v) ≤ 15) ∧ (0 ≤ f (8 + 3 * v) ∧ f (8 + 3 * v) ≤ 9) ∧ (1 ≤ f (9 + 3 * v) ∧ f (9 + 3 * v) ≤ 9)
theorem pUse_ok {t : Nat → Int} {len : Int} {u : Nat} {p : pP} (hI : pI len p) (hs : ¬ (pUse t len (7 + 3 * u) p).2.1 = 0) : ¬ p.2.1 = 0 ∧ uOK (pUse t len (7 + 3 * u) p).2.2.1 u ∧ ∀ i, i < 7 + 3 * u → (pUse t len (7 + 3 * u) p).2.2.1 i = p.2.2.1 i := by
  have i0 := pSign_I (t := t) (c := 59) hI
  have i1 := pFld_I (t := t) (c := 117) (j := 7 + 3 * u) (least := 1) (most := 15) (by decide) i0
  have i2 := pFld_I (t := t) (c := 104) (j := 7 + 3 * u + 1) (least := 0) (most := 9) (by decide) i1
  have s3 : ¬ (pFld t len 99 (7 + 3 * u + 2) 1 9 (pFld t len 104 (7 + 3 * u + 1) 0 9 (pFld t len 117 (7 + 3 * u) 1 15 (pSign t len 59 p)))).2.1 = 0 := hs
  obtain ⟨s2, v3⟩ := pFld_ok i2 (by decide) s3
  obtain ⟨s1, v2⟩ := pFld_ok i1 (by decide) s2
  obtain ⟨s0, v1⟩ := pFld_ok i0 (by decide) s1
  refine ⟨pSign_ok s0, ?_, fun i hi => ?_⟩
  · unfold uOK pUse
    rw [show 8 + 3 * u = 7 + 3 * u + 1 by omega, show 9 + 3 * u = 7 + 3 * u + 2 by omega]
    refine ⟨?_, ?_, v3⟩
    · rw [pFld_i, if_neg (by omega), pFld_i, if_neg (by omega)]; exact v1
    · rw [pFld_i, if_neg (by omega)]; exact v2
  · unfold pUse
    rw [pFld_i, if_neg (by omega), pFld_i, if_neg (by omega), pFld_i, if_neg (by omega), pSign_f]
theorem pUs_ok {t : Nat → Int} {len : Int} : ∀ (n u : Nat) {p : pP}, pI len p → 0 < n → ¬ (pUs t len n u p).2.1 = 0 → (∀ v, v < u → uOK p.2.2.1 v) → ¬ p.2.1 = 0 ∧ (∀ v : Nat, (v : Int) < (pUs t len n u p).2.2.2 → uOK (pUs t len n u p).2.2.1 v) ∧ ∀ i, i < 7 → (pUs t len n u p).2.2.1 i = p.2.2.1 i
  | 0, _, _, _, hn, _, _ => absurd hn (Nat.lt_irrefl _)
  | n + 1, u, p, hI, _, hs, hv => by
    simp only [pUs] at hs ⊢
    have hstep : ¬ (pUse t len (7 + 3 * u) p).2.1 = 0 → ¬ p.2.1 = 0 ∧ (∀ v, v < u + 1 → uOK (pUse t len (7 + 3 * u) p).2.2.1 v) ∧ ∀ i, i < 7 → (pUse t len (7 + 3 * u) p).2.2.1 i = p.2.2.1 i := fun z => by
      obtain ⟨a, b, c⟩ := pUse_ok hI z
      refine ⟨a, fun v hv' => ?_, fun i hi => c i (by omega)⟩
      by_cases q : v = u
      · rw [q]; exact b
      · have := hv v (by omega)
        unfold uOK at this ⊢
        rw [c _ (by omega), c _ (by omega), c _ (by omega)]
        exact this
    by_cases q : ¬ (pUse t len (7 + 3 * u) p).2.1 = 0 ∧ (pUse t len (7 + 3 * u) p).1 < len ∧ 0 < n
    · rw [if_pos q] at hs ⊢
      obtain ⟨a, b, c⟩ := hstep q.1
      have ih := pUs_ok n (u + 1) (p := pU0 (pUse t len (7 + 3 * u) p) (u + 1 : Nat)) (pUse_I hI) q.2.2 hs b
      exact ⟨a, ih.2.1, fun i hi => by rw [ih.2.2 i hi]; exact c i hi⟩
    · rw [if_neg q] at hs ⊢
      obtain ⟨a, b, c⟩ := hstep hs
      refine ⟨a, fun v hv' => b v ?_, c⟩
      have e : (v : Int) < ((u + 1 : Nat) : Int) := hv'
      omega
theorem pUs3_ok {t : Nat → Int} {len : Int} {q : pP} (hI : pI len q) (hs : ¬ (pUs t len 3 0 (pU0 q 0)).2.1 = 0) : ¬ q.2.1 = 0 ∧ (∀ v : Nat, (v : Int) < (pUs t len 3 0 (pU0 q 0)).2.2.2 → uOK (pUs t len 3 0 (pU0 q 0)).2.2.1 v) ∧ (pUs t len 3 0 (pU0 q 0)).2.2.1 0 = q.2.2.1 0 := by
  have hI' : pI len (pU0 q 0) := hI
  obtain ⟨a, b, c⟩ := pUs_ok (t := t) 3 0 hI' (by decide) hs (fun v hv => absurd hv (Nat.not_lt_zero _))
  exact ⟨a, b, c 0 (by decide)⟩
theorem pHs_e {t : Nat → Int} {len : Int} {p : pP} : pHs t len p = pUs t len 3 0 (pU0 (pPq t len (pK t len (pHd t len p))) 0) := by rw [pHs]
theorem pHs_ok {t : Nat → Int} {len : Int} {p : pP} (hI : pI len p) (hs : ¬ (pHs t len p).2.1 = 0) : hN (pHs t len p).2.2.1 ∧ ∀ v : Nat, (v : Int) < (pHs t len p).2.2.2 → uOK (pHs t len p).2.2.1 v := by
  have i1 := pHd_I (t := t) hI
  have i2 := pK_I (t := t) i1
  have i3 := pPq_I (t := t) i2
  have f := (pHs_f (t := t) hI).1
  rw [pHs_e] at hs f ⊢
  obtain ⟨s3, v, e⟩ := pUs3_ok i3 hs
  obtain ⟨s2, e2⟩ := pPq_ok i2 s3
  obtain ⟨s1, e1⟩ := pK_ok i1 s2
  have v0 := pHd_ok hI s1
  rw [e2, e1] at e
  generalize pUs t len 3 0 (pU0 (pPq t len (pK t len (pHd t len p))) 0) = P at *
  obtain ⟨f0, f1, f2, f3, f4, f5, f6⟩ := f
  exact ⟨⟨⟨by rw [e]; exact v0, f0.2⟩, f1, f2, f3, f4, f5, f6⟩, v⟩
def sHo (S : wW) (f v8 : Nat → Int) (u : Int) : wW := fun k i => if k = 0 then f i else if k = 1 then f (7 + 3 * i) else if k = 2 then f (8 + 3 * i) else if k = 3 then v8 i else if k = 4 ∧ i = 0 then u else S k i
theorem sHo_x {S : wW} {f v8 : Nat → Int} {u : Int} {k i : Nat} (h : 4 ≤ k) (h2 : ¬ (k = 4 ∧ i = 0)) : sHo S f v8 u k i = S k i := by
  unfold sHo
  rw [if_neg (by omega), if_neg (by omega), if_neg (by omega), if_neg (by omega), if_neg h2]
def tHo (T : wW) : wW := fun k i => if k = 4 ∧ i = 3 then 0 else if k = 4 ∧ i = 4 then T 4 4 + 1 else T k i
theorem tHo_x {T : wW} {k i : Nat} (h : ¬ (k = 4 ∧ (i = 3 ∨ i = 4))) : tHo T k i = T k i := by
  unfold tHo
  rw [if_neg (by omega), if_neg (by omega)]
theorem k_house {S T w : wW} {n : Int} (hn : n < 1000000) (h : CI S T w n) (g : MI S T w) : stp2 (p_X9_house [vr 0]) (q_X9_house [vr 0]) (p_X10_house [vr 135]) (q_X10_house [vr 135]) (n + 1) w := by
  have ht := tL_of h g
  obtain ⟨h1, h2, h3, h4, h5, h6, h7, h8⟩ := CI_un h
  obtain ⟨g1, g2, g3, g4, g5, g6, g7⟩ := MI_un g
  have a2 := h2.1.2
  obtain ⟨r1, r2, r3⟩ := rd_house ht
  have hfT := pA_fT h 0
  have hpI : pI (w 1 2) (0, 1, (pq w).2.2) := ⟨⟨Int.le_refl _, ht.1.2⟩, Or.inr rfl⟩
  have eP : pAll (w 2) (w 1 2) 0 (pq w) = pHs (w 2) (w 1 2) (0, 1, (pq w).2.2) := if_pos rfl
  have hval : ¬ (pAll (w 2) (w 1 2) 0 (pq w)).2.1 = 0 → hN (pAll (w 2) (w 1 2) 0 (pq w)).2.2.1 ∧ ∀ v : Nat, (v : Int) < (pAll (w 2) (w 1 2) 0 (pq w)).2.2.2 → uOK (pAll (w 2) (w 1 2) 0 (pq w)).2.2.1 v := by
    rw [eP]
    exact pHs_ok hpI
  refine ⟨⟨rfl, tI_of h, h.ft, h.i8⟩, fun r w1 hq => ?_⟩
  obtain ⟨q1, q3⟩ := hq
  have oP : ∀ k i, 135 ≤ k → pw w (pAll (w 2) (w 1 2) 0 (pq w)) k i = w k i := fun k i hk => pw_m w _ hk
  have emP := mrd_of oP 0
  by_cases hb : mhB w
  · obtain ⟨hr, hw1⟩ := q1 (pE0 (fun z => r2.1 z hb))
    have c1 := CI_pw (by omega) h hfT
    have m1 := MI_o g oP
    rw [← hw1] at c1 m1 emP oP
    refine ⟨⟨rfl, mtI_of m1⟩, fun r' w2 hh => ?_⟩
    have hb1 : mhB w1 := by unfold mhB; rw [emP, oP 135 1 (by decide)]; exact hb
    obtain ⟨e1, e2⟩ := hh.1 hb1
    refine ⟨by rw [hr, e1], S, T, ?_⟩
    rw [e2]
    exact ⟨CI_up hn (CI_o c1 (fun k i hk => aW_x _ _ (by omega) (by omega) (by omega))), MI_aW c1 m1 _⟩
  · have hne := r2.2 hb
    obtain ⟨hr, rt, wt, hto, hw1⟩ := q3 hne
    obtain ⟨t1, t2, t3, t4, t5, t6, t7⟩ := hto
    obtain ⟨hNN, hUU⟩ := hval (pEnd_ne.1 hne).1
    obtain ⟨ru, rb, rf⟩ := r3 hb
    generalize pAll (w 2) (w 1 2) 0 (pq w) = P at *
    obtain ⟨c, hc⟩ : ∃ c : Nat, P.2.2.2 = c := ⟨P.2.2.2.toNat, by omega⟩
    have t1 : wt 4 6 = P.2.2.2 := t1
    have t2 : ∀ j, j < 7 → wt 5 j = P.2.2.1 j := t2
    have t3 : ∀ u, u < c → wt 6 u = P.2.2.1 (7 + 3 * u) ∧ wt 7 u = P.2.2.1 (8 + 3 * u) ∧ wt 8 u = P.2.2.1 (9 + 3 * u) := fun u hu => t3 u (by show u < (P.2.2.2).toNat; omega)
    have t4 : ∀ j, j < c → wt 9 j = ((o_ord (wt 8) c).getD j 0 : Nat) := fun j hj => by
      have := t4 j (by show j < (P.2.2.2).toNat; omega)
      rw [show (pw w P 1 3) = P.2.2.2 from rfl, hc, Int.toNat_natCast] at this
      exact this
    have t5 : ∀ n, n < 10 → wt 10 n = o_comes (P.2.2.1 0) n (P.2.2.1 2) (P.2.2.1 3) 0 ∧ wt 10 (10 + n) = o_comes (P.2.2.1 0) n (P.2.2.1 2) (P.2.2.1 3) 1 := t5
    have e0 : ∀ k i, ¬ (k = 0 ∧ (i = 12 ∨ i = 15)) → ¬ (k = 1 ∧ i = 2) → w1 k i = wt k i := fun k i x1 x2 => by rw [hw1, up_ne (by omega), up_ne (by omega), up_ne x2]
    have e1 : ∀ k i, ¬ (k = 0 ∧ (i = 12 ∨ i = 15)) → ¬ (k = 1 ∧ 2 ≤ i) → ¬ k = 3 → ¬ (5 ≤ k ∧ k ≤ 10) → ¬ (k = 4 ∧ i = 6) → w1 k i = w k i := fun k i x1 x2 x3 x4 x5 => by rw [e0 k i x1 (by omega), t6 k i (by omega) x5, pw_n x3 (by omega)]
    have o1 : ∀ k i, 135 ≤ k → w1 k i = w k i := fun k i hk => e1 k i (by omega) (by omega) (by omega) (by omega) (by omega)
    have em := mrd_of o1 0
    have m1 := MI_o g o1
    have hb1 : ¬ mhB w1 := by unfold mhB; rw [em, o1 135 1 (by decide)]; exact hb
    refine ⟨⟨rfl, mtI_of m1⟩, fun r' w2 hh => ?_⟩
    obtain ⟨hr', hw2⟩ := hh.2 hb1
    unfold mhW at hw2
    rw [em] at hr' hw2
    refine ⟨by rw [hr, hr', ru], ?_⟩
    generalize hM : (mrd w 0).2 = s at *
    have ru : s.2.2.1 = c := by rw [← ru]; exact hc
    have e2 : ∀ k i, k ≠ 137 → k ≠ 138 → k ≠ 139 → ¬ (k = 135 ∧ (i = 1 ∨ (4 ≤ i ∧ i ≤ 7) ∨ i = 9 ∨ i = 10)) → w2 k i = w1 k i := fun k i x1 x2 x3 x4 => by
      rw [hw2, up_ne (by omega), up_ne (by omega), up_ne (by omega), cpR_x x3, aW_x _ _ x1 x2 (by omega)]
    have ox : ∀ k i, k < 135 → w2 k i = w1 k i := fun k i hk => e2 k i (by omega) (by omega) (by omega) (by omega)
    have ec : ∀ k i, k < 135 → ¬ (k = 0 ∧ (i = 12 ∨ i = 15)) → ¬ (k = 1 ∧ 2 ≤ i) → ¬ k = 3 → ¬ (5 ≤ k ∧ k ≤ 10) → ¬ (k = 4 ∧ i = 6) → w2 k i = w k i := fun k i x0 x1 x2 x3 x4 x5 => by rw [ox k i x0, e1 k i x1 x2 x3 x4 x5]
    have em2 : ∀ k i, 135 ≤ k → k ≠ 137 → k ≠ 138 → k ≠ 139 → ¬ (k = 135 ∧ (i = 1 ∨ (4 ≤ i ∧ i ≤ 7) ∨ i = 9 ∨ i = 10)) → w2 k i = w k i := fun k i x0 x1 x2 x3 x4 => by rw [e2 k i x1 x2 x3 x4, o1 k i x0]
    have k139 : ∀ i, i < 16 → w2 139 i = s.1 i := fun i hi => by
      rw [hw2, up_ne (by omega), up_ne (by omega), up_ne (by omega), cpR_a hi, aW_137]
    have rf : ∀ i, i < 7 + 3 * c → P.2.2.1 i = s.1 i := fun i hi => rf i (by omega)
    have hc3 : 1 ≤ c ∧ c ≤ 3 := by omega
    have tu : ∀ k i, ¬ (k = 4 ∧ (i = 3 ∨ i = 4)) → tHo T k i = T k i := fun k i a => tHo_x a
    have t44 : tHo T 4 4 = T 4 4 + 1 := rfl
    have s40 : sHo S P.2.2.1 (wt 8) c 4 0 = c := rfl
    have hh40 : 0 ≤ T 4 4 := h2.1.1.1
    have hhn : T 4 4 ≤ n := h2.1.1.2
    have hSn : hR (sHo S P.2.2.1 (wt 8) c) := by
      obtain ⟨f0, f1, f2, f3, f4, f5, f6⟩ := hNN
      refine ⟨by rw [s40]; omega, f0, f1, f2, f3, f4, f5, f6, fun u hu => ?_⟩
      rw [s40] at hu
      obtain ⟨u1, u2, u3⟩ := hUU u (by omega)
      refine ⟨u1, u2, ?_⟩
      show 1 ≤ wt 8 u ∧ wt 8 u ≤ 9
      rw [(t3 u (by omega)).2.2]
      exact u3
    have sy : ∀ y, y < 8 → sHo S P.2.2.1 (wt 8) c (20 + y) = S (20 + y) := fun y _ => funext fun i => sHo_x (by omega) (by omega)
    have s41 : sHo S P.2.2.1 (wt 8) c 4 1 = S 4 1 := rfl
    have x12 : w2 0 12 = T 4 4 + 1 := by rw [ox 0 12 (by omega), hw1, up_ne (by omega), up_eq, a2]
    have ch : cHo (sHo S P.2.2.1 (wt 8) c) (tHo T) w2 (n + 1) := by
      refine ⟨⟨by rw [t44]; omega, by rw [t44]; exact x12⟩, fun _ => ⟨hSn, ?_, fun j hj => ?_, fun u hu => ?_, fun j hj => ?_, fun j hj => ?_⟩, ⟨by rw [s40]; omega, ?_⟩, fun u hu => ?_⟩
      · rw [ox 4 6 (by omega), e0 4 6 (by omega) (by omega), t1, hc]; rfl
      · rw [ox 5 j (by omega), e0 5 j (by omega) (by omega)]; exact t2 j hj
      · rw [s40] at hu
        rw [ox 6 u (by omega), ox 7 u (by omega), ox 8 u (by omega), e0 6 u (by omega) (by omega), e0 7 u (by omega) (by omega), e0 8 u (by omega) (by omega)]
        obtain ⟨x1, x2, -⟩ := t3 u (by omega)
        exact ⟨x1, x2, rfl⟩
      · rw [s40] at hj
        rw [ox 9 j (by omega), e0 9 j (by omega) (by omega), s40, Int.toNat_natCast]
        exact t4 j (by omega)
      · rw [ox 10 _ (by omega), ox 10 _ (by omega), e0 10 _ (by omega) (by omega), e0 10 _ (by omega) (by omega)]
        exact t5 j hj
      · rw [ox 4 6 (by omega), e0 4 6 (by omega) (by omega), t1, hc]; rfl
      · rw [ox 8 u (by omega), e0 8 u (by omega) (by omega)]; exact t7 u hu
    have mh : mHo (sHo S P.2.2.1 (wt 8) c) (tHo T) w2 := by
      have x9 : w2 135 9 = c := by rw [hw2, up_ne (by omega), up_ne (by omega), up_eq]; exact ru
      have x10 : w2 135 10 = T 4 4 + 1 := by rw [hw2, up_ne (by omega), up_eq, o1 135 10 (by omega), g2.2.2.2]
      refine ⟨⟨by rw [x9]; rfl, by rw [s40]; omega, by rw [s40, t44]; omega⟩, fun _ => ⟨hSn, ?_, ?_, fun j _ hj => ?_, by rw [x9]; rfl, fun u hu => ?_⟩, ⟨by rw [t44]; exact ⟨by omega, by omega⟩, by rw [t44]; exact x10⟩⟩
      · rw [k139 0 (by omega), ← rf 0 (by omega)]; rfl
      · rw [k139 1 (by omega), ← rf 1 (by omega)]; rfl
      · rw [k139 j (by omega), ← rf j (by omega)]; rfl
      · rw [s40] at hu
        rw [k139 _ (by omega), k139 _ (by omega), k139 _ (by omega), ← rf _ (by omega), ← rf _ (by omega), ← rf _ (by omega)]
        exact ⟨rfl, rfl, (t3 u (by omega)).2.2.symm⟩
    refine ⟨sHo S P.2.2.1 (wt 8) c, tHo T, CI_mk (by omega) (cRu_c h1 (fun k i a b => ec k i (by omega) (by omega) (by omega) (by omega) (by omega) (by omega)) (ec 0 11 (by omega) (by omega) (by omega) (by omega) (by omega) (by omega)) (fun k i a => tu k i (by omega))) ch (cYe_c h3 (fun k i a b => ec k i (by omega) (by omega) (by omega) (by omega) (by omega) (by omega)) s41 sy) (cPa_0 h4 ?_ (fun i => ec 2 i (by omega) (by omega) (by omega) (by omega) (by omega) (by omega)) ?_ rfl) (rdX_c h5 (fun i => ec 34 i (by omega) (by omega) (by omega) (by omega) (by omega) (by omega)) (fun i => tu 7 i (by omega))) (cCn_c h6 (ec 0 13 (by omega) (by omega) (by omega) (by omega) (by omega) (by omega)) (ec 0 14 (by omega) (by omega) (by omega) (by omega) (by omega) (by omega)) (tu 4 5 (by omega)) (tu 4 6 (by omega))) (cVe_v h7 hn ?_ (fun k i a => ec k i (by omega) (by omega) (by omega) (by omega) (by omega) (by omega)) (tu 4 2 (by omega))) ⟨?_, ?_⟩, MI_mk (mRu_c g1 (fun k i a b => em2 k i (by omega) (by omega) (by omega) (by omega) (by omega)) (em2 135 13 (by omega) (by omega) (by omega) (by omega) (by omega)) (fun k i a => tu k i (by omega))) mh (mYe_c g3 (fun i => em2 140 i (by omega) (by omega) (by omega) (by omega) (by omega)) (em2 135 11 (by omega) (by omega) (by omega) (by omega) (by omega)) s41 sy) (mPa_0 g4 ?_ (fun i => em2 136 i (by omega) (by omega) (by omega) (by omega) (by omega)) rfl) (mrX_c g5 (fun i => em2 153 i (by omega) (by omega) (by omega) (by omega) (by omega)) (fun i => tu 7 i (by omega))) (mCn_c g6 (em2 135 32 (by omega) (by omega) (by omega) (by omega) (by omega)) (em2 135 38 (by omega) (by omega) (by omega) (by omega) (by omega)) (tu 4 5 (by omega)) (tu 4 6 (by omega))) (mIm_c g7 (em2 135 43 (by omega) (by omega) (by omega) (by omega) (by omega)) (em2 135 44 (by omega) (by omega) (by omega) (by omega) (by omega)) (fun k i a b => em2 k i (by omega) (by omega) (by omega) (by omega) (by omega)) (fun q i _ _ => ?_) (fun k i a => tu k i (by omega)) (im8 h))⟩
    · rw [ox 1 2 (by omega), hw1, up_ne (by omega), up_ne (by omega), up_eq]
    · rw [show w2 3 = P.2.2.1 from funext fun i => by rw [ox 3 i (by omega), e0 3 i (by omega) (by omega), t6 3 i (by omega) (by omega)]; rfl]
      exact hfT
    · rw [ox 0 15 (by omega), hw1, up_eq]
    · obtain ⟨j1, j2⟩ := h8.1
      have e47 := tu 4 7 (by omega)
      refine ⟨by rw [e47, t44]; omega, fun z => ?_⟩
      rw [e47] at z
      obtain ⟨k1, k2, k3, k4⟩ := j2 z
      have e9 : tHo T 9 = T 9 := funext fun i => tu 9 i (by omega)
      rw [e9]
      exact ⟨k1, k2, fun m hm => by rw [tu 10 m (by omega)]; exact k3 m hm, fun y m hy hm => by rw [tu (30 + y) m (by omega)]; exact k4 y m hy hm⟩
    · obtain ⟨-, j1, j2⟩ := h8
      have e47 := tu 4 7 (by omega)
      refine ⟨by rw [ec 21 3 (by omega) (by omega) (by omega) (by omega) (by omega) (by omega), e47]; exact j1, fun z => ?_⟩
      rw [e47] at z
      obtain ⟨k1, k2, k3, k4⟩ := j2 z
      have := (h.ti.2 z).1
      refine ⟨by rw [ec 24 1 (by omega) (by omega) (by omega) (by omega) (by omega) (by omega)]; exact k1, fun j hj => by rw [ec 22 j (by omega) (by omega) (by omega) (by omega) (by omega) (by omega)]; exact k2 j hj, fun m hm => by rw [ec 23 m (by omega) (by omega) (by omega) (by omega) (by omega) (by omega)]; exact k3 m hm, fun y m hy hm => ?_⟩
      have hy' : y < (T 11 0).toNat := hy
      rw [ec _ m (by omega) (by omega) (by omega) (by omega) (by omega) (by omega), tu (30 + y) m (by omega)]
      exact k4 y m hy' hm
    · rw [hw2, up_eq]
    · exfalso
      rw [tu 4 7 (by omega), t44] at q
      have := h8.1.1
      omega
