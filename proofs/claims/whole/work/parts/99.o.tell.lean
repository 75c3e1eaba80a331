theorem k_tell {S T w : wW} {n : Int} (hn : n ≤ 1000000) (h : CI S T w n) (g : MI S T w) : stp2 (p_X9_tell [vr 0]) (q_X9_tell [vr 0]) (p_X10_tell [vr 135]) (q_X10_tell [vr 135]) n w := by
  have ht := tL_of h g
  obtain ⟨h1, h2, h3, h4, h5, h6, h7, h8⟩ := CI_un h
  obtain ⟨g1, g2, g3, g4, g5, g6, g7⟩ := MI_un g
  obtain ⟨hy, y1⟩ := h1.1
  have z1 := g1.1.2
  obtain ⟨r1, r2, r3⟩ := rd_told ht
  have hfT := pA_fT h 2
  have hpI : pI (w 1 2) (0, 1, (pq w).2.2) := ⟨⟨Int.le_refl _, ht.1.2⟩, Or.inr rfl⟩
  have eP : pAll (w 2) (w 1 2) 2 (pq w) = pRl (w 2) (w 1 2) 12 0 (0, 1, (pq w).2.2) := by unfold pAll; rw [if_neg (by decide), if_neg (by decide)]
  have hval : ¬ (pAll (w 2) (w 1 2) 2 (pq w)).2.1 = 0 → ∀ i, i < 12 → 0 ≤ (pAll (w 2) (w 1 2) 2 (pq w)).2.2.1 i ∧ (pAll (w 2) (w 1 2) 2 (pq w)).2.2.1 i ≤ 99 := by
    rw [eP]
    intro hs i hi
    exact pRl_v 12 0 hpI hs (fun j hj => absurd hj (Nat.not_lt_zero _)) i (by omega)
  refine ⟨⟨rfl, tI_of h, by rw [y1]; exact hy⟩, fun r w1 hq => ?_⟩
  obtain ⟨q1, q2, q3⟩ := hq
  rw [y1] at q2 q3
  have bad : ∀ v, r = v → w1 = pw w (pAll (w 2) (w 1 2) 2 (pq w)) → ((∀ r' w2, q_X10_tell [vr 135] w1 r' w2 → r' = v ∧ w2 = aW w1 (mrd w1 2).2)) → p_X10_tell [vr 135] w1 ∧ ∀ r' w2, q_X10_tell [vr 135] w1 r' w2 → r = r' ∧ ∃ S T, CI S T w2 n ∧ MI S T w2 := by
    intro v hr hw1 hq'
    have c1 := CI_pw hn h hfT
    have m1 := MI_o g (w' := pw w (pAll (w 2) (w 1 2) 2 (pq w))) (fun k i hk => pw_m w _ hk)
    rw [← hw1] at c1 m1
    refine ⟨⟨rfl, mtI_of m1, by rw [m1.mq.1.2]; exact hy⟩, fun r' w2 hh => ?_⟩
    obtain ⟨e1, e2⟩ := hq' r' w2 hh
    refine ⟨by rw [hr, e1], S, T, ?_⟩
    rw [e2]
    exact ⟨CI_o c1 (fun k i hk => aW_x _ _ (by omega) (by omega) (by omega)), MI_aW c1 m1 _⟩
  have oP : ∀ k i, 135 ≤ k → pw w (pAll (w 2) (w 1 2) 2 (pq w)) k i = w k i := fun k i hk => pw_m w _ hk
  have emP := mrd_of oP 2
  by_cases hb : mlB w
  · obtain ⟨hr, hw1⟩ := q1 (pE0 (fun z => r2.1 z hb))
    refine bad _ hr hw1 (fun r' w2 hh => ?_)
    have hb1 : mlB w1 := by rw [hw1]; unfold mlB; rw [emP, oP 135 1 (by decide)]; exact hb
    exact hh.1 hb1
  · have hne := r2.2 hb
    by_cases h8' : 8 ≤ T 4 2
    · obtain ⟨hr, hw1⟩ := q2 hne h8'
      refine bad _ hr hw1 (fun r' w2 hh => ?_)
      have hb1 : ¬ mlB w1 := by rw [hw1]; unfold mlB; rw [emP, oP 135 1 (by decide)]; exact hb
      exact hh.2.1 hb1 (by rw [hw1, oP 135 13 (by decide), z1]; exact h8')
    · obtain ⟨hr, hw1⟩ := q3 hne (by omega)
      obtain ⟨c, hc⟩ : ∃ c : Nat, T 4 2 = c := ⟨(T 4 2).toNat, by omega⟩
      unfold w_tell at hw1
      rw [y1, hc, Int.toNat_natCast] at hw1
      have hv := hval (pEnd_ne.1 hne).1
      have hrow := r3 hb
      generalize pAll (w 2) (w 1 2) 2 (pq w) = P at *
      have e1 : ∀ k i, ¬ (k = 0 ∧ i = 11) → ¬ (k = 1 ∧ 2 ≤ i) → ¬ k = 3 → ¬ (k = 36 + c ∧ (i = 1 ∨ i = 2)) → ¬ k = 46 + c → w1 k i = w k i := fun k i a1 a2 a3 a4 a5 => by
        rw [hw1, up_ne a1, up_ne (by omega), w_cpy, if_neg (by omega), up_ne (by omega), up_ne (by omega), pw_n a3 (by omega)]
      have o1 : ∀ k i, 135 ≤ k → w1 k i = w k i := fun k i hk => e1 k i (by omega) (by omega) (by omega) (by omega) (by omega)
      have em := mrd_of o1 2
      have x11 : w1 135 13 = c := by rw [o1 135 13 (by decide), z1, hc]
      have m1 := MI_o g o1
      have hb1 : ¬ mlB w1 := by unfold mlB; rw [em, o1 135 1 (by decide)]; exact hb
      refine ⟨⟨rfl, mtI_of m1, by rw [x11]; omega⟩, fun r' w2 hh => ?_⟩
      obtain ⟨hr', hw2⟩ := hh.2.2 hb1 (by omega)
      unfold mlW at hw2
      rw [em, x11, Int.toNat_natCast] at hw2
      rw [x11] at hr'
      refine ⟨by rw [hr, hr', hc], ?_⟩
      generalize hM : (mrd w 2).2 = s at *
      have e2 : ∀ k i, k ≠ 137 → k ≠ 138 → k ≠ 143 → ¬ (k = 141 ∧ i = c) → ¬ (k = 142 ∧ i = c) → ¬ (k = 135 ∧ (i = 1 ∨ (4 ≤ i ∧ i ≤ 7) ∨ i = 13)) → w2 k i = w1 k i := fun k i a1 a2 a3 a4 a5 a6 => by
        rw [hw2, up_ne (by omega), up_ne (by omega), rwF_x a3, up_ne (by omega), up_ne (by omega), aW_x _ _ a1 a2 (by omega)]
      have ox : ∀ k i, k < 135 → w2 k i = w1 k i := fun k i hk => e2 k i (by omega) (by omega) (by omega) (by omega) (by omega) (by omega)
      have ec : ∀ k i, k < 135 → ¬ (k = 0 ∧ i = 11) → ¬ (k = 1 ∧ 2 ≤ i) → ¬ k = 3 → ¬ (k = 36 + c ∧ (i = 1 ∨ i = 2)) → ¬ k = 46 + c → w2 k i = w k i := fun k i a0 a1 a2 a3 a4 a5 => by rw [ox k i a0, e1 k i a1 a2 a3 a4 a5]
      have em2 : ∀ k i, 135 ≤ k → k ≠ 137 → k ≠ 138 → k ≠ 143 → ¬ (k = 141 ∧ i = c) → ¬ (k = 142 ∧ i = c) → ¬ (k = 135 ∧ (i = 1 ∨ (4 ≤ i ∧ i ≤ 7) ∨ i = 13)) → w2 k i = w k i := fun k i a0 a1 a2 a3 a4 a5 a6 => by rw [e2 k i a1 a2 a3 a4 a5 a6, o1 k i a0]
      have hrr : ∀ m, m < 12 → 0 ≤ s.2.1 m ∧ s.2.1 m ≤ 99 := fun m hm => by rw [← hrow m hm]; exact hv m hm
      have tu2 : ∀ k i, ¬ (k = 4 ∧ i = 3) → w_up (tAd T c 5 0 s.2.1) 4 3 0 k i = tAd T c 5 0 s.2.1 k i := fun k i a => up_ne a
      have tu : ∀ k i, ¬ (k = 4 ∧ (i = 2 ∨ i = 3)) → ¬ k = 5 → ¬ k = 6 → ¬ 40 ≤ k → w_up (tAd T c 5 0 s.2.1) 4 3 0 k i = T k i := fun k i a b d e => by rw [tu2 k i (by omega), tAd_x (by omega) (by omega) (by omega) (by omega)]
      refine ⟨S, w_up (tAd T c 5 0 s.2.1) 4 3 0, CI_mk hn (cRu_c (cRu_add (row := s.2.1) h1 hc (by omega) (show (0 : Int) ≤ 5 ∧ (5 : Int) ≤ 5 by decide) (show (0 : Int) ≤ 0 ∧ (0 : Int) ≤ 200 by decide) ?_ ?_ ?_ (fun m hm => ⟨?_, hrr m hm⟩) (fun k i a b d e => ec k i (by omega) (by omega) (by omega) (by omega) (by omega) (by omega))) (fun _ _ _ _ => rfl) rfl (fun k i a => tu2 k i (by omega))) (cHo_c h2 (Int.le_refl _) (fun k i a b => ec k i (by omega) (by omega) (by omega) (by omega) (by omega) (by omega)) (ec 0 12 (by omega) (by omega) (by omega) (by omega) (by omega) (by omega)) (tu 4 4 (by omega) (by omega) (by omega) (by omega)) (fun _ _ => rfl) rfl) (cYe_c h3 (fun k i a b => ec k i (by omega) (by omega) (by omega) (by omega) (by omega) (by omega)) rfl (fun _ _ => rfl)) (cPa_0 h4 ?_ (fun i => ec 2 i (by omega) (by omega) (by omega) (by omega) (by omega) (by omega)) ?_ (up_eq _ _ _ _)) (rdX_c h5 (fun i => ec 34 i (by omega) (by omega) (by omega) (by omega) (by omega) (by omega)) (fun i => tu 7 i (by omega) (by omega) (by omega) (by omega))) (cCn_c h6 (ec 0 13 (by omega) (by omega) (by omega) (by omega) (by omega) (by omega)) (ec 0 14 (by omega) (by omega) (by omega) (by omega) (by omega) (by omega)) (tu 4 5 (by omega) (by omega) (by omega) (by omega)) (tu 4 6 (by omega) (by omega) (by omega) (by omega))) (cVe_c (cVe_add (k := 5) (n := 0) (row := s.2.1) h7 hc (fun k i a => ec k i (by omega) (by omega) (by omega) (by omega) (by omega) (by omega))) (Int.le_refl _) (fun _ _ _ => rfl) (fun k i a => tu2 k i (by omega))) (cIg_c h8 (fun k i a b => ec k i (by omega) (by omega) (by omega) (by omega) (by omega) (by omega)) (fun k i a => tu k i (by omega) (by omega) (by omega) (by omega))), MI_mk (mRu_c (mRu_add (row := s.2.1) g1 hc (by omega) (show (0 : Int) ≤ 5 ∧ (5 : Int) ≤ 5 by decide) (show (0 : Int) ≤ 0 ∧ (0 : Int) ≤ 200 by decide) hrr ?_ ?_ ?_ (fun _ m hm => ?_) (fun m hm => ?_) (fun r hr2 => ⟨em2 141 r (by omega) (by omega) (by omega) (by omega) (by omega) (by omega) (by omega), em2 142 r (by omega) (by omega) (by omega) (by omega) (by omega) (by omega) (by omega), fun m hm => ?_⟩)) (fun _ _ _ _ => rfl) rfl (fun k i a => tu2 k i (by omega))) (mHo_c g2 (fun i => em2 139 i (by omega) (by omega) (by omega) (by omega) (by omega) (by omega) (by omega)) (em2 135 9 (by omega) (by omega) (by omega) (by omega) (by omega) (by omega) (by omega)) (em2 135 10 (by omega) (by omega) (by omega) (by omega) (by omega) (by omega) (by omega)) (tu 4 4 (by omega) (by omega) (by omega) (by omega)) (fun _ _ => rfl) rfl) (mYe_c g3 (fun i => em2 140 i (by omega) (by omega) (by omega) (by omega) (by omega) (by omega) (by omega)) (em2 135 11 (by omega) (by omega) (by omega) (by omega) (by omega) (by omega) (by omega)) rfl (fun _ _ => rfl)) (mPa_0 g4 ?_ (fun i => em2 136 i (by omega) (by omega) (by omega) (by omega) (by omega) (by omega) (by omega)) (up_eq _ _ _ _)) (mrX_c g5 (fun i => em2 153 i (by omega) (by omega) (by omega) (by omega) (by omega) (by omega) (by omega)) (fun i => tu 7 i (by omega) (by omega) (by omega) (by omega))) (mCn_c g6 (em2 135 32 (by omega) (by omega) (by omega) (by omega) (by omega) (by omega) (by omega)) (em2 135 38 (by omega) (by omega) (by omega) (by omega) (by omega) (by omega) (by omega)) (tu 4 5 (by omega) (by omega) (by omega) (by omega)) (tu 4 6 (by omega) (by omega) (by omega) (by omega))) (mIm_c g7 (em2 135 43 (by omega) (by omega) (by omega) (by omega) (by omega) (by omega) (by omega)) (em2 135 44 (by omega) (by omega) (by omega) (by omega) (by omega) (by omega) (by omega)) (fun k i a b => em2 k i (by omega) (by omega) (by omega) (by omega) (by omega) (by omega) (by omega)) (fun q i _ _ => ⟨by rw [tu 4 7 (by omega) (by omega) (by omega) (by omega), tu 4 4 (by omega) (by omega) (by omega) (by omega)] at q; exact q, em2 139 i (by omega) (by omega) (by omega) (by omega) (by omega) (by omega) (by omega)⟩) (fun k i a => tu k i (by omega) (by omega) (by omega) (by omega)) (im8 h))⟩
      · rw [ox 0 11 (by omega), hw1, up_eq, hc]
      · rw [ox _ 1 (by omega), hw1, up_ne (by omega), up_ne (by omega), w_cpy, if_neg (by omega), up_ne (by omega), up_eq]
      · rw [ox _ 2 (by omega), hw1, up_ne (by omega), up_ne (by omega), w_cpy, if_neg (by omega), up_eq]
      · rw [ox _ m (by omega), hw1, up_ne (by omega), up_ne (by omega), w_cpy, if_pos ⟨by omega, by omega, by omega⟩, up_ne (by omega), up_ne (by omega)]
        show P.2.2.1 (0 + (m - 0)) = _
        rw [show 0 + (m - 0) = m by omega]
        exact hrow m hm
      · rw [ox 1 2 (by omega), hw1, up_ne (by omega), up_eq]
      · rw [show w2 3 = P.2.2.1 from funext fun i => by rw [ox 3 i (by omega), hw1, up_ne (by omega), up_ne (by omega), w_cpy, if_neg (by omega), up_ne (by omega), up_ne (by omega)]; rfl]
        exact hfT
      · rw [hw2, up_ne (by omega), up_eq, hc]
      · rw [hw2, up_ne (by omega), up_ne (by omega), rwF_x (by omega), up_ne (by omega), up_eq]
      · rw [hw2, up_ne (by omega), up_ne (by omega), rwF_x (by omega), up_eq]
      · rw [hw2, up_ne (by omega), up_ne (by omega), rwF_a hm]
      · rw [hw2, up_ne (by omega), up_ne (by omega), rwF_a hm]
        exact hrr m hm
      · rw [hw2, up_ne (by omega), up_ne (by omega), rwF_y (by omega), up_ne (by omega), up_ne (by omega), aW_x _ _ (by omega) (by omega) (by omega)]
        exact o1 143 _ (by omega)
      · rw [hw2, up_eq]
