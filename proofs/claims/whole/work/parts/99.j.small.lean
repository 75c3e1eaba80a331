/-! the small calls -/
theorem CI_pw {S T w : wW} {n : Int} (hn : n ≤ 1000000) (h : CI S T w n) {p : pP} (hp : fT p.2.2.1) : CI S T (pw w p) n := by
  obtain ⟨h1, h2, h3, h4, h5, h6, h7, h8⟩ := CI_un h
  have e : ∀ k i, ¬ k = 3 → ¬ (k = 1 ∧ 3 ≤ i) → pw w p k i = w k i := fun k i a b => by
    unfold pw
    rw [if_neg a, if_neg (by omega), if_neg (by omega), if_neg (by omega)]
  exact CI_mk hn (cRu_c h1 (fun k i a b => e k i (by omega) (by omega)) (e 0 11 (by omega) (by omega)) (fun _ _ _ => rfl)) (cHo_c h2 (Int.le_refl _) (fun k i a b => e k i (by omega) (by omega)) (e 0 12 (by omega) (by omega)) rfl (fun _ _ => rfl) rfl) (cYe_c h3 (fun k i a b => e k i (by omega) (by omega)) rfl (fun _ _ => rfl)) (cPa_c h4 (e 1 2 (by omega) (by omega)) (fun i => e 2 i (by omega) (by omega)) hp rfl (fun _ => rfl)) (rdX_c h5 (fun i => e 34 i (by omega) (by omega)) (fun _ => rfl)) (cCn_c h6 (e 0 13 (by omega) (by omega)) (e 0 14 (by omega) (by omega)) rfl rfl) (cVe_c h7 (Int.le_refl _) (fun k i a => e k i (by omega) (by omega)) (fun _ _ _ => rfl)) (cIg_c h8 (fun k i a b => e k i (by omega) (by omega)) (fun _ _ _ => rfl))
theorem im8 {S T w : wW} {n : Int} (h : CI S T w n) : ¬ T 4 7 = 0 → T 11 0 ≤ 8 := fun q => (h.ti.2 q).1.2
theorem MI_aW {S T w : wW} {n : Int} (hc : CI S T w n) (g : MI S T w) (s : aS) : MI S T (aW w s) := by
  obtain ⟨g1, g2, g3, g4, g5, g6, g7⟩ := MI_un g
  have e : ∀ k i, k ≠ 137 → k ≠ 138 → ¬ (k = 135 ∧ (4 ≤ i ∧ i ≤ 7)) → aW w s k i = w k i := fun k i a b c => aW_x w s a b c
  exact MI_mk (mRu_c g1 (fun k i a b => e k i (by omega) (by omega) (by omega)) (e 135 13 (by omega) (by omega) (by omega)) (fun _ _ _ => rfl)) (mHo_c g2 (fun i => e 139 i (by omega) (by omega) (by omega)) (e 135 9 (by omega) (by omega) (by omega)) (e 135 10 (by omega) (by omega) (by omega)) rfl (fun _ _ => rfl) rfl) (mYe_c g3 (fun i => e 140 i (by omega) (by omega) (by omega)) (e 135 11 (by omega) (by omega) (by omega)) rfl (fun _ _ => rfl)) (mPa_c g4 (e 135 1 (by omega) (by omega) (by omega)) (fun i => e 136 i (by omega) (by omega) (by omega)) rfl (fun _ => rfl)) (mrX_c g5 (fun i => e 153 i (by omega) (by omega) (by omega)) (fun _ => rfl)) (mCn_c g6 (e 135 32 (by omega) (by omega) (by omega)) (e 135 38 (by omega) (by omega) (by omega)) rfl rfl) (mIm_c g7 (e 135 43 (by omega) (by omega) (by omega)) (e 135 44 (by omega) (by omega) (by omega)) (fun k i a b => e k i (by omega) (by omega) (by omega)) (fun q i _ _ => ⟨q, e 139 i (by omega) (by omega) (by omega)⟩) (fun _ _ _ => rfl) (im8 hc))
theorem rd_1 {w : wW} (h : tL w) {sort : Int} (hs : 0 ≤ sort ∧ sort ≤ 2) : (pAll (w 2) (w 1 2) sort (pq w)).1 = ((mrd w sort).1 : Int) := by
  have e : sort = 0 ∨ sort = 1 ∨ sort = 2 := by omega
  rcases e with rfl | rfl | rfl
  · exact (rd_house h).1
  · exact (rd_year h).1
  · exact (rd_told h).1
theorem pA_fT {S T w : wW} {n : Int} (h : CI S T w n) (sort : Int) : fT (pAll (w 2) (w 1 2) sort (pq w)).2.2.1 := pAll_fT (tI_of h).1.1 h.ft
theorem pw_m (w : wW) (p : pP) {k i : Nat} (hk : 135 ≤ k) : pw w p k i = w k i := pw_x w p (by omega)
theorem k_fault {S T w : wW} {n sort : Int} (hn : n ≤ 1000000) (h : CI S T w n) (g : MI S T w) (hs : inI sort) : stp2 (p_X9_fault [vr 0, vi sort]) (q_X9_fault [vr 0, vi sort]) (p_X10_fault [vr 135, vi sort]) (q_X10_fault [vr 135, vi sort]) n w := by
  have ht := tL_of h g
  refine ⟨⟨rfl, tI_of h, hs⟩, fun r w1 hq => ?_⟩
  obtain ⟨hr, hw1⟩ := hq
  by_cases q : sort < 0 ∨ 2 < sort
  · rw [if_pos q] at hr hw1
    subst hw1
    refine ⟨⟨rfl, hs, mtI_of g⟩, fun r' w2 hq' => ?_⟩
    obtain ⟨hr', hw2⟩ := hq'
    rw [if_pos q] at hr' hw2
    subst hw2
    exact ⟨by rw [hr, hr'], S, T, h, g⟩
  · rw [if_neg q] at hr hw1
    have h1 := CI_pw hn h (pA_fT h sort)
    have g1 := MI_o g (w' := pw w (pAll (w 2) (w 1 2) sort (pq w))) (fun k i hk => pw_m w _ hk)
    have em := mrd_of (w := w) (w' := pw w (pAll (w 2) (w 1 2) sort (pq w))) (fun k i hk => pw_m w _ hk) sort
    rw [← hw1] at h1 g1 em
    refine ⟨⟨rfl, hs, mtI_of g1⟩, fun r' w2 hq' => ?_⟩
    obtain ⟨hr', hw2⟩ := hq'
    rw [if_neg q] at hr' hw2
    refine ⟨by rw [hr, hr', em]; exact rd_1 ht (by omega), S, T, ?_⟩
    rw [hw2]
    exact ⟨CI_o h1 (fun k i hk => aW_x _ _ (by omega) (by omega) (by omega)), MI_aW h1 g1 _⟩
theorem k_blank {S T w : wW} {n : Int} (hn : n ≤ 1000000) (h : CI S T w n) (g : MI S T w) : stp2 (p_X9_blank [vr 0]) (q_X9_blank [vr 0]) (p_X10_blank [vr 135]) (q_X10_blank [vr 135]) n w := by
  obtain ⟨h1, h2, h3, h4, h5, h6, h7, h8⟩ := CI_un h
  obtain ⟨g1, g2, g3, g4, g5, g6, g7⟩ := MI_un g
  have e : w 1 2 = w 135 1 := (tL_of h g).1.1
  refine ⟨rfl, fun r w1 hq => ?_⟩
  obtain ⟨hr, hw1⟩ := hq
  refine ⟨rfl, fun r' w2 hq' => ?_⟩
  obtain ⟨hr', hw2⟩ := hq'
  have eu : ∀ k i, ¬ (k = 1 ∧ i = 2) → ¬ (k = 135 ∧ i = 1) → w2 k i = w k i := fun k i a b => by rw [hw2, hw1, up_ne (by omega), up_ne (by omega)]
  have tu : ∀ k i, ¬ (k = 4 ∧ i = 3) → w_up T 4 3 0 k i = T k i := fun k i a => up_ne a
  refine ⟨by rw [hr, hr', hw1, up_ne (by decide), e], S, w_up T 4 3 0, CI_mk hn (cRu_c h1 (fun k i a b => eu k i (by omega) (by omega)) (eu 0 11 (by omega) (by omega)) (fun k i a => tu k i (by omega))) (cHo_c h2 (Int.le_refl _) (fun k i a b => eu k i (by omega) (by omega)) (eu 0 12 (by omega) (by omega)) (tu 4 4 (by omega)) (fun _ _ => rfl) rfl) (cYe_c h3 (fun k i a b => eu k i (by omega) (by omega)) rfl (fun _ _ => rfl)) (cPa_0 h4 (by rw [hw2, hw1, up_ne (by decide), up_eq]) (fun i => eu 2 i (by omega) (by omega)) ?_ (up_eq _ _ _ _)) (rdX_c h5 (fun i => eu 34 i (by omega) (by omega)) (fun i => tu 7 i (by omega))) (cCn_c h6 (eu 0 13 (by omega) (by omega)) (eu 0 14 (by omega) (by omega)) (tu 4 5 (by omega)) (tu 4 6 (by omega))) (cVe_c h7 (Int.le_refl _) (fun k i a => eu k i (by omega) (by omega)) (fun k i a => tu k i (by omega))) (cIg_c h8 (fun k i a b => eu k i (by omega) (by omega)) (fun k i a => tu k i (by omega))), MI_mk (mRu_c g1 (fun k i a b => eu k i (by omega) (by omega)) (eu 135 13 (by omega) (by omega)) (fun k i a => tu k i (by omega))) (mHo_c g2 (fun i => eu 139 i (by omega) (by omega)) (eu 135 9 (by omega) (by omega)) (eu 135 10 (by omega) (by omega)) (tu 4 4 (by omega)) (fun _ _ => rfl) rfl) (mYe_c g3 (fun i => eu 140 i (by omega) (by omega)) (eu 135 11 (by omega) (by omega)) rfl (fun _ _ => rfl)) (mPa_0 g4 (by rw [hw2, up_eq]) (fun i => eu 136 i (by omega) (by omega)) (up_eq _ _ _ _)) (mrX_c g5 (fun i => eu 153 i (by omega) (by omega)) (fun i => tu 7 i (by omega))) (mCn_c g6 (eu 135 32 (by omega) (by omega)) (eu 135 38 (by omega) (by omega)) (tu 4 5 (by omega)) (tu 4 6 (by omega))) (mIm_c g7 (eu 135 43 (by omega) (by omega)) (eu 135 44 (by omega) (by omega)) (fun k i a b => eu k i (by omega) (by omega)) (fun q i _ _ => ⟨by rw [tu 4 7 (by omega), tu 4 4 (by omega)] at q; exact q, eu 139 i (by omega) (by omega)⟩) (fun k i a => tu k i (by omega)) (im8 h))⟩
  rw [show w2 3 = w 3 from funext fun i => eu 3 i (by omega) (by omega)]
  exact h.ft
theorem k_read {S T w : wW} {n m v : Int} (hn : n ≤ 1000000) (h : CI S T w n) (g : MI S T w) (hm : inI m) (hv : inI v) : stp2 (p_X9_read [vr 0, vi m, vi v]) (q_X9_read [vr 0, vi m, vi v]) (p_X10_read [vr 135, vi m, vi v]) (q_X10_read [vr 135, vi m, vi v]) n w := by
  obtain ⟨h1, h2, h3, h4, h5, h6, h7, h8⟩ := CI_un h
  obtain ⟨g1, g2, g3, g4, g5, g6, g7⟩ := MI_un g
  refine ⟨⟨rfl, hm, hv⟩, fun r w1 hq => ?_⟩
  obtain ⟨hr, hw1⟩ := hq
  refine ⟨⟨rfl, hm, hv⟩, fun r' w2 hq' => ?_⟩
  obtain ⟨hr', hw2⟩ := hq'
  have o1 : w1 153 m.toNat = w 153 m.toNat := by
    rw [hw1]
    split
    · exact up_ne (by omega)
    · rfl
  have hrr : r = r' := by
    rw [hr, hr', o1]
    by_cases q1 : m < 0 ∨ 12 ≤ m
    · rw [if_pos q1, if_pos q1]
    · rw [if_neg q1, if_neg q1, (h5 m.toNat (by omega)).2, (g5 m.toNat (by omega)).2]
  refine ⟨hrr, ?_⟩
  by_cases q : (0 ≤ m ∧ m < 12) ∧ -1 ≤ v ∧ v ≤ 200
  · rw [if_pos q] at hw1 hw2
    have eu : ∀ k i, ¬ (k = 34) → ¬ (k = 153) → w2 k i = w k i := fun k i a b => by rw [hw2, hw1, up_k (by omega), up_k (by omega)]
    have tu : ∀ k i, ¬ k = 7 → w_up T 7 m.toNat v k i = T k i := fun k i a => up_k a
    refine ⟨S, w_up T 7 m.toNat v, CI_mk hn (cRu_c h1 (fun k i a b => eu k i (by omega) (by omega)) (eu 0 11 (by omega) (by omega)) (fun k i a => tu k i (by omega))) (cHo_c h2 (Int.le_refl _) (fun k i a b => eu k i (by omega) (by omega)) (eu 0 12 (by omega) (by omega)) (tu 4 4 (by omega)) (fun _ _ => rfl) rfl) (cYe_c h3 (fun k i a b => eu k i (by omega) (by omega)) rfl (fun _ _ => rfl)) (cPa_c h4 (eu 1 2 (by omega) (by omega)) (fun i => eu 2 i (by omega) (by omega)) ?_ (tu 4 3 (by omega)) (fun i => tu 8 i (by omega))) ?_ (cCn_c h6 (eu 0 13 (by omega) (by omega)) (eu 0 14 (by omega) (by omega)) (tu 4 5 (by omega)) (tu 4 6 (by omega))) (cVe_c h7 (Int.le_refl _) (fun k i a => eu k i (by omega) (by omega)) (fun k i a => tu k i (by omega))) (cIg_c h8 (fun k i a b => eu k i (by omega) (by omega)) (fun k i a => tu k i (by omega))), MI_mk (mRu_c g1 (fun k i a b => eu k i (by omega) (by omega)) (eu 135 13 (by omega) (by omega)) (fun k i a => tu k i (by omega))) (mHo_c g2 (fun i => eu 139 i (by omega) (by omega)) (eu 135 9 (by omega) (by omega)) (eu 135 10 (by omega) (by omega)) (tu 4 4 (by omega)) (fun _ _ => rfl) rfl) (mYe_c g3 (fun i => eu 140 i (by omega) (by omega)) (eu 135 11 (by omega) (by omega)) rfl (fun _ _ => rfl)) (mPa_c g4 (eu 135 1 (by omega) (by omega)) (fun i => eu 136 i (by omega) (by omega)) (tu 4 3 (by omega)) (fun i => tu 8 i (by omega))) ?_ (mCn_c g6 (eu 135 32 (by omega) (by omega)) (eu 135 38 (by omega) (by omega)) (tu 4 5 (by omega)) (tu 4 6 (by omega))) (mIm_c g7 (eu 135 43 (by omega) (by omega)) (eu 135 44 (by omega) (by omega)) (fun k i a b => eu k i (by omega) (by omega)) (fun q i _ _ => ⟨by rw [tu 4 7 (by omega), tu 4 4 (by omega)] at q; exact q, eu 139 i (by omega) (by omega)⟩) (fun k i a => tu k i (by omega)) (im8 h))⟩
    · rw [show w2 3 = w 3 from funext fun i => eu 3 i (by omega) (by omega)]
      exact h.ft
    · intro j hj
      have e : w2 34 j = w1 34 j := by rw [hw2]; exact up_k (by decide)
      rw [e, hw1]
      unfold w_up
      by_cases z : j = m.toNat
      · rw [if_pos ⟨rfl, z⟩, if_pos ⟨rfl, z⟩]; exact ⟨q.2, rfl⟩
      · rw [if_neg (fun y => z y.2), if_neg (fun y => z y.2)]; exact h5 j hj
    · intro j hj
      have e : w1 153 j = w 153 j := by rw [hw1]; exact up_k (by decide)
      rw [hw2]
      unfold w_up
      by_cases z : j = m.toNat
      · rw [if_pos ⟨rfl, z⟩, if_pos ⟨rfl, z⟩]; exact ⟨q.2, rfl⟩
      · rw [if_neg (fun y => z y.2), if_neg (fun y => z y.2), e]; exact g5 j hj
  · rw [if_neg q] at hw1 hw2
    rw [hw2, hw1]
    exact ⟨S, T, h, g⟩
theorem k_count {S T w : wW} {n what : Int} (h : CI S T w n) (g : MI S T w) (hw : inI what) : stp2 (p_X9_count [vr 0, vi what]) (q_X9_count [vr 0, vi what]) (p_X10_count [vr 135, vi what]) (q_X10_count [vr 135, vi what]) n w := by
  refine ⟨⟨rfl, hw, fun m hm => ?_⟩, fun r w1 hq => ?_⟩
  · have := h.rq2.2.2.1 m hm
    exact ⟨by omega, by omega⟩
  obtain ⟨hr, hw1⟩ := hq
  rw [hw1]
  refine ⟨⟨rfl, hw, fun m hm => ?_⟩, fun r' w2 hq' => ?_⟩
  · have := g.q2.2.1 m hm
    exact ⟨by omega, by omega⟩
  obtain ⟨hr', hw2⟩ := hq'
  rw [hw2]
  refine ⟨?_, S, T, h, g⟩
  rw [hr, hr']
  by_cases q : 0 ≤ what ∧ what < 8
  · obtain ⟨j, rfl⟩ : ∃ j : Nat, what = j := ⟨what.toNat, by omega⟩
    rw [(cnt_o h.rq h.rq2 (by omega)).1, (mcnt_o g.mq g.q2 (by omega)).1]
  · unfold o_count m_count
    rw [if_neg (by omega), if_neg (by omega), if_neg (by omega), if_neg (by omega), if_neg (by omega), if_neg (by omega), if_neg (by omega), if_neg (by omega), if_neg (by omega), if_neg (by omega), if_neg (by omega), if_neg (by omega), if_neg (by omega), if_neg (by omega), if_neg (by omega), if_neg (by omega)]
theorem k_rain {S T w : wW} {n y m : Int} (h : CI S T w n) (g : MI S T w) (hy : inI y) (hm : inI m) : stp2 (p_X9_rain [vr 0, vi y, vi m]) (q_X9_rain [vr 0, vi y, vi m]) (p_X10_rain [vr 135, vi y, vi m]) (q_X10_rain [vr 135, vi y, vi m]) n w := by
  obtain ⟨y1, y2⟩ := h.rq.2.2.1
  obtain ⟨-, z2⟩ := g.mq.2.2.1
  have hc := y1.1
  have e1 := y2.1
  have e2 := z2.1
  refine ⟨⟨rfl, hy, hm, by omega, by omega⟩, fun r w1 hq => ?_⟩
  obtain ⟨hr, hw1⟩ := hq
  rw [hw1]
  refine ⟨⟨rfl, hy, hm, by omega⟩, fun r' w2 hq' => ?_⟩
  obtain ⟨hr', hw2⟩ := hq'
  rw [hw2]
  refine ⟨?_, S, T, h, g⟩
  rw [hr, hr', e1, e2]
  by_cases q : (0 ≤ y ∧ y < S 4 1) ∧ 0 ≤ m ∧ m < 12
  · rw [if_pos q, if_pos q, y2.2 y.toNat m.toNat (by omega) (by omega), z2.2 (12 * y.toNat + m.toNat) (by unfold monthsF; omega)]
    unfold rainF
    rw [show (12 * y.toNat + m.toNat) / 12 = y.toNat by omega, show (12 * y.toNat + m.toNat) % 12 = m.toNat by omega]
  · rw [if_neg q, if_neg q]
theorem k_as {S T w : wW} {n i k : Int} (h : CI S T w n) (g : MI S T w) (hi : inI i) (hk : inI k) : stp2 (p_X9_as [vr 0, vi i, vi k]) (q_X9_as [vr 0, vi i, vi k]) (p_X10_as [vr 135, vi i, vi k]) (q_X10_as [vr 135, vi i, vi k]) n w := by
  obtain ⟨a1, a2⟩ := h.rq.1
  obtain ⟨-, b2⟩ := g.mq.1
  refine ⟨⟨rfl, hi, hk, by omega, fun j hj => ?_⟩, fun r w1 hq => ?_⟩
  · have := (h.sp j hj).2.1
    exact ⟨by omega, by omega⟩
  obtain ⟨hr, hw1⟩ := hq
  rw [hw1]
  refine ⟨⟨rfl, hi, hk, by omega, fun j hj => ?_⟩, fun r' w2 hq' => ?_⟩
  · have := (g.mq.2.2.2.2.1 j hj).2.1
    exact ⟨by omega, by omega⟩
  obtain ⟨hr', hw2⟩ := hq'
  rw [hw2]
  refine ⟨?_, S, T, h, g⟩
  rw [hr, hr', a2, b2]
  unfold o_as
  by_cases q : i < 0 ∨ T 4 2 ≤ i
  · rw [if_pos q, if_pos q]
  · rw [if_neg q, if_neg q, (h.rq.2.2.2.2.2 i.toNat (by omega)).2.1, (g.mq.2.2.2.2.2 i.toNat (by omega)).2.1]
theorem told_c {S12 S12' s what a a' b b' c c' d d' : Int} (h0 : S12 = 0 ↔ S12' = 0) (hs : 0 ≤ s) (ha : ¬ S12 = 0 → 0 ≤ what → what < 7 → a = a') (hb : ¬ S12 = 0 → 0 ≤ what / 10 - 1 → what / 10 - 1 < s → b = b' ∧ c = c' ∧ d = d') : o_told S12 s what a b c d = o_told S12' s what a' b' c' d' := by
  unfold o_told
  by_cases q0 : S12 = 0
  · rw [if_pos q0, if_pos (h0.1 q0)]
  · rw [if_neg q0, if_neg (fun z => q0 (h0.2 z))]
    by_cases q1 : 0 ≤ what ∧ what < 7
    · rw [if_pos q1, if_pos q1, ha q0 q1.1 q1.2]
    · rw [if_neg q1, if_neg q1]
      by_cases q2 : what = 7
      · rw [if_pos q2, if_pos q2]
      · rw [if_neg q2, if_neg q2]
        by_cases q3 : what < 10 ∨ 32 < what ∨ 2 < what % 10
        · rw [if_pos q3, if_pos q3]
        · rw [if_neg q3, if_neg q3]
          by_cases q4 : s ≤ what / 10 - 1
          · rw [if_pos q4, if_pos q4]
          · obtain ⟨x1, x2, x3⟩ := hb q0 (by omega) (by omega)
            rw [if_neg q4, if_neg q4, x1, x2, x3]
theorem k_houseTold {S T w : wW} {n what : Int} (h : CI S T w n) (g : MI S T w) (hw : inI what) : stp2 (p_X9_houseTold [vr 0, vi what]) (q_X9_houseTold [vr 0, vi what]) (p_X10_houseTold [vr 135, vi what]) (q_X10_houseTold [vr 135, vi what]) n w := by
  obtain ⟨a1, a2⟩ := h.rq.2.1
  obtain ⟨u1, u2⟩ := h.rq2.2.1
  obtain ⟨b1, b2, b3⟩ := g.mq.2.1
  refine ⟨⟨rfl, hw, by rw [a2]; exact a1, by omega⟩, fun r w1 hq => ?_⟩
  obtain ⟨hr, hw1⟩ := hq
  rw [hw1]
  refine ⟨⟨rfl, hw, by omega⟩, fun r' w2 hq' => ?_⟩
  obtain ⟨hr', hw2⟩ := hq'
  rw [hw2]
  refine ⟨?_, S, T, h, g⟩
  rw [hr, hr', a2, u2, b1]
  refine told_c (by rw [b3]) u1.1 (fun q p1 p2 => ?_) (fun q p1 p2 => ?_)
  · obtain ⟨hS, hX⟩ := h.rq.2.2.2.1 q
    obtain ⟨-, m0, m1, m2, -⟩ := g.mq.2.2.2.1 q
    rw [hX.2.1 what.toNat (by omega)]
    have e : what.toNat = 0 ∨ what.toNat = 1 ∨ 2 ≤ what.toNat := by omega
    rcases e with e | e | e
    · rw [e, m0]
    · rw [e, m1]
    · rw [m2 what.toNat e (by omega)]
  · obtain ⟨hS, hX⟩ := h.rq.2.2.2.1 q
    obtain ⟨-, -, -, -, -, m3⟩ := g.mq.2.2.2.1 q
    obtain ⟨x1, x2, x3⟩ := hX.2.2.1 (what / 10 - 1).toNat (by omega)
    obtain ⟨z1, z2, z3⟩ := m3 (what / 10 - 1).toNat (by omega)
    exact ⟨by rw [x1, z1], by rw [x2, z2], by rw [x3, z3]⟩
