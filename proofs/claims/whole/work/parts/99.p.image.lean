/-! an image, and back -/
def tIg (S T : wW) : wW := fun k i => if k = 4 ∧ i = 7 then T 4 4 else if k = 9 then S 0 i else if k = 10 then T 7 i else if k = 11 ∧ i = 0 then S 4 1 else if 30 ≤ k ∧ k < 38 then S (k - 10) i else T k i
theorem tIg_x {S T : wW} {k i : Nat} (h : ¬ (k = 4 ∧ i = 7)) (h2 : ¬ (9 ≤ k ∧ k ≤ 11)) (h3 : ¬ (30 ≤ k ∧ k < 38)) : tIg S T k i = T k i := by
  unfold tIg
  rw [if_neg h, if_neg (by omega), if_neg (by omega), if_neg (by omega), if_neg h3]
theorem tIg_y (S T : wW) {y : Nat} (hy : y < 8) (m : Nat) : tIg S T (30 + y) m = S (20 + y) m := by
  unfold tIg
  rw [if_neg (by omega), if_neg (by omega), if_neg (by omega), if_neg (by omega), if_pos (by omega), show 30 + y - 10 = 20 + y by omega]
theorem mH_j {S w : wW} (h : mH S (S 0 0) (S 0 1) w) {j : Nat} (hj : j < 7) : w 139 j = S 0 j := by
  obtain ⟨m0, m1, m2, -⟩ := h
  have e : j = 0 ∨ j = 1 ∨ 2 ≤ j := by omega
  rcases e with e | e | e
  · rw [e, m0]
  · rw [e, m1]
  · exact m2 j e hj
theorem mY_j {S w : wW} (h : mYe S w) {y m : Nat} (hy : y < (S 4 1).toNat) (hm : m < 12) : w 140 (12 * y + m) = S (20 + y) m := by
  rw [h.2.2 (12 * y + m) (by unfold monthsF; omega)]
  unfold rainF
  rw [show (12 * y + m) / 12 = y by omega, show (12 * y + m) % 12 = m by omega]
theorem k_image {S T w : wW} {n : Int} (hn : n ≤ 1000000) (h : CI S T w n) (g : MI S T w) : stp2 (p_X9_image [vr 0]) (q_X9_image [vr 0]) (p_X10_image [vr 135]) (q_X10_image [vr 135]) n w := by
  obtain ⟨h1, h2, h3, h4, h5, h6, h7, h8⟩ := CI_un h
  obtain ⟨g1, g2, g3, g4, g5, g6, g7⟩ := MI_un g
  have a2 := h2.1.2
  have a3 := h.rq.2.1.1
  have hy := h3.1.1
  have y1 := h3.2.1
  have z1 := g3.2.1
  obtain ⟨b1, b2, b3⟩ := g2.1
  refine ⟨⟨rfl, by rw [a2]; exact a3, by rw [y1]; exact hy⟩, fun r w1 hq => ?_⟩
  obtain ⟨hr, hw1⟩ := hq
  rw [a2, y1] at hr hw1
  have e1 : ∀ k i, (k < 21 ∨ 33 < k) → w1 k i = w k i := by
    intro k i hk
    rw [hw1]
    split
    · rfl
    · rw [up_ne (by omega), w_cpy, if_neg (by omega), w_cy_lo _ _ _ (by decide) _ (by omega), if_neg (by omega), if_neg (by omega), w_cpy, if_neg (by omega)]
  have x9 : w1 135 9 = S 4 0 := by rw [e1 135 9 (by omega)]; exact b1
  have x10 : w1 135 10 = T 4 4 := by rw [e1 135 10 (by omega)]; exact g2.2.2.2
  have x11 : w1 135 11 = S 4 1 := by rw [e1 135 11 (by omega)]; exact z1
  refine ⟨⟨rfl, by rw [x9]; exact ⟨by omega, by omega⟩⟩, fun r' w2 hq' => ?_⟩
  obtain ⟨hr', hw2⟩ := hq'
  rw [x9] at hr' hw2
  rw [x11] at hr'
  by_cases q : T 4 4 = 0
  · rw [if_pos q] at hr hw1
    rw [if_pos (b3.2 q)] at hr' hw2
    refine ⟨by rw [hr, hr'], S, T, ?_⟩
    rw [hw2, hw1]
    exact ⟨h, g⟩
  · rw [if_neg q] at hr hw1
    rw [if_neg (fun z => q (b3.1 z))] at hr' hw2
    refine ⟨by rw [hr, hr'], S, tIg S T, ?_⟩
    obtain ⟨hS, hX⟩ := h2.2.1 q
    have hM := (g2.2.1 q).2
    unfold imgW at hw2
    rw [x10, x11] at hw2
    obtain ⟨c, hc⟩ : ∃ c : Nat, S 4 1 = c := ⟨(S 4 1).toNat, by omega⟩
    have e2 : ∀ k i, ¬ (154 ≤ k ∧ k ≤ 156) → ¬ (k = 135 ∧ (i = 43 ∨ i = 44)) → w2 k i = w1 k i := fun k i z z2 => by rw [hw2, up_ne (by omega), up_ne (by omega), cpR_x (by omega), cpR_x (by omega), cpR_x (by omega)]
    have eu : ∀ k i, (k < 21 ∨ 33 < k) → ¬ (154 ≤ k ∧ k ≤ 156) → ¬ (k = 135 ∧ (i = 43 ∨ i = 44)) → w2 k i = w k i := fun k i z0 z z2 => by rw [e2 k i z z2, e1 k i z0]
    have tu : ∀ k i, ¬ (k = 4 ∧ i = 7) → ¬ (9 ≤ k ∧ k ≤ 11) → ¬ (30 ≤ k ∧ k < 38) → tIg S T k i = T k i := fun k i a b d => tIg_x a b d
    have t47 : tIg S T 4 7 = T 4 4 := rfl
    have t44 : tIg S T 4 4 = T 4 4 := rfl
    have t11 : tIg S T 11 0 = S 4 1 := rfl
    have t9 : tIg S T 9 = S 0 := rfl
    have t10 : ∀ m, tIg S T 10 m = T 7 m := fun m => by
      unfold tIg
      rw [if_neg (by omega), if_neg (by omega), if_pos rfl]
    have hti : tIm (tIg S T) := by
      refine ⟨by rw [t47, t44]; exact ⟨h2.1.1.1, Int.le_refl _⟩, fun _ => ⟨by rw [t11]; exact hy, by rw [t9]; exact hR_hN hS, fun m hm => by rw [t10]; exact (h5 m hm).1, fun y m hy' hm => ?_⟩⟩
      rw [t11] at hy'
      rw [tIg_y S T (by omega)]
      exact h3.1.2 y m hy' hm
    refine ⟨CI_mk hn (cRu_c h1 (fun k i a b => eu k i (by omega) (by omega) (by omega)) (eu 0 11 (by omega) (by omega) (by omega)) (fun k i a => tu k i (by omega) (by omega) (by omega))) (cHo_c h2 (Int.le_refl _) (fun k i a b => eu k i (by omega) (by omega) (by omega)) (eu 0 12 (by omega) (by omega) (by omega)) t44 (fun _ _ => rfl) rfl) (cYe_c h3 (fun k i a b => eu k i (by omega) (by omega) (by omega)) rfl (fun _ _ => rfl)) (cPa_c h4 (eu 1 2 (by omega) (by omega) (by omega)) (fun i => eu 2 i (by omega) (by omega) (by omega)) ?_ (tu 4 3 (by omega) (by omega) (by omega)) (fun i => tu 8 i (by omega) (by omega) (by omega))) (rdX_c h5 (fun i => eu 34 i (by omega) (by omega) (by omega)) (fun i => tu 7 i (by omega) (by omega) (by omega))) (cCn_c h6 (eu 0 13 (by omega) (by omega) (by omega)) (eu 0 14 (by omega) (by omega) (by omega)) (tu 4 5 (by omega) (by omega) (by omega)) (tu 4 6 (by omega) (by omega) (by omega))) (cVe_c h7 (Int.le_refl _) (fun k i a => eu k i (by omega) (by omega) (by omega)) (fun k i a => tu k i (by omega) (by omega) (by omega))) ⟨hti, ?_, fun _ => ⟨?_, fun j hj => ?_, fun m hm => ?_, fun y m hy' hm => ?_⟩⟩, MI_mk (mRu_c g1 (fun k i a b => eu k i (by omega) (by omega) (by omega)) (eu 135 13 (by omega) (by omega) (by omega)) (fun k i a => tu k i (by omega) (by omega) (by omega))) (mHo_c g2 (fun i => eu 139 i (by omega) (by omega) (by omega)) (eu 135 9 (by omega) (by omega) (by omega)) (eu 135 10 (by omega) (by omega) (by omega)) t44 (fun _ _ => rfl) rfl) (mYe_c g3 (fun i => eu 140 i (by omega) (by omega) (by omega)) (eu 135 11 (by omega) (by omega) (by omega)) rfl (fun _ _ => rfl)) (mPa_c g4 (eu 135 1 (by omega) (by omega) (by omega)) (fun i => eu 136 i (by omega) (by omega) (by omega)) (tu 4 3 (by omega) (by omega) (by omega)) (fun i => tu 8 i (by omega) (by omega) (by omega))) (mrX_c g5 (fun i => eu 153 i (by omega) (by omega) (by omega)) (fun i => tu 7 i (by omega) (by omega) (by omega))) (mCn_c g6 (eu 135 32 (by omega) (by omega) (by omega)) (eu 135 38 (by omega) (by omega) (by omega)) (tu 4 5 (by omega) (by omega) (by omega)) (tu 4 6 (by omega) (by omega) (by omega))) ⟨fun z => absurd z q, fun _ => ⟨?_, ?_, fun j hj => ?_, fun _ i a b => ?_, fun m hm => ?_, fun y m hy' hm => ?_⟩⟩⟩
    · rw [show w2 3 = w 3 from funext fun i => eu 3 i (by omega) (by omega) (by omega)]
      exact h.ft
    · rw [e2 21 3 (by omega) (by omega), hw1, up_eq, t47]
    · rw [e2 24 1 (by omega) (by omega), hw1, up_ne (by omega), w_cpy, if_neg (by omega), w_cy_lo _ _ _ (by decide) _ (by omega), if_pos ⟨rfl, rfl⟩, w_cpy, if_neg (by omega), t11]
      exact y1
    · rw [e2 22 j (by omega) (by omega), hw1, up_ne (by omega), w_cpy, if_neg (by omega), w_cy_lo _ _ _ (by decide) _ (by omega), if_neg (by omega), if_neg (by omega), w_cpy, if_pos ⟨rfl, by omega, by omega⟩, t9, show 0 + (j - 0) = j by omega]
      exact hX.2.1 j hj
    · rw [e2 23 m (by omega) (by omega), hw1, up_ne (by omega), w_cpy, if_pos ⟨rfl, by omega, by omega⟩, w_cy_lo _ _ _ (by decide) _ (by omega), if_neg (by omega), if_neg (by omega), w_cpy, if_neg (by omega), t10, show 0 + (m - 0) = m by omega]
      exact (h5 m hm).2
    · rw [t11] at hy'
      rw [e2 _ m (by omega) (by omega), hw1, up_ne (by omega), w_cpy, if_neg (by omega), w_cy_lo _ _ _ (by decide) _ (by omega), if_neg (by omega), if_pos ⟨by omega, hm⟩, w_cpy, if_neg (by omega), tIg_y S T (by omega), show 11 + (26 + y - 24) = 13 + y by omega]
      exact h3.2.2 y m hy' hm
    · rw [hw2, up_eq, t47]
    · rw [hw2, up_ne (by omega), up_eq, t11]
    · rw [hw2, up_ne (by omega), up_ne (by omega), cpR_x (by omega), cpR_x (by omega), cpR_a (by omega), e1 139 j (by omega), t9]
      exact mH_j hM hj
    · rw [e2 139 i (by omega) (by omega), hw2, up_ne (by omega), up_ne (by omega), cpR_x (by omega), cpR_x (by omega), cpR_a (by omega)]
    · rw [hw2, up_ne (by omega), up_ne (by omega), cpR_a hm, cpR_x (by omega), cpR_x (by omega), e1 153 m (by omega), t10]
      exact (g5 m hm).2
    · rw [t11] at hy'
      rw [hw2, up_ne (by omega), up_ne (by omega), cpR_x (by omega), cpR_a (by omega), cpR_x (by omega), e1 140 _ (by omega), tIg_y S T (by omega)]
      exact mY_j g3 hy' hm
def sRs (S T : wW) : wW := fun k i => if k = 0 then T 9 i else if k = 4 ∧ i = 1 then T 11 0 else if 20 ≤ k ∧ k < 28 then T (k + 10) i else S k i
theorem sRs_y (S T : wW) {y : Nat} (hy : y < 8) (m : Nat) : sRs S T (20 + y) m = T (30 + y) m := by
  unfold sRs
  rw [if_neg (by omega), if_neg (by omega), if_pos (by omega), show 20 + y + 10 = 30 + y by omega]
theorem sRs_x {S T : wW} {k i : Nat} (h : ¬ k = 0) (h2 : ¬ (k = 4 ∧ i = 1)) (h3 : ¬ (20 ≤ k ∧ k < 28)) : sRs S T k i = S k i := by
  unfold sRs
  rw [if_neg h, if_neg h2, if_neg h3]
def tRs (T : wW) : wW := fun k i => if k = 7 then T 10 i else T k i
theorem tRs_x {T : wW} {k i : Nat} (h : ¬ k = 7) : tRs T k i = T k i := by
  unfold tRs
  rw [if_neg h]
theorem k_restore {S T w : wW} {n : Int} (hn : n < 1000000) (h : CI S T w n) (g : MI S T w) : stp2 (p_X9_restore [vr 0]) (q_X9_restore [vr 0]) (p_X10_restore [vr 135]) (q_X10_restore [vr 135]) (n + 1) w := by
  obtain ⟨h1, h2, h3, h4, h5, h6, h7, h8⟩ := CI_un h
  obtain ⟨g1, g2, g3, g4, g5, g6, g7⟩ := MI_un g
  have a2 := h2.1.2
  have a3 := h.rq.2.1.1
  obtain ⟨⟨i0, ti⟩, i1, ci⟩ := id h8
  obtain ⟨m1, m2⟩ := id g7
  refine ⟨⟨rfl, by rw [a2]; exact a3, by rw [i1]; exact ⟨by omega, by have := a3.2; omega⟩, fun z => ?_⟩, fun r w1 hq => ?_⟩
  · rw [i1] at z
    obtain ⟨t1, t2, -⟩ := ti z
    obtain ⟨c1, c2, -⟩ := ci z
    rw [c1, c2 0 (by decide), c2 2 (by decide), c2 3 (by decide)]
    obtain ⟨f0, f1, f2, f3, -⟩ := t2
    exact ⟨t1, by omega, f2, f3⟩
  obtain ⟨hr, hw1⟩ := hq
  rw [i1, a2] at hr hw1
  by_cases q : T 4 7 = 0 ∨ T 4 7 ≠ T 4 4
  · rw [if_pos q] at hr hw1
    rw [hw1]
    refine ⟨⟨rfl, by rw [g2.2.2.2]; exact a3, ?_⟩, fun r' w2 hq' => ?_⟩
    · by_cases z : T 4 7 = 0
      · rw [m1 z]; decide
      · rw [(m2 z).1]; exact ⟨by omega, by have := a3.2; omega⟩
    obtain ⟨hr', hw2⟩ := hq'
    have hc : ¬ w 135 44 = w 135 10 := by
      rw [g2.2.2.2]
      by_cases z : T 4 7 = 0
      · rw [m1 z]; omega
      · rw [(m2 z).1]; omega
    rw [if_neg hc] at hr' hw2
    refine ⟨by rw [hr, hr'], S, T, ?_⟩
    rw [hw2]
    exact ⟨CI_up hn h, g⟩
  · rw [if_neg q] at hr hw1
    have q0 : ¬ T 4 7 = 0 := fun z => q (Or.inl z)
    have q1 : T 4 7 = T 4 4 := Decidable.byContradiction (fun z => q (Or.inr z))
    have h40 : ¬ T 4 4 = 0 := by rw [← q1]; exact q0
    obtain ⟨t1, t2, t3, t4⟩ := ti q0
    obtain ⟨c1, c2, c3, c4⟩ := ci q0
    obtain ⟨n1, n2, n3, n4, n5, n6⟩ := m2 q0
    have n4 := n4 q1
    rw [c1] at hr
    unfold w_rst at hw1
    rw [c1] at hw1
    obtain ⟨c, hc⟩ : ∃ c : Nat, T 11 0 = c := ⟨(T 11 0).toNat, by omega⟩
    rw [hc, Int.toNat_natCast] at hw1
    have e1 : ∀ k i, ¬ (k = 0 ∧ i = 15) → ¬ k = 34 → ¬ (k = 11 ∧ i = 1) → ¬ (13 ≤ k ∧ k ≤ 20) → ¬ k = 10 → ¬ k = 5 → w1 k i = w k i := fun k i x1 x2 x3 x4 x5 x6 => by
      rw [hw1, up_ne x1, w_cpy, if_neg (by omega), w_cy_lo _ _ _ (by decide) _ (by omega), if_neg (by omega), if_neg (by omega), w_settle_ne _ _ _ x5, w_cpy, if_neg (by omega)]
    have o1 : ∀ k i, 135 ≤ k → w1 k i = w k i := fun k i hk => e1 k i (by omega) (by omega) (by omega) (by omega) (by omega) (by omega)
    refine ⟨⟨rfl, by rw [o1 135 10 (by omega), g2.2.2.2]; exact a3, by rw [o1 135 44 (by omega), n1, q1]; exact a3⟩, fun r' w2 hq' => ?_⟩
    obtain ⟨hr', hw2⟩ := hq'
    have hcd : w1 135 44 = w1 135 10 := by rw [o1 135 44 (by omega), o1 135 10 (by omega), n1, g2.2.2.2, q1]
    rw [if_pos hcd] at hr' hw2
    rw [o1 135 43 (by omega), n2] at hr'
    refine ⟨by rw [hr, hr'], sRs S T, tRs T, ?_⟩
    unfold rstW at hw2
    rw [o1 135 43 (by omega), n2] at hw2
    have e2 : ∀ k i, ¬ k = 139 → ¬ k = 140 → ¬ k = 153 → ¬ (k = 135 ∧ i = 11) → w2 k i = w1 k i := fun k i x1 x2 x3 x4 => by rw [hw2, up_ne x4, cpR_x x3, cpR_x x2, cpR_x x1]
    have ox : ∀ k i, k < 135 → w2 k i = w1 k i := fun k i hk => e2 k i (by omega) (by omega) (by omega) (by omega)
    have ec : ∀ k i, k < 135 → ¬ (k = 0 ∧ i = 15) → ¬ k = 34 → ¬ (k = 11 ∧ i = 1) → ¬ (13 ≤ k ∧ k ≤ 20) → ¬ k = 10 → ¬ k = 5 → w2 k i = w k i := fun k i x0 x1 x2 x3 x4 x5 x6 => by rw [ox k i x0, e1 k i x1 x2 x3 x4 x5 x6]
    have em : ∀ k i, 135 ≤ k → ¬ k = 139 → ¬ k = 140 → ¬ k = 153 → ¬ (k = 135 ∧ i = 11) → w2 k i = w k i := fun k i x0 x1 x2 x3 x4 => by rw [e2 k i x1 x2 x3 x4, o1 k i x0]
    have tu : ∀ k i, ¬ k = 7 → tRs T k i = T k i := fun k i a => tRs_x a
    have sk : ∀ k, k < 4 → sRs S T k = sN S (T 9) k := fun k hk => funext fun i => by
      unfold sRs sN
      by_cases z : k = 0
      · rw [if_pos z, if_pos z]
      · rw [if_neg z, if_neg z, if_neg (by omega), if_neg (by omega)]
    have s40 : sRs S T 4 0 = sN S (T 9) 4 0 := rfl
    have s41 : sRs S T 4 1 = T 11 0 := rfl
    have hyR : yR (sRs S T) := by
      refine ⟨by rw [s41]; exact t1, fun y m hy hm => ?_⟩
      rw [s41] at hy
      rw [sRs_y S T (by omega)]
      exact t4 y m hy hm
    have k139 : ∀ i, i < 16 → w2 139 i = w 154 i := fun i hi => by
      rw [hw2, up_ne (by omega), cpR_x (by omega), cpR_x (by omega), cpR_a hi, o1 154 i (by omega)]
    refine ⟨CI_mk (by omega) (cRu_c h1 (fun k i a b => ec k i (by omega) (by omega) (by omega) (by omega) (by omega) (by omega) (by omega)) (ec 0 11 (by omega) (by omega) (by omega) (by omega) (by omega) (by omega) (by omega)) (fun k i a => tu k i (by omega))) (cHo_c (cHo_N (T' := T) h2 h40 (Int.le_refl _) t2 rfl (fun j hj => ?_) (fun k i a => ec k i (by omega) (by omega) (by omega) (by omega) (by omega) (by omega) (by omega)) (fun j hj => ?_)) (by omega) (fun _ _ _ _ => rfl) rfl (tu 4 4 (by omega)) sk s40) ⟨hyR, ?_, fun y m hy hm => ?_⟩ (cPa_c h4 (ec 1 2 (by omega) (by omega) (by omega) (by omega) (by omega) (by omega) (by omega)) (fun i => ec 2 i (by omega) (by omega) (by omega) (by omega) (by omega) (by omega) (by omega)) ?_ (tu 4 3 (by omega)) (fun i => tu 8 i (by omega))) (fun m hm => ?_) (cCn_c h6 (ec 0 13 (by omega) (by omega) (by omega) (by omega) (by omega) (by omega) (by omega)) (ec 0 14 (by omega) (by omega) (by omega) (by omega) (by omega) (by omega) (by omega)) (tu 4 5 (by omega)) (tu 4 6 (by omega))) (cVe_v h7 hn ?_ (fun k i a => ec k i (by omega) (by omega) (by omega) (by omega) (by omega) (by omega) (by omega)) (tu 4 2 (by omega))) (cIg_c h8 (fun k i a b => ec k i (by omega) (by omega) (by omega) (by omega) (by omega) (by omega) (by omega)) (fun k i a => tu k i (by omega))), MI_mk (mRu_c g1 (fun k i a b => em k i (by omega) (by omega) (by omega) (by omega) (by omega)) (em 135 13 (by omega) (by omega) (by omega) (by omega) (by omega)) (fun k i a => tu k i (by omega))) (mHo_c (mHo_N (T' := T) g2 h40 t2 rfl (fun j hj => ?_) (fun i a b => ?_) (em 135 9 (by omega) (by omega) (by omega) (by omega) (by omega)) (em 135 10 (by omega) (by omega) (by omega) (by omega) (by omega))) (fun _ => rfl) rfl rfl (tu 4 4 (by omega)) sk s40) ⟨hyR, ?_, fun k hk => ?_⟩ (mPa_c g4 (em 135 1 (by omega) (by omega) (by omega) (by omega) (by omega)) (fun i => em 136 i (by omega) (by omega) (by omega) (by omega) (by omega)) (tu 4 3 (by omega)) (fun i => tu 8 i (by omega))) (fun m hm => ?_) (mCn_c g6 (em 135 32 (by omega) (by omega) (by omega) (by omega) (by omega)) (em 135 38 (by omega) (by omega) (by omega) (by omega) (by omega)) (tu 4 5 (by omega)) (tu 4 6 (by omega))) (mIm_c g7 (em 135 43 (by omega) (by omega) (by omega) (by omega) (by omega)) (em 135 44 (by omega) (by omega) (by omega) (by omega) (by omega)) (fun k i a b => em k i (by omega) (by omega) (by omega) (by omega) (by omega)) (fun _ i a b => ⟨q1, by rw [k139 i b]; exact n4 i a b⟩) (fun k i a => tu k i (by omega)) (im8 h))⟩
    · rw [ox 5 j (by omega), hw1, up_ne (by omega), w_cpy, if_neg (by omega), w_cy_lo _ _ _ (by decide) _ (by omega), if_neg (by omega), if_neg (by omega), w_settle_ne _ _ _ (by decide), w_cpy, if_pos ⟨rfl, by omega, by omega⟩, show 0 + (j - 0) = j by omega]
      exact c2 j hj
    · have hs := w_settle_lo (w_cpy w 22 0 5 0 7) j 10 hj (Nat.le_refl _)
      rw [show w_cpy w 22 0 5 0 7 5 0 = w 22 0 from rfl, show w_cpy w 22 0 5 0 7 5 2 = w 22 2 from rfl, show w_cpy w 22 0 5 0 7 5 3 = w 22 3 from rfl, c2 0 (by decide), c2 2 (by decide), c2 3 (by decide)] at hs
      have e10 : ∀ i, w2 10 i = w_settle (w_cpy w 22 0 5 0 7) 10 10 i := fun i => by
        rw [ox 10 i (by omega), hw1, up_ne (by omega), w_cpy, if_neg (by omega), w_cy_lo _ _ _ (by decide) _ (by omega), if_neg (by omega), if_neg (by omega)]
      rw [e10, e10]
      exact hs
    · rw [ox 11 1 (by omega), hw1, up_ne (by omega), w_cpy, if_neg (by omega), w_cy_lo _ _ _ (by decide) _ (by omega), if_pos ⟨rfl, rfl⟩, w_settle_ne _ _ _ (by decide), w_cpy, if_neg (by omega), s41]
      exact c1
    · rw [s41] at hy
      rw [ox _ m (by omega), hw1, up_ne (by omega), w_cpy, if_neg (by omega), w_cy_lo _ _ _ (by decide) _ (by omega), if_neg (by omega), if_pos ⟨by omega, hm⟩, w_settle_ne _ _ _ (by omega), w_cpy, if_neg (by omega), sRs_y S T (by omega), show 24 + (13 + y - 11) = 26 + y by omega]
      exact c4 y m hy hm
    · rw [show w2 3 = w 3 from funext fun i => ec 3 i (by omega) (by omega) (by omega) (by omega) (by omega) (by omega) (by omega)]
      exact h.ft
    · have e : tRs T 7 m = T 10 m := rfl
      rw [e]
      refine ⟨t3 m hm, ?_⟩
      rw [ox 34 m (by omega), hw1, up_ne (by omega), w_cpy, if_pos ⟨rfl, by omega, by omega⟩, w_cy_lo _ _ _ (by decide) _ (by omega), if_neg (by omega), if_neg (by omega), w_settle_ne _ _ _ (by decide), w_cpy, if_neg (by omega), show 0 + (m - 0) = m by omega]
      exact c3 m hm
    · rw [ox 0 15 (by omega), hw1, up_eq]
    · rw [k139 j (by omega)]
      exact n3 j hj
    · rw [k139 i b]
      exact n4 i a b
    · rw [hw2, up_eq, s41]
    · unfold monthsF at hk
      rw [s41] at hk
      unfold rainF
      rw [hw2, up_ne (by omega), cpR_x (by omega), cpR_a (by omega), cpR_x (by omega), o1 155 k (by omega), sRs_y S T (by omega)]
      have := n6 (k / 12) (k % 12) (by omega) (by omega)
      rw [show 12 * (k / 12) + k % 12 = k by omega] at this
      exact this
    · have e : tRs T 7 m = T 10 m := rfl
      rw [e]
      refine ⟨t3 m hm, ?_⟩
      rw [hw2, up_ne (by omega), cpR_a hm, cpR_x (by omega), cpR_x (by omega), o1 156 m (by omega)]
      exact n5 m hm
