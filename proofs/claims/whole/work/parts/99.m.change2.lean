/-! a number of the house is changed -/
def sN (S : wW) (f : Nat → Int) : wW := fun k i => if k = 0 then f i else S k i
theorem sN_x {S : wW} {f : Nat → Int} {k : Nat} (h : k ≠ 0) : sN S f k = S k := by
  funext i
  unfold sN
  rw [if_neg h]
theorem hR_hN {S : wW} (h : hR S) : hN (S 0) := ⟨h.2.1, h.2.2.1, h.2.2.2.1, h.2.2.2.2.1, h.2.2.2.2.2.1, h.2.2.2.2.2.2.1, h.2.2.2.2.2.2.2.1⟩
theorem hR_sN {S : wW} {f : Nat → Int} (h : hR S) (hf : hN f) : hR (sN S f) := by
  obtain ⟨f0, f1, f2, f3, f4, f5, f6⟩ := hf
  refine ⟨?_, f0, f1, f2, f3, f4, f5, f6, ?_⟩
  · rw [sN_x (by decide)]; exact h.1
  · rw [sN_x (by decide), sN_x (by decide), sN_x (by decide), sN_x (by decide)]; exact h.2.2.2.2.2.2.2.2
theorem hN_up {f : Nat → Int} {what v : Int} (h : hN f) (hw : 0 ≤ what ∧ what < 7) (hv : o_lst what ≤ v ∧ v ≤ o_mst what) : hN (fup f what.toNat v) := by
  obtain ⟨f0, f1, f2, f3, f4, f5, f6⟩ := h
  have e : what = 0 ∨ what = 1 ∨ what = 2 ∨ what = 3 ∨ what = 4 ∨ what = 5 ∨ what = 6 := by omega
  unfold o_lst o_mst at hv
  rcases e with rfl | rfl | rfl | rfl | rfl | rfl | rfl
  · exact ⟨hv, f1, f2, f3, f4, f5, f6⟩
  · exact ⟨f0, hv, f2, f3, f4, f5, f6⟩
  · exact ⟨f0, f1, hv, f3, f4, f5, f6⟩
  · exact ⟨f0, f1, f2, hv, f4, f5, f6⟩
  · exact ⟨f0, f1, f2, f3, hv, f5, f6⟩
  · exact ⟨f0, f1, f2, f3, f4, hv, f6⟩
  · exact ⟨f0, f1, f2, f3, f4, f5, hv⟩
theorem cHo_N {S T T' w w' : wW} {n n' : Int} {f : Nat → Int} (h : cHo S T w n) (h4 : ¬ T 4 4 = 0) (hn : n ≤ n') (hf : hN f) (t44 : T' 4 4 = T 4 4) (h5 : ∀ j, j < 7 → w' 5 j = f j) (he : ∀ k i, (k = 4 ∧ i = 6) ∨ (k = 0 ∧ i = 12) ∨ (6 ≤ k ∧ k ≤ 9) → w' k i = w k i) (h10 : ∀ n, n < 10 → w' 10 n = o_comes (f 0) n (f 2) (f 3) 0 ∧ w' 10 (10 + n) = o_comes (f 0) n (f 2) (f 3) 1) : cHo (sN S f) T' w' n' := by
  obtain ⟨b1, b2, b3, b4⟩ := h
  obtain ⟨hS, x1, x2, x3, x4, x5⟩ := b2 h4
  refine ⟨⟨by rw [t44]; have := b1.1; omega, by rw [t44, he 0 12 (by omega)]; exact b1.2⟩, fun _ => ⟨hR_sN hS hf, ?_⟩, ⟨by rw [sN_x (by decide)]; exact b3.1, by rw [sN_x (by decide), he 4 6 (by omega)]; exact b3.2⟩, fun u hu => by rw [he 8 u (by omega)]; exact b4 u hu⟩
  refine ⟨by rw [sN_x (by decide), he 4 6 (by omega)]; exact x1, h5, fun u hu => ?_, fun j hj => ?_, h10⟩
  · rw [sN_x (by decide)] at hu
    rw [sN_x (by decide), sN_x (by decide), sN_x (by decide), he 6 u (by omega), he 7 u (by omega), he 8 u (by omega)]
    exact x3 u hu
  · rw [sN_x (by decide)] at hj
    rw [sN_x (by decide), sN_x (by decide), he 9 j (by omega)]
    exact x4 j hj
theorem mHo_N {S T T' w w' : wW} {f : Nat → Int} (h : mHo S T w) (h4 : ¬ T 4 4 = 0) (hf : hN f) (t44 : T' 4 4 = T 4 4) (h5 : ∀ j, j < 7 → w' 139 j = f j) (he : ∀ i, 7 ≤ i → i < 16 → w' 139 i = w 139 i) (h9 : w' 135 9 = w 135 9) (h10 : w' 135 10 = w 135 10) : mHo (sN S f) T' w' := by
  obtain ⟨h2, h3, b1⟩ := h
  obtain ⟨hS, m0, m1, m2, m3, m4⟩ := h3 h4
  refine ⟨by rw [sN_x (by decide), h9, t44]; exact h2, fun _ => ⟨hR_sN hS hf, h5 0 (by decide), h5 1 (by decide), fun j _ hj => h5 j hj, ?_, fun u hu => ?_⟩, by rw [t44, h10]; exact b1⟩
  · rw [sN_x (by decide), h9]; exact m3
  · rw [sN_x (by decide)] at hu
    have := hS.1
    rw [sN_x (by decide), sN_x (by decide), sN_x (by decide), he _ (by omega) (by omega), he _ (by omega) (by omega), he _ (by omega) (by omega)]
    exact m4 u hu
theorem k_change {S T w : wW} {n what v : Int} (hn : n < 1000000) (h : CI S T w n) (g : MI S T w) (hwh : inI what) (hv : inI v) : stp2 (p_X9_change [vr 0, vi what, vi v]) (q_X9_change [vr 0, vi what, vi v]) (p_X10_change [vr 135, vi what, vi v]) (q_X10_change [vr 135, vi what, vi v]) (n + 1) w := by
  obtain ⟨h1, h2, h3, h4, h5, h6, h7, h8⟩ := CI_un h
  obtain ⟨g1, g2, g3, g4, g5, g6, g7⟩ := MI_un g
  obtain ⟨a1, a2⟩ := h.rq.2.1
  obtain ⟨b1, b2, b3⟩ := g2.1
  have hHX := h2.2.1
  refine ⟨⟨rfl, hwh, hv, by rw [a2]; exact a1, fun z => ?_⟩, fun r w1 hq => ?_⟩
  · rw [a2] at z
    obtain ⟨hS, -, x2, -⟩ := hHX z
    rw [x2 0 (by decide), x2 2 (by decide), x2 3 (by decide)]
    exact ⟨⟨by have := hS.2.1; omega, hS.2.1.2⟩, hS.2.2.2.1, hS.2.2.2.2.1⟩
  obtain ⟨hr, hw1⟩ := hq
  rw [a2] at hr hw1
  have o1 : ∀ k i, 11 ≤ k → w1 k i = w k i := by
    intro k i hk
    rw [hw1]
    split
    · rw [up_k (by omega), w_settle_ne _ _ _ (by omega), up_k (by omega)]
    · rfl
  refine ⟨⟨rfl, hwh, hv, by rw [o1 135 9 (by omega), b1]; exact ⟨by omega, by omega⟩⟩, fun r' w2 hq' => ?_⟩
  obtain ⟨hr', hw2⟩ := hq'
  rw [o1 135 9 (by omega), o1 139 _ (by omega), b1] at hr'
  rw [o1 135 9 (by omega), b1] at hw2
  have hrr : r = r' := by
    rw [hr, hr']
    unfold o_change
    by_cases z : T 4 4 = 0
    · rw [if_pos z, if_pos (b3.2 z)]
    · rw [if_neg z, if_neg (fun y => z (b3.1 y))]
      by_cases z2 : (0 ≤ what ∧ what < 7) ∧ o_lst what ≤ v ∧ v ≤ o_mst what
      · obtain ⟨hS, hX⟩ := hHX z
        obtain ⟨-, m0, m1, m2, -⟩ := g2.2.1 z
        rw [if_pos z2, if_pos z2, hX.2.1 what.toNat (by omega)]
        have e : what.toNat = 0 ∨ what.toNat = 1 ∨ 2 ≤ what.toNat := by omega
        rcases e with e | e | e
        · rw [e, m0]
        · rw [e, m1]
        · rw [m2 what.toNat e (by omega)]
      · rw [if_neg z2, if_neg z2]
  refine ⟨hrr, ?_⟩
  by_cases q : T 4 4 ≠ 0 ∧ (0 ≤ what ∧ what < 7) ∧ o_lst what ≤ v ∧ v ≤ o_mst what
  · rw [if_pos q] at hw1
    rw [if_pos ⟨fun y => q.1 (b3.1 y), q.2⟩] at hw2
    have h40 := q.1
    obtain ⟨hS, hX⟩ := hHX h40
    obtain ⟨-, m0, m1, m2, -⟩ := g2.2.1 h40
    have hf := hN_up (hR_hN hS) q.2.1 q.2.2
    have e1 : ∀ k i, k ≠ 10 → k ≠ 5 → ¬ (k = 0 ∧ i = 15) → w1 k i = w k i := fun k i z1 z2 z3 => by rw [hw1, up_ne z3, w_settle_ne _ _ _ z1, up_k z2]
    have eu : ∀ k i, k ≠ 10 → k ≠ 5 → ¬ (k = 0 ∧ i = 15) → k ≠ 139 → w2 k i = w k i := fun k i z1 z2 z3 z4 => by rw [hw2, up_k z4]; exact e1 k i z1 z2 z3
    have f5 : ∀ j, j < 7 → w_up w 5 what.toNat v 5 j = fup (S 0) what.toNat v j := fun j hj => by
      unfold fup w_up
      by_cases z : j = what.toNat
      · rw [if_pos ⟨rfl, z⟩, if_pos z]
      · rw [if_neg (fun y => z y.2), if_neg z]; exact hX.2.1 j hj
    have w15 : w1 0 15 = w 0 15 + 1 := by rw [hw1, up_eq]
    refine ⟨sN S (fup (S 0) what.toNat v), T, CI_mk (by omega) (cRu_c h1 (fun k i a b => eu k i (by omega) (by omega) (by omega) (by omega)) (eu 0 11 (by omega) (by omega) (by omega) (by omega)) (fun _ _ _ => rfl)) (cHo_N h2 h40 (by omega) hf rfl (fun j hj => ?_) (fun k i a => eu k i (by omega) (by omega) (by omega) (by omega)) (fun j hj => ?_)) (cYe_c h3 (fun k i a b => eu k i (by omega) (by omega) (by omega) (by omega)) (by rw [sN_x (by decide)]) (fun y _ => sN_x (by omega))) (cPa_c h4 (eu 1 2 (by omega) (by omega) (by omega) (by omega)) (fun i => eu 2 i (by omega) (by omega) (by omega) (by omega)) ?_ rfl (fun _ => rfl)) (rdX_c h5 (fun i => eu 34 i (by omega) (by omega) (by omega) (by omega)) (fun _ => rfl)) (cCn_c h6 (eu 0 13 (by omega) (by omega) (by omega) (by omega)) (eu 0 14 (by omega) (by omega) (by omega) (by omega)) rfl rfl) (cVe_v h7 hn (by rw [hw2, up_k (by decide)]; exact w15) (fun k i a => eu k i (by omega) (by omega) (by omega) (by omega)) rfl) (cIg_c h8 (fun k i a b => eu k i (by omega) (by omega) (by omega) (by omega)) (fun _ _ _ => rfl)), MI_mk (mRu_c g1 (fun k i a b => eu k i (by omega) (by omega) (by omega) (by omega)) (eu 135 13 (by omega) (by omega) (by omega) (by omega)) (fun _ _ _ => rfl)) (mHo_N g2 h40 hf rfl (fun j hj => ?_) (fun i a b => ?_) (eu 135 9 (by omega) (by omega) (by omega) (by omega)) (eu 135 10 (by omega) (by omega) (by omega) (by omega))) (mYe_c g3 (fun i => eu 140 i (by omega) (by omega) (by omega) (by omega)) (eu 135 11 (by omega) (by omega) (by omega) (by omega)) (by rw [sN_x (by decide)]) (fun y _ => sN_x (by omega))) (mPa_c g4 (eu 135 1 (by omega) (by omega) (by omega) (by omega)) (fun i => eu 136 i (by omega) (by omega) (by omega) (by omega)) rfl (fun _ => rfl)) (mrX_c g5 (fun i => eu 153 i (by omega) (by omega) (by omega) (by omega)) (fun _ => rfl)) (mCn_c g6 (eu 135 32 (by omega) (by omega) (by omega) (by omega)) (eu 135 38 (by omega) (by omega) (by omega) (by omega)) rfl rfl) (mIm_c g7 (eu 135 43 (by omega) (by omega) (by omega) (by omega)) (eu 135 44 (by omega) (by omega) (by omega) (by omega)) (fun k i a b => eu k i (by omega) (by omega) (by omega) (by omega)) (fun y i a b => ⟨y, ?_⟩) (fun _ _ _ => rfl) (im8 h))⟩
    · rw [hw2, up_k (by decide), hw1, up_k (by decide), w_settle_ne _ _ _ (by decide)]
      exact f5 j hj
    · rw [hw2, up_k (by decide), up_k (by decide), hw1, up_k (by decide), up_k (by decide), ← f5 0 (by decide), ← f5 2 (by decide), ← f5 3 (by decide)]
      exact w_settle_lo _ j 10 hj (Nat.le_refl _)
    · rw [show w2 3 = w 3 from funext fun i => eu 3 i (by omega) (by omega) (by omega) (by omega)]
      exact h.ft
    · rw [hw2]
      unfold fup w_up
      by_cases z : j = what.toNat
      · rw [if_pos ⟨rfl, z⟩, if_pos z]
      · rw [if_neg (fun y => z y.2), if_neg z, o1 139 j (by omega)]
        have e : j = 0 ∨ j = 1 ∨ 2 ≤ j := by omega
        rcases e with e | e | e
        · rw [e, m0]
        · rw [e, m1]
        · rw [m2 j e hj]
    · rw [hw2, up_ne (by omega)]; exact o1 139 i (by omega)
    · rw [hw2, up_ne (by omega)]; exact o1 139 i (by omega)
  · rw [if_neg q] at hw1
    rw [if_neg (fun y => q ⟨fun z => y.1 (b3.2 z), y.2⟩)] at hw2
    rw [hw2, hw1]
    have hve : cVe S T w (n + 1) := ⟨h7.1, h7.2.1, h7.2.2.1, by have := h7.2.2.2; omega⟩
    exact ⟨S, T, CI_mk (by omega) h1 (cHo_c h2 (by omega) (fun _ _ _ _ => rfl) rfl rfl (fun _ _ => rfl) rfl) h3 h4 h5 h6 hve h8, g⟩
