/-! a year, a told rule -/
theorem pYr_v {t : Nat → Int} {len : Int} : ∀ (n m : Nat) {p : pP}, pI len p → ¬ (pYr t len n m p).2.1 = 0 → (∀ i, i < m → 0 ≤ p.2.2.1 i ∧ p.2.2.1 i ≤ 9) → ∀ i, i < m + n → 0 ≤ (pYr t len n m p).2.2.1 i ∧ (pYr t len n m p).2.2.1 i ≤ 9
  | 0, _, _, _, _, h => fun i hi => h i hi
  | n + 1, m, p, hI, hs, h => by
    intro i hi
    simp only [pYr] at hs ⊢
    by_cases q : p.2.1 = 0
    · rw [if_pos q] at hs; exact absurd q hs
    · rw [if_neg q] at hs ⊢
      have hv := pNumV_in (t := t) (least := 0) (most := 9) (by decide) (by decide) hI
      refine pYr_v n (m + 1) (pSet_I (pNum_I (by decide) hI)) hs (fun j hj => ?_) i (by omega)
      show 0 ≤ fup (pNum t len 0 9 p).2.2.1 m _ j ∧ fup (pNum t len 0 9 p).2.2.1 m _ j ≤ 9
      rw [pNum_f]
      unfold fup
      by_cases z : j = m
      · rw [if_pos z]; exact hv
      · rw [if_neg z]; exact h j (by omega)
theorem pRl_v {t : Nat → Int} {len : Int} : ∀ (n m : Nat) {p : pP}, pI len p → ¬ (pRl t len n m p).2.1 = 0 → (∀ i, i < m → 0 ≤ p.2.2.1 i ∧ p.2.2.1 i ≤ 99) → ∀ i, i < m + n → 0 ≤ (pRl t len n m p).2.2.1 i ∧ (pRl t len n m p).2.2.1 i ≤ 99
  | 0, _, _, _, _, h => fun i hi => h i hi
  | n + 1, m, p, hI, hs, h => by
    intro i hi
    simp only [pRl] at hs ⊢
    by_cases q : p.2.1 = 0
    · rw [if_pos q] at hs; exact absurd q hs
    · rw [if_neg q] at hs ⊢
      have hv := pNumV_in (t := t) (least := 0) (most := 99) (by decide) (by decide) (pRs_I (t := t) (m := m) hI)
      refine pRl_v n (m + 1) (pSet_I (pNum_I (by decide) (pRs_I hI))) hs (fun j hj => ?_) i (by omega)
      show 0 ≤ fup (pNum t len 0 99 (pRs t len m p)).2.2.1 m _ j ∧ fup (pNum t len 0 99 (pRs t len m p)).2.2.1 m _ j ≤ 99
      rw [pNum_f]
      have e : (pRs t len m p).2.2.1 = p.2.2.1 := by
        unfold pRs
        split
        · rw [pSign_f]
        · rfl
      rw [e]
      unfold fup
      by_cases z : j = m
      · rw [if_pos z]; exact hv
      · rw [if_neg z]; exact h j (by omega)
theorem pw_n {w : wW} {p : pP} {k i : Nat} (a : ¬ k = 3) (b : ¬ (k = 1 ∧ 3 ≤ i)) : pw w p k i = w k i := by
  unfold pw
  rw [if_neg a, if_neg (by omega), if_neg (by omega), if_neg (by omega)]
theorem CI_up {S T w : wW} {n : Int} (hn : n < 1000000) (h : CI S T w n) : CI S T w (n + 1) := by
  obtain ⟨h1, h2, h3, h4, h5, h6, h7, h8⟩ := CI_un h
  exact CI_mk (by omega) h1 (cHo_c h2 (by omega) (fun _ _ _ _ => rfl) rfl rfl (fun _ _ => rfl) rfl) h3 h4 h5 h6 ⟨h7.1, h7.2.1, h7.2.2.1, by have := h7.2.2.2; omega⟩ h8
def sYr (S : wW) (c : Nat) (row : Nat → Int) : wW := fun k i => if k = 4 ∧ i = 1 then S 4 1 + 1 else if k = 20 + c then row i else S k i
theorem sYr_x {S : wW} {c : Nat} {row : Nat → Int} {k i : Nat} (h : ¬ (k = 4 ∧ i = 1)) (h2 : ¬ k = 20 + c) : sYr S c row k i = S k i := by
  unfold sYr
  rw [if_neg h, if_neg h2]
theorem sYr_c (S : wW) (c : Nat) (row : Nat → Int) (m : Nat) : sYr S c row (20 + c) m = row m := by
  unfold sYr
  rw [if_neg (by omega), if_pos rfl]
theorem yR_add {S : wW} {c : Nat} {row : Nat → Int} (h : yR S) (hc : S 4 1 = c) (hc8 : c < 8) (hr : ∀ m, m < 12 → 0 ≤ row m ∧ row m ≤ 9) : yR (sYr S c row) := by
  have e : sYr S c row 4 1 = S 4 1 + 1 := rfl
  refine ⟨by rw [e]; omega, fun y m hy hm => ?_⟩
  rw [e] at hy
  by_cases q : y = c
  · rw [q, sYr_c]; exact hr m hm
  · rw [sYr_x (by omega) (by omega)]; exact h.2 y m (by omega) hm
theorem cYe_add {S w w' : wW} {c : Nat} {row : Nat → Int} (h : cYe S w) (hc : S 4 1 = c) (hc8 : c < 8) (hr : ∀ m, m < 12 → 0 ≤ row m ∧ row m ≤ 9) (h11 : w' 11 1 = S 4 1 + 1) (h13 : ∀ m, m < 12 → w' (13 + c) m = row m) (he : ∀ k i, 13 ≤ k → k ≤ 20 → k ≠ 13 + c → w' k i = w k i) : cYe (sYr S c row) w' := by
  refine ⟨yR_add h.1 hc hc8 hr, h11, fun y m hy hm => ?_⟩
  have e : sYr S c row 4 1 = S 4 1 + 1 := rfl
  rw [e] at hy
  by_cases q : y = c
  · rw [q, sYr_c]; exact h13 m hm
  · rw [sYr_x (by omega) (by omega), he _ _ (by omega) (by omega) (by omega)]; exact h.2.2 y m (by omega) hm
theorem mYe_add {S w w' : wW} {c : Nat} {row : Nat → Int} (h : mYe S w) (hc : S 4 1 = c) (hc8 : c < 8) (hr : ∀ m, m < 12 → 0 ≤ row m ∧ row m ≤ 9) (h11 : w' 135 11 = S 4 1 + 1) (h13 : ∀ m, m < 12 → w' 140 (12 * c + m) = row m) (he : ∀ i, i < 12 * c → w' 140 i = w 140 i) : mYe (sYr S c row) w' := by
  refine ⟨yR_add h.1 hc hc8 hr, h11, fun k hk => ?_⟩
  have e : sYr S c row 4 1 = S 4 1 + 1 := rfl
  unfold monthsF at hk
  rw [e] at hk
  by_cases q : k < 12 * c
  · rw [he k q, h.2.2 k (by unfold monthsF; omega)]
    unfold rainF
    rw [sYr_x (by omega) (by omega)]
  · unfold rainF
    rw [show k / 12 = c by omega, sYr_c, ← h13 (k % 12) (by omega), show 12 * c + k % 12 = k by omega]
theorem pE0 {len : Int} {p : pP} (h : ¬ ¬ pEnd len p = 0) : pEnd len p = 0 := Decidable.byContradiction h
theorem k_year {S T w : wW} {n : Int} (hn : n < 1000000) (h : CI S T w n) (g : MI S T w) : stp2 (p_X9_year [vr 0]) (q_X9_year [vr 0]) (p_X10_year [vr 135]) (q_X10_year [vr 135]) (n + 1) w := by
  have ht := tL_of h g
  obtain ⟨h1, h2, h3, h4, h5, h6, h7, h8⟩ := CI_un h
  obtain ⟨g1, g2, g3, g4, g5, g6, g7⟩ := MI_un g
  have hy := h3.1.1
  have y1 := h3.2.1
  have z1 := g3.2.1
  obtain ⟨r1, r2, r3⟩ := rd_year ht
  have hfT := pA_fT h 1
  have hpI : pI (w 1 2) (0, 1, (pq w).2.2) := ⟨⟨Int.le_refl _, ht.1.2⟩, Or.inr rfl⟩
  have eP : pAll (w 2) (w 1 2) 1 (pq w) = pYr (w 2) (w 1 2) 12 0 (0, 1, (pq w).2.2) := by unfold pAll; rw [if_neg (by decide), if_pos rfl]
  have hval : ¬ (pAll (w 2) (w 1 2) 1 (pq w)).2.1 = 0 → ∀ i, i < 12 → 0 ≤ (pAll (w 2) (w 1 2) 1 (pq w)).2.2.1 i ∧ (pAll (w 2) (w 1 2) 1 (pq w)).2.2.1 i ≤ 9 := by
    rw [eP]
    intro hs i hi
    exact pYr_v 12 0 hpI hs (fun j hj => absurd hj (Nat.not_lt_zero _)) i (by omega)
  refine ⟨⟨rfl, tI_of h, by rw [y1]; exact hy⟩, fun r w1 hq => ?_⟩
  obtain ⟨q1, q2, q3⟩ := hq
  rw [y1] at q2 q3
  -- a reading that fails or finds no room
  have bad : ∀ v, r = v → w1 = pw w (pAll (w 2) (w 1 2) 1 (pq w)) → ((∀ r' w2, q_X10_year [vr 135] w1 r' w2 → r' = v ∧ w2 = aW w1 (mrd w1 1).2)) → p_X10_year [vr 135] w1 ∧ ∀ r' w2, q_X10_year [vr 135] w1 r' w2 → r = r' ∧ ∃ S T, CI S T w2 (n + 1) ∧ MI S T w2 := by
    intro v hr hw1 hq'
    have c1 := CI_pw (by omega) h hfT
    have m1 := MI_o g (w' := pw w (pAll (w 2) (w 1 2) 1 (pq w))) (fun k i hk => pw_m w _ hk)
    rw [← hw1] at c1 m1
    refine ⟨⟨rfl, mtI_of m1, by rw [m1.mq.2.2.1.2.1]; exact hy⟩, fun r' w2 hh => ?_⟩
    obtain ⟨e1, e2⟩ := hq' r' w2 hh
    refine ⟨by rw [hr, e1], S, T, ?_⟩
    rw [e2]
    exact ⟨CI_up hn (CI_o c1 (fun k i hk => aW_x _ _ (by omega) (by omega) (by omega))), MI_aW c1 m1 _⟩
  have oP : ∀ k i, 135 ≤ k → pw w (pAll (w 2) (w 1 2) 1 (pq w)) k i = w k i := fun k i hk => pw_m w _ hk
  have emP := mrd_of oP 1
  by_cases hb : myB w
  · obtain ⟨hr, hw1⟩ := q1 (pE0 (fun z => r2.1 z hb))
    refine bad _ hr hw1 (fun r' w2 hh => ?_)
    have hb1 : myB w1 := by rw [hw1]; unfold myB; rw [emP, oP 135 1 (by decide)]; exact hb
    exact hh.1 hb1
  · have hne := r2.2 hb
    by_cases h8' : 8 ≤ S 4 1
    · obtain ⟨hr, hw1⟩ := q2 hne h8'
      refine bad _ hr hw1 (fun r' w2 hh => ?_)
      have hb1 : ¬ myB w1 := by rw [hw1]; unfold myB; rw [emP, oP 135 1 (by decide)]; exact hb
      exact hh.2.1 hb1 (by rw [hw1, oP 135 11 (by decide), z1]; exact h8')
    · obtain ⟨hr, hw1⟩ := q3 hne (by omega)
      obtain ⟨c, hc⟩ : ∃ c : Nat, S 4 1 = c := ⟨(S 4 1).toNat, by omega⟩
      unfold w_year at hw1
      rw [y1, hc, Int.toNat_natCast] at hw1
      have hv := hval (pEnd_ne.1 hne).1
      have hrow := r3 hb
      generalize pAll (w 2) (w 1 2) 1 (pq w) = P at *
      have e1 : ∀ k i, ¬ (k = 0 ∧ i = 15) → ¬ (k = 1 ∧ 2 ≤ i) → ¬ (k = 11 ∧ i = 1) → ¬ k = 3 → ¬ k = 13 + c → w1 k i = w k i := fun k i a1 a2 a3 a4 a5 => by
        rw [hw1, up_ne a1, up_ne (by omega), up_ne a3, w_cpy, if_neg (fun z => a5 z.1), pw_n a4 (by omega)]
      have o1 : ∀ k i, 135 ≤ k → w1 k i = w k i := fun k i hk => e1 k i (by omega) (by omega) (by omega) (by omega) (by omega)
      have em := mrd_of o1 1
      have x11 : w1 135 11 = c := by rw [o1 135 11 (by decide), z1, hc]
      have m1 := MI_o g o1
      have hb1 : ¬ myB w1 := by unfold myB; rw [em, o1 135 1 (by decide)]; exact hb
      refine ⟨⟨rfl, mtI_of m1, by rw [x11]; omega⟩, fun r' w2 hh => ?_⟩
      obtain ⟨hr', hw2⟩ := hh.2.2 hb1 (by omega)
      unfold myW at hw2
      rw [em, x11, Int.toNat_natCast] at hw2
      rw [x11] at hr'
      refine ⟨by rw [hr, hr', hc], ?_⟩
      generalize hM : (mrd w 1).2 = s at *
      have e2 : ∀ k i, k ≠ 137 → k ≠ 138 → k ≠ 140 → ¬ (k = 135 ∧ (i = 1 ∨ (4 ≤ i ∧ i ≤ 7) ∨ i = 11)) → w2 k i = w1 k i := fun k i a1 a2 a3 a4 => by
        rw [hw2, up_ne (by omega), up_ne (by omega), rwF_x a3, aW_x _ _ a1 a2 (by omega)]
      have eu : ∀ k i, ¬ (k = 0 ∧ i = 15) → ¬ (k = 1 ∧ 2 ≤ i) → ¬ (k = 11 ∧ i = 1) → ¬ k = 3 → ¬ k = 13 + c → k ≠ 137 → k ≠ 138 → k ≠ 140 → ¬ (k = 135 ∧ (i = 1 ∨ (4 ≤ i ∧ i ≤ 7) ∨ i = 11)) → w2 k i = w k i := fun k i a1 a2 a3 a4 a5 a6 a7 a8 a9 => by rw [e2 k i a6 a7 a8 a9, e1 k i a1 a2 a3 a4 a5]
      have tu : ∀ k i, ¬ (k = 4 ∧ i = 3) → w_up T 4 3 0 k i = T k i := fun k i a => up_ne a
      have hrr : ∀ m, m < 12 → 0 ≤ s.2.1 m ∧ s.2.1 m ≤ 9 := fun m hm => by rw [← hrow m hm]; exact hv m hm
      have sk : ∀ k, k < 4 → sYr S c s.2.1 k = S k := fun k hk => funext fun i => sYr_x (by omega) (by omega)
      have s40 : sYr S c s.2.1 4 0 = S 4 0 := sYr_x (by omega) (by omega)
      have ox : ∀ k i, k < 135 → w2 k i = w1 k i := fun k i hk => e2 k i (by omega) (by omega) (by omega) (by omega)
      refine ⟨sYr S c s.2.1, w_up T 4 3 0, CI_mk (by omega) (cRu_c h1 (fun k i a b => eu k i (by omega) (by omega) (by omega) (by omega) (by omega) (by omega) (by omega) (by omega) (by omega)) (eu 0 11 (by omega) (by omega) (by omega) (by omega) (by omega) (by omega) (by omega) (by omega) (by omega)) (fun k i a => tu k i (by omega))) (cHo_c h2 (by omega) (fun k i a b => eu k i (by omega) (by omega) (by omega) (by omega) (by omega) (by omega) (by omega) (by omega) (by omega)) (eu 0 12 (by omega) (by omega) (by omega) (by omega) (by omega) (by omega) (by omega) (by omega) (by omega)) (tu 4 4 (by omega)) sk s40) (cYe_add h3 hc (by omega) hrr ?_ (fun m hm => ?_) (fun k i a b d => eu k i (by omega) (by omega) (by omega) (by omega) (by omega) (by omega) (by omega) (by omega) (by omega))) (cPa_0 h4 ?_ (fun i => eu 2 i (by omega) (by omega) (by omega) (by omega) (by omega) (by omega) (by omega) (by omega) (by omega)) ?_ (up_eq _ _ _ _)) (rdX_c h5 (fun i => eu 34 i (by omega) (by omega) (by omega) (by omega) (by omega) (by omega) (by omega) (by omega) (by omega)) (fun i => tu 7 i (by omega))) (cCn_c h6 (eu 0 13 (by omega) (by omega) (by omega) (by omega) (by omega) (by omega) (by omega) (by omega) (by omega)) (eu 0 14 (by omega) (by omega) (by omega) (by omega) (by omega) (by omega) (by omega) (by omega) (by omega)) (tu 4 5 (by omega)) (tu 4 6 (by omega))) (cVe_v h7 hn ?_ (fun k i a => eu k i (by omega) (by omega) (by omega) (by omega) (by omega) (by omega) (by omega) (by omega) (by omega)) (tu 4 2 (by omega))) (cIg_c h8 (fun k i a b => eu k i (by omega) (by omega) (by omega) (by omega) (by omega) (by omega) (by omega) (by omega) (by omega)) (fun k i a => tu k i (by omega))), MI_mk (mRu_c g1 (fun k i a b => eu k i (by omega) (by omega) (by omega) (by omega) (by omega) (by omega) (by omega) (by omega) (by omega)) (eu 135 13 (by omega) (by omega) (by omega) (by omega) (by omega) (by omega) (by omega) (by omega) (by omega)) (fun k i a => tu k i (by omega))) (mHo_c g2 (fun i => eu 139 i (by omega) (by omega) (by omega) (by omega) (by omega) (by omega) (by omega) (by omega) (by omega)) (eu 135 9 (by omega) (by omega) (by omega) (by omega) (by omega) (by omega) (by omega) (by omega) (by omega)) (eu 135 10 (by omega) (by omega) (by omega) (by omega) (by omega) (by omega) (by omega) (by omega) (by omega)) (tu 4 4 (by omega)) sk s40) (mYe_add g3 hc (by omega) hrr ?_ (fun m hm => ?_) (fun i hi => ?_)) (mPa_0 g4 ?_ (fun i => eu 136 i (by omega) (by omega) (by omega) (by omega) (by omega) (by omega) (by omega) (by omega) (by omega)) (up_eq _ _ _ _)) (mrX_c g5 (fun i => eu 153 i (by omega) (by omega) (by omega) (by omega) (by omega) (by omega) (by omega) (by omega) (by omega)) (fun i => tu 7 i (by omega))) (mCn_c g6 (eu 135 32 (by omega) (by omega) (by omega) (by omega) (by omega) (by omega) (by omega) (by omega) (by omega)) (eu 135 38 (by omega) (by omega) (by omega) (by omega) (by omega) (by omega) (by omega) (by omega) (by omega)) (tu 4 5 (by omega)) (tu 4 6 (by omega))) (mIm_c g7 (eu 135 43 (by omega) (by omega) (by omega) (by omega) (by omega) (by omega) (by omega) (by omega) (by omega)) (eu 135 44 (by omega) (by omega) (by omega) (by omega) (by omega) (by omega) (by omega) (by omega) (by omega)) (fun k i a b => eu k i (by omega) (by omega) (by omega) (by omega) (by omega) (by omega) (by omega) (by omega) (by omega)) (fun q i _ _ => ⟨by rw [tu 4 7 (by omega), tu 4 4 (by omega)] at q; exact q, eu 139 i (by omega) (by omega) (by omega) (by omega) (by omega) (by omega) (by omega) (by omega) (by omega)⟩) (fun k i a => tu k i (by omega)) (im8 h))⟩
      · rw [ox 11 1 (by omega), hw1, up_ne (by omega), up_ne (by omega), up_eq, hc]
      · rw [ox _ m (by omega), hw1, up_ne (by omega), up_ne (by omega), up_ne (by omega), w_cpy, if_pos ⟨rfl, by omega, by omega⟩]
        show P.2.2.1 (0 + (m - 0)) = _
        rw [show 0 + (m - 0) = m by omega]
        exact hrow m hm
      · rw [ox 1 2 (by omega), hw1, up_ne (by omega), up_eq]
      · rw [show w2 3 = P.2.2.1 from funext fun i => by rw [ox 3 i (by omega), hw1, up_ne (by omega), up_ne (by omega), up_ne (by omega), w_cpy, if_neg (by omega)]; rfl]
        exact hfT
      · rw [ox 0 15 (by omega), hw1, up_eq]
      · rw [hw2, up_ne (by omega), up_eq, hc]
      · rw [hw2, up_ne (by omega), up_ne (by omega), rwF_a hm]
      · rw [hw2, up_ne (by omega), up_ne (by omega), rwF_y (by omega), aW_x _ _ (by omega) (by omega) (by omega)]
        exact o1 140 i (by omega)
      · rw [hw2, up_eq]
