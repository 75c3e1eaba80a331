/-! the calls that change the state -/
def tAd (T : wW) (c : Nat) (k n : Int) (row : Nat → Int) : wW := fun k' i => if k' = 4 ∧ i = 2 then T 4 2 + 1 else if k' = 5 ∧ i = c then k else if k' = 6 ∧ i = c then n else if k' = 40 + c then row i else T k' i
theorem tAd_x {T : wW} {c : Nat} {k n : Int} {row : Nat → Int} {k' i : Nat} (h : ¬ (k' = 4 ∧ i = 2)) (h1 : ¬ (k' = 5 ∧ i = c)) (h2 : ¬ (k' = 6 ∧ i = c)) (h3 : ¬ k' = 40 + c) : tAd T c k n row k' i = T k' i := by
  unfold tAd
  rw [if_neg h, if_neg h1, if_neg h2, if_neg h3]
theorem tAd_42 (T : wW) (c : Nat) (k n : Int) (row : Nat → Int) : tAd T c k n row 4 2 = T 4 2 + 1 := rfl
theorem tAd_5 (T : wW) (c : Nat) (k n : Int) (row : Nat → Int) : tAd T c k n row 5 c = k := by
  unfold tAd
  rw [if_neg (by omega), if_pos ⟨rfl, rfl⟩]
theorem tAd_6 (T : wW) (c : Nat) (k n : Int) (row : Nat → Int) : tAd T c k n row 6 c = n := by
  unfold tAd
  rw [if_neg (by omega), if_neg (by omega), if_pos ⟨rfl, rfl⟩]
theorem tAd_40 (T : wW) (c : Nat) (k n : Int) (row : Nat → Int) (m : Nat) : tAd T c k n row (40 + c) m = row m := by
  unfold tAd
  rw [if_neg (by omega), if_neg (by omega), if_neg (by omega), if_pos rfl]
theorem cRu_add {T w w' : wW} {c : Nat} {k n : Int} {row : Nat → Int} (h : cRu T w) (hc : T 4 2 = c) (hc8 : c < 8) (hk : 0 ≤ k ∧ k ≤ 5) (hn : 0 ≤ n ∧ n ≤ 200) (h11 : w' 0 11 = T 4 2 + 1) (h1 : w' (36 + c) 1 = k) (h2 : w' (36 + c) 2 = n) (hr : ∀ m, m < 12 → w' (46 + c) m = row m ∧ 0 ≤ row m ∧ row m ≤ 99) (he : ∀ k' i, 36 ≤ k' → k' ≤ 55 → k' ≠ 36 + c → k' ≠ 46 + c → w' k' i = w k' i) : cRu (tAd T c k n row) w' := by
  obtain ⟨a1, a2, a3, a4, a5⟩ := h
  have hR : ∀ r, r < 8 → r ≠ c → rR w' (36 + r) := fun r hr' hne => rR_q (a2 r hr') (he _ _ (by omega) (by omega) (by omega) (by omega)) (he _ _ (by omega) (by omega) (by omega) (by omega)) (fun m => he _ _ (by omega) (by omega) (by omega) (by omega))
  have hRc : rR w' (36 + c) := ⟨by omega, by rw [h1]; exact hk, by rw [h2]; exact hn, fun m hm => by
    have := hr m hm
    rw [show 36 + c + 10 = 46 + c by omega, this.1]
    exact this.2⟩
  refine ⟨⟨by rw [tAd_42]; omega, by rw [tAd_42]; exact h11⟩, fun r hr' => ?_, fun r hr' => ?_, ?_, fun m hm => by rw [he 55 m (by decide) (by decide) (by omega) (by omega)]; exact a5 m hm⟩
  · by_cases q : r = c
    · rw [q]; exact hRc
    · exact hR r hr' q
  · rw [tAd_42] at hr'
    by_cases q : r = c
    · subst q
      exact ⟨by rw [tAd_5]; exact h1, by rw [tAd_6]; exact h2, fun m hm => by rw [tAd_40]; exact (hr m hm).1⟩
    · obtain ⟨c1, c2, c3⟩ := a3 r (by omega)
      refine ⟨?_, ?_, fun m hm => ?_⟩
      · rw [he _ _ (by omega) (by omega) (by omega) (by omega), tAd_x (by omega) (by omega) (by omega) (by omega)]; exact c1
      · rw [he _ _ (by omega) (by omega) (by omega) (by omega), tAd_x (by omega) (by omega) (by omega) (by omega)]; exact c2
      · rw [he _ _ (by omega) (by omega) (by omega) (by omega), tAd_x (by omega) (by omega) (by omega) (by omega)]; exact c3 m hm
  · obtain ⟨p1, p2, p3⟩ := a4
    exact ⟨rR_q p1 (he _ _ (by omega) (by omega) (by omega) (by omega)) (he _ _ (by omega) (by omega) (by omega) (by omega)) (fun m => he _ _ (by omega) (by omega) (by omega) (by omega)), by rw [he _ _ (by omega) (by omega) (by omega) (by omega)]; exact p2, by rw [he _ _ (by omega) (by omega) (by omega) (by omega)]; exact p3⟩
theorem cVe_add {S T w w' : wW} {c : Nat} {k n : Int} {row : Nat → Int} {z : Int} (h : cVe S T w z) (hc : T 4 2 = c) (he : ∀ k i, (k = 0 ∧ i = 15) ∨ (36 ≤ k ∧ k < 44 ∧ 3 ≤ i) ∨ (56 ≤ k ∧ k ≤ 87) → w' k i = w k i) : cVe S (tAd T c k n row) w' z := by
  obtain ⟨h1, h2, h3⟩ := h
  have h15 := he 0 15 (by omega)
  refine ⟨wiI_of h1 (fun k i hk => he k i (by omega)), fun r hr => ?_, by rw [h15]; omega⟩
  have cc := h2 r hr
  rw [tAd_42]
  refine ⟨fun q => ?_, fun q => by rw [he _ 3 (by omega), he _ 4 (by omega)]; exact cc.2 (by omega)⟩
  by_cases q2 : r = c
  · obtain ⟨c1, c2⟩ := cc.2 (by omega)
    exact ⟨by rw [he _ 3 (by omega), h15]; omega, by rw [he _ 4 (by omega), h15]; omega, fun z => by rw [he _ 3 (by omega), h15] at z; omega, fun z => by rw [he _ 4 (by omega), h15] at z; omega⟩
  · have hs := rS_T S (T := T) (T' := tAd T c k n row) (r := r) (tAd_x (by omega) (by omega) (by omega) (by omega)) (tAd_x (by omega) (by omega) (by omega) (by omega)) (fun m => tAd_x (by omega) (by omega) (by omega) (by omega))
    have c' := cc.1 (by omega)
    unfold cvR surN meaN at c' ⊢
    rw [hs, he (36 + r) 3 (by omega), he (36 + r) 4 (by omega), he (36 + r) 5 (by omega), he (36 + r) 6 (by omega), h15]
    exact c'
theorem mRu_add {T w w' : wW} {c : Nat} {k n : Int} {row : Nat → Int} (h : mRu T w) (hc : T 4 2 = c) (hc8 : c < 8) (hk : 0 ≤ k ∧ k ≤ 5) (hn : 0 ≤ n ∧ n ≤ 200) (hrow : ∀ m, m < 12 → 0 ≤ row m ∧ row m ≤ 99) (h13 : w' 135 13 = T 4 2 + 1) (h1 : w' 141 c = k) (h2 : w' 142 c = n) (hm5 : k = 5 → ∀ m, m < 12 → w' 143 (12 * c + m) = row m) (hmm : ∀ m, m < 12 → 0 ≤ w' 143 (12 * c + m) ∧ w' 143 (12 * c + m) ≤ 99) (he : ∀ r, r ≠ c → w' 141 r = w 141 r ∧ w' 142 r = w 142 r ∧ ∀ m, m < 12 → w' 143 (12 * r + m) = w 143 (12 * r + m)) : mRu (tAd T c k n row) w' := by
  obtain ⟨a1, a2, a3⟩ := h
  refine ⟨⟨by rw [tAd_42]; omega, by rw [tAd_42]; exact h13⟩, fun r hr => ?_, fun r hr => ?_⟩
  · by_cases q : r = c
    · subst q
      exact ⟨hr, by rw [h1]; exact hk, by rw [h2]; exact hn, hmm⟩
    · obtain ⟨e1, e2, e3⟩ := he r q
      obtain ⟨b0, b1, b2, b3⟩ := a2 r hr
      exact ⟨b0, by rw [e1]; exact b1, by rw [e2]; exact b2, fun m hm => by rw [e3 m hm]; exact b3 m hm⟩
  · rw [tAd_42] at hr
    by_cases q : r = c
    · subst q
      refine ⟨⟨by rw [tAd_5]; exact hk, by rw [tAd_6]; exact hn, fun m hm => by rw [tAd_40]; exact hrow m hm⟩, by rw [tAd_5]; exact h1, by rw [tAd_6]; exact h2, fun z m hm => ?_⟩
      rw [tAd_5] at z
      rw [tAd_40]
      exact hm5 z m hm
    · obtain ⟨e1, e2, e3⟩ := he r q
      obtain ⟨⟨b1, b2, b3⟩, b, c', d⟩ := a3 r (by omega)
      have t5 : tAd T c k n row 5 r = T 5 r := tAd_x (by omega) (by omega) (by omega) (by omega)
      have t6 : tAd T c k n row 6 r = T 6 r := tAd_x (by omega) (by omega) (by omega) (by omega)
      have t40 : ∀ m, tAd T c k n row (40 + r) m = T (40 + r) m := fun m => tAd_x (by omega) (by omega) (by omega) (by omega)
      refine ⟨⟨by rw [t5]; exact b1, by rw [t6]; exact b2, fun m hm => by rw [t40]; exact b3 m hm⟩, by rw [t5, e1]; exact b, by rw [t6, e2]; exact c', fun z m hm => ?_⟩
      rw [t5] at z
      rw [t40, e3 m hm]
      exact d z m hm
theorem o_rule_in {k n c : Int} (hc : 0 ≤ c) : (0 ≤ o_rule k n c → (0 ≤ k ∧ k ≤ 4) ∧ (0 ≤ n ∧ n ≤ 200) ∧ c < 8 ∧ o_rule k n c = c) := by
  unfold o_rule
  (repeat' split) <;> omega
theorem k_rule {S T w : wW} {n k x : Int} (hn : n ≤ 1000000) (h : CI S T w n) (g : MI S T w) (hk : inI k) (hx : inI x) : stp2 (p_X9_rule [vr 0, vi k, vi x]) (q_X9_rule [vr 0, vi k, vi x]) (p_X10_rule [vr 135, vi k, vi x]) (q_X10_rule [vr 135, vi k, vi x]) n w := by
  obtain ⟨h1, h2, h3, h4, h5, h6, h7, h8⟩ := CI_un h
  obtain ⟨g1, g2, g3, g4, g5, g6, g7⟩ := MI_un g
  obtain ⟨a1, a2⟩ := h1.1
  obtain ⟨-, b2⟩ := g1.1
  refine ⟨⟨rfl, hk, hx, by rw [a2]; exact a1⟩, fun r w1 hq => ?_⟩
  obtain ⟨hr, hw1⟩ := hq
  rw [a2] at hr hw1
  have o13 : w1 135 13 = T 4 2 := by
    rw [hw1, ← b2]
    split
    · rw [up_k (by omega), up_k (by omega), up_k (by omega)]
    · rfl
  refine ⟨⟨rfl, hk, hx, by rw [o13]; exact a1⟩, fun r' w2 hq' => ?_⟩
  obtain ⟨hr', hw2⟩ := hq'
  rw [o13] at hr' hw2
  refine ⟨by rw [hr, hr'], ?_⟩
  rw [hr'] at hw2
  rw [hr] at hw1
  by_cases q : 0 ≤ o_rule k x (T 4 2)
  · obtain ⟨q1, q2, q3, -⟩ := o_rule_in a1.1 q
    obtain ⟨c, hc⟩ : ∃ c : Nat, T 4 2 = c := ⟨(T 4 2).toNat, by omega⟩
    rw [if_pos q] at hw1 hw2
    rw [hc, Int.toNat_natCast] at hw1 hw2
    have eu : ∀ k' i, ¬ (k' = 0 ∧ i = 11) → ¬ (k' = 36 + c ∧ (i = 1 ∨ i = 2)) → ¬ (k' = 141 ∧ i = c) → ¬ (k' = 142 ∧ i = c) → ¬ (k' = 135 ∧ i = 13) → w2 k' i = w k' i := fun k' i z1 z2 z3 z4 z5 => by rw [hw2, hw1, up_ne (by omega), up_ne (by omega), up_ne (by omega), up_ne (by omega), up_ne (by omega), up_ne (by omega)]
    have tu : ∀ k' i, ¬ (k' = 4 ∧ i = 2) → ¬ k' = 5 → ¬ k' = 6 → ¬ (40 ≤ k') → tAd T c k x (w (46 + c)) k' i = T k' i := fun k' i z1 z2 z3 z4 => tAd_x (by omega) (by omega) (by omega) (by omega)
    have hsp := h1.2.1 c (by omega)
    have hrow : ∀ m, m < 12 → 0 ≤ w (46 + c) m ∧ w (46 + c) m ≤ 99 := fun m hm => by
      have := hsp.2.2.2 m hm
      rw [show 36 + c + 10 = 46 + c by omega] at this
      exact this
    refine ⟨S, tAd T c k x (w (46 + c)), CI_mk hn ?_ (cHo_c h2 (Int.le_refl _) (fun k i a b => eu k i (by omega) (by omega) (by omega) (by omega) (by omega)) (eu 0 12 (by omega) (by omega) (by omega) (by omega) (by omega)) (tu 4 4 (by omega) (by omega) (by omega) (by omega)) (fun _ _ => rfl) rfl) (cYe_c h3 (fun k i a b => eu k i (by omega) (by omega) (by omega) (by omega) (by omega)) rfl (fun _ _ => rfl)) (cPa_c h4 (eu 1 2 (by omega) (by omega) (by omega) (by omega) (by omega)) (fun i => eu 2 i (by omega) (by omega) (by omega) (by omega) (by omega)) ?_ (tu 4 3 (by omega) (by omega) (by omega) (by omega)) (fun i => tu 8 i (by omega) (by omega) (by omega) (by omega))) (rdX_c h5 (fun i => eu 34 i (by omega) (by omega) (by omega) (by omega) (by omega)) (fun i => tu 7 i (by omega) (by omega) (by omega) (by omega))) (cCn_c h6 (eu 0 13 (by omega) (by omega) (by omega) (by omega) (by omega)) (eu 0 14 (by omega) (by omega) (by omega) (by omega) (by omega)) (tu 4 5 (by omega) (by omega) (by omega) (by omega)) (tu 4 6 (by omega) (by omega) (by omega) (by omega))) (cVe_add h7 hc (fun k i a => eu k i (by omega) (by omega) (by omega) (by omega) (by omega))) (cIg_c h8 (fun k i a b => eu k i (by omega) (by omega) (by omega) (by omega) (by omega)) (fun k i a => tu k i (by omega) (by omega) (by omega) (by omega))), MI_mk ?_ (mHo_c g2 (fun i => eu 139 i (by omega) (by omega) (by omega) (by omega) (by omega)) (eu 135 9 (by omega) (by omega) (by omega) (by omega) (by omega)) (eu 135 10 (by omega) (by omega) (by omega) (by omega) (by omega)) (tu 4 4 (by omega) (by omega) (by omega) (by omega)) (fun _ _ => rfl) rfl) (mYe_c g3 (fun i => eu 140 i (by omega) (by omega) (by omega) (by omega) (by omega)) (eu 135 11 (by omega) (by omega) (by omega) (by omega) (by omega)) rfl (fun _ _ => rfl)) (mPa_c g4 (eu 135 1 (by omega) (by omega) (by omega) (by omega) (by omega)) (fun i => eu 136 i (by omega) (by omega) (by omega) (by omega) (by omega)) (tu 4 3 (by omega) (by omega) (by omega) (by omega)) (fun i => tu 8 i (by omega) (by omega) (by omega) (by omega))) (mrX_c g5 (fun i => eu 153 i (by omega) (by omega) (by omega) (by omega) (by omega)) (fun i => tu 7 i (by omega) (by omega) (by omega) (by omega))) (mCn_c g6 (eu 135 32 (by omega) (by omega) (by omega) (by omega) (by omega)) (eu 135 38 (by omega) (by omega) (by omega) (by omega) (by omega)) (tu 4 5 (by omega) (by omega) (by omega) (by omega)) (tu 4 6 (by omega) (by omega) (by omega) (by omega))) (mIm_c g7 (eu 135 43 (by omega) (by omega) (by omega) (by omega) (by omega)) (eu 135 44 (by omega) (by omega) (by omega) (by omega) (by omega)) (fun k i a b => eu k i (by omega) (by omega) (by omega) (by omega) (by omega)) (fun q i _ _ => ⟨by rw [tu 4 7 (by omega) (by omega) (by omega) (by omega), tu 4 4 (by omega) (by omega) (by omega) (by omega)] at q; exact q, eu 139 i (by omega) (by omega) (by omega) (by omega) (by omega)⟩) (fun k i a => tu k i (by omega) (by omega) (by omega) (by omega)) (im8 h))⟩
    · refine cRu_add h1 hc (by omega) (by omega) q2 (by rw [hw2, hw1, up_ne (by omega), up_ne (by omega), up_ne (by omega), up_eq, hc]) (by rw [hw2, hw1, up_ne (by omega), up_ne (by omega), up_ne (by omega), up_ne (by omega), up_ne (by omega), up_eq]) (by rw [hw2, hw1, up_ne (by omega), up_ne (by omega), up_ne (by omega), up_ne (by omega), up_eq]) (fun m hm => ⟨eu _ m (by omega) (by omega) (by omega) (by omega) (by omega), hrow m hm⟩) (fun k' i z1 z2 z3 z4 => eu k' i (by omega) (by omega) (by omega) (by omega) (by omega))
    · rw [show w2 3 = w 3 from funext fun i => eu 3 i (by omega) (by omega) (by omega) (by omega) (by omega)]
      exact h.ft
    · have hmr := (g1.2.1 c (by omega)).2.2.2
      refine mRu_add g1 hc (by omega) (by omega) q2 hrow (by rw [hw2, up_eq, hc]) (by rw [hw2, up_ne (by omega), up_ne (by omega), up_eq]) (by rw [hw2, up_ne (by omega), up_eq]) (fun z => by omega) (fun m hm => by rw [eu 143 _ (by omega) (by omega) (by omega) (by omega) (by omega)]; exact hmr m hm) (fun r hr => ⟨eu 141 r (by omega) (by omega) (by omega) (by omega) (by omega), eu 142 r (by omega) (by omega) (by omega) (by omega) (by omega), fun m hm => eu 143 _ (by omega) (by omega) (by omega) (by omega) (by omega)⟩)
  · rw [if_neg q] at hw1 hw2
    rw [hw2, hw1]
    exact ⟨S, T, h, g⟩
