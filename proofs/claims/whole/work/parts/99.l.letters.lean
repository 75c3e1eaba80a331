theorem w_app_x {w : wW} {z : Int} (h0 : 0 ≤ w 1 2) : ∀ n k i, w_app w z n k i = if k = 1 ∧ i = 2 then w 1 2 + n else if k = 2 ∧ (w 1 2).toNat ≤ i ∧ i < (w 1 2).toNat + n then byt z (i - (w 1 2).toNat) else w k i
  | 0, k, i => by
    simp only [w_app]
    by_cases q : k = 1 ∧ i = 2
    · rw [if_pos q, q.1, q.2]; omega
    · rw [if_neg q, if_neg (by omega)]
  | n + 1, k, i => by
    simp only [w_app]
    by_cases q1 : k = 1 ∧ i = 2
    · rw [q1.1, q1.2, up_eq, if_pos ⟨rfl, rfl⟩]; omega
    · rw [up_ne q1]
      by_cases q2 : k = 2 ∧ i = (w 1 2 + n).toNat
      · rw [q2.1, q2.2, up_eq, if_neg (by omega), if_pos ⟨rfl, by omega, by omega⟩, show (w 1 2 + (n : Int)).toNat - (w 1 2).toNat = n by omega]
      · rw [up_ne q2, w_app_x h0 n k i, if_neg q1, if_neg q1]
        by_cases q3 : k = 2 ∧ (w 1 2).toNat ≤ i ∧ i < (w 1 2).toNat + n
        · rw [if_pos q3, if_pos ⟨q3.1, q3.2.1, by omega⟩]
        · rw [if_neg q3, if_neg (by omega)]
theorem w_appM_x {w : wW} {z : Int} (h0 : 0 ≤ w 135 1) : ∀ n k i, w_appM w z n k i = if k = 135 ∧ i = 1 then w 135 1 + n else if k = 136 ∧ (w 135 1).toNat ≤ i ∧ i < (w 135 1).toNat + n then byt z (i - (w 135 1).toNat) else w k i
  | 0, k, i => by
    simp only [w_appM]
    by_cases q : k = 135 ∧ i = 1
    · rw [if_pos q, q.1, q.2]; omega
    · rw [if_neg q, if_neg (by omega)]
  | n + 1, k, i => by
    simp only [w_appM]
    by_cases q1 : k = 135 ∧ i = 1
    · rw [q1.1, q1.2, up_eq, if_pos ⟨rfl, rfl⟩]; omega
    · rw [up_ne q1]
      by_cases q2 : k = 136 ∧ i = (w 135 1 + n).toNat
      · rw [q2.1, q2.2, up_eq, if_neg (by omega), if_pos ⟨rfl, by omega, by omega⟩, show (w 135 1 + (n : Int)).toNat - (w 135 1).toNat = n by omega]
      · rw [up_ne q2, w_appM_x h0 n k i, if_neg q1, if_neg q1]
        by_cases q3 : k = 136 ∧ (w 135 1).toNat ≤ i ∧ i < (w 135 1).toNat + n
        · rw [if_pos q3, if_pos ⟨q3.1, q3.2.1, by omega⟩]
        · rw [if_neg q3, if_neg (by omega)]
theorem ltr_ok {z : Int} (h : (ltr z 8).2 = true) {j : Nat} (hj : j < 8) : 0 ≤ byt z j ∧ byt z j ≤ 126 := by
  have h1 : (ltr z (j + 1)).2 = true := by
    cases e : (ltr z (j + 1)).2 with
    | true => rfl
    | false =>
      have := ltr_bad z (j + 1) e (7 - j)
      rw [show j + 1 + (7 - j) = 8 by omega, h] at this
      exact absurd this (by decide)
  simp only [ltr, Bool.and_eq_true, decide_eq_true_eq] at h1
  exact ⟨(byt_in z j).1, h1.1.2⟩
def tLt (T : wW) (c k : Nat) (z : Int) : wW := fun k' i => if k' = 4 ∧ i = 3 then T 4 3 + k else if k' = 8 ∧ c ≤ i ∧ i < c + k then byt z (i - c) else T k' i
theorem tLt_x {T : wW} {c k : Nat} {z : Int} {k' i : Nat} (h : ¬ (k' = 4 ∧ i = 3)) (h8 : ¬ k' = 8) : tLt T c k z k' i = T k' i := by
  unfold tLt
  rw [if_neg h, if_neg (fun q => h8 q.1)]
theorem k_letters {S T w : wW} {n z : Int} (hn : n ≤ 1000000) (h : CI S T w n) (g : MI S T w) : stp2 (p_X9_letters [vr 0, vl z]) (q_X9_letters [vr 0, vl z]) (p_X10_letters [vr 135, vl z]) (q_X10_letters [vr 135, vl z]) n w := by
  obtain ⟨h1, h2, h3, h4, h5, h6, h7, h8⟩ := CI_un h
  obtain ⟨g1, g2, g3, g4, g5, g6, g7⟩ := MI_un g
  obtain ⟨⟨a1, a2, a3, a4⟩, -⟩ := id h4
  obtain ⟨-, b2, b3, b4⟩ := id g4
  have hin := ltr_in z 8
  have x0 : 0 ≤ w 1 2 := by omega
  refine ⟨⟨rfl, by omega, by omega⟩, fun r w1 hq => ?_⟩
  obtain ⟨hr, hw1⟩ := hq
  rw [a2] at hr
  have o1 : ∀ k i, 135 ≤ k → w1 k i = w k i := by
    intro k i hk
    rw [hw1]
    split
    · rw [w_app_x x0, if_neg (by omega), if_neg (by omega)]
    · rfl
  have c2 : w1 135 1 = T 4 3 := by rw [o1 135 1 (by omega)]; exact b2
  refine ⟨⟨rfl, by omega, by omega⟩, fun r' w2 hq' => ?_⟩
  obtain ⟨hr', hw2⟩ := hq'
  rw [c2] at hr'
  have hrr : r = r' := by rw [hr, hr']
  refine ⟨hrr, ?_⟩
  rw [← hrr] at hw2
  by_cases q : 0 ≤ r
  · rw [if_pos q] at hw1 hw2
    have hok : (ltr z 8).2 = true ∧ T 4 3 + (ltr z 8).1 ≤ 60 := by
      rw [hr] at q
      unfold o_letters at q
      by_cases z1 : (ltr z 8).2 = true
      · rw [if_pos z1] at q
        refine ⟨z1, ?_⟩
        by_cases z2 : 60 < T 4 3 + (ltr z 8).1
        · rw [if_pos z2] at q; omega
        · omega
      · rw [if_neg z1] at q; omega
    obtain ⟨c, hc⟩ : ∃ c : Nat, T 4 3 = c := ⟨(T 4 3).toNat, by omega⟩
    obtain ⟨k, hk⟩ : ∃ k : Nat, (ltr z 8).1 = k := ⟨(ltr z 8).1.toNat, by omega⟩
    rw [hk, Int.toNat_natCast] at hw1 hw2
    have e1 : ∀ k' i, w1 k' i = if k' = 1 ∧ i = 2 then T 4 3 + k else if k' = 2 ∧ c ≤ i ∧ i < c + k then byt z (i - c) else w k' i := fun k' i => by
      rw [hw1, w_app_x x0, a2, hc, Int.toNat_natCast]
    have e2 : ∀ k' i, w2 k' i = if k' = 135 ∧ i = 1 then T 4 3 + k else if k' = 136 ∧ c ≤ i ∧ i < c + k then byt z (i - c) else w1 k' i := fun k' i => by
      rw [hw2, w_appM_x (by omega), c2, hc, Int.toNat_natCast]
    have eu : ∀ k' i, ¬ (k' = 1 ∧ i = 2) → ¬ k' = 2 → ¬ (k' = 135 ∧ i = 1) → ¬ k' = 136 → w2 k' i = w k' i := fun k' i z1 z2 z3 z4 => by
      rw [e2, if_neg z3, if_neg (fun y => z4 y.1), e1, if_neg z1, if_neg (fun y => z2 y.1)]
    have tu : ∀ k' i, ¬ (k' = 4 ∧ i = 3) → ¬ k' = 8 → tLt T c k z k' i = T k' i := fun k' i z1 z2 => tLt_x z1 z2
    have t43 : tLt T c k z 4 3 = T 4 3 + k := rfl
    have t8 : ∀ i, tLt T c k z 8 i = if c ≤ i ∧ i < c + k then byt z (i - c) else T 8 i := fun i => by
      unfold tLt
      rw [if_neg (by omega)]
      by_cases y : c ≤ i ∧ i < c + k
      · rw [if_pos ⟨rfl, y⟩, if_pos y]
      · rw [if_neg (fun y' => y y'.2), if_neg y]
    have f2 : ∀ i, w2 2 i = w1 2 i := fun i => by rw [e2, if_neg (by omega), if_neg (by omega)]
    refine ⟨S, tLt T c k z, CI_mk hn (cRu_c h1 (fun k i a b => eu k i (by omega) (by omega) (by omega) (by omega)) (eu 0 11 (by omega) (by omega) (by omega) (by omega)) (fun k i a => tu k i (by omega) (by omega))) (cHo_c h2 (Int.le_refl _) (fun k i a b => eu k i (by omega) (by omega) (by omega) (by omega)) (eu 0 12 (by omega) (by omega) (by omega) (by omega)) (tu 4 4 (by omega) (by omega)) (fun _ _ => rfl) rfl) (cYe_c h3 (fun k i a b => eu k i (by omega) (by omega) (by omega) (by omega)) rfl (fun _ _ => rfl)) ⟨⟨?_, ?_, ?_, ?_⟩, ?_⟩ (rdX_c h5 (fun i => eu 34 i (by omega) (by omega) (by omega) (by omega)) (fun i => tu 7 i (by omega) (by omega))) (cCn_c h6 (eu 0 13 (by omega) (by omega) (by omega) (by omega)) (eu 0 14 (by omega) (by omega) (by omega) (by omega)) (tu 4 5 (by omega) (by omega)) (tu 4 6 (by omega) (by omega))) (cVe_c h7 (Int.le_refl _) (fun k i a => eu k i (by omega) (by omega) (by omega) (by omega)) (fun k i a => tu k i (by omega) (by omega))) (cIg_c h8 (fun k i a b => eu k i (by omega) (by omega) (by omega) (by omega)) (fun k i a => tu k i (by omega) (by omega))), MI_mk (mRu_c g1 (fun k i a b => eu k i (by omega) (by omega) (by omega) (by omega)) (eu 135 13 (by omega) (by omega) (by omega) (by omega)) (fun k i a => tu k i (by omega) (by omega))) (mHo_c g2 (fun i => eu 139 i (by omega) (by omega) (by omega) (by omega)) (eu 135 9 (by omega) (by omega) (by omega) (by omega)) (eu 135 10 (by omega) (by omega) (by omega) (by omega)) (tu 4 4 (by omega) (by omega)) (fun _ _ => rfl) rfl) (mYe_c g3 (fun i => eu 140 i (by omega) (by omega) (by omega) (by omega)) (eu 135 11 (by omega) (by omega) (by omega) (by omega)) rfl (fun _ _ => rfl)) ⟨?_, ?_, ?_, ?_⟩ (mrX_c g5 (fun i => eu 153 i (by omega) (by omega) (by omega) (by omega)) (fun i => tu 7 i (by omega) (by omega))) (mCn_c g6 (eu 135 32 (by omega) (by omega) (by omega) (by omega)) (eu 135 38 (by omega) (by omega) (by omega) (by omega)) (tu 4 5 (by omega) (by omega)) (tu 4 6 (by omega) (by omega))) (mIm_c g7 (eu 135 43 (by omega) (by omega) (by omega) (by omega)) (eu 135 44 (by omega) (by omega) (by omega) (by omega)) (fun k i a b => eu k i (by omega) (by omega) (by omega) (by omega)) (fun q i _ _ => ⟨by rw [tu 4 7 (by omega) (by omega), tu 4 4 (by omega) (by omega)] at q; exact q, eu 139 i (by omega) (by omega) (by omega) (by omega)⟩) (fun k i a => tu k i (by omega) (by omega)) (im8 h))⟩
    · rw [t43]; omega
    · rw [t43, e2, if_neg (by omega), if_neg (by omega), e1, if_pos ⟨rfl, rfl⟩]
    · intro i hi
      rw [f2, e1, if_neg (by omega)]
      split
      · rename_i y; exact ltr_ok hok.1 (by omega)
      · exact a3 i hi
    · intro i hi
      rw [t43] at hi
      rw [f2, e1, if_neg (by omega)]
      rw [t8]
      by_cases y : c ≤ i ∧ i < c + k
      · rw [if_pos ⟨rfl, y⟩, if_pos y]
      · rw [if_neg (fun y' => y y'.2), if_neg y]; exact a4 i (by omega)
    · rw [show w2 3 = w 3 from funext fun i => eu 3 i (by omega) (by omega) (by omega) (by omega)]
      exact h.ft
    · rw [t43]; omega
    · rw [t43, e2, if_pos ⟨rfl, rfl⟩]
    · intro i hi
      rw [e2, if_neg (by omega)]
      split
      · rename_i y; exact ltr_ok hok.1 (by omega)
      · rw [o1 136 i (by omega)]; exact b3 i hi
    · intro i hi
      rw [t43] at hi
      rw [e2, if_neg (by omega)]
      rw [t8]
      by_cases y : c ≤ i ∧ i < c + k
      · rw [if_pos ⟨rfl, y⟩, if_pos y]
      · rw [if_neg (fun y' => y y'.2), if_neg y, o1 136 i (by omega)]; exact b4 i (by omega)
  · rw [if_neg q] at hw1 hw2
    rw [hw2, hw1]
    exact ⟨S, T, h, g⟩
