/-! the calls that ask: both sides answer alike and the state stays -/
def stp2 (P : wW → Prop) (Q : wW → Int → wW → Prop) (P' : wW → Prop) (Q' : wW → Int → wW → Prop) (n : Int) (w : wW) : Prop :=
  P w ∧ ∀ r w1, Q w r w1 → P' w1 ∧ ∀ r' w2, Q' w1 r' w2 → r = r' ∧ ∃ S T, CI S T w2 n ∧ MI S T w2
theorem CI_T {S T w w1 : wW} {n : Int} (h : CI S T w n) (he : evT S w w1) : CI S T w1 n ∧ ∀ k i, 135 ≤ k → w1 k i = w k i := by
  refine ⟨CI_q h (tK_r T) (fun k i hk => he.1 k i (Or.inl hk.1)) he.2 (fun r hr => ?_) ⟨h.rq2.2.2.2.2.1.1, by rw [he.1 0 13 (by decide)]; exact h.rq2.2.2.2.2.1.2⟩ ⟨h.rq2.2.2.2.2.2.1, by rw [he.1 0 14 (by decide)]; exact h.rq2.2.2.2.2.2.2⟩, fun k i hk => he.1 k i (by omega)⟩
  have hx : ∀ i, w1 (36 + r) i = w (36 + r) i := fun i => he.1 _ i (by omega)
  unfold cvR
  rw [hx, hx, hx, hx, he.1 0 15 (by decide)]
  exact h.cv r hr
theorem qY {S T w w1 : wW} {n : Int} (h : CI S T w n) (g : MI S T w) (he : evY w w1) : CI S T w1 n ∧ MI S T w1 :=
  ⟨CI_o h (fun k i hk => he k i (by omega) (by omega)), MI_q g (tK_r T) (fun k i hk => he k i hk.2.1 (by have := hk.2.2; omega)) ⟨g.q2.2.2.2.1.1, by rw [he 135 32 (by omega) (by omega)]; exact g.q2.2.2.2.1.2⟩ ⟨g.q2.2.2.2.2.1, by rw [he 135 38 (by omega) (by omega)]; exact g.q2.2.2.2.2.2⟩⟩
theorem evY_G {w w1 : wW} (h : evG w w1) : evY w w1 := fun k i a b => h k i (by omega) (by omega)
theorem evY_X {w w1 : wW} (h : evX w w1) : evY w w1 := fun k i a b => h k i (by omega) (by omega)
theorem evY_L {w w1 : wW} (h : evL w w1) : evY w w1 := fun k i a b => h k i (by omega) (by omega)
theorem k_run {S T w : wW} {n i what : Int} (h : CI S T w n) (g : MI S T w) (hi : inI i) (hw : inI what) : stp2 (p_X9_run S T [vr 0, vi i, vi what]) (q_X9_run S T [vr 0, vi i, vi what]) (p_X10_run S T [vr 135, vi i, vi what]) (q_X10_run S T [vr 135, vi i, vi what]) n w := by
  refine ⟨⟨rfl, h.rq, hi, hw⟩, fun r w1 hq => ?_⟩
  obtain ⟨hr, he⟩ := hq
  obtain ⟨h1, ho⟩ := CI_T h he
  have g1 := MI_o g ho
  refine ⟨⟨rfl, g1.mq, hi, hw⟩, fun r' w2 hq' => ?_⟩
  obtain ⟨hr', he'⟩ := hq'
  exact ⟨by rw [hr, hr'], S, T, qY h1 g1 (evY_G he')⟩
theorem k_month {S T w : wW} {n i y m what : Int} (h : CI S T w n) (g : MI S T w) (hi : inI i) (hy : inI y) (hm : inI m) (hw : inI what) : stp2 (p_X9_month S T [vr 0, vi i, vi y, vi m, vi what]) (q_X9_month S T [vr 0, vi i, vi y, vi m, vi what]) (p_X10_month S T [vr 135, vi i, vi y, vi m, vi what]) (q_X10_month S T [vr 135, vi i, vi y, vi m, vi what]) n w := by
  refine ⟨⟨rfl, h.rq, hi, hy, hm, hw⟩, fun r w1 hq => ?_⟩
  obtain ⟨hr, he⟩ := hq
  obtain ⟨h1, ho⟩ := CI_T h he
  have g1 := MI_o g ho
  refine ⟨⟨rfl, g1.mq, hi, hy, hm, hw⟩, fun r' w2 hq' => ?_⟩
  obtain ⟨hr', he'⟩ := hq'
  exact ⟨by rw [hr, hr'], S, T, qY h1 g1 (evY_G he')⟩
theorem letP_u {S T : wW} {k r r' : Int} (h : letP S T k r) (h' : letP S T k r') : r = r' := by
  unfold letP at h h'
  by_cases q : T 4 4 = 0 ∨ S 4 1 = 0
  · rw [if_pos q] at h h'; rw [h, h']
  · rw [if_neg q] at h h'
    by_cases q2 : k < 0 ∨ 96 < k
    · rw [if_pos q2] at h h'; rw [h, h']
    · rw [if_neg q2] at h h'; exact isL_u h h'
theorem nevP_u {S T : wW} {k r r' : Int} (h : nevP S T k r) (h' : nevP S T k r') : r = r' := by
  unfold nevP at h h'
  by_cases q : T 4 4 = 0 ∨ S 4 1 = 0
  · rw [if_pos q] at h h'; rw [h, h']
  · rw [if_neg q] at h h'
    by_cases q2 : k < 0 ∨ 2 < k
    · rw [if_pos q2] at h h'; rw [h, h']
    · rw [if_neg q2] at h h'
      obtain ⟨z, a1, a2, a3⟩ := h
      obtain ⟨z', b1, b2, b3⟩ := h'
      have e := isL_u a1 b1
      subst e
      by_cases q3 : k = 0 ∨ z = -1
      · rw [a2 q3, b2 q3]
      · obtain ⟨a4, a5⟩ := a3 q3
        obtain ⟨b4, b5⟩ := b3 q3
        have hz : 0 ≤ z := by
          rcases a1 with a1 | a1
          · omega
          · omega
        by_cases q4 : z = 0
        · rw [a4 q4, b4 q4]
        · obtain ⟨-, a6, a7⟩ := a5 (by omega)
          obtain ⟨-, b6, b7⟩ := b5 (by omega)
          by_cases q5 : k = 1
          · rw [a6 q5, b6 q5]
          · rw [a7 (by omega), b7 (by omega)]
theorem k_let {S T w : wW} {n k : Int} (h : CI S T w n) (g : MI S T w) (hk : inI k) : stp2 (p_X9_let S T [vr 0, vi k]) (q_X9_let S T [vr 0, vi k]) (p_X10_let S T [vr 135, vi k]) (q_X10_let S T [vr 135, vi k]) n w := by
  refine ⟨⟨rfl, h.rq, h.pa, hk⟩, fun r w1 hq => ?_⟩
  obtain ⟨hr, he⟩ := hq
  obtain ⟨h1, ho⟩ := CI_T h he
  have g1 := MI_o g ho
  refine ⟨⟨rfl, g1.mq, hk⟩, fun r' w2 hq' => ?_⟩
  obtain ⟨hr', he'⟩ := hq'
  exact ⟨letP_u hr hr', S, T, qY h1 g1 (evY_G he')⟩
theorem k_never {S T w : wW} {n k : Int} (h : CI S T w n) (g : MI S T w) (hk : inI k) : stp2 (p_X9_never S T [vr 0, vi k]) (q_X9_never S T [vr 0, vi k]) (p_X10_never S T [vr 135, vi k]) (q_X10_never S T [vr 135, vi k]) n w := by
  refine ⟨⟨rfl, h.rq, h.pa, hk⟩, fun r w1 hq => ?_⟩
  obtain ⟨hr, he⟩ := hq
  obtain ⟨h1, ho⟩ := CI_T h he
  have g1 := MI_o g ho
  refine ⟨⟨rfl, g1.mq, hk⟩, fun r' w2 hq' => ?_⟩
  obtain ⟨hr', he'⟩ := hq'
  exact ⟨nevP_u hr hr', S, T, qY h1 g1 (evY_G he')⟩
theorem k_wise {S T w : wW} {n m lv wet what : Int} (h : CI S T w n) (g : MI S T w) (hm : inI m) (hl : inI lv) (ht : wet = 0 ∨ wet = 1) (hw : inI what) : stp2 (p_X9_wise S T [vr 0, vi m, vi lv, vi wet, vi what]) (q_X9_wise S T [vr 0, vi m, vi lv, vi wet, vi what]) (p_X10_wise S T [vr 135, vi m, vi lv, vi wet, vi what]) (q_X10_wise S T [vr 135, vi m, vi lv, vi wet, vi what]) n w := by
  refine ⟨⟨rfl, h.rq, hm, hl, ht, hw⟩, fun r w1 hq => ?_⟩
  obtain ⟨hr, he⟩ := hq
  obtain ⟨h1, ho⟩ := CI_T h he
  have g1 := MI_o g ho
  refine ⟨⟨rfl, g1.mq, hm, hl, ht, hw⟩, fun r' w2 hq' => ?_⟩
  obtain ⟨hr', he'⟩ := hq'
  exact ⟨by rw [hr, hr'], S, T, qY h1 g1 (evY_X he')⟩
theorem k_digest {S T w : wW} {n : Int} (h : CI S T w n) (g : MI S T w) : stp2 (p_X9_digest S T [vr 0]) (q_X9_digest S T [vr 0]) (p_X10_digest S T [vr 135]) (q_X10_digest S T [vr 135]) n w := by
  refine ⟨⟨rfl, h.rq, h.rq2⟩, fun r w1 hq => ?_⟩
  obtain ⟨hr, he⟩ := hq
  obtain ⟨h1, ho⟩ := CI_T h he
  have g1 := MI_o g ho
  refine ⟨⟨rfl, g1.mq, g1.q2⟩, fun r' w2 hq' => ?_⟩
  obtain ⟨hr', he'⟩ := hq'
  exact ⟨by rw [hr, hr'], S, T, qY h1 g1 he'⟩
theorem CI_C {S T w w1 : wW} {n : Int} (h : CI S T w n) (he : evC S w w1) (hc : cvI S T w1) : CI S T w1 n ∧ ∀ k i, 135 ≤ k → w1 k i = w k i :=
  ⟨CI_q h (tK_r T) (fun k i hk => he.1 k i (Or.inl hk.1) hk.2.2.1) he.2 hc ⟨h.rq2.2.2.2.2.1.1, by rw [he.1 0 13 (by decide) (by decide)]; exact h.rq2.2.2.2.2.1.2⟩ ⟨h.rq2.2.2.2.2.2.1, by rw [he.1 0 14 (by decide) (by decide)]; exact h.rq2.2.2.2.2.2.2⟩, fun k i hk => he.1 k i (by omega) (by omega)⟩
theorem k_sure {S T w : wW} {n i part : Int} (h : CI S T w n) (g : MI S T w) (hi : inI i) (hp : inI part) : stp2 (p_X9_sure S T [vr 0, vi i, vi part]) (q_X9_sure S T [vr 0, vi i, vi part]) (p_X10_sure S T [vr 135, vi i, vi part]) (q_X10_sure S T [vr 135, vi i, vi part]) n w := by
  refine ⟨⟨rfl, h.rq, h.cv, hi, hp⟩, fun r w1 hq => ?_⟩
  obtain ⟨hr, he, hc⟩ := hq
  obtain ⟨h1, ho⟩ := CI_C h he hc
  have g1 := MI_o g ho
  refine ⟨⟨rfl, g1.mq, hi, hp⟩, fun r' w2 hq' => ?_⟩
  obtain ⟨hr', he'⟩ := hq'
  exact ⟨by rw [hr, hr'], S, T, qY h1 g1 (evY_X he')⟩
theorem k_mean {S T w : wW} {n i part : Int} (h : CI S T w n) (g : MI S T w) (hi : inI i) (hp : inI part) : stp2 (p_X9_mean S T [vr 0, vi i, vi part]) (q_X9_mean S T [vr 0, vi i, vi part]) (p_X10_mean S T [vr 135, vi i, vi part]) (q_X10_mean S T [vr 135, vi i, vi part]) n w := by
  refine ⟨⟨rfl, h.rq, h.cv, hi, hp⟩, fun r w1 hq => ?_⟩
  obtain ⟨hr, he, hc⟩ := hq
  obtain ⟨h1, ho⟩ := CI_C h he hc
  have g1 := MI_o g ho
  refine ⟨⟨rfl, g1.mq, hi, hp⟩, fun r' w2 hq' => ?_⟩
  obtain ⟨hr', he'⟩ := hq'
  exact ⟨by rw [hr, hr'], S, T, qY h1 g1 (evY_X he')⟩
theorem k_leaks {S T w : wW} {n i y what : Int} (h : CI S T w n) (g : MI S T w) (hi : inI i) (hy : inI y) (hw : inI what) : stp2 (p_X9_leaks S T [vr 0, vi i, vi y, vi what]) (q_X9_leaks S T [vr 0, vi i, vi y, vi what]) (p_X10_leaks S T [vr 135, vi i, vi y, vi what]) (q_X10_leaks S T [vr 135, vi i, vi y, vi what]) n w := by
  refine ⟨⟨rfl, h.rq, h.rq2.2.2.1, hi, hy, hw⟩, fun r w1 hq => ?_⟩
  obtain ⟨hr, he⟩ := hq
  have he2 : evT S w w1 := ⟨fun k i hk => he k i (by omega), wiI_of h.rq.2.2.2.2.1 (fun k i hk => he k i (by omega))⟩
  obtain ⟨h1, ho⟩ := CI_T h he2
  have g1 := MI_o g ho
  refine ⟨⟨rfl, g1.mq, g1.q2.2.1, hi, hy, hw⟩, fun r' w2 hq' => ?_⟩
  obtain ⟨hr', he'⟩ := hq'
  exact ⟨by rw [hr, hr'], S, T, qY h1 g1 (evY_L he')⟩
/-- the state with other counters -/
def tt (T : wW) (a b : Int) : wW := fun k i => if k = 4 ∧ i = 5 then a else if k = 4 ∧ i = 6 then b else T k i
theorem tt_5 (T : wW) (a b : Int) : tt T a b 4 5 = a := rfl
theorem tt_6 (T : wW) (a b : Int) : tt T a b 4 6 = b := rfl
theorem tt_K (T : wW) (a b : Int) : tK T (tt T a b) := fun k i h => by
  unfold tt
  rw [if_neg (by omega), if_neg (by omega)]
theorem cv_0 {S T w w1 : wW} (h : cvI S T w) (he : ∀ k i, 36 ≤ k → k < 44 → w1 k i = w k i) (h15 : w1 0 15 = w 0 15) : cvI S T w1 := fun r hr => by
  have hx : ∀ i, w1 (36 + r) i = w (36 + r) i := fun i => he _ i (by omega) (by omega)
  unfold cvR
  rw [hx, hx, hx, hx, h15]
  exact h r hr
theorem cheD_in {S T : wW} {i price what k : Int} (hk : 0 ≤ k ∧ k ≤ 20) : 0 ≤ k + cheD S T i price what k ∧ k + cheD S T i price what k ≤ 20 := by
  unfold cheD
  (repeat' split) <;> omega
theorem shaD_in {S T : wW} {i price what k : Int} (hk : 0 ≤ k ∧ k ≤ 20) : 0 ≤ k + shaD S T i price what k ∧ k + shaD S T i price what k ≤ 20 := by
  unfold shaD
  (repeat' split) <;> omega
theorem hedD_in {S T : wW} {k : Int} (hk : 0 ≤ k ∧ k ≤ 2) : 0 ≤ k + hedD S T k ∧ k + hedD S T k ≤ 2 := by
  unfold hedD
  (repeat' split) <;> omega
theorem k_cheapest {S T w : wW} {n i price what : Int} (h : CI S T w n) (g : MI S T w) (hi : inI i) (hp : inI price) (hw : inI what) : stp2 (p_X9_cheapest S T [vr 0, vi i, vi price, vi what]) (q_X9_cheapest S T [vr 0, vi i, vi price, vi what]) (p_X10_cheapest S T [vr 135, vi i, vi price, vi what]) (q_X10_cheapest S T [vr 135, vi i, vi price, vi what]) n w := by
  obtain ⟨c1, c2⟩ := h.rq2.2.2.2.2.1
  obtain ⟨d1, d2⟩ := g.q2.2.2.2.1
  refine ⟨⟨rfl, h.rq, hi, hp, hw, by rw [c2]; exact c1⟩, fun r w1 hq => ?_⟩
  obtain ⟨hr, he, hn⟩ := hq
  rw [c2] at hr hn
  have hin := cheD_in (S := S) (T := T) (i := i) (price := price) (what := what) c1
  have h1 : CI S (tt T (T 4 5 + cheD S T i price what (T 4 5)) (T 4 6)) w1 n := CI_q h (tt_K _ _ _) (fun k i hk => he.1 k i (Or.inl hk.1) (by have := hk.2.1; omega)) he.2 (cv_0 h.cv (fun k i a b => he.1 k i (by omega) (by omega)) (he.1 0 15 (by decide) (by decide))) ⟨hin, hn⟩ ⟨h.rq2.2.2.2.2.2.1, by rw [he.1 0 14 (by decide) (by decide)]; exact h.rq2.2.2.2.2.2.2⟩
  have g1 : MI S T w1 := MI_o g (fun k i hk => he.1 k i (by omega) (by omega))
  obtain ⟨-, d2'⟩ := g1.q2.2.2.2.1
  refine ⟨⟨rfl, g1.mq, hi, hp, hw, by rw [d2']; exact d1⟩, fun r' w2 hq' => ?_⟩
  obtain ⟨hr', he', hn'⟩ := hq'
  rw [d2'] at hr' hn'
  exact ⟨by rw [hr, hr'], S, _, CI_o h1 (fun k i hk => he' k i (by omega) (by omega)), MI_q g1 (tt_K _ _ _) (fun k i hk => he' k i (by have := hk.2.1; omega) (by have := hk.2.2; omega)) ⟨hin, hn'⟩ ⟨g1.q2.2.2.2.2.1, by rw [he' 135 38 (by omega) (by omega)]; exact g1.q2.2.2.2.2.2⟩⟩
theorem k_share {S T w : wW} {n i price what : Int} (h : CI S T w n) (g : MI S T w) (hi : inI i) (hp : inI price) (hw : inI what) : stp2 (p_X9_share S T [vr 0, vi i, vi price, vi what]) (q_X9_share S T [vr 0, vi i, vi price, vi what]) (p_X10_share S T [vr 135, vi i, vi price, vi what]) (q_X10_share S T [vr 135, vi i, vi price, vi what]) n w := by
  obtain ⟨c1, c2⟩ := h.rq2.2.2.2.2.1
  obtain ⟨d1, d2⟩ := g.q2.2.2.2.1
  refine ⟨⟨rfl, h.rq, h.pa, hi, hp, hw, by rw [c2]; exact c1⟩, fun r w1 hq => ?_⟩
  obtain ⟨hr, he, hn⟩ := hq
  rw [c2] at hr hn
  have hin := shaD_in (S := S) (T := T) (i := i) (price := price) (what := what) c1
  have h1 : CI S (tt T (T 4 5 + shaD S T i price what (T 4 5)) (T 4 6)) w1 n := CI_q h (tt_K _ _ _) (fun k i hk => he.1 k i (Or.inl hk.1) (by have := hk.2.1; omega)) he.2 (cv_0 h.cv (fun k i a b => he.1 k i (by omega) (by omega)) (he.1 0 15 (by decide) (by decide))) ⟨hin, hn⟩ ⟨h.rq2.2.2.2.2.2.1, by rw [he.1 0 14 (by decide) (by decide)]; exact h.rq2.2.2.2.2.2.2⟩
  have g1 : MI S T w1 := MI_o g (fun k i hk => he.1 k i (by omega) (by omega))
  obtain ⟨-, d2'⟩ := g1.q2.2.2.2.1
  refine ⟨⟨rfl, g1.mq, hi, hp, hw, by rw [d2']; exact d1⟩, fun r' w2 hq' => ?_⟩
  obtain ⟨hr', he', hn'⟩ := hq'
  rw [d2'] at hr' hn'
  exact ⟨by rw [hr, hr'], S, _, CI_o h1 (fun k i hk => he' k i (by omega) (by omega)), MI_q g1 (tt_K _ _ _) (fun k i hk => he' k i (by have := hk.2.1; omega) (by have := hk.2.2; omega)) ⟨hin, hn'⟩ ⟨g1.q2.2.2.2.2.1, by rw [he' 135 38 (by omega) (by omega)]; exact g1.q2.2.2.2.2.2⟩⟩
theorem k_hedge {S T w : wW} {n : Int} (h : CI S T w n) (g : MI S T w) : stp2 (p_X9_hedge S T [vr 0]) (q_X9_hedge S T [vr 0]) (p_X10_hedge S T [vr 135]) (q_X10_hedge S T [vr 135]) n w := by
  obtain ⟨c1, c2⟩ := h.rq2.2.2.2.2.2
  obtain ⟨d1, d2⟩ := g.q2.2.2.2.2
  refine ⟨⟨rfl, h.rq, h.tr, by rw [c2]; exact c1⟩, fun r w1 hq => ?_⟩
  obtain ⟨hr, ⟨he, he45, hwi⟩, hn⟩ := hq
  rw [c2] at hr hn
  have hin := hedD_in (S := S) (T := T) c1
  have h1 : CI S (tt T (T 4 5) (T 4 6 + hedD S T (T 4 6))) w1 n := by
    refine CI_q h (tt_K _ _ _) (fun k i hk => ?_) hwi (cv_0 h.cv (fun k i a b => he k i (by omega) (by omega) (by omega)) (he 0 15 (by decide) (by decide) (by decide))) ⟨h.rq2.2.2.2.2.1.1, by rw [he 0 13 (by decide) (by decide) (by decide)]; exact h.rq2.2.2.2.2.1.2⟩ ⟨hin, hn⟩
    obtain ⟨k1, k2, k3, k4⟩ := hk
    by_cases q : k = 45
    · rw [q] at k4 ⊢
      exact he45 i (by omega) (by omega)
    · exact he k i (Or.inl k1) q (by omega)
  have g1 : MI S T w1 := MI_o g (fun k i hk => he k i (by omega) (by omega) (by omega))
  obtain ⟨-, d2'⟩ := g1.q2.2.2.2.2
  refine ⟨⟨rfl, g1.mq, by rw [d2']; exact d1⟩, fun r' w2 hq' => ?_⟩
  obtain ⟨hr', he', hn'⟩ := hq'
  rw [d2'] at hr' hn'
  exact ⟨by rw [hr, hr'], S, _, CI_o h1 (fun k i hk => he' k i (by omega) (by omega)), MI_q g1 (tt_K _ _ _) (fun k i hk => he' k i hk.2.1 (by have := hk.2.2; omega)) ⟨g1.q2.2.2.2.1.1, by rw [he' 135 32 (by omega) (by omega)]; exact g1.q2.2.2.2.1.2⟩ ⟨hin, hn'⟩⟩
