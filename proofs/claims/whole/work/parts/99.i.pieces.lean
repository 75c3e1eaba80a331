/-! the invariant in pieces, so that a call that changes one piece leaves the others -/
def cRu (T w : wW) : Prop := ((0 ≤ T 4 2 ∧ T 4 2 ≤ 8) ∧ w 0 11 = T 4 2) ∧ (∀ r, r < 8 → rR w (36 + r)) ∧ (∀ r, r < (T 4 2).toNat → rC T w r) ∧ PA w ∧ TR w
def cHo (S T w : wW) (n : Int) : Prop := ((0 ≤ T 4 4 ∧ T 4 4 ≤ n) ∧ w 0 12 = T 4 4) ∧ (¬ T 4 4 = 0 → hR S ∧ hX S w) ∧ ((0 ≤ S 4 0 ∧ S 4 0 ≤ 3) ∧ w 4 6 = S 4 0) ∧ ∀ u, u < 3 → inI (w 8 u)
def cYe (S w : wW) : Prop := yR S ∧ yX S w
def cPa (T w : wW) : Prop := ((0 ≤ T 4 3 ∧ T 4 3 ≤ 60) ∧ w 1 2 = T 4 3 ∧ (∀ i, i < 60 → 0 ≤ w 2 i ∧ w 2 i ≤ 126) ∧ ∀ i, i < (T 4 3).toNat → w 2 i = T 8 i) ∧ fT (w 3)
def cCn (T w : wW) : Prop := ((0 ≤ T 4 5 ∧ T 4 5 ≤ 20) ∧ w 0 13 = T 4 5) ∧ ((0 ≤ T 4 6 ∧ T 4 6 ≤ 2) ∧ w 0 14 = T 4 6)
def cVe (S T w : wW) (n : Int) : Prop := wiI S w ∧ cvI S T w ∧ (0 ≤ w 0 15 ∧ w 0 15 ≤ n)
def cIg (T w : wW) : Prop := tIm T ∧ cIm T w
theorem CI_mk {S T w : wW} {n : Int} (hn : n ≤ 1000000) (h1 : cRu T w) (h2 : cHo S T w n) (h3 : cYe S w) (h4 : cPa T w) (h5 : rdX T w) (h6 : cCn T w) (h7 : cVe S T w n) (h8 : cIg T w) : CI S T w n := by
  obtain ⟨a1, a2, a3, a4, a5⟩ := h1
  obtain ⟨⟨b1, b1'⟩, b2, b3, b4⟩ := h2
  exact ⟨⟨a1, ⟨⟨by omega, by omega⟩, b1'⟩, h3, b2, h7.1, fun r hr => ⟨a2 r (by omega), a3 r hr⟩⟩, ⟨b1.1, b3, h5, h4.1, h6⟩, a4, a5, h7.2.1, h4.2, b4, h7.2.2, b1, a2, h8.1, h8.2⟩
theorem CI_un {S T w : wW} {n : Int} (h : CI S T w n) : cRu T w ∧ cHo S T w n ∧ cYe S w ∧ cPa T w ∧ rdX T w ∧ cCn T w ∧ cVe S T w n ∧ cIg T w :=
  ⟨⟨h.rq.1, h.sp, fun r hr => (h.rq.2.2.2.2.2 r hr).2, h.pa, h.tr⟩, ⟨⟨h.hn, h.rq.2.1.2⟩, h.rq.2.2.2.1, h.rq2.2.1, h.i8⟩, h.rq.2.2.1, ⟨h.rq2.2.2.2.1, h.ft⟩, h.rq2.2.2.1, h.rq2.2.2.2.2, ⟨h.rq.2.2.2.2.1, h.cv, h.ver⟩, ⟨h.ti, h.im⟩⟩
theorem cRu_c {T T' w w' : wW} (h : cRu T w) (he : ∀ k i, 36 ≤ k → k ≤ 55 → w' k i = w k i) (h11 : w' 0 11 = w 0 11) (t : ∀ k i, (k = 4 ∧ i = 2) ∨ k = 5 ∨ k = 6 ∨ 40 ≤ k → T' k i = T k i) : cRu T' w' := by
  obtain ⟨a1, a2, a3, a4, a5⟩ := h
  have t42 := t 4 2 (by omega)
  refine ⟨⟨by rw [t42]; exact a1.1, by rw [t42, h11]; exact a1.2⟩, fun r hr => rR_of (a2 r hr) (fun k i hk => he k i (by omega) (by omega)), fun r hr => ?_, PA_of a4 (fun k i hk => he k i (by omega) (by omega)), fun m hm => by rw [he 55 m (by decide) (by decide)]; exact a5 m hm⟩
  rw [t42] at hr
  obtain ⟨c1, c2, c3⟩ := a3 r hr
  exact ⟨by rw [he _ 1 (by omega) (by omega), t 5 r (by omega)]; exact c1, by rw [he _ 2 (by omega) (by omega), t 6 r (by omega)]; exact c2, fun m hm => by rw [he _ m (by omega) (by omega), t (40 + r) m (by omega)]; exact c3 m hm⟩
theorem hR_c {S S' : wW} (h : hR S) (s : ∀ k, k < 4 → S' k = S k) (s4 : S' 4 0 = S 4 0) : hR S' := by
  unfold hR at h ⊢
  rw [s 0 (by decide), s 1 (by decide), s 2 (by decide), s 3 (by decide), s4]
  exact h
theorem hX_c {S S' w : wW} (h : hX S w) (s : ∀ k, k < 4 → S' k = S k) (s4 : S' 4 0 = S 4 0) : hX S' w := by
  unfold hX at h ⊢
  rw [s 0 (by decide), s 1 (by decide), s 2 (by decide), s 3 (by decide), s4]
  exact h
theorem cHo_c {S S' T T' w w' : wW} {n n' : Int} (h : cHo S T w n) (hn : n ≤ n') (he : ∀ k i, 4 ≤ k → k ≤ 10 → w' k i = w k i) (h12 : w' 0 12 = w 0 12) (t44 : T' 4 4 = T 4 4) (s : ∀ k, k < 4 → S' k = S k) (s4 : S' 4 0 = S 4 0) : cHo S' T' w' n' := by
  obtain ⟨b1, b2, b3, b4⟩ := h
  refine ⟨⟨by rw [t44]; have := b1.1; omega, by rw [t44, h12]; exact b1.2⟩, fun q => ?_, ⟨by rw [s4]; exact b3.1, by rw [s4, he 4 6 (by decide) (by decide)]; exact b3.2⟩, fun u hu => by rw [he 8 u (by decide) (by decide)]; exact b4 u hu⟩
  rw [t44] at q
  exact ⟨hR_c (b2 q).1 s s4, hX_c (hX_of (b2 q).2 (fun k i hk => he k i hk.1 hk.2)) s s4⟩
theorem yR_c {S S' : wW} (h : yR S) (s : S' 4 1 = S 4 1) (s2 : ∀ y, y < 8 → S' (20 + y) = S (20 + y)) : yR S' := by
  refine ⟨by rw [s]; exact h.1, fun y m hy hm => ?_⟩
  rw [s] at hy
  have := h.1
  rw [s2 y (by omega)]
  exact h.2 y m hy hm
theorem cYe_c {S S' w w' : wW} (h : cYe S w) (he : ∀ k i, 11 ≤ k → k ≤ 20 → w' k i = w k i) (s : S' 4 1 = S 4 1) (s2 : ∀ y, y < 8 → S' (20 + y) = S (20 + y)) : cYe S' w' := by
  obtain ⟨h1, h2⟩ := h
  refine ⟨yR_c h1 s s2, ?_⟩
  have h3 := yX_of h1 h2 (fun k i hk => he k i hk.1 hk.2)
  refine ⟨by rw [s]; exact h3.1, fun y m hy hm => ?_⟩
  rw [s] at hy
  have := h1.1
  rw [s2 y (by omega)]
  exact h3.2 y m hy hm
theorem cPa_c {T T' w w' : wW} (h : cPa T w) (h12 : w' 1 2 = w 1 2) (h2 : ∀ i, w' 2 i = w 2 i) (h3 : fT (w' 3)) (t43 : T' 4 3 = T 4 3) (t8 : ∀ i, T' 8 i = T 8 i) : cPa T' w' := by
  obtain ⟨⟨a1, a2, a3, a4⟩, -⟩ := h
  exact ⟨⟨by rw [t43]; exact a1, by rw [t43, h12]; exact a2, fun i hi => by rw [h2]; exact a3 i hi, fun i hi => by rw [t43] at hi; rw [h2, t8]; exact a4 i hi⟩, h3⟩
theorem cPa_0 {T T' w w' : wW} (h : cPa T w) (h12 : w' 1 2 = 0) (h2 : ∀ i, w' 2 i = w 2 i) (h3 : fT (w' 3)) (t43 : T' 4 3 = 0) : cPa T' w' := by
  obtain ⟨⟨a1, a2, a3, a4⟩, -⟩ := h
  exact ⟨⟨by rw [t43]; decide, by rw [t43]; exact h12, fun i hi => by rw [h2]; exact a3 i hi, fun i hi => by rw [t43] at hi; exact absurd hi (Nat.not_lt_zero _)⟩, h3⟩
theorem rdX_c {T T' w w' : wW} (h : rdX T w) (he : ∀ i, w' 34 i = w 34 i) (t : ∀ i, T' 7 i = T 7 i) : rdX T' w' := fun m hm => by
  rw [t, he]
  exact h m hm
theorem cCn_c {T T' w w' : wW} (h : cCn T w) (h13 : w' 0 13 = w 0 13) (h14 : w' 0 14 = w 0 14) (t5 : T' 4 5 = T 4 5) (t6 : T' 4 6 = T 4 6) : cCn T' w' := by
  unfold cCn at h ⊢
  rw [h13, h14, t5, t6]
  exact h
theorem cVe_c {S T T' w w' : wW} {n n' : Int} (h : cVe S T w n) (hn : n ≤ n') (he : ∀ k i, (k = 0 ∧ i = 15) ∨ (36 ≤ k ∧ k < 44 ∧ 3 ≤ i) ∨ (56 ≤ k ∧ k ≤ 87) → w' k i = w k i) (t : ∀ k i, (k = 4 ∧ i = 2) ∨ k = 5 ∨ k = 6 ∨ 40 ≤ k → T' k i = T k i) : cVe S T' w' n' := by
  obtain ⟨h1, h2, h3⟩ := h
  have h15 := he 0 15 (by omega)
  refine ⟨wiI_of h1 (fun k i hk => he k i (by omega)), fun r hr => ?_, by rw [h15]; omega⟩
  have hs := rS_T S (T := T) (T' := T') (r := r) (t 5 r (by omega)) (t 6 r (by omega)) (fun m => t (40 + r) m (by omega))
  have c := h2 r hr
  unfold cvR surN meaN at c ⊢
  rw [t 4 2 (by omega), hs, he (36 + r) 3 (by omega), he (36 + r) 4 (by omega), he (36 + r) 5 (by omega), he (36 + r) 6 (by omega), h15]
  exact c
/-- a new version: what was kept is old -/
theorem cVe_v {S S' T T' w w' : wW} {n : Int} (h : cVe S T w n) (hn : n < 1000000) (h15 : w' 0 15 = w 0 15 + 1) (he : ∀ k i, (36 ≤ k ∧ k < 44 ∧ 3 ≤ i) ∨ (k = 56 ∧ i = 10) → w' k i = w k i) (t42 : T' 4 2 = T 4 2) : cVe S' T' w' (n + 1) := by
  obtain ⟨⟨a1, a2, -⟩, h2, h3⟩ := h
  have h56 := he 56 10 (by omega)
  refine ⟨⟨by rw [h56, h15]; omega, ⟨by omega, by omega⟩, fun q => by rw [h56, h15] at q; omega⟩, fun r hr => ?_, by rw [h15]; omega⟩
  have c := h2 r hr
  rw [t42]
  refine ⟨fun q => ?_, fun q => by rw [he _ 3 (by omega), he _ 4 (by omega)]; exact c.2 q⟩
  obtain ⟨c1, c2, -⟩ := c.1 q
  exact ⟨by rw [he _ 3 (by omega), h15]; omega, by rw [he _ 4 (by omega), h15]; omega, fun z => by rw [he _ 3 (by omega), h15] at z; omega, fun z => by rw [he _ 4 (by omega), h15] at z; omega⟩
theorem tIm_c {T T' : wW} (h : tIm T) (t : ∀ k i, (k = 4 ∧ (i = 4 ∨ i = 7)) ∨ (9 ≤ k ∧ k ≤ 11) ∨ (30 ≤ k ∧ k < 38) → T' k i = T k i) : tIm T' := by
  obtain ⟨i1, i2⟩ := h
  have t44 := t 4 4 (by omega)
  have t47 := t 4 7 (by omega)
  refine ⟨by rw [t47, t44]; exact i1, fun q => ?_⟩
  rw [t47] at q
  obtain ⟨j1, j2, j3, j4⟩ := i2 q
  have e9 : T' 9 = T 9 := funext fun i => t 9 i (by omega)
  rw [e9, t 11 0 (by omega)]
  exact ⟨j1, j2, fun m hm' => by rw [t 10 m (by omega)]; exact j3 m hm', fun y m hy hm' => by rw [t (30 + y) m (by omega)]; exact j4 y m hy hm'⟩
theorem cIg_c {T T' w w' : wW} (h : cIg T w) (he : ∀ k i, 21 ≤ k → k ≤ 33 → w' k i = w k i) (t : ∀ k i, (k = 4 ∧ (i = 4 ∨ i = 7)) ∨ (9 ≤ k ∧ k ≤ 11) ∨ (30 ≤ k ∧ k < 38) → T' k i = T k i) : cIg T' w' := by
  obtain ⟨ti, i1, i2⟩ := h
  have t47 := t 4 7 (by omega)
  refine ⟨tIm_c ti t, by rw [t47, he 21 3 (by decide) (by decide)]; exact i1, fun q => ?_⟩
  rw [t47] at q
  obtain ⟨j1, j2, j3, j4⟩ := i2 q
  have := (ti.2 q).1
  refine ⟨by rw [he 24 1 (by decide) (by decide), t 11 0 (by omega)]; exact j1, fun j hj => by rw [he 22 j (by decide) (by decide), t 9 j (by omega)]; exact j2 j hj, fun m hm' => by rw [he 23 m (by decide) (by decide), t 10 m (by omega)]; exact j3 m hm', fun y m hy hm' => ?_⟩
  rw [t 11 0 (by omega)] at hy
  rw [he _ m (by omega) (by omega), t (30 + y) m (by omega)]
  exact j4 y m hy hm'
/-! the reference's pieces -/
def mRu (T w : wW) : Prop := ((0 ≤ T 4 2 ∧ T 4 2 ≤ 8) ∧ w 135 13 = T 4 2) ∧ (∀ r, r < 8 → mrR w r) ∧ ∀ r, r < (T 4 2).toNat → mrC T w r
def mHo (S T w : wW) : Prop := (w 135 9 = S 4 0 ∧ (0 ≤ S 4 0 ∧ S 4 0 ≤ 3) ∧ (S 4 0 = 0 ↔ T 4 4 = 0)) ∧ (¬ T 4 4 = 0 → hR S ∧ mH S (S 0 0) (S 0 1) w) ∧ (inI (T 4 4) ∧ w 135 10 = T 4 4)
def mYe (S w : wW) : Prop := yR S ∧ mY S w
def mPa (T w : wW) : Prop := (0 ≤ T 4 3 ∧ T 4 3 ≤ 60) ∧ w 135 1 = T 4 3 ∧ (∀ i, i < 60 → 0 ≤ w 136 i ∧ w 136 i ≤ 126) ∧ ∀ i, i < (T 4 3).toNat → w 136 i = T 8 i
def mCn (T w : wW) : Prop := ((0 ≤ T 4 5 ∧ T 4 5 ≤ 20) ∧ w 135 32 = T 4 5) ∧ ((0 ≤ T 4 6 ∧ T 4 6 ≤ 2) ∧ w 135 38 = T 4 6)
theorem MI_mk {S T w : wW} (h1 : mRu T w) (h2 : mHo S T w) (h3 : mYe S w) (h4 : mPa T w) (h5 : mrX T w) (h6 : mCn T w) (h7 : mIm T w) : MI S T w :=
  ⟨⟨h1.1, h2.1, h3, h2.2.1, h1.2.1, h1.2.2⟩, ⟨h2.2.2, h5, h4, h6⟩, h7⟩
theorem MI_un {S T w : wW} (h : MI S T w) : mRu T w ∧ mHo S T w ∧ mYe S w ∧ mPa T w ∧ mrX T w ∧ mCn T w ∧ mIm T w :=
  ⟨⟨h.mq.1, h.mq.2.2.2.2.1, h.mq.2.2.2.2.2⟩, ⟨h.mq.2.1, h.mq.2.2.2.1, h.q2.1⟩, h.mq.2.2.1, h.q2.2.2.1, h.q2.2.1, h.q2.2.2.2, h.im⟩
theorem mRu_c {T T' w w' : wW} (h : mRu T w) (he : ∀ k i, 141 ≤ k → k ≤ 143 → w' k i = w k i) (h13 : w' 135 13 = w 135 13) (t : ∀ k i, (k = 4 ∧ i = 2) ∨ k = 5 ∨ k = 6 ∨ 40 ≤ k → T' k i = T k i) : mRu T' w' := by
  obtain ⟨h1, h5, h6⟩ := h
  have t42 := t 4 2 (by omega)
  refine ⟨⟨by rw [t42]; exact h1.1, by rw [t42, h13]; exact h1.2⟩, fun r hr => mrR_c (h5 r hr) (fun k i a b => he k i a b), fun r hr => ?_⟩
  rw [t42] at hr
  obtain ⟨⟨a1, a2, a3⟩, b, c, d⟩ := h6 r hr
  refine ⟨⟨by rw [t 5 r (by omega)]; exact a1, by rw [t 6 r (by omega)]; exact a2, fun m hm => by rw [t (40 + r) m (by omega)]; exact a3 m hm⟩, by rw [he 141 _ (by decide) (by decide), t 5 r (by omega)]; exact b, by rw [he 142 _ (by decide) (by decide), t 6 r (by omega)]; exact c, fun q m hm => ?_⟩
  rw [t 5 r (by omega)] at q
  rw [he 143 _ (by decide) (by decide), t (40 + r) m (by omega)]
  exact d q m hm
theorem mH_c {S S' w : wW} {A Z : Int} (h : mH S A Z w) (s : ∀ k, k < 4 → S' k = S k) (s4 : S' 4 0 = S 4 0) : mH S' A Z w := by
  unfold mH mU at h ⊢
  rw [s 0 (by decide), s 1 (by decide), s 2 (by decide), s 3 (by decide), s4]
  exact h
theorem mHo_c {S S' T T' w w' : wW} (h : mHo S T w) (he : ∀ i, w' 139 i = w 139 i) (h9 : w' 135 9 = w 135 9) (h10 : w' 135 10 = w 135 10) (t44 : T' 4 4 = T 4 4) (s : ∀ k, k < 4 → S' k = S k) (s4 : S' 4 0 = S 4 0) : mHo S' T' w' := by
  obtain ⟨h2, h4, b1⟩ := h
  refine ⟨by rw [h9, t44, s4]; exact h2, fun q => ?_, by rw [t44, h10]; exact b1⟩
  rw [t44] at q
  have g := mH_c (mH_of (h4 q).2 h9 he) s s4
  refine ⟨hR_c (h4 q).1 s s4, ?_⟩
  rw [s 0 (by decide)]
  exact g
theorem monthsF_c {S S' : wW} (s : S' 4 1 = S 4 1) : monthsF S' = monthsF S := by unfold monthsF; rw [s]
theorem rainF_c {S S' : wW} (hy : S 4 1 ≤ 8) (s2 : ∀ y, y < 8 → S' (20 + y) = S (20 + y)) {k : Nat} (hk : k < monthsF S) : rainF S' k = rainF S k := by
  unfold monthsF at hk
  unfold rainF
  rw [s2 (k / 12) (by omega)]
theorem mYe_c {S S' w w' : wW} (h : mYe S w) (he : ∀ i, w' 140 i = w 140 i) (h11 : w' 135 11 = w 135 11) (s : S' 4 1 = S 4 1) (s2 : ∀ y, y < 8 → S' (20 + y) = S (20 + y)) : mYe S' w' := by
  obtain ⟨h1, h2⟩ := h
  have h3 := mY_of h2 h11 he
  refine ⟨yR_c h1 s s2, by rw [s]; exact h3.1, fun k hk => ?_⟩
  rw [monthsF_c s] at hk
  rw [rainF_c h1.1.2 s2 hk]
  exact h3.2 k hk
theorem mPa_c {T T' w w' : wW} (h : mPa T w) (h12 : w' 135 1 = w 135 1) (h2 : ∀ i, w' 136 i = w 136 i) (t43 : T' 4 3 = T 4 3) (t8 : ∀ i, T' 8 i = T 8 i) : mPa T' w' := by
  obtain ⟨a1, a2, a3, a4⟩ := h
  exact ⟨by rw [t43]; exact a1, by rw [t43, h12]; exact a2, fun i hi => by rw [h2]; exact a3 i hi, fun i hi => by rw [t43] at hi; rw [h2, t8]; exact a4 i hi⟩
theorem mPa_0 {T T' w w' : wW} (h : mPa T w) (h12 : w' 135 1 = 0) (h2 : ∀ i, w' 136 i = w 136 i) (t43 : T' 4 3 = 0) : mPa T' w' := by
  obtain ⟨a1, a2, a3, a4⟩ := h
  exact ⟨by rw [t43]; decide, by rw [t43]; exact h12, fun i hi => by rw [h2]; exact a3 i hi, fun i hi => by rw [t43] at hi; exact absurd hi (Nat.not_lt_zero _)⟩
theorem mrX_c {T T' w w' : wW} (h : mrX T w) (he : ∀ i, w' 153 i = w 153 i) (t : ∀ i, T' 7 i = T 7 i) : mrX T' w' := fun m hm => by
  rw [t, he]
  exact h m hm
theorem mCn_c {T T' w w' : wW} (h : mCn T w) (h13 : w' 135 32 = w 135 32) (h14 : w' 135 38 = w 135 38) (t5 : T' 4 5 = T 4 5) (t6 : T' 4 6 = T 4 6) : mCn T' w' := by
  unfold mCn at h ⊢
  rw [h13, h14, t5, t6]
  exact h
theorem mIm_c {T T' w w' : wW} (h : mIm T w) (h43 : w' 135 43 = w 135 43) (h44 : w' 135 44 = w 135 44) (he : ∀ k i, 154 ≤ k → k ≤ 156 → w' k i = w k i) (hu : T' 4 7 = T' 4 4 → ∀ i, 7 ≤ i → i < 16 → T 4 7 = T 4 4 ∧ w' 139 i = w 139 i) (t : ∀ k i, (k = 4 ∧ i = 7) ∨ (9 ≤ k ∧ k ≤ 11) ∨ (30 ≤ k ∧ k < 38) → T' k i = T k i) (hy : ¬ T 4 7 = 0 → T 11 0 ≤ 8) : mIm T' w' := by
  obtain ⟨i1, i2⟩ := h
  have t47 := t 4 7 (by omega)
  refine ⟨fun q => by rw [t47] at q; rw [h44]; exact i1 q, fun q => ?_⟩
  have q' := q
  rw [t47] at q'
  obtain ⟨j1, j2, j3, j4, j5, j6⟩ := i2 q'
  have hy8 := hy q'
  refine ⟨by rw [h44, t47]; exact j1, by rw [h43, t 11 0 (by omega)]; exact j2, fun j hj => by rw [he 154 j (by decide) (by decide), t 9 j (by omega)]; exact j3 j hj, fun q2 i a b => ?_, fun m hm => by rw [he 156 m (by decide) (by decide), t 10 m (by omega)]; exact j5 m hm, fun y m hy' hm => ?_⟩
  · obtain ⟨a1, a2⟩ := hu q2 i a b
    rw [he 154 i (by decide) (by decide), a2]
    exact j4 a1 i a b
  · rw [t 11 0 (by omega)] at hy'
    rw [he 155 _ (by decide) (by decide), t (30 + y) m (by omega)]
    exact j6 y m hy' hm
