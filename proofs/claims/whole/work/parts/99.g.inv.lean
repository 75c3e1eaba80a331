/-! what holds ahead of every call: the class's own cells (CI), the reference's (MI); both say the state S, T -/
theorem aRun_cg {st : Int → aS → Int × aS} {t t' : Nat → Int} : ∀ (n k : Nat) (s : aS), (∀ i, k ≤ i → i < k + n → t i = t' i) → aRun st t n k s = aRun st t' n k s
  | 0, _, _, _ => rfl
  | n + 1, k, s, h => by
    simp only [aRun]
    rw [h k (Nat.le_refl _) (by omega), aRun_cg n (k + 1) _ (fun i a b => h i (by omega) (by omega))]
theorem pEnd_ne {len : Int} {p : pP} : ¬ pEnd len p = 0 ↔ (¬ p.2.1 = 0 ∧ p.1 = len) := by
  unfold pEnd
  by_cases q : ¬ p.2.1 = 0 ∧ p.1 = len
  · rw [if_pos q]
    exact ⟨fun _ => q, fun _ => by decide⟩
  · rw [if_neg q]
    exact ⟨fun z => absurd rfl z, fun z => absurd z q⟩
/-- both pages hold the same letters -/
def tL (w : wW) : Prop := (w 1 2 = w 135 1 ∧ 0 ≤ w 1 2) ∧ ∀ i, i < (w 1 2).toNat → w 2 i = w 136 i
theorem rd_eq {w : wW} (h : tL w) (sort : Int) : aA (aSt sort) (w 2) (w 1 2).toNat (mrd w sort) 0 (aS0 w) :=
  ⟨Nat.zero_le _, by rw [Nat.sub_zero]; unfold mrd; rw [← h.1.1]; exact aRun_cg _ _ _ (fun i _ hi => h.2 i (by omega))⟩
theorem mrd_of {w w' : wW} (h : ∀ k i, 135 ≤ k → w' k i = w k i) (sort : Int) : mrd w' sort = mrd w sort := by
  have e6 : w' 136 = w 136 := funext fun i => h 136 i (by decide)
  have e7 : w' 137 = w 137 := funext fun i => h 137 i (by decide)
  have e8 : w' 138 = w 138 := funext fun i => h 138 i (by decide)
  unfold mrd aS0
  rw [e6, e7, e8, h 135 1 (by decide)]
theorem rd_house {w : wW} (h : tL w) : (pAll (w 2) (w 1 2) 0 (pq w)).1 = ((mrd w 0).1 : Int) ∧ (¬ pEnd (w 1 2) (pAll (w 2) (w 1 2) 0 (pq w)) = 0 ↔ ¬ mhB w) ∧ (¬ mhB w → (pAll (w 2) (w 1 2) 0 (pq w)).2.2.2 = (mrd w 0).2.2.2.1 ∧ (1 ≤ (pAll (w 2) (w 1 2) 0 (pq w)).2.2.2 ∧ (pAll (w 2) (w 1 2) 0 (pq w)).2.2.2 ≤ 3) ∧ ∀ i : Nat, (i : Int) < 7 + 3 * (pAll (w 2) (w 1 2) 0 (pq w)).2.2.2 → (pAll (w 2) (w 1 2) 0 (pq w)).2.2.1 i = (mrd w 0).2.1 i) := by
  have hA := rd_eq h 0
  have hl : w 1 2 = ((w 1 2).toNat : Int) := by have := h.1.2; omega
  have eA : aSt 0 = gH := if_pos rfl
  have eP : pAll (w 2) (w 1 2) 0 (pq w) = pHs (w 2) (w 1 2) (0, 1, (pq w).2.2.1, (pq w).2.2.2) := if_pos rfl
  rw [eA] at hA
  have hf := rx_fin hl (rx_house (f := (pq w).2.2.1) (v := (pq w).2.2.2) hl hA rfl rfl (fun i hi => if_pos hi))
  rw [← eP] at hf
  have hb : mhB w ↔ hBad (w 1 2).toNat (mrd w 0) := by
    have := h.1.1
    unfold mhB hBad hFin
    constructor
    · rintro (q | q | q)
      · exact Or.inl (by omega)
      · exact Or.inr (fun z => q z.1)
      · exact Or.inr (fun z => z.2 q)
    · rintro (q | q)
      · exact Or.inl (by omega)
      · by_cases z : (mrd w 0).2.2.2.2.1 = 9
        · by_cases z2 : (mrd w 0).2.2.2.2.2.1 = 0
          · exact Or.inr (Or.inr z2)
          · exact absurd ⟨z, z2⟩ q
        · exact Or.inr (Or.inl z)
  refine ⟨hf.1, ?_, fun q => hf.2.2 (fun z => q (hb.2 z))⟩
  rw [hb, ← hf.2.1]
  exact pEnd_ne
theorem rd_year {w : wW} (h : tL w) : (pAll (w 2) (w 1 2) 1 (pq w)).1 = ((mrd w 1).1 : Int) ∧ (¬ pEnd (w 1 2) (pAll (w 2) (w 1 2) 1 (pq w)) = 0 ↔ ¬ myB w) ∧ (¬ myB w → ∀ i, i < 12 → (pAll (w 2) (w 1 2) 1 (pq w)).2.2.1 i = (mrd w 1).2.2.1 i) := by
  have hA := rd_eq h 1
  have hl : w 1 2 = ((w 1 2).toNat : Int) := by have := h.1.2; omega
  have eA : aSt 1 = gY := by unfold aSt; rw [if_neg (by decide), if_pos rfl]
  have eP : pAll (w 2) (w 1 2) 1 (pq w) = pYr (w 2) (w 1 2) 12 0 (0, 1, (pq w).2.2.1, (pq w).2.2.2) := by unfold pAll; rw [if_neg (by decide), if_pos rfl]
  rw [eA] at hA
  have hf := yr_fin (f := (pq w).2.2.1) (v := (pq w).2.2.2) hl hA rfl
  rw [← eP] at hf
  have hb : myB w ↔ yBad (w 1 2).toNat (mrd w 1) := by
    have := h.1.1
    unfold myB yBad
    constructor
    · rintro (q | q)
      · exact Or.inl (by omega)
      · exact Or.inr q
    · rintro (q | q)
      · exact Or.inl (by omega)
      · exact Or.inr q
  refine ⟨hf.1, ?_, fun q => hf.2.2 (fun z => q (hb.2 z))⟩
  rw [hb, ← hf.2.1]
  exact pEnd_ne
theorem rd_told {w : wW} (h : tL w) : (pAll (w 2) (w 1 2) 2 (pq w)).1 = ((mrd w 2).1 : Int) ∧ (¬ pEnd (w 1 2) (pAll (w 2) (w 1 2) 2 (pq w)) = 0 ↔ ¬ mlB w) ∧ (¬ mlB w → ∀ i, i < 12 → (pAll (w 2) (w 1 2) 2 (pq w)).2.2.1 i = (mrd w 2).2.2.1 i) := by
  have hA := rd_eq h 2
  have hl : w 1 2 = ((w 1 2).toNat : Int) := by have := h.1.2; omega
  have eA : aSt 2 = gT := by unfold aSt; rw [if_neg (by decide), if_neg (by decide)]
  have eP : pAll (w 2) (w 1 2) 2 (pq w) = pRl (w 2) (w 1 2) 12 0 (0, 1, (pq w).2.2.1, (pq w).2.2.2) := by unfold pAll; rw [if_neg (by decide), if_neg (by decide)]
  rw [eA] at hA
  have hf := lx_fin (f := (pq w).2.2.1) (v := (pq w).2.2.2) hl hA rfl rfl
  rw [← eP] at hf
  have hb : mlB w ↔ lBad (w 1 2).toNat (mrd w 2) := by
    have := h.1.1
    unfold mlB lBad
    constructor
    · rintro (q | q)
      · exact Or.inl (by omega)
      · exact Or.inr q
    · rintro (q | q)
      · exact Or.inl (by omega)
      · exact Or.inr q
  refine ⟨hf.1, ?_, fun q => hf.2.2 (fun z => q (hb.2 z))⟩
  rw [hb, ← hf.2.1]
  exact pEnd_ne
/-- the page's numbers stay numbers of the machine -/
theorem fT_up {f : Nat → Int} {j : Nat} {v : Int} (h : fT f) (hv : inI v) : fT (fup f j v) := by
  intro u hu
  unfold fup
  split
  · exact hv
  · exact h u hu
theorem pYr_fT {t : Nat → Int} {len : Int} : ∀ (n m : Nat) {p : pP}, pI len p → fT p.2.2.1 → fT (pYr t len n m p).2.2.1
  | 0, _, _, _, h => h
  | n + 1, m, p, hI, h => by
    simp only [pYr]
    split
    · exact h
    · refine pYr_fT n (m + 1) (pSet_I (pNum_I (by decide) hI)) ?_
      have hv := pNumV_in (t := t) (least := 0) (most := 9) (by decide) (by decide) hI
      show fT (fup (pNum t len 0 9 p).2.2.1 m _)
      rw [pNum_f]
      exact fT_up h ⟨by omega, by omega⟩
theorem pRl_fT {t : Nat → Int} {len : Int} : ∀ (n m : Nat) {p : pP}, pI len p → fT p.2.2.1 → fT (pRl t len n m p).2.2.1
  | 0, _, _, _, h => h
  | n + 1, m, p, hI, h => by
    simp only [pRl]
    split
    · exact h
    · refine pRl_fT n (m + 1) (pSet_I (pNum_I (by decide) (pRs_I hI))) ?_
      have hv := pNumV_in (t := t) (least := 0) (most := 99) (by decide) (by decide) (pRs_I (t := t) (m := m) hI)
      show fT (fup (pNum t len 0 99 (pRs t len m p)).2.2.1 m _)
      rw [pNum_f]
      refine fT_up ?_ ⟨by omega, by omega⟩
      unfold pRs
      split
      · rw [pSign_f]; exact h
      · exact h
theorem pAll_fT {t : Nat → Int} {len sort : Int} {p : pP} (hl : 0 ≤ len) (h : fT p.2.2.1) : fT (pAll t len sort p).2.2.1 := by
  have hI : pI len (0, 1, p.2.2) := ⟨⟨Int.le_refl _, hl⟩, Or.inr rfl⟩
  unfold pAll
  split
  · exact (pHs_f hI).2.1 h
  · split
    · exact pYr_fT 12 0 hI h
    · exact pRl_fT 12 0 hI h
/-- a house's seven numbers -/
def hN (f : Nat → Int) : Prop := (1 ≤ f 0 ∧ f 0 ≤ 20) ∧ (0 ≤ f 1 ∧ f 1 ≤ 200) ∧ (0 ≤ f 2 ∧ f 2 ≤ 9) ∧ (0 ≤ f 3 ∧ f 3 ≤ 9) ∧ (0 ≤ f 4 ∧ f 4 ≤ 9) ∧ (0 ≤ f 5 ∧ f 5 ≤ 5) ∧ (0 ≤ f 6 ∧ f 6 ≤ 9)
/-- the image that is kept, as the state says it -/
def tIm (T : wW) : Prop := (0 ≤ T 4 7 ∧ T 4 7 ≤ T 4 4) ∧ (¬ T 4 7 = 0 → (0 ≤ T 11 0 ∧ T 11 0 ≤ 8) ∧ hN (T 9) ∧ (∀ m, m < 12 → -1 ≤ T 10 m ∧ T 10 m ≤ 200) ∧ ∀ y m, y < (T 11 0).toNat → m < 12 → 0 ≤ T (30 + y) m ∧ T (30 + y) m ≤ 9)
def cIm (T w : wW) : Prop := w 21 3 = T 4 7 ∧ (¬ T 4 7 = 0 → w 24 1 = T 11 0 ∧ (∀ j, j < 7 → w 22 j = T 9 j) ∧ (∀ m, m < 12 → w 23 m = T 10 m) ∧ ∀ y m, y < (T 11 0).toNat → m < 12 → w (26 + y) m = T (30 + y) m)
def mIm (T w : wW) : Prop := (T 4 7 = 0 → w 135 44 = -1) ∧ (¬ T 4 7 = 0 → w 135 44 = T 4 7 ∧ w 135 43 = T 11 0 ∧ (∀ j, j < 7 → w 154 j = T 9 j) ∧ (T 4 7 = T 4 4 → ∀ i, 7 ≤ i → i < 16 → w 154 i = w 139 i) ∧ (∀ m, m < 12 → w 156 m = T 10 m) ∧ ∀ y m, y < (T 11 0).toNat → m < 12 → w 155 (12 * y + m) = T (30 + y) m)
def CI (S T w : wW) (n : Int) : Prop := RQ S T w ∧ RQ2 S T w ∧ PA w ∧ TR w ∧ cvI S T w ∧ fT (w 3) ∧ (∀ u, u < 3 → inI (w 8 u)) ∧ (0 ≤ w 0 15 ∧ w 0 15 ≤ n) ∧ (0 ≤ T 4 4 ∧ T 4 4 ≤ n) ∧ (∀ r, r < 8 → rR w (36 + r)) ∧ tIm T ∧ cIm T w
def MI (S T w : wW) : Prop := mMQ S T w ∧ mRQ2 S T w ∧ mIm T w
theorem CI.rq {S T w : wW} {n : Int} (h : CI S T w n) : RQ S T w := h.1
theorem CI.rq2 {S T w : wW} {n : Int} (h : CI S T w n) : RQ2 S T w := h.2.1
theorem CI.pa {S T w : wW} {n : Int} (h : CI S T w n) : PA w := h.2.2.1
theorem CI.tr {S T w : wW} {n : Int} (h : CI S T w n) : TR w := h.2.2.2.1
theorem CI.cv {S T w : wW} {n : Int} (h : CI S T w n) : cvI S T w := h.2.2.2.2.1
theorem CI.ft {S T w : wW} {n : Int} (h : CI S T w n) : fT (w 3) := h.2.2.2.2.2.1
theorem CI.i8 {S T w : wW} {n : Int} (h : CI S T w n) : ∀ u, u < 3 → inI (w 8 u) := h.2.2.2.2.2.2.1
theorem CI.ver {S T w : wW} {n : Int} (h : CI S T w n) : 0 ≤ w 0 15 ∧ w 0 15 ≤ n := h.2.2.2.2.2.2.2.1
theorem CI.hn {S T w : wW} {n : Int} (h : CI S T w n) : 0 ≤ T 4 4 ∧ T 4 4 ≤ n := h.2.2.2.2.2.2.2.2.1
theorem CI.sp {S T w : wW} {n : Int} (h : CI S T w n) : ∀ r, r < 8 → rR w (36 + r) := h.2.2.2.2.2.2.2.2.2.1
theorem CI.ti {S T w : wW} {n : Int} (h : CI S T w n) : tIm T := h.2.2.2.2.2.2.2.2.2.2.1
theorem CI.im {S T w : wW} {n : Int} (h : CI S T w n) : cIm T w := h.2.2.2.2.2.2.2.2.2.2.2
theorem MI.mq {S T w : wW} (h : MI S T w) : mMQ S T w := h.1
theorem MI.q2 {S T w : wW} (h : MI S T w) : mRQ2 S T w := h.2.1
theorem MI.im {S T w : wW} (h : MI S T w) : mIm T w := h.2.2
theorem tL_of {S T w : wW} {n : Int} (h : CI S T w n) (g : MI S T w) : tL w := by
  obtain ⟨-, -, -, ⟨h1, h2, -, h4⟩, -⟩ := h.rq2
  obtain ⟨-, -, ⟨g1, g2, -, g4⟩, -⟩ := g.q2
  exact ⟨⟨by rw [h2, g2], by omega⟩, fun i hi => by rw [h4 i (by omega), g4 i (by omega)]⟩
theorem tI_of {S T w : wW} {n : Int} (h : CI S T w n) : tI w := by
  obtain ⟨-, -, -, ⟨h1, h2, h3, -⟩, -⟩ := h.rq2
  exact ⟨by omega, h3⟩
theorem mtI_of {S T w : wW} (g : MI S T w) : mtI w := by
  obtain ⟨-, -, ⟨g1, g2, g3, -⟩, -⟩ := g.q2
  exact ⟨by omega, g3⟩
/-- what a question leaves of the class's cells -/
def cK (k i : Nat) : Prop := k < 56 ∧ ¬ (k = 0 ∧ (i = 13 ∨ i = 14)) ∧ ¬ ((36 ≤ k ∧ k < 44) ∧ 3 ≤ i) ∧ ¬ (k = 45 ∧ (i = 1 ∨ i = 2))
def tK (T T' : wW) : Prop := ∀ k i, ¬ (k = 4 ∧ (i = 5 ∨ i = 6)) → T' k i = T k i
theorem tK_r (T : wW) : tK T T := fun _ _ _ => rfl
theorem rS_T (S : wW) {T T' : wW} {r : Nat} (h5 : T' 5 r = T 5 r) (h6 : T' 6 r = T 6 r) (h7 : ∀ m, T' (40 + r) m = T (40 + r) m) : rS S T' r = rS S T r := by
  funext m lv wet j
  unfold rS
  rw [h5, h6, h7]
theorem rR_q {w w' : wW} {a : Nat} (h : rR w a) (h1 : w' a 1 = w a 1) (h2 : w' a 2 = w a 2) (h3 : ∀ m, w' (a + 10) m = w (a + 10) m) : rR w' a := by
  obtain ⟨a1, a2, a3, a4⟩ := h
  exact ⟨a1, by rw [h1]; exact a2, by rw [h2]; exact a3, fun m hm => by rw [h3]; exact a4 m hm⟩
theorem CI_q {S T T' w w' : wW} {n : Int} (h : CI S T w n) (ht : tK T T') (he : ∀ k i, cK k i → w' k i = w k i) (hw : wiI S w') (hc : cvI S T w') (ha : (0 ≤ T' 4 5 ∧ T' 4 5 ≤ 20) ∧ w' 0 13 = T' 4 5) (hb : (0 ≤ T' 4 6 ∧ T' 4 6 ≤ 2) ∧ w' 0 14 = T' 4 6) : CI S T' w' n := by
  obtain ⟨⟨a1, a2, a3, a4, a5, a6⟩, ⟨b1, b2, b3, b4, b5, b6⟩, pa, tr, cv, ft, i8, ver, hn, sp, ti, im⟩ := h
  have t42 : T' 4 2 = T 4 2 := ht 4 2 (by omega)
  have t43 : T' 4 3 = T 4 3 := ht 4 3 (by omega)
  have t44 : T' 4 4 = T 4 4 := ht 4 4 (by omega)
  have t47 : T' 4 7 = T 4 7 := ht 4 7 (by omega)
  have tx : ∀ k i, k ≠ 4 → T' k i = T k i := fun k i q => ht k i (by omega)
  have hl : ∀ k i, k < 36 → k ≠ 0 → w' k i = w k i := fun k i q q0 => he k i ⟨by omega, by omega, by omega, by omega⟩
  have h0 : ∀ i, i ≠ 13 → i ≠ 14 → w' 0 i = w 0 i := fun i q q0 => he 0 i ⟨by omega, by omega, by omega, by omega⟩
  have hm : ∀ k i, 44 ≤ k → k < 56 → k ≠ 45 → w' k i = w k i := fun k i q q0 q1 => he k i ⟨by omega, by omega, by omega, by omega⟩
  have hx : ∀ k i, 36 ≤ k → k < 44 → i < 3 → w' k i = w k i := fun k i q q0 q1 => he k i ⟨by omega, by omega, by omega, by omega⟩
  have hr : ∀ r, r < 8 → rR w' (36 + r) := fun r hr => rR_q (sp r hr) (hx _ 1 (by omega) (by omega) (by decide)) (hx _ 2 (by omega) (by omega) (by decide)) (fun m => hm _ m (by omega) (by omega) (by omega))
  have e3 : w' 3 = w 3 := funext fun i => hl 3 i (by decide) (by decide)
  have hrq : RQ S T' w' := by
    refine ⟨⟨by rw [t42]; exact a1.1, by rw [h0 11 (by decide) (by decide), t42]; exact a1.2⟩, ⟨by rw [t44]; exact a2.1, by rw [h0 12 (by decide) (by decide), t44]; exact a2.2⟩, ⟨a3.1, yX_of a3.1 a3.2 (fun k i hk => hl k i (by omega) (by omega))⟩, fun q => ?_, hw, fun r hr' => ?_⟩
    · rw [t44] at q
      exact ⟨(a4 q).1, hX_of (a4 q).2 (fun k i hk => hl k i (by omega) (by omega))⟩
    · rw [t42] at hr'
      obtain ⟨c1, c2, c3⟩ := (a6 r hr').2
      refine ⟨hr r (by omega), ?_, ?_, fun m hm' => ?_⟩
      · rw [hx _ 1 (by omega) (by omega) (by decide), tx 5 r (by decide)]; exact c1
      · rw [hx _ 2 (by omega) (by omega) (by decide), tx 6 r (by decide)]; exact c2
      · rw [hm _ m (by omega) (by omega) (by omega), tx (40 + r) m (by omega)]; exact c3 m hm'
  refine ⟨hrq, ?_, ?_, fun m hm' => by rw [hm 55 m (by decide) (by decide) (by decide)]; exact tr m hm', fun r hr' => ?_, by rw [e3]; exact ft, fun u hu => by rw [hl 8 u (by decide) (by decide)]; exact i8 u hu, by rw [h0 15 (by decide) (by decide)]; exact ver, by rw [t44]; exact hn, hr, ?_, ?_⟩
  · refine ⟨by rw [t44]; exact b1, ⟨b2.1, by rw [hl 4 6 (by decide) (by decide)]; exact b2.2⟩, fun m hm' => ?_, ?_, ha, hb⟩
    · rw [tx 7 m (by decide), hl 34 m (by decide) (by decide)]; exact b3 m hm'
    · rw [t43]
      obtain ⟨d1, d2, d3, d4⟩ := b4
      exact ⟨d1, by rw [hl 1 2 (by decide) (by decide)]; exact d2, fun i hi => by rw [hl 2 i (by decide) (by decide)]; exact d3 i hi, fun i hi => by rw [hl 2 i (by decide) (by decide), tx 8 i (by decide)]; exact d4 i hi⟩
  · obtain ⟨p1, p2, p3⟩ := pa
    exact ⟨rR_q p1 (hm _ 1 (by decide) (by decide) (by decide)) (hm _ 2 (by decide) (by decide) (by decide)) (fun m => hm _ m (by decide) (by decide) (by decide)), by rw [hm 44 1 (by decide) (by decide) (by decide)]; exact p2, by rw [hm 44 2 (by decide) (by decide) (by decide)]; exact p3⟩
  · have hs := rS_T S (T := T) (T' := T') (r := r) (tx 5 r (by decide)) (tx 6 r (by decide)) (fun m => tx (40 + r) m (by omega))
    have c := hc r hr'
    unfold cvR surN meaN at c ⊢
    rw [t42, hs]
    exact c
  · obtain ⟨i1, i2⟩ := ti
    refine ⟨by rw [t47, t44]; exact i1, fun q => ?_⟩
    rw [t47] at q
    obtain ⟨j1, j2, j3, j4⟩ := i2 q
    have e9 : T' 9 = T 9 := funext fun i => tx 9 i (by decide)
    rw [e9, tx 11 0 (by decide)]
    exact ⟨j1, j2, fun m hm' => by rw [tx 10 m (by decide)]; exact j3 m hm', fun y m hy hm' => by rw [tx (30 + y) m (by omega)]; exact j4 y m hy hm'⟩
  · obtain ⟨i1, i2⟩ := im
    refine ⟨by rw [t47, hl 21 3 (by decide) (by decide)]; exact i1, fun q => ?_⟩
    rw [t47] at q
    obtain ⟨j1, j2, j3, j4⟩ := i2 q
    have := (ti.2 q).1
    refine ⟨by rw [hl 24 1 (by decide) (by decide), tx 11 0 (by decide)]; exact j1, fun j hj => by rw [hl 22 j (by decide) (by decide), tx 9 j (by decide)]; exact j2 j hj, fun m hm' => by rw [hl 23 m (by decide) (by decide), tx 10 m (by decide)]; exact j3 m hm', fun y m hy hm' => ?_⟩
    rw [tx 11 0 (by decide)] at hy
    rw [hl _ m (by omega) (by omega), tx (30 + y) m (by omega)]
    exact j4 y m hy hm'
theorem CI_o {S T w w' : wW} {n : Int} (h : CI S T w n) (he : ∀ k i, k < 135 → w' k i = w k i) : CI S T w' n := by
  refine CI_q h (tK_r T) (fun k i hk => he k i (by have := hk.1; omega)) (wiI_of h.rq.2.2.2.2.1 (fun k i hk => he k i (by omega))) (fun r hr' => ?_) ⟨h.rq2.2.2.2.2.1.1, by rw [he 0 13 (by decide)]; exact h.rq2.2.2.2.2.1.2⟩ ⟨h.rq2.2.2.2.2.2.1, by rw [he 0 14 (by decide)]; exact h.rq2.2.2.2.2.2.2⟩
  have hx : ∀ i, w' (36 + r) i = w (36 + r) i := fun i => he _ i (by omega)
  unfold cvR
  rw [hx, hx, hx, hx, he 0 15 (by decide)]
  exact h.cv r hr'
/-- what a question leaves of the reference's cells -/
def mK (k i : Nat) : Prop := 135 ≤ k ∧ ¬ (144 ≤ k ∧ k ≤ 152) ∧ ¬ (k = 135 ∧ ((17 ≤ i ∧ i ≤ 23) ∨ i = 31 ∨ i = 32 ∨ (35 ≤ i ∧ i ≤ 38) ∨ i = 45))
theorem MI_q {S T T' w w' : wW} (h : MI S T w) (ht : tK T T') (he : ∀ k i, mK k i → w' k i = w k i) (ha : (0 ≤ T' 4 5 ∧ T' 4 5 ≤ 20) ∧ w' 135 32 = T' 4 5) (hb : (0 ≤ T' 4 6 ∧ T' 4 6 ≤ 2) ∧ w' 135 38 = T' 4 6) : MI S T' w' := by
  obtain ⟨⟨h1, h2, h3, h4, h5, h6⟩, ⟨b1, b2, b3, b4, b5⟩, i1, i2⟩ := h
  have t42 : T' 4 2 = T 4 2 := ht 4 2 (by omega)
  have t43 : T' 4 3 = T 4 3 := ht 4 3 (by omega)
  have t44 : T' 4 4 = T 4 4 := ht 4 4 (by omega)
  have t47 : T' 4 7 = T 4 7 := ht 4 7 (by omega)
  have tx : ∀ k i, k ≠ 4 → T' k i = T k i := fun k i q => ht k i (by omega)
  have hx : ∀ k i, 136 ≤ k → k ≤ 143 → w' k i = w k i := fun k i a b => he k i ⟨by omega, by omega, by omega⟩
  have hz : ∀ k i, 153 ≤ k → w' k i = w k i := fun k i a => he k i ⟨by omega, by omega, by omega⟩
  have h9 : w' 135 9 = w 135 9 := he 135 9 ⟨by omega, by omega, by omega⟩
  have h10 : w' 135 10 = w 135 10 := he 135 10 ⟨by omega, by omega, by omega⟩
  have h11 : w' 135 11 = w 135 11 := he 135 11 ⟨by omega, by omega, by omega⟩
  have h13 : w' 135 13 = w 135 13 := he 135 13 ⟨by omega, by omega, by omega⟩
  have h01 : w' 135 1 = w 135 1 := he 135 1 ⟨by omega, by omega, by omega⟩
  have h43 : w' 135 43 = w 135 43 := he 135 43 ⟨by omega, by omega, by omega⟩
  have h44 : w' 135 44 = w 135 44 := he 135 44 ⟨by omega, by omega, by omega⟩
  refine ⟨⟨⟨by rw [t42]; exact h1.1, by rw [h13, t42]; exact h1.2⟩, ⟨by rw [h9]; exact h2.1, by rw [t44]; exact h2.2⟩, ⟨h3.1, mY_of h3.2 h11 (fun i => hx 140 i (by decide) (by decide))⟩, fun q => ?_, fun r hr => mrR_c (h5 r hr) (fun k i a b => hx k i (by omega) (by omega)), fun r hr => ?_⟩, ⟨⟨by rw [t44]; exact b1.1, by rw [h10, t44]; exact b1.2⟩, fun m hm => ?_, ?_, ha, hb⟩, ?_, ?_⟩
  · rw [t44] at q
    exact ⟨(h4 q).1, mH_of (h4 q).2 h9 (fun i => hx 139 i (by decide) (by decide))⟩
  · rw [t42] at hr
    obtain ⟨⟨a1, a2, a3⟩, b, c, d⟩ := h6 r hr
    refine ⟨⟨by rw [tx 5 r (by decide)]; exact a1, by rw [tx 6 r (by decide)]; exact a2, fun m hm => by rw [tx (40 + r) m (by omega)]; exact a3 m hm⟩, by rw [hx 141 _ (by decide) (by decide), tx 5 r (by decide)]; exact b, by rw [hx 142 _ (by decide) (by decide), tx 6 r (by decide)]; exact c, fun q m hm => ?_⟩
    rw [tx 5 r (by decide)] at q
    rw [hx 143 _ (by decide) (by decide), tx (40 + r) m (by omega)]
    exact d q m hm
  · rw [tx 7 m (by decide), hz 153 m (by decide)]
    exact b2 m hm
  · rw [t43]
    obtain ⟨d1, d2, d3, d4⟩ := b3
    exact ⟨d1, by rw [h01]; exact d2, fun i hi => by rw [hx 136 i (by decide) (by decide)]; exact d3 i hi, fun i hi => by rw [hx 136 i (by decide) (by decide), tx 8 i (by decide)]; exact d4 i hi⟩
  · intro q
    rw [t47] at q
    rw [h44]
    exact i1 q
  · intro q
    rw [t47] at q
    obtain ⟨j1, j2, j3, j4, j5, j6⟩ := i2 q
    refine ⟨by rw [h44, t47]; exact j1, by rw [h43, tx 11 0 (by decide)]; exact j2, fun j hj => by rw [hz 154 j (by decide), tx 9 j (by decide)]; exact j3 j hj, fun q2 i a b => ?_, fun m hm => by rw [hz 156 m (by decide), tx 10 m (by decide)]; exact j5 m hm, fun y m hy hm => ?_⟩
    · rw [t47, t44] at q2
      rw [hz 154 i (by decide), hx 139 i (by decide) (by decide)]
      exact j4 q2 i a b
    · rw [tx 11 0 (by decide)] at hy
      rw [hz 155 _ (by decide), tx (30 + y) m (by omega)]
      exact j6 y m hy hm
theorem MI_o {S T w w' : wW} (h : MI S T w) (he : ∀ k i, 135 ≤ k → w' k i = w k i) : MI S T w' :=
  MI_q h (tK_r T) (fun k i hk => he k i hk.1) ⟨h.q2.2.2.2.1.1, by rw [he 135 32 (by decide)]; exact h.q2.2.2.2.1.2⟩ ⟨h.q2.2.2.2.2.1, by rw [he 135 38 (by decide)]; exact h.q2.2.2.2.2.2⟩
