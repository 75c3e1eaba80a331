/-! both readings are the same: at place k, all well so far, in state s; T: how the reference's reading ends -/
def aA (st : Int → aS → Int × aS) (t : Nat → Int) (N : Nat) (T : Nat × aS) (k : Nat) (s : aS) : Prop := k ≤ N ∧ aRun st t (N - k) k s = T
theorem aA_step {st : Int → aS → Int × aS} {t : Nat → Int} {N : Nat} {T : Nat × aS} {k : Nat} {s : aS} (h : aA st t N T k s) (hk : k < N) (ha : (st (t k) s).1 ≠ 0) : aA st t N T (k + 1) (st (t k) s).2 := by
  obtain ⟨h1, h2⟩ := h
  refine ⟨by omega, ?_⟩
  rw [show N - k = (N - (k + 1)) + 1 by omega] at h2
  simp only [aRun] at h2
  rw [if_neg ha] at h2
  exact h2
theorem aA_stop {st : Int → aS → Int × aS} {t : Nat → Int} {N : Nat} {T : Nat × aS} {k : Nat} {s : aS} (h : aA st t N T k s) (hk : k < N) (ha : (st (t k) s).1 = 0) : T.1 = k := by
  obtain ⟨h1, h2⟩ := h
  rw [show N - k = (N - (k + 1)) + 1 by omega] at h2
  simp only [aRun] at h2
  rw [if_pos ha] at h2
  rw [← h2]
theorem aA_end {st : Int → aS → Int × aS} {t : Nat → Int} {N : Nat} {T : Nat × aS} {s : aS} (h : aA st t N T N s) : T = (N, s) := by
  obtain ⟨h1, h2⟩ := h
  rw [Nat.sub_self] at h2
  exact h2.symm
theorem fup_fup (f : Nat → Int) (j : Nat) (a b : Int) : fup (fup f j a) j b = fup f j b := by
  funext i
  unfold fup
  split <;> rfl
theorem fup_id (f : Nat → Int) (j : Nat) : fup f j (f j) = f := by
  funext i
  unfold fup
  split
  · rename_i h; rw [h]
  · rfl
def hFin (s : aS) : Prop := s.2.2.2.1 = 9 ∧ ¬ s.2.2.2.2.1 = 0
def hBad (N : Nat) (T : Nat × aS) : Prop := T.1 < N ∨ ¬ hFin T.2
def RB (N : Nat) (T : Nat × aS) (p : pP) : Prop := p.2.1 = 0 ∧ p.1 = (T.1 : Int) ∧ hBad N T
def stk (t : Nat → Int) (N : Nat) (d v : Int) (k : Nat) : Prop := k < N → 48 ≤ t k → t k ≤ 57 → v ≤ 0 ∨ m_high d < 10 * v + t k - 48
def RX (t : Nat → Int) (N : Nat) (T : Nat × aS) (b d u : Int) (m : Nat) (p : pP) : Prop := ¬ p.2.1 = 0 ∧ ∃ (k : Nat) (s : aS), p.1 = k ∧ aA gH t N T k s ∧ s.2.2.2.1 = d ∧ s.2.2.2.2.1 = b ∧ s.2.2.1 = u ∧ (b = 1 → stk t N d (s.1 (plc d u).toNat) k) ∧ (∀ i, i < m → p.2.2.1 i = s.1 i) ∧ (∀ i, m ≤ i → i < 16 → s.1 i = 0)
theorem gH_no {c : Int} {s : aS} {d : Int} (h9 : 0 ≤ d ∧ d ≤ 9) (hd : s.2.2.2.1 = d) (hc : ¬ (48 ≤ c ∧ c ≤ 57)) : gH c s = ((if gNx c s ≠ -1 ∧ (gNx c s ≠ 10 ∨ s.2.2.1 < 3) then 1 else 0), (s.1, s.2.1, s.2.2.1, gNx c s, 0, s.2.2.2.2.2)) := by
  unfold gH
  rw [if_neg (by omega), if_neg (by omega), if_neg hc]
theorem gH_di {c : Int} {s : aS} {d : Int} (h9 : 0 ≤ d ∧ d ≤ 9) (hd : s.2.2.2.1 = d) (hc : 48 ≤ c ∧ c ≤ 57) : gH c s = gN c s := by
  unfold gH
  rw [if_neg (by omega), if_neg (by omega), if_pos hc]
theorem rb_sign {t : Nat → Int} {N : Nat} {T : Nat × aS} {len c : Int} {p : pP} (h : RB N T p) : RB N T (pSign t len c p) := by
  unfold pSign
  rw [if_neg (fun q => q.1 h.1)]
  exact ⟨rfl, h.2⟩
theorem rx_stop {t : Nat → Int} {N : Nat} {T : Nat × aS} {d u : Int} {k : Nat} {s : aS} (hA : aA gH t N T k s) (h9 : 0 ≤ d ∧ d ≤ 9) (hd : s.2.2.2.1 = d) (hb : s.2.2.2.2.1 = 1) (hu : s.2.2.1 = u) (hs : stk t N d (s.1 (plc d u).toNat) k) (hk : k < N) (ho : ¬ (48 ≤ t k ∧ t k ≤ 57) → mBe d (t k) = -1 ∨ (mBe d (t k) = 10 ∧ 3 ≤ u)) : T.1 = k := by
  refine aA_stop hA hk ?_
  by_cases q : 48 ≤ t k ∧ t k ≤ 57
  · rw [gH_di h9 hd q]
    unfold gN
    rw [if_neg (by omega)]
    dsimp only
    rw [hd, hu]
    have := hs hk q.1 q.2
    rw [if_neg (by omega)]
  · rw [gH_no h9 hd q]
    have e : gNx (t k) s = mBe d (t k) := by unfold gNx; rw [if_neg (by omega), hd]
    dsimp only
    rw [e, hu]
    have := ho q
    rw [if_neg (by omega)]
theorem rx_sign {t : Nat → Int} {N : Nat} {T : Nat × aS} {len c d d' u : Int} {m : Nat} {p : pP} (hlen : len = N) (h9 : 0 ≤ d ∧ d ≤ 9) (hc : ¬ (48 ≤ c ∧ c ≤ 57)) (hd' : mBe d c = d') (h1 : d' ≠ -1) (h10 : d' = 10 → u < 3) (hfin : d ≠ 9 ∨ p.1 < len) (ho : p.1 < len → t p.1.toNat ≠ c → mBe d (t p.1.toNat) = -1) (h : RB N T p ∨ RX t N T 1 d u m p) : RB N T (pSign t len c p) ∨ RX t N T 0 d' u m (pSign t len c p) := by
  rcases h with h | h
  · exact Or.inl (rb_sign h)
  · obtain ⟨hf, k, s, hp, hA, hd, hb, hu, hs, hm1, hm2⟩ := h
    have hs := hs rfl
    have hkN := hA.1
    rw [hp, Int.toNat_natCast] at ho
    by_cases q : k < N ∧ t k = c
    · have e1 : pSign t len c p = (p.1 + 1, 1, p.2.2) := by
        unfold pSign
        rw [if_pos ⟨hf, by omega, by rw [hp, Int.toNat_natCast]; exact q.2⟩]
      have e2 := gH_no (c := t k) (s := s) h9 hd (by rw [q.2]; exact hc)
      have e3 : gNx (t k) s = d' := by unfold gNx; rw [if_neg (by omega), hd, q.2, hd']
      rw [e3, if_pos ⟨h1, by omega⟩] at e2
      have hA2 := aA_step hA q.1 (by rw [e2]; show (1 : Int) ≠ 0; decide)
      rw [e2] at hA2
      refine Or.inr ?_
      rw [e1]
      exact ⟨by show ¬ (1 : Int) = 0; decide, k + 1, _, by show p.1 + 1 = ((k + 1 : Nat) : Int); omega, hA2, rfl, rfl, hu, fun z => absurd z (by decide), hm1, hm2⟩
    · have e1 : pSign t len c p = (p.1, 0, p.2.2) := by
        unfold pSign
        rw [if_neg (fun z => q ⟨by omega, by rw [hp, Int.toNat_natCast] at z; exact z.2.2⟩)]
      refine Or.inl ?_
      rw [e1]
      by_cases hk : k < N
      · have hT := rx_stop hA h9 hd hb hu hs hk (fun _ => Or.inl (ho (by omega) (fun z => q ⟨hk, z⟩)))
        exact ⟨rfl, by show p.1 = _; omega, Or.inl (by omega)⟩
      · have hkN' : k = N := by omega
        rw [hkN'] at hA
        have hT := aA_end hA
        refine ⟨rfl, by show p.1 = _; rw [hT]; show p.1 = (N : Int); omega, Or.inr (fun z => ?_)⟩
        rw [hT] at z
        have z1 : s.2.2.2.1 = 9 := z.1
        omega
theorem rx_more {t : Nat → Int} {N : Nat} {T : Nat × aS} {len d u : Int} (hlen : len = N) (h9 : 0 ≤ d ∧ d ≤ 9) : ∀ (n k : Nat) (s : aS) (v : Int), aA gH t N T k s → s.2.2.2.1 = d → s.2.2.2.2.1 = 1 → s.2.2.1 = u → s.1 (plc d u).toNat = v → 0 ≤ v → v ≤ m_high d → (v ≤ 0 ∨ (n = 2 ∧ 1 ≤ v) ∨ (n = 1 ∧ 10 ≤ v) ∨ (n = 0 ∧ 100 ≤ v)) →
    ∃ (k' : Nat) (v' : Int), pMore t len (m_high d) n (v, (k : Int)) = (v', (k' : Int)) ∧ aA gH t N T k' (fup s.1 (plc d u).toNat v', s.2) ∧ stk t N d v' k'
  | 0, k, s, v, hA, hd, hb, hu, hv, h0, h1, hn => by
    refine ⟨k, v, rfl, ?_, fun hk a b => ?_⟩
    · rw [← hv, fup_id]; exact hA
    · have := m_high_in d
      omega
  | n + 1, k, s, v, hA, hd, hb, hu, hv, h0, h1, hn => by
    simp only [pMore]
    by_cases q : v ≤ 0 ∨ pDig t len (k : Int) = -1 ∨ m_high d < 10 * v + pDig t len (k : Int)
    · rw [if_pos q]
      refine ⟨k, v, rfl, ?_, fun hk a b => ?_⟩
      · rw [← hv, fup_id]; exact hA
      · have e : pDig t len (k : Int) = t k - 48 := by
          unfold pDig
          rw [Int.toNat_natCast, if_pos ⟨by omega, a, b⟩]
        rw [e] at q
        omega
    · rw [if_neg q]
      have hk : k < N ∧ 48 ≤ t k ∧ t k ≤ 57 := by
        unfold pDig at q
        rw [Int.toNat_natCast] at q
        by_cases z : (k : Int) < len ∧ 48 ≤ t k ∧ t k ≤ 57
        · exact ⟨by omega, z.2⟩
        · rw [if_neg z] at q; omega
      have e : pDig t len (k : Int) = t k - 48 := by
        unfold pDig
        rw [Int.toNat_natCast, if_pos ⟨by omega, hk.2⟩]
      rw [e] at q ⊢
      have e2 := gH_di (c := t k) (s := s) h9 hd hk.2
      unfold gN at e2
      rw [if_neg (by omega), hd, hu, hv, if_pos ⟨by omega, by omega⟩] at e2
      have hA2 := aA_step hA hk.1 (by rw [e2]; show (1 : Int) ≠ 0; decide)
      rw [e2] at hA2
      have ih := rx_more hlen h9 n (k + 1) (fup s.1 (plc d u).toNat (10 * v + t k - 48), s.2) (10 * v + (t k - 48)) hA2 hd hb hu (by show fup s.1 (plc d u).toNat _ (plc d u).toNat = _; rw [fup_eq]; omega) (by omega) (by omega) (by omega)
      obtain ⟨k', v', a, b, c⟩ := ih
      refine ⟨k', v', ?_, ?_, c⟩
      · rw [← a, Int.natCast_add]; rfl
      · have b' : aA gH t N T k' (fup (fup s.1 (plc d u).toNat (10 * v + t k - 48)) (plc d u).toNat v', s.2) := b
        rw [fup_fup] at b'
        exact b'
theorem rb_num {t : Nat → Int} {N : Nat} {T : Nat × aS} {len least most v : Int} {j : Nat} {p : pP} (h0 : 0 ≤ least) (h : RB N T p) : RB N T (pSet (pNum t len least most p) j v) := by
  have e : pV0 t len p = -1 := by unfold pV0; rw [if_neg (fun q => q h.1)]
  have e2 : pNum t len least most p = (p.1, 0, p.2.2) := by
    unfold pNum
    rw [e, if_pos (Or.inl (by omega))]
  rw [e2]
  exact ⟨rfl, h.2⟩
theorem rx_num {t : Nat → Int} {N : Nat} {T : Nat × aS} {len d u : Int} {m j m' : Nat} {p : pP} (hlen : len = N) (h9 : 0 ≤ d ∧ d ≤ 9) (hj : (plc d u).toNat = j) (hm : (j = m ∧ m' = m + 1) ∨ (j < m ∧ m' = m)) (h : RB N T p ∨ RX t N T 0 d u m p) : RB N T (pSet (pNum t len (m_low d) (m_high d) p) j (pNumV t len (m_low d) (m_high d) p)) ∨ RX t N T 1 d u m' (pSet (pNum t len (m_low d) (m_high d) p) j (pNumV t len (m_low d) (m_high d) p)) := by
  have hl := m_low_in d
  rcases h with h | h
  · exact Or.inl (rb_num hl.1 h)
  · obtain ⟨hf, k, s, hp, hA, hd, hb, hu, -, hm1, hm2⟩ := h
    have hkN := hA.1
    have eV : pV0 t len p = pDig t len (k : Int) := by unfold pV0; rw [if_pos hf, hp]
    by_cases q : pV0 t len p < m_low d ∨ m_high d < pV0 t len p
    · refine Or.inl ?_
      have e1 : pNum t len (m_low d) (m_high d) p = (p.1, 0, p.2.2) := by unfold pNum; rw [if_pos q]
      rw [e1]
      rw [eV] at q
      by_cases hk : k < N
      · have hT : T.1 = k := by
          refine aA_stop hA hk ?_
          by_cases c : 48 ≤ t k ∧ t k ≤ 57
          · have e : pDig t len (k : Int) = t k - 48 := by
              unfold pDig
              rw [Int.toNat_natCast, if_pos ⟨by omega, c⟩]
            rw [e] at q
            rw [gH_di h9 hd c]
            unfold gN
            rw [if_pos (by omega), hd, if_neg (by omega)]
          · rw [gH_no h9 hd c]
            have e : gNx (t k) s = -1 := by unfold gNx; rw [if_pos (by omega)]
            dsimp only
            rw [e, if_neg (by omega)]
        exact ⟨rfl, by show p.1 = _; omega, Or.inl (by omega)⟩
      · have hkN' : k = N := by omega
        rw [hkN'] at hA
        have hT := aA_end hA
        refine ⟨rfl, by show p.1 = _; rw [hT]; show p.1 = (N : Int); omega, Or.inr (fun z => ?_)⟩
        rw [hT] at z
        exact z.2 hb
    · refine Or.inr ?_
      have e1 : pNum t len (m_low d) (m_high d) p = ((pMore t len (m_high d) 2 (pV0 t len p, p.1 + 1)).2, p.2.1, p.2.2) := by unfold pNum; rw [if_neg q]
      have e1' : pNumV t len (m_low d) (m_high d) p = (pMore t len (m_high d) 2 (pV0 t len p, p.1 + 1)).1 := by unfold pNumV; rw [if_neg q]
      rw [e1, e1']
      rw [eV] at q ⊢
      have hk : k < N ∧ 48 ≤ t k ∧ t k ≤ 57 := by
        unfold pDig at q
        rw [Int.toNat_natCast] at q
        by_cases z : (k : Int) < len ∧ 48 ≤ t k ∧ t k ≤ 57
        · exact ⟨by omega, z.2⟩
        · rw [if_neg z] at q; omega
      have e : pDig t len (k : Int) = t k - 48 := by
        unfold pDig
        rw [Int.toNat_natCast, if_pos ⟨by omega, hk.2⟩]
      rw [e] at q ⊢
      have e2 := gH_di (c := t k) (s := s) h9 hd hk.2
      unfold gN at e2
      rw [if_pos (by omega), hd, hu, if_pos (by omega)] at e2
      have hA2 := aA_step hA hk.1 (by rw [e2]; show (1 : Int) ≠ 0; decide)
      rw [e2] at hA2
      obtain ⟨k', v', a, b, c⟩ := rx_more (u := u) hlen h9 2 (k + 1) _ (t k - 48) hA2 rfl rfl rfl (by show fup s.1 (plc d u).toNat _ (plc d u).toNat = _; rw [fup_eq]) (by omega) (by omega) (by omega)
      have b' : aA gH t N T k' (fup (fup s.1 (plc d u).toNat (t k - 48)) (plc d u).toNat v', s.2.1, u, d, 1, s.2.2.2.2.2) := b
      rw [fup_fup, hj] at b'
      have a' : pMore t len (m_high d) 2 (t k - 48, p.1 + 1) = (v', (k' : Int)) := by rw [hp, ← a, Int.natCast_add]; rfl
      rw [a']
      refine ⟨hf, k', _, rfl, b', rfl, rfl, rfl, fun _ => ?_, fun i hi => ?_, fun i h1 h2 => ?_⟩
      · show stk t N d (fup s.1 j v' (plc d u).toNat) k'
        rw [hj, fup_eq]
        exact c
      · show fup p.2.2.1 j v' i = fup s.1 j v' i
        unfold fup
        by_cases z : i = j
        · rw [if_pos z, if_pos z]
        · rw [if_neg z, if_neg z]; exact hm1 i (by omega)
      · show fup s.1 j v' i = 0
        unfold fup
        rw [if_neg (by omega)]
        exact hm2 i (by omega) h2
theorem rx_fld {t : Nat → Int} {N : Nat} {T : Nat × aS} {len c d d' u : Int} {m j m' : Nat} {p : pP} (hlen : len = N) (h9 : 0 ≤ d ∧ d ≤ 8) (h9' : 0 ≤ d' ∧ d' ≤ 9) (hc : ¬ (48 ≤ c ∧ c ≤ 57)) (hd' : mBe d c = d') (ho : p.1 < len → t p.1.toNat ≠ c → mBe d (t p.1.toNat) = -1) (hj : (plc d' u).toNat = j) (hm : (j = m ∧ m' = m + 1) ∨ (j < m ∧ m' = m)) (h : RB N T p ∨ RX t N T 1 d u m p) : RB N T (pFld t len c j (m_low d') (m_high d') p) ∨ RX t N T 1 d' u m' (pFld t len c j (m_low d') (m_high d') p) := by
  have h1 := rx_sign hlen (by omega) hc hd' (by omega) (fun q => by omega) (Or.inl (by omega)) ho h
  exact rx_num hlen h9' hj hm h1
theorem rx_set {t : Nat → Int} {N : Nat} {T : Nat × aS} {b d u : Int} {m : Nat} {p : pP} (hm : m < 16) (h : RB N T p ∨ RX t N T b d u m p) : RB N T (pSet p m 0) ∨ RX t N T b d u (m + 1) (pSet p m 0) := by
  rcases h with h | h
  · exact Or.inl h
  · obtain ⟨hf, k, s, hp, hA, hd, hb, hu, hs, hm1, hm2⟩ := h
    refine Or.inr ⟨hf, k, s, hp, hA, hd, hb, hu, hs, fun i hi => ?_, fun i h1 h2 => hm2 i (by omega) h2⟩
    show fup p.2.2.1 m 0 i = s.1 i
    unfold fup
    by_cases z : i = m
    · rw [if_pos z, z, hm2 m (Nat.le_refl _) hm]
    · rw [if_neg z]; exact hm1 i (by omega)
theorem rx_u0 {t : Nat → Int} {N : Nat} {T : Nat × aS} {b d u v : Int} {m : Nat} {p : pP} : (RB N T (pU0 p v) ↔ RB N T p) ∧ (RX t N T b d u m (pU0 p v) ↔ RX t N T b d u m p) := ⟨Iff.rfl, Iff.rfl⟩
/-- the first letter -/
theorem rx_a {t : Nat → Int} {N : Nat} {T : Nat × aS} {len : Int} {s : aS} {f : Nat → Int} {v : Int} (hlen : len = N) (hA : aA gH t N T 0 s) (hd : s.2.2.2.1 = 11) (hu : s.2.2.1 = 0) (hs : ∀ i, i < 16 → s.1 i = 0) : RB N T (pSign t len 97 (0, 1, f, v)) ∨ RX t N T 0 0 0 0 (pSign t len 97 (0, 1, f, v)) := by
  have hkN := hA.1
  have e0 : gH (t 0) s = ((if t 0 = 97 then 1 else 0), (s.1, s.2.1, s.2.2.1, 0, 0, s.2.2.2.2.2)) := by unfold gH; rw [if_pos hd]
  by_cases q : 0 < N ∧ t 0 = 97
  · have e1 : pSign t len 97 (0, 1, f, v) = (0 + 1, 1, f, v) := by
      unfold pSign
      rw [if_pos ⟨by show ¬ (1 : Int) = 0; decide, by show (0 : Int) < len; omega, q.2⟩]
    rw [if_pos q.2] at e0
    have hA2 := aA_step hA q.1 (by rw [e0]; show (1 : Int) ≠ 0; decide)
    rw [e0] at hA2
    rw [e1]
    exact Or.inr ⟨by show ¬ (1 : Int) = 0; decide, 1, _, rfl, hA2, rfl, rfl, hu, fun z => absurd z (by decide), fun i hi => by omega, fun i _ hi => hs i hi⟩
  · have e1 : pSign t len 97 (0, 1, f, v) = (0, 0, f, v) := by
      unfold pSign
      rw [if_neg (fun z => q ⟨by have := z.2.1; have h0 : (0 : Int) < len := this; omega, z.2.2⟩)]
    rw [e1]
    refine Or.inl ?_
    by_cases hk : 0 < N
    · have hT := aA_stop hA hk (by rw [e0]; show (if t 0 = 97 then (1 : Int) else 0) = 0; rw [if_neg (fun z => q ⟨hk, z⟩)])
      exact ⟨rfl, by show (0 : Int) = _; omega, Or.inl (by omega)⟩
    · have hN : 0 = N := by omega
      rw [hN] at hA
      have hT := aA_end hA
      refine ⟨rfl, by show (0 : Int) = _; rw [hT]; show (0 : Int) = (N : Int); omega, Or.inr (fun z => ?_)⟩
      rw [hT] at z
      have z1 : s.2.2.2.1 = 9 := z.1
      omega
/-- the letter u -/
theorem rx_u {t : Nat → Int} {N : Nat} {T : Nat × aS} {len u : Int} {m : Nat} {p : pP} (hlen : len = N) (h : RB N T p ∨ RX t N T 0 10 u m p) : RB N T (pSign t len 117 p) ∨ RX t N T 0 7 (u + 1) m (pSign t len 117 p) := by
  rcases h with h | h
  · exact Or.inl (rb_sign h)
  · obtain ⟨hf, k, s, hp, hA, hd, hb, hu, -, hm1, hm2⟩ := h
    have hkN := hA.1
    have e0 : gH (t k) s = ((if t k = 117 then 1 else 0), (s.1, s.2.1, s.2.2.1 + 1, 7, 0, s.2.2.2.2.2)) := by unfold gH; rw [if_neg (by omega), if_pos hd]
    by_cases q : k < N ∧ t k = 117
    · have e1 : pSign t len 117 p = (p.1 + 1, 1, p.2.2) := by
        unfold pSign
        rw [if_pos ⟨hf, by omega, by rw [hp, Int.toNat_natCast]; exact q.2⟩]
      rw [if_pos q.2] at e0
      have hA2 := aA_step hA q.1 (by rw [e0]; show (1 : Int) ≠ 0; decide)
      rw [e0] at hA2
      rw [e1]
      exact Or.inr ⟨by show ¬ (1 : Int) = 0; decide, k + 1, _, by show p.1 + 1 = ((k + 1 : Nat) : Int); omega, hA2, rfl, rfl, by show s.2.2.1 + 1 = u + 1; omega, fun z => absurd z (by decide), hm1, hm2⟩
    · have e1 : pSign t len 117 p = (p.1, 0, p.2.2) := by
        unfold pSign
        rw [if_neg (fun z => q ⟨by omega, by rw [hp, Int.toNat_natCast] at z; exact z.2.2⟩)]
      refine Or.inl ?_
      rw [e1]
      by_cases hk : k < N
      · have hT := aA_stop hA hk (by rw [e0]; show (if t k = 117 then (1 : Int) else 0) = 0; rw [if_neg (fun z => q ⟨hk, z⟩)])
        exact ⟨rfl, by show p.1 = _; omega, Or.inl (by omega)⟩
      · have hkN' : k = N := by omega
        rw [hkN'] at hA
        have hT := aA_end hA
        refine ⟨rfl, by show p.1 = _; rw [hT]; show p.1 = (N : Int); omega, Or.inr (fun z => ?_)⟩
        rw [hT] at z
        exact z.2 hb
theorem mBe_one {d c x : Int} (h : (d = 0 ∧ c = 115) ∨ (d = 1 ∧ c = 108) ∨ (d = 2 ∧ c = 119) ∨ (d = 5 ∧ c = 113) ∨ (d = 7 ∧ c = 104) ∨ (d = 8 ∧ c = 99) ∨ (d = 9 ∧ c = 59) ∨ (d = 6 ∧ c = 59)) (hx : x ≠ c) : mBe d x = -1 := by
  unfold mBe
  rcases h with ⟨rfl, rfl⟩ | ⟨rfl, rfl⟩ | ⟨rfl, rfl⟩ | ⟨rfl, rfl⟩ | ⟨rfl, rfl⟩ | ⟨rfl, rfl⟩ | ⟨rfl, rfl⟩ | ⟨rfl, rfl⟩ <;> (repeat' split) <;> omega
theorem rx_hd {t : Nat → Int} {N : Nat} {T : Nat × aS} {len : Int} {s : aS} {f : Nat → Int} {v : Int} (hlen : len = N) (hA : aA gH t N T 0 s) (hd : s.2.2.2.1 = 11) (hu : s.2.2.1 = 0) (hs : ∀ i, i < 16 → s.1 i = 0) : RB N T (pHd t len (0, 1, f, v)) ∨ RX t N T 1 3 0 7 (pHd t len (0, 1, f, v)) := by
  have h0 := rx_a (f := f) (v := v) hlen hA hd hu hs
  have h1 := rx_num (d := 0) (u := 0) (m := 0) (j := 0) (m' := 1) hlen (by decide) rfl (Or.inl ⟨rfl, rfl⟩) h0
  have h2 := rx_fld (c := 115) (d := 0) (d' := 1) (u := 0) (m := 1) (j := 1) (m' := 2) hlen (by decide) (by decide) (by decide) rfl (fun _ hx => mBe_one (Or.inl ⟨rfl, rfl⟩) hx) rfl (Or.inl ⟨rfl, rfl⟩) h1
  have h3 := rx_fld (c := 108) (d := 1) (d' := 2) (u := 0) (m := 2) (j := 2) (m' := 3) hlen (by decide) (by decide) (by decide) rfl (fun _ hx => mBe_one (by decide) hx) rfl (Or.inl ⟨rfl, rfl⟩) h2
  have h4 := rx_fld (c := 119) (d := 2) (d' := 3) (u := 0) (m := 3) (j := 3) (m' := 4) hlen (by decide) (by decide) (by decide) rfl (fun _ hx => mBe_one (by decide) hx) rfl (Or.inl ⟨rfl, rfl⟩) h3
  exact rx_set (by decide) (rx_set (by decide) (rx_set (by decide) h4))
/-- where no more than a semicolon can follow -/
def oSc (t : Nat → Int) (len d : Int) (p : pP) : Prop := p.1 < len → t p.1.toNat ≠ 59 → mBe d (t p.1.toNat) = -1
theorem rx_pk {t : Nat → Int} {N : Nat} {T : Nat × aS} {len : Int} {p : pP} (hlen : len = N) (h : RB N T p ∨ RX t N T 1 3 0 7 p) : RB N T (pK t len p) ∨ RX t N T 1 4 0 7 (pK t len p) ∨ (RX t N T 1 3 0 7 (pK t len p) ∧ ((pK t len p).1 < len → t (pK t len p).1.toNat ≠ 107)) := by
  unfold pK
  rcases h with h | h
  · have e : pSeesV t len 107 p = 0 := by unfold pSeesV; rw [if_neg (fun q => q.1 h.1)]
    rw [if_pos e]
    exact Or.inl h
  · by_cases q : p.1 < len ∧ t p.1.toNat = 107
    · have e : pSeesV t len 107 p = 1 := by unfold pSeesV; rw [if_pos ⟨h.1, q⟩]
      rw [if_neg (by omega)]
      have := rx_fld (c := 107) (d := 3) (d' := 4) (u := 0) (m := 7) (j := 4) (m' := 7) hlen (by decide) (by decide) (by decide) rfl (fun _ hx => absurd q.2 hx) rfl (Or.inr ⟨by decide, rfl⟩) (Or.inr h)
      rcases this with h1 | h1
      · exact Or.inl h1
      · exact Or.inr (Or.inl h1)
    · have e : pSeesV t len 107 p = 0 := by unfold pSeesV; rw [if_neg (fun z => q z.2)]
      rw [if_pos e]
      exact Or.inr (Or.inr ⟨h, fun a b => q ⟨a, b⟩⟩)
theorem rx_pq {t : Nat → Int} {N : Nat} {T : Nat × aS} {len : Int} {p : pP} (hlen : len = N) (h : RB N T p ∨ RX t N T 1 4 0 7 p ∨ (RX t N T 1 3 0 7 p ∧ (p.1 < len → t p.1.toNat ≠ 107))) : RB N T (pPq t len p) ∨ ∃ d, (d = 3 ∨ d = 4 ∨ d = 6) ∧ RX t N T 1 d 0 7 (pPq t len p) ∧ oSc t len d (pPq t len p) := by
  unfold pPq
  have key : ∀ d, (d = 3 ∨ d = 4) → RX t N T 1 d 0 7 p → (d = 3 → p.1 < len → t p.1.toNat ≠ 107) → RB N T (if pSeesV t len 112 p = 0 then p else pFld t len 113 6 0 9 (pFld t len 112 5 1 5 p)) ∨ ∃ d, (d = 3 ∨ d = 4 ∨ d = 6) ∧ RX t N T 1 d 0 7 (if pSeesV t len 112 p = 0 then p else pFld t len 113 6 0 9 (pFld t len 112 5 1 5 p)) ∧ oSc t len d (if pSeesV t len 112 p = 0 then p else pFld t len 113 6 0 9 (pFld t len 112 5 1 5 p)) := by
    intro d hd hx h107
    by_cases q : p.1 < len ∧ t p.1.toNat = 112
    · have e : pSeesV t len 112 p = 1 := by unfold pSeesV; rw [if_pos ⟨hx.1, q⟩]
      rw [if_neg (by omega)]
      have hb : mBe d 112 = 5 := by rcases hd with rfl | rfl <;> rfl
      have h1 := rx_fld (c := 112) (d := d) (d' := 5) (u := 0) (m := 7) (j := 5) (m' := 7) hlen (by omega) (by decide) (by decide) hb (fun _ hx => absurd q.2 hx) rfl (Or.inr ⟨by decide, rfl⟩) (Or.inr hx)
      have h2 := rx_fld (c := 113) (d := 5) (d' := 6) (u := 0) (m := 7) (j := 6) (m' := 7) hlen (by decide) (by decide) (by decide) rfl (fun _ hx => mBe_one (by decide) hx) rfl (Or.inr ⟨by decide, rfl⟩) h1
      rcases h2 with h2 | h2
      · exact Or.inl h2
      · exact Or.inr ⟨6, by decide, h2, fun _ hx => mBe_one (by decide) hx⟩
    · have e : pSeesV t len 112 p = 0 := by unfold pSeesV; rw [if_neg (fun z => q z.2)]
      rw [if_pos e]
      refine Or.inr ⟨d, by omega, hx, fun a b => ?_⟩
      have h112 : t p.1.toNat ≠ 112 := fun z => q ⟨a, z⟩
      unfold mBe
      rcases hd with rfl | rfl
      · have := h107 rfl a
        (repeat' split) <;> omega
      · (repeat' split) <;> omega
  rcases h with h | h | h
  · have e : pSeesV t len 112 p = 0 := by unfold pSeesV; rw [if_neg (fun q => q.1 h.1)]
    rw [if_pos e]
    exact Or.inl h
  · exact key 4 (Or.inr rfl) h (fun z => absurd z (by decide))
  · exact key 3 (Or.inl rfl) h.1 (fun _ => h.2)
theorem rx_use {t : Nat → Int} {N : Nat} {T : Nat × aS} {len d : Int} {u : Nat} {p : pP} (hlen : len = N) (hu : u < 3) (hd : d = 3 ∨ d = 4 ∨ d = 6 ∨ (d = 9 ∧ p.1 < len)) (h : RB N T p ∨ (RX t N T 1 d u (7 + 3 * u) p ∧ oSc t len d p)) : RB N T (pUse t len (7 + 3 * u) p) ∨ RX t N T 1 9 (u + 1 : Nat) (7 + 3 * (u + 1)) (pUse t len (7 + 3 * u) p) := by
  have hb : mBe d 59 = 10 := by rcases hd with rfl | rfl | rfl | ⟨rfl, -⟩ <;> rfl
  have h1 : RB N T (pSign t len 59 p) ∨ RX t N T 0 10 u (7 + 3 * u) (pSign t len 59 p) := by
    rcases h with h | h
    · exact Or.inl (rb_sign h)
    · exact rx_sign (c := 59) (d' := 10) hlen (by omega) (by decide) hb (by decide) (fun _ => by omega) (by omega) h.2 (Or.inr h.1)
  have h2 := rx_u hlen h1
  have e1 : ((u : Int) + 1) = ((u + 1 : Nat) : Int) := by omega
  rw [e1] at h2
  have h3 := rx_num (d := 7) (j := 7 + 3 * u) (m' := 7 + 3 * u + 1) hlen (by decide) (by unfold plc; rw [if_neg (by decide)]; omega) (Or.inl ⟨rfl, rfl⟩) h2
  have h4 := rx_fld (c := 104) (d := 7) (d' := 8) (j := 7 + 3 * u + 1) (m' := 7 + 3 * u + 2) hlen (by decide) (by decide) (by decide) rfl (fun _ hx => mBe_one (by decide) hx) (by unfold plc; rw [if_neg (by decide)]; omega) (Or.inl ⟨rfl, rfl⟩) h3
  have h5 := rx_fld (c := 99) (d := 8) (d' := 9) (j := 7 + 3 * u + 2) (m' := 7 + 3 * (u + 1)) hlen (by decide) (by decide) (by decide) rfl (fun _ hx => mBe_one (by decide) hx) (by unfold plc; rw [if_neg (by decide)]; omega) (Or.inl ⟨rfl, by omega⟩) h4
  exact h5
/-- how the class's reading of a HOUSE ends -/
def RF (t : Nat → Int) (N : Nat) (T : Nat × aS) (len : Int) (p : pP) : Prop := RB N T p ∨ ∃ u : Nat, (1 ≤ u ∧ u ≤ 3) ∧ RX t N T 1 9 u (7 + 3 * u) p ∧ (u = 3 ∨ ¬ p.1 < len) ∧ p.2.2.2 = u
theorem rx_us {t : Nat → Int} {N : Nat} {T : Nat × aS} {len : Int} (hlen : len = N) : ∀ (n u : Nat) (p : pP) (d : Int), u + n = 3 → 0 < n → (d = 3 ∨ d = 4 ∨ d = 6 ∨ (d = 9 ∧ p.1 < len)) → (RB N T p ∨ (RX t N T 1 d u (7 + 3 * u) p ∧ oSc t len d p)) → RF t N T len (pUs t len n u p)
  | 0, u, p, d, _, h0, _, _ => by omega
  | n + 1, u, p, d, hn, _, hd, h => by
    have h1 := rx_use hlen (show u < 3 by omega) hd h
    simp only [pUs]
    by_cases q : ¬ (pUse t len (7 + 3 * u) p).2.1 = 0 ∧ (pUse t len (7 + 3 * u) p).1 < len ∧ 0 < n
    · rw [if_pos q]
      refine rx_us hlen n (u + 1) _ 9 (by omega) q.2.2 (Or.inr (Or.inr (Or.inr ⟨rfl, q.2.1⟩))) ?_
      rcases h1 with h1 | h1
      · exact absurd h1.1 q.1
      · exact Or.inr ⟨h1, fun _ hx => mBe_one (by decide) hx⟩
    · rw [if_neg q]
      rcases h1 with h1 | h1
      · exact Or.inl h1
      · refine Or.inr ⟨u + 1, by omega, h1, ?_, rfl⟩
        by_cases c : (pUse t len (7 + 3 * u) p).1 < len
        · have hf := h1.1
          have : ¬ 0 < n := fun z => q ⟨hf, c, z⟩
          exact Or.inl (by omega)
        · exact Or.inr c
theorem rx_house {t : Nat → Int} {N : Nat} {T : Nat × aS} {len : Int} {s : aS} {f : Nat → Int} {v : Int} (hlen : len = N) (hA : aA gH t N T 0 s) (hd : s.2.2.2.1 = 11) (hu : s.2.2.1 = 0) (hs : ∀ i, i < 16 → s.1 i = 0) : RF t N T len (pHs t len (0, 1, f, v)) := by
  have h1 := rx_pq hlen (rx_pk hlen (rx_hd (f := f) (v := v) hlen hA hd hu hs))
  unfold pHs
  rcases h1 with h1 | ⟨d, hd, h1, h2⟩
  · exact rx_us hlen 3 0 _ 3 rfl (by decide) (Or.inl rfl) (Or.inl h1)
  · exact rx_us hlen 3 0 _ d rfl (by decide) (by omega) (Or.inr ⟨h1, h2⟩)
/-- what both say of a HOUSE -/
theorem rx_fin {t : Nat → Int} {N : Nat} {T : Nat × aS} {len : Int} {p : pP} (hlen : len = N) (h : RF t N T len p) : p.1 = (T.1 : Int) ∧ ((¬ p.2.1 = 0 ∧ p.1 = len) ↔ ¬ hBad N T) ∧ (¬ hBad N T → p.2.2.2 = T.2.2.2.1 ∧ (1 ≤ p.2.2.2 ∧ p.2.2.2 ≤ 3) ∧ ∀ i : Nat, (i : Int) < 7 + 3 * p.2.2.2 → p.2.2.1 i = T.2.1 i) := by
  rcases h with h | ⟨u, hu, h, hend, hc⟩
  · exact ⟨h.2.1, ⟨fun q => absurd h.1 q.1, fun q => absurd h.2.2 q⟩, fun q => absurd h.2.2 q⟩
  · obtain ⟨hf, k, s, hp, hA, hd, hb, hu', hs, hm1, hm2⟩ := h
    have hkN := hA.1
    by_cases hk : k < N
    · have hu3 : u = 3 := by omega
      have hT : T.1 = k := rx_stop hA (by decide) hd hb hu' (hs rfl) hk (fun _ => by
        by_cases c : t k = 59
        · exact Or.inr ⟨by rw [c]; rfl, by omega⟩
        · exact Or.inl (mBe_one (by decide) c))
      have hbad : hBad N T := Or.inl (by omega)
      exact ⟨by omega, ⟨fun q => by omega, fun q => absurd hbad q⟩, fun q => absurd hbad q⟩
    · have hkN' : k = N := by omega
      rw [hkN'] at hA
      have hT := aA_end hA
      have hgood : ¬ hBad N T := by
        rw [hT]
        rintro (z | z)
        · exact Nat.lt_irrefl _ z
        · exact z ⟨hd, by show ¬ s.2.2.2.2.1 = 0; omega⟩
      refine ⟨by rw [hT]; show p.1 = (N : Int); omega, ⟨fun _ => hgood, fun _ => ⟨hf, by omega⟩⟩, fun _ => ?_⟩
      rw [hT]
      refine ⟨by show p.2.2.2 = s.2.2.1; omega, by omega, fun i hi => hm1 i (by omega)⟩
