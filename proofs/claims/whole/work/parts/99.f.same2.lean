/-! a YEAR, and a TOLD rule -/
theorem yr_2 {t : Nat → Int} {N : Nat} {T : Nat × aS} {len : Int} (hlen : len = N) : ∀ (n m : Nat) (p : pP), m + n = 12 → ((p.2.1 = 0 ∧ p.1 = (T.1 : Int) ∧ T.1 < 12) ∨ (¬ p.2.1 = 0 ∧ p.1 = (m : Nat) ∧ ∃ s, aA gY t N T m s ∧ s.2.2.2.2.2 = m ∧ ∀ i, i < m → p.2.2.1 i = s.2.1 i)) →
    (((pYr t len n m p).2.1 = 0 ∧ (pYr t len n m p).1 = (T.1 : Int) ∧ T.1 < 12) ∨ (¬ (pYr t len n m p).2.1 = 0 ∧ (pYr t len n m p).1 = 12 ∧ ∃ s, aA gY t N T 12 s ∧ s.2.2.2.2.2 = 12 ∧ ∀ i, i < 12 → (pYr t len n m p).2.2.1 i = s.2.1 i))
  | 0, m, p, hm, h => by
    have e : m = 12 := by omega
    subst e
    exact h
  | n + 1, m, p, hm, h => by
    simp only [pYr]
    rcases h with h | ⟨hf, hp, s, hA, hn, hg⟩
    · rw [if_pos h.1]; exact Or.inl h
    · rw [if_neg hf]
      have hmN := hA.1
      refine yr_2 hlen n (m + 1) _ (by omega) ?_
      have eV : pV0 t len p = pDig t len (m : Int) := by unfold pV0; rw [if_pos hf, hp]
      by_cases q : m < N ∧ 48 ≤ t m ∧ t m ≤ 57
      · have e : pDig t len (m : Int) = t m - 48 := by
          unfold pDig
          rw [Int.toNat_natCast, if_pos ⟨by omega, q.2⟩]
        have hst : gY (t m) s = (1, (s.1, fup s.2.1 m (t m - 48), s.2.2.1, s.2.2.2.1, s.2.2.2.2.1, s.2.2.2.2.2 + 1)) := by
          unfold gY
          rw [if_pos ⟨q.2, by omega⟩, hn, Int.toNat_natCast]
        have hA2 := aA_step hA q.1 (by rw [hst]; show (1 : Int) ≠ 0; decide)
        rw [hst] at hA2
        have hmo : pMore t len 9 2 (t m - 48, p.1 + 1) = (t m - 48, p.1 + 1) := by
          have hd := pDig_in t len (p.1 + 1)
          simp only [pMore]
          rw [if_pos]
          by_cases z : t m - 48 ≤ 0
          · exact Or.inl z
          · by_cases z2 : pDig t len (p.1 + 1) = -1
            · exact Or.inr (Or.inl z2)
            · exact Or.inr (Or.inr (by omega))
        have e1 : pNum t len 0 9 p = (p.1 + 1, p.2.1, p.2.2) := by
          unfold pNum
          rw [eV, e, if_neg (by omega), hmo]
        have e2 : pNumV t len 0 9 p = t m - 48 := by
          unfold pNumV
          rw [eV, e, if_neg (by omega), hmo]
        rw [e1, e2]
        refine Or.inr ⟨hf, by show p.1 + 1 = ((m + 1 : Nat) : Int); omega, _, hA2, by show s.2.2.2.2.2 + 1 = ((m + 1 : Nat) : Int); omega, fun i hi => ?_⟩
        show fup p.2.2.1 m (t m - 48) i = fup s.2.1 m (t m - 48) i
        unfold fup
        by_cases z : i = m
        · rw [if_pos z, if_pos z]
        · rw [if_neg z, if_neg z]; exact hg i (by omega)
      · have e : pDig t len (m : Int) = -1 := by
          unfold pDig
          rw [Int.toNat_natCast, if_neg (fun z => q ⟨by omega, z.2⟩)]
        have e1 : pNum t len 0 9 p = (p.1, 0, p.2.2) := by
          unfold pNum
          rw [eV, e, if_pos (Or.inl (by decide))]
        rw [e1]
        refine Or.inl ⟨rfl, ?_⟩
        show p.1 = (T.1 : Int) ∧ T.1 < 12
        by_cases hk : m < N
        · have hT := aA_stop hA hk (by unfold gY; rw [if_neg (fun z => q ⟨hk, z.1⟩)])
          omega
        · have hkN' : m = N := by omega
          have hT := aA_end (s := s) (by rw [hkN'] at hA; exact hA)
          rw [hT]
          show p.1 = (N : Int) ∧ N < 12
          omega
def yBad (N : Nat) (T : Nat × aS) : Prop := T.1 < N ∨ T.2.2.2.2.2.2 ≠ 12
theorem yr_n {t : Nat → Int} {N : Nat} : ∀ (d k : Nat) (s : aS), s.2.2.2.2.2 = (k : Int) → k ≤ 12 → (aRun gY t d k s).1 = k + d → (aRun gY t d k s).2.2.2.2.2.2 = ((k + d : Nat) : Int)
  | 0, k, s, hs, _, _ => hs
  | d + 1, k, s, hs, hk, he => by
    simp only [aRun] at he ⊢
    by_cases q : (gY (t k) s).1 = 0
    · rw [if_pos q] at he
      dsimp only at he
      omega
    · rw [if_neg q] at he ⊢
      have hc : (48 ≤ t k ∧ t k ≤ 57) ∧ s.2.2.2.2.2 < 12 := by
        unfold gY at q
        by_cases z : (48 ≤ t k ∧ t k ≤ 57) ∧ s.2.2.2.2.2 < 12
        · exact z
        · rw [if_neg z] at q; exact absurd rfl q
      have e2 : (gY (t k) s).2.2.2.2.2.2 = ((k + 1 : Nat) : Int) := by
        unfold gY
        rw [if_pos hc]
        show s.2.2.2.2.2 + 1 = _
        omega
      have ih := yr_n (N := N) (t := t) d (k + 1) _ e2 (by omega) (by omega)
      rw [ih]
      omega
theorem yr_fin {t : Nat → Int} {N : Nat} {T : Nat × aS} {len : Int} {s : aS} {f : Nat → Int} {v : Int} (hlen : len = N) (hA : aA gY t N T 0 s) (hn : s.2.2.2.2.2 = 0) : (pYr t len 12 0 (0, 1, f, v)).1 = (T.1 : Int) ∧ ((¬ (pYr t len 12 0 (0, 1, f, v)).2.1 = 0 ∧ (pYr t len 12 0 (0, 1, f, v)).1 = len) ↔ ¬ yBad N T) ∧ (¬ yBad N T → ∀ i, i < 12 → (pYr t len 12 0 (0, 1, f, v)).2.2.1 i = T.2.2.1 i) := by
  have h := yr_2 (t := t) (T := T) hlen 12 0 (0, 1, f, v) rfl (Or.inr ⟨by show ¬ (1 : Int) = 0; decide, rfl, s, hA, hn, fun i hi => by omega⟩)
  rcases h with ⟨h1, h2, h3⟩ | ⟨h1, h2, s', hA', hn', hg⟩
  · have hbad : yBad N T := by
      by_cases c : T.1 < N
      · exact Or.inl c
      · refine Or.inr (fun z => ?_)
        have hN := hA.2
        have hle := aRun_le gY t (N - 0) 0 s
        have e := yr_n (N := N) (t := t) (N - 0) 0 s hn (by decide) (by rw [hN] at hle ⊢; omega)
        rw [hN] at e hle
        omega
    exact ⟨h2, ⟨fun q => absurd h1 q.1, fun q => absurd hbad q⟩, fun q => absurd hbad q⟩
  · have hle := hA'.1
    by_cases c : 12 < N
    · have hT := aA_stop hA' c (by unfold gY; rw [if_neg (by omega)])
      have hbad : yBad N T := Or.inl (by omega)
      exact ⟨by omega, ⟨fun q => by omega, fun q => absurd hbad q⟩, fun q => absurd hbad q⟩
    · have hN : N = 12 := by omega
      have hT := aA_end (s := s') (by rw [← hN] at hA'; exact hA')
      have hgood : ¬ yBad N T := by
        rw [hT]
        rintro (z | z)
        · exact Nat.lt_irrefl _ z
        · exact z hn'
      refine ⟨by rw [hT]; show _ = (N : Int); omega, ⟨fun _ => hgood, fun _ => ⟨h1, by omega⟩⟩, fun _ i hi => ?_⟩
      rw [hT]
      exact hg i hi
/-! rules -/
def lBad (N : Nat) (T : Nat × aS) : Prop := T.1 < N ∨ T.2.2.2.2.2.2 ≠ 11 ∨ T.2.2.2.2.2.1 = 0
def LB (N : Nat) (T : Nat × aS) (p : pP) : Prop := p.2.1 = 0 ∧ p.1 = (T.1 : Int) ∧ lBad N T
def stl (t : Nat → Int) (N : Nat) (v : Int) (k : Nat) : Prop := k < N → 48 ≤ t k → t k ≤ 57 → ¬ (1 ≤ v ∧ v ≤ 9)
/-- b: a number is read to its end (m: the numbers' number), else one is due -/
def LX (t : Nat → Int) (N : Nat) (T : Nat × aS) (b : Int) (m : Nat) (p : pP) : Prop := ¬ p.2.1 = 0 ∧ ∃ (k : Nat) (s : aS), p.1 = k ∧ aA gT t N T k s ∧ s.2.2.2.2.1 = b ∧ s.2.2.2.2.2 = m ∧ (b = 1 → stl t N (s.2.1 m) k ∧ p.2.2.1 m = s.2.1 m) ∧ (∀ i, i < m → p.2.2.1 i = s.2.1 i)
theorem lx_sign {t : Nat → Int} {N : Nat} {T : Nat × aS} {len : Int} {m : Nat} {p : pP} (hlen : len = N) (hm : m < 11) (h : LB N T p ∨ LX t N T 1 m p) : LB N T (pSign t len 44 p) ∨ LX t N T 0 (m + 1) (pSign t len 44 p) := by
  rcases h with h | ⟨hf, k, s, hp, hA, hb, hn, hs, hg⟩
  · unfold pSign
    rw [if_neg (fun q => q.1 h.1)]
    exact Or.inl ⟨rfl, h.2⟩
  · have hkN := hA.1
    obtain ⟨hst, hgm⟩ := hs rfl
    by_cases q : k < N ∧ t k = 44
    · have e1 : pSign t len 44 p = (p.1 + 1, 1, p.2.2) := by
        unfold pSign
        rw [if_pos ⟨hf, by omega, by rw [hp, Int.toNat_natCast]; exact q.2⟩]
      have eM : gTm (t k) s = 1 := by unfold gTm; rw [if_pos ⟨q.2, by omega, by omega⟩]
      have e2 : gT (t k) s = (1, (s.1, s.2.1, s.2.2.1, s.2.2.2.1, 0, s.2.2.2.2.2 + 1)) := by unfold gT; rw [if_neg (by omega), eM]
      have hA2 := aA_step hA q.1 (by rw [e2]; show (1 : Int) ≠ 0; decide)
      rw [e2] at hA2
      rw [e1]
      refine Or.inr ⟨by show ¬ (1 : Int) = 0; decide, k + 1, _, by show p.1 + 1 = ((k + 1 : Nat) : Int); omega, hA2, rfl, by show s.2.2.2.2.2 + 1 = ((m + 1 : Nat) : Int); omega, fun z => absurd z (by decide), fun i hi => ?_⟩
      show p.2.2.1 i = s.2.1 i
      by_cases z : i = m
      · rw [z]; exact hgm
      · exact hg i (by omega)
    · have e1 : pSign t len 44 p = (p.1, 0, p.2.2) := by
        unfold pSign
        rw [if_neg (fun z => q ⟨by omega, by rw [hp, Int.toNat_natCast] at z; exact z.2.2⟩)]
      rw [e1]
      refine Or.inl ?_
      by_cases hk : k < N
      · have hT : T.1 = k := by
          refine aA_stop hA hk ?_
          unfold gT
          by_cases c : 48 ≤ t k ∧ t k ≤ 57
          · rw [if_pos c]
            have := hst hk c.1 c.2
            dsimp only
            rw [hn, Int.toNat_natCast, if_neg (by omega)]
          · rw [if_neg c]
            unfold gTm
            rw [if_neg (fun z => q ⟨hk, z.1⟩)]
        exact ⟨rfl, by show p.1 = _; omega, Or.inl (by omega)⟩
      · have hkN' : k = N := by omega
        rw [hkN'] at hA
        have hT := aA_end hA
        refine ⟨rfl, by show p.1 = _; rw [hT]; show p.1 = (N : Int); omega, Or.inr (Or.inl ?_)⟩
        rw [hT]
        show s.2.2.2.2.2 ≠ 11
        omega
theorem lx_num {t : Nat → Int} {N : Nat} {T : Nat × aS} {len : Int} {m : Nat} {p : pP} (hlen : len = N) (hm : m < 12) (h : LB N T p ∨ LX t N T 0 m p) : LB N T (pSet (pNum t len 0 99 p) m (pNumV t len 0 99 p)) ∨ LX t N T 1 m (pSet (pNum t len 0 99 p) m (pNumV t len 0 99 p)) := by
  rcases h with h | ⟨hf, k, s, hp, hA, hb, hn, -, hg⟩
  · have e : pV0 t len p = -1 := by unfold pV0; rw [if_neg (fun q => q h.1)]
    have e2 : pNum t len 0 99 p = (p.1, 0, p.2.2) := by
      unfold pNum
      rw [e, if_pos (Or.inl (by decide))]
    rw [e2]
    exact Or.inl ⟨rfl, h.2⟩
  · have hkN := hA.1
    have eV : pV0 t len p = pDig t len (k : Int) := by unfold pV0; rw [if_pos hf, hp]
    have hdg : ∀ j : Nat, j < N → 48 ≤ t j → t j ≤ 57 → pDig t len (j : Int) = t j - 48 := fun j h1 h2 h3 => by
      unfold pDig
      rw [Int.toNat_natCast, if_pos ⟨by omega, h2, h3⟩]
    have hnd : ∀ j : Nat, ¬ (j < N ∧ 48 ≤ t j ∧ t j ≤ 57) → pDig t len (j : Int) = -1 := fun j h1 => by
      unfold pDig
      rw [Int.toNat_natCast, if_neg (fun z => h1 ⟨by omega, z.2⟩)]
    by_cases q : k < N ∧ 48 ≤ t k ∧ t k ≤ 57
    · have e := hdg k q.1 q.2.1 q.2.2
      have e2 : gT (t k) s = (1, (s.1, fup s.2.1 m (t k - 48), s.2.2.1, s.2.2.2.1, 1, s.2.2.2.2.2)) := by
        unfold gT
        rw [if_pos q.2, if_pos (Or.inl hb), if_pos hb, hn, Int.toNat_natCast]
      have hA2 := aA_step hA q.1 (by rw [e2]; show (1 : Int) ≠ 0; decide)
      rw [e2] at hA2
      have hp1 : p.1 + 1 = ((k + 1 : Nat) : Int) := by omega
      have e1 : pNum t len 0 99 p = ((pMore t len 99 2 (t k - 48, ((k + 1 : Nat) : Int))).2, p.2.1, p.2.2) := by
        unfold pNum
        rw [eV, e, if_neg (by omega), hp1]
      have e1' : pNumV t len 0 99 p = (pMore t len 99 2 (t k - 48, ((k + 1 : Nat) : Int))).1 := by
        unfold pNumV
        rw [eV, e, if_neg (by omega), hp1]
      rw [e1, e1']
      refine Or.inr ?_
      by_cases z : t k - 48 ≤ 0 ∨ ¬ (k + 1 < N ∧ 48 ≤ t (k + 1) ∧ t (k + 1) ≤ 57)
      · -- one letter
        have hmo : pMore t len 99 2 (t k - 48, ((k + 1 : Nat) : Int)) = (t k - 48, ((k + 1 : Nat) : Int)) := by
          simp only [pMore]
          rw [if_pos]
          rcases z with z | z
          · exact Or.inl z
          · exact Or.inr (Or.inl (hnd (k + 1) z))
        rw [hmo]
        refine ⟨hf, k + 1, _, rfl, hA2, rfl, hn, fun _ => ⟨fun a b c => ?_, ?_⟩, fun i hi => ?_⟩
        · show ¬ (1 ≤ fup s.2.1 m (t k - 48) m ∧ fup s.2.1 m (t k - 48) m ≤ 9)
          rw [fup_eq]
          rcases z with z | z
          · omega
          · exact absurd ⟨a, b, c⟩ z
        · show fup p.2.2.1 m (t k - 48) m = fup s.2.1 m (t k - 48) m
          rw [fup_eq, fup_eq]
        · show fup p.2.2.1 m (t k - 48) i = fup s.2.1 m (t k - 48) i
          rw [fup_ne (by omega), fup_ne (by omega)]
          exact hg i hi
      · -- two
        have z2 : k + 1 < N ∧ 48 ≤ t (k + 1) ∧ t (k + 1) ≤ 57 := by
          by_cases c : k + 1 < N ∧ 48 ≤ t (k + 1) ∧ t (k + 1) ≤ 57
          · exact c
          · exact absurd (Or.inr c) z
        have hd1 := hdg (k + 1) z2.1 z2.2.1 z2.2.2
        have hmo : pMore t len 99 2 (t k - 48, ((k + 1 : Nat) : Int)) = (10 * (t k - 48) + (t (k + 1) - 48), ((k + 2 : Nat) : Int)) := by
          have hd2 := pDig_in t len (((k + 1 : Nat) : Int) + 1)
          simp only [pMore]
          rw [hd1, if_neg (by omega)]
          rw [if_pos]
          · exact Prod.ext rfl (by show ((k + 1 : Nat) : Int) + 1 = ((k + 2 : Nat) : Int); omega)
          · by_cases c : pDig t len (((k + 1 : Nat) : Int) + 1) = -1
            · exact Or.inr (Or.inl c)
            · exact Or.inr (Or.inr (by omega))
        rw [hmo]
        have e3 : gT (t (k + 1)) (s.1, fup s.2.1 m (t k - 48), s.2.2.1, s.2.2.2.1, 1, s.2.2.2.2.2) = (1, (s.1, fup s.2.1 m (10 * (t k - 48) + t (k + 1) - 48), s.2.2.1, s.2.2.2.1, 1, s.2.2.2.2.2)) := by
          unfold gT
          rw [if_pos z2.2]
          show ((if (1 : Int) = 0 ∨ (1 ≤ fup s.2.1 m (t k - 48) s.2.2.2.2.2.toNat ∧ fup s.2.1 m (t k - 48) s.2.2.2.2.2.toNat ≤ 9) then (1 : Int) else 0), (s.1, fup (fup s.2.1 m (t k - 48)) s.2.2.2.2.2.toNat (if (1 : Int) = 0 then t (k + 1) - 48 else 10 * fup s.2.1 m (t k - 48) s.2.2.2.2.2.toNat + t (k + 1) - 48), s.2.2.1, s.2.2.2.1, (1 : Int), s.2.2.2.2.2)) = _
          rw [hn, Int.toNat_natCast, fup_eq, if_pos (Or.inr (by omega)), if_neg (by decide), fup_fup]
        have hA3 := aA_step hA2 z2.1 (by rw [e3]; show (1 : Int) ≠ 0; decide)
        rw [e3] at hA3
        have hv : 10 * (t k - 48) + t (k + 1) - 48 = 10 * (t k - 48) + (t (k + 1) - 48) := by omega
        rw [hv] at hA3
        refine ⟨hf, k + 2, _, rfl, hA3, rfl, hn, fun _ => ⟨fun a b c => ?_, ?_⟩, fun i hi => ?_⟩
        · show ¬ (1 ≤ fup s.2.1 m (10 * (t k - 48) + (t (k + 1) - 48)) m ∧ fup s.2.1 m (10 * (t k - 48) + (t (k + 1) - 48)) m ≤ 9)
          rw [fup_eq]
          omega
        · show fup p.2.2.1 m _ m = fup s.2.1 m _ m
          rw [fup_eq, fup_eq]
        · show fup p.2.2.1 m _ i = fup s.2.1 m _ i
          rw [fup_ne (by omega), fup_ne (by omega)]
          exact hg i hi
    · have e := hnd k q
      have e2 : pNum t len 0 99 p = (p.1, 0, p.2.2) := by
        unfold pNum
        rw [eV, e, if_pos (Or.inl (by decide))]
      rw [e2]
      refine Or.inl ?_
      by_cases hk : k < N
      · have hT : T.1 = k := by
          refine aA_stop hA hk ?_
          unfold gT
          rw [if_neg (fun z => q ⟨hk, z⟩)]
          unfold gTm
          rw [if_neg (fun z => z.2.1 hb)]
        exact ⟨rfl, by show p.1 = _; omega, Or.inl (by omega)⟩
      · have hkN' : k = N := by omega
        rw [hkN'] at hA
        have hT := aA_end hA
        refine ⟨rfl, by show p.1 = _; rw [hT]; show p.1 = (N : Int); omega, Or.inr (Or.inr ?_)⟩
        rw [hT]
        exact hb
theorem lx_rl {t : Nat → Int} {N : Nat} {T : Nat × aS} {len : Int} (hlen : len = N) : ∀ (n m : Nat) (p : pP), m + n = 12 → (LB N T p ∨ (m = 0 ∧ LX t N T 0 0 p) ∨ (0 < m ∧ LX t N T 1 (m - 1) p)) → (LB N T (pRl t len n m p) ∨ LX t N T 1 11 (pRl t len n m p))
  | 0, m, p, hm, h => by
    have e : m = 12 := by omega
    subst e
    rcases h with h | ⟨h, -⟩ | ⟨-, h⟩
    · exact Or.inl h
    · omega
    · exact Or.inr h
  | n + 1, m, p, hm, h => by
    simp only [pRl]
    by_cases q : p.2.1 = 0
    · rw [if_pos q]
      rcases h with h | ⟨-, h⟩ | ⟨-, h⟩
      · exact Or.inl h
      · exact absurd q h.1
      · exact absurd q h.1
    · rw [if_neg q]
      have h1 : LB N T (pRs t len m p) ∨ LX t N T 0 m (pRs t len m p) := by
        unfold pRs
        rcases h with h | ⟨h0, h⟩ | ⟨h0, h⟩
        · exact absurd h.1 q
        · rw [if_neg (by omega), h0]; exact Or.inr h
        · rw [if_pos h0]
          have := lx_sign hlen (show m - 1 < 11 by omega) (Or.inr h)
          rw [show m - 1 + 1 = m by omega] at this
          exact this
      have h2 := lx_num hlen (show m < 12 by omega) h1
      refine lx_rl hlen n (m + 1) _ (by omega) ?_
      rcases h2 with h2 | h2
      · exact Or.inl h2
      · exact Or.inr (Or.inr ⟨by omega, h2⟩)
theorem lx_fin {t : Nat → Int} {N : Nat} {T : Nat × aS} {len : Int} {s : aS} {f : Nat → Int} {v : Int} (hlen : len = N) (hA : aA gT t N T 0 s) (hb : s.2.2.2.2.1 = 0) (hn : s.2.2.2.2.2 = 0) : (pRl t len 12 0 (0, 1, f, v)).1 = (T.1 : Int) ∧ ((¬ (pRl t len 12 0 (0, 1, f, v)).2.1 = 0 ∧ (pRl t len 12 0 (0, 1, f, v)).1 = len) ↔ ¬ lBad N T) ∧ (¬ lBad N T → ∀ i, i < 12 → (pRl t len 12 0 (0, 1, f, v)).2.2.1 i = T.2.2.1 i) := by
  have h := lx_rl (t := t) (T := T) hlen 12 0 (0, 1, f, v) rfl (Or.inr (Or.inl ⟨rfl, by show ¬ (1 : Int) = 0; decide, 0, s, rfl, hA, hb, hn, fun z => absurd z (by decide), fun i hi => by omega⟩))
  rcases h with h | ⟨hf, k, s', hp, hA', hb', hn', hs, hg⟩
  · exact ⟨h.2.1, ⟨fun q => absurd h.1 q.1, fun q => absurd h.2.2 q⟩, fun q => absurd h.2.2 q⟩
  · have hkN := hA'.1
    obtain ⟨hst, hgm⟩ := hs rfl
    by_cases hk : k < N
    · have hT : T.1 = k := by
        refine aA_stop hA' hk ?_
        unfold gT
        by_cases c : 48 ≤ t k ∧ t k ≤ 57
        · rw [if_pos c]
          have := hst hk c.1 c.2
          dsimp only
          rw [hn']
          show (if s'.2.2.2.2.1 = 0 ∨ (1 ≤ s'.2.1 (((11 : Nat) : Int)).toNat ∧ s'.2.1 (((11 : Nat) : Int)).toNat ≤ 9) then (1 : Int) else 0) = 0
          rw [Int.toNat_natCast, if_neg (by omega)]
        · rw [if_neg c]
          unfold gTm
          rw [if_neg (by omega)]
      have hbad : lBad N T := Or.inl (by omega)
      exact ⟨by omega, ⟨fun q => by omega, fun q => absurd hbad q⟩, fun q => absurd hbad q⟩
    · have hkN' : k = N := by omega
      rw [hkN'] at hA'
      have hT := aA_end hA'
      have hgood : ¬ lBad N T := by
        rw [hT]
        rintro (z | z | z)
        · exact Nat.lt_irrefl _ z
        · exact z hn'
        · have z' : s'.2.2.2.2.1 = 0 := z
          omega
      refine ⟨by rw [hT]; show _ = (N : Int); omega, ⟨fun _ => hgood, fun _ => ⟨hf, by omega⟩⟩, fun _ i hi => ?_⟩
      rw [hT]
      show _ = s'.2.1 i
      by_cases z : i = 11
      · rw [z]; exact hgm
      · exact hg i (by omega)
