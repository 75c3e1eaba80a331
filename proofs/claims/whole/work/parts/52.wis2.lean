theorem oT_sm (S : wW) (m : Int) : ∀ i, oT S m i = sm (fun i => dW S (dO S 1 i) m) i
  | 0 => rfl
  | i + 1 => by simp only [oT, sm, oT_sm S m i]
theorem oC_sm (S : wW) (m : Int) : ∀ i, oC S m i = sm (fun i => dW S (dO S 1 i) m * S 3 (dO S 1 i)) i
  | 0 => rfl
  | i + 1 => by simp only [oC, sm, oC_sm S m i]
theorem dT_sm (S : wW) (m : Int) : ∀ i, dT S m i = sm (fun i => dW S i m) i
  | 0 => rfl
  | i + 1 => by simp only [dT, sm, dT_sm S m i]
/-- the order by worth is one of all uses -/
theorem o_perm {S : wW} (hS : hR S) (f : Nat → Int) : sm (fun i => f (dO S 1 i)) (S 4 0).toNat = sm f (S 4 0).toNat := by
  have h1 := hS.1
  have hn3 : 1 ≤ (S 4 0).toNat ∧ (S 4 0).toNat ≤ 3 := by omega
  unfold dO
  generalize (S 4 0).toNat = n at *
  have e : n = 1 ∨ n = 2 ∨ n = 3 := by omega
  rcases e with rfl | rfl | rfl
  · simp [o_ord, sm]
  · by_cases q : S 3 0 < S 3 1 <;> simp [o_ord, sm, q] <;> omega
  · by_cases q1 : S 3 0 < S 3 1 <;> by_cases q2 : S 3 0 < S 3 2 <;> by_cases q3 : S 3 1 < S 3 2 <;> simp [o_ord, sm, q1, q2, q3] <;> omega
theorem oT_T {S : wW} (hS : hR S) (m : Int) : oT S m (S 4 0).toNat = wT S m := by
  rw [oT_sm, wT, dT_sm]
  exact o_perm hS (fun u => dW S u m)
def nC (S : wW) (m : Int) (i : Nat) : Int := sm (fun u => dW S u m * S 3 u) i
theorem oC_N {S : wW} (hS : hR S) (m : Int) : oC S m (S 4 0).toNat = nC S m (S 4 0).toNat := by
  rw [oC_sm, nC]
  exact o_perm hS (fun u => dW S u m * S 3 u)
theorem nC_in {S : wW} (hS : hR S) (m : Int) : ∀ i, i ≤ (S 4 0).toNat → 0 ≤ nC S m i ∧ nC S m i ≤ 216 * i
  | 0, _ => by simp [nC, sm]
  | i + 1, hi => by
    have ih := nC_in hS m i (by omega)
    have hw := dW_in hS (u := i) (by omega) m
    have h3 := hS.2.2.2.2.2.2.2.2 i (by omega)
    have hm := mul_bd (a := dW S i m) (A := 24) (by omega) (by omega) (show 0 ≤ S 3 i by omega) (show S 3 i ≤ 9 by omega)
    simp only [nC, sm] at ih ⊢
    omega
theorem oC_in {S : wW} (hS : hR S) (m : Int) : ∀ i, i ≤ (S 4 0).toNat → 0 ≤ oC S m i ∧ oC S m i ≤ 216 * i
  | 0, _ => by simp [oC]
  | i + 1, hi => by
    have ih := oC_in hS m i (by omega)
    have hu := dO_lt hS 1 (i := i) (by omega)
    have hw := dW_in hS hu m
    have h3 := hS.2.2.2.2.2.2.2.2 _ hu
    have hm := mul_bd (a := dW S (dO S 1 i) m) (A := 24) (by omega) (by omega) (show 0 ≤ S 3 (dO S 1 i) by omega) (show S 3 (dO S 1 i) ≤ 9 by omega)
    simp only [oC] at ih ⊢
    omega
theorem dO_1 {S w : wW} (hXw : hX S w) {i : Nat} (hi : i < (S 4 0).toNat) : w 9 i = (dO S 1 i : Int) := by
  rw [hXw.2.2.2.1 i hi]
  simp [dO]
theorem wG_in {S : wW} (hS : hR S) (m : Int) {g : Int} (hg : 0 ≤ g) : 0 ≤ wG S m g ∧ wG S m g ≤ 648 := by
  have := dC_in hS m 0 1 hg 0 (S 4 0).toNat (Nat.le_refl _)
  have := hS.1
  unfold wG
  omega
