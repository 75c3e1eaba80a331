/-! rules that do the same -/
theorem dWh_24 {S : wW} (h : hR S) {u : Nat} (hu : u < (S 4 0).toNat) (m hf : Int) : 0 ≤ dWh S u m hf ∧ dWh S u m hf ≤ 24 := by
  have := dWh_in h hu m hf
  have := dW_in h hu m
  omega
/-- who has 72 has enough for all -/
theorem dX_big {S : wW} (h : hR S) (m hf bw : Int) {l l' : Int} (hl : 72 ≤ l) (hl' : 72 ≤ l') (c0 : Int) (f0 : Nat → Int) : ∀ i, i ≤ (S 4 0).toNat →
    (l - 24 * i ≤ dL S m hf (dO S bw) l i ∧ l' - 24 * i ≤ dL S m hf (dO S bw) l' i) ∧ l - dL S m hf (dO S bw) l i = l' - dL S m hf (dO S bw) l' i ∧ dK S m hf (dO S bw) l i = dK S m hf (dO S bw) l' i ∧ dC S m hf (dO S bw) l c0 i = dC S m hf (dO S bw) l' c0 i ∧ dS S m hf (dO S bw) l f0 i = dS S m hf (dO S bw) l' f0 i
  | 0, _ => by
    simp only [dL, dK, dC, dS]
    refine ⟨⟨by omega, by omega⟩, by omega, trivial, trivial, trivial⟩
  | i + 1, hi => by
    obtain ⟨⟨a1, a2⟩, a3, a4, a5, a6⟩ := dX_big h m hf bw hl hl' c0 f0 i (by omega)
    have hu := dO_lt h bw (i := i) (by omega)
    have hw := dWh_24 h hu m hf
    have hn := h.1
    have g1 : dg S m hf (dO S bw i) (dL S m hf (dO S bw) l i) = dWh S (dO S bw i) m hf := by
      unfold dg
      split <;> omega
    have g2 : dg S m hf (dO S bw i) (dL S m hf (dO S bw) l' i) = dWh S (dO S bw i) m hf := by
      unfold dg
      split <;> omega
    simp only [dL, dK, dC, dS, g1, g2, a4, a5, a6]
    refine ⟨⟨by omega, by omega⟩, by omega, trivial, trivial, trivial⟩
def rLk (r r' : Nat → Int) : Prop := r 0 = r' 0 ∧ r 1 = r' 1 ∧ (r 0 = 5 → r 2 = r' 2) ∧ (r 0 = 3 → r 3 = r' 3 ∧ r 4 = r' 4) ∧ 72 ≤ r 5 ∧ 72 ≤ r' 5
theorem z_like {S : wW} (hS : hR S) {size : Int} {r r' : Nat → Int} {m lv : Int} (h : rLk r r') (f0 : Nat → Int) : zP S size r m lv = zP S size r' m lv ∧ zG S size r m lv = zG S size r' m lv ∧ zE S size r m lv = zE S size r' m lv ∧ zK S size r m lv = zK S size r' m lv ∧ zC S size r m lv = zC S size r' m lv ∧ zS S size r m lv f0 = zS S size r' m lv f0 := by
  obtain ⟨h0, h1, h2, h3, h5, h5'⟩ := h
  have eP : zP S size r m lv = zP S size r' m lv := by
    unfold zP ePump
    rw [← h0, ← h1]
    by_cases k : r 0 = 3
    · rw [if_pos k, if_pos k, (h3 k).1]
    · rw [if_neg k, if_neg k]
  have e3 : z3 S size r m lv = z3 S size r' m lv := by unfold z3; rw [eP]
  have eH : zH S size r m lv = zH S size r' m lv := by unfold zH; rw [e3, ← h0, ← h1]
  have eB : zB r = zB r' := by unfold zB; rw [← h0]
  have e0 : z0 S size r m lv = z0 S size r' m lv ∨ (72 ≤ z0 S size r m lv ∧ 72 ≤ z0 S size r' m lv) := by
    unfold z0
    rw [← e3]
    unfold eMost
    rw [← h0]
    by_cases k : r 0 = 3
    · rw [if_pos k, if_pos k, (h3 k).2]; exact Or.inl rfl
    · rw [if_neg k, if_neg k]
      by_cases k5 : r 0 = 5
      · rw [if_pos k5, if_pos k5, h2 k5]; exact Or.inl rfl
      · rw [if_neg k5, if_neg k5]
        unfold eMin
        (repeat' split) <;> omega
  unfold zE zG zK zC zS zL
  rw [← eH, ← eB, ← e3, ← eP]
  rcases e0 with e0 | e0
  · rw [e0]
    exact ⟨rfl, rfl, rfl, rfl, rfl, rfl⟩
  · obtain ⟨-, a3, a4, a5, a6⟩ := dX_big hS m (zH S size r m lv) (zB r) e0.1 e0.2 (zP S size r m lv * S 0 6) f0 (S 4 0).toNat (Nat.le_refl _)
    rw [a3, a4, a5, a6]
    exact ⟨rfl, rfl, rfl, rfl, rfl, rfl⟩
