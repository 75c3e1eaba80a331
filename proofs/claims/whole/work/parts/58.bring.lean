/-- in the middle of a month of the plan: c of the two rained are done -/
def mdV (S w0 : wW) (m : Nat) (ways : Int) (A : Nat → Int) (c : Nat) (w1 : wW) : Prop :=
  (∀ k i, ¬ (84 ≤ k ∧ k ≤ 87) → ¬ (k = 56 ∧ i = 9) → ¬ k = 58 + m → ¬ k = 71 + m → w1 k i = w0 k i) ∧ w1 56 9 = wT S m ∧ (∀ g : Nat, (g : Int) ≤ wT S m → w1 87 g = ways * wG S m g) ∧
  ∀ wet lv : Nat, wet < c → (lv : Int) ≤ S 0 1 → w1 84 (2 * lv + wet) = fA S m ways A wet lv (xA S m ways A wet lv) ∧ w1 (58 + m) (2 * lv + wet) = xA S m ways A wet lv ∧ w1 (71 + m) (2 * lv + wet) = gA S m ways A wet (lv + xA S m ways A wet lv)
theorem cg_A {S w0 w1 w2 : wW} {m : Nat} {ways : Int} {A : Nat → Int} {c wet n lv : Nat} (hm : m < 12) (hd : mdV S w0 m ways A c w1) (h83 : ∀ s : Nat, (s : Int) ≤ 2 * S 0 1 + 1 → w0 83 s = A s) (hS : hR S) (hwet : wet ≤ 1) (hcg : cgV S w1 wet n w2) (hl : lv < n) (hn : (n : Int) ≤ S 0 1 + 1) :
    w2 85 lv = hA S m ways A wet lv (gA S m ways A wet lv) ∧ w2 86 lv = (gA S m ways A wet lv : Nat) := by
  have e := hcg.2 lv hl
  have eg : gNw w1 lv = gNa S m lv := by unfold gNw gNa; rw [hd.2.1]
  have hg := gNa_in hS m lv
  have ef : ∀ i, i ≤ gNa S m lv → hGw w1 wet lv i = hA S m ways A wet lv i := by
    intro i hi
    unfold hGw hA
    rw [hd.2.2.1 i (by omega), hd.1 83 _ (by omega) (by omega) (by omega) (by omega), Int.toNat_natCast, h83 _ (by omega)]
  have ea : amL (hGw w1 wet lv) (gNw w1 lv) = gA S m ways A wet lv := by
    rw [eg]
    exact amL_c _ ef
  rw [ea] at e
  rw [ef _ (by have := amL_le (hA S m ways A wet lv) (gNa S m lv); unfold gA; omega)] at e
  exact e
theorem md_step {S w0 w1 w2 w3 : wW} {m : Nat} {ways : Int} {A : Nat → Int} {c n : Nat} (hm : m < 12) (hc : c ≤ 1) (hd : mdV S w0 m ways A c w1) (h83 : ∀ s : Nat, (s : Int) ≤ 2 * S 0 1 + 1 → w0 83 s = A s) (hS : hR S) (hn : (n : Int) = S 0 1 + 1) (hcg : cgV S w1 c n w2) (hcp : cpV S w2 m c ways n w3) : mdV S w0 m ways A (c + 1) w3 := by
  refine ⟨fun k i h1 h2 h3 h4 => ?_, ?_, fun g hg => ?_, fun wet lv hw hl => ?_⟩
  · rw [hcp.1 k i (by omega) h3 h4, hcg.1 k i (by omega) (by omega)]; exact hd.1 k i h1 h2 h3 h4
  · rw [hcp.1 56 9 (by decide) (by omega) (by omega), hcg.1 56 9 (by decide) (by decide)]; exact hd.2.1
  · rw [hcp.1 87 g (by decide) (by omega) (by omega), hcg.1 87 g (by decide) (by decide)]; exact hd.2.2.1 g hg
  · by_cases q : wet = c
    · subst q
      have e := hcp.2.2 lv (by omega)
      have hp := pNw_in hS m hl
      have ef : ∀ x, x ≤ pNw S m lv → fPw S w2 ways lv x = fA S m ways A wet lv x := by
        intro x hx
        unfold fPw fA
        rw [(cg_A (lv := lv + x) hm hd h83 hS hc hcg (by omega) (by omega)).1]
      have ex : xNw S w2 m ways lv = xA S m ways A wet lv := amF_c _ ef
      have hx := amF_le (fA S m ways A wet lv) (pNw S m lv)
      have hx' : xA S m ways A wet lv = amF (fA S m ways A wet lv) (pNw S m lv) := rfl
      rw [ex, ef _ (by omega), (cg_A (lv := lv + xA S m ways A wet lv) hm hd h83 hS hc hcg (by omega) (by omega)).2] at e
      exact e
    · have e := hd.2.2.2 wet lv (by omega) hl
      have e2 := hcp.2.1 (2 * lv + wet) (fun l hl => by omega)
      rw [e2.1, e2.2.1, e2.2.2, hcg.1 84 _ (by decide) (by decide), hcg.1 (58 + m) _ (by omega) (by omega), hcg.1 (71 + m) _ (by omega) (by omega)]
      exact e
theorem md_back {S w0 w1 w2 : wW} {m j n : Nat} (hm : m + j = 11) (hy : yR S) (hS : hR S) (hd : mdV S w0 m (wy S j) (wA S j) 2 w1) (hn : (n : Int) = 2 * S 0 1 + 2) (hb : lbV S w1 m n w2) : ∀ s : Nat, (s : Int) ≤ 2 * S 0 1 + 1 → w2 83 s = wA S (j + 1) s := by
  intro s hs
  rw [hb.2 s (by omega)]
  have em : 11 - j = m := by omega
  show lbF S w1 m s = cA S (11 - j) (wy S j) (wA S j) s
  rw [em]
  unfold lbF cA
  have : ∀ k, k ≤ (S 4 1).toNat → sm (fun y => w1 84 (sbl S (S (20 + y) m) s)) k = sm (fun y => bA S m (wy S j) (wA S j) (sbl S (S (20 + y) m) s)) k := by
    intro k
    induction k with
    | zero => intro _; rfl
    | succ k ih =>
      intro hk
      have hr := hy.2 k m (by omega) (by omega)
      have hq := (sbl_in hS hr hs).2
      have e := (hd.2.2.2 (sbl S (S (20 + k) m) s % 2) (sbl S (S (20 + k) m) s / 2) (by omega) (by omega)).1
      rw [show 2 * (sbl S (S (20 + k) m) s / 2) + sbl S (S (20 + k) m) s % 2 = sbl S (S (20 + k) m) s by omega] at e
      simp only [sm]
      rw [ih (by omega), e]
      rfl
  exact this _ (Nat.le_refl _)
/-- the plan as it must stand -/
def plD (S w : wW) (m : Nat) : Prop := ∀ wet lv : Nat, wet < 2 → (lv : Int) ≤ S 0 1 → w (58 + m) (2 * lv + wet) = xA S m (wy S (11 - m)) (wA S (11 - m)) wet lv ∧ w (71 + m) (2 * lv + wet) = gA S m (wy S (11 - m)) (wA S (11 - m)) wet (lv + xA S m (wy S (11 - m)) (wA S (11 - m)) wet lv)
def plW (S w : wW) : Prop := ∀ m, m < 12 → plD S w m
def p_X7_bringUpTo (S : wW) : List wV → wW → Prop := fun av w => match av with
  | [.inr (.inr (some this)), .inl v] => this = 56 ∧ hR S ∧ hX S w ∧ (yR S ∧ yX S w) ∧ inI v ∧ inI (w 56 10) ∧ (w 56 10 = v → plW S w)
  | _ => False
theorem h_X7_bringUpTo (S : wW) : ∀ av w, (p_X7_bringUpTo S) av w → ∃ a r, av = vr a :: r ∧ w_kd a = 100 + 7 := by
  intro av w h
  unfold p_X7_bringUpTo at h
  split at h
  · refine ⟨_, _, rfl, ?_⟩
    first | (rw [h.1]; rfl) | (rw [h]; rfl)
  · exact h.elim
def q_X7_bringUpTo (S : wW) : List wV → wW → Int → wW → Prop := fun av w r w' => match av with
  | [.inr (.inr (some this)), .inl v] => plW S w' ∧ w' 56 10 = v ∧ (∀ k i, (k < 56 ∨ 87 < k) → w' k i = w k i) ∧ ∀ i, ¬ i = 9 → ¬ i = 10 → w' 56 i = w 56 i
  | _ => False
/-- behind j months -/
def brV (S w : wW) (v : Int) (j : Nat) (w1 : wW) : Prop := w1 56 10 = v ∧ (∀ k i, (k < 56 ∨ 87 < k) → w1 k i = w k i) ∧ (∀ i, ¬ i = 9 → ¬ i = 10 → w1 56 i = w 56 i) ∧ (∀ s : Nat, (s : Int) ≤ 2 * S 0 1 + 1 → w1 83 s = wA S j s) ∧ ∀ m, m < 12 → 11 < m + j → plD S w1 m
theorem br_step {S w w0 w1 w2 : wW} {v : Int} {m j n : Nat} (hm : m + j = 11) (hy : yR S) (hS : hR S) (hb : brV S w v j w0) (hd : mdV S w0 m (wy S j) (wA S j) 2 w1) (hn : (n : Int) = 2 * S 0 1 + 2) (hl : lbV S w1 m n w2) : brV S w v (j + 1) w2 := by
  refine ⟨?_, fun k i hk => ?_, fun i h1 h2 => ?_, md_back hm hy hS hd hn hl, fun m' h1 h2 => ?_⟩
  · rw [hl.1 56 10 (by decide), hd.1 56 10 (by omega) (by omega) (by omega) (by omega)]; exact hb.1
  · rw [hl.1 k i (by omega), hd.1 k i (by omega) (by omega) (by omega) (by omega)]; exact hb.2.1 k i hk
  · rw [hl.1 56 i (by decide), hd.1 56 i (by omega) (by omega) (by omega) (by omega)]; exact hb.2.2.1 i h1 h2
  · intro wet lv hw hlv
    by_cases q : m' = m
    · subst q
      have e := hd.2.2.2 wet lv hw hlv
      rw [hl.1 _ _ (by omega), hl.1 _ _ (by omega), show 11 - m' = j by omega]
      exact e.2
    · rw [hl.1 _ _ (by omega), hl.1 _ _ (by omega), hd.1 _ _ (by omega) (by omega) (by omega) (by omega), hd.1 (71 + m') _ (by omega) (by omega) (by omega) (by omega)]
      exact hb.2.2.2.2 m' h1 (by omega) wet lv hw hlv
