/-! the plan by numbers: A tells what may still follow the month's end, ways in how many ways -/
theorem amL_c {f f' : Nat → Int} : ∀ n, (∀ i, i ≤ n → f i = f' i) → amL f n = amL f' n
  | 0, _ => rfl
  | n + 1, h => by
    have ih := amL_c n (fun i hi => h i (by omega))
    have h1 := h (n + 1) (Nat.le_refl _)
    have h2 := h (amL f' n) (by have := amL_le f' n; omega)
    simp only [amL, ih, h1, h2]
theorem amF_c {f f' : Nat → Int} : ∀ n, (∀ i, i ≤ n → f i = f' i) → amF f n = amF f' n
  | 0, _ => rfl
  | n + 1, h => by
    have ih := amF_c n (fun i hi => h i (by omega))
    have h1 := h (n + 1) (Nat.le_refl _)
    have h2 := h (amF f' n) (by have := amF_le f' n; omega)
    simp only [amF, ih, h1, h2]
theorem amL_min (f : Nat → Int) : ∀ n, f (amL f n) ≤ f 0
  | 0 => Int.le_refl _
  | n + 1 => by
    have ih := amL_min f n
    simp only [amL]
    split <;> omega
theorem amF_min (f : Nat → Int) : ∀ n, f (amF f n) ≤ f 0
  | 0 => Int.le_refl _
  | n + 1 => by
    have ih := amF_min f n
    simp only [amF]
    split <;> omega
def hA (S : wW) (m ways : Int) (A : Nat → Int) (wet lv g : Nat) : Int := ways * wG S m g + A (2 * (lv - g) + wet)
def gNa (S : wW) (m : Int) (lv : Nat) : Nat := if (lv : Int) ≤ wT S m then lv else (wT S m).toNat
def gA (S : wW) (m ways : Int) (A : Nat → Int) (wet lv : Nat) : Nat := amL (hA S m ways A wet lv) (gNa S m lv)
def fA (S : wW) (m ways : Int) (A : Nat → Int) (wet lv x : Nat) : Int := ways * S 0 6 * x + hA S m ways A wet (lv + x) (gA S m ways A wet (lv + x))
def xA (S : wW) (m ways : Int) (A : Nat → Int) (wet lv : Nat) : Nat := amF (fA S m ways A wet lv) (pNw S m lv)
def bA (S : wW) (m ways : Int) (A : Nat → Int) (st : Nat) : Int := fA S m ways A (st % 2) (st / 2) (xA S m ways A (st % 2) (st / 2))
def cA (S : wW) (m : Nat) (ways : Int) (A : Nat → Int) (st : Nat) : Int := sm (fun y => bA S m ways A (sbl S (S (20 + y) m) st)) (S 4 1).toNat
def wy (S : wW) : Nat → Int
  | 0 => 1
  | j + 1 => wy S j * S 4 1
def wA (S : wW) : Nat → Nat → Int
  | 0 => fun _ => 0
  | j + 1 => cA S (11 - j) (wy S j) (wA S j)
def pw8 : Nat → Int
  | 0 => 1
  | j + 1 => pw8 j * 8
def bd8 : Nat → Int
  | 0 => 0
  | j + 1 => (bd8 j + 1000 * pw8 j) * 8
theorem pw8_in : ∀ j, j ≤ 12 → 1 ≤ pw8 j ∧ pw8 j ≤ 68719476736 ∧ 0 ≤ bd8 j ∧ bd8 j ≤ 1000000000000000 := by decide
theorem pw8_11 : ∀ j, j ≤ 11 → pw8 j ≤ 8589934592 := by decide
theorem wy_in {S : wW} (hy : yR S) : ∀ j, 0 ≤ wy S j ∧ wy S j ≤ pw8 j
  | 0 => by simp [wy, pw8]
  | j + 1 => by
    have ih := wy_in hy j
    have := mul_bd ih.1 ih.2 hy.1.1 hy.1.2
    simp only [wy, pw8]
    exact this
theorem wy_11 {S : wW} (hy : yR S) {j : Nat} (hj : j ≤ 11) : 0 ≤ wy S j ∧ wy S j ≤ 8589934592 := by
  have := wy_in hy j
  have := pw8_11 j hj
  omega
theorem gNa_in {S : wW} (hS : hR S) (m : Int) (lv : Nat) : gNa S m lv ≤ lv ∧ (gNa S m lv : Int) ≤ wT S m := by
  have := dT_in hS m (S 4 0).toNat (Nat.le_refl _)
  have e : wT S m = dT S m (S 4 0).toNat := rfl
  unfold gNa
  split <;> omega
theorem pNw_in {S : wW} (hS : hR S) (m : Int) {lv : Nat} (hl : (lv : Int) ≤ S 0 1) : (pNw S m lv : Int) ≤ 5 ∧ (lv + pNw S m lv : Int) ≤ S 0 1 := by
  have h5 := hS.2.2.2.2.2.2.1
  have : 0 ≤ mpF S m ∧ mpF S m ≤ 5 := by unfold mpF; split <;> omega
  unfold pNw
  split <;> omega
theorem hA_in {S : wW} (hS : hR S) {m ways : Int} {A : Nat → Int} {j : Nat} (hw : 0 ≤ ways ∧ ways ≤ pw8 j) (hA0 : ∀ s : Nat, (s : Int) ≤ 2 * S 0 1 + 1 → 0 ≤ A s ∧ A s ≤ bd8 j) {wet lv : Nat} (hwet : wet ≤ 1) (hl : (lv : Int) ≤ S 0 1) : 0 ≤ hA S m ways A wet lv (gA S m ways A wet lv) ∧ hA S m ways A wet lv (gA S m ways A wet lv) ≤ 648 * pw8 j + bd8 j := by
  have hg := gNa_in hS m lv
  have hc := amL_le (hA S m ways A wet lv) (gNa S m lv)
  have h0 := amL_min (hA S m ways A wet lv) (gNa S m lv)
  have b1 := hA0 (2 * (lv - 0) + wet) (by omega)
  have w0 := wG_in hS m (g := ((0 : Nat) : Int)) (by decide)
  have m0 := mul_bd hw.1 hw.2 w0.1 w0.2
  have b2 := hA0 (2 * (lv - gA S m ways A wet lv) + wet) (by omega)
  have w2 := wG_in hS m (g := (gA S m ways A wet lv : Int)) (by omega)
  have m2 := mul_bd hw.1 hw.2 w2.1 w2.2
  have e0 : hA S m ways A wet lv 0 = ways * wG S m ((0 : Nat) : Int) + A (2 * (lv - 0) + wet) := rfl
  have e1 : hA S m ways A wet lv (amL (hA S m ways A wet lv) (gNa S m lv)) = hA S m ways A wet lv (gA S m ways A wet lv) := rfl
  have e2 : hA S m ways A wet lv (gA S m ways A wet lv) = ways * wG S m (gA S m ways A wet lv : Int) + A (2 * (lv - gA S m ways A wet lv) + wet) := rfl
  omega
theorem bA_in {S : wW} (hS : hR S) {m ways : Int} {A : Nat → Int} {j : Nat} (hw : 0 ≤ ways ∧ ways ≤ pw8 j) (hA0 : ∀ s : Nat, (s : Int) ≤ 2 * S 0 1 + 1 → 0 ≤ A s ∧ A s ≤ bd8 j) {st : Nat} (hs : (st : Int) ≤ 2 * S 0 1 + 1) : 0 ≤ bA S m ways A st ∧ bA S m ways A st ≤ 1000 * pw8 j + bd8 j := by
  have hp := pNw_in hS m (lv := st / 2) (by omega)
  have hc := amF_le (fA S m ways A (st % 2) (st / 2)) (pNw S m (st / 2))
  have h0 := amF_min (fA S m ways A (st % 2) (st / 2)) (pNw S m (st / 2))
  have h06 := hS.2.2.2.2.2.2.2.1
  have hq : 0 ≤ ways * S 0 6 := Int.mul_nonneg hw.1 h06.1
  have hb := hA_in hS (m := m) hw hA0 (wet := st % 2) (lv := st / 2 + 0) (by omega) (by omega)
  have hx := hA_in hS (m := m) hw hA0 (wet := st % 2) (lv := st / 2 + xA S m ways A (st % 2) (st / 2)) (by omega) (by unfold xA; omega)
  have hqx : 0 ≤ ways * S 0 6 * (xA S m ways A (st % 2) (st / 2) : Nat) := Int.mul_nonneg hq (by omega)
  have e0 : fA S m ways A (st % 2) (st / 2) 0 = ways * S 0 6 * ((0 : Nat) : Int) + hA S m ways A (st % 2) (st / 2 + 0) (gA S m ways A (st % 2) (st / 2 + 0)) := rfl
  have e1 : fA S m ways A (st % 2) (st / 2) (amF (fA S m ways A (st % 2) (st / 2)) (pNw S m (st / 2))) = bA S m ways A st := rfl
  have e2 : bA S m ways A st = ways * S 0 6 * (xA S m ways A (st % 2) (st / 2) : Nat) + hA S m ways A (st % 2) (st / 2 + xA S m ways A (st % 2) (st / 2)) (gA S m ways A (st % 2) (st / 2 + xA S m ways A (st % 2) (st / 2))) := rfl
  rw [Int.cast_ofNat_Int, Int.mul_zero] at e0
  omega
theorem wA_in {S : wW} (hS : hR S) (hy : yR S) : ∀ j, j ≤ 12 → ∀ s : Nat, (s : Int) ≤ 2 * S 0 1 + 1 → 0 ≤ wA S j s ∧ wA S j s ≤ bd8 j
  | 0, _, s, _ => by simp [wA, bd8]
  | j + 1, hj, s, hs => by
    have ih := wA_in hS hy j (by omega)
    have hsm := sm_in (v := fun y => bA S ((11 - j : Nat) : Int) (wy S j) (wA S j) (sbl S (S (20 + y) (11 - j)) s)) (A := 1000 * pw8 j + bd8 j) (K := (S 4 1).toNat) (fun y hy' => by
      have hr := hy.2 y (11 - j) hy' (by omega)
      exact bA_in hS (wy_in hy j) ih (sbl_in hS hr hs).2) (S 4 1).toNat (Nat.le_refl _)
    have e : wA S (j + 1) s = sm (fun y => bA S ((11 - j : Nat) : Int) (wy S j) (wA S j) (sbl S (S (20 + y) (11 - j)) s)) (S 4 1).toNat := rfl
    have hp := pw8_in j (by omega)
    have hm := mul_bd (a := 1000 * pw8 j + bd8 j) (b := ((S 4 1).toNat : Int)) (A := 1000 * pw8 j + bd8 j) (B := 8) (by omega) (Int.le_refl _) (by omega) (by have := hy.1; omega)
    rw [e]
    simp only [bd8]
    omega
