theorem w_i32 {z : Int} (h : inI z) : (Int32.ofInt z).toInt = z := by
  obtain ⟨h1, h2⟩ := h
  exact Int32.toInt_ofInt_of_le h1 (by omega)
theorem w_i64 {z : Int} (h : inL z) : (Int64.ofInt z).toInt = z := by
  obtain ⟨h1, h2⟩ := h
  exact Int64.toInt_ofInt_of_le h1 (by omega)
theorem w_ofI (x : Int32) : Int32.ofInt x.toInt = x := Int32.ofInt_toInt x
theorem w_ofL (x : Int64) : Int64.ofInt x.toInt = x := Int64.ofInt_toInt x
theorem w_add (x y : Int) : Int32.ofInt (x + y) = Int32.ofInt x + Int32.ofInt y := Int32.ofInt_add x y
theorem w_sub (x y : Int) : Int32.ofInt (x - y) = Int32.ofInt x - Int32.ofInt y := Int32.ofInt_sub x y
theorem w_mul (x y : Int) : Int32.ofInt (x * y) = Int32.ofInt x * Int32.ofInt y := Int32.ofInt_mul x y
theorem w_ladd (x y : Int) : Int64.ofInt (x + y) = Int64.ofInt x + Int64.ofInt y := Int64.ofInt_add x y
theorem w_lsub (x y : Int) : Int64.ofInt (x - y) = Int64.ofInt x - Int64.ofInt y := Int64.ofInt_sub x y
theorem w_lmul (x y : Int) : Int64.ofInt (x * y) = Int64.ofInt x * Int64.ofInt y := Int64.ofInt_mul x y
theorem w_div {x y : Int} (hx : inI x) (hy : inI y) : Int32.ofInt (x.tdiv y) = Int32.ofInt x / Int32.ofInt y := by
  obtain ⟨h1, h2⟩ := hx
  obtain ⟨h3, h4⟩ := hy
  have e : Int32.maxValue.toInt = 2147483647 := rfl
  exact Int32.ofInt_tdiv h1 (by omega) h3 (by omega)
theorem w_ldiv {x y : Int} (hx : inL x) (hy : inL y) : Int64.ofInt (x.tdiv y) = Int64.ofInt x / Int64.ofInt y := by
  obtain ⟨h1, h2⟩ := hx
  obtain ⟨h3, h4⟩ := hy
  have e : Int64.maxValue.toInt = 9223372036854775807 := rfl
  exact Int64.ofInt_tdiv h1 (by omega) h3 (by omega)
theorem w_mod {x y : Int} (hx : inI x) (hy : inI y) : Int32.ofInt (x.tmod y) = Int32.ofInt x - Int32.ofInt x / Int32.ofInt y * Int32.ofInt y := by
  rw [← w_div hx hy, ← w_mul, ← w_sub, Int.tmod_def, Int.mul_comm y]
theorem w_lmod {x y : Int} (hx : inL x) (hy : inL y) : Int64.ofInt (x.tmod y) = Int64.ofInt x - Int64.ofInt x / Int64.ofInt y * Int64.ofInt y := by
  rw [← w_ldiv hx hy, ← w_lmul, ← w_lsub, Int.tmod_def, Int.mul_comm y]
theorem w_lt {x y : Int} (hx : inI x) (hy : inI y) : (Int32.ofInt x < Int32.ofInt y) ↔ x < y := by
  rw [Int32.lt_iff_toInt_lt, w_i32 hx, w_i32 hy]
theorem w_le {x y : Int} (hx : inI x) (hy : inI y) : (Int32.ofInt x ≤ Int32.ofInt y) ↔ x ≤ y := by
  rw [Int32.le_iff_toInt_le, w_i32 hx, w_i32 hy]
theorem w_eq {x y : Int} (hx : inI x) (hy : inI y) : (Int32.ofInt x = Int32.ofInt y) ↔ x = y := by
  constructor
  · intro h
    rw [← w_i32 hx, ← w_i32 hy, h]
  · intro h; rw [h]
theorem w_llt {x y : Int} (hx : inL x) (hy : inL y) : (Int64.ofInt x < Int64.ofInt y) ↔ x < y := by
  rw [Int64.lt_iff_toInt_lt, w_i64 hx, w_i64 hy]
theorem w_leq {x y : Int} (hx : inL x) (hy : inL y) : (Int64.ofInt x = Int64.ofInt y) ↔ x = y := by
  constructor
  · intro h
    rw [← w_i64 hx, ← w_i64 hy, h]
  · intro h; rw [h]
theorem w_i0 : inI 0 := ⟨by decide, by decide⟩
theorem w_zero : (0 : Int32) = Int32.ofInt 0 := rfl
theorem w_lzero : (0 : Int64) = Int64.ofInt 0 := rfl
theorem w_idx {i : Int} {n : Nat} (h0 : 0 ≤ i) (h1 : i < n) (hn : n ≤ 2147483647) : vp_in (Int32.ofInt i) n ∧ (Int32.ofInt i).toNatClampNeg = i.toNat := by
  have hi : inI i := ⟨by omega, by omega⟩
  have e : (Int32.ofInt i).toNatClampNeg = i.toNat := by
    show (Int32.ofInt i).toInt.toNat = _
    rw [w_i32 hi]
  refine ⟨?_, e⟩
  intro q
  rcases q with q | q
  · rw [w_zero, w_lt hi w_i0] at q
    omega
  · rw [e] at q
    omega
theorem w_i2l {x : Int} (h : inI x) : (Int32.ofInt x).toInt64 = Int64.ofInt x := by
  apply Int64.toInt_inj.mp
  rw [Int32.toInt_toInt64, w_i32 h, w_i64 ⟨by unfold inI at h; omega, by unfold inI at h; omega⟩]
theorem w_l2i (x : Int) : (Int64.ofInt x).toInt32 = Int32.ofInt x := Int64.toInt32_ofInt
theorem w_bip : ∀ z : Int, -128 ≤ z → z ≤ 127 → (Int8.ofInt z).toInt32 = Int32.ofInt z := by
  intro z h1 h2
  apply Int32.toInt_inj.mp
  rw [Int8.toInt_toInt32, w_i32 ⟨by omega, by omega⟩]
  exact Int8.toInt_ofInt_of_le h1 (by omega)
theorem w_sip : ∀ z : Int, -32768 ≤ z → z ≤ 32767 → (Int16.ofInt z).toInt32 = Int32.ofInt z := by
  intro z h1 h2
  apply Int32.toInt_inj.mp
  rw [Int16.toInt_toInt32, w_i32 ⟨by omega, by omega⟩]
  exact Int16.toInt_ofInt_of_le h1 (by omega)
theorem w_cmp_cmp {x y : Int} (hx : inL x) (hy : inL y) : lg_cmp (Int64.ofInt x) (Int64.ofInt y) = Int32.ofInt (w_cmp x y) := by
  unfold lg_cmp w_cmp
  simp only [gt_iff_lt, w_llt hy hx, w_leq hx hy]
  rcases Int.lt_trichotomy x y with h | h | h
  · rw [if_neg (by omega), if_neg (by omega), if_pos h]; rfl
  · rw [if_neg (by omega), if_pos h, if_neg (by omega), if_pos h]; rfl
  · rw [if_pos h, if_neg (by omega), if_neg (by omega)]; rfl
theorem w_cmp_lt {x y : Int} : w_cmp x y < 0 ↔ x < y := by unfold w_cmp; split <;> (try split) <;> omega
theorem w_cmp_ge {x y : Int} : 0 ≤ w_cmp x y ↔ y ≤ x := by unfold w_cmp; split <;> (try split) <;> omega
theorem w_cmp_gt {x y : Int} : 0 < w_cmp x y ↔ y < x := by unfold w_cmp; split <;> (try split) <;> omega
theorem w_cmp_le {x y : Int} : w_cmp x y ≤ 0 ↔ x ≤ y := by unfold w_cmp; split <;> (try split) <;> omega
theorem w_cmp_eq {x y : Int} : w_cmp x y = 0 ↔ x = y := by unfold w_cmp; split <;> (try split) <;> omega
theorem w_cmp_in {x y : Int} : inI (w_cmp x y) := by unfold w_cmp inI; split <;> (try split) <;> omega
theorem w_ln_le (k : Nat) : w_ln k ≤ 4824 := by
  have h : ∀ x ∈ w_lnL, x ≤ 4824 := by decide +kernel
  unfold w_ln
  rw [List.getD_eq_getElem?_getD]
  cases e : w_lnL[k]? with
  | none => exact Nat.zero_le _
  | some x => exact h x (List.mem_of_getElem? e)
theorem w_kd_lt {k j : Nat} (h : w_kd k = j) (hj : j < 4 ∨ (100 ≤ j)) : k < 157 := by
  have h1 : ∀ k, k < 159 → 157 ≤ k → w_kd k = 4 := by decide +kernel
  rcases Nat.lt_or_ge k 157 with q | q
  · exact q
  · rcases Nat.lt_or_ge k 159 with q2 | q2
    · have := h1 k q2 q
      omega
    · have : w_kd k = 99 := by
        unfold w_kd
        rw [List.getD_eq_getElem?_getD, List.getElem?_eq_none (by show 159 ≤ k; exact q2)]
        rfl
      omega
theorem w_lc (z : Fin 2) : Int64.ofNat (z : Nat) = Int64.ofInt ((z : Nat) : Int) := by revert z; decide
theorem w_oN (n : Nat) : Int32.ofNat n = Int32.ofInt (n : Int) := by
  apply Int32.toInt_inj.mp
  rw [Int32.toInt_ofInt, Int32.toInt_ofNat']
