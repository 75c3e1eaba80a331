/-! kinds of the cells that stand in rows -/
theorem w_kdr {a : Nat} (h : 36 ≤ a ∧ a < 46) : w_kd a = 104 := by
  have : ∀ a, a < 46 → 36 ≤ a → w_kd a = 104 := by decide +kernel
  exact this a h.2 h.1
theorem w_rfr {a : Nat} (h : 36 ≤ a ∧ a < 46) : w_rf a 0 = a + 10 := by
  unfold w_rf
  rw [if_pos h]
theorem w_kdm {a : Nat} (h : 36 ≤ a ∧ a < 46) : w_kd (a + 10) = 0 ∧ w_ln (a + 10) = 12 := by
  have : ∀ a, a < 46 → 36 ≤ a → w_kd (a + 10) = 0 ∧ w_ln (a + 10) = 12 := by decide +kernel
  exact this a h.2 h.1
theorem w_kdy {y : Nat} (h : y < 8) : (w_kd (13 + y) = 0 ∧ w_ln (13 + y) = 12) ∧ w_kd (26 + y) = 0 ∧ w_ln (26 + y) = 12 := by
  have : ∀ y, y < 8 → (w_kd (13 + y) = 0 ∧ w_ln (13 + y) = 12) ∧ w_kd (26 + y) = 0 ∧ w_ln (26 + y) = 12 := by decide +kernel
  exact this y h
theorem w_kdw {m : Nat} (h : m < 12) : ((w_kd (58 + m) = 0 ∧ w_ln (58 + m) = 402) ∧ w_kd (71 + m) = 0 ∧ w_ln (71 + m) = 402) ∧ (w_kd (95 + m) = 0 ∧ w_ln (95 + m) = 402) ∧ (w_kd (108 + m) = 0 ∧ w_ln (108 + m) = 402) ∧ w_kd (121 + m) = 0 ∧ w_ln (121 + m) = 402 := by
  have : ∀ m, m < 12 → ((w_kd (58 + m) = 0 ∧ w_ln (58 + m) = 402) ∧ w_kd (71 + m) = 0 ∧ w_ln (71 + m) = 402) ∧ (w_kd (95 + m) = 0 ∧ w_ln (95 + m) = 402) ∧ (w_kd (108 + m) = 0 ∧ w_ln (108 + m) = 402) ∧ w_kd (121 + m) = 0 ∧ w_ln (121 + m) = 402 := by decide +kernel
  exact this m h
/-! bits -/
theorem w_and255 (x : Int) : w_and x 255 = x % 256 := by
  unfold w_and
  have h : (Int32.ofInt x &&& Int32.ofInt 255).toInt = (((Int32.ofInt x).toBitVec &&& (255#32))).toInt := rfl
  rw [h, show (Int32.ofInt x).toBitVec = BitVec.ofInt 32 x from rfl]
  have h2 : (BitVec.ofInt 32 x &&& 255#32) = BitVec.ofNat 32 ((x % 256).toNat) := by
    apply BitVec.eq_of_toNat_eq
    rw [BitVec.toNat_and, BitVec.toNat_ofInt, BitVec.toNat_ofNat, BitVec.toNat_ofNat, show 255 % 2 ^ 32 = 2 ^ 8 - 1 by decide, Nat.and_two_pow_sub_one_eq_mod]
    omega
  rw [h2, BitVec.toInt_ofNat', Int.bmod_def]
  omega
/-- the bytes of a long -/
def byt (z : Int) (k : Nat) : Int := (z / 2 ^ (8 * k)) % 256
theorem byt_in (z : Int) (k : Nat) : 0 ≤ byt z k ∧ byt z k ≤ 255 := by unfold byt; omega
theorem w_byt {z : Int} {k : Nat} (hk : k < 8) : w_and (w_lushr z (8 * k)) 255 = byt z k := by
  rw [w_and255]
  unfold w_lushr byt
  have h1 : ((Int32.ofInt (8 * (k : Int))).toInt64.toUInt64 &&& Int64.toUInt64 63) = UInt64.ofNat (8 * k) := by
    have : ∀ k : Nat, k < 8 → ((Int32.ofInt (8 * (k : Int))).toInt64.toUInt64 &&& Int64.toUInt64 63) = UInt64.ofNat (8 * k) := by decide +kernel
    exact this k hk
  rw [h1]
  have h2 : ((((Int64.ofInt z).toUInt64 >>> UInt64.ofNat (8 * k))).toInt64).toInt % 256 = (((Int64.ofInt z).toUInt64 >>> UInt64.ofNat (8 * k)).toNat : Int) % 256 := by
    generalize (Int64.ofInt z).toUInt64 >>> UInt64.ofNat (8 * k) = u
    have : u.toInt64.toInt = (u.toNat : Int).bmod (2 ^ 64) := by
      show u.toBitVec.toInt = _
      rw [BitVec.toInt_eq_toNat_bmod]
      rfl
    rw [this, Int.bmod_def]
    omega
  rw [h2]
  have h3 : ((Int64.ofInt z).toUInt64 >>> UInt64.ofNat (8 * k)).toNat = (z % 2 ^ 64).toNat / 2 ^ (8 * k) := by
    rw [UInt64.toNat_shiftRight, Nat.shiftRight_eq_div_pow]
    have e1 : (Int64.ofInt z).toUInt64.toNat = (z % 2 ^ 64).toNat := by
      show (BitVec.ofInt 64 z).toNat = _
      rw [BitVec.toNat_ofInt]
      rfl
    have e2 : (UInt64.ofNat (8 * k)).toNat % 64 = 8 * k := by
      have : ∀ k, k < 8 → (UInt64.ofNat (8 * k)).toNat % 64 = 8 * k := by decide +kernel
      exact this k hk
    rw [e1, e2]
  rw [h3]
  match k, hk with
  | 0, _ => simp; omega
  | 1, _ => simp; omega
  | 2, _ => simp; omega
  | 3, _ => simp; omega
  | 4, _ => simp; omega
  | 5, _ => simp; omega
  | 6, _ => simp; omega
  | 7, _ => simp; omega
  | n + 8, h => omega
theorem up_eq (w : wW) (k i : Nat) (v : Int) : w_up w k i v k i = v := by simp [w_up]
theorem up_ne {w : wW} {k i k' i' : Nat} {v : Int} (h : ¬ (k' = k ∧ i' = i)) : w_up w k i v k' i' = w k' i' := by simp [w_up, h]
theorem up_k {w : wW} {k i k' i' : Nat} {v : Int} (h : k' ≠ k) : w_up w k i v k' i' = w k' i' := by simp [w_up, h]
/-- how many letters the lowest bytes tell, and whether they tell them well -/
def ltr (z : Int) : Nat → Int × Bool
  | 0 => (0, true)
  | k + 1 => ((ltr z k).1 + (if 0 < byt z k then 1 else 0), (ltr z k).2 && decide (byt z k ≤ 126) && (decide (byt z k = 0) || decide ((ltr z k).1 = k)))
theorem ltr_in (z : Int) : ∀ k : Nat, 0 ≤ (ltr z k).1 ∧ (ltr z k).1 ≤ k
  | 0 => by simp [ltr]
  | k + 1 => by
    have h := ltr_in z k
    simp only [ltr]
    split <;> omega
theorem ltr_bad (z : Int) (k : Nat) (h : (ltr z k).2 = false) : ∀ n, (ltr z (k + n)).2 = false
  | 0 => h
  | n + 1 => by
    have := ltr_bad z k h n
    rw [show k + (n + 1) = k + n + 1 by omega]
    simp [ltr, this]
theorem w_and1 {x : Int} (h0 : 0 ≤ x) (h1 : x < 512) : w_and x 1 = x % 2 := by
  have : ∀ n : Nat, n < 512 → w_and (n : Int) 1 = (n : Int) % 2 := by decide +kernel
  have h := this x.toNat (by omega)
  rwa [Int.toNat_of_nonneg h0] at h
theorem w_shr1 {x : Int} (h0 : 0 ≤ x) (h1 : x < 512) : w_shr x 1 = x / 2 := by
  have : ∀ n : Nat, n < 512 → w_shr (n : Int) 1 = (n : Int) / 2 := by decide +kernel
  have h := this x.toNat (by omega)
  rwa [Int.toNat_of_nonneg h0] at h
theorem mul_bd {a b A B : Int} (h1 : 0 ≤ a) (h2 : a ≤ A) (h3 : 0 ≤ b) (h4 : b ≤ B) : 0 ≤ a * b ∧ a * b ≤ A * B :=
  ⟨Int.mul_nonneg h1 h3, Int.mul_le_mul h2 h4 h3 (by omega)⟩
theorem w_all {e : Int} {w0 : wW} {p : Int → wW → Prop} : (∀ r w', (r = e ∧ w' = w0) → p r w') ↔ p e w0 :=
  ⟨fun h => h _ _ ⟨rfl, rfl⟩, fun h r w' q => by obtain ⟨rfl, rfl⟩ := q; exact h⟩
theorem w_all0 {w0 : wW} {p : wW → Prop} : (∀ (_ : Int) (w' : wW), w' = w0 → p w') ↔ p w0 :=
  ⟨fun h => h 0 _ rfl, fun h r w' q => by subst q; exact h⟩
theorem w_b0 {c : Prop} [Decidable c] : ((if c then (1 : Int) else 0) = 0) ↔ ¬ c := by split <;> simp [*]
theorem w_b1 {c : Prop} [Decidable c] : inI (if c then (1 : Int) else 0) ↔ True := by
  constructor
  · intro _; trivial
  · intro _; split <;> decide
theorem w_br_i {C : Prop} {pc : Nat} {off : Int} {L : wL} {st : List wV} {w : wW} {K : wK} : w_br C pc off L st w K ↔ (0 ≤ (pc : Int) + off ∧ @ite Prop C (Classical.propDecidable C) (K (w_to pc off) L st w) (K (pc + 3) L st w)) := by
  unfold w_br
  by_cases h : C
  · rw [if_pos h]
    exact ⟨fun q => ⟨q.1, q.2.1 h⟩, fun q => ⟨q.1, fun _ => q.2, fun z => absurd h z⟩⟩
  · rw [if_neg h]
    exact ⟨fun q => ⟨q.1, q.2.2 h⟩, fun q => ⟨q.1, fun z => absurd z h, fun _ => q.2⟩⟩
theorem w_ite {C A B : Prop} [Decidable C] : (if C then A else B) ↔ ((C → A) ∧ (¬ C → B)) := by
  by_cases h : C
  · rw [if_pos h]
    exact ⟨fun q => ⟨fun _ => q, fun z => absurd h z⟩, fun q => q.1 h⟩
  · rw [if_neg h]
    exact ⟨fun q => ⟨fun z => absurd z h, fun _ => q⟩, fun q => q.2 h⟩
