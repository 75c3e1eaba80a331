theorem rnQ_like {S : wW} {area size : Int} {lk : Nat → Int} {R R' : Nat → Int → Int → Nat → Int} {rain : Nat → Int} {K : Nat} (hok : okE (S, area, size, lk, R, rain) K) (h : ∀ m, m < 12 → ∀ lv wet, (0 ≤ lv ∧ lv ≤ size) → (wet = 0 ∨ wet = 1) → rLk (R m lv wet) (R' m lv wet)) : ∀ k, k ≤ K → rnQ (S, area, size, lk, R, rain) k = rnQ (S, area, size, lk, R', rain) k
  | 0, _ => rfl
  | k + 1, hk => by
    have ih := rnQ_like hok h k (by omega)
    have hB := rnB_in hok (k := k) (by omega)
    have eB : rnB (S, area, size, lk, R', rain) k = rnB (S, area, size, lk, R, rain) k := by unfold rnB; rw [← ih]
    have z := z_like hok.1 (size := size) (m := (k % 12 : Nat)) (lv := rnB (S, area, size, lk, R, rain) k) (h (k % 12) (by omega) (rnB (S, area, size, lk, R, rain) k) (wetF (rain k)) hB.1 (wetF_01 _)) (fun _ => 0)
    rw [rnQ_s, rnQ_s]
    unfold rnR
    rw [eB]
    exact Prod.ext z.2.2.1 rfl
theorem rn_like {S : wW} {area size : Int} {lk : Nat → Int} {R R' : Nat → Int → Int → Nat → Int} {rain : Nat → Int} {K : Nat} (hok : okE (S, area, size, lk, R, rain) K) (h : ∀ m, m < 12 → ∀ lv wet, (0 ≤ lv ∧ lv ≤ size) → (wet = 0 ∨ wet = 1) → rLk (R m lv wet) (R' m lv wet)) (k : Nat) (hk : k < K) :
    rnP (S, area, size, lk, R, rain) k = rnP (S, area, size, lk, R', rain) k ∧ rnG (S, area, size, lk, R, rain) k = rnG (S, area, size, lk, R', rain) k ∧ rnK (S, area, size, lk, R, rain) k = rnK (S, area, size, lk, R', rain) k ∧ rnM (S, area, size, lk, R, rain) k = rnM (S, area, size, lk, R', rain) k ∧ (∀ u, rnS (S, area, size, lk, R, rain) u k = rnS (S, area, size, lk, R', rain) u k) ∧ rnC (S, area, size, lk, R, rain) k = rnC (S, area, size, lk, R', rain) k ∧ rnO (S, area, size, lk, R, rain) k = rnO (S, area, size, lk, R', rain) k ∧ rnL (S, area, size, lk, R, rain) k = rnL (S, area, size, lk, R', rain) k ∧ rnD (S, area, size, lk, R, rain) k = rnD (S, area, size, lk, R', rain) k := by
  have hQ := rnQ_like hok h k (by omega)
  have hB := rnB_in hok (k := k) hk
  have eB : rnB (S, area, size, lk, R', rain) k = rnB (S, area, size, lk, R, rain) k := by unfold rnB; rw [← hQ]
  have z := z_like hok.1 (size := size) (m := (k % 12 : Nat)) (lv := rnB (S, area, size, lk, R, rain) k) (h (k % 12) (by omega) (rnB (S, area, size, lk, R, rain) k) (wetF (rain k)) hB.1 (wetF_01 _)) (fun _ => 0)
  have eC : rnC (S, area, size, lk, R, rain) k = rnC (S, area, size, lk, R', rain) k := by unfold rnC; rw [hQ]
  have eO : rnO (S, area, size, lk, R, rain) k = rnO (S, area, size, lk, R', rain) k := by unfold rnO; rw [hQ, eC]
  have eK : rnK (S, area, size, lk, R, rain) k = rnK (S, area, size, lk, R', rain) k := by
    unfold rnK rnR
    rw [eB]
    exact z.2.2.2.1
  refine ⟨?_, ?_, eK, ?_, fun u => ?_, eC, eO, ?_, ?_⟩
  · unfold rnP rnR; rw [eB]; exact z.1
  · unfold rnG rnR; rw [eB]; exact z.2.1
  · unfold rnM rnR; rw [eB]; exact z.2.2.2.2.1
  · unfold rnS rnR; rw [eB]; exact congrFun z.2.2.2.2.2 u
  · unfold rnL; rw [hQ, eC, eO]
  · unfold rnD; rw [eK]
theorem sm_c {v v' : Nat → Int} : ∀ K, (∀ k, k < K → v k = v' k) → sm v K = sm v' K
  | 0, _ => rfl
  | K + 1, h => by simp only [sm, sm_c K (fun k hk => h k (by omega)), h K (by omega)]
theorem rnF_c {E E' : rE} : ∀ K, (∀ k, k < K → rnK E k = rnK E' k) → rnF E K = rnF E' K
  | 0, _ => rfl
  | K + 1, h => by
    have ih := rnF_c (E := E) (E' := E') K (fun k hk => h k (by omega))
    have hK := h K (by omega)
    simp only [rnF, ih, hK]
/-- rule r by the state alone -/
def rS (S T : wW) (r : Nat) (m : Nat) (lv wet : Int) : Nat → Int := fun j => if j = 0 then T 5 r else if j = 1 then T 6 r else if j = 2 then T (40 + r) m else if j = 3 then xA S m (wy S (11 - m)) (wA S (11 - m)) wet.toNat lv.toNat else if j = 4 then gA S m (wy S (11 - m)) (wA S (11 - m)) wet.toNat (lv.toNat + xA S m (wy S (11 - m)) (wA S (11 - m)) wet.toNat lv.toNat) else 72
/-- a rule's cells say what the state says -/
def rC (T w : wW) (r : Nat) : Prop := w (36 + r) 1 = T 5 r ∧ w (36 + r) 2 = T 6 r ∧ ∀ m, m < 12 → w (46 + r) m = T (40 + r) m
theorem rX_S {S T w : wW} {r : Nat} (h : rC T w r) (hp : w (36 + r) 1 = 3 → plW S w) : ∀ m, m < 12 → ∀ lv wet, (0 ≤ lv ∧ lv ≤ S 0 1) → (wet = 0 ∨ wet = 1) → rLk (rX w (36 + r) m lv wet) (rS S T r m lv wet) := by
  intro m hm lv wet hl hw
  refine ⟨h.1, h.2.1, fun _ => ?_, fun h3 => ?_, by show (72 : Int) ≤ 72; decide, by show (72 : Int) ≤ 72; decide⟩
  · show w (36 + r + 10) m = T (40 + r) m
    rw [show 36 + r + 10 = 46 + r by omega]
    exact h.2.2 m hm
  · have e := hp h3 m hm wet.toNat lv.toNat (by omega) (by omega)
    have es : stF lv wet = 2 * lv.toNat + wet.toNat := by
      unfold stF
      rcases hw with rfl | rfl
      · simp; omega
      · simp; omega
    show w (58 + m) (stF lv wet) = _ ∧ w (71 + m) (stF lv wet) = _
    rw [es]
    exact e
theorem plW_A {S w : wW} {a : Nat} (hS : hR S) (hp : w a 1 = 3 → plW S w) : plA w a (S 0 1) := by
  intro h3 m lv wet hm h1 h2 hw
  have e := hp h3 m hm wet.toNat lv.toNat (by omega) (by omega)
  have es : stF lv wet = 2 * lv.toNat + wet.toNat := by
    unfold stF
    rcases hw with rfl | rfl
    · simp; omega
    · simp; omega
  rw [es, e.1, e.2]
  have hpN := pNw_in hS m (lv := lv.toNat) (by omega)
  have hx := amF_le (fA S m (wy S (11 - m)) (wA S (11 - m)) wet.toNat lv.toNat) (pNw S m lv.toNat)
  have hx' : xA S m (wy S (11 - m)) (wA S (11 - m)) wet.toNat lv.toNat = amF (fA S m (wy S (11 - m)) (wA S (11 - m)) wet.toNat lv.toNat) (pNw S m lv.toNat) := rfl
  generalize xA S m (wy S (11 - m)) (wA S (11 - m)) wet.toNat lv.toNat = x at *
  have hg := gNa_in hS m (lv.toNat + x)
  have hgl : gA S m (wy S (11 - m)) (wA S (11 - m)) wet.toNat (lv.toNat + x) ≤ gNa S m (lv.toNat + x) := amL_le _ _
  have h200 := hS.2.2.1
  omega
