/-! the start: what the two constructors make is the world of nothing told -/
def bzPos (k : Nat) : Nat := bzPosL.getD k 0
def wZ : wW := fun k i => if k = 34 ∨ k = 153 then -1 else if k = 56 ∧ i = 10 then -1 else if k = 135 ∧ i = 44 then -1 else if (36 ≤ k ∧ k < 46) ∧ (i = 3 ∨ i = 4) then -1 else 0
def bzMv (v : wV) : wV := match v with
  | .inr (.inr (some k)) => vr (bzPos k)
  | v => v
def bzChk (es : List bzE) : Bool := (List.range 157).all (fun k => match es[bzPos k]? with
  | none => false
  | some e => e.1 == w_kd k && (if w_kd k < 2 then e.2.1 == w_ln k && (if k = 34 ∨ k = 153 then (List.range 12).all (fun i => bzC e.2.2.2 i == -1) else e.2.2.2.isEmpty)
      else if w_kd k < 4 then e.2.1 == w_ln k && (List.range (w_ln k)).all (fun i => decide (e.2.2.1.getD i bzN = vr (bzPos (k + 1 + i))))
      else e.2.2.1.length == (w_ft (w_kd k - 100)).length && (List.range (w_ft (w_kd k - 100)).length).all (fun j => decide (e.2.2.1.getD j bzN = bzMv (w_fv wZ k j ((w_ft (w_kd k - 100)).getD j 0))))))
theorem bz_f1 : ∀ k, k < 157 → (w_kd k < 4 ∨ 100 ≤ w_kd k) ∧ (w_kd k < 2 → ¬ k = 56 ∧ ¬ k = 135 ∧ ¬ (36 ≤ k ∧ k < 46)) ∧ ((w_kd k = 2 ∨ w_kd k = 3) → k + 1 + w_ln k ≤ 157) ∧ ((k = 34 ∨ k = 153) → w_ln k = 12) := by decide +kernel
theorem bz_f2 : ∀ k, k < 157 → 100 ≤ w_kd k → ∀ j, j < (w_ft (w_kd k - 100)).length → (w_ft (w_kd k - 100)).getD j 0 = 2 → w_rf k j < 157 := by decide +kernel
theorem bz_J : ∀ i, i < 157 → ∀ j, j < 157 → bzPos i = bzPos j → i = j := by decide +kernel
theorem bz_mv {ad : Nat → Nat} {B : Nat} (had : ∀ k, k < 157 → ad k = B + bzPos k) {v : wV} (h : ∀ k, v = vr k → k < 157) : w_cv (bzA B) (bzMv v) = w_cv ad v := by
  match v, h with
  | .inl z, _ => rfl
  | .inr (.inl z), _ => rfl
  | .inr (.inr none), _ => rfl
  | .inr (.inr (some k)), h =>
    show Value.ref (B + bzPos k) = Value.ref (ad k)
    rw [had k (h k rfl)]
theorem bz_world {es : List bzE} {H : Heap} {D : va_G} {ca : Nat → ClassId} {B : Nat} {ad : Nat → Nat} (hchk : bzChk es = true) (hR : bzR D ca B es H) (had : ∀ k, k < 157 → ad k = B + bzPos k) : w_R D ca ad wZ H := by
  intro k q hk
  obtain ⟨hlt, rfl⟩ := w_ws_inv hk
  have hc := List.all_eq_true.mp hchk k (List.mem_range.mpr hlt)
  obtain ⟨F1, F2, F3, F4⟩ := bz_f1 k hlt
  cases he : es[bzPos k]? with
  | none =>
    rw [he] at hc
    cases hc
  | some e =>
    rw [he] at hc
    have hat := hR.2 _ _ (bzW_get he)
    rw [← had k hlt] at hat
    simp only [Bool.and_eq_true, beq_iff_eq] at hc
    obtain ⟨hk0, hc⟩ := hc
    by_cases c1 : w_kd k < 2
    · rw [if_pos c1] at hc
      rw [Bool.and_eq_true] at hc
      obtain ⟨hln, hc⟩ := hc
      have hln := eq_of_beq hln
      obtain ⟨n1, n2, n3⟩ := F2 c1
      have hv : ∀ j, j < e.2.1 → bzC e.2.2.2 j = wZ k j := fun j hj => by
        by_cases c2 : k = 34 ∨ k = 153
        · rw [if_pos c2] at hc
          have h12 := F4 c2
          have := List.all_eq_true.mp hc j (List.mem_range.mpr (by omega))
          unfold wZ
          rw [if_pos c2]
          simpa using this
        · rw [if_neg c2] at hc
          have h0 : e.2.2.2 = [] := by simpa using hc
          rw [h0]
          unfold wZ
          rw [if_neg c2, if_neg (fun z => n1 z.1), if_neg (fun z => n2 z.1), if_neg (fun z => n3 z.1)]
          rfl
      by_cases c3 : w_kd k = 0
      · rw [bzCe_0 (hk0.trans c3)] at hat
        have hat : H[ad k]? = some (vp_cell (ca 0) (e.2.1, .inl (fun i => Int32.ofInt (bzC e.2.2.2 i)))) := hat
        rw [w_arr0 c3]
        show H[ad k]? = some (vp_cell (ca 0) (w_ln k, .inl (fun i => Int32.ofInt (wZ k i))))
        rw [hat, vp_cell_i, vp_cell_i, ← hln]
        refine congrArg some (bz_arr (fun j hj => ?_))
        show Value.int (Int32.ofInt (bzC e.2.2.2 j)) = Value.int (Int32.ofInt (wZ k j))
        rw [hv j hj]
      · have c4 : w_kd k = 1 := by omega
        rw [bzCe_1 (hk0.trans c4)] at hat
        have hat : H[ad k]? = some (vp_cell (ca 1) (e.2.1, .inr (.inl (fun i => Int64.ofInt (bzC e.2.2.2 i))))) := hat
        rw [w_arr1 c4]
        show H[ad k]? = some (vp_cell (ca 1) (w_ln k, .inr (.inl (fun i => Int64.ofInt (wZ k i)))))
        rw [hat, vp_cell_l, vp_cell_l, ← hln]
        refine congrArg some (bz_arr (fun j hj => ?_))
        show Value.long (Int64.ofInt (bzC e.2.2.2 j)) = Value.long (Int64.ofInt (wZ k j))
        rw [hv j hj]
    · rw [if_neg c1] at hc
      by_cases c2 : w_kd k < 4
      · rw [if_pos c2] at hc
        rw [Bool.and_eq_true] at hc
        obtain ⟨hln, hc⟩ := hc
        have hln := eq_of_beq hln
        have h23 : w_kd k = 2 ∨ w_kd k = 3 := by omega
        have hb := F3 h23
        have hv : ∀ j, j < e.2.1 → va_rf (bzRf B (e.2.2.1.getD j bzN)) = va_rf (some (ad (k + 1 + j))) := fun j hj => by
          have := List.all_eq_true.mp hc j (List.mem_range.mpr (by omega))
          rw [of_decide_eq_true this, had (k + 1 + j) (by omega)]
          rfl
        rcases h23 with c3 | c3
        · rw [bzCe_2 (hk0.trans c3)] at hat
          have hat : H[ad k]? = some (vp_cell (ca 2) (e.2.1, .inr (.inr (.inr (.inr (fun i => bzRf B (e.2.2.1.getD i bzN))))))) := hat
          rw [w_arr2 c3]
          show H[ad k]? = some (vp_cell (ca 2) (w_ln k, .inr (.inr (.inr (.inr (fun i => some (ad (k + 1 + i))))))))
          rw [hat, vp_cell_q, vp_cell_q, ← hln]
          exact congrArg some (bz_arr (fun j hj => hv j hj))
        · rw [bzCe_3 (hk0.trans c3)] at hat
          have hat : H[ad k]? = some (vp_cell (ca 3) (e.2.1, .inr (.inr (.inr (.inr (fun i => bzRf B (e.2.2.1.getD i bzN))))))) := hat
          rw [w_arr3 c3]
          show H[ad k]? = some (vp_cell (ca 3) (w_ln k, .inr (.inr (.inr (.inr (fun i => some (ad (k + 1 + i))))))))
          rw [hat, vp_cell_q, vp_cell_q, ← hln]
          exact congrArg some (bz_arr (fun j hj => hv j hj))
      · rw [if_neg c2] at hc
        rw [Bool.and_eq_true] at hc
        obtain ⟨hln, hc⟩ := hc
        have hln := eq_of_beq hln
        have h100 : 100 ≤ w_kd k := by omega
        have F5 := bz_f2 k hlt h100
        obtain ⟨ci, hci⟩ : ∃ ci, w_kd k = 100 + ci := ⟨w_kd k - 100, by omega⟩
        have hsub : w_kd k - 100 = ci := by omega
        rw [hsub] at hc hln F5
        rw [bzCe_o (hk0.trans hci)] at hat
        rw [w_obj hci]
        have hl : e.2.2.1.map (w_cv (bzA B)) = (List.range (w_ft ci).length).map (fun j => w_cv ad (w_fv wZ k j ((w_ft ci).getD j 0))) := by
          apply List.ext_getElem?
          intro j
          rw [List.getElem?_map, List.getElem?_map]
          by_cases hj : j < (w_ft ci).length
          · rw [List.getElem?_range hj, List.getElem?_eq_getElem (by omega)]
            have := of_decide_eq_true (List.all_eq_true.mp hc j (List.mem_range.mpr hj))
            rw [List.getD_eq_getElem?_getD, List.getElem?_eq_getElem (by omega)] at this
            have this : e.2.2.1[j]'(by omega) = bzMv (w_fv wZ k j ((w_ft ci).getD j 0)) := this
            show some (w_cv (bzA B) (e.2.2.1[j]'(by omega))) = some (w_cv ad (w_fv wZ k j ((w_ft ci).getD j 0)))
            rw [this, bz_mv had]
            intro r hr
            by_cases ht : (w_ft ci).getD j 0 = 2
            · rw [ht] at hr
              have hr : vr (w_rf k j) = vr r := hr
              have : w_rf k j = r := by
                injection hr with h1
                injection h1 with h2
                injection h2
              rw [← this]
              exact F5 j hj ht
            · exfalso
              unfold w_fv at hr
              split at hr
              · cases hr
              · cases hr
              · exact ht (by assumption)
              · cases hr
          · rw [List.getElem?_eq_none (by omega), List.getElem?_eq_none (by rw [List.length_range]; omega)]
            rfl
        rw [← hl]
        exact hat
def SZ : wW := fun _ _ => 0
def TZ : wW := fun k _ => if k = 7 then -1 else 0
theorem wZ0 {k i : Nat} (h1 : ¬ (k = 34 ∨ k = 153)) (h3 : ¬ (k = 56 ∧ i = 10)) (h4 : ¬ (k = 135 ∧ i = 44)) (h5 : ¬ ((36 ≤ k ∧ k < 46) ∧ (i = 3 ∨ i = 4))) : wZ k i = 0 := by
  unfold wZ
  rw [if_neg h1, if_neg h3, if_neg h4, if_neg h5]
theorem wZm {k i : Nat} (h : 36 ≤ k ∧ k < 46) (hi : i = 3 ∨ i = 4) : wZ k i = -1 := by
  unfold wZ
  rw [if_neg (by omega), if_neg (by omega), if_neg (by omega), if_pos ⟨h, hi⟩]
theorem rR_Z {a : Nat} (h : 36 ≤ a ∧ a < 46) : rR wZ a := by
  refine ⟨h, ?_, ?_, fun m _ => ?_⟩
  · rw [wZ0 (by omega) (by omega) (by omega) (by omega)]; decide
  · rw [wZ0 (by omega) (by omega) (by omega) (by omega)]; decide
  · rw [wZ0 (by omega) (by omega) (by omega) (by omega)]; decide
theorem yR_Z : yR SZ := ⟨⟨by decide, by decide⟩, fun y m hy _ => absurd hy (Nat.not_lt_zero _)⟩
theorem CI_Z : CI SZ TZ wZ 0 := by
  have z : ∀ k i, (¬ (k = 34 ∨ k = 153) ∧ ¬ (k = 56 ∧ i = 10) ∧ ¬ (k = 135 ∧ i = 44) ∧ ¬ ((36 ≤ k ∧ k < 46) ∧ (i = 3 ∨ i = 4))) → wZ k i = 0 := fun k i h => wZ0 h.1 h.2.1 h.2.2.1 h.2.2.2
  refine CI_mk (by decide) ⟨⟨⟨by decide, by decide⟩, by decide⟩, fun r hr => rR_Z (by omega), fun r hr => absurd hr (Nat.not_lt_zero _), ⟨rR_Z (by omega), by decide, by decide⟩, fun m _ => ?_⟩
    ⟨⟨⟨by decide, by decide⟩, by decide⟩, fun q => absurd rfl q, ⟨⟨by decide, by decide⟩, by decide⟩, fun u hu => ?_⟩
    ⟨yR_Z, by decide, fun y m hy _ => absurd hy (Nat.not_lt_zero _)⟩
    ⟨⟨⟨by decide, by decide⟩, by decide, fun i _ => ?_, fun i hi => absurd hi (Nat.not_lt_zero _)⟩, fun u hu => ?_⟩
    (fun m hm => ⟨⟨by show (-1 : Int) ≤ -1; omega, by show (-1 : Int) ≤ 200; omega⟩, rfl⟩)
    ⟨⟨⟨by decide, by decide⟩, by decide⟩, ⟨by decide, by decide⟩, by decide⟩
    ⟨⟨⟨by decide, by decide⟩, by decide, fun q => absurd q (by decide)⟩, fun r hr => ⟨fun q => absurd q (Nat.not_lt_zero _), fun _ => ⟨wZm (by omega) (Or.inl rfl), wZm (by omega) (Or.inr rfl)⟩⟩, by decide, by decide⟩
    ⟨⟨⟨by decide, by decide⟩, fun q => absurd rfl q⟩, by decide, fun q => absurd rfl q⟩
  · rw [z 55 m (by omega)]; decide
  · rw [z 8 u (by omega)]; decide
  · rw [z 2 i (by omega)]; decide
  · show inI (wZ 3 (9 + 3 * u))
    rw [z 3 _ (by omega)]; decide
theorem MI_Z : MI SZ TZ wZ := by
  have z : ∀ k i, (¬ (k = 34 ∨ k = 153) ∧ ¬ (k = 56 ∧ i = 10) ∧ ¬ (k = 135 ∧ i = 44) ∧ ¬ ((36 ≤ k ∧ k < 46) ∧ (i = 3 ∨ i = 4))) → wZ k i = 0 := fun k i h => wZ0 h.1 h.2.1 h.2.2.1 h.2.2.2
  refine MI_mk ⟨⟨⟨by decide, by decide⟩, by decide⟩, fun r hr => ⟨hr, ?_, ?_, fun m _ => ?_⟩, fun r hr => absurd hr (Nat.not_lt_zero _)⟩
    ⟨⟨by decide, ⟨by decide, by decide⟩, fun _ => rfl, fun _ => rfl⟩, fun q => absurd rfl q, by decide, by decide⟩
    ⟨yR_Z, ?_⟩
    ⟨⟨by decide, by decide⟩, by decide, fun i _ => ?_, fun i hi => absurd hi (Nat.not_lt_zero _)⟩
    (fun m hm => ⟨⟨by show (-1 : Int) ≤ -1; omega, by show (-1 : Int) ≤ 200; omega⟩, rfl⟩)
    ⟨⟨⟨by decide, by decide⟩, by decide⟩, ⟨by decide, by decide⟩, by decide⟩
    ⟨fun _ => by decide, fun q => absurd rfl q⟩
  · rw [z 141 r (by omega)]; decide
  · rw [z 142 r (by omega)]; decide
  · rw [z 143 _ (by omega)]; decide
  · exact ⟨by decide, fun k hk => absurd hk (Nat.not_lt_zero _)⟩
  · rw [z 136 i (by omega)]; decide
