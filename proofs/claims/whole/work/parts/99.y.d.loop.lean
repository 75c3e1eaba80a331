/-! the law's loop and its start -/
def lwOA : Array Int := #[124, 177, 190, 213, 226, 239, 252, 285, 318, 341, 374, 407, 440, 493, 516, 539, 582, 625, 659, 693, 762, 775, 808, 851, 864, 877, 900]
def lwT (j : Nat) : Nat := ([156, 209, 222, 245, 258, 271, 284, 317, 350, 373, 406, 439, 472, 525, 548, 571, 614, 657, 691, 725, 794, 807, 840, 883, 896, 909, 932] : List Nat).getD j 0
theorem lw_T : ∀ j, j < 27 → lwOA[j]? = some ((lwT j : Int) - 32) := by decide +kernel
theorem w_and31 (x : Int) : w_and x 31 = x % 32 := by
  unfold w_and
  have h : (Int32.ofInt x &&& Int32.ofInt 31).toInt = (((Int32.ofInt x).toBitVec &&& (31#32))).toInt := rfl
  rw [h, show (Int32.ofInt x).toBitVec = BitVec.ofInt 32 x from rfl]
  have h2 : (BitVec.ofInt 32 x &&& 31#32) = BitVec.ofNat 32 ((x % 32).toNat) := by
    apply BitVec.eq_of_toNat_eq
    rw [BitVec.toNat_and, BitVec.toNat_ofInt, BitVec.toNat_ofNat, BitVec.toNat_ofNat, show 31 % 2 ^ 32 = 2 ^ 5 - 1 by decide, Nat.and_two_pow_sub_one_eq_mod]
    omega
  rw [h2, BitVec.toInt_ofNat', Int.bmod_def]
  omega
section LWI
variable {p : Program} {l : Launch} {e : Env} {s : State} {m : MethodId} {below : List Frame} {meth : Method} {c : Code} {D : va_G} {ca : Nat → ClassId} {ad : Nat → Nat} {b L : Nat} {xs : Nat → Int32}
theorem lw_946 (C : lwC p s m c D ca ad b L xs) {i : Int} {w : wW} (h : lwG p l e s m below meth c D ca ad b 18 (lwL (i + 5)) [] w) : lwG p l e s m below meth c D ca ad b 946 (lwL i) [] w := by
  intro H locs ls hR hS hL
  obtain ⟨⟨hx, -⟩, hb, -⟩ := C
  have hm := w_lv_mem (ad := ad) (L := lwL i) (q := (3, w_cv ad (vi i))) |>.mpr ⟨vi i, rfl, rfl⟩
  obtain ⟨k, hk⟩ := List.getElem?_of_mem hm
  refine lv_iinc (v := Int32.ofInt (i + 5)) hx hb (by decide +kernel : decode code 946 = .ok (.iinc 3 5, 3)) hL.has hk (by rw [w_add]) (by decide) rfl (fun ls1 g => ?_)
  refine lv_goto (tgt := 18) hx hb (by decide +kernel : decode code (946 + 3) = .ok (.goto (-931), 3)) (by decide) ?_
  exact h H locs ls1 hR hS (hL.s1 (i := 3) (v := vi (i + 5)) g)
theorem lw_disp (C : lwC p s m c D ca ad b L xs) {i : Int} {w : wW} (h0 : 0 ≤ i) (hi : i + 4 < L) (h : ∀ j : Nat, j < 27 → lwG p l e s m below meth c D ca ad b (lwT j) (lwL i) [] w) (h9 : lwG p l e s m below meth c D ca ad b 946 (lwL i) [] w) : lwG p l e s m below meth c D ca ad b 26 (lwL i) [] w := by
  intro H locs ls hR hS hL
  obtain ⟨⟨hx, -⟩, hb, hX, hbl, hbA, had, hLL⟩ := C
  have e : w_cv ad (vr 200) = .ref b := congrArg Value.ref had
  have hl0 : ls[0]? = some (.val (.ref b)) := by rw [← e]; exact hL.ld (i := 0) (v := vr 200) rfl
  obtain ⟨g1, g2⟩ := w_idx (i := i) (n := L) (by omega) (by omega) (by omega)
  have hv : (xs i.toNat &&& Int32.ofInt 31).toInt = (xs i.toNat).toInt % 32 := by
    have := w_and31 (xs i.toNat).toInt
    unfold w_and at this
    rw [w_ofI] at this
    exact this
  refine lv_aload_n hx hb (by decide +kernel : decode code 26 = .ok (.aload_n 0, 1)) rfl hl0 ?_
  refine lv_iload_n hx hb (by decide +kernel : decode code (26 + 1) = .ok (.iload_n 3, 1)) rfl (hL.ld (i := 3) (v := vi i) rfl) ?_
  refine va_sld hx hb hX hbl hbA hS g1 (by decide +kernel : decode code (26 + 1 + 1) = .ok (.iaload, 1)) ?_
  rw [g2]
  refine lv_bipush hx hb (by decide +kernel : decode code (26 + 1 + 1 + 1) = .ok (.bipush 31, 2)) (w_bip 31 (by decide) (by decide)) ?_
  refine lv_iand hx hb (by decide +kernel : decode code (26 + 1 + 1 + 1 + 2) = .ok (.iand, 1)) ?_
  generalize xs i.toNat &&& Int32.ofInt 31 = v at hv
  have hv0 : 0 ≤ v.toInt := by omega
  have d : decode code (26 + 1 + 1 + 1 + 2 + 1) = .ok (.tableswitch 914 0 26 lwOA, 124) := by decide +kernel
  by_cases hz : v.toInt < 27
  · obtain ⟨j, hj⟩ : ∃ j : Nat, v.toInt = j := ⟨v.toInt.toNat, by omega⟩
    have hj27 : j < 27 := by omega
    exact lv_tableIn (off := (lwT j : Int) - 32) (tgt := lwT j) hx hb d (by omega) (by omega) (by rw [show (v.toInt - 0).toNat = j by omega]; exact lw_T j hj27) (by omega) (h j hj27 H locs ls hR hS hL)
  · exact lv_tableOut (tgt := 946) hx hb d (Or.inr (by omega)) (by decide) (h9 H locs ls hR hS hL)
theorem lw_head (C : lwC p s m c D ca ad b L xs) (hr : meth.sig.returnType = ret) (hlocks : meth.locks = false) (hAd : ∀ k, k < 157 → s.heap.size ≤ ad k) {i : Int} {w : wW} (h0 : 0 ≤ i) (h1 : i ≤ 3000) (h : i + 4 < L → lwG p l e s m below meth c D ca ad b 26 (lwL i) [] w) : lwG p l e s m below meth c D ca ad b 18 (lwL i) [] w := by
  intro H locs ls hR hS hL
  obtain ⟨⟨hx, -⟩, hb, hX, hbl, hbA, had, hLL⟩ := C
  have e : w_cv ad (vr 200) = .ref b := congrArg Value.ref had
  have hl0 : ls[0]? = some (.val (.ref b)) := by rw [← e]; exact hL.ld (i := 0) (v := vr 200) rfl
  refine lv_iload_n hx hb (by decide +kernel : decode code 18 = .ok (.iload_n 3, 1)) rfl (hL.ld (i := 3) (v := vi i) rfl) ?_
  refine lv_aload_n hx hb (by decide +kernel : decode code (18 + 1) = .ok (.aload_n 0, 1)) rfl hl0 ?_
  refine va_slen hx hb hX hbl hbA hS (by decide +kernel : decode code (18 + 1 + 1) = .ok (.arraylength, 1)) ?_
  refine lv_iconst (v := Int32.ofInt 5) hx hb (by decide +kernel : decode code (18 + 1 + 1 + 1) = .ok (.iconst 5, 1)) rfl ?_
  refine lv_isub hx hb (by decide +kernel : decode code (18 + 1 + 1 + 1 + 1) = .ok (.isub, 1)) ?_
  rw [w_oN, ← w_sub]
  refine lv_icmp_gt (tgt := 952) hx hb (by decide +kernel : decode code (18 + 1 + 1 + 1 + 1 + 1) = .ok (.if_icmp .gt 929, 3)) (by decide) (fun _ => ?_) (fun q => ?_)
  · refine lv_iconst (v := 1) hx hb (by decide +kernel : decode code 952 = .ok (.iconst 1, 1)) (by decide) ?_
    refine va_forget (fun q hq => ?_) ?_
    · obtain ⟨k, hk, e⟩ := hS.2.2 q hq
      rw [e]
      exact hAd k hk
    · exact lw_ret hx hb hr hlocks (by decide +kernel : decode code (952 + 1) = .ok (.ireturn, 1))
  · have hw := mt (w_lt (x := (L : Int) - 5) (y := i) ⟨by omega, by omega⟩ ⟨by omega, by omega⟩).mpr q
    exact h (by omega) H locs ls hR hS hL
set_option maxRecDepth 100000 in
theorem lw_cases (C : lwC p s m c D ca ad b L xs) {i n : Int} {S T w : wW} (h0 : 0 ≤ i) (hi : i + 4 < L) (hn : n < 1000000) (hC : CI S T w n) (hM : MI S T w) (K : ∀ (S T w2 : wW), CI S T w2 (n + 1) → MI S T w2 → lwG p l e s m below meth c D ca ad b 946 (lwL i) [] w2) : ∀ j : Nat, j < 27 → lwG p l e s m below meth c D ca ad b (lwT j) (lwL i) [] w := by
  intro j hj
  match j, hj with
  | 0, _ => exact lwc_letters C h0 hi hn hC hM K
  | 1, _ => exact lwc_blank C h0 hi hn hC hM K
  | 2, _ => exact lwc_fault C h0 hi hn hC hM K
  | 3, _ => exact lwc_house C h0 hi hn hC hM K
  | 4, _ => exact lwc_year C h0 hi hn hC hM K
  | 5, _ => exact lwc_tell C h0 hi hn hC hM K
  | 6, _ => exact lwc_rule C h0 hi hn hC hM K
  | 7, _ => exact lwc_as C h0 hi hn hC hM K
  | 8, _ => exact lwc_houseTold C h0 hi hn hC hM K
  | 9, _ => exact lwc_change C h0 hi hn hC hM K
  | 10, _ => exact lwc_rain C h0 hi hn hC hM K
  | 11, _ => exact lwc_run C h0 hi hn hC hM K
  | 12, _ => exact lwc_month C h0 hi hn hC hM K
  | 13, _ => exact lwc_never C h0 hi hn hC hM K
  | 14, _ => exact lwc_let C h0 hi hn hC hM K
  | 15, _ => exact lwc_cheapest C h0 hi hn hC hM K
  | 16, _ => exact lwc_share C h0 hi hn hC hM K
  | 17, _ => exact lwc_sure C h0 hi hn hC hM K
  | 18, _ => exact lwc_mean C h0 hi hn hC hM K
  | 19, _ => exact lwc_wise C h0 hi hn hC hM K
  | 20, _ => exact lwc_hedge C h0 hi hn hC hM K
  | 21, _ => exact lwc_read C h0 hi hn hC hM K
  | 22, _ => exact lwc_leaks C h0 hi hn hC hM K
  | 23, _ => exact lwc_image C h0 hi hn hC hM K
  | 24, _ => exact lwc_restore C h0 hi hn hC hM K
  | 25, _ => exact lwc_count C h0 hi hn hC hM K
  | 26, _ => exact lwc_digest C h0 hi hn hC hM K
  | j + 27, hj => omega
theorem lw_loop (C : lwC p s m c D ca ad b L xs) (hr : meth.sig.returnType = ret) (hlocks : meth.locks = false) (hAd : ∀ k, k < 157 → s.heap.size ≤ ad k) : ∀ (k : Nat) (i n : Int) (S T w : wW), 0 ≤ i → n ≤ i → i ≤ L + 5 → (L : Int) ≤ i + 4 + 5 * k → CI S T w n → MI S T w → lwG p l e s m below meth c D ca ad b 18 (lwL i) [] w
  | 0, i, n, S, T, w, h0, hni, hil, hk, hC, hM => lw_head C hr hlocks hAd h0 (by have := C.2.2.2.2.2.2; omega) (fun hi => absurd hi (by omega))
  | k + 1, i, n, S, T, w, h0, hni, hil, hk, hC, hM => lw_head C hr hlocks hAd h0 (by have := C.2.2.2.2.2.2; omega) (fun hi => by
      have hLL := C.2.2.2.2.2.2
      exact lw_disp C h0 hi (lw_cases C h0 hi (by omega) hC hM (fun S' T' w2 h1 h2 => lw_946 C (lw_loop C hr hlocks hAd k (i + 5) (n + 1) S' T' w2 (by omega) (by omega) (by omega) (by omega) h1 h2))) (lw_946 C (lw_loop C hr hlocks hAd k (i + 5) n S T w (by omega) (by omega) (by omega) (by omega) hC hM)))
end LWI
