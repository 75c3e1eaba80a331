/-! the two calls whose arguments are reckoned (laid by a program) -/
section LWH
variable {p : Program} {l : Launch} {e : Env} {s : State} {m : MethodId} {below : List Frame} {meth : Method} {c : Code} {D : va_G} {ca : Nat → ClassId} {ad : Nat → Nat} {b L : Nat} {xs : Nat → Int32} {i n : Int} {S T w : wW}
set_option maxRecDepth 100000 in
set_option maxHeartbeats 4000000 in
theorem lwc_letters (C : lwC p s m c D ca ad b L xs) (h0 : 0 ≤ i) (hi : i + 4 < L) (hn : n < 1000000) (hC : CI S T w n) (hM : MI S T w) (K : ∀ (S T w2 : wW), CI S T w2 (n + 1) → MI S T w2 → lwG p l e s m below meth c D ca ad b 946 (lwL i) [] w2) : lwG p l e s m below meth c D ca ad b 156 (lwL i) [] w := by
  have hst := stp2_up hn (k_letters (z := (lwLet (xs (i + 1).toNat).toInt (xs (i + 2).toNat).toInt)) (Int.le_of_lt hn) hC hM)
  refine lw_al1 C (by decide +kernel) ?_
  refine lw_lett (pc := 157) C h0 hi ⟨by decide +kernel, by decide +kernel, by decide +kernel, by decide +kernel, by decide +kernel, by decide +kernel, by decide +kernel⟩ ?_
  refine lw_call (pc := 177) (n := 2) C [vr 0, vl (lwLet (xs (i + 1).toNat).toInt (xs (i + 2).toNat).toInt)] [] (w_callV (own := R_law) (idx := 15) (ci := 9) c_X9_letters rfl rfl h_X9_letters (w_m2 180 (by decide +kernel) (by decide +kernel)) (w_m2 181 (by decide +kernel) (by decide +kernel)) (w_m2 182 (by decide +kernel) (by decide +kernel)) (w_m1 1 (by decide +kernel) (by decide +kernel)) (w_m2 183 (by decide +kernel) (by decide +kernel)) ⟨by decide +kernel, by decide +kernel, by decide +kernel⟩) (by decide) (by decide) (by decide +kernel) rfl (Nat.zero_le _) hst.1 (fun r w1 hq => ?_)
  refine lw_al2 (pc := 180) C (by decide +kernel) ?_
  refine lw_lett (pc := 181) C h0 hi ⟨by decide +kernel, by decide +kernel, by decide +kernel, by decide +kernel, by decide +kernel, by decide +kernel, by decide +kernel⟩ ?_
  obtain ⟨hp', h2⟩ := hst.2 r w1 hq
  refine lw_call (pc := 201) (n := 2) C [vr 135, vl (lwLet (xs (i + 1).toNat).toInt (xs (i + 2).toNat).toInt)] [vi r] (w_callV (own := R_law) (idx := 19) (ci := 10) c_X10_letters rfl rfl h_X10_letters (w_m5 0 (by decide +kernel) (by decide +kernel)) (w_m5 1 (by decide +kernel) (by decide +kernel)) (w_m5 2 (by decide +kernel) (by decide +kernel)) (w_m1 12 (by decide +kernel) (by decide +kernel)) (w_m5 3 (by decide +kernel) (by decide +kernel)) ⟨by decide +kernel, by decide +kernel, by decide +kernel⟩) (by decide) (by decide) (by decide +kernel) rfl (by decide : 1 ≤ 8) hp' (fun r' w2 hq' => ?_)
  obtain ⟨e, S', T', a1, a2⟩ := h2 r' w2 hq'
  subst e
  exact lw_eqI (pc := 204) (off := 742) C (by decide +kernel) (by decide) (K S' T' w2 a1 a2)
set_option maxRecDepth 100000 in
set_option maxHeartbeats 4000000 in
theorem lwc_wise (C : lwC p s m c D ca ad b L xs) (h0 : 0 ≤ i) (hi : i + 4 < L) (hn : n < 1000000) (hC : CI S T w n) (hM : MI S T w) (K : ∀ (S T w2 : wW), CI S T w2 (n + 1) → MI S T w2 → lwG p l e s m below meth c D ca ad b 946 (lwL i) [] w2) : lwG p l e s m below meth c D ca ad b 725 (lwL i) [] w := by
  have hst := stp2_up hn (k_wise hC hM (lw_in (xs (i + 1).toNat)) (lw_in (xs (i + 2).toNat)) (lwB_r (xs (i + 3).toNat).toInt) (lw_in (xs (i + 4).toNat)))
  refine lw_al1 C (by decide +kernel) ?_
  refine lw_read (k := 1) (pc := 726) C h0 hi (by decide) (by decide +kernel) ?_
  refine lw_read (k := 2) (pc := 731) C h0 hi (by decide) (by decide +kernel) ?_
  refine lw_read (k := 3) (pc := 736) C h0 hi (by decide) (by decide +kernel) ?_
  refine lw_bool (pc := 741) C (lw_in _) (by decide +kernel) ?_
  refine lw_read (k := 4) (pc := 749) C h0 hi (by decide) (by decide +kernel) ?_
  refine lw_call (pc := 754) (n := 5) C [vr 0, vi (xs (i + 1).toNat).toInt, vi (xs (i + 2).toNat).toInt, vi (lwB (xs (i + 3).toNat).toInt), vi (xs (i + 4).toNat).toInt] [] (w_callV (own := R_law) (idx := 98) (ci := 9) (c_X9_wise S T) rfl rfl (h_X9_wise S T) (w_m4 26 (by decide +kernel) (by decide +kernel)) (w_m4 27 (by decide +kernel) (by decide +kernel)) (w_m4 28 (by decide +kernel) (by decide +kernel)) (w_m1 1 (by decide +kernel) (by decide +kernel)) (w_m4 29 (by decide +kernel) (by decide +kernel)) ⟨by decide +kernel, by decide +kernel, by decide +kernel⟩) (by decide) (by decide) (by decide +kernel) rfl (Nat.zero_le _) hst.1 (fun r w1 hq => ?_)
  refine lw_al2 (pc := 757) C (by decide +kernel) ?_
  refine lw_read (k := 1) (pc := 758) C h0 hi (by decide) (by decide +kernel) ?_
  refine lw_read (k := 2) (pc := 763) C h0 hi (by decide) (by decide +kernel) ?_
  refine lw_read (k := 3) (pc := 768) C h0 hi (by decide) (by decide +kernel) ?_
  refine lw_bool (pc := 773) C (lw_in _) (by decide +kernel) ?_
  refine lw_read (k := 4) (pc := 781) C h0 hi (by decide) (by decide +kernel) ?_
  obtain ⟨hp', h2⟩ := hst.2 r w1 hq
  refine lw_call (pc := 786) (n := 5) C [vr 135, vi (xs (i + 1).toNat).toInt, vi (xs (i + 2).toNat).toInt, vi (lwB (xs (i + 3).toNat).toInt), vi (xs (i + 4).toNat).toInt] [vi r] (w_callV (own := R_law) (idx := 102) (ci := 10) (c_X10_wise S T) rfl rfl (h_X10_wise S T) (w_m5 215 (by decide +kernel) (by decide +kernel)) (w_m5 216 (by decide +kernel) (by decide +kernel)) (w_m5 217 (by decide +kernel) (by decide +kernel)) (w_m1 12 (by decide +kernel) (by decide +kernel)) (w_m5 218 (by decide +kernel) (by decide +kernel)) ⟨by decide +kernel, by decide +kernel, by decide +kernel⟩) (by decide) (by decide) (by decide +kernel) rfl (by decide : 1 ≤ 8) hp' (fun r' w2 hq' => ?_)
  obtain ⟨e, S', T', a1, a2⟩ := h2 r' w2 hq'
  subst e
  exact lw_eqI (pc := 789) (off := 157) C (by decide +kernel) (by decide) (K S' T' w2 a1 a2)
end LWH
