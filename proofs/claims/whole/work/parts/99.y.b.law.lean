/-! the law's frame: reading the script, calling both sides, comparing -/
def lwL (i : Int) : wL := [some (vr 200), some (vr 0), some (vr 135), some (vi i)]
abbrev lwD (k : Int) (pc : Nat) : Prop := decode code pc = .ok (.aload_n 0, 1) ∧ decode code (pc + 1) = .ok (.iload_n 3, 1) ∧ decode code (pc + 1 + 1) = .ok (.iconst k, 1) ∧ decode code (pc + 1 + 1 + 1) = .ok (.iadd, 1) ∧ decode code (pc + 1 + 1 + 1 + 1) = .ok (.iaload, 1)
def lwRB : List Int → Nat → Bool
  | [], _ => true
  | k :: ks, pc => decide (lwD k pc) && lwRB ks (pc + 5)
theorem lw_in (x : Int32) : inI x.toInt := by
  have h1 := Int32.le_toInt x
  have h2 := Int32.toInt_lt x
  exact ⟨by omega, by omega⟩
theorem lw_cmp (v : Int64) : lg_cmp v v = 0 := by
  unfold lg_cmp
  rw [if_neg (fun h => by have := Int64.lt_iff_toInt_lt.mp h; omega), if_pos rfl]
theorem stp2_up {P : wW → Prop} {Q : wW → Int → wW → Prop} {P' : wW → Prop} {Q' : wW → Int → wW → Prop} {n : Int} {w : wW} (hn : n < 1000000) (h : stp2 P Q P' Q' n w) : stp2 P Q P' Q' (n + 1) w :=
  ⟨h.1, fun r w1 hq => ⟨(h.2 r w1 hq).1, fun r' w2 hq' => by
    obtain ⟨e, S, T, h1, h2⟩ := (h.2 r w1 hq).2 r' w2 hq'
    exact ⟨e, S, T, CI_up hn h1, h2⟩⟩⟩
def lwLet (a b : Int) : Int := (((Int32.ofInt a).toInt64 <<< ((Int32.ofInt 32).toInt64 &&& 63)) ||| ((Int32.ofInt b).toInt64 &&& 4294967295)).toInt
def lwB (z : Int) : Int := if z = 0 then 0 else 1
theorem lwB_r (z : Int) : lwB z = 0 ∨ lwB z = 1 := by
  unfold lwB
  split
  · exact Or.inl rfl
  · exact Or.inr rfl
section LWG
variable {p : Program} {l : Launch} {e : Env} {s : State} {m : MethodId} {below : List Frame} {meth : Method} {c : Code} {D : va_G} {ca : Nat → ClassId} {ad : Nat → Nat} {b L : Nat} {xs : Nat → Int32}
def lwG (p : Program) (l : Launch) (e : Env) (s : State) (m : MethodId) (below : List Frame) (meth : Method) (c : Code) (D : va_G) (ca : Nat → ClassId) (ad : Nat → Nat) (b : Nat) : wK := w_G p l e room_1 s m #[Value.ref b] below meth c (lw_Z below #[Value.ref b] s) D ca ad 4 600000 7302250
def lwC (p : Program) (s : State) (m : MethodId) (c : Code) (D : va_G) (ca : Nat → ClassId) (ad : Nat → Nat) (b L : Nat) (xs : Nat → Int32) : Prop := w_Cx p s m #[Value.ref b] c D ca ad R_law 4 ∧ c.code = code ∧ va_X b L xs s s.heap ∧ b < s.heap.size ∧ ¬ w_A ad b ∧ ad 200 = b ∧ L ≤ 2560
theorem lw_al1 (C : lwC p s m c D ca ad b L xs) {pc : Nat} {i : Int} {st : List wV} {w : wW} (d : decode code pc = .ok (.aload_n 1, 1)) (h : lwG p l e s m below meth c D ca ad b (pc + 1) (lwL i) (vr 0 :: st) w) : lwG p l e s m below meth c D ca ad b pc (lwL i) st w := by
  intro H locs ls hR hS hL
  obtain ⟨⟨hx, -⟩, hb, -⟩ := C
  exact lv_aload_n hx hb d rfl (hL.ld (i := 1) (v := vr 0) rfl) (h H locs ls hR hS hL)
theorem lw_al2 (C : lwC p s m c D ca ad b L xs) {pc : Nat} {i : Int} {st : List wV} {w : wW} (d : decode code pc = .ok (.aload_n 2, 1)) (h : lwG p l e s m below meth c D ca ad b (pc + 1) (lwL i) (vr 135 :: st) w) : lwG p l e s m below meth c D ca ad b pc (lwL i) st w := by
  intro H locs ls hR hS hL
  obtain ⟨⟨hx, -⟩, hb, -⟩ := C
  exact lv_aload_n hx hb d rfl (hL.ld (i := 2) (v := vr 135) rfl) (h H locs ls hR hS hL)
theorem lw_read (C : lwC p s m c D ca ad b L xs) {pc : Nat} {i k : Int} {st : List wV} {w : wW} (h0 : 0 ≤ i) (hi : i + 4 < L) (hk : 0 ≤ k ∧ k ≤ 4) (d : lwD k pc) (h : lwG p l e s m below meth c D ca ad b (pc + 5) (lwL i) (vi (xs (i + k).toNat).toInt :: st) w) : lwG p l e s m below meth c D ca ad b pc (lwL i) st w := by
  intro H locs ls hR hS hL
  obtain ⟨⟨hx, -⟩, hb, hX, hbl, hbA, had, hLL⟩ := C
  obtain ⟨d0, d1, d2, d3, d4⟩ := d
  have e : w_cv ad (vr 200) = .ref b := congrArg Value.ref had
  have hl0 : ls[0]? = some (.val (.ref b)) := by rw [← e]; exact hL.ld (i := 0) (v := vr 200) rfl
  have g := h H locs ls hR hS hL
  obtain ⟨g1, g2⟩ := w_idx (i := i + k) (n := L) (by omega) (by omega) (by omega)
  simp only [List.map_cons, w_cv, w_ofI] at g
  refine lv_aload_n hx hb d0 rfl hl0 ?_
  refine lv_iload_n hx hb d1 rfl (hL.ld (i := 3) (v := vi i) rfl) ?_
  refine lv_iconst (v := Int32.ofInt k) hx hb d2 rfl ?_
  refine lv_iadd hx hb d3 ?_
  rw [← w_add]
  refine va_sld hx hb hX hbl hbA hS g1 d4 ?_
  rw [g2]
  exact g
theorem lw_reads (C : lwC p s m c D ca ad b L xs) {i : Int} {w : wW} (h0 : 0 ≤ i) (hi : i + 4 < L) (ks : List Int) : ∀ (pc : Nat) (st : List wV), (∀ k ∈ ks, 0 ≤ k ∧ k ≤ 4) → lwRB ks pc = true → lwG p l e s m below meth c D ca ad b (pc + 5 * ks.length) (lwL i) ((ks.map (fun k => vi (xs (i + k).toNat).toInt)).reverse ++ st) w → lwG p l e s m below meth c D ca ad b pc (lwL i) st w := by
  induction ks with
  | nil =>
    intro pc st _ _ h
    rw [List.length_nil, Nat.mul_zero, Nat.add_zero, List.map_nil, List.reverse_nil, List.nil_append] at h
    exact h
  | cons k ks ih =>
    intro pc st hk d h
    have hd : (decide (lwD k pc) && lwRB ks (pc + 5)) = true := d
    rw [Bool.and_eq_true] at hd
    refine lw_read C h0 hi (hk k List.mem_cons_self) (of_decide_eq_true hd.1) ?_
    refine ih (pc + 5) _ (fun q hq => hk q (List.mem_cons_of_mem _ hq)) hd.2 ?_
    rw [List.length_cons, show pc + 5 * (ks.length + 1) = pc + 5 + 5 * ks.length by omega] at h
    rw [List.map_cons, List.reverse_cons, List.append_assoc] at h
    exact h
theorem lw_call (C : lwC p s m c D ca ad b L xs) {pc idx fr lo n rt : Nat} {pre : List wV → wW → Prop} {post : List wV → wW → Int → wW → Prop} {LL : wL} {w : wW} (av rest : List wV) (hc : w_COK R_law idx (0, n, rt, pre, post) fr lo) (hfr : fr + 1 ≤ 11) (hlo : lo ≤ 454) (d : decode code pc = .ok (.invokevirtual idx, 3)) (hn : av.length = n) (hcat : w_cats rest ≤ 8) (hpre : pre av w)
    (h : ∀ r w', post av w r w' → lwG p l e s m below meth c D ca ad b (pc + 3) LL (w_psh rt r rest) w') : lwG p l e s m below meth c D ca ad b pc LL (av.reverse ++ rest) w := by
  intro H locs ls hR hS hL
  obtain ⟨X, hb, -⟩ := C
  have e1 : (av.reverse ++ rest).take n = av.reverse := by
    rw [List.take_append_of_le_length (by rw [List.length_reverse]; omega), List.take_of_length_le (by rw [List.length_reverse]; omega)]
  have e2 : (av.reverse ++ rest).drop n = rest := by
    have := List.take_append_drop n (av.reverse ++ rest)
    rw [e1] at this
    exact List.append_cancel_left this
  have e3 : ((av.reverse ++ rest).take n).reverse = av := by rw [e1, List.reverse_reverse]
  refine hc p l e room_1 s m _ below meth c _ D ca ad 4 600000 7302250 X (Nat.le_refl _) (Nat.le_refl _) hfr hlo pc LL _ w H locs ls (by rw [hb]; exact d) hR hS hL (by show n ≤ _; rw [List.length_append, List.length_reverse]; omega) (by show w_cats ((av.reverse ++ rest).drop n) ≤ 8; rw [e2]; exact hcat) (by show pre ((av.reverse ++ rest).take n).reverse w; rw [e3]; exact hpre) (fun r w' H1 locs1 q1 q2 q3 => ?_)
  have q3 : post ((av.reverse ++ rest).take n).reverse w r w' := q3
  rw [e3] at q3
  show W p l e room_1 s m _ below meth c H1 locs1 _ _ _ (F0 m (pc + 3) ls ((w_psh rt r ((av.reverse ++ rest).drop n)).map (w_cv ad)))
  rw [e2]
  exact h r w' q3 H1 locs1 ls q1 q2 hL
theorem lw_eqI (C : lwC p s m c D ca ad b L xs) {pc : Nat} {off r : Int} {LL : wL} {w : wW} (d : decode code pc = .ok (.if_icmp .eq off, 3)) (ht : (pc : Int) + off = ((946 : Nat) : Int)) (h : lwG p l e s m below meth c D ca ad b 946 LL [] w) : lwG p l e s m below meth c D ca ad b pc LL [vi r, vi r] w := by
  intro H locs ls hR hS hL
  obtain ⟨⟨hx, -⟩, hb, -⟩ := C
  exact lv_icmp_eq hx hb d ht (fun _ => h H locs ls hR hS hL) (fun q => absurd rfl q)
theorem lw_eqL (C : lwC p s m c D ca ad b L xs) {pc : Nat} {off r : Int} {LL : wL} {w : wW} (d : decode code pc = .ok (.lcmp, 1)) (d2 : decode code (pc + 1) = .ok (.ifCond .eq off, 3)) (ht : ((pc + 1 : Nat) : Int) + off = ((946 : Nat) : Int)) (h : lwG p l e s m below meth c D ca ad b 946 LL [] w) : lwG p l e s m below meth c D ca ad b pc LL [vl r, vl r] w := by
  intro H locs ls hR hS hL
  obtain ⟨⟨hx, -⟩, hb, -⟩ := C
  refine W.lcmp hx hb d ?_
  exact lv_if_eq hx hb d2 ht (fun _ => h H locs ls hR hS hL) (fun q => absurd (lw_cmp _) q)
def lwCB (ks : List Int) (idx idx' pc : Nat) : Bool := decide (decode code pc = .ok (.aload_n 1, 1)) && lwRB ks (pc + 1) && decide (decode code (pc + 1 + 5 * ks.length) = .ok (.invokevirtual idx, 3)) && decide (decode code (pc + 1 + 5 * ks.length + 3) = .ok (.aload_n 2, 1)) && lwRB ks (pc + 1 + 5 * ks.length + 3 + 1) && decide (decode code (pc + 1 + 5 * ks.length + 3 + 1 + 5 * ks.length) = .ok (.invokevirtual idx', 3))
def lwEI (pc : Nat) : Bool := decide (decode code pc = .ok (.if_icmp .eq (946 - (pc : Int)), 3))
def lwEL (pc : Nat) : Bool := decide (decode code pc = .ok (.lcmp, 1)) && decide (decode code (pc + 1) = .ok (.ifCond .eq (946 - ((pc + 1 : Nat) : Int)), 3))
theorem lw_case (C : lwC p s m c D ca ad b L xs) {pc idx idx' fr lo fr' lo' rt : Nat} {pre pre' : List wV → wW → Prop} {post post' : List wV → wW → Int → wW → Prop} {i N : Int} {w : wW} (ks : List Int) (h0 : 0 ≤ i) (hi : i + 4 < L) (hks : ∀ k ∈ ks, 0 ≤ k ∧ k ≤ 4) (hrt : rt = 1 ∨ rt = 2) (hc : w_COK R_law idx (0, ks.length + 1, rt, pre, post) fr lo) (hfr : fr + 1 ≤ 11) (hlo : lo ≤ 454) (hc' : w_COK R_law idx' (0, ks.length + 1, rt, pre', post') fr' lo') (hfr' : fr' + 1 ≤ 11) (hlo' : lo' ≤ 454)
    (hst : stp2 (pre (vr 0 :: ks.map (fun k => vi (xs (i + k).toNat).toInt))) (post (vr 0 :: ks.map (fun k => vi (xs (i + k).toNat).toInt))) (pre' (vr 135 :: ks.map (fun k => vi (xs (i + k).toNat).toInt))) (post' (vr 135 :: ks.map (fun k => vi (xs (i + k).toNat).toInt))) N w) (d : lwCB ks idx idx' pc = true)
    (K : ∀ (r : Int) (S T w2 : wW), CI S T w2 N → MI S T w2 → lwG p l e s m below meth c D ca ad b (pc + 1 + 5 * ks.length + 3 + 1 + 5 * ks.length + 3) (lwL i) (w_psh rt r (w_psh rt r [])) w2) : lwG p l e s m below meth c D ca ad b pc (lwL i) [] w := by
  unfold lwCB at d
  simp only [Bool.and_eq_true, decide_eq_true_eq] at d
  obtain ⟨⟨⟨⟨⟨d1, d2⟩, d3⟩, d4⟩, d5⟩, d6⟩ := d
  generalize hav : ks.map (fun k => vi (xs (i + k).toNat).toInt) = av at hst
  have hlen : av.length = ks.length := by rw [← hav, List.length_map]
  refine lw_al1 C d1 ?_
  refine lw_reads C h0 hi ks _ _ hks d2 ?_
  rw [hav, show av.reverse ++ [vr 0] = (vr 0 :: av).reverse ++ [] by rw [List.reverse_cons, List.append_nil]]
  refine lw_call C (vr 0 :: av) [] hc hfr hlo d3 (by rw [List.length_cons, hlen]) (Nat.zero_le _) hst.1 (fun r w1 hq => ?_)
  refine lw_al2 C d4 ?_
  refine lw_reads C h0 hi ks _ _ hks d5 ?_
  rw [hav, show av.reverse ++ vr 135 :: w_psh rt r [] = (vr 135 :: av).reverse ++ w_psh rt r [] by rw [List.reverse_cons, List.append_assoc]; rfl]
  obtain ⟨hp', hst2⟩ := hst.2 r w1 hq
  refine lw_call C (vr 135 :: av) _ hc' hfr' hlo' d6 (by rw [List.length_cons, hlen]) (hrt.elim (fun q => by subst q; exact (by decide : 1 ≤ 8)) (fun q => by subst q; exact (by decide : 2 ≤ 8))) hp' (fun r' w2 hq' => ?_)
  obtain ⟨e, S, T, h1, h2⟩ := hst2 r' w2 hq'
  subst e
  exact K r S T w2 h1 h2
theorem lw_caseI (C : lwC p s m c D ca ad b L xs) {pc idx idx' fr lo fr' lo' : Nat} {pre pre' : List wV → wW → Prop} {post post' : List wV → wW → Int → wW → Prop} {i N : Int} {w : wW} (ks : List Int) (h0 : 0 ≤ i) (hi : i + 4 < L) (hks : ∀ k ∈ ks, 0 ≤ k ∧ k ≤ 4) (hc : w_COK R_law idx (0, ks.length + 1, 1, pre, post) fr lo) (hfr : fr + 1 ≤ 11) (hlo : lo ≤ 454) (hc' : w_COK R_law idx' (0, ks.length + 1, 1, pre', post') fr' lo') (hfr' : fr' + 1 ≤ 11) (hlo' : lo' ≤ 454)
    (hst : stp2 (pre (vr 0 :: ks.map (fun k => vi (xs (i + k).toNat).toInt))) (post (vr 0 :: ks.map (fun k => vi (xs (i + k).toNat).toInt))) (pre' (vr 135 :: ks.map (fun k => vi (xs (i + k).toNat).toInt))) (post' (vr 135 :: ks.map (fun k => vi (xs (i + k).toNat).toInt))) N w) (d : lwCB ks idx idx' pc = true) (d2 : lwEI (pc + 1 + 5 * ks.length + 3 + 1 + 5 * ks.length + 3) = true)
    (K : ∀ (S T w2 : wW), CI S T w2 N → MI S T w2 → lwG p l e s m below meth c D ca ad b 946 (lwL i) [] w2) : lwG p l e s m below meth c D ca ad b pc (lwL i) [] w :=
  lw_case C ks h0 hi hks (Or.inl rfl) hc hfr hlo hc' hfr' hlo' hst d (fun r S T w2 h1 h2 => lw_eqI C (of_decide_eq_true d2) (by omega) (K S T w2 h1 h2))
theorem lw_caseL (C : lwC p s m c D ca ad b L xs) {pc idx idx' fr lo fr' lo' : Nat} {pre pre' : List wV → wW → Prop} {post post' : List wV → wW → Int → wW → Prop} {i N : Int} {w : wW} (ks : List Int) (h0 : 0 ≤ i) (hi : i + 4 < L) (hks : ∀ k ∈ ks, 0 ≤ k ∧ k ≤ 4) (hc : w_COK R_law idx (0, ks.length + 1, 2, pre, post) fr lo) (hfr : fr + 1 ≤ 11) (hlo : lo ≤ 454) (hc' : w_COK R_law idx' (0, ks.length + 1, 2, pre', post') fr' lo') (hfr' : fr' + 1 ≤ 11) (hlo' : lo' ≤ 454)
    (hst : stp2 (pre (vr 0 :: ks.map (fun k => vi (xs (i + k).toNat).toInt))) (post (vr 0 :: ks.map (fun k => vi (xs (i + k).toNat).toInt))) (pre' (vr 135 :: ks.map (fun k => vi (xs (i + k).toNat).toInt))) (post' (vr 135 :: ks.map (fun k => vi (xs (i + k).toNat).toInt))) N w) (d : lwCB ks idx idx' pc = true) (d2 : lwEL (pc + 1 + 5 * ks.length + 3 + 1 + 5 * ks.length + 3) = true)
    (K : ∀ (S T w2 : wW), CI S T w2 N → MI S T w2 → lwG p l e s m below meth c D ca ad b 946 (lwL i) [] w2) : lwG p l e s m below meth c D ca ad b pc (lwL i) [] w :=
  lw_case C ks h0 hi hks (Or.inr rfl) hc hfr hlo hc' hfr' hlo' hst d (fun r S T w2 h1 h2 => by
    unfold lwEL at d2
    rw [Bool.and_eq_true] at d2
    exact lw_eqL C (of_decide_eq_true d2.1) (of_decide_eq_true d2.2) (by omega) (K S T w2 h1 h2))
abbrev lwSD (pc : Nat) : Prop := lwD 1 pc ∧ (decode code (pc + 5) = .ok (.i2l, 1) ∧ decode code (pc + 6) = .ok (.bipush 32, 2) ∧ decode code (pc + 8) = .ok (.lshl, 1)) ∧ lwD 2 (pc + 9) ∧ decode code (pc + 14) = .ok (.i2l, 1) ∧ decode code (pc + 15) = .ok (.ldc2_w 13, 3) ∧ decode code (pc + 18) = .ok (.land, 1) ∧ decode code (pc + 19) = .ok (.lor, 1)
theorem lw_ldc : Cond.constantLong R_law 13 4294967295 ∈ w_TB := w_m6 22 (by decide +kernel) (by decide +kernel)
theorem lw_lett (C : lwC p s m c D ca ad b L xs) {pc : Nat} {i : Int} {st : List wV} {w : wW} (h0 : 0 ≤ i) (hi : i + 4 < L) (d : lwSD pc) (h : lwG p l e s m below meth c D ca ad b (pc + 20) (lwL i) (vl (lwLet (xs (i + 1).toNat).toInt (xs (i + 2).toNat).toInt) :: st) w) : lwG p l e s m below meth c D ca ad b pc (lwL i) st w := by
  obtain ⟨d1, ⟨d2, d3, d4⟩, d5, d6, d7, d8, d9⟩ := d
  have step2 : lwG p l e s m below meth c D ca ad b (pc + 14) (lwL i) (vi (xs (i + 2).toNat).toInt :: vl ((Int32.ofInt (xs (i + 1).toNat).toInt).toInt64 <<< ((Int32.ofInt 32).toInt64 &&& 63)).toInt :: st) w := by
    intro H locs ls hR hS hL
    obtain ⟨⟨hx, -, hown, hts, -⟩, hb, -⟩ := C
    have g := h H locs ls hR hS hL
    simp only [List.map_cons, w_cv, lwLet, w_ofL] at g
    simp only [List.map_cons, w_cv, w_ofL]
    refine lv_i2l hx hb d6 rfl ?_
    refine lv_ldc2 hx hb hown (hts _ lw_ldc) d7 ?_
    refine lv_land hx hb d8 ?_
    refine lv_lor hx hb d9 ?_
    exact g
  have step1 : lwG p l e s m below meth c D ca ad b (pc + 5) (lwL i) (vi (xs (i + 1).toNat).toInt :: st) w := by
    have g0 := lw_read C h0 hi (by decide : (0 : Int) ≤ 2 ∧ (2 : Int) ≤ 4) d5 step2
    intro H locs ls hR hS hL
    obtain ⟨⟨hx, -, hown, hts, -⟩, hb, -⟩ := C
    have g := g0 H locs ls hR hS hL
    simp only [List.map_cons, w_cv, w_ofL] at g
    refine lv_i2l hx hb d2 rfl ?_
    refine lv_bipush hx hb d3 (w_bip 32 (by decide) (by decide)) ?_
    refine lv_lshl hx hb d4 rfl ?_
    exact g
  exact lw_read C h0 hi (by decide : (0 : Int) ≤ 1 ∧ (1 : Int) ≤ 4) d1 step1
abbrev lwBD (pc : Nat) : Prop := decode code pc = .ok (.ifCond .eq 7, 3) ∧ decode code (pc + 3) = .ok (.iconst 1, 1) ∧ decode code (pc + 4) = .ok (.goto 4, 3) ∧ decode code (pc + 7) = .ok (.iconst 0, 1)
theorem lw_bool (C : lwC p s m c D ca ad b L xs) {pc : Nat} {i z : Int} {st : List wV} {w : wW} (hz : inI z) (d : lwBD pc) (h : lwG p l e s m below meth c D ca ad b (pc + 8) (lwL i) (vi (lwB z) :: st) w) : lwG p l e s m below meth c D ca ad b pc (lwL i) (vi z :: st) w := by
  intro H locs ls hR hS hL
  obtain ⟨⟨hx, -⟩, hb, -⟩ := C
  obtain ⟨d1, d2, d3, d4⟩ := d
  have g := h H locs ls hR hS hL
  refine lv_if_eq (tgt := pc + 7) hx hb d1 (by omega) (fun q => ?_) (fun q => ?_)
  · have q0 : z = 0 := (w_eq hz w_i0).mp q
    refine lv_iconst (v := Int32.ofInt 0) hx hb d4 rfl ?_
    have e : lwB z = 0 := by unfold lwB; rw [if_pos q0]
    rw [e] at g
    exact g
  · have q0 : ¬ z = 0 := fun k => q ((w_eq hz w_i0).mpr k)
    refine lv_iconst (v := Int32.ofInt 1) hx hb d2 rfl ?_
    refine lv_goto (tgt := pc + 8) hx hb d3 (by omega) ?_
    have e : lwB z = 1 := by unfold lwB; rw [if_neg q0]
    rw [e] at g
    exact g
end LWG
