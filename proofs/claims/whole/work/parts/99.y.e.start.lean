/-! the law's start -/
def lwAd (B t u b : Nat) : Nat → Nat := fun k => if k < 157 then B + bzPos k else if k = 157 then t else if k = 158 then u else b
theorem lwAd_k {B t u b k : Nat} (h : k < 157) : lwAd B t u b k = B + bzPos k := if_pos h
theorem lwAd_157 {B t u b : Nat} : lwAd B t u b 157 = t := by
  unfold lwAd
  rw [if_neg (by decide), if_pos rfl]
theorem lwAd_158 {B t u b : Nat} : lwAd B t u b 158 = u := by
  unfold lwAd
  rw [if_neg (by decide), if_neg (by decide), if_pos rfl]
theorem lwAd_200 {B t u b : Nat} : lwAd B t u b 200 = b := by
  unfold lwAd
  rw [if_neg (by decide), if_neg (by decide), if_neg (by decide)]
theorem bz_inst : ∀ (ci : Nat) (Cn : String) (T : u_T) (N : Nat), vwCl[ci]? = some (Cn, T, N) → Cond.instantiable Cn N ∈ w_TB := by
  intro ci Cn T N h
  match ci, h with
  | 0, h => cases h; exact w_m2 95 (by decide +kernel) (by decide +kernel)
  | 1, h => cases h; exact w_m1 56 (by decide +kernel) (by decide +kernel)
  | 2, h => cases h; exact w_m1 123 (by decide +kernel) (by decide +kernel)
  | 3, h => cases h; exact w_m1 24 (by decide +kernel) (by decide +kernel)
  | 4, h => cases h; exact w_m1 146 (by decide +kernel) (by decide +kernel)
  | 5, h => cases h; exact w_m2 55 (by decide +kernel) (by decide +kernel)
  | 6, h => cases h; exact w_m1 232 (by decide +kernel) (by decide +kernel)
  | 7, h => cases h; exact w_m1 186 (by decide +kernel) (by decide +kernel)
  | 8, h => cases h; exact w_m1 98 (by decide +kernel) (by decide +kernel)
  | 9, h => cases h; exact w_m1 16 (by decide +kernel) (by decide +kernel)
  | 10, h => cases h; exact w_m4 96 (by decide +kernel) (by decide +kernel)
  | n + 11, h => simp [vwCl] at h
theorem lw_K {args : Array Value} {s : State} (hts : ∀ w ∈ w_TB, w.before args s = true) (hO : bzO s) : ∃ (D : va_G) (ca : Nat → ClassId), va_K D vwCl (w_tys ca) s := by
  have hc : ∀ ci : Nat, ∃ (cC : ClassId) (iS : Nat → Nat), ∀ q, vwCl[ci]? = some q → u_Kn s q.1 q.2.1 q.2.2 cC iS := by
    intro ci
    cases hq : vwCl[ci]? with
    | none => exact ⟨0, fun _ => 0, fun q h => by cases h⟩
    | some q =>
      obtain ⟨Cn, T, N⟩ := q
      obtain ⟨k1, -⟩ := w_clok ci Cn T N hq
      obtain ⟨cC, iS, h⟩ := u_known hts k1 (hts _ (bz_inst ci Cn T N hq))
      exact ⟨cC, iS, fun q h' => by cases h'; exact h⟩
  obtain ⟨c0, k0, m0, a1, a2, a3⟩ := Cond.arrayClass_spec (hts _ bz_acI)
  obtain ⟨c1, k1, m1, b1, b2, b3⟩ := Cond.arrayClass_spec (hts _ bz_acJ)
  obtain ⟨m2, c2, k2, d1, d2, d3, d4, d5⟩ := arrayOverA_spec hO.2
  obtain ⟨m3, c3, k3, e1, e2, e3, e4, e5⟩ := Cond.arrayOver_spec hO.1
  refine ⟨(fun ci => Classical.choose (hc ci), fun ci => Classical.choose (Classical.choose_spec (hc ci))), fun t => if t = 0 then c0 else if t = 1 then c1 else if t = 2 then c2 else c3, fun ci q hq => Classical.choose_spec (Classical.choose_spec (hc ci)) q hq, ?_⟩
  intro k q hk
  match k, hk with
  | 0, hk => cases hk; exact ⟨fun N z => ⟨(fun k h => by cases h), k0, a2, m0, a3⟩, a1⟩
  | 1, hk => cases hk; exact ⟨fun N z => ⟨(fun k h => by cases h), k1, b2, m1, b3⟩, b1⟩
  | 2, hk => cases hk; exact ⟨fun N z => ⟨(fun k h => by cases h), k2, d3, m2, d4⟩, d5⟩
  | 3, hk => cases hk; exact ⟨fun N z => ⟨(fun k h => by cases h), k3, e3, m3, e4⟩, k3, m3, e3, e4, e1, e5⟩
  | n + 4, hk => simp [w_tys] at hk
theorem lw_st1 {args : Array Value} {s : State} {nm : String} {q : Nat} (hl : (Cond.laysStatic "HowBigTank" nm "[I").before args s = true) (hini : (Cond.initialized "HowBigTank").before args s = true) (harr : (Cond.arrayOf (Term.static "HowBigTank" nm "[I") .int).before args s = true) (hlen : (Cond.eq (Term.length (Term.static "HowBigTank" nm "[I")) (Term.int (Int32.ofNat 7))).before args s = true)
    (hel : ∀ j, j < 7 → (Cond.eq (Term.elem (Term.static "HowBigTank" nm "[I") (Term.int (Int32.ofNat j))) (Term.int (Int32.ofInt (w_sv q j)))).before args s = true) : ∃ t : Nat, ∀ A : Nat → Prop, (∀ a : Nat, a < s.heap.size → ¬ A a) → va_Z "HowBigTank" nm "[I" (.ref t) A s s.heap ∧ va_T .int t 7 (fun i => .int (Int32.ofInt (w_sv q i))) A s s.heap := by
  have key := fun (A : Nat → Prop) (hA : ∀ a : Nat, a < s.heap.size → ¬ A a) => va_Tof (N := 7) (f := fun i => .int (Int32.ofInt (w_sv q i))) (by decide) harr (va_eqt hlen) (fun j hj => va_eqt (hel j hj)) hA
  obtain ⟨t, ht, -⟩ := key (fun _ => False) (fun _ _ h => h)
  refine ⟨t, fun A hA => ?_⟩
  obtain ⟨t', ht', hT⟩ := key A hA
  have e : t' = t := by
    have := ht'.symm.trans ht
    injection this with h1
    injection h1
  subst e
  exact ⟨va_Zof hl hini ht hA, hT⟩
theorem lw_tb1 (i : Nat) {w : Cond} (h : tables_1_1[i]? = some w) : w ∈ lw_tbl := List.mem_append_right _ (List.mem_append_left _ (List.mem_of_getElem? h))
theorem lw_tb2 (i : Nat) {w : Cond} (h : tables_1_2[i]? = some w) : w ∈ lw_tbl := List.mem_append_right _ (List.mem_append_right _ (List.mem_append_left _ (List.mem_of_getElem? h)))
def lwOk : Bool := match bzf_X9_init [vr 0] [bzOb 9] with
  | some es2 => es2.length == 135 && (match bzf_X10_init [vr 135] (es2 ++ [bzOb 10]) with
    | some es3 => bzChk es3
    | none => false)
  | none => false
set_option maxRecDepth 100000 in
theorem lwOk_t : lwOk = true := by decide +kernel
theorem lw_made : ∃ es2, bzf_X9_init [vr 0] [bzOb 9] = some es2 ∧ es2.length = 135 ∧ ∃ es3, bzf_X10_init [vr 135] (es2 ++ [bzOb 10]) = some es3 ∧ bzChk es3 = true := by
  have h := lwOk_t
  unfold lwOk at h
  split at h
  · rename_i es2 h9
    rw [Bool.and_eq_true] at h
    obtain ⟨h1, h2⟩ := h
    split at h2
    · rename_i es3 h10
      exact ⟨es2, h9, by simpa using h1, es3, h10, h2⟩
    · cases h2
  · cases h
theorem lw_made2 : ∃ es2, (∀ av es, av = [vr 0] → es = [bzOb 9] → bzf_X9_init av es = some es2) ∧ es2.length = 135 ∧ ∃ es3, (∀ av es, av = [vr 135] → es = es2 ++ [bzOb 10] → bzf_X10_init av es = some es3) ∧ bzChk es3 = true := by
  obtain ⟨es2, hf9, hl9, es3, hf10, hchk⟩ := lw_made
  exact ⟨es2, fun av es h1 h2 => by rw [h1, h2]; exact hf9, hl9, es3, fun av es h1 h2 => by rw [h1, h2]; exact hf10, hchk⟩
section LWS
variable {p : Program} {l : Launch} {e : Env} {R : Room} {s : State} {m : MethodId} {args : Array Value} {below : List Frame} {meth : Method} {c : Code} {Q : State → Prop}
theorem bz_newW {cc : ByteArray} {own : String} {D : va_G} {ca : Nat → ClassId} {B a b j ci pc : Nat} {es : List bzE} {H : Heap} {locs : List Loc} {ls : Array Slot} {rest : List Value} (hx : p.tables.exec = Jvm.exec) (hb : c.code = cc) (hown : s.vm.findClass own = some m.cls) (hts : ∀ w ∈ w_TB, w.before args s = true) (hK : va_K D vwCl (w_tys ca) s)
    (hR : bzR D ca B es H) (hS : va_S (fun q => B ≤ q) s.heap H locs) (hq : bzNw own (j, ci)) (h1 : a + 1 ≤ R.cells) (h2 : b + (w_ft ci).length ≤ R.slots) (hd : decode cc pc = .ok (.new j, 3))
    (kk : ∀ H1 : Heap, bzR D ca B (es ++ [bzOb ci]) H1 → va_S (fun q => B ≤ q) s.heap H1 locs → W p l e R s m args below meth c H1 locs (a + 1) (b + (w_ft ci).length) Q (F0 m (pc + 3) ls (.ref (B + es.length) :: rest))) : W p l e R s m args below meth c H locs a b Q (F0 m pc ls rest) := by
  obtain ⟨Cn, T, N, g1, w1, w2, w3⟩ := hq
  have g1 : vwCl[ci]? = some (Cn, T, N) := g1
  obtain ⟨k1, -, -, k4, -⟩ := w_clok _ _ _ _ g1
  obtain ⟨ty, t1, t2, -⟩ := bz_new0 _ _ _ _ g1
  have hKn := hK.1 ci _ g1
  refine W.newcK hx hb hown (hts _ w1) (hts _ w2) (hts _ w3) rfl hd h1 (by rw [← k4]; exact h2) hKn.2.1 rfl fun H1 kC hkC e1 z1 o1 => ?_
  have g := kk H1 (bz_push hR z1 o1 (by rw [bzCe_o (ci := ci) rfl, bz_dv]; exact ⟨_, g1, (u_born ty hts k1 hKn hkC e1 t1).to t2⟩)) (bz_keep hS (by omega) o1)
  rw [k4] at g
  rw [hR.1]
  exact g
end LWS
theorem lw_n9 : bzNw R_law (7, 9) := ⟨RX9, TX9, 16, rfl, w_m1 15 (by decide +kernel) (by decide +kernel), w_m1 16 (by decide +kernel) (by decide +kernel), w_m1 1 (by decide +kernel) (by decide +kernel)⟩
theorem lw_n10 : bzNw R_law (10, 10) := ⟨RX10, TX10, 46, rfl, w_m4 95 (by decide +kernel) (by decide +kernel), w_m4 96 (by decide +kernel) (by decide +kernel), w_m1 12 (by decide +kernel) (by decide +kernel)⟩
theorem lw_c9 : bzCOK R_law 9 (0, 0 + 1, bzf_X9_init, 134, 26893) 3 (8 + (2 + 11) + 63) := bz_callI bzc_X9_init (w_m1 17 (by decide +kernel) (by decide +kernel)) (w_m1 18 (by decide +kernel) (by decide +kernel)) (w_m1 1 (by decide +kernel) (by decide +kernel)) (w_m1 19 (by decide +kernel) (by decide +kernel)) rfl ⟨by decide +kernel, by decide +kernel, by decide +kernel⟩
theorem lw_c10 : bzCOK R_law 12 (0, 0 + 1, bzf_X10_init, 21, 16139) 1 (8 + (2 + 11) + 20) := bz_callI bzc_X10_init (w_m4 97 (by decide +kernel) (by decide +kernel)) (w_m4 98 (by decide +kernel) (by decide +kernel)) (w_m1 12 (by decide +kernel) (by decide +kernel)) (w_m4 99 (by decide +kernel) (by decide +kernel)) rfl ⟨by decide +kernel, by decide +kernel, by decide +kernel⟩
theorem bz_use {own : String} {idx na mc ms fr lo : Nat} {fn : bzF} (h : bzCOK own idx (0, na, fn, mc, ms) fr lo) {p : Program} {l : Launch} {e : Env} {R : Room} {s : State} {m : MethodId} {args : Array Value} {below : List Frame} {meth : Method} {c : Code} {Q : State → Prop} {D : va_G} {ca : Nat → ClassId} {B nL : Nat} (X : bzCx p s m args c D ca own nL) (h1 : fr + 1 ≤ R.frames) (h2 : lo ≤ R.locals) {pc : Nat} {L : wL} (st : List wV) {es es' : List bzE} {H : Heap} {locs : List Loc} {ls : Array Slot} (a b : Nat) (d : decode c.code pc = .ok (.invokespecial idx, 3)) (hR : bzR D ca B es H) (hS : va_S (fun q => B ≤ q) s.heap H locs) (hL : w_LH (bzA B) nL L ls)
    (h3 : na ≤ st.length) (h4 : w_cats (st.drop na) ≤ 8) (h5 : bzHd (st.take na).reverse = true) (h6 : fn (st.take na).reverse es = some es') (h7 : a + mc ≤ R.cells) (h8 : b + ms ≤ R.slots)
    (kk : ∀ (H1 : Heap) (locs1 : List Loc), bzR D ca B es' H1 → va_S (fun q => B ≤ q) s.heap H1 locs1 → W p l e R s m args below meth c H1 locs1 (a + mc) (b + ms) Q (F0 m (pc + 3) ls ((st.drop na).map (w_cv (bzA B))))) : W p l e R s m args below meth c H locs a b Q (F0 m pc ls (st.map (w_cv (bzA B)))) :=
  h p l e R s m args below meth c Q D ca B nL X h1 h2 pc L st es es' H locs ls a b d hR hS hL h3 h4 (fun _ => h5) h6 h7 h8 kk
theorem lw_none {ad : Nat → Nat} {ls : Array Slot} {vs : List (Nat × Value)} (hl : lv_has ls 4 vs) : w_LH ad 4 (List.replicate 4 none) ls := by
  refine ⟨rfl, hl.1, hl.2.1, fun i v h => ?_⟩
  rw [List.getElem?_replicate] at h
  split at h
  · cases h
  · cases h
set_option maxHeartbeats 4000000 in
/-- from the entry, for every script of at most 2560 ints, the law comes to its end with true -/
theorem whole_start {p : Program} {e : Env} {s : State} {m : MethodId} {below : List Frame} {meth : Method} {c : Code} (l : Launch) (hflags : l.flags = flags0) {b L : Nat} {xs : Nat → Int32} (hL : L ≤ 2560) (C0 : lw_At p s m meth c b L xs) : W p l e room_1 s m #[Value.ref b] below meth c s.heap [] 0 0 (lw_Z below #[Value.ref b] s) (entryFrame m ([Value.ref b] : List Value).toArray 4) := by
  obtain ⟨hx, hb, hr, hml, hown, hts0, hX, hbl, hlocks, hgv⟩ := C0
  have hts : ∀ w ∈ w_TB, w.before #[Value.ref b] s = true := fun w hw => hts0 w (List.mem_filter.mp hw).1
  have hO : bzO s := ⟨va_AO.of (hts0 (Cond.arrayOver (.object RX4)) (lw_tb1 121 (by decide +kernel))), hts0 (Cond.arrayOver (.array .int)) (lw_tb1 104 (by decide +kernel))⟩
  obtain ⟨D, ca, hK⟩ := lw_K hts hO
  have hs := flat_of_before _ hgv
  have hini := hts0 (Cond.initialized "HowBigTank") (lw_tb1 1 (by decide +kernel))
  obtain ⟨t, hZt⟩ := lw_st1 (nm := "LEAST") (q := 157) (hts0 _ (lw_tb2 208 (by decide +kernel))) hini (hs _ (by decide +kernel)) (hs _ (by decide +kernel)) (fun j hj => hs _ ((by decide +kernel : ∀ j, j < 7 → Cond.eq (Term.elem (Term.static "HowBigTank" "LEAST" "[I") (Term.int (Int32.ofNat j))) (Term.int (Int32.ofInt (w_sv 157 j))) ∈ _) j hj))
  obtain ⟨u, hZu⟩ := lw_st1 (nm := "MOST") (q := 158) (hts0 _ (lw_tb2 222 (by decide +kernel))) hini (hs _ (by decide +kernel)) (hs _ (by decide +kernel)) (fun j hj => hs _ ((by decide +kernel : ∀ j, j < 7 → Cond.eq (Term.elem (Term.static "HowBigTank" "MOST" "[I") (Term.int (Int32.ofNat j))) (Term.int (Int32.ofInt (w_sv 158 j))) ∈ _) j hj))
  obtain ⟨es2, hf9, hl9, es3, hf10, hchk⟩ := lw_made2
  have XB : bzCx p s m #[Value.ref b] c D ca R_law 4 := ⟨hx, hml, hown, hts, hK, hO⟩
  have hl := lv_entry ([Value.ref b]) (n := 4) (Nat.le_of_ble_eq_true rfl)
  rw [lg_entry_eq]
  generalize (lg_sl ([Value.ref b]) ++ List.replicate (4 - (lg_sl ([Value.ref b])).length) Slot.unset).toArray = ls at hl ⊢
  have hl : lv_has ls 4 [(0, .ref b)] := hl
  have hS0 : va_S (fun q => s.heap.size ≤ q) s.heap s.heap [] := va_S.rf
  have hR0 : bzR D ca s.heap.size [] s.heap := ⟨rfl, fun k q hk => by cases hk⟩
  refine bz_newW (j := 7) (ci := 9) hx hb hown hts hK hR0 hS0 lw_n9 (Nat.le_of_ble_eq_true rfl) (Nat.le_of_ble_eq_true rfl) (by decide +kernel) (fun H1 hR1 hS1 => ?_)
  refine lv_dup hx hb (by decide +kernel : decode code (0 + 3) = .ok (.dup, 1)) rfl ?_
  refine bz_use lw_c9 XB (Nat.le_of_ble_eq_true rfl) (Nat.le_of_ble_eq_true rfl) (pc := 4) [vr 0, vr 0] 1 16 (by rw [hb]; decide +kernel) hR1 hS1 (lw_none hl) (by decide) (by decide) rfl (hf9 _ _ rfl rfl) (Nat.le_of_ble_eq_true rfl) (Nat.le_of_ble_eq_true rfl) (fun H2 locs2 hR2 hS2 => ?_)
  refine lv_astore_n hx hb (by decide +kernel : decode code (4 + 3) = .ok (.astore_n 1, 1)) rfl hl (by decide) rfl (fun ls1 hl1 => ?_)
  have hl1 : lv_has ls1 4 [(1, .ref (s.heap.size + 0)), (0, .ref b)] := hl1
  refine bz_newW (j := 10) (ci := 10) hx hb hown hts hK hR2 hS2 lw_n10 (Nat.le_of_ble_eq_true rfl) (Nat.le_of_ble_eq_true rfl) (by decide +kernel) (fun H3 hR3 hS3 => ?_)
  rw [hl9]
  refine lv_dup hx hb (by decide +kernel : decode code (4 + 3 + 1 + 3) = .ok (.dup, 1)) rfl ?_
  refine bz_use lw_c10 XB (Nat.le_of_ble_eq_true rfl) (Nat.le_of_ble_eq_true rfl) (pc := 12) [vr 135, vr 135] 136 26955 (by rw [hb]; decide +kernel) hR3 hS3 (lw_none hl1) (by decide) (by decide) rfl (hf10 _ _ rfl rfl) (Nat.le_of_ble_eq_true rfl) (Nat.le_of_ble_eq_true rfl) (fun H4 locs4 hR4 hS4 => ?_)
  refine lv_astore_n hx hb (by decide +kernel : decode code (12 + 3) = .ok (.astore_n 2, 1)) rfl hl1 (by decide) rfl (fun ls2 hl2 => ?_)
  have hl2 : lv_has ls2 4 [(2, .ref (s.heap.size + 135)), (1, .ref (s.heap.size + 0)), (0, .ref b)] := hl2
  refine lv_iconst (v := Int32.ofInt 0) hx hb (by decide +kernel : decode code (12 + 3 + 1) = .ok (.iconst 0, 1)) rfl ?_
  refine lv_istore_n hx hb (by decide +kernel : decode code (12 + 3 + 1 + 1) = .ok (.istore_n 3, 1)) rfl hl2 (by decide) rfl (fun ls3 hl3 => ?_)
  have hl3 : lv_has ls3 4 [(3, .int (Int32.ofInt 0)), (2, .ref (s.heap.size + 135)), (1, .ref (s.heap.size + 0)), (0, .ref b)] := hl3
  refine W.widen (k := 600000) (n := 7302250) (Nat.le_of_ble_eq_true rfl) (Nat.le_of_ble_eq_true rfl) ?_
  refine va_forget hS4.2.2 ?_
  have hAd : ∀ k, k < 157 → s.heap.size ≤ lwAd s.heap.size t u b k := fun k hk => by rw [lwAd_k hk]; exact Nat.le_add_right _ _
  have hAn : ∀ a : Nat, a < s.heap.size → ¬ w_A (lwAd s.heap.size t u b) a := fun a ha h => by
    obtain ⟨k, hk, e⟩ := h
    have := hAd k hk
    omega
  have hJ : w_J (lwAd s.heap.size t u b) := fun i j hi hj h => by
    rw [lwAd_k hi, lwAd_k hj] at h
    exact bz_J i hi j hj (by omega)
  obtain ⟨z1, z2⟩ := hZt _ hAn
  obtain ⟨z3, z4⟩ := hZu _ hAn
  have hSta : w_Sta (lwAd s.heap.size t u b) s s.heap := by
    unfold w_Sta
    rw [lwAd_157, lwAd_158]
    exact ⟨z1, z2, z3, z4⟩
  have CC : lwC p s m c D ca (lwAd s.heap.size t u b) b L xs := ⟨⟨hx, hml, hown, hts, hK, hSta, hJ⟩, hb, hX, hbl, hAn b hbl, lwAd_200, hL⟩
  have hw : w_R D ca (lwAd s.heap.size t u b) wZ H4 := bz_world hchk hR4 (fun k hk => lwAd_k hk)
  have hS5 : va_S (w_A (lwAd s.heap.size t u b)) s.heap H4 [] := ⟨hS4.1, fun q h1 h2 => hS4.2.1 q h1 (fun h => by have h : s.heap.size ≤ q := h; omega), fun q hq => by cases hq⟩
  have p0 : bzPos 0 = 0 := by decide +kernel
  have p135 : bzPos 135 = 135 := by decide +kernel
  have hL5 : w_LH (lwAd s.heap.size t u b) 4 (lwL 0) ls3 := by
    refine ⟨rfl, hl3.1, hl3.2.1, fun i v h => ?_⟩
    match i, h with
    | 0, h =>
      have : vr 200 = v := Option.some.inj (Option.some.inj h)
      rw [← this]
      show ls3[0]? = some (Slot.val (.ref (lwAd s.heap.size t u b 200)))
      rw [lwAd_200]
      exact hl3.2.2 (0, .ref b) (by simp)
    | 1, h =>
      have : vr 0 = v := Option.some.inj (Option.some.inj h)
      rw [← this]
      show ls3[1]? = some (Slot.val (.ref (lwAd s.heap.size t u b 0)))
      rw [lwAd_k (by decide), p0]
      exact hl3.2.2 (1, .ref (s.heap.size + 0)) (by simp)
    | 2, h =>
      have : vr 135 = v := Option.some.inj (Option.some.inj h)
      rw [← this]
      show ls3[2]? = some (Slot.val (.ref (lwAd s.heap.size t u b 135)))
      rw [lwAd_k (by decide), p135]
      exact hl3.2.2 (2, .ref (s.heap.size + 135)) (by simp)
    | 3, h =>
      have : vi 0 = v := Option.some.inj (Option.some.inj h)
      rw [← this]
      exact hl3.2.2 (3, .int (Int32.ofInt 0)) (by simp)
    | i + 4, h => simp [lwL] at h
  exact lw_loop CC hr hlocks hAd L 0 0 SZ TZ wZ (Int.le_refl _) (Int.le_refl _) (by omega) (by omega) CI_Z MI_Z H4 [] ls3 hw hS5 hL5
