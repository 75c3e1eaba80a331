theorem bz_acI : Cond.arrayClass .int ∈ w_TB := w_m1 54 (by decide +kernel) (by decide +kernel)
theorem bz_acJ : Cond.arrayClass .long ∈ w_TB := w_m1 230 (by decide +kernel) (by decide +kernel)
theorem bz_oi1 : Cond.instanceMethod Lib.objectInit ∈ w_TB := w_m1 21 (by decide +kernel) (by decide +kernel)
theorem bz_oi2 : Cond.code Lib.objectInit ⟨#[0xb1]⟩ 1 none ∈ w_TB := w_m1 22 (by decide +kernel) (by decide +kernel)
theorem bz_hd {l : List wV} (h : bzHd l = true) : ∃ k As, l = vr k :: As := by
  match l, h with
  | [], h => cases h
  | .inl _ :: _, h => cases h
  | .inr (.inl _) :: _, h => cases h
  | .inr (.inr none) :: _, h => cases h
  | .inr (.inr (some k)) :: As, _ => exact ⟨k, As, rfl⟩
section BZT
variable {p : Program} {l : Launch} {e : Env} {R : Room} {s : State} {m : MethodId} {args : Array Value} {below : List Frame} {meth : Method} {c : Code} {Q : State → Prop}
theorem bz_call {cc : ByteArray} {fl : List (Nat × Nat × Nat × Nat)} {nws : List (Nat × Nat)} {mus ans : List Nat} {oi oc mc ms : Nat} {cs : List (Nat × bzQ)} {D : va_G} {ca : Nat → ClassId} {B nL : Nat} {own : String} {kd j pc a b : Nat} {L : wL} {st : List wV} {es : List bzE} {σ : bzS} {H : Heap} {locs : List Loc} {ls : Array Slot}
    (hb : c.code = cc) (X : bzCx p s m args c D ca own nL) (hmc : mc ≤ R.cells) (hms : ms ≤ R.slots) (hcs : ∀ q ∈ cs, ∃ fr lo, bzCOK own q.1 q.2 fr lo ∧ fr + 1 ≤ R.frames ∧ lo ≤ R.locals) (hd : decode cc pc = .ok (if kd = 0 then .invokespecial j else .invokestatic j, 3))
    (h : bzCall (cc, fl, nws, mus, ans, oi, oc, mc, ms, cs) kd j pc L st es a b = some σ) (G : bzGo p l e R s m args below meth c Q D ca B nL σ) (hR : bzR D ca B es H) (hS : va_S (fun q => B ≤ q) s.heap H locs) (hL : w_LH (bzA B) nL L ls) : W p l e R s m args below meth c H locs a b Q (F0 m pc ls (st.map (w_cv (bzA B)))) := by
  unfold bzCall at h
  split at h
  · rename_i q hq
    split at h
    · rename_i es' hes
      obtain ⟨hc, rfl⟩ := bzIf_i h
      simp only [Bool.and_eq_true, Bool.or_eq_true, beq_iff_eq, decide_eq_true_eq] at hc
      obtain ⟨⟨⟨⟨⟨c1, c2⟩, c3⟩, c4⟩, c5⟩, c6⟩ := hc
      obtain ⟨fr, lo, k1, k2, k3⟩ := hcs _ (w_lkm hq)
      refine k1 p l e R s m args below meth c Q D ca B nL X k2 k3 pc L _ es es' H locs ls a b (by rw [hb, c1]; exact hd) hR hS hL c2 c3 (fun h0 => ?_) hes (Nat.le_trans c5 hmc) (Nat.le_trans c6 hms) (fun H1 locs1 q1 q2 => G _ _ _ q1 q2 hL)
      rcases c4 with c4 | c4
      · exact c4
      · exfalso
        have h0 : q.1 = 0 := h0
        omega
    · cases h
  · cases h
theorem bz_set {D : va_G} {ca : Nat → ClassId} {B k : Nat} {es : List bzE} {x y : bzE} {H H1 : Heap} (hR : bzR D ca B es H) (he : es[k]? = some x) (z : H1.size = H.size) (oq : ∀ q, q ≠ B + k → H1[q]? = H[q]?) (h : va_at D vwCl (B + k, bzCe ca B y) H1) : bzR D ca B (es.set k y) H1 := by
  refine ⟨by rw [z, hR.1, List.length_set], ?_⟩
  have := hR.2.set bzW_D (bzW_get he) h oq
  rw [bzW_set] at this
  exact this
set_option maxHeartbeats 8000000 in
theorem bz_snd1 {cc : ByteArray} {fl : List (Nat × Nat × Nat × Nat)} {nws : List (Nat × Nat)} {mus ans : List Nat} {oi oc mc ms : Nat} {cs : List (Nat × bzQ)} {D : va_G} {ca : Nat → ClassId} {B nL : Nat} {own : String}
    (hb : c.code = cc) (X : bzCx p s m args c D ca own nL) (hB : B ≤ s.heap.size) (hmc : mc ≤ R.cells) (hms : ms ≤ R.slots) (hfl : ∀ q ∈ fl, w_flok own q) (hnw : ∀ q ∈ nws, bzNw own q) (hmu : ∀ j, mus.contains j = true → Cond.classLink own j ("[" ++ (FieldType.array .int).toString) ∈ w_TB) (han : ∀ j, ans.contains j = true → Cond.classLink own j RX4 ∈ w_TB)
    (hoi : oi = 0 ∨ (1 ≤ R.frames ∧ 20 ≤ R.locals ∧ Cond.methodLink own oi Lib.objectInit ∈ w_TB)) (hin : ∀ r, vwCl[oc]? = some r → meth.name = "<init>" ∧ r.1 = own) (hcs : ∀ q ∈ cs, ∃ fr lo, bzCOK own q.1 q.2 fr lo ∧ fr + 1 ≤ R.frames ∧ lo ≤ R.locals)
    {pc n a b : Nat} {i : Instr} {L : wL} {st : List wV} {es : List bzE} {σ : bzS} (hd : decode cc pc = .ok (i, n)) (h : bz1 (cc, fl, nws, mus, ans, oi, oc, mc, ms, cs) i n pc L st es a b = some σ) (G : bzGo p l e R s m args below meth c Q D ca B nL σ) : bzGo p l e R s m args below meth c Q D ca B nL (pc, L, st, es, a, b) := by
  obtain ⟨hx, hml, hown, hts, hK, hO⟩ := id X
  intro H locs ls hR hS hL
  have hR : bzR D ca B es H := hR
  have hL : w_LH (bzA B) nL L ls := hL
  show W p l e R s m args below meth c H locs a b Q (F0 m pc ls (st.map (w_cv (bzA B))))
  unfold bz1 at h
  split at h
  · obtain ⟨hc, rfl⟩ := bzIf_i h
    simp only [Bool.and_eq_true, beq_iff_eq, decide_eq_true_eq] at hc
    subst hc
    exact lv_iconst hx hb hd rfl (G _ _ _ hR hS hL)
  · obtain ⟨hc, rfl⟩ := bzIf_i h
    simp only [Bool.and_eq_true, beq_iff_eq, decide_eq_true_eq] at hc
    obtain ⟨rfl, h1⟩ := hc
    exact lv_bipush hx hb hd (w_bip _ h1.1 h1.2) (G _ _ _ hR hS hL)
  · obtain ⟨hc, rfl⟩ := bzIf_i h
    simp only [Bool.and_eq_true, beq_iff_eq, decide_eq_true_eq] at hc
    obtain ⟨rfl, h1⟩ := hc
    exact lv_sipush hx hb hd (w_sip _ h1.1 h1.2) (G _ _ _ hR hS hL)
  · split at h
    · rename_i z hz
      obtain ⟨hc, rfl⟩ := bzIf_i h
      simp only [Bool.and_eq_true, beq_iff_eq, decide_eq_true_eq] at hc
      subst hc
      exact lv_iload_n hx hb hd rfl (hL.ld hz) (G _ _ _ hR hS hL)
    · cases h
  · split at h
    · rename_i z hz
      obtain ⟨hc, rfl⟩ := bzIf_i h
      simp only [Bool.and_eq_true, beq_iff_eq, decide_eq_true_eq] at hc
      subst hc
      exact lv_aload_n hx hb hd rfl (hL.ld hz) (G _ _ _ hR hS hL)
    · cases h
  · obtain ⟨hc, rfl⟩ := bzIf_i h
    simp only [Bool.and_eq_true, beq_iff_eq, decide_eq_true_eq] at hc
    obtain ⟨rfl, h1⟩ := hc
    exact lv_istore_n hx hb hd rfl hL.has (by rw [← hL.1]; exact h1) rfl (fun ls1 g => G _ _ _ hR hS (hL.s1 g))
  · obtain ⟨hc, rfl⟩ := bzIf_i h
    simp only [Bool.and_eq_true, beq_iff_eq, decide_eq_true_eq] at hc
    obtain ⟨rfl, h1⟩ := hc
    exact lv_astore_n hx hb hd rfl hL.has (by rw [← hL.1]; exact h1) rfl (fun ls1 g => G _ _ _ hR hS (hL.s1 g))
  · split at h
    · rename_i z hz
      obtain ⟨hc, rfl⟩ := bzIf_i h
      simp only [Bool.and_eq_true, beq_iff_eq, decide_eq_true_eq] at hc
      subst hc
      have hm := w_lv_mem (ad := bzA B) (L := L) (q := (_, w_cv (bzA B) (vi z))) |>.mpr ⟨_, w_ld_some.mp hz, rfl⟩
      obtain ⟨k, hk⟩ := List.getElem?_of_mem hm
      exact lv_iinc (v := Int32.ofInt (z + _)) hx hb hd hL.has hk (by rw [w_add]) (by rw [← hL.1]; exact (List.getElem?_eq_some_iff.mp (w_ld_some.mp hz)).1) rfl (fun ls1 g => G _ _ _ hR hS (hL.s1 g))
    · cases h
  · obtain ⟨hc, rfl⟩ := bzIf_i h
    simp only [Bool.and_eq_true, beq_iff_eq, decide_eq_true_eq] at hc
    obtain ⟨rfl, h1⟩ := hc
    exact lv_dup hx hb hd ((w_cat_cv (bzA B) _).trans h1) (G _ _ _ hR hS hL)
  · obtain ⟨hc, rfl⟩ := bzIf_i h
    simp only [Bool.and_eq_true, beq_iff_eq, decide_eq_true_eq] at hc
    obtain ⟨rfl, h1, h2, h3⟩ := hc
    have g := G H locs ls hR hS hL
    dsimp only at g
    refine lv_icmp_ge hx hb hd (w_toN h3) (fun q => ?_) (fun q => ?_)
    · rw [if_pos ((w_le h2 h1).mp q)] at g; exact g
    · rw [if_neg (fun z => q ((w_le h2 h1).mpr z))] at g; exact g
  · obtain ⟨hc, rfl⟩ := bzIf_i h
    simp only [Bool.and_eq_true, beq_iff_eq, decide_eq_true_eq] at hc
    obtain ⟨rfl, h1⟩ := hc
    exact lv_goto hx hb hd (w_toN h1) (G _ _ _ hR hS hL)
  · split at h
    · rename_i q x hq he
      split at h
      · rename_i v hv
        obtain ⟨hc, rfl⟩ := bzIf_i h
        simp only [Bool.and_eq_true, beq_iff_eq, decide_eq_true_eq] at hc
        obtain ⟨rfl, h1⟩ := hc
        obtain ⟨Cn, T, N, g1, g2, g3, g4, g5, g6⟩ := hfl _ (w_lkm hq)
        obtain ⟨k1, -⟩ := w_clok _ _ _ _ g1
        exact va_get hx hb hts k1 hown hK hR.2 _ ((bzW_get he).trans (by rw [bzCe_o h1]; rfl)) g1 q.2.1 g2 (hts _ g6) (by rw [g3]; exact fun _ z => z) (by rw [List.getElem?_map, hv]; rfl) hd (G _ _ _ hR hS hL)
      · cases h
    · cases h
  · split at h
    · rename_i q x hq he
      obtain ⟨hc, rfl⟩ := bzIf_i h
      simp only [Bool.and_eq_true, beq_iff_eq, decide_eq_true_eq] at hc
      obtain ⟨⟨⟨⟨rfl, h1⟩, h2⟩, h3⟩, h4⟩ := hc
      have h2 : q.1 = oc := h2
      exact bz_put hx hb hown hts hK hR hS he (hfl _ (w_lkm hq)) h1 h3 h4 (by rw [h2]; exact hin) hd (fun H1 locs1 q1 q2 => G _ _ _ q1 q2 hL)
    · cases h
  · split at h
    · rename_i ci hq
      obtain ⟨hc, rfl⟩ := bzIf_i h
      simp only [Bool.and_eq_true, beq_iff_eq, decide_eq_true_eq] at hc
      obtain ⟨⟨rfl, h1⟩, h2⟩ := hc
      obtain ⟨Cn, T, N, g1, w1, w2, w3⟩ := hnw _ (w_lkm hq)
      have g1 : vwCl[ci]? = some (Cn, T, N) := g1
      obtain ⟨k1, -, -, k4, -⟩ := w_clok _ _ _ _ g1
      obtain ⟨ty, t1, t2, -⟩ := bz_new0 _ _ _ _ g1
      have hKn := hK.1 ci _ g1
      refine W.newcK hx hb hown (hts _ w1) (hts _ w2) (hts _ w3) rfl hd (Nat.le_trans h1 hmc) (by rw [← k4]; exact Nat.le_trans h2 hms) hKn.2.1 rfl fun H1 kC hkC e1 z1 o1 => ?_
      have g := G H1 locs ls (bz_push hR z1 o1 (by rw [bzCe_o (ci := ci) rfl, bz_dv]; exact ⟨_, g1, (u_born ty hts k1 hKn hkC e1 t1).to t2⟩)) (bz_keep hS (by omega) o1) hL
      dsimp only at g
      rw [k4] at g
      have hz : H.size = bzA B es.length := hR.1
      rw [hz]
      exact g
    · cases h
  · obtain ⟨hc, rfl⟩ := bzIf_i h
    simp only [Bool.and_eq_true, beq_iff_eq, decide_eq_true_eq] at hc
    obtain ⟨⟨⟨rfl, h1⟩, h2⟩, h3⟩ := hc
    obtain ⟨n1, n2⟩ := bz_neg h1
    refine va_newaK (atype := .int) hx hb (hts _ bz_acI) rfl hd rfl n1 n2 (by show _ * 4 ≤ 536870912; omega) (Nat.le_trans h2 hmc) (Nat.le_trans h3 hms) rfl fun H1 cA e1 z1 o1 hAr hNm => ?_
    have hcA : cA = ca 0 := Option.some.inj (hNm.symm.trans (bz_ra hK).1)
    subst hcA
    have g := G H1 locs ls (bz_push hR z1 o1 (by
      rw [bzCe_0 rfl]
      show H1[H.size]? = some (vp_cell _ _)
      rw [vp_cell_i, e1]
      exact congrArg some (bz_arr (fun _ _ => rfl)))) (bz_keep hS (by omega) o1) hL
    have hz : H.size = bzA B es.length := hR.1
    rw [hz]
    exact g
  · obtain ⟨hc, rfl⟩ := bzIf_i h
    simp only [Bool.and_eq_true, beq_iff_eq, decide_eq_true_eq] at hc
    obtain ⟨⟨⟨rfl, h1⟩, h2⟩, h3⟩ := hc
    obtain ⟨n1, n2⟩ := bz_neg h1
    refine va_newaK (atype := .long) hx hb (hts _ bz_acJ) rfl hd rfl n1 n2 (by show _ * 8 ≤ 536870912; omega) (Nat.le_trans h2 hmc) (Nat.le_trans h3 hms) rfl fun H1 cA e1 z1 o1 hAr hNm => ?_
    have hcA : cA = ca 1 := Option.some.inj (hNm.symm.trans (bz_ra hK).2.1)
    subst hcA
    have g := G H1 locs ls (bz_push hR z1 o1 (by
      rw [bzCe_1 rfl]
      show H1[H.size]? = some (vp_cell _ _)
      rw [vp_cell_l, e1]
      exact congrArg some (bz_arr (fun _ _ => rfl)))) (bz_keep hS (by omega) o1) hL
    have hz : H.size = bzA B es.length := hR.1
    rw [hz]
    exact g
  · obtain ⟨hc, rfl⟩ := bzIf_i h
    simp only [Bool.and_eq_true, beq_iff_eq, decide_eq_true_eq] at hc
    obtain ⟨⟨⟨⟨rfl, h0⟩, h1⟩, h2⟩, h3⟩ := hc
    obtain ⟨n1, n2⟩ := bz_neg h1
    refine W.anew hx hb hown (hts _ (han _ h0)) (va_AO.use hO.1) rfl hd rfl n1 (by rw [n2]; omega) (Nat.le_trans h2 hmc) (by rw [n2]; exact Nat.le_trans h3 hms) fun cA kA comp f1 f2 f3 f4 => ?_
    rw [n2]
    have hcA : cA = ca 3 := Option.some.inj (f1.symm.trans (bz_ra hK).2.2.2)
    subst hcA
    rename_i j z st
    generalize hH1 : H.push ({ cls := ca 3, slots := Array.replicate z.toNat .null, vm := .none } : Cell) = H1
    have z1 : H1.size = H.size + 1 := by rw [← hH1, Array.size_push]
    have e1 : H1[H.size]? = some (arrV (ca 3) z.toNat (fun _ => .null)) := by rw [← hH1, Array.getElem?_push_size, ← arrV_new]
    have o1 : ∀ q : Nat, q < H.size → H1[q]? = H[q]? := fun q hq => by rw [← hH1, Array.getElem?_push, if_neg (Nat.ne_of_lt hq)]
    have g := G H1 locs ls (bz_push hR z1 o1 (by
      rw [bzCe_3 rfl]
      show H1[H.size]? = some (vp_cell _ _)
      rw [vp_cell_q, e1]
      refine congrArg some (bz_arr (fun j _ => ?_))
      have : (List.replicate z.toNat bzN).getD j bzN = bzN := by
        rw [List.getD_eq_getElem?_getD, List.getElem?_replicate]
        split <;> rfl
      show Value.null = va_rf (bzRf B ((List.replicate z.toNat bzN).getD j bzN))
      rw [this]
      rfl)) (bz_keep hS (by omega) o1) hL
    have hz : H.size = bzA B es.length := hR.1
    rw [hz]
    exact g
  · obtain ⟨hc, rfl⟩ := bzIf_i h
    simp only [Bool.and_eq_true, beq_iff_eq, decide_eq_true_eq] at hc
    obtain ⟨⟨⟨⟨⟨⟨rfl, hdim⟩, h0⟩, h1⟩, h2⟩, h3⟩, h4⟩ := hc
    subst hdim
    obtain ⟨n1, n2⟩ := bz_neg h1
    obtain ⟨m1, m2⟩ := bz_neg h2
    rename_i j k z st
    refine bz_multi hx hb hown (hts _ (hmu _ h0)) (ty := .int) hO.2 (hts _ bz_acI) hd n1 m1 n2 m2 (by omega) (by show _ * 4 ≤ 536870912; omega) (by omega) rfl (Nat.le_trans h3 hmc) (Nat.le_trans h4 hms) fun H1 cA comp o1 z1 eo ei f1 f2 => ?_
    have hcA : cA = ca 2 := Option.some.inj (f1.symm.trans (bz_ra hK).2.2.1)
    have hco : comp = ca 0 := Option.some.inj (f2.symm.trans (bz_ra hK).1)
    subst hcA
    subst hco
    have hz : H.size = bzA B es.length := hR.1
    have hz' : H.size = B + es.length := hR.1
    have g := G H1 locs ls ⟨by
      rw [z1, hz']
      simp only [List.length_append, List.length_cons, List.length_replicate]
      omega, bzW_app (hR.2.kept (fun k q hk => o1 q.1 ((hR.2 k q hk).lt))) (fun j y hy => by
      match j, hy with
      | 0, hy =>
        have : (2, z.toNat, (List.range z.toNat).map (fun i => vr (es.length + 1 + i)), []) = y := by simpa using hy
        subst this
        rw [bzCe_2 rfl]
        show H1[B + es.length + 0]? = some (vp_cell _ _)
        rw [vp_cell_q, Nat.add_zero, ← hz', eo]
        refine congrArg some (bz_arr (fun j hj => ?_))
        have hj : j < z.toNat := hj
        have : ((List.range z.toNat).map (fun i => vr (es.length + 1 + i))).getD j bzN = vr (es.length + 1 + j) := by
          rw [List.getD_eq_getElem?_getD, List.getElem?_map, List.getElem?_range hj]
          rfl
        show (if j < z.toNat then Value.ref (H.size + 1 + j) else .null) = va_rf (bzRf B (((List.range z.toNat).map (fun i => vr (es.length + 1 + i))).getD j bzN))
        rw [this, if_pos hj]
        show Value.ref (H.size + 1 + j) = Value.ref (B + (es.length + 1 + j))
        rw [hz', show B + es.length + 1 + j = B + (es.length + 1 + j) by omega]
      | j + 1, hy =>
        have hy : (List.replicate z.toNat ((0, k.toNat, [], []) : bzE))[j]? = some y := by simpa using hy
        rw [List.getElem?_replicate] at hy
        by_cases hj : j < z.toNat
        · rw [if_pos hj] at hy
          have : (0, k.toNat, [], []) = y := Option.some.inj hy
          subst this
          rw [bzCe_0 rfl]
          show H1[B + es.length + (j + 1)]? = some (vp_cell _ _)
          rw [vp_cell_i, show B + es.length + (j + 1) = H.size + 1 + j by omega, ei j hj]
          exact congrArg some (bz_arr (fun _ _ => rfl))
        · rw [if_neg hj] at hy
          cases hy)⟩ (bz_keep hS (by omega) o1) hL
    rw [hz]
    exact g
  · split at h
    · rename_i x xv he hev
      obtain ⟨hc, rfl⟩ := bzIf_i h
      simp only [Bool.and_eq_true, beq_iff_eq, decide_eq_true_eq] at hc
      obtain ⟨⟨⟨⟨rfl, h1⟩, h2⟩, h3⟩, h4⟩ := hc
      rename_i v i k st _ _
      obtain ⟨g1, g2⟩ := w_idx h3.1 h3.2.1 (by omega)
      have hlt : i.toNat < x.2.1 := by omega
      have hEk : (bzW ca B es)[k]? = some (B + k, .inl (ca 3, x.2.1, .inr (.inr (.inr (.inr (fun i => bzRf B (x.2.2.1.getD i bzN))))))) := by rw [bzW_get he, bzCe_3 h1]
      have hEv : (bzW ca B es)[v]? = some (B + v, .inr (4, xv.2.2.1.map (w_cv (bzA B)))) := by rw [bzW_get hev, bzCe_o (ci := 4) h2]
      obtain ⟨r', hr', cellV, f1, f2, f3, -⟩ := hR.2 v _ hEv
      have hcls := (hK.1 4 (RX4, TX4, 7) rfl).2
      obtain ⟨kA, comp, k1, k2, k3, -⟩ := (hK.2 3 (ca 3, .object RX4) rfl).2
      have hcomp : comp = D.1 4 := Option.some.inj (k3.symm.trans hcls.1)
      subst hcomp
      obtain ⟨kC, hkC, -⟩ := hcls.2
      refine W.aast hx hb (hR.2 k _ hEk) (fun q h => by cases h) (fun h => by cases h) k1 k2 rfl hkC ⟨fun q => g1 (Or.inl q), by show _ < (arrV _ _ _).slots.size; rw [arrV_size, g2]; exact hlt⟩ f1 (fun q h => by rw [f3] at h; cases h) (by rw [f2]; exact hkC) (by rw [f2]; exact va_assign hcls) rfl rfl hd fun H1 e1 z1 oq => ?_
      refine G H1 _ ls (bz_set hR he z1 oq ?_) (hS.put z1 oq (Nat.le_add_right _ _)) hL
      rw [bzCe_3 (e := (x.1, x.2.1, x.2.2.1.set i.toNat (vr v), x.2.2.2)) h1]
      show H1[B + k]? = some (vp_cell _ _)
      dsimp only at e1
      rw [e1, vp_cell_q, vp_cell_q, g2, arrV_store]
      refine congrArg some (bz_arr (fun j hj => ?_))
      show updV (fun j => va_rf (bzRf B (x.2.2.1.getD j bzN))) i.toNat (.ref (B + v)) j = va_rf (bzRf B ((x.2.2.1.set i.toNat (vr v)).getD j bzN))
      unfold updV
      dsimp only
      rw [List.getD_eq_getElem?_getD, List.getD_eq_getElem?_getD, List.getElem?_set]
      by_cases hq : j = i.toNat
      · rw [if_pos hq, if_pos hq.symm, if_pos (by omega)]
        rfl
      · rw [if_neg hq, if_neg (fun z => hq z.symm)]
    · cases h
  · split at h
    · rename_i x he
      obtain ⟨hc, rfl⟩ := bzIf_i h
      simp only [Bool.and_eq_true, beq_iff_eq, decide_eq_true_eq] at hc
      obtain ⟨⟨rfl, h1⟩, h3⟩ := hc
      rename_i v i k st _
      obtain ⟨g1, g2⟩ := w_idx h3.1 h3.2.1 (by omega)
      have hEk : (bzW ca B es)[k]? = some (B + k, .inl (ca 0, x.2.1, .inl (fun i => Int32.ofInt (bzC x.2.2.2 i)))) := by rw [bzW_get he, bzCe_0 h1]
      refine W.iast hx hb (hR.2 k _ hEk) ((hK.2 0 _ rfl).1 x.2.1 (fun j => .int (Int32.ofInt (bzC x.2.2.2 j)))) (fun q => by cases q) (by show ¬ (_ < 0 ∨ (arrV _ _ _).slots.size ≤ _); rw [arrV_size]; exact g1) rfl rfl hd fun H1 e1 z1 oq => ?_
      refine G H1 _ ls (bz_set hR he z1 oq ?_) (hS.put z1 oq (Nat.le_add_right _ _)) hL
      rw [bzCe_0 (e := (x.1, x.2.1, x.2.2.1, (i.toNat, v) :: x.2.2.2)) h1]
      show H1[B + k]? = some (vp_cell _ _)
      dsimp only at e1
      rw [e1, vp_cell_i, vp_cell_i, g2, arrV_store]
      refine congrArg some (bz_arr (fun j hj => ?_))
      show updV (fun j => .int (Int32.ofInt (bzC x.2.2.2 j))) i.toNat (.int (Int32.ofInt v)) j = .int (Int32.ofInt (bzC ((i.toNat, v) :: x.2.2.2) j))
      have hcons : bzC ((i.toNat, v) :: x.2.2.2) j = if j = i.toNat then v else bzC x.2.2.2 j := rfl
      rw [hcons]
      unfold updV
      by_cases hq : j = i.toNat
      · rw [if_pos hq, if_pos hq]
      · rw [if_neg hq, if_neg hq]
    · cases h
  · split at h
    · rename_i x he
      obtain ⟨hc, rfl⟩ := bzIf_i h
      simp only [Bool.and_eq_true, beq_iff_eq, decide_eq_true_eq] at hc
      obtain ⟨rfl, h1⟩ := hc
      have hE := bzW_get (ca := ca) (B := B) he
      rw [bzCe_0 h1] at hE
      exact va_alen hx hb hK hR.2 _ 0 hE rfl (w_oN _) hd (G _ _ _ hR hS hL)
    · cases h
  · split at h
    · rename_i hj
      split at h
      · obtain ⟨hc, rfl⟩ := bzIf_i h
        simp only [Bool.and_eq_true, beq_iff_eq, decide_eq_true_eq] at hc
        obtain ⟨rfl, h1⟩ := hc
        obtain ⟨hj, hj0⟩ := hj
        have hj : _ = oi := hj
        subst hj
        rcases hoi with h0 | ⟨o1, o2, o3⟩
        · exact absurd h0 hj0
        · exact W.objInit hx hb hown (hts _ o3) (hts _ bz_oi1) (hts _ bz_oi2) rfl (hL.2.1.trans hml.symm) rfl hd o1 (Nat.le_trans (Nat.add_le_add_right (lv_room (by rw [w_cats_cv]; exact h1)) 12) o2) (G _ _ _ hR hS hL)
      · cases h
    · split at h
      · rename_i hn
        subst hn
        exact bz_call (kd := 0) hb X hmc hms hcs hd h G hR hS hL
      · cases h
  · split at h
    · rename_i hn
      subst hn
      exact bz_call (kd := 1) hb X hmc hms hcs hd h G hR hS hL
    · cases h
  · cases h
theorem bz_at {F : bzT} {stp : Nat} : ∀ (f : Nat) (σ σ' : bzS), bzX F stp f σ = some σ' → σ'.1 = stp
  | 0, σ, σ', h => by cases h
  | f + 1, (pc, L, st, es, a, b), σ', h => by
    unfold bzX at h
    split at h
    · rename_i hp
      rw [← Option.some.inj h]
      exact hp
    · split at h
      · obtain ⟨σ1, -, h2⟩ := Option.bind_eq_some_iff.mp h
        exact bz_at f σ1 σ' h2
      · cases h
theorem bz_run {F : bzT} {stp : Nat} {D : va_G} {ca : Nat → ClassId} {B nL : Nat} (S1 : ∀ (pc n a b : Nat) (i : Instr) (L : wL) (st : List wV) (es : List bzE) (σ : bzS), decode F.1 pc = .ok (i, n) → bz1 F i n pc L st es a b = some σ → bzGo p l e R s m args below meth c Q D ca B nL σ → bzGo p l e R s m args below meth c Q D ca B nL (pc, L, st, es, a, b)) :
    ∀ (f : Nat) (σ σ' : bzS), bzX F stp f σ = some σ' → bzGo p l e R s m args below meth c Q D ca B nL σ' → bzGo p l e R s m args below meth c Q D ca B nL σ
  | 0, σ, σ', h, _ => by cases h
  | f + 1, (pc, L, st, es, a, b), σ', h, G => by
    unfold bzX at h
    split at h
    · rw [Option.some.inj h]
      exact G
    · split at h
      · rename_i i n hd
        obtain ⟨σ1, h1, h2⟩ := Option.bind_eq_some_iff.mp h
        exact S1 pc n a b i L st es σ1 hd h1 (bz_run S1 f σ1 σ' h2 G)
      · cases h
end BZT
