theorem bz_met {y : MethodName} {cc : ByteArray} {maxL fr lo mc ms stp : Nat} {own : String} {fl : List (Nat × Nat × Nat × Nat)} {nws : List (Nat × Nat)} {mus ans : List Nat} {oi oc : Nat} {cs : List (Nat × bzQ)}
    (hy : plainName y.cls = true) (hown : y.cls = own) (hstp : decode cc stp = .ok (.return_, 1)) (hfl : ∀ q ∈ fl, w_flok own q) (hnw : ∀ q ∈ nws, bzNw own q) (hmu : ∀ j, mus.contains j = true → Cond.classLink own j ("[" ++ (FieldType.array .int).toString) ∈ w_TB) (han : ∀ j, ans.contains j = true → Cond.classLink own j RX4 ∈ w_TB)
    (hoi : oi = 0 ∨ (1 ≤ fr ∧ 20 ≤ lo ∧ Cond.methodLink own oi Lib.objectInit ∈ w_TB)) (hin : ∀ r, vwCl[oc]? = some r → y.name = "<init>" ∧ r.1 = own) (hcs : ∀ q ∈ cs, ∃ fr' lo', bzCOK own q.1 q.2 fr' lo' ∧ fr' + 1 ≤ fr ∧ lo' ≤ lo) : bzCt y cc maxL fr lo mc ms (bzFn (cc, fl, nws, mus, ans, oi, oc, mc, ms, cs) stp maxL) := by
  intro l D ca B av es es' hfn
  unfold bzFn at hfn
  split at hfn
  · rename_i hlen
    split at hfn
    · rename_i pc' L' es1 a b hX
      split at hfn
      · rename_i hab
        obtain rfl := Option.some.inj hfn
        refine Met.ofW (cc := cc) (maxL := maxL) (ret := none) hy rfl ?_
        intro p e s m args below meth c s₁ B0 hml hv
        obtain ⟨rfl, hR, hK, hO⟩ := hv
        have hts := atoms_spec (ws := Cond.code y cc maxL none :: w_TB) B0.pre
        have hts2 : ∀ w ∈ w_TB, w.before (av.map (w_cv (bzA B))).toArray s = true := fun w hw => hts w (List.mem_cons_of_mem _ hw)
        have hown : s.vm.findClass own = some m.cls := by rw [← hown]; exact findClass_of_methodNamed B0.named
        have X : bzCx p s m (av.map (w_cv (bzA B))).toArray c D ca own maxL := ⟨B0.exec, hml, hown, hts2, hK, hO⟩
        have hnm : meth.name = y.name := (name_of_methodNamed B0.named B0.method).1
        have hpc : pc' = stp := bz_at 400 _ _ hX
        subst hpc
        have hB : B ≤ s.heap.size := by rw [hR.1]; exact Nat.le_add_right _ _
        have S1 : ∀ (pc n a b : Nat) (i : Instr) (L : wL) (st : List wV) (es : List bzE) (σ : bzS), decode cc pc = .ok (i, n) → bz1 (cc, fl, nws, mus, ans, oi, oc, mc, ms, cs) i n pc L st es a b = some σ → bzGo p l e (headSpec (Cond.code y cc maxL none :: w_TB) { frames := fr, cells := mc, slots := ms, locals := lo }).room s m (av.map (w_cv (bzA B))).toArray below meth c (MQ below (va_Qv (S := Unit) (fun _ => True) (fun _ t => bzR D ca B es1 t.heap) (fun q => B ≤ q)) (av.map (w_cv (bzA B))).toArray s mc ms (fun q => B ≤ q)) D ca B maxL σ → bzGo p l e (headSpec (Cond.code y cc maxL none :: w_TB) { frames := fr, cells := mc, slots := ms, locals := lo }).room s m (av.map (w_cv (bzA B))).toArray below meth c (MQ below (va_Qv (S := Unit) (fun _ => True) (fun _ t => bzR D ca B es1 t.heap) (fun q => B ≤ q)) (av.map (w_cv (bzA B))).toArray s mc ms (fun q => B ≤ q)) D ca B maxL (pc, L, st, es, a, b) := fun pc n a b i L st es σ h1 h2 h3 =>
          bz_snd1 B0.bytes X hB (Nat.le_refl _) (Nat.le_refl _) hfl hnw hmu han hoi (fun r hr => by rw [hnm]; exact hin r hr) (fun q hq => by
            obtain ⟨fr', lo', k1, k2, k3⟩ := hcs q hq
            exact ⟨fr', lo', k1, k2, k3⟩) h1 h2 h3
        have := bz_run (F := (cc, fl, nws, mus, ans, oi, oc, mc, ms, cs)) S1 400 _ _ hX (fun H locs ls hR1 hS1 hL1 => by
          refine W.widen hab.1 hab.2 ?_
          exact W.vret B0.exec B0.bytes B0.returns (fun t ht _ => ⟨⟨(), rfl, trivial, by show bzR D ca B _ t.heap; rw [ht]; exact hR1⟩, hS1.F ht⟩) (fun q hq => hS1.2.2 q hq) hstp B0.notSynchronized) s.heap [] _ hR va_S.rf (w_ent_LH hlen)
        rw [lg_entry_eq]
        exact this
      · cases hfn
    · cases hfn
  · cases hfn
theorem bz_callI {own : String} {idx : Nat} {y : MethodName} {cc : ByteArray} {maxL fr lo mc ms n : Nat} {fn : bzF} (hM : bzCt y cc maxL fr lo mc ms fn) (h1 : Cond.methodLink own idx y ∈ w_TB) (h2 : Cond.instanceMethod y ∈ w_TB) (h4 : Cond.initialized y.cls ∈ w_TB) (h5 : Cond.code y cc maxL none ∈ w_TB) (hy1 : y.name = "<init>")
    (hd : y.cls ≠ "java/lang/invoke/MethodHandle" ∧ y.cls ≠ "java/lang/invoke/VarHandle" ∧ (parseMethodDescriptor y.desc).map (fun d => d.parameters.length) = some n) : bzCOK own idx (0, n + 1, fn, mc, ms) fr (8 + (maxL + 11) + lo) := by
  intro p l e R s m args below meth c Q D ca B nL X hfr hlo pc L st es es' H locs ls a b hdg hR hS hL hn hcat hhd hfn ha hb kk
  obtain ⟨hx, hml, hown, hts, hK, hO⟩ := id X
  obtain ⟨k, As, hav⟩ := bz_hd (hhd rfl)
  have hn : n + 1 ≤ st.length := hn
  have hav : (st.take (n + 1)).reverse = vr k :: As := hav
  have hst : st = As.reverse ++ vr k :: st.drop (n + 1) := by
    have e := congrArg List.reverse hav
    rw [List.reverse_reverse] at e
    conv => lhs; rw [← List.take_append_drop (n + 1) st]
    have e : st.take (n + 1) = As.reverse ++ [vr k] := by simpa using e
    rw [e]
    simp
  have hAs : As.length = n := by
    have e := congrArg List.length hav
    simp at e
    omega
  have hall : ∀ w ∈ (Cond.code y cc maxL none :: w_TB), ∀ (a' : Array Value) (U : State), s.WarmedH U.vm → w.before a' U = true := by
    intro w hw a' U hW
    rcases List.mem_cons.mp hw with rfl | hw
    · exact w_keep hts _ h5 a' U hW
    · exact w_keep hts _ hw a' U hW
  have hfn : fn (vr k :: As) es = some es' := by rw [← hav]; exact hfn
  refine va_callv (rest := (st.drop (n + 1)).map (w_cv (bzA B))) (va_runI (b := B + k) (As := As.map (w_cv (bzA B))) (rest := (st.drop (n + 1)).map (w_cv (bzA B))) (mc := mc) (ms := ms) (n := n) ⟨hx, rfl, hml, hown, hts⟩ (hM l D ca B (vr k :: As) es es' hfn)
    ⟨⟨rfl, rfl, hfr, hlo, hall, List.mem_cons_self, hts _ h5, hts _ h4, ⟨hd.1, hd.2.1⟩, fun sig h => ?_, hts _ h1⟩, hy1, hts _ h2⟩
    ⟨bzPre_blind, fun U hU hW => ⟨rfl, by rw [hU]; exact hR, va_K.moved hW.alike hK, bzO.moved hW.alike hO⟩⟩ rfl (by rw [List.length_map]; exact hAs) hL.2.1 ?_ ?_ hdg ⟨ha, hb⟩) hS (fun q _ h => h) (fun q h => h) (fun u t H1 locs1 ht _ _ hB _ _ hS1 => ?_)
  · have h2 := hd.2.2
    rw [h] at h2
    exact (Option.some.inj h2).symm
  · show st.map (w_cv (bzA B)) = _
    conv => lhs; rw [hst]
    simp [w_cv, bzA]
  · exact lv_room (by rw [w_cats_cv]; exact hcat)
  · rw [ht] at hB
    exact kk H1 locs1 hB hS1
theorem bz_callIN {own host : String} {idx : Nat} {y : MethodName} {cc : ByteArray} {maxL fr lo mc ms n : Nat} {fn : bzF} (hM : bzCt y cc maxL fr lo mc ms fn) (h1 : Cond.methodLinkNest own idx y host ∈ w_TB) (h2 : Cond.instanceMethod y ∈ w_TB) (h4 : Cond.initialized y.cls ∈ w_TB) (h5 : Cond.code y cc maxL none ∈ w_TB) (hy1 : y.name = "<init>")
    (hd : y.cls ≠ "java/lang/invoke/MethodHandle" ∧ y.cls ≠ "java/lang/invoke/VarHandle" ∧ (parseMethodDescriptor y.desc).map (fun d => d.parameters.length) = some n) : bzCOK own idx (0, n + 1, fn, mc, ms) fr (8 + (maxL + 11) + lo) := by
  intro p l e R s m args below meth c Q D ca B nL X hfr hlo pc L st es es' H locs ls a b hdg hR hS hL hn hcat hhd hfn ha hb kk
  obtain ⟨hx, hml, hown, hts, hK, hO⟩ := id X
  obtain ⟨k, As, hav⟩ := bz_hd (hhd rfl)
  have hn : n + 1 ≤ st.length := hn
  have hav : (st.take (n + 1)).reverse = vr k :: As := hav
  have hst : st = As.reverse ++ vr k :: st.drop (n + 1) := by
    have e := congrArg List.reverse hav
    rw [List.reverse_reverse] at e
    conv => lhs; rw [← List.take_append_drop (n + 1) st]
    have e : st.take (n + 1) = As.reverse ++ [vr k] := by simpa using e
    rw [e]
    simp
  have hAs : As.length = n := by
    have e := congrArg List.length hav
    simp at e
    omega
  have hall : ∀ w ∈ (Cond.code y cc maxL none :: w_TB), ∀ (a' : Array Value) (U : State), s.WarmedH U.vm → w.before a' U = true := by
    intro w hw a' U hW
    rcases List.mem_cons.mp hw with rfl | hw
    · exact w_keep hts _ h5 a' U hW
    · exact w_keep hts _ hw a' U hW
  have hfn : fn (vr k :: As) es = some es' := by rw [← hav]; exact hfn
  refine va_callv (rest := (st.drop (n + 1)).map (w_cv (bzA B))) (va_runIN (b := B + k) (As := As.map (w_cv (bzA B))) (rest := (st.drop (n + 1)).map (w_cv (bzA B))) (mc := mc) (ms := ms) (n := n) ⟨hx, rfl, hml, hown, hts⟩ (hM l D ca B (vr k :: As) es es' hfn)
    ⟨⟨⟨rfl, rfl, hfr, hlo, hall, List.mem_cons_self⟩, hts _ h5, hts _ h4, ⟨hd.1, hd.2.1⟩, fun sig h => ?_, hts _ h1⟩, hy1, hts _ h2⟩
    ⟨bzPre_blind, fun U hU hW => ⟨rfl, by rw [hU]; exact hR, va_K.moved hW.alike hK, bzO.moved hW.alike hO⟩⟩ rfl (by rw [List.length_map]; exact hAs) hL.2.1 ?_ ?_ hdg ⟨ha, hb⟩) hS (fun q _ h => h) (fun q h => h) (fun u t H1 locs1 ht _ _ hB _ _ hS1 => ?_)
  · have h2 := hd.2.2
    rw [h] at h2
    exact (Option.some.inj h2).symm
  · show st.map (w_cv (bzA B)) = _
    conv => lhs; rw [hst]
    simp [w_cv, bzA]
  · exact lv_room (by rw [w_cats_cv]; exact hcat)
  · rw [ht] at hB
    exact kk H1 locs1 hB hS1
theorem bz_callS {own : String} {idx : Nat} {y : MethodName} {cc : ByteArray} {maxL fr lo mc ms n : Nat} {fn : bzF} (hM : bzCt y cc maxL fr lo mc ms fn) (h1 : Cond.methodLink own idx y ∈ w_TB) (h2 : Cond.static y ∈ w_TB) (h4 : Cond.initialized y.cls ∈ w_TB) (h5 : Cond.code y cc maxL none ∈ w_TB)
    (hd : y.cls ≠ "java/lang/invoke/MethodHandle" ∧ y.cls ≠ "java/lang/invoke/VarHandle" ∧ (parseMethodDescriptor y.desc).map (fun d => d.parameters.length) = some n) : bzCOK own idx (1, n, fn, mc, ms) fr (8 + (maxL + 11) + lo) := by
  intro p l e R s m args below meth c Q D ca B nL X hfr hlo pc L st es es' H locs ls a b hdg hR hS hL hn hcat hhd hfn ha hb kk
  obtain ⟨hx, hml, hown, hts, hK, hO⟩ := id X
  have hn : n ≤ st.length := hn
  have hall : ∀ w ∈ (Cond.code y cc maxL none :: w_TB), ∀ (a' : Array Value) (U : State), s.WarmedH U.vm → w.before a' U = true := by
    intro w hw a' U hW
    rcases List.mem_cons.mp hw with rfl | hw
    · exact w_keep hts _ h5 a' U hW
    · exact w_keep hts _ hw a' U hW
  refine va_callv (rest := (st.drop n).map (w_cv (bzA B))) (va_runS (As := ((st.take n).reverse).map (w_cv (bzA B))) (rest := (st.drop n).map (w_cv (bzA B))) (mc := mc) (ms := ms) (n := n) ⟨hx, rfl, hml, hown, hts⟩ (hM l D ca B _ es es' hfn)
    ⟨⟨rfl, rfl, hfr, hlo, hall, List.mem_cons_self, hts _ h5, hts _ h4, ⟨hd.1, hd.2.1⟩, fun sig h => ?_, hts _ h1⟩, hts _ h2⟩
    ⟨bzPre_blind, fun U hU hW => ⟨rfl, by rw [hU]; exact hR, va_K.moved hW.alike hK, bzO.moved hW.alike hO⟩⟩ rfl (by simp; omega) hL.2.1 ?_ ?_ hdg ⟨ha, hb⟩) hS (fun q _ h => h) (fun q h => h) (fun u t H1 locs1 ht _ _ hB _ _ hS1 => ?_)
  · have h2 := hd.2.2
    rw [h] at h2
    exact (Option.some.inj h2).symm
  · show st.map (w_cv (bzA B)) = _
    rw [← List.map_reverse, List.reverse_reverse, ← List.map_append, List.take_append_drop]
  · exact lv_room (by rw [w_cats_cv]; exact hcat)
  · rw [ht] at hB
    exact kk H1 locs1 hB hS1
