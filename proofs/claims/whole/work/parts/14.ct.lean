def w_Pre (D : va_G) (ca : Nat → ClassId) (ad : Nat → Nat) (w : wW) (U : State) : Prop := w_R D ca ad w U.heap ∧ va_K D vwCl (w_tys ca) U ∧ w_Sta ad U U.heap ∧ w_J ad
/-- a method's contract: from every world with pre, it returns, the world and the answer hold post -/
def w_Ct (y : MethodName) (cc : ByteArray) (maxL : Nat) (rt fr lo : Nat) (pre : List wV → wW → Prop) (post : List wV → wW → Int → wW → Prop) : Prop :=
  ∀ (l : Launch) (D : va_G) (ca : Nat → ClassId) (ad : Nat → Nat) (av : List wV) (w : wW), pre av w →
    Met l y (Cond.code y cc maxL (w_rt rt) :: w_TB) { frames := fr, cells := 0, slots := 0, locals := lo } (va_Pc (av.map (w_cv ad)) (w_Pre D ca ad w)) (w_Qc rt D ca ad (post av w)) 0 0 (w_A ad)
def w_pos : List wV → wL
  | [] => []
  | v :: r => if w_cat v = 2 then some v :: none :: w_pos r else some v :: w_pos r
def w_ent (n : Nat) (av : List wV) : wL := w_pos av ++ List.replicate (n - (w_pos av).length) none
theorem w_pos_sl (ad : Nat → Nat) : ∀ av : List wV, (lg_sl (av.map (w_cv ad))).length = (w_pos av).length
  | [] => rfl
  | v :: r => by
    have ih := w_pos_sl ad r
    unfold lg_sl at ih ⊢
    simp only [List.map_cons, List.flatMap_cons, List.length_append, w_pos, w_cat_cv, ih]
    split <;> simp <;> omega
theorem w_pos_args (ad : Nat → Nat) : ∀ (av : List wV) (k i : Nat) (v : wV), (w_pos av)[i]? = some (some v) → (k + i, w_cv ad v) ∈ lv_args k (av.map (w_cv ad))
  | [], k, i, v, h => by simp [w_pos] at h
  | u :: r, k, i, v, h => by
    unfold w_pos at h
    simp only [List.map_cons, lv_args, w_cat_cv]
    by_cases c : w_cat u = 2
    · rw [if_pos c] at h
      rw [if_pos c]
      match i, h with
      | 0, h => simp at h; subst h; exact List.mem_cons_self
      | 1, h => simp at h
      | i + 2, h =>
        have h : (w_pos r)[i]? = some (some v) := by simpa using h
        have := w_pos_args ad r (k + 2) i v h
        rw [show k + (i + 2) = k + 2 + i by omega]
        exact List.mem_cons_of_mem _ this
    · rw [if_neg c] at h
      rw [if_neg c]
      match i, h with
      | 0, h => simp at h; subst h; exact List.mem_cons_self
      | i + 1, h =>
        have h : (w_pos r)[i]? = some (some v) := by simpa using h
        have := w_pos_args ad r (k + 1) i v h
        rw [show k + (i + 1) = k + 1 + i by omega]
        exact List.mem_cons_of_mem _ this
theorem w_ent_LH {ad : Nat → Nat} {n : Nat} {av : List wV} (h : (w_pos av).length ≤ n) : w_LH ad n (w_ent n av) ((lg_sl (av.map (w_cv ad)) ++ List.replicate (n - (lg_sl (av.map (w_cv ad))).length) Slot.unset).toArray) := by
  obtain ⟨h1, h2, h3⟩ := lv_entry (av.map (w_cv ad)) (n := n) (by rw [w_pos_sl]; exact h)
  refine ⟨?_, h1, h2, fun i v hv => ?_⟩
  · unfold w_ent
    simp
    omega
  · unfold w_ent at hv
    by_cases hi : i < (w_pos av).length
    · rw [List.getElem?_append_left hi] at hv
      have := h3 _ (w_pos_args ad av 0 i v hv)
      simpa using this
    · rw [List.getElem?_append_right (by omega)] at hv
      have := List.getElem?_eq_some_iff.mp hv
      obtain ⟨q1, q2⟩ := this
      simp at q2
theorem w_keep {args : Array Value} {s : State} (hts : ∀ w ∈ w_TB, w.before args s = true) : ∀ w ∈ w_TB, ∀ (a' : Array Value) (U : State), s.WarmedH U.vm → w.before a' U = true := by
  intro w hw a' U hW
  have hg := (List.mem_filter.mp hw).2
  unfold w_gd at hg
  rw [Bool.or_eq_true] at hg
  rcases hg with hg | hg
  · exact word_at hW (good_of_word hg) (hts w hw)
  · have hb := hts w hw
    unfold w_nst at hg
    split at hg
    · exact va_Nw.use rfl (va_Nw.warmF hW (va_Nw.of rfl hb))
    · exact va_Nw.use rfl (va_Nw.warmM hW (va_Nw.of rfl hb))
    · cases hg
theorem w_Pre_blind {D : va_G} {ca : Nat → ClassId} {ad : Nat → Nat} {w : wW} {av : List Value} : FrameBlind (va_Pc av (w_Pre D ca ad w)) := by
  rintro a U g mk ⟨h1, h2, h3, h4, h5⟩
  exact ⟨h1, h2, va_K.moved (u := U) (U := U.calling g mk a) (Vm.Alike.refl U.vm) h3, (w_Sta.moved (u := U) (U := U.calling g mk a) (Vm.Alike.refl U.vm) h4), h5⟩
/-- a contract, out of a walk over an abstract rest -/
theorem w_met {y : MethodName} {cc : ByteArray} {maxL rt fr lo : Nat} {own : String} {fl : List (Nat × Nat × Nat × Nat)} {gs : List (Nat × Nat)} {kl ki : List (Nat × Int)} {cs : List (Nat × wE)} {pre : List wV → wW → Prop} {post : List wV → wW → Int → wW → Prop}
    (hy : plainName y.cls = true) (hown : y.cls = own) (hlen : ∀ av w, pre av w → (w_pos av).length ≤ maxL)
    (hfl : ∀ q ∈ fl, w_flok own q) (hgs : ∀ q ∈ gs, w_gsk own q) (hkl : ∀ q ∈ kl, Cond.constantLong own q.1 (Int64.ofInt q.2) ∈ w_TB) (hki : ∀ q ∈ ki, Cond.constant own q.1 (Int32.ofInt q.2) ∈ w_TB)
    (hcs : ∀ q ∈ cs, ∃ fr' lo', w_COK own q.1 q.2 fr' lo' ∧ fr' + 1 ≤ fr ∧ lo' ≤ lo)
    (h : ∀ av w, pre av w → ∀ G : wK, wS (cc, rt, fl, gs, kl, ki, cs, post av w) G → G 0 (w_ent maxL av) [] w) : w_Ct y cc maxL rt fr lo pre post := by
  intro l D ca ad av w hp
  refine Met.ofW (cc := cc) (maxL := maxL) (ret := w_rt rt) hy rfl ?_
  intro p e s m args below meth c s₁ B hml hv
  obtain ⟨rfl, hR, hK, hZ, hJ⟩ := hv
  have hts := atoms_spec (ws := Cond.code y cc maxL (w_rt rt) :: w_TB) B.pre
  have hts2 : ∀ w ∈ w_TB, w.before (av.map (w_cv ad)).toArray s = true := fun w hw => hts w (List.mem_cons_of_mem _ hw)
  have hown : s.vm.findClass own = some m.cls := by rw [← hown]; exact findClass_of_methodNamed B.named
  have X : w_Cx p s m (av.map (w_cv ad)).toArray c D ca ad own maxL := ⟨B.exec, hml, hown, hts2, hK, hZ, hJ⟩
  have S1 := w_snd1 (l := l) (e := e) (R := (headSpec (Cond.code y cc maxL (w_rt rt) :: w_TB) { frames := fr, cells := 0, slots := 0, locals := lo }).room) (below := below) (meth := meth) (rt := rt) (fl := fl) (gs := gs) (kl := kl) (ki := ki) (cs := cs) (P := post av w) (nc := 0) (ns := 0) B.bytes X B.notSynchronized (fun _ => ⟨B.returns, rfl, rfl, rfl⟩) (Nat.zero_le _) (Nat.zero_le _) hfl hgs hkl hki (fun q hq => by
    obtain ⟨fr', lo', h1, h2, h3⟩ := hcs q hq
    exact ⟨fr', lo', h1, h2, h3⟩)
  have := h av w hp _ (wS_of S1) s.heap [] _ hR va_S.rf (w_ent_LH (hlen av w hp))
  rw [lg_entry_eq]
  exact this
section WCALL
variable {p : Program} {l : Launch} {e : Env} {R : Room} {s : State} {m : MethodId} {args : Array Value} {below : List Frame} {meth : Method} {c : Code} {Q : State → Prop}
theorem w_back {D : va_G} {ca : Nat → ClassId} {ad : Nat → Nat} {rt nc ns : Nat} {P : Int → wW → Prop} {H : Heap} {locs : List Loc} {pc : Nat} {ls : Array Slot} {st0 : List Value} {rest : List wV} {a : Array Value}
    (hr : va_Run p l e R s m args below meth c H locs nc ns 0 0 (F0 m pc ls st0) (rest.map (w_cv ad)) (w_Qc rt D ca ad P a) (w_A ad)) (hS : va_S (w_A ad) s.heap H locs)
    (kk : ∀ (r : Int) (w' : wW) (H1 : Heap) (locs1 : List Loc), w_R D ca ad w' H1 → va_S (w_A ad) s.heap H1 locs1 → P r w' → W p l e R s m args below meth c H1 locs1 nc ns Q (F0 m (pc + 3) ls ((w_psh rt r rest).map (w_cv ad)))) : W p l e R s m args below meth c H locs nc ns Q (F0 m pc ls st0) := by
  match rt, hr, kk with
  | 0, hr, kk =>
    refine va_callv (a := a) hr hS (fun q _ h => h) (fun q h => h) (fun u t H1 locs1 ht _ hp hB _ _ hS1 => ?_)
    rw [ht] at hB
    exact kk 0 u H1 locs1 hB hS1 hp
  | 2, hr, kk =>
    refine va_calll (a := a) hr hS (fun q _ h => h) (fun q h => h) (fun r u t H1 locs1 ht _ hp hB _ _ hS1 => ?_)
    obtain ⟨rfl, hp⟩ := hp
    rw [ht] at hB
    exact kk u.1 u.2 H1 locs1 hB hS1 hp
  | 1, hr, kk =>
    refine va_calli (a := a) hr hS (fun q _ h => h) (fun q h => h) (fun r u t H1 locs1 ht _ hp hB _ _ hS1 => ?_)
    obtain ⟨rfl, hp⟩ := hp
    rw [ht] at hB
    exact kk u.1 u.2 H1 locs1 hB hS1 hp
  | n + 3, hr, kk =>
    refine va_calli (a := a) hr hS (fun q _ h => h) (fun q h => h) (fun r u t H1 locs1 ht _ hp hB _ _ hS1 => ?_)
    obtain ⟨rfl, hp⟩ := hp
    rw [ht] at hB
    exact kk u.1 u.2 H1 locs1 hB hS1 hp
theorem w_PcU {D : va_G} {ca : Nat → ClassId} {ad : Nat → Nat} {own : String} {nL : Nat} {w : wW} {H : Heap} {locs : List Loc} (X : w_Cx p s m args c D ca ad own nL) (hR : w_R D ca ad w H) (hS : va_S (w_A ad) s.heap H locs) (av : List Value) : ∀ U : State, U.heap = H → s.WarmedH U.vm → va_Pc av (w_Pre D ca ad w) av.toArray U := by
  intro U hU hW
  obtain ⟨-, -, -, -, hK, hZ, hJ⟩ := X
  refine ⟨rfl, by rw [hU]; exact hR, va_K.moved hW.alike hK, ?_, hJ⟩
  rw [hU]
  exact (hZ.kept hS.2.1).moved hW.alike
end WCALL
theorem w_callV {own : String} {idx ci : Nat} {y : MethodName} {cc : ByteArray} {maxL rt fr lo n N : Nat} {C : String} {T : u_T} {pre : List wV → wW → Prop} {post : List wV → wW → Int → wW → Prop} (hM : w_Ct y cc maxL rt fr lo pre post)
    (hcl : vwCl[ci]? = some (C, T, N)) (hy : y.cls = C) (hrec : ∀ av w, pre av w → ∃ a r, av = vr a :: r ∧ w_kd a = 100 + ci)
    (h1 : Cond.methodLink own idx y ∈ w_TB) (h2 : Cond.instanceMethod y ∈ w_TB) (h3 : Cond.selects C y y ∈ w_TB) (h4 : Cond.initialized y.cls ∈ w_TB) (h5 : Cond.code y cc maxL (w_rt rt) ∈ w_TB)
    (hd : y.cls ≠ "java/lang/invoke/MethodHandle" ∧ y.cls ≠ "java/lang/invoke/VarHandle" ∧ (parseMethodDescriptor y.desc).map (fun d => d.parameters.length) = some n) :
    w_COK own idx (0, n + 1, rt, pre, post) fr (8 + (maxL + 11) + lo) := by
  intro p l e R s m args below meth c Q D ca ad nL nc ns X hnc hns hfr hlo pc L st w H locs ls hdg hR hS hL hn hcat hpre kk
  obtain ⟨hx, hml, hown, hts, hK, hZ, hJ⟩ := id X
  obtain ⟨a, As, hav, hkd⟩ := hrec _ _ hpre
  have hk := w_kd_lt hkd (Or.inr (Nat.le_add_right 100 _))
  have hst : st = As.reverse ++ vr a :: st.drop (n + 1) := by
    have e := congrArg List.reverse hav
    rw [List.reverse_reverse] at e
    conv => lhs; rw [← List.take_append_drop (n + 1) st]
    have e : st.take (n + 1) = As.reverse ++ [vr a] := by simpa using e
    rw [e]
    simp
  have hAs : As.length = n := by
    have e := congrArg List.length hav
    have hn : n + 1 ≤ st.length := hn
    simp at e
    omega
  have hall : ∀ w ∈ (Cond.code y cc maxL (w_rt rt) :: w_TB), ∀ (a' : Array Value) (U : State), s.WarmedH U.vm → w.before a' U = true := by
    intro w hw a' U hW
    rcases List.mem_cons.mp hw with rfl | hw
    · exact w_keep hts _ h5 a' U hW
    · exact w_keep hts _ hw a' U hW
  have hrcv := va_recv hK hR hcl ((w_ws_get hk).trans (by rw [w_obj hkd]))
  rw [hav] at hpre
  refine w_back (rest := st.drop (n + 1)) (va_runV (C := C) (b := ad a) (As := As.map (w_cv ad)) (rest := (st.drop (n + 1)).map (w_cv ad)) (mc := 0) (ms := 0) (n := n) ⟨hx, rfl, hml, hown, hts⟩ (hM l D ca ad (vr a :: As) w hpre)
    ⟨⟨rfl, rfl, hfr, hlo, hall, List.mem_cons_self, hts _ h5, hts _ h4, ⟨hd.1, hd.2.1⟩, fun sig h => ?_, hts _ h1⟩, hts _ h2, hts _ h3⟩
    ⟨w_Pre_blind, hrcv, w_PcU X hR hS _⟩ rfl (by rw [List.length_map]; exact hAs) hL.2.1 ?_ ?_ hdg ⟨hnc, hns⟩) hS (fun r w' H1 locs1 q1 q2 q3 => kk r w' H1 locs1 q1 q2 (by rw [hav]; exact q3))
  · have h2 := hd.2.2
    rw [h] at h2
    exact (Option.some.inj h2).symm
  · show st.map (w_cv ad) = _
    conv => lhs; rw [hst]
    simp [w_cv]
  · exact lv_room (by rw [w_cats_cv]; exact hcat)
theorem w_callS {own : String} {idx : Nat} {y : MethodName} {cc : ByteArray} {maxL rt fr lo n : Nat} {pre : List wV → wW → Prop} {post : List wV → wW → Int → wW → Prop} (hM : w_Ct y cc maxL rt fr lo pre post)
    (h1 : Cond.methodLink own idx y ∈ w_TB) (h2 : Cond.static y ∈ w_TB) (h4 : Cond.initialized y.cls ∈ w_TB) (h5 : Cond.code y cc maxL (w_rt rt) ∈ w_TB)
    (hd : y.cls ≠ "java/lang/invoke/MethodHandle" ∧ y.cls ≠ "java/lang/invoke/VarHandle" ∧ (parseMethodDescriptor y.desc).map (fun d => d.parameters.length) = some n) :
    w_COK own idx (1, n, rt, pre, post) fr (8 + (maxL + 11) + lo) := by
  intro p l e R s m args below meth c Q D ca ad nL nc ns X hnc hns hfr hlo pc L st w H locs ls hdg hR hS hL hn hcat hpre kk
  obtain ⟨hx, hml, hown, hts, hK, hZ, hJ⟩ := id X
  have hall : ∀ w ∈ (Cond.code y cc maxL (w_rt rt) :: w_TB), ∀ (a' : Array Value) (U : State), s.WarmedH U.vm → w.before a' U = true := by
    intro w hw a' U hW
    rcases List.mem_cons.mp hw with rfl | hw
    · exact w_keep hts _ h5 a' U hW
    · exact w_keep hts _ hw a' U hW
  have hn : n ≤ st.length := hn
  refine w_back (rest := st.drop n) (va_runS (As := ((st.take n).reverse).map (w_cv ad)) (rest := (st.drop n).map (w_cv ad)) (mc := 0) (ms := 0) (n := n) ⟨hx, rfl, hml, hown, hts⟩ (hM l D ca ad _ w hpre)
    ⟨⟨rfl, rfl, hfr, hlo, hall, List.mem_cons_self, hts _ h5, hts _ h4, ⟨hd.1, hd.2.1⟩, fun sig h => ?_, hts _ h1⟩, hts _ h2⟩
    ⟨w_Pre_blind, w_PcU X hR hS _⟩ rfl (by simp; omega) hL.2.1 ?_ ?_ hdg ⟨hnc, hns⟩) hS kk
  · have h2 := hd.2.2
    rw [h] at h2
    exact (Option.some.inj h2).symm
  · show st.map (w_cv ad) = _
    rw [← List.map_reverse, List.reverse_reverse, ← List.map_append, List.take_append_drop]
  · exact lv_room (by rw [w_cats_cv]; exact hcat)
theorem w_callSN {own host : String} {idx : Nat} {y : MethodName} {cc : ByteArray} {maxL rt fr lo n : Nat} {pre : List wV → wW → Prop} {post : List wV → wW → Int → wW → Prop} (hM : w_Ct y cc maxL rt fr lo pre post)
    (h1 : Cond.methodLinkNest own idx y host ∈ w_TB) (h2 : Cond.static y ∈ w_TB) (h4 : Cond.initialized y.cls ∈ w_TB) (h5 : Cond.code y cc maxL (w_rt rt) ∈ w_TB)
    (hd : y.cls ≠ "java/lang/invoke/MethodHandle" ∧ y.cls ≠ "java/lang/invoke/VarHandle" ∧ (parseMethodDescriptor y.desc).map (fun d => d.parameters.length) = some n) :
    w_COK own idx (1, n, rt, pre, post) fr (8 + (maxL + 11) + lo) := by
  intro p l e R s m args below meth c Q D ca ad nL nc ns X hnc hns hfr hlo pc L st w H locs ls hdg hR hS hL hn hcat hpre kk
  obtain ⟨hx, hml, hown, hts, hK, hZ, hJ⟩ := id X
  have hall : ∀ w ∈ (Cond.code y cc maxL (w_rt rt) :: w_TB), ∀ (a' : Array Value) (U : State), s.WarmedH U.vm → w.before a' U = true := by
    intro w hw a' U hW
    rcases List.mem_cons.mp hw with rfl | hw
    · exact w_keep hts _ h5 a' U hW
    · exact w_keep hts _ hw a' U hW
  have hn : n ≤ st.length := hn
  refine w_back (rest := st.drop n) (va_runSN (As := ((st.take n).reverse).map (w_cv ad)) (rest := (st.drop n).map (w_cv ad)) (mc := 0) (ms := 0) (n := n) ⟨hx, rfl, hml, hown, hts⟩ (hM l D ca ad _ w hpre)
    ⟨⟨⟨rfl, rfl, hfr, hlo, hall, List.mem_cons_self⟩, hts _ h5, hts _ h4, ⟨hd.1, hd.2.1⟩, fun sig h => ?_, hts _ h1⟩, hts _ h2, trivial⟩
    ⟨w_Pre_blind, w_PcU X hR hS _⟩ rfl (by simp; omega) hL.2.1 ?_ ?_ hdg ⟨hnc, hns⟩) hS kk
  · have h2 := hd.2.2
    rw [h] at h2
    exact (Option.some.inj h2).symm
  · show st.map (w_cv ad) = _
    rw [← List.map_reverse, List.reverse_reverse, ← List.map_append, List.take_append_drop]
  · exact lv_room (by rw [w_cats_cv]; exact hcat)

def w_preMM : List wV → wW → Prop := fun av _ => match av with
  | [.inl x, .inl y] => inI x ∧ inI y
  | _ => False
def w_postMin : List wV → wW → Int → wW → Prop := fun av w r w' => match av with
  | [.inl x, .inl y] => r = (if y < x then y else x) ∧ w' = w
  | _ => False
def w_postMax : List wV → wW → Int → wW → Prop := fun av w r w' => match av with
  | [.inl x, .inl y] => r = (if x < y then y else x) ∧ w' = w
  | _ => False
def w_cpy (w : wW) (a sp b dp n : Nat) : wW := fun k i => if k = b ∧ dp ≤ i ∧ i < dp + n then w a (sp + (i - dp)) else w k i
def w_preCp : List wV → wW → Prop := fun av _ => match av with
  | [.inr (.inr (some a)), .inl sp, .inr (.inr (some b)), .inl dp, .inl n] => (w_kd a = 0 ∧ w_kd b = 0) ∧ (0 ≤ sp ∧ 0 ≤ dp ∧ 0 ≤ n) ∧ sp + n ≤ w_ln a ∧ dp + n ≤ w_ln b
  | _ => False
def w_postCp : List wV → wW → Int → wW → Prop := fun av w _ w' => match av with
  | [.inr (.inr (some a)), .inl sp, .inr (.inr (some b)), .inl dp, .inl n] => w' = w_cpy w a sp.toNat b dp.toNat n.toNat
  | _ => False
theorem w_callMin {own : String} {idx : Nat} (h1 : Cond.methodLink own idx Lib.Math.min.name ∈ w_TB) (h2 : Cond.static Lib.Math.min.name ∈ w_TB) (h3 : Cond.initialized "java/lang/Math" ∈ w_TB) (h4 : Cond.code Lib.Math.min.name Lib.Math.min.code 2 (some .int) ∈ w_TB) : w_COK own idx (1, 2, 1, w_preMM, w_postMin) 0 21 := by
  intro p l e R s m args below meth c Q D ca ad nL nc ns X hnc hns hfr hlo pc L st w H locs ls hdg hR hS hL hn hcat hpre kk
  obtain ⟨hx, hml, hown, hts, hK, hZ, hJ⟩ := id X
  match st, hn, hcat, hpre, kk with
  | [], hn, _, _, _ => simp at hn
  | [_], hn, _, _, _ => simp at hn
  | y :: x :: rest, hn, hcat, hpre, kk =>
    match x, y, hpre, kk with
    | .inl x, .inl y, hpre, kk =>
      have hp : inI x ∧ inI y := hpre
      have hcat : w_cats rest ≤ 8 := hcat
      refine va_mmin hx rfl (hml.trans hL.2.1.symm) hown (hts _ h1) (hts _ h2) (hts _ h3) (hts _ h4) hfr (by show ((rest.map (w_cv ad)).map fun v => v.category).sum + 13 ≤ _; rw [w_cats_cv]; have hlo : 21 ≤ R.locals := hlo; omega) hnc hns hdg ?_
      have h := kk (if y < x then y else x) w H locs hR hS ⟨rfl, rfl⟩
      have e : (if Int32.ofInt y < Int32.ofInt x then Int32.ofInt y else Int32.ofInt x) = Int32.ofInt (if y < x then y else x) := by
        simp only [w_lt hp.2 hp.1]
        split <;> rfl
      rw [e]
      exact h
    | .inl _, .inr _, hpre, _ => exact hpre.elim
    | .inr _, _, hpre, _ => exact hpre.elim
theorem w_callMax {own : String} {idx : Nat} (h1 : Cond.methodLink own idx Lib.Math.max.name ∈ w_TB) (h2 : Cond.static Lib.Math.max.name ∈ w_TB) (h3 : Cond.initialized "java/lang/Math" ∈ w_TB) (h4 : Cond.code Lib.Math.max.name Lib.Math.max.code 2 (some .int) ∈ w_TB) : w_COK own idx (1, 2, 1, w_preMM, w_postMax) 0 21 := by
  intro p l e R s m args below meth c Q D ca ad nL nc ns X hnc hns hfr hlo pc L st w H locs ls hdg hR hS hL hn hcat hpre kk
  obtain ⟨hx, hml, hown, hts, hK, hZ, hJ⟩ := id X
  match st, hn, hcat, hpre, kk with
  | [], hn, _, _, _ => simp at hn
  | [_], hn, _, _, _ => simp at hn
  | y :: x :: rest, hn, hcat, hpre, kk =>
    match x, y, hpre, kk with
    | .inl x, .inl y, hpre, kk =>
      have hp : inI x ∧ inI y := hpre
      have hcat : w_cats rest ≤ 8 := hcat
      refine va_mmax hx rfl (hml.trans hL.2.1.symm) hown (hts _ h1) (hts _ h2) (hts _ h3) (hts _ h4) hfr (by show ((rest.map (w_cv ad)).map fun v => v.category).sum + 13 ≤ _; rw [w_cats_cv]; have hlo : 21 ≤ R.locals := hlo; omega) hnc hns hdg ?_
      have h := kk (if x < y then y else x) w H locs hR hS ⟨rfl, rfl⟩
      have e : (if Int32.ofInt x < Int32.ofInt y then Int32.ofInt y else Int32.ofInt x) = Int32.ofInt (if x < y then y else x) := by
        simp only [w_lt hp.1 hp.2]
        split <;> rfl
      rw [e]
      exact h
    | .inl _, .inr _, hpre, _ => exact hpre.elim
    | .inr _, _, hpre, _ => exact hpre.elim
theorem w_setcp {ca : Nat → ClassId} {ad : Nat → Nat} {w : wW} {a b sp dp n : Nat} (hb : w_kd b = 0) : (w_ws ca ad w).set b (ad b, .inl (ca 0, w_ln b, .inl (va_cpy (fun i => Int32.ofInt (w a i)) (fun i => Int32.ofInt (w b i)) sp dp n))) = w_ws ca ad (w_cpy w a sp b dp n) := by
  refine w_ws_set ?_ (fun j hj => w_ce_cong (fun i => by simp [w_cpy, hj]))
  rw [w_arr0 hb]
  congr 3
  refine congrArg Sum.inl ?_
  funext j
  unfold va_cpy w_cpy
  by_cases e : dp ≤ j ∧ j < dp + n
  · rw [if_pos e, if_pos ⟨rfl, e⟩]
  · rw [if_neg e, if_neg (fun q => e q.2)]
theorem w_callCp {own : String} {idx : Nat} (h1 : Cond.methodLink own idx arraycopyName ∈ w_TB) (h2 : Cond.static arraycopyName ∈ w_TB) (h3 : Cond.initialized "java/lang/System" ∈ w_TB) (h4 : Cond.native arraycopyName ∈ w_TB) : w_COK own idx (1, 5, 0, w_preCp, w_postCp) 0 (8 + (nativeFrameWords "java/lang/System" "arraycopy" 5 + 11)) := by
  intro p l e R s m args below meth c Q D ca ad nL nc ns X hnc hns hfr hlo pc L st w H locs ls hdg hR hS hL hn hcat hpre kk
  obtain ⟨hx, hml, hown, hts, hK, hZ, hJ⟩ := id X
  match st, hn, hcat, hpre, kk with
  | [], hn, _, _, _ => simp at hn
  | [_], hn, _, _, _ => simp at hn
  | [_, _], hn, _, _, _ => simp at hn
  | [_, _, _], hn, _, _, _ => simp at hn
  | [_, _, _, _], hn, _, _, _ => simp at hn
  | v5 :: v4 :: v3 :: v2 :: v1 :: rest, hn, hcat, hpre, kk =>
    match v1, v2, v3, v4, v5, hpre, kk with
    | .inr (.inr (some a)), .inl sp, .inr (.inr (some b)), .inl dp, .inl n, hpre, kk =>
      obtain ⟨⟨ka, kb⟩, ⟨g1, g2, g3⟩, g4, g5⟩ := (show (w_kd a = 0 ∧ w_kd b = 0) ∧ (0 ≤ sp ∧ 0 ≤ dp ∧ 0 ≤ n) ∧ sp + n ≤ w_ln a ∧ dp + n ≤ w_ln b from hpre)
      have hcat : w_cats rest ≤ 8 := hcat
      have la := w_ln_le a
      have lb := w_ln_le b
      have neg : ∀ z : Int, 0 ≤ z → z ≤ 4824 → ¬ Int32.ofInt z < 0 ∧ (Int32.ofInt z).toNatClampNeg = z.toNat := fun z h0 h1 => by
        have hz : inI z := ⟨by omega, by omega⟩
        refine ⟨?_, by show (Int32.ofInt z).toInt.toNat = _; rw [w_i32 hz]⟩
        rw [w_zero, w_lt hz w_i0]
        omega
      obtain ⟨s1, s2⟩ := neg sp g1 (by omega)
      obtain ⟨d1, d2⟩ := neg dp g2 (by omega)
      obtain ⟨n1, n2⟩ := neg n g3 (by omega)
      have lta := w_kd_lt ka (Or.inl (by decide))
      have ltb := w_kd_lt kb (Or.inl (by decide))
      refine va_copyi hx rfl (hml.trans hL.2.1.symm) hown (hts _ h1) (hts _ h4) (hts _ h2) (hts _ h3) hK hR (w_D hJ) hS a b 0 0 ((w_ws_get lta).trans (by rw [w_arr0 ka])) ((w_ws_get ltb).trans (by rw [w_arr0 kb])) rfl rfl rfl s1 d1 n1 (by rw [s2, n2]; omega) (by rw [d2, n2]; omega) (fun i _ => rfl) hfr
        (by show ((rest.map (w_cv ad)).map fun v => v.category).sum + _ ≤ _; rw [w_cats_cv]; have hlo : 8 + (nativeFrameWords "java/lang/System" "arraycopy" 5 + 11) ≤ R.locals := hlo; omega) hdg (fun H1 locs1 q1 q2 q3 => ?_)
      rw [s2, d2, n2, w_setcp kb] at q1
      exact kk 0 _ H1 locs1 q1 q3 rfl
