def w_rt (n : Nat) : Option FieldType := match n with
  | 0 => none
  | 1 => some .int
  | 2 => some .long
  | _ => some .boolean
def w_Qc (rt : Nat) (D : va_G) (ca : Nat → ClassId) (ad : Nat → Nat) (P : Int → wW → Prop) : Array Value → State → Outcome → State → Prop := match rt with
  | 0 => va_Qv (S := wW) (fun w => P 0 w) (fun w t => w_R D ca ad w t.heap) (w_A ad)
  | 2 => va_Ql (S := Int × wW) (fun r u => r = Int64.ofInt u.1 ∧ P u.1 u.2) (fun u t => w_R D ca ad u.2 t.heap) (w_A ad)
  | _ => va_Qi (S := Int × wW) (fun r u => r = Int32.ofInt u.1 ∧ P u.1 u.2) (fun u t => w_R D ca ad u.2 t.heap) (w_A ad)
section WSND
variable {p : Program} {l : Launch} {e : Env} {R : Room} {s : State} {m : MethodId} {args : Array Value} {below : List Frame} {meth : Method} {c : Code} {Q : State → Prop}
/-- what stays true all through a method's run -/
def w_Cx (p : Program) (s : State) (m : MethodId) (args : Array Value) (c : Code) (D : va_G) (ca : Nat → ClassId) (ad : Nat → Nat) (own : String) (nL : Nat) : Prop :=
  p.tables.exec = Jvm.exec ∧ c.maxLocals = nL ∧ s.vm.findClass own = some m.cls ∧ (∀ w ∈ w_TB, w.before args s = true) ∧ va_K D vwCl (w_tys ca) s ∧ w_Sta ad s s.heap ∧ w_J ad
def w_G (p : Program) (l : Launch) (e : Env) (R : Room) (s : State) (m : MethodId) (args : Array Value) (below : List Frame) (meth : Method) (c : Code) (Q : State → Prop) (D : va_G) (ca : Nat → ClassId) (ad : Nat → Nat) (nL nc ns : Nat) : wK := fun pc L st w =>
  ∀ (H : Heap) (locs : List Loc) (ls : Array Slot), w_R D ca ad w H → va_S (w_A ad) s.heap H locs → w_LH ad nL L ls → W p l e R s m args below meth c H locs nc ns Q (F0 m pc ls (st.map (w_cv ad)))
/-- a call, paid for -/
def w_COK (own : String) (idx : Nat) (q : wE) (fr lo : Nat) : Prop :=
  ∀ (p : Program) (l : Launch) (e : Env) (R : Room) (s : State) (m : MethodId) (args : Array Value) (below : List Frame) (meth : Method) (c : Code) (Q : State → Prop) (D : va_G) (ca : Nat → ClassId) (ad : Nat → Nat) (nL nc ns : Nat), w_Cx p s m args c D ca ad own nL → nc ≤ R.cells → ns ≤ R.slots → fr + 1 ≤ R.frames → lo ≤ R.locals →
    ∀ (pc : Nat) (L : wL) (st : List wV) (w : wW) (H : Heap) (locs : List Loc) (ls : Array Slot), decode c.code pc = .ok (if q.1 = 0 then .invokevirtual idx else .invokestatic idx, 3) → w_R D ca ad w H → va_S (w_A ad) s.heap H locs → w_LH ad nL L ls →
      q.2.1 ≤ st.length → w_cats (st.drop q.2.1) ≤ 8 → q.2.2.2.1 (st.take q.2.1).reverse w →
      (∀ (r : Int) (w' : wW) (H1 : Heap) (locs1 : List Loc), w_R D ca ad w' H1 → va_S (w_A ad) s.heap H1 locs1 → q.2.2.2.2 (st.take q.2.1).reverse w r w' → W p l e R s m args below meth c H1 locs1 nc ns Q (F0 m (pc + 3) ls ((w_psh q.2.2.1 r (st.drop q.2.1)).map (w_cv ad)))) →
      W p l e R s m args below meth c H locs nc ns Q (F0 m pc ls (st.map (w_cv ad)))
theorem w_toN {pc : Nat} {off : Int} (h : 0 ≤ (pc : Int) + off) : (pc : Int) + off = ((w_to pc off : Nat) : Int) := (Int.toNat_of_nonneg h).symm
theorem w_obj {ca : Nat → ClassId} {ad : Nat → Nat} {w : wW} {a ci : Nat} (h : w_kd a = 100 + ci) : w_ce ca ad w a = .inr (ci, (List.range (w_ft ci).length).map (fun j => w_cv ad (w_fv w a j ((w_ft ci).getD j 0)))) := by
  unfold w_ce
  rw [h]
  split
  · omega
  · omega
  · omega
  · omega
  · rw [show 100 + ci - 100 = ci by omega]
theorem w_arr0 {ca : Nat → ClassId} {ad : Nat → Nat} {w : wW} {a : Nat} (h : w_kd a = 0) : w_ce ca ad w a = .inl (ca 0, w_ln a, .inl (fun i => Int32.ofInt (w a i))) := by unfold w_ce; rw [h]; rfl
theorem w_arr1 {ca : Nat → ClassId} {ad : Nat → Nat} {w : wW} {a : Nat} (h : w_kd a = 1) : w_ce ca ad w a = .inl (ca 1, w_ln a, .inr (.inl (fun i => Int64.ofInt (w a i)))) := by unfold w_ce; rw [h]; rfl
theorem w_arr2 {ca : Nat → ClassId} {ad : Nat → Nat} {w : wW} {a : Nat} (h : w_kd a = 2) : w_ce ca ad w a = .inl (ca 2, w_ln a, .inr (.inr (.inr (.inr (fun i => some (ad (a + 1 + i))))))) := by unfold w_ce; rw [h]; rfl
theorem w_arr3 {ca : Nat → ClassId} {ad : Nat → Nat} {w : wW} {a : Nat} (h : w_kd a = 3) : w_ce ca ad w a = .inl (ca 3, w_ln a, .inr (.inr (.inr (.inr (fun i => some (ad (a + 1 + i))))))) := by unfold w_ce; rw [h]; rfl
theorem w_set0 {ca : Nat → ClassId} {ad : Nat → Nat} {w : wW} {a i : Nat} {v : Int} (h : w_kd a = 0) : (w_ws ca ad w).set a (ad a, .inl (ca 0, w_ln a, .inl (upd (fun i => Int32.ofInt (w a i)) i (Int32.ofInt v)))) = w_ws ca ad (w_up w a i v) := by
  refine w_ws_set ?_ (fun j hj => w_ce_ne hj)
  rw [w_arr0 h]
  congr 3
  refine congrArg Sum.inl ?_
  funext j
  unfold upd w_up
  by_cases e : j = i
  · simp [e]
  · simp [e]
theorem w_set1 {ca : Nat → ClassId} {ad : Nat → Nat} {w : wW} {a i : Nat} {v : Int} (h : w_kd a = 1) : (w_ws ca ad w).set a (ad a, .inl (ca 1, w_ln a, .inr (.inl (vp_updL (fun i => Int64.ofInt (w a i)) i (Int64.ofInt v))))) = w_ws ca ad (w_up w a i v) := by
  refine w_ws_set ?_ (fun j hj => w_ce_ne hj)
  rw [w_arr1 h]
  congr 3
  refine congrArg Sum.inr (congrArg Sum.inl ?_)
  funext j
  unfold vp_updL w_up
  by_cases e : j = i
  · simp [e]
  · simp [e]
theorem w_seto {ca : Nat → ClassId} {ad : Nat → Nat} {w : wW} {a ci j : Nat} {z : Int} {v : wV} (h : w_kd a = 100 + ci) (hj : j < (w_ft ci).length) (hv : w_fv (w_up w a j z) a j ((w_ft ci).getD j 0) = v) :
    (w_ws ca ad w).set a (ad a, .inr (ci, ((List.range (w_ft ci).length).map (fun j => w_cv ad (w_fv w a j ((w_ft ci).getD j 0)))).set j (w_cv ad v))) = w_ws ca ad (w_up w a j z) := by
  refine w_ws_set ?_ (fun k hk => w_ce_ne hk)
  rw [w_obj h]
  congr 2
  apply List.ext_getElem?
  intro k
  rw [List.getElem?_set, List.getElem?_map, List.getElem?_map]
  by_cases hk : k < (w_ft ci).length
  · rw [List.getElem?_range hk]
    by_cases e : j = k
    · subst e
      simp only [List.length_map, List.length_range, hk, if_true, Option.map_some, hv]
    · rw [if_neg e]
      have ne : ¬ k = j := fun q => e q.symm
      have e2 : ∀ ty, w_fv (w_up w a j z) a k ty = w_fv w a k ty := fun ty => by
        unfold w_fv
        split <;> simp [w_up, ne]
      simp only [Option.map_some, e2]
  · have e : (List.range (w_ft ci).length)[k]? = none := List.getElem?_eq_none (by rw [List.length_range]; omega)
    rw [e]
    by_cases e2 : j = k
    · omega
    · rw [if_neg e2]
      rfl
theorem w_tcI {d : String} (h : w_tc d = 0) : d = "I" := by
  unfold w_tc at h
  split at h
  · assumption
  · split at h
    · omega
    · split at h <;> omega
theorem w_tcJ {d : String} (h : w_tc d = 1) : d = "J" := by
  unfold w_tc at h
  split at h
  · omega
  · split at h
    · assumption
    · split at h <;> omega
theorem w_tcZ {d : String} (h : w_tc d = 3) : d = "Z" := by
  unfold w_tc at h
  split at h
  · omega
  · split at h
    · omega
    · split at h
      · assumption
      · omega
theorem w_bool {z : Int} (h : z = 0 ∨ z = 1) : narrow .boolean (.int (Int32.ofInt z)) = .int (Int32.ofInt z) := by rcases h with rfl | rfl <;> rfl
theorem w_lkm {α : Type} {L : List (Nat × α)} {i : Nat} {x : α} (h : w_lk L i = some x) : (i, x) ∈ L := by
  unfold w_lk at h
  rw [Option.map_eq_some_iff] at h
  obtain ⟨q, h1, rfl⟩ := h
  have h2 := List.find?_some h1
  have h3 := List.mem_of_find?_eq_some h1
  have h4 : q.1 = i := by simpa using h2
  rw [← h4]
  exact h3

theorem w_brS {D : va_G} {ca : Nat → ClassId} {ad : Nat → Nat} {nL nc ns : Nat} {C C' : Prop} {pc : Nat} {off : Int} {L : wL} {st : List wV} {w : wW} {H : Heap} {locs : List Loc} {ls : Array Slot} (hR : w_R D ca ad w H) (hS : va_S (w_A ad) s.heap H locs) (hL : w_LH ad nL L ls) (hC : C' ↔ C)
    (h : w_br C pc off L st w (w_G p l e R s m args below meth c Q D ca ad nL nc ns)) : (C' → W p l e R s m args below meth c H locs nc ns Q (F0 m (w_to pc off) ls (st.map (w_cv ad)))) ∧ (¬ C' → W p l e R s m args below meth c H locs nc ns Q (F0 m (pc + 3) ls (st.map (w_cv ad)))) :=
  ⟨fun q => h.2.1 (hC.mp q) H locs ls hR hS hL, fun q => h.2.2 (fun z => q (hC.mpr z)) H locs ls hR hS hL⟩
theorem w_swS {D : va_G} {ca : Nat → ClassId} {ad : Nat → Nat} {nL nc ns : Nat} {x : Int} {pc : Nat} {L : wL} {st : List wV} {w : wW} : ∀ (os : List Int) (lo : Int), w_sw x pc L st w (w_G p l e R s m args below meth c Q D ca ad nL nc ns) lo os → ∀ (k : Nat) (off : Int), os[k]? = some off → x = lo + (k : Int) → 0 ≤ (pc : Int) + off ∧ w_G p l e R s m args below meth c Q D ca ad nL nc ns (w_to pc off) L st w
  | [], lo, _, k, off, ho, _ => by simp at ho
  | o :: os, lo, h, 0, off, ho, hx => by
    have e : o = off := by simpa using ho
    subst e
    exact h.1 (by omega)
  | o :: os, lo, h, k + 1, off, ho, hx => w_swS os (lo + 1) h.2 k off (by simpa using ho) (by omega)
theorem w_aald {D : va_G} {ca : Nat → ClassId} {H : Heap} {locs : List Loc} {ls : Array Slot} {pc nc ns : Nat} {rest : List Value} {ws : va_W} {a : Nat} {cc : ByteArray} (hexec : p.tables.exec = Jvm.exec) (hb : c.code = cc) (hK : va_K D vwCl (w_tys ca) s) (hP : va_P D vwCl ws H) (q0 t0 : Nat) {cA : ClassId} {ty : FieldType} {n : Nat} {f : Nat → Option Nat} (ha : ws[q0]? = some (a, .inl (cA, n, .inr (.inr (.inr (.inr f)))))) (ht : (w_tys ca)[t0]? = some (cA, ty)) (hty : refKind ty = true) {i : Int32} (hin : vp_in i n) (hdg : decode cc pc = .ok (.aaload, 1))
    (kk : W p l e R s m args below meth c H locs nc ns Q (F0 m (pc + 1) ls (va_rf (f i.toNatClampNeg) :: rest))) : W p l e R s m args below meth c H locs nc ns Q (F0 m pc ls (.int i :: .ref a :: rest)) := by
  have hlt : i.toNatClampNeg < n := Nat.not_le.mp fun q => hin (Or.inr q)
  exact W.aald (v := va_rf (f i.toNatClampNeg)) (ty := ty) hexec hb (hP q0 _ ha) ((hK.2 t0 _ ht).1 n (fun j => va_rf (f j))) hty (fun q => by cases q) (by show ¬ (i < 0 ∨ (arrV _ _ _).slots.size ≤ _); rw [arrV_size]; exact hin) (by show (arrV _ _ _).slots[_]? = _; rw [arrV_read _ _ hlt]) rfl rfl hdg kk
set_option maxHeartbeats 4000000 in
theorem w_snd1 {cc : ByteArray} {rt : Nat} {fl : List (Nat × Nat × Nat × Nat)} {gs : List (Nat × Nat)} {kl ki : List (Nat × Int)} {cs : List (Nat × wE)} {P : Int → wW → Prop} {D : va_G} {ca : Nat → ClassId} {ad : Nat → Nat} {own : String} {nL nc ns : Nat}
    (hb : c.code = cc) (X : w_Cx p s m args c D ca ad own nL) (hlocks : meth.locks = false) (hrq : rt ≤ 3 → meth.sig.returnType = w_rt rt ∧ Q = MQ below (w_Qc rt D ca ad P) args s 0 0 (w_A ad) ∧ nc = 0 ∧ ns = 0) (hnc : nc ≤ R.cells) (hns : ns ≤ R.slots)
    (hfl : ∀ q ∈ fl, w_flok own q) (hgs : ∀ q ∈ gs, w_gsk own q) (hkl : ∀ q ∈ kl, Cond.constantLong own q.1 (Int64.ofInt q.2) ∈ w_TB) (hki : ∀ q ∈ ki, Cond.constant own q.1 (Int32.ofInt q.2) ∈ w_TB)
    (hcs : ∀ q ∈ cs, ∃ fr lo, w_COK own q.1 q.2 fr lo ∧ fr + 1 ≤ R.frames ∧ lo ≤ R.locals) : wS1 (cc, rt, fl, gs, kl, ki, cs, P) (w_G p l e R s m args below meth c Q D ca ad nL nc ns) := by
  obtain ⟨hx, hml, hown, hts, hK, hZ, hJ⟩ := id X
  intro pc i n L st w hd h H locs ls hR hS hL
  have hd : decode cc pc = .ok (i, n) := hd
  unfold w1 at h
  split at h -- here
  · obtain ⟨rfl, h⟩ := h; exact lv_iconst hx hb hd rfl (h _ _ _ hR hS hL)
  · obtain ⟨rfl, h1, h⟩ := h; exact lv_bipush hx hb hd (w_bip _ h1.1 h1.2) (h _ _ _ hR hS hL)
  · obtain ⟨rfl, h1, h⟩ := h; exact lv_sipush hx hb hd (w_sip _ h1.1 h1.2) (h _ _ _ hR hS hL)
  · obtain ⟨rfl, h⟩ := h; exact lv_lconst hx hb hd (w_lc _) (h _ _ _ hR hS hL)
  · split at h
    · rename_i z hz
      obtain ⟨rfl, h⟩ := h
      exact lv_ldc2 hx hb hown (hts _ (hkl _ (w_lkm hz))) hd (h _ _ _ hR hS hL)
    · exact h.elim
  · split at h
    · rename_i z hz
      obtain ⟨rfl, h⟩ := h
      exact lv_ldc hx hb hown (hts _ (hki _ (w_lkm hz))) hd (h _ _ _ hR hS hL)
    · exact h.elim
  · split at h
    · rename_i z hz
      obtain ⟨rfl, h⟩ := h
      exact lv_iload_n hx hb hd rfl (hL.ld hz) (h _ _ _ hR hS hL)
    · exact h.elim
  · split at h
    · rename_i z hz
      obtain ⟨rfl, h⟩ := h
      exact lv_iload hx hb hd (hL.ld hz) (h _ _ _ hR hS hL)
    · exact h.elim
  · split at h
    · rename_i z hz
      obtain ⟨rfl, h⟩ := h
      exact lv_lload_n hx hb hd rfl (hL.ld hz) (h _ _ _ hR hS hL)
    · exact h.elim
  · split at h
    · rename_i z hz
      obtain ⟨rfl, h⟩ := h
      exact lv_lload hx hb hd (hL.ld hz) (h _ _ _ hR hS hL)
    · exact h.elim
  · split at h
    · rename_i z hz
      obtain ⟨rfl, h⟩ := h
      exact lv_aload_n hx hb hd rfl (hL.ld hz) (h _ _ _ hR hS hL)
    · exact h.elim
  · split at h
    · rename_i z hz
      obtain ⟨rfl, h⟩ := h
      exact lv_aload hx hb hd (hL.ld hz) (h _ _ _ hR hS hL)
    · exact h.elim
  · obtain ⟨rfl, h1, h⟩ := h; exact lv_istore_n hx hb hd rfl hL.has (by rw [← hL.1]; exact h1) rfl (fun ls1 g => h _ _ _ hR hS (hL.s1 g))
  · obtain ⟨rfl, h1, h⟩ := h; exact lv_istore hx hb hd hL.has (by rw [← hL.1]; exact h1) rfl (fun ls1 g => h _ _ _ hR hS (hL.s1 g))
  · obtain ⟨rfl, h1, h⟩ := h; exact lv_astore_n hx hb hd rfl hL.has (by rw [← hL.1]; exact h1) rfl (fun ls1 g => h _ _ _ hR hS (hL.s1 g))
  · obtain ⟨rfl, h1, h⟩ := h; exact lv_astore hx hb hd hL.has (by rw [← hL.1]; exact h1) rfl (fun ls1 g => h _ _ _ hR hS (hL.s1 g))
  · obtain ⟨rfl, h1, h⟩ := h; exact lv_lstore_n hx hb hd rfl hL.has (by rw [← hL.1]; exact h1) rfl (fun ls1 g => h _ _ _ hR hS (hL.s2 g))
  · obtain ⟨rfl, h1, h⟩ := h; exact lv_lstore hx hb hd hL.has (by rw [← hL.1]; exact h1) rfl (fun ls1 g => h _ _ _ hR hS (hL.s2 g))
  · split at h
    · rename_i z hz
      obtain ⟨rfl, h⟩ := h
      have hm := w_lv_mem (ad := ad) (L := L) (q := (_, w_cv ad (vi z))) |>.mpr ⟨_, w_ld_some.mp hz, rfl⟩
      obtain ⟨k, hk⟩ := List.getElem?_of_mem hm
      exact lv_iinc (v := Int32.ofInt (z + _)) hx hb hd hL.has hk (by rw [w_add]) (by rw [← hL.1]; exact (List.getElem?_eq_some_iff.mp (w_ld_some.mp hz)).1) rfl (fun ls1 g => h _ _ _ hR hS (hL.s1 g))
    · exact h.elim
  · obtain ⟨rfl, h⟩ := h; refine lv_iadd hx hb hd ?_; rw [← w_add]; exact h _ _ _ hR hS hL
  · obtain ⟨rfl, h⟩ := h; refine lv_isub hx hb hd ?_; rw [← w_sub]; exact h _ _ _ hR hS hL
  · obtain ⟨rfl, h⟩ := h; refine lv_imul hx hb hd ?_; rw [← w_mul]; exact h _ _ _ hR hS hL
  · obtain ⟨rfl, ⟨h1, h2, h3⟩, h⟩ := h
    refine lv_idiv hx hb hd (fun q => h3 ((w_eq h2 w_i0).mp q)) ?_
    rw [← w_div h1 h2]
    exact h _ _ _ hR hS hL
  · obtain ⟨rfl, ⟨h1, h2, h3⟩, h⟩ := h
    refine lv_irem hx hb hd (fun q => h3 ((w_eq h2 w_i0).mp q)) ?_
    rw [← w_mod h1 h2]
    exact h _ _ _ hR hS hL
  · obtain ⟨rfl, h⟩ := h
    refine lv_iand hx hb hd ?_
    have h := h _ _ _ hR hS hL
    simp only [List.map_cons, w_cv, w_and, w_ofI] at h
    exact h
  · obtain ⟨rfl, h⟩ := h
    refine lv_ior hx hb hd ?_
    have h := h _ _ _ hR hS hL
    simp only [List.map_cons, w_cv, w_or, w_ofI] at h
    exact h
  · obtain ⟨rfl, h⟩ := h
    refine lv_ishl hx hb hd ?_
    have h := h _ _ _ hR hS hL
    simp only [List.map_cons, w_cv, w_shl, w_ofI] at h
    exact h
  · obtain ⟨rfl, h⟩ := h
    refine lv_ishr hx hb hd ?_
    have h := h _ _ _ hR hS hL
    simp only [List.map_cons, w_cv, w_shr, w_ofI] at h
    exact h
  · obtain ⟨rfl, h⟩ := h; refine lv_ladd hx hb hd ?_; rw [← w_ladd]; exact h _ _ _ hR hS hL
  · obtain ⟨rfl, h⟩ := h; refine lv_lsub hx hb hd ?_; rw [← w_lsub]; exact h _ _ _ hR hS hL
  · obtain ⟨rfl, h⟩ := h; refine lv_lmul hx hb hd ?_; rw [← w_lmul]; exact h _ _ _ hR hS hL
  · obtain ⟨rfl, ⟨h1, h2, h3⟩, h⟩ := h
    refine lv_ldiv hx hb hd (fun q => h3 ((w_leq h2 ⟨by decide, by decide⟩).mp q)) ?_
    rw [← w_ldiv h1 h2]
    exact h _ _ _ hR hS hL
  · obtain ⟨rfl, ⟨h1, h2, h3⟩, h⟩ := h
    refine lv_lrem hx hb hd (fun q => h3 ((w_leq h2 ⟨by decide, by decide⟩).mp q)) ?_
    rw [← w_lmod h1 h2]
    exact h _ _ _ hR hS hL
  · obtain ⟨rfl, h⟩ := h
    refine lv_land hx hb hd ?_
    have h := h _ _ _ hR hS hL
    simp only [List.map_cons, w_cv, w_landl, w_ofL] at h
    exact h
  · obtain ⟨rfl, h⟩ := h
    refine lv_lor hx hb hd ?_
    have h := h _ _ _ hR hS hL
    simp only [List.map_cons, w_cv, w_lor, w_ofL] at h
    exact h
  · obtain ⟨rfl, h⟩ := h; exact lv_lushr hx hb hd (w_ofL _).symm (h _ _ _ hR hS hL)
  · obtain ⟨rfl, h⟩ := h; exact lv_lshl hx hb hd (w_ofL _).symm (h _ _ _ hR hS hL)
  · obtain ⟨rfl, ⟨h1, h2⟩, h⟩ := h; refine W.lcmp hx hb hd ?_; rw [w_cmp_cmp h1 h2]; exact h _ _ _ hR hS hL
  · obtain ⟨rfl, h1, h⟩ := h; exact lv_i2l hx hb hd (w_i2l h1) (h _ _ _ hR hS hL)
  · obtain ⟨rfl, h⟩ := h; exact lv_l2i hx hb hd (w_l2i _) (h _ _ _ hR hS hL)
  · obtain ⟨rfl, h1, h⟩ := h; exact lv_dup hx hb hd ((w_cat_cv ad _).trans h1) (h _ _ _ hR hS hL)
  · obtain ⟨rfl, h⟩ := h; exact lv_dup2_2 hx hb hd rfl (h _ _ _ hR hS hL)
  · obtain ⟨rfl, h1, h⟩ := h; exact lv_dup2_11 hx hb hd ((w_cat_cv ad _).trans h1.1) ((w_cat_cv ad _).trans h1.2) (h _ _ _ hR hS hL)
  · obtain ⟨rfl, h1, h⟩ := h; exact lv_pop hx hb hd ((w_cat_cv ad _).trans h1) (h _ _ _ hR hS hL)
  · obtain ⟨rfl, h⟩ := h; exact lv_pop2_2 hx hb hd rfl (h _ _ _ hR hS hL)
  · obtain ⟨rfl, h1, h⟩ := h
    rename_i o off x st _
    cases o
    · have k := w_brS hR hS hL (w_eq h1 w_i0) h
      exact lv_if_eq hx hb hd (w_toN h.1) k.1 k.2
    · have k := w_brS hR hS hL (not_congr (w_eq h1 w_i0)) h
      exact lv_if_ne hx hb hd (w_toN h.1) k.1 (fun q => k.2 (fun z => z q))
    · have k := w_brS hR hS hL (w_lt h1 w_i0) h
      exact lv_if_lt hx hb hd (w_toN h.1) k.1 k.2
    · have k := w_brS hR hS hL (w_le w_i0 h1) h
      exact lv_if_ge hx hb hd (w_toN h.1) k.1 k.2
    · have k := w_brS hR hS hL (w_lt w_i0 h1) h
      exact lv_if_gt hx hb hd (w_toN h.1) k.1 k.2
    · have k := w_brS hR hS hL (w_le h1 w_i0) h
      exact lv_if_le hx hb hd (w_toN h.1) k.1 k.2
  · obtain ⟨rfl, h1, h⟩ := h
    rename_i o off y x st _
    cases o
    · have k := w_brS hR hS hL (w_eq h1.1 h1.2) h
      exact lv_icmp_eq hx hb hd (w_toN h.1) k.1 k.2
    · have k := w_brS hR hS hL (not_congr (w_eq h1.1 h1.2)) h
      exact lv_icmp_ne hx hb hd (w_toN h.1) k.1 (fun q => k.2 (fun z => z q))
    · have k := w_brS hR hS hL (w_lt h1.1 h1.2) h
      exact lv_icmp_lt hx hb hd (w_toN h.1) k.1 k.2
    · have k := w_brS hR hS hL (w_le h1.2 h1.1) h
      exact lv_icmp_ge hx hb hd (w_toN h.1) k.1 k.2
    · have k := w_brS hR hS hL (w_lt h1.2 h1.1) h
      exact lv_icmp_gt hx hb hd (w_toN h.1) k.1 k.2
    · have k := w_brS hR hS hL (w_le h1.1 h1.2) h
      exact lv_icmp_le hx hb hd (w_toN h.1) k.1 k.2
  · obtain ⟨rfl, h1, h⟩ := h; exact lv_goto hx hb hd (w_toN h1) (h _ _ _ hR hS hL)
  · obtain ⟨h1, h2, h3⟩ := h
    rename_i dd lo hi offs x st _
    by_cases q : x < lo ∨ hi < x
    · obtain ⟨g1, g2⟩ := h2 q
      exact lv_tableOut hx hb hd (by rw [w_i32 h1.1]; exact q) (w_toN g1) (g2 _ _ _ hR hS hL)
    · have hlen := h1.2
      have hi' : (x - lo).toNat < offs.toList.length := by omega
      have ho : offs.toList[(x - lo).toNat]? = some (offs.toList[(x - lo).toNat]'hi') := List.getElem?_eq_getElem hi'
      obtain ⟨g1, g2⟩ := w_swS offs.toList lo h3 (x - lo).toNat _ ho (by omega)
      exact lv_tableIn hx hb hd (by rw [w_i32 h1.1]; omega) (by rw [w_i32 h1.1]; omega) (by rw [w_i32 h1.1, ← Array.getElem?_toList]; exact ho) (w_toN g1) (g2 _ _ _ hR hS hL)
  · split at h
    · rename_i q hq
      obtain ⟨rfl, h1, h⟩ := h
      obtain ⟨Cn, T, N, g1, g2, g3, g4, g5, g6⟩ := hfl _ (w_lkm hq)
      obtain ⟨k1, ⟨ty0, k2⟩, k3, k4, k5⟩ := w_clok _ _ _ _ g1
      have hk := w_kd_lt h1 (Or.inr (Nat.le_add_right 100 _))
      exact va_get hx hb hts k1 hown hK hR _ ((w_ws_get hk).trans (by rw [w_obj h1])) g1 q.2.1 g2 (hts _ g6) (by rw [g3]; exact fun _ z => z) (by rw [List.getElem?_map, List.getElem?_range (by rw [k4]; exact g2), Option.map_some, k5 _ g2, g4]) hd (h _ _ _ hR hS hL)
    · exact h.elim
  · split at h
    · rename_i q hq
      obtain ⟨rfl, h1, h9, h⟩ := h
      obtain ⟨Cn, T, N, g1, g2, g3, g4, g5, g6⟩ := hfl _ (w_lkm hq)
      obtain ⟨k1, ⟨ty0, k2⟩, k3, k4, k5⟩ := w_clok _ _ _ _ g1
      have hk := w_kd_lt h1 (Or.inr (Nat.le_add_right 100 _))
      have hlen : q.2.1 < (w_ft q.1).length := by rw [k4]; exact g2
      have hll : ∀ a0 : Nat, q.2.1 < ((List.range (w_ft q.1).length).map (fun j => w_cv ad (w_fv w a0 j ((w_ft q.1).getD j 0)))).length := fun a0 => by rw [List.length_map, List.length_range]; exact hlen
      have g4 : w_tc (T q.2.1).2.2.1 = q.2.2 := g4
      have g5 : q.2.2 ≠ 2 → (T q.2.1).2.2.2 = false := g5
      have k5 : ∀ j, j < N → (w_ft q.1).getD j 0 = w_tc (T j).2.2.1 := k5
      rcases h9 with h9 | ⟨h9, hz⟩
      · have hd2 := w_tcI (g4.trans h9)
        refine va_put (ty := .int) hx hb hts k1 ty0 k2 k3 hown hK hR (w_D hJ) hS _ ((w_ws_get hk).trans (by rw [w_obj h1])) g1 q.2.1 g2 (hts _ g6) (by rw [g3]; exact fun _ z => z) (g5 (by omega)) (by rw [hd2]; decide +kernel) rfl rfl (hll _) hd (fun H1 locs1 q1 q2 q3 => ?_)
        have hset := fun z => w_seto (ca := ca) (ad := ad) (w := w) (z := z) (v := vi z) h1 hlen (by rw [k5 _ g2, g4, h9]; simp [w_fv, w_up])
        dsimp only at q1
        rw [hset] at q1
        exact h _ _ _ q1 q3 hL
      · have hd2 := w_tcZ (g4.trans h9)
        refine va_put (ty := .boolean) hx hb hts k1 ty0 k2 k3 hown hK hR (w_D hJ) hS _ ((w_ws_get hk).trans (by rw [w_obj h1])) g1 q.2.1 g2 (hts _ g6) (by rw [g3]; exact fun _ z => z) (g5 (by omega)) (by rw [hd2]; decide +kernel) (w_bool hz) (by rcases hz with rfl | rfl <;> rfl) (hll _) hd (fun H1 locs1 q1 q2 q3 => ?_)
        have hset := fun z => w_seto (ca := ca) (ad := ad) (w := w) (z := z) (v := vi z) h1 hlen (by rw [k5 _ g2, g4, h9]; simp [w_fv, w_up])
        dsimp only at q1
        rw [hset] at q1
        exact h _ _ _ q1 q3 hL
    · exact h.elim
  · split at h
    · rename_i q hq
      obtain ⟨rfl, h1, h9, h⟩ := h
      obtain ⟨Cn, T, N, g1, g2, g3, g4, g5, g6⟩ := hfl _ (w_lkm hq)
      obtain ⟨k1, ⟨ty0, k2⟩, k3, k4, k5⟩ := w_clok _ _ _ _ g1
      have hk := w_kd_lt h1 (Or.inr (Nat.le_add_right 100 _))
      have hlen : q.2.1 < (w_ft q.1).length := by rw [k4]; exact g2
      have hll : ∀ a0 : Nat, q.2.1 < ((List.range (w_ft q.1).length).map (fun j => w_cv ad (w_fv w a0 j ((w_ft q.1).getD j 0)))).length := fun a0 => by rw [List.length_map, List.length_range]; exact hlen
      have g4 : w_tc (T q.2.1).2.2.1 = q.2.2 := g4
      have g5 : q.2.2 ≠ 2 → (T q.2.1).2.2.2 = false := g5
      have k5 : ∀ j, j < N → (w_ft q.1).getD j 0 = w_tc (T j).2.2.1 := k5
      have hd2 := w_tcJ (g4.trans h9)
      refine va_put (ty := .long) hx hb hts k1 ty0 k2 k3 hown hK hR (w_D hJ) hS _ ((w_ws_get hk).trans (by rw [w_obj h1])) g1 q.2.1 g2 (hts _ g6) (by rw [g3]; exact fun _ z => z) (g5 (by omega)) (by rw [hd2]; decide +kernel) rfl rfl (hll _) hd (fun H1 locs1 q1 q2 q3 => ?_)
      have hset := fun z => w_seto (ca := ca) (ad := ad) (w := w) (z := z) (v := vl z) h1 hlen (by rw [k5 _ g2, g4, h9]; simp [w_fv, w_up])
      dsimp only at q1
      rw [hset] at q1
      exact h _ _ _ q1 q3 hL
    · exact h.elim
  · split at h
    · rename_i k hk
      obtain ⟨rfl, h⟩ := h
      rcases hgs _ (w_lkm hk) with ⟨e, g | g⟩ | ⟨e, g | g⟩
      · have e : k = 157 := e
        subst e
        exact va_gets hx hb hZ.1 hS hown (hts _ g) (fun _ z => z) hd (h _ _ _ hR hS hL)
      · have e : k = 157 := e
        subst e
        exact va_getsN hx hb hZ.1 hS hown (hts _ g) (fun _ z => z) hd (h _ _ _ hR hS hL)
      · have e : k = 158 := e
        subst e
        exact va_gets hx hb hZ.2.2.1 hS hown (hts _ g) (fun _ z => z) hd (h _ _ _ hR hS hL)
      · have e : k = 158 := e
        subst e
        exact va_getsN hx hb hZ.2.2.1 hS hown (hts _ g) (fun _ z => z) hd (h _ _ _ hR hS hL)
    · exact h.elim
  · obtain ⟨rfl, ⟨h0, h1⟩, h⟩ := h
    obtain ⟨g1, g2⟩ := w_idx h0 h1 (Nat.le_trans (w_ln_le _) (by decide))
    rcases h with ⟨hk, h⟩ | ⟨hk, ha, h⟩
    · have hlt := w_kd_lt hk (Or.inl (by decide))
      refine va_iald hx hb hK hR _ 0 ((w_ws_get hlt).trans (by rw [w_arr0 hk])) rfl g1 hd ?_
      rw [g2]
      exact h _ _ _ hR hS hL
    · rcases ha with rfl | rfl
      · exact va_ti hx hb hZ.2.1 hS g1 (by rw [g2]; rfl) hd (h _ _ _ hR hS hL)
      · exact va_ti hx hb hZ.2.2.2 hS g1 (by rw [g2]; rfl) hd (h _ _ _ hR hS hL)
  · obtain ⟨rfl, ⟨h0, h1⟩, hk, h⟩ := h
    obtain ⟨g1, g2⟩ := w_idx h0 h1 (Nat.le_trans (w_ln_le _) (by decide))
    have hlt := w_kd_lt hk (Or.inl (by decide))
    refine va_lald hx hb hK hR _ 1 ((w_ws_get hlt).trans (by rw [w_arr1 hk])) rfl g1 hd ?_
    rw [g2]
    exact h _ _ _ hR hS hL
  · obtain ⟨rfl, ⟨h0, h1⟩, hk, h⟩ := h
    obtain ⟨g1, g2⟩ := w_idx h0 h1 (Nat.le_trans (w_ln_le _) (by decide))
    rcases hk with hk | hk
    · have hlt := w_kd_lt hk (Or.inl (by decide))
      refine w_aald hx hb hK hR _ 2 ((w_ws_get hlt).trans (by rw [w_arr2 hk])) rfl rfl g1 hd ?_
      rw [g2]
      exact h _ _ _ hR hS hL
    · have hlt := w_kd_lt hk (Or.inl (by decide))
      refine w_aald hx hb hK hR _ 3 ((w_ws_get hlt).trans (by rw [w_arr3 hk])) rfl rfl g1 hd ?_
      rw [g2]
      exact h _ _ _ hR hS hL
  · obtain ⟨rfl, ⟨h0, h1⟩, hk, h⟩ := h
    obtain ⟨g1, g2⟩ := w_idx h0 h1 (Nat.le_trans (w_ln_le _) (by decide))
    have hlt := w_kd_lt hk (Or.inl (by decide))
    refine va_iast hx hb hK hR (w_D hJ) hS _ 0 ((w_ws_get hlt).trans (by rw [w_arr0 hk])) rfl g1 hd (fun H1 locs1 q1 q2 q3 => ?_)
    rw [g2, w_set0 hk] at q1
    exact h _ _ _ q1 q3 hL
  · obtain ⟨rfl, ⟨h0, h1⟩, hk, h⟩ := h
    obtain ⟨g1, g2⟩ := w_idx h0 h1 (Nat.le_trans (w_ln_le _) (by decide))
    have hlt := w_kd_lt hk (Or.inl (by decide))
    refine va_last hx hb hK hR (w_D hJ) hS _ 1 ((w_ws_get hlt).trans (by rw [w_arr1 hk])) rfl g1 hd (fun H1 locs1 q1 q2 q3 => ?_)
    rw [g2, w_set1 hk] at q1
    exact h _ _ _ q1 q3 hL
  · obtain ⟨rfl, hk, h⟩ := h
    rcases hk with hk | hk
    · have hlt := w_kd_lt hk (Or.inl (by decide))
      exact va_alen hx hb hK hR _ 0 ((w_ws_get hlt).trans (by rw [w_arr0 hk])) rfl (w_oN (w_ln _)) hd (h _ _ _ hR hS hL)
    · have hlt := w_kd_lt hk (Or.inl (by decide))
      exact va_alen hx hb hK hR _ 1 ((w_ws_get hlt).trans (by rw [w_arr1 hk])) rfl (w_oN (w_ln _)) hd (h _ _ _ hR hS hL)
  · obtain ⟨rfl, h⟩ := h
    unfold w_call at h
    split at h
    · rename_i q hq
      obtain ⟨e1, e2, e3, e4, h⟩ := h
      obtain ⟨fr, lo, k1, k2, k3⟩ := hcs _ (w_lkm hq)
      exact k1 p l e R s m args below meth c Q D ca ad nL nc ns X hnc hns k2 k3 pc L _ w H locs ls (by rw [hb, e1]; exact hd) hR hS hL e2 e3 e4 (fun r w1 H1 locs1 q1 q2 q3 => h r w1 q3 _ _ _ q1 q2 hL)
    · exact h.elim
  · obtain ⟨rfl, h⟩ := h
    unfold w_call at h
    split at h
    · rename_i q hq
      obtain ⟨e1, e2, e3, e4, h⟩ := h
      obtain ⟨fr, lo, k1, k2, k3⟩ := hcs _ (w_lkm hq)
      exact k1 p l e R s m args below meth c Q D ca ad nL nc ns X hnc hns k2 k3 pc L _ w H locs ls (by rw [hb, e1]; exact hd) hR hS hL e2 e3 e4 (fun r w1 H1 locs1 q1 q2 q3 => h r w1 q3 _ _ _ q1 q2 hL)
    · exact h.elim
  · obtain ⟨rfl, h1, h⟩ := h
    rcases h1 with h1 | ⟨h1, hz⟩
    · have h1 : rt = 1 := h1
      subst h1
      obtain ⟨hr, rfl, rfl, rfl⟩ := hrq (by omega)
      exact W.zret hx hb hr rfl (fun t ht _ => ⟨⟨_, (_, w), rfl, ⟨rfl, h⟩, by show w_R D ca ad w t.heap; rw [ht]; exact hR⟩, hS.F ht⟩) (fun q hq => hS.2.2 q hq) hd hlocks
    · have h1 : rt = 3 := h1
      subst h1
      obtain ⟨hr, rfl, rfl, rfl⟩ := hrq (by omega)
      exact W.zret hx hb hr (w_bool hz) (fun t ht _ => ⟨⟨_, (_, w), rfl, ⟨rfl, h⟩, by show w_R D ca ad w t.heap; rw [ht]; exact hR⟩, hS.F ht⟩) (fun q hq => hS.2.2 q hq) hd hlocks
  · obtain ⟨rfl, h1, h⟩ := h
    have h1 : rt = 2 := h1
    subst h1
    obtain ⟨hr, rfl, rfl, rfl⟩ := hrq (by omega)
    exact W.lret hx hb hr (fun t ht _ => ⟨⟨_, (_, w), rfl, ⟨rfl, h⟩, by show w_R D ca ad w t.heap; rw [ht]; exact hR⟩, hS.F ht⟩) (fun q hq => hS.2.2 q hq) hd hlocks
  · obtain ⟨rfl, h1, h⟩ := h
    have h1 : rt = 0 := h1
    subst h1
    obtain ⟨hr, rfl, rfl, rfl⟩ := hrq (by omega)
    exact W.vret hx hb hr (fun t ht _ => ⟨⟨w, rfl, h, by show w_R D ca ad w t.heap; rw [ht]; exact hR⟩, hS.F ht⟩) (fun q hq => hS.2.2 q hq) hd hlocks
  · exact h.elim
end WSND
