/-! the making of cells is sound -/
theorem bzCe_0 {ca : Nat → ClassId} {B : Nat} {e : bzE} (h : e.1 = 0) : bzCe ca B e = .inl (ca 0, e.2.1, .inl (fun i => Int32.ofInt (bzC e.2.2.2 i))) := by unfold bzCe; rw [h]; rfl
theorem bzCe_1 {ca : Nat → ClassId} {B : Nat} {e : bzE} (h : e.1 = 1) : bzCe ca B e = .inl (ca 1, e.2.1, .inr (.inl (fun i => Int64.ofInt (bzC e.2.2.2 i)))) := by unfold bzCe; rw [h]; rfl
theorem bzCe_2 {ca : Nat → ClassId} {B : Nat} {e : bzE} (h : e.1 = 2) : bzCe ca B e = .inl (ca 2, e.2.1, .inr (.inr (.inr (.inr (fun i => bzRf B (e.2.2.1.getD i bzN)))))) := by unfold bzCe; rw [h]; rfl
theorem bzCe_3 {ca : Nat → ClassId} {B : Nat} {e : bzE} (h : e.1 = 3) : bzCe ca B e = .inl (ca 3, e.2.1, .inr (.inr (.inr (.inr (fun i => bzRf B (e.2.2.1.getD i bzN)))))) := by unfold bzCe; rw [h]; rfl
theorem bzCe_o {ca : Nat → ClassId} {B ci : Nat} {e : bzE} (h : e.1 = 100 + ci) : bzCe ca B e = .inr (ci, e.2.2.1.map (w_cv (bzA B))) := by
  unfold bzCe
  rw [h]
  split
  · omega
  · omega
  · omega
  · omega
  · rw [show 100 + ci - 100 = ci by omega]
def bzdv (t : Nat) : Value := if t = 2 then .null else if t = 1 then .long 0 else .int 0
theorem bz_new0 : ∀ (ci : Nat) (Cn : String) (T : u_T) (N : Nat), vwCl[ci]? = some (Cn, T, N) → ∃ ty : Nat → FieldType, (∀ k, k < N → parseFieldDescriptor (T k).2.2.1 = some (ty k)) ∧ (∀ j, j < N → defaultValue (ty j) = vp_V ((w_ft ci).map bzdv) j) ∧ (∀ j, j < N → w_tc (T j).2.2.1 = 2 → (ty j).isReference = true) := by
  intro ci Cn T N h
  match ci, h with
  | 0, h => cases h; exact ⟨tyX0, tyX0_ok, by decide +kernel, by decide +kernel⟩
  | 1, h => cases h; exact ⟨tyX1, tyX1_ok, by decide +kernel, by decide +kernel⟩
  | 2, h => cases h; exact ⟨tyX2, tyX2_ok, by decide +kernel, by decide +kernel⟩
  | 3, h => cases h; exact ⟨tyX3, tyX3_ok, by decide +kernel, by decide +kernel⟩
  | 4, h => cases h; exact ⟨tyX4, tyX4_ok, by decide +kernel, by decide +kernel⟩
  | 5, h => cases h; exact ⟨tyX5, tyX5_ok, by decide +kernel, by decide +kernel⟩
  | 6, h => cases h; exact ⟨tyX6, tyX6_ok, by decide +kernel, by decide +kernel⟩
  | 7, h => cases h; exact ⟨tyX7, tyX7_ok, by decide +kernel, by decide +kernel⟩
  | 8, h => cases h; exact ⟨tyX8, tyX8_ok, by decide +kernel, by decide +kernel⟩
  | 9, h => cases h; exact ⟨tyX9, tyX9_ok, by decide +kernel, by decide +kernel⟩
  | 10, h => cases h; exact ⟨tyX10, tyX10_ok, by decide +kernel, by decide +kernel⟩
  | n + 11, h => simp [vwCl] at h
theorem bz_dv {B ci : Nat} : (bzOb ci).2.2.1.map (w_cv (bzA B)) = (w_ft ci).map bzdv := by
  show ((w_ft ci).map (fun t => if t = 2 then bzN else if t = 1 then vl 0 else vi 0)).map (w_cv (bzA B)) = _
  rw [List.map_map]
  refine List.map_congr_left (fun t _ => ?_)
  show w_cv (bzA B) (if t = 2 then bzN else if t = 1 then vl 0 else vi 0) = bzdv t
  unfold bzdv
  by_cases h : t = 2
  · rw [if_pos h, if_pos h]; rfl
  · rw [if_neg h, if_neg h]
    by_cases h2 : t = 1
    · rw [if_pos h2, if_pos h2]; rfl
    · rw [if_neg h2, if_neg h2]; rfl
theorem bz_fit {ci fk N B : Nat} {Cn : String} {T : u_T} {v : wV} (g1 : vwCl[ci]? = some (Cn, T, N)) (g2 : fk < N) (hv : bzV (w_tc (T fk).2.2.1) v = true) : ∃ ty, parseFieldDescriptor (T fk).2.2.1 = some ty ∧ narrow ty (w_cv (bzA B) v) = w_cv (bzA B) v ∧ fits ty (w_cv (bzA B) v) = true := by
  match v, hv with
  | .inl z, hv =>
    have h : w_tc (T fk).2.2.1 = 0 := by simpa [bzV] using hv
    exact ⟨.int, by rw [w_tcI h]; decide +kernel, rfl, rfl⟩
  | .inr (.inl z), hv => simp [bzV] at hv
  | .inr (.inr none), hv => simp [bzV] at hv
  | .inr (.inr (some k)), hv =>
    have h : w_tc (T fk).2.2.1 = 2 := by simpa [bzV] using hv
    obtain ⟨ty, t1, -, t3⟩ := bz_new0 _ _ _ _ g1
    have h3 := t3 fk g2 h
    refine ⟨ty fk, t1 fk g2, ?_, ?_⟩
    · cases hty : ty fk <;> first | rfl | (rw [hty] at h3; cases h3)
    · cases hty : ty fk <;> first | rfl | (rw [hty] at h3; cases h3)
def bzNw (own : String) (q : Nat × Nat) : Prop := ∃ (Cn : String) (T : u_T) (N : Nat), vwCl[q.2]? = some (Cn, T, N) ∧ Cond.classLink own q.1 Cn ∈ w_TB ∧ Cond.instantiable Cn N ∈ w_TB ∧ Cond.initialized Cn ∈ w_TB
section BZS
variable {p : Program} {l : Launch} {e : Env} {R : Room} {s : State} {m : MethodId} {args : Array Value} {below : List Frame} {meth : Method} {c : Code} {Q : State → Prop}
def bzCx (p : Program) (s : State) (m : MethodId) (args : Array Value) (c : Code) (D : va_G) (ca : Nat → ClassId) (own : String) (nL : Nat) : Prop :=
  p.tables.exec = Jvm.exec ∧ c.maxLocals = nL ∧ s.vm.findClass own = some m.cls ∧ (∀ w ∈ w_TB, w.before args s = true) ∧ va_K D vwCl (w_tys ca) s ∧ bzO s
def bzGo (p : Program) (l : Launch) (e : Env) (R : Room) (s : State) (m : MethodId) (args : Array Value) (below : List Frame) (meth : Method) (c : Code) (Q : State → Prop) (D : va_G) (ca : Nat → ClassId) (B nL : Nat) (σ : bzS) : Prop :=
  ∀ (H : Heap) (locs : List Loc) (ls : Array Slot), bzR D ca B σ.2.2.2.1 H → va_S (fun q => B ≤ q) s.heap H locs → w_LH (bzA B) nL σ.2.1 ls → W p l e R s m args below meth c H locs σ.2.2.2.2.1 σ.2.2.2.2.2 Q (F0 m σ.1 ls (σ.2.2.1.map (w_cv (bzA B))))
def bzCOK (own : String) (idx : Nat) (q : bzQ) (fr lo : Nat) : Prop :=
  ∀ (p : Program) (l : Launch) (e : Env) (R : Room) (s : State) (m : MethodId) (args : Array Value) (below : List Frame) (meth : Method) (c : Code) (Q : State → Prop) (D : va_G) (ca : Nat → ClassId) (B nL : Nat), bzCx p s m args c D ca own nL → fr + 1 ≤ R.frames → lo ≤ R.locals →
    ∀ (pc : Nat) (L : wL) (st : List wV) (es es' : List bzE) (H : Heap) (locs : List Loc) (ls : Array Slot) (a b : Nat), decode c.code pc = .ok (if q.1 = 0 then .invokespecial idx else .invokestatic idx, 3) → bzR D ca B es H → va_S (fun q => B ≤ q) s.heap H locs → w_LH (bzA B) nL L ls →
      q.2.1 ≤ st.length → w_cats (st.drop q.2.1) ≤ 8 → (q.1 = 0 → bzHd (st.take q.2.1).reverse = true) → q.2.2.1 (st.take q.2.1).reverse es = some es' → a + q.2.2.2.1 ≤ R.cells → b + q.2.2.2.2 ≤ R.slots →
      (∀ (H1 : Heap) (locs1 : List Loc), bzR D ca B es' H1 → va_S (fun q => B ≤ q) s.heap H1 locs1 → W p l e R s m args below meth c H1 locs1 (a + q.2.2.2.1) (b + q.2.2.2.2) Q (F0 m (pc + 3) ls ((st.drop q.2.1).map (w_cv (bzA B))))) →
      W p l e R s m args below meth c H locs a b Q (F0 m pc ls (st.map (w_cv (bzA B))))
theorem bz_put {cc : ByteArray} {own : String} {D : va_G} {ca : Nat → ClassId} {B a b j k ci fk tc pc : Nat} {es : List bzE} {x : bzE} {v : wV} {H : Heap} {locs : List Loc} {ls : Array Slot} {rest : List Value} (hx : p.tables.exec = Jvm.exec) (hb : c.code = cc) (hown : s.vm.findClass own = some m.cls) (hts : ∀ w ∈ w_TB, w.before args s = true) (hK : va_K D vwCl (w_tys ca) s)
    (hR : bzR D ca B es H) (hS : va_S (fun q => B ≤ q) s.heap H locs) (he : es[k]? = some x) (hfl : w_flok own (j, ci, fk, tc)) (hkd : x.1 = 100 + ci) (hl : fk < x.2.2.1.length) (hv : bzV tc v = true) (hin : ∀ r, vwCl[ci]? = some r → meth.name = "<init>" ∧ r.1 = own) (hdg : decode cc pc = .ok (.putfield j, 3))
    (kk : ∀ (H1 : Heap) (locs1 : List Loc), bzR D ca B (es.set k (x.1, x.2.1, x.2.2.1.set fk v, x.2.2.2)) H1 → va_S (fun q => B ≤ q) s.heap H1 locs1 → W p l e R s m args below meth c H1 locs1 a b Q (F0 m (pc + 3) ls rest)) : W p l e R s m args below meth c H locs a b Q (F0 m pc ls (w_cv (bzA B) v :: .ref (B + k) :: rest)) := by
  obtain ⟨Cn, T, N, g1, g2, g3, g4, g5, g6⟩ := hfl
  have g2 : fk < N := g2
  have g3 : (T fk).1 = Cn := g3
  have g4 : w_tc (T fk).2.2.1 = tc := g4
  have g6 : Cond.fieldLink own j Cn (T fk).2.1 (T fk).2.2.1 ∈ w_TB := g6
  obtain ⟨k1, ⟨ty0, k2⟩, k3, k4, k5⟩ := w_clok _ _ _ _ g1
  obtain ⟨hz, hP⟩ := hR
  have hE : (bzW ca B es)[k]? = some (B + k, .inr (ci, x.2.2.1.map (w_cv (bzA B)))) := by rw [bzW_get he, bzCe_o hkd]
  obtain ⟨ty, t1, t2, t3⟩ := bz_fit (B := B) g1 g2 (by rw [g4]; exact hv)
  have hap := va_apart (own := own) hts k1 ty0 k2 k3 hK g1
  obtain ⟨r, h1, cell, q1, q2, q3, q4⟩ := hP k _ hE
  have hr : r = (Cn, T, N) := Option.some.inj (h1.symm.trans g1)
  subst hr
  obtain ⟨hSl, hfc, kC, hkC, hkind⟩ := hK.1 ci _ g1
  obtain ⟨cf, kf, fi, f, hi, hsl⟩ := hSl fk g2
  have hlay := hts _ (k1 _ (u_in_lay g2))
  have hst := (u_facts hfc hkC (u_lays hts k1 g2) hi).1
  have hll : fk < (x.2.2.1.map (w_cv (bzA B))).length := by rw [List.length_map]; exact hl
  have KK : ∀ H' : Heap, H'[B + k]? = some (cell.setSlot f.slot (w_cv (bzA B) v)) → H'.size = H.size → (∀ q, q ≠ B + k → H'[q]? = H[q]?) → W p l e R s m args below meth c H' (locs ++ [⟨B + k, f.slot⟩]) a b Q (F0 m (pc + 3) ls rest) := fun H' e1 e2 e3 => by
    rw [hsl] at e1 ⊢
    refine kk H' _ ⟨by rw [e2, hz, List.length_set], ?_⟩ (hS.put e2 e3 (Nat.le_add_right _ _))
    have hat : va_at D vwCl (B + k, .inr (ci, (x.2.2.1.map (w_cv (bzA B))).set fk (w_cv (bzA B) v))) H' := ⟨_, g1, t_OB.to (V := updV (vp_V (x.2.2.1.map (w_cv (bzA B)))) fk (w_cv (bzA B) v)) ⟨_, e1, q2, q3, t_set q4 hap g2 _⟩ (fun j _ => vp_updV_set hll _ j)⟩
    have hq := hP.set bzW_D hE hat e3
    rw [← List.map_set, ← bzCe_o (ca := ca) (e := (x.1, x.2.1, x.2.2.1.set fk v, x.2.2.2)) hkd, bzW_set] at hq
    exact hq
  have hsame : s.fieldFound? Cn (T fk).2.1 (T fk).2.2.1 = some (cf, kf, fi, f) := by rw [← g3]; exact hi
  unfold u_lay at hlay
  by_cases hfin : (T fk).2.2.2 = true
  · rw [if_pos hfin] at hlay
    obtain ⟨hin2, hdecl⟩ := hin _ g1
    have hdecl : Cn = own := hdecl
    have hcf : m.cls = cf := by
      obtain ⟨_, _, c', _, _, _, -, -, hf', -, -, -, hown2, -⟩ := Cond.laysFinal_spec hlay
      have e1 : c' = cf := by have := hi.symm.trans hf'; simp at this; exact this.1.symm
      rw [g3, hdecl] at hown2
      rw [← e1]; exact Option.some.inj (hown.symm.trans hown2)
    have h6 := u_fits hfc hkC hkind (Or.inr hlay) hi t1 t2 t3
    exact W.putFinK hx hb hown (hts _ g6) hsame hst hcf hin2 (by rw [q2]; exact h6) q1 q3 (by rw [hsl]; exact k2_hasslot (q4 fk g2)) rfl rfl hdg KK
  · rw [if_neg hfin] at hlay
    have h6 := u_store hfc hkC hkind hlay hi t1 t2 t3
    exact W.putK hx hb (f := f) ⟨hown, hts _ g6, ⟨_, _, _, hsame⟩, hst⟩ (by rw [q2]; exact h6) q1 q3 (by rw [hsl]; exact k2_hasslot (q4 fk g2)) rfl rfl hdg KK
theorem bz_push {D : va_G} {ca : Nat → ClassId} {B : Nat} {es : List bzE} {x : bzE} {H H1 : Heap} (hR : bzR D ca B es H) (z1 : H1.size = H.size + 1) (o1 : ∀ q : Nat, q < H.size → H1[q]? = H[q]?) (h : va_at D vwCl (H.size, bzCe ca B x) H1) : bzR D ca B (es ++ [x]) H1 := by
  obtain ⟨hz, hP⟩ := hR
  refine ⟨by rw [z1, hz, List.length_append]; rfl, bzW_app (hP.kept (fun k q hk => o1 q.1 ((hP k q hk).lt))) (fun j y hy => ?_)⟩
  match j, hy with
  | 0, hy =>
    have : x = y := by simpa using hy
    subst this
    rw [← hz]
    exact h
  | j + 1, hy => simp at hy
theorem bz_keep {A : Nat → Prop} {H0 H H1 : Heap} {locs : List Loc} (hS : va_S A H0 H locs) (z1 : H.size ≤ H1.size) (o1 : ∀ q : Nat, q < H.size → H1[q]? = H[q]?) : va_S A H0 H1 locs := ⟨Nat.le_trans hS.1 z1, fun x h1 h2 => (o1 x (Nat.lt_of_lt_of_le h1 hS.1)).trans (hS.2.1 x h1 h2), hS.2.2⟩
theorem bz_neg {z : Int} (h : 0 ≤ z ∧ z ≤ 4824) : ¬ Int32.ofInt z < 0 ∧ (Int32.ofInt z).toNatClampNeg = z.toNat := by
  have hz : inI z := ⟨by omega, by omega⟩
  refine ⟨?_, by show (Int32.ofInt z).toInt.toNat = _; rw [w_i32 hz]⟩
  rw [w_zero, w_lt hz w_i0]
  omega
theorem bz_ra {D : va_G} {ca : Nat → ClassId} (hK : va_K D vwCl (w_tys ca) s) : s.vm.findClass ("[" ++ (FieldType.int).toString) = some (ca 0) ∧ s.vm.findClass ("[" ++ (FieldType.long).toString) = some (ca 1) ∧ s.vm.findClass ("[" ++ (FieldType.array .int).toString) = some (ca 2) ∧ s.vm.findClass ("[" ++ (FieldType.object RX4).toString) = some (ca 3) := by
  refine ⟨(hK.2 0 (ca 0, .int) rfl).2, (hK.2 1 (ca 1, .long) rfl).2, (hK.2 2 (ca 2, .array .int) rfl).2, ?_⟩
  obtain ⟨kA, comp, -, -, -, h⟩ := (hK.2 3 (ca 3, .object RX4) rfl).2
  exact h
end BZS
