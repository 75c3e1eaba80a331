/-! ===== constructors: cells that are made one behind another ===== -/
abbrev bzE : Type := Nat × Nat × List wV × List (Nat × Int)
abbrev bzS : Type := Nat × wL × List wV × List bzE × Nat × Nat
abbrev bzF : Type := List wV → List bzE → Option (List bzE)
abbrev bzQ : Type := Nat × Nat × bzF × Nat × Nat
/-- bytes, links of fields, of classes made, of arrays of arrays, of arrays of rules, of Object's constructor, own class, room for cells and slots, calls -/
abbrev bzT : Type := ByteArray × List (Nat × Nat × Nat × Nat) × List (Nat × Nat) × List Nat × List Nat × Nat × Nat × Nat × Nat × List (Nat × bzQ)
abbrev bzN : wV := Sum.inr (Sum.inr none)
def bzC : List (Nat × Int) → Nat → Int
  | [], _ => 0
  | (j, z) :: r, i => if i = j then z else bzC r i
def bzA (B : Nat) : Nat → Nat := fun k => B + k
def bzRf (B : Nat) (v : wV) : Option Nat := match v with
  | .inr (.inr (some k)) => some (B + k)
  | _ => none
def bzCe (ca : Nat → ClassId) (B : Nat) (e : bzE) : va_E := match e.1 with
  | 0 => .inl (ca 0, e.2.1, .inl (fun i => Int32.ofInt (bzC e.2.2.2 i)))
  | 1 => .inl (ca 1, e.2.1, .inr (.inl (fun i => Int64.ofInt (bzC e.2.2.2 i))))
  | 2 => .inl (ca 2, e.2.1, .inr (.inr (.inr (.inr (fun i => bzRf B (e.2.2.1.getD i bzN))))))
  | 3 => .inl (ca 3, e.2.1, .inr (.inr (.inr (.inr (fun i => bzRf B (e.2.2.1.getD i bzN))))))
  | kk => .inr (kk - 100, e.2.2.1.map (w_cv (bzA B)))
def bzW (ca : Nat → ClassId) (B : Nat) (es : List bzE) : va_W := es.mapIdx (fun k e => (B + k, bzCe ca B e))
def bzR (D : va_G) (ca : Nat → ClassId) (B : Nat) (es : List bzE) (H : Heap) : Prop := H.size = B + es.length ∧ va_P D vwCl (bzW ca B es) H
def bzOb (ci : Nat) : bzE := (100 + ci, 0, (w_ft ci).map (fun t => if t = 2 then bzN else if t = 1 then vl 0 else vi 0), [])
def bzIf (c : Bool) (x : bzS) : Option bzS := if c = true then some x else none
theorem bzIf_i {c : Bool} {x y : bzS} (h : bzIf c x = some y) : c = true ∧ x = y := by
  unfold bzIf at h
  split at h
  · exact ⟨by assumption, Option.some.inj h⟩
  · cases h
def bzHd (l : List wV) : Bool := match l with
  | .inr (.inr (some _)) :: _ => true
  | _ => false
def bzCall (F : bzT) (kd idx pc : Nat) (L : wL) (st : List wV) (es : List bzE) (a b : Nat) : Option bzS := match w_lk F.2.2.2.2.2.2.2.2.2 idx with
  | some q => match q.2.2.1 (st.take q.2.1).reverse es with
    | some es' => bzIf (q.1 == kd && decide (q.2.1 ≤ st.length) && decide (w_cats (st.drop q.2.1) ≤ 8) && (bzHd (st.take q.2.1).reverse || kd == 1) && decide (a + q.2.2.2.1 ≤ F.2.2.2.2.2.2.2.1) && decide (b + q.2.2.2.2 ≤ F.2.2.2.2.2.2.2.2.1)) (pc + 3, L, st.drop q.2.1, es', a + q.2.2.2.1, b + q.2.2.2.2)
    | none => none
  | none => none
def bzV (tc : Nat) (v : wV) : Bool := match v with
  | .inl _ => tc == 0
  | .inr (.inr (some _)) => tc == 2
  | _ => false
def bz1 (F : bzT) (i : Instr) (n pc : Nat) (L : wL) (st : List wV) (es : List bzE) (a b : Nat) : Option bzS := match i, st with
  | .iconst z, st => bzIf (n == 1) (pc + n, L, vi z :: st, es, a, b)
  | .bipush z, st => bzIf (n == 2 && decide (-128 ≤ z ∧ z ≤ 127)) (pc + n, L, vi z :: st, es, a, b)
  | .sipush z, st => bzIf (n == 3 && decide (-32768 ≤ z ∧ z ≤ 32767)) (pc + n, L, vi z :: st, es, a, b)
  | .iload_n j, st => match w_ld L j with
    | some (.inl z) => bzIf (n == 1) (pc + n, L, vi z :: st, es, a, b)
    | _ => none
  | .aload_n j, st => match w_ld L j with
    | some (.inr (.inr (some k))) => bzIf (n == 1) (pc + n, L, vr k :: st, es, a, b)
    | _ => none
  | .istore_n j, .inl z :: st => bzIf (n == 1 && decide ((j : Nat) < L.length)) (pc + n, w_s1 L j (vi z), st, es, a, b)
  | .astore_n j, .inr (.inr (some k)) :: st => bzIf (n == 1 && decide ((j : Nat) < L.length)) (pc + n, w_s1 L j (vr k), st, es, a, b)
  | .iinc j c, st => match w_ld L j with
    | some (.inl z) => bzIf (n == 3) (pc + n, w_s1 L j (vi (z + c)), st, es, a, b)
    | _ => none
  | .dup, v :: st => bzIf (n == 1 && w_cat v == 1) (pc + n, L, v :: v :: st, es, a, b)
  | .if_icmp .ge off, .inl y :: .inl x :: st => bzIf (n == 3 && decide (inI x ∧ inI y ∧ 0 ≤ (pc : Int) + off)) (if y ≤ x then w_to pc off else pc + 3, L, st, es, a, b)
  | .goto off, st => bzIf (n == 3 && decide (0 ≤ (pc : Int) + off)) (w_to pc off, L, st, es, a, b)
  | .getfield j, .inr (.inr (some k)) :: st => match w_lk F.2.1 j, es[k]? with
    | some q, some e => match e.2.2.1[q.2.1]? with
      | some v => bzIf (n == 3 && e.1 == 100 + q.1) (pc + n, L, v :: st, es, a, b)
      | none => none
    | _, _ => none
  | .putfield j, v :: .inr (.inr (some k)) :: st => match w_lk F.2.1 j, es[k]? with
    | some q, some e => bzIf (n == 3 && e.1 == 100 + q.1 && q.1 == F.2.2.2.2.2.2.1 && decide (q.2.1 < e.2.2.1.length) && bzV q.2.2 v) (pc + n, L, st, es.set k (e.1, e.2.1, e.2.2.1.set q.2.1 v, e.2.2.2), a, b)
    | _, _ => none
  | .new j, st => match w_lk F.2.2.1 j with
    | some ci => bzIf (n == 3 && decide (a + 1 ≤ F.2.2.2.2.2.2.2.1) && decide (b + (w_ft ci).length ≤ F.2.2.2.2.2.2.2.2.1)) (pc + n, L, vr es.length :: st, es ++ [bzOb ci], a + 1, b + (w_ft ci).length)
    | none => none
  | .newarray .int, .inl z :: st => bzIf (n == 2 && decide (0 ≤ z ∧ z ≤ 4824) && decide (a + 1 ≤ F.2.2.2.2.2.2.2.1) && decide (b + z.toNat ≤ F.2.2.2.2.2.2.2.2.1)) (pc + n, L, vr es.length :: st, es ++ [(0, z.toNat, [], [])], a + 1, b + z.toNat)
  | .newarray .long, .inl z :: st => bzIf (n == 2 && decide (0 ≤ z ∧ z ≤ 4824) && decide (a + 1 ≤ F.2.2.2.2.2.2.2.1) && decide (b + z.toNat ≤ F.2.2.2.2.2.2.2.2.1)) (pc + n, L, vr es.length :: st, es ++ [(1, z.toNat, [], [])], a + 1, b + z.toNat)
  | .anewarray j, .inl z :: st => bzIf (n == 3 && F.2.2.2.2.1.contains j && decide (0 ≤ z ∧ z ≤ 4824) && decide (a + 1 ≤ F.2.2.2.2.2.2.2.1) && decide (b + z.toNat ≤ F.2.2.2.2.2.2.2.2.1)) (pc + n, L, vr es.length :: st, es ++ [(3, z.toNat, List.replicate z.toNat bzN, [])], a + 1, b + z.toNat)
  | .multianewarray j d, .inl k :: .inl z :: st => bzIf (n == 4 && d == 2 && F.2.2.2.1.contains j && decide (0 ≤ z ∧ z ≤ 4824) && decide (0 ≤ k ∧ k ≤ 4824) && decide (a + (1 + z.toNat) ≤ F.2.2.2.2.2.2.2.1) && decide (b + (z.toNat + z.toNat * k.toNat) ≤ F.2.2.2.2.2.2.2.2.1)) (pc + n, L, vr es.length :: st, es ++ (2, z.toNat, (List.range z.toNat).map (fun i => vr (es.length + 1 + i)), []) :: List.replicate z.toNat (0, k.toNat, [], []), a + 1 + z.toNat, b + z.toNat + z.toNat * k.toNat)
  | .aastore, .inr (.inr (some v)) :: .inl i :: .inr (.inr (some k)) :: st => match es[k]?, es[v]? with
    | some e, some ev => bzIf (n == 1 && e.1 == 3 && ev.1 == 104 && decide (0 ≤ i ∧ i < e.2.1 ∧ e.2.1 ≤ 4824) && decide (e.2.2.1.length = e.2.1)) (pc + n, L, st, es.set k (e.1, e.2.1, e.2.2.1.set i.toNat (vr v), e.2.2.2), a, b)
    | _, _ => none
  | .iastore, .inl v :: .inl i :: .inr (.inr (some k)) :: st => match es[k]? with
    | some e => bzIf (n == 1 && e.1 == 0 && decide (0 ≤ i ∧ i < e.2.1 ∧ e.2.1 ≤ 4824)) (pc + n, L, st, es.set k (e.1, e.2.1, e.2.2.1, (i.toNat, v) :: e.2.2.2), a, b)
    | none => none
  | .arraylength, .inr (.inr (some k)) :: st => match es[k]? with
    | some e => bzIf (n == 1 && e.1 == 0) (pc + n, L, vi e.2.1 :: st, es, a, b)
    | none => none
  | .invokespecial j, st => if j = F.2.2.2.2.2.1 ∧ ¬ j = 0 then (match st with
    | .inr (.inr (some _)) :: st => bzIf (n == 3 && decide (w_cats st ≤ 8)) (pc + n, L, st, es, a, b)
    | _ => none) else if n = 3 then bzCall F 0 j pc L st es a b else none
  | .invokestatic j, st => if n = 3 then bzCall F 1 j pc L st es a b else none
  | _, _ => none
/-- the run, up to a place -/
def bzX (F : bzT) (stp : Nat) : Nat → bzS → Option bzS
  | 0, _ => none
  | f + 1, (pc, L, st, es, a, b) => if pc = stp then some (pc, L, st, es, a, b) else match decode F.1 pc with
    | .ok (i, n) => (bz1 F i n pc L st es a b).bind (bzX F stp f)
    | _ => none
/-- what a constructor makes of the cells -/
def bzFn (F : bzT) (stp maxL : Nat) : bzF := fun av es => if (w_pos av).length ≤ maxL then (match bzX F stp 400 (0, w_ent maxL av, [], es, 0, 0) with
  | some (_, _, [], es', a, b) => if a ≤ F.2.2.2.2.2.2.2.1 ∧ b ≤ F.2.2.2.2.2.2.2.2.1 then some es' else none
  | _ => none) else none
theorem bzW_get {ca : Nat → ClassId} {B : Nat} {es : List bzE} {k : Nat} {e : bzE} (h : es[k]? = some e) : (bzW ca B es)[k]? = some (B + k, bzCe ca B e) := by
  unfold bzW
  rw [List.getElem?_mapIdx, h]
  rfl
theorem bzW_inv {ca : Nat → ClassId} {B : Nat} {es : List bzE} {k : Nat} {q : Nat × va_E} (h : (bzW ca B es)[k]? = some q) : ∃ e, es[k]? = some e ∧ q = (B + k, bzCe ca B e) := by
  unfold bzW at h
  rw [List.getElem?_mapIdx] at h
  cases e : es[k]? with
  | none => rw [e] at h; cases h
  | some x => rw [e] at h; exact ⟨x, rfl, (Option.some.inj h).symm⟩
theorem bzW_len {ca : Nat → ClassId} {B : Nat} {es : List bzE} : (bzW ca B es).length = es.length := by unfold bzW; rw [List.length_mapIdx]
theorem bzW_D {ca : Nat → ClassId} {B : Nat} {es : List bzE} : va_D (fun q => B ≤ q) (bzW ca B es) := by
  refine ⟨fun i j p q hi hj hpq => ?_, fun k q hk => ?_⟩
  · obtain ⟨x, -, rfl⟩ := bzW_inv hi
    obtain ⟨y, -, rfl⟩ := bzW_inv hj
    have : B + i = B + j := hpq
    omega
  · obtain ⟨x, -, rfl⟩ := bzW_inv hk
    exact Nat.le_add_right _ _
theorem bzW_set {ca : Nat → ClassId} {B : Nat} {es : List bzE} {k : Nat} {e : bzE} : (bzW ca B es).set k (B + k, bzCe ca B e) = bzW ca B (es.set k e) := by
  apply List.ext_getElem?
  intro j
  rw [List.getElem?_set, bzW_len]
  unfold bzW
  rw [List.getElem?_mapIdx, List.getElem?_mapIdx, List.getElem?_set]
  by_cases h : k = j
  · subst h
    rw [if_pos rfl, if_pos rfl]
    by_cases hl : k < es.length
    · rw [if_pos hl, if_pos hl]; rfl
    · rw [if_neg hl, if_neg hl]; rfl
  · rw [if_neg h, if_neg h]
theorem bzW_app {ca : Nat → ClassId} {B : Nat} {es fs : List bzE} {D : va_G} {H : Heap} (h1 : va_P D vwCl (bzW ca B es) H) (h2 : ∀ j e, fs[j]? = some e → va_at D vwCl (B + es.length + j, bzCe ca B e) H) : va_P D vwCl (bzW ca B (es ++ fs)) H := by
  intro k q hk
  obtain ⟨e, he, rfl⟩ := bzW_inv hk
  by_cases hl : k < es.length
  · rw [List.getElem?_append_left hl] at he
    exact h1 k _ (bzW_get he)
  · rw [List.getElem?_append_right (by omega)] at he
    have := h2 _ e he
    rw [show B + es.length + (k - es.length) = B + k by omega] at this
    exact this
theorem bz_arr {cA : ClassId} {N : Nat} {f g : Nat → Value} (h : ∀ j, j < N → f j = g j) : arrV cA N f = arrV cA N g := by
  unfold arrV
  congr 1
  congr 1
  funext j
  exact h j.val j.isLt
/-- what the tables say of arrays of arrays and of arrays of rules -/
def bzAA (U : State) : Prop := (Cond.arrayOver (.array .int)).before #[] U = true
theorem bzAA.moved {u U : State} (hvm : u.vm.Alike U.vm) (h : bzAA u) : bzAA U := by
  obtain ⟨comp, c, k, h1, h2, h3, h4, h5⟩ := arrayOverA_spec h
  obtain ⟨k', hk', he⟩ := hvm.2.2 _ _ h3
  have hi : (U.vm.classes.findIdx? fun (x : Class) => match x.kind with | .array component _ => component == comp | _ => false) = some c := by
    rw [hvm.findIdx?_eq _ (fun _ => rfl)]
    exact h2
  have hkind : k'.kind = .array comp (.array .int) := by rw [he]; exact h4
  have f1 : U.vm.findClass (FieldType.array .int).toString = some comp := by rw [hvm.findClass]; exact h1
  have f2 : U.vm.findClass ("[" ++ (FieldType.array .int).toString) = some c := by rw [hvm.findClass]; exact h5
  unfold bzAA Cond.before Cond.holds
  simp only [Cond.value]
  rw [f1, Option.bind_some]
  refine (congrArg (fun o : Option Nat => (o.bind (fun c => (U.vm.classes[c]?).map fun (k : Class) => match k.kind with | .array _ ty => decide (ty = FieldType.array .int) && decide (U.vm.findClass ("[" ++ (FieldType.array .int).toString) = some c) | _ => false) == some true)) hi).trans ?_
  simp [hk', hkind, f2]
def bzO (U : State) : Prop := va_AO RX4 U ∧ bzAA U
theorem bzO.moved {u U : State} (hvm : u.vm.Alike U.vm) (h : bzO u) : bzO U := ⟨h.1.moved hvm, h.2.moved hvm⟩
def bzPre (D : va_G) (ca : Nat → ClassId) (B : Nat) (es : List bzE) (U : State) : Prop := bzR D ca B es U.heap ∧ va_K D vwCl (w_tys ca) U ∧ bzO U
theorem bzPre_blind {D : va_G} {ca : Nat → ClassId} {B : Nat} {es : List bzE} {av : List Value} : FrameBlind (va_Pc av (bzPre D ca B es)) := by
  rintro a U g mk ⟨h1, h2, h3, h4⟩
  exact ⟨h1, h2, va_K.moved (u := U) (U := U.calling g mk a) (Vm.Alike.refl U.vm) h3, bzO.moved (u := U) (U := U.calling g mk a) (Vm.Alike.refl U.vm) h4⟩
def bzCt (y : MethodName) (cc : ByteArray) (maxL fr lo mc ms : Nat) (fn : bzF) : Prop := ∀ (l : Launch) (D : va_G) (ca : Nat → ClassId) (B : Nat) (av : List wV) (es es' : List bzE), fn av es = some es' →
  Met l y (Cond.code y cc maxL none :: w_TB) { frames := fr, cells := mc, slots := ms, locals := lo } (va_Pc (av.map (w_cv (bzA B))) (bzPre D ca B es)) (va_Qv (S := Unit) (fun _ => True) (fun _ t => bzR D ca B es' t.heap) (fun q => B ≤ q)) mc ms (fun q => B ≤ q)
