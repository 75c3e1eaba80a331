/-! an array of arrays, made in one instruction -/
def bqR (h i : Nat) : Nat → Value := fun j => if j < i then .ref (h + 1 + j) else .null
/-- the state when i of the inner arrays are made -/
def bqS (T : State) (cA cp : ClassId) (N K : Nat) (v : Value) : Nat → State
  | 0 => T.pushCell (arrV cA N (bqR T.heap.size 0))
  | i + 1 => ((bqS T cA cp N K v i).pushCell (arrV cp K (fun _ => v))).setCell T.heap.size (arrV cA N (bqR T.heap.size (i + 1)))
theorem bq_upd (cA : ClassId) (N h i : Nat) : (arrV cA N (bqR h i)).setSlot i (.ref (h + 1 + i)) = arrV cA N (bqR h (i + 1)) := by
  rw [arrV_store]
  refine bz_arr (fun j _ => ?_)
  unfold updV bqR
  by_cases q : j = i
  · subst q
    rw [if_pos rfl, if_pos (Nat.lt_succ_self _)]
  · rw [if_neg q]
    by_cases q2 : j < i
    · rw [if_pos q2, if_pos (by omega)]
    · rw [if_neg q2, if_neg (by omega)]
section BQS
variable (T : State) (cA cp : ClassId) (N K : Nat) (v : Value)
theorem bqS_sz (i : Nat) : (bqS T cA cp N K v i).heap.size = T.heap.size + 1 + i := by
  induction i with
  | zero => simp [bqS]
  | succ i ih =>
    simp only [bqS, State.setCell, Array.size_setIfInBounds]
    rw [State.heap_size_pushCell, ih]
    omega
theorem bqS_vm (i : Nat) : (bqS T cA cp N K v i).vm = T.vm := by
  induction i with
  | zero => rfl
  | succ i ih => exact ih
theorem bqS_at (i : Nat) : (bqS T cA cp N K v i).heap[T.heap.size]? = some (arrV cA N (bqR T.heap.size i)) := by
  cases i with
  | zero => exact State.heap_pushCell_size _ _
  | succ i =>
    have hlt : T.heap.size < ((bqS T cA cp N K v i).pushCell (arrV cp K (fun _ => v))).heap.size := by
      rw [State.heap_size_pushCell, bqS_sz]
      omega
    exact State.heap_setCell_self (Array.getElem?_eq_getElem hlt)
theorem bqS_other (i : Nat) {a : Nat} (ha : a ≠ T.heap.size) : (bqS T cA cp N K v (i + 1)).heap[a]? = ((bqS T cA cp N K v i).pushCell (arrV cp K (fun _ => v))).heap[a]? := State.heap_setCell_other (Ne.symm ha)
theorem bqS_old {a : Nat} (ha : a < T.heap.size) (i : Nat) : (bqS T cA cp N K v i).heap[a]? = T.heap[a]? := by
  induction i with
  | zero => exact State.heap_pushCell_of_lt _ _ ha
  | succ i ih =>
    have hlt : a < (bqS T cA cp N K v i).heap.size := by rw [bqS_sz]; omega
    rw [bqS_other T cA cp N K v i (Nat.ne_of_lt ha), State.heap_pushCell_of_lt (h := hlt), ih]
theorem bqS_in {j : Nat} (i : Nat) (hj : j < i) : (bqS T cA cp N K v i).heap[T.heap.size + 1 + j]? = some (arrV cp K (fun _ => v)) := by
  induction i with
  | zero => exact absurd hj (Nat.not_lt_zero _)
  | succ i ih =>
    rw [bqS_other T cA cp N K v i (by omega)]
    by_cases q : j = i
    · have hz := bqS_sz T cA cp N K v i
      rw [q, ← hz]
      exact State.heap_pushCell_size _ _
    · have hlt : T.heap.size + 1 + j < (bqS T cA cp N K v i).heap.size := by rw [bqS_sz]; omega
      rw [State.heap_pushCell_of_lt (h := hlt)]
      exact ih (by omega)
theorem bqS_top (f : JFrame) (i : Nat) : bqS (T.setTop f) cA cp N K v i = (bqS T cA cp N K v i).setTop f := by
  induction i with
  | zero => rfl
  | succ i ih =>
    simp only [bqS, ih, State.heap_setTop, State.pushCell_setTop, State.setCell_setTop]
theorem bqS_used (i : Nat) : (bqS T cA cp N K v i).slotsUsed = T.slotsUsed + N + i * K := by
  induction i with
  | zero => simp [bqS, arrV]
  | succ i ih =>
    simp [bqS, arrV, ih, Nat.succ_mul]
    omega
end BQS
theorem bq_stand {p : Program} {l : Launch} {e : Env} {R : Room} {s : State} {m : MethodId} {args : Array Value} {below : List Frame} {meth : Method} {c : Code} {T : State} {locs : List Loc} {cells slots : Nat} (X : Stand p l e R s m args below meth c T locs cells slots) (cA cp : ClassId) (N K : Nat) (v : Value) (i : Nat) :
    Stand p l e R s m args below meth c (bqS T cA cp N K v i) locs (cells + 1 + i) (slots + N + i * K) := by
  induction i with
  | zero =>
    have h := X.pushed (arrV cA N (bqR T.heap.size 0))
    rw [arrV_size] at h
    simpa [bqS] using h
  | succ i ih =>
    have hc : ((bqS T cA cp N K v i).pushCell (arrV cp K (fun _ => v))).heap[T.heap.size]? = some (arrV cA N (bqR T.heap.size i)) := by
      have hlt : T.heap.size < (bqS T cA cp N K v i).heap.size := by rw [bqS_sz]; omega
      rw [State.heap_pushCell_of_lt (h := hlt)]
      exact bqS_at T cA cp N K v i
    have h := (ih.pushed (arrV cp K (fun _ => v))).stored hc i (.ref (T.heap.size + 1 + i))
    rw [bq_upd, arrV_size] at h
    have h2 := Stand.forget (locs := locs) h (fun y hy => by
      have : y = ⟨T.heap.size, i⟩ := List.mem_singleton.mp hy
      rw [this]
      exact X.same.2.1)
    have e1 : slots + N + i * K + K = slots + N + (i + 1) * K := by rw [Nat.succ_mul]; omega
    rw [e1] at h2
    exact h2
section BQW
variable {E : CtlPost} {e : Env} {d : Bool} {acts : List Action} {T : State}
theorem bq_make1 {cp cc : ClassId} {kc : Class} {ty : FieldType} {k : Int32} (h1 : T.vm.classes[cp]? = some kc) (h2 : kc.kind = .array cc ty) (h3 : ¬ k < 0) (h4 : ¬ k.toNatClampNeg > e.platform.arrayLengthLimit) (h5 : ¬ k.toNatClampNeg * componentBytes ty > e.platform.maxHeapBytes) (h6 : fits ty (defaultValue ty) = true) (h7 : T.heap.size < e.platform.maxCells) (h8 : T.slotsUsed + k.toNatClampNeg ≤ e.platform.maxSlots)
    {Q : Addr → Pre} (hq : ∀ acts', Q T.heap.size d acts' (T.pushCell (arrV cp k.toNatClampNeg (fun _ => defaultValue ty)))) : Jvm.Sem.wp (Op.multianewarray.make cp [k]) Q E e d acts T := by
  rw [Op.multianewarray.make]
  simp only [wp_bind', Jvm.W.ite, h3, if_false, wp_pure', Jvm.W.theClass, h1, h2, Option.some.injEq, exists_eq_left']
  refine Jvm.W.newArray_of h1 h2 h4 h5 h7 h8 h6 (fun acts' => ?_)
  have := hq acts'
  rw [← arrV_new] at this
  exact this
theorem bq_make2 {cA cp cc : ClassId} {kA kc : Class} {ty : FieldType} {n k : Int32} (g1 : T.vm.classes[cA]? = some kA) (g2 : kA.kind = .array cp (.array ty)) (h1 : T.vm.classes[cp]? = some kc) (h2 : kc.kind = .array cc ty) (g3 : ¬ n < 0) (h3 : ¬ k < 0)
    (g4 : ¬ n.toNatClampNeg > e.platform.arrayLengthLimit) (g5 : ¬ n.toNatClampNeg * componentBytes (.array ty) > e.platform.maxHeapBytes) (h4 : ¬ k.toNatClampNeg > e.platform.arrayLengthLimit) (h5 : ¬ k.toNatClampNeg * componentBytes ty > e.platform.maxHeapBytes) (h6 : fits ty (defaultValue ty) = true)
    (h7 : T.heap.size + (1 + n.toNatClampNeg) ≤ e.platform.maxCells) (h8 : T.slotsUsed + (n.toNatClampNeg + n.toNatClampNeg * k.toNatClampNeg) ≤ e.platform.maxSlots)
    {Q : Addr → Pre} (hq : ∀ d' acts', Q T.heap.size d' acts' (bqS T cA cp n.toNatClampNeg k.toNatClampNeg (defaultValue ty) n.toNatClampNeg)) : Jvm.Sem.wp (Op.multianewarray.make cA [n, k]) Q E e d acts T := by
  generalize hN : n.toNatClampNeg = N at *
  generalize hK : k.toNatClampNeg = K at *
  rw [Op.multianewarray.make]
  simp only [wp_bind', Jvm.W.ite, g3, if_false, wp_pure', Jvm.W.theClass, g1, g2, Option.some.injEq, exists_eq_left', hN]
  have hz : 0 ≤ N * K := Nat.zero_le _
  refine Jvm.W.newArray_of g1 g2 g4 g5 (by omega) (by omega) rfl (fun acts' => ?_)
  have e0 : T.pushCell ({ cls := cA, slots := Array.replicate N .null } : Cell) = bqS T cA cp N K (defaultValue ty) 0 := by
    show T.pushCell _ = T.pushCell _
    congr 1
    exact (arrV_new cA N .null).trans (bz_arr (fun j _ => (if_neg (Nat.not_lt_zero j)).symm))
  rw [e0]
  have hnone : ([k].find? (· < 0)) = none := by simp [h3]
  simp only [hnone]
  rw [ite_self, wp_bind', Std.Legacy.Range.forIn_eq_forIn_range']
  have hsz : ([:N] : Std.Legacy.Range).size = N := by simp [Std.Legacy.Range.size]
  rw [hsz]
  refine wp_forIn_inv (fun rest U => ∃ i, rest = List.range' i (N - i) ∧ i ≤ N ∧ U = bqS T cA cp N K (defaultValue ty) i) _ _ ⟨0, rfl, Nat.zero_le _, rfl⟩ ?_ ?_
  · rintro x rest U d2 acts2 Q2 ⟨i, hl, hi, rfl⟩ hnext
    cases hd : N - i with
    | zero => rw [hd] at hl; cases hl
    | succ r =>
      rw [hd, List.range'_succ] at hl
      obtain ⟨hx, hrest⟩ := List.cons.inj hl
      subst hx
      have hlt : x < N := by omega
      have hxK : x * K + K ≤ N * K := by
        have := Nat.mul_le_mul_right K (show x + 1 ≤ N from hlt)
        rw [Nat.succ_mul] at this
        exact this
      simp only [wp_bind']
      refine bq_make1 (by rw [bqS_vm]; exact h1) h2 h3 (by rw [hK]; exact h4) (by rw [hK]; exact h5) h6 (by rw [bqS_sz]; omega) (by rw [bqS_used, hK]; omega) (fun acts3 => ?_)
      rw [hK]
      simp only [wp_bind', Jvm.W.writeLoc, wp_pure']
      refine ⟨arrV cA N (bqR T.heap.size x), ?_, fun q => (by cases q), by rw [arrV_size]; exact hlt, ?_, hnext _ _ _ ⟨x + 1, ?_, hlt, ?_⟩⟩
      · have hlt2 : T.heap.size < (bqS T cA cp N K (defaultValue ty) x).heap.size := by rw [bqS_sz]; omega
        rw [State.heap_pushCell_of_lt (h := hlt2)]
        exact bqS_at T cA cp N K (defaultValue ty) x
      · simp [State.fitsSlot, State.slotType?, arrV, bqS_vm, g1, g2, fits]
      · rw [hrest, show N - (x + 1) = r by omega]
      · rw [bqS_sz, bq_upd]
        rfl
  · rintro U d2 acts2 ⟨i, hl, hi, rfl⟩
    have hiN : i = N := by
      cases hd : N - i with
      | zero => omega
      | succ r => rw [hd, List.range'_succ] at hl; cases hl
    subst hiN
    simp only [wp_pure']
    exact hq _ _
end BQW
section BQM
variable {p : Program} {l : Launch} {e : Env} {R : Room} {s : State} {m : MethodId} {args : Array Value} {below : List Frame} {meth : Method} {c : Code} {H : Heap} {locs : List Loc} {cells slots : Nat} {Q : State → Prop}
/-- the instruction, over a walk -/
theorem bz_multi {cc : ByteArray} (hexec : p.tables.exec = Jvm.exec) (hb : c.code = cc) {own : String} {index : Nat} {ty : FieldType} (hown : s.vm.findClass own = some m.cls) (hclink : (Cond.classLink own index ("[" ++ (FieldType.array ty).toString)).before args s = true)
    (hover : (Cond.arrayOver (.array ty)).before args s = true) (harr : (Cond.arrayClass ty).before args s = true) {pc : Nat} {ls : Array Slot} {rest : List Value} (hdg : decode cc pc = .ok (.multianewarray index 2, 4)) {n k : Int32} {N K : Nat}
    (hn : ¬ n < 0) (hk : ¬ k < 0) (hN : n.toNatClampNeg = N) (hK : k.toNatClampNeg = K) (hb1 : N * 4 ≤ 536870912) (hb2 : K * componentBytes ty ≤ 536870912) (hb3 : K ≤ 536870912) (hdf : fits ty (defaultValue ty) = true) (hcells : cells + (1 + N) ≤ R.cells) (hslots : slots + (N + N * K) ≤ R.slots)
    (kk : ∀ (H1 : Heap) (cA cp : ClassId), (∀ q, q < H.size → H1[q]? = H[q]?) → H1.size = H.size + 1 + N → H1[H.size]? = some (arrV cA N (bqR H.size N)) → (∀ j, j < N → H1[H.size + 1 + j]? = some (arrV cp K (fun _ => defaultValue ty))) →
      s.vm.findClass ("[" ++ (FieldType.array ty).toString) = some cA → s.vm.findClass (FieldType.array ty).toString = some cp →
      W p l e R s m args below meth c H1 locs (cells + 1 + N) (slots + N + N * K) Q (F0 m (pc + 4) ls (.ref H.size :: rest))) :
    W p l e R s m args below meth c H locs cells slots Q (F0 m pc ls (.int k :: .int n :: rest)) := by
  intro T hT X
  subst hT; subst hb
  have hpl : e.platform.magicAccessors = ({} : Platform).magicAccessors := by rw [X.admits.platform]
  obtain ⟨cp, cA, kA, hcp, -, hkA, hkindA, hnameA⟩ := arrayOverA_spec hover
  obtain ⟨cp', kC, cc2, hcp', hkC, hkindC⟩ := Cond.arrayClass_spec harr
  have ecp : cp' = cp := Option.some.inj (hcp'.symm.trans hcp)
  subst ecp
  obtain ⟨c0, hfc0, hcl⟩ := Cond.classLink_spec hown hclink e.platform hpl
  cases hnameA.symm.trans hfc0
  obtain ⟨hg₁, hwarm₁, -⟩ := State.classEntry (e := e) X.warmed hcl
  generalize T.vm.noted m.cls index (.cls cA) = vm₁ at hg₁ hwarm₁
  obtain ⟨kA₁, hkA₁, heA⟩ := hwarm₁.alike.2.2 _ _ hkA
  obtain ⟨kC₁, hkC₁, heC⟩ := hwarm₁.alike.2.2 _ _ hkC
  have hkindA₁ : kA₁.kind = .array cp' (.array ty) := by rw [heA]; exact hkindA
  have hkindC₁ : kC₁.kind = .array cc2 ty := by rw [heC]; exact hkindC
  have X₁ := X.noted hwarm₁
  obtain ⟨hr1, hr2⟩ := X.roomAbove hcells hslots
  have XF := bq_stand X₁ cA cp' N K (defaultValue ty) N
  have e1 : cells + 1 + N = cells + 1 + N := rfl
  obtain ⟨t, a1, b1⟩ := kk (bqS (T.setVm vm₁) cA cp' N K (defaultValue ty) N).heap cA cp' (fun q hq => bqS_old (T.setVm vm₁) cA cp' N K (defaultValue ty) hq N) (bqS_sz (T.setVm vm₁) cA cp' N K (defaultValue ty) N) (bqS_at (T.setVm vm₁) cA cp' N K (defaultValue ty) N) (fun j hj => bqS_in (T.setVm vm₁) cA cp' N K (defaultValue ty) N hj) hnameA hcp _ rfl XF
  refine ⟨t, ?_, b1⟩
  have hl1 : ¬ n.toNatClampNeg > e.platform.arrayLengthLimit := by rw [Launch.admits_arrayLengthLimit X.admits]; omega
  have hh1 : ¬ n.toNatClampNeg * componentBytes (.array ty) > e.platform.maxHeapBytes := by
    rw [Launch.admits_maxHeapBytes X.admits, hN]; show ¬ N * 4 > 536870912; omega
  have hl2 : ¬ k.toNatClampNeg > e.platform.arrayLengthLimit := by rw [Launch.admits_arrayLengthLimit X.admits]; omega
  have hh2 : ¬ k.toNatClampNeg * componentBytes ty > e.platform.maxHeapBytes := by rw [Launch.admits_maxHeapBytes X.admits, hK]; omega
  jvm_step X.here [hexec, hdg]
  simp only [Op.multianewarray.sem, wp_bind', Jvm.W.resolveClassAt_links (State.method?_setTop (F0 m pc ls (.int k :: .int n :: rest)) X.here.top) hg₁]
  rw [Jvm.W.popN, if_neg (by decide)]
  refine ⟨F0 m pc ls (.int k :: .int n :: rest), State.topJava?_setTop' (s := T.setVm vm₁) _ X.here.top, [.int n, .int k], rest, rfl, rfl, ?_⟩
  simp only [List.mapM_cons, List.mapM_nil, wp_bind', wp_pure']
  refine bq_make2 (kA := kA₁) (kc := kC₁) (cp := cp') (cc := cc2) (ty := ty) hkA₁ hkindA₁ hkC₁ hkindC₁ hn hk hl1 hh1 hl2 hh2 hdf (by rw [hN]; exact hr1) (by rw [hN, hK]; exact hr2) (fun d' acts' => ?_)
  rw [hN, hK]
  have eS : ((T.setTop (F0 m pc ls (.int k :: .int n :: rest))).setVm vm₁).setTop { F0 m pc ls (.int k :: .int n :: rest) with stack := rest } = (T.setVm vm₁).setTop { F0 m pc ls (.int k :: .int n :: rest) with stack := rest } := by
    show ((T.setVm vm₁).setTop _).setTop _ = _
    rw [State.setTop_setTop]
  rw [eS, bqS_top]
  simp only [wp_bind', Jvm.W.mark, Jvm.W.pushRef, State.topJava?_setTop' _ XF.here.top, Option.some.injEq, exists_eq_left', State.setTop_setTop, State.heap_setTop]
  intro acts
  simp [jvm, XF.here.top]
  exact a1
end BQM
