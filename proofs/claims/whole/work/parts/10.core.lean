/-! ===== values, worlds ===== -/
abbrev wV : Type := Int ⊕ Int ⊕ Option Nat
abbrev wL : Type := List (Option wV)
abbrev wW : Type := Nat → Nat → Int
abbrev vi (z : Int) : wV := Sum.inl z
abbrev vl (z : Int) : wV := Sum.inr (Sum.inl z)
abbrev vr (k : Nat) : wV := Sum.inr (Sum.inr (some k))
def w_cv (ad : Nat → Nat) (v : wV) : Value := match v with
  | .inl z => .int (Int32.ofInt z)
  | .inr (.inl z) => .long (Int64.ofInt z)
  | .inr (.inr (some k)) => .ref (ad k)
  | .inr (.inr none) => .null
def w_cat (v : wV) : Nat := match v with
  | .inr (.inl _) => 2
  | _ => 1
theorem w_cat_cv (ad : Nat → Nat) (v : wV) : (w_cv ad v).category = w_cat v := by
  rcases v with z | z | k <;> first | rfl | (cases k <;> rfl)
def w_cats : List wV → Nat
  | [] => 0
  | v :: r => w_cat v + w_cats r
theorem w_cats_cv (ad : Nat → Nat) : ∀ st : List wV, ((st.map (w_cv ad)).map fun v => v.category).sum = w_cats st
  | [] => rfl
  | v :: r => by simp only [List.map_cons, List.sum_cons, w_cats, w_cat_cv, w_cats_cv ad r]
abbrev inI (z : Int) : Prop := -2147483648 ≤ z ∧ z ≤ 2147483647
abbrev inL (z : Int) : Prop := -9223372036854775808 ≤ z ∧ z ≤ 9223372036854775807
def w_up (w : wW) (k i : Nat) (v : Int) : wW := fun k' i' => if k' = k ∧ i' = i then v else w k' i'
def w_fv (w : wW) (a j ty : Nat) : wV := match ty with
  | 0 => vi (w a j)
  | 1 => vl (w a j)
  | 2 => vr (w_rf a j)
  | _ => vi (w a j)
def w_ce (ca : Nat → ClassId) (ad : Nat → Nat) (w : wW) (k : Nat) : va_E := match w_kd k with
  | 0 => .inl (ca 0, w_ln k, .inl (fun i => Int32.ofInt (w k i)))
  | 1 => .inl (ca 1, w_ln k, .inr (.inl (fun i => Int64.ofInt (w k i))))
  | 2 => .inl (ca 2, w_ln k, .inr (.inr (.inr (.inr (fun i => some (ad (k + 1 + i)))))))
  | 3 => .inl (ca 3, w_ln k, .inr (.inr (.inr (.inr (fun i => some (ad (k + 1 + i)))))))
  | kk => .inr (kk - 100, (List.range (w_ft (kk - 100)).length).map (fun j => w_cv ad (w_fv w k j ((w_ft (kk - 100)).getD j 0))))
def w_ws (ca : Nat → ClassId) (ad : Nat → Nat) (w : wW) : va_W := (List.range 157).map (fun k => (ad k, w_ce ca ad w k))
def w_A (ad : Nat → Nat) : Nat → Prop := fun q => ∃ k, k < 157 ∧ q = ad k
def w_J (ad : Nat → Nat) : Prop := ∀ i j, i < 157 → j < 157 → ad i = ad j → i = j
theorem w_ws_get {ca : Nat → ClassId} {ad : Nat → Nat} {w : wW} {k : Nat} (hk : k < 157) : (w_ws ca ad w)[k]? = some (ad k, w_ce ca ad w k) := by
  unfold w_ws
  rw [List.getElem?_map, List.getElem?_range hk]
  rfl
theorem w_ws_inv {ca : Nat → ClassId} {ad : Nat → Nat} {w : wW} {k : Nat} {q : Nat × va_E} (h : (w_ws ca ad w)[k]? = some q) : k < 157 ∧ q = (ad k, w_ce ca ad w k) := by
  have hl : k < 157 := by
    have := (List.getElem?_eq_some_iff.mp h).1
    simpa [w_ws] using this
  rw [w_ws_get hl] at h
  exact ⟨hl, (Option.some.inj h).symm⟩
theorem w_D {ca : Nat → ClassId} {ad : Nat → Nat} {w : wW} (h : w_J ad) : va_D (w_A ad) (w_ws ca ad w) := by
  refine ⟨fun i j p q hi hj hpq => ?_, fun k q hk => ?_⟩
  · obtain ⟨h1, rfl⟩ := w_ws_inv hi
    obtain ⟨h2, rfl⟩ := w_ws_inv hj
    exact h i j h1 h2 hpq
  · obtain ⟨h1, rfl⟩ := w_ws_inv hk
    exact ⟨k, h1, rfl⟩
theorem w_ws_set {ca : Nat → ClassId} {ad : Nat → Nat} {w w' : wW} {k : Nat} {e : va_E} (he : e = w_ce ca ad w' k) (ho : ∀ j, j ≠ k → w_ce ca ad w' j = w_ce ca ad w j) : (w_ws ca ad w).set k (ad k, e) = w_ws ca ad w' := by
  apply List.ext_getElem?
  intro j
  by_cases hj : j < 157
  · rw [w_ws_get hj, List.getElem?_set]
    by_cases h : k = j
    · subst h
      simp [w_ws, hj, he]
    · rw [if_neg h, w_ws_get hj, ho j (fun q => h q.symm)]
  · have h1 : ((w_ws ca ad w).set k (ad k, e))[j]? = none := by
      apply List.getElem?_eq_none
      simp [w_ws]
      omega
    have h2 : (w_ws ca ad w')[j]? = none := by
      apply List.getElem?_eq_none
      simp [w_ws]
      omega
    rw [h1, h2]
theorem w_ce_ne {ca : Nat → ClassId} {ad : Nat → Nat} {w : wW} {k i : Nat} {v : Int} {j : Nat} (h : j ≠ k) : w_ce ca ad (w_up w k i v) j = w_ce ca ad w j := by
  have e : ∀ i', w_up w k i v j i' = w j i' := fun i' => by simp [w_up, h]
  have e2 : ∀ jj ty, w_fv (w_up w k i v) j jj ty = w_fv w j jj ty := fun jj ty => by unfold w_fv; split <;> simp [e]
  unfold w_ce
  simp only [e, e2]
theorem w_ce_cong {ca : Nat → ClassId} {ad : Nat → Nat} {w w' : wW} {j : Nat} (e : ∀ i', w' j i' = w j i') : w_ce ca ad w' j = w_ce ca ad w j := by
  have e2 : ∀ jj ty, w_fv w' j jj ty = w_fv w j jj ty := fun jj ty => by unfold w_fv; split <;> simp [e]
  unfold w_ce
  simp only [e, e2]
/-- what a world is, in a heap -/
def w_R (D : va_G) (ca : Nat → ClassId) (ad : Nat → Nat) (w : wW) (H : Heap) : Prop := va_P D vwCl (w_ws ca ad w) H
def w_tys (ca : Nat → ClassId) : List (ClassId × FieldType) := [(ca 0, .int), (ca 1, .long), (ca 2, .array .int), (ca 3, .object RX4)]
def w_sv (q i : Nat) : Int := if q = 157 then (if i = 0 then 1 else 0) else ([20, 200, 9, 9, 9, 5, 9] : List Int).getD i 0
def w_Sta (ad : Nat → Nat) (U : State) (H : Heap) : Prop :=
  va_Z "HowBigTank" "LEAST" "[I" (.ref (ad 157)) (w_A ad) U H ∧ va_T .int (ad 157) 7 (fun i => .int (Int32.ofInt (w_sv 157 i))) (w_A ad) U H ∧
  va_Z "HowBigTank" "MOST" "[I" (.ref (ad 158)) (w_A ad) U H ∧ va_T .int (ad 158) 7 (fun i => .int (Int32.ofInt (w_sv 158 i))) (w_A ad) U H
theorem w_Sta.moved {ad : Nat → Nat} {u U : State} {H : Heap} (hvm : u.vm.Alike U.vm) (h : w_Sta ad u H) : w_Sta ad U H := ⟨h.1.moved hvm, h.2.1.moved hvm, h.2.2.1.moved hvm, h.2.2.2.moved hvm⟩
theorem w_Sta.kept {ad : Nat → Nat} {U : State} {H H1 : Heap} (h : w_Sta ad U H) (hq : ∀ a : Nat, a < H.size → ¬ w_A ad a → H1[a]? = H[a]?) : w_Sta ad U H1 := ⟨h.1.kept hq, h.2.1.kept hq, h.2.2.1.kept hq, h.2.2.2.kept hq⟩
/-! ===== locals ===== -/
def w_kp (L : wL) (i : Nat) : wL := match i with
  | 0 => L
  | j + 1 => match L[j]? with
    | some (some (.inr (.inl _))) => L.set j none
    | _ => L
def w_s1 (L : wL) (i : Nat) (v : wV) : wL := (w_kp L i).set i (some v)
def w_s2 (L : wL) (i : Nat) (v : wV) : wL := ((w_kp L i).set (i + 1) none).set i (some v)
def w_ld (L : wL) (i : Nat) : Option wV := match L[i]? with
  | some (some v) => some v
  | _ => none
def w_LH (ad : Nat → Nat) (nL : Nat) (L : wL) (ls : Array Slot) : Prop := L.length = nL ∧ ls.size = nL ∧ lv_wf ls ∧ ∀ (i : Nat) (v : wV), L[i]? = some (some v) → ls[i]? = some (Slot.val (w_cv ad v))
def w_lv (ad : Nat → Nat) (L : wL) : List (Nat × Value) := (List.range L.length).filterMap (fun i => (w_ld L i).map (fun v => (i, w_cv ad v)))
theorem w_ld_some {L : wL} {i : Nat} {v : wV} : w_ld L i = some v ↔ L[i]? = some (some v) := by
  unfold w_ld
  split
  · rename_i v' h
    rw [h]
    simp
  · rename_i h
    constructor
    · intro q; cases q
    · intro q; exact absurd q (h v)
theorem w_lv_mem {ad : Nat → Nat} {L : wL} {q : Nat × Value} : q ∈ w_lv ad L ↔ ∃ v, L[q.1]? = some (some v) ∧ q.2 = w_cv ad v := by
  unfold w_lv
  rw [List.mem_filterMap]
  constructor
  · rintro ⟨i, -, h⟩
    rw [Option.map_eq_some_iff] at h
    obtain ⟨v, h1, rfl⟩ := h
    exact ⟨v, w_ld_some.mp h1, rfl⟩
  · rintro ⟨v, h1, h2⟩
    refine ⟨q.1, ?_, ?_⟩
    · exact List.mem_range.mpr (List.getElem?_eq_some_iff.mp h1).1
    · rw [w_ld_some.mpr h1, Option.map_some, ← h2]
theorem w_LH.has {ad : Nat → Nat} {nL : Nat} {L : wL} {ls : Array Slot} (h : w_LH ad nL L ls) : lv_has ls nL (w_lv ad L) := by
  refine ⟨h.2.1, h.2.2.1, fun q hq => ?_⟩
  obtain ⟨v, h1, h2⟩ := w_lv_mem.mp hq
  rw [h2]
  exact h.2.2.2 q.1 v h1
theorem w_LH.ld {ad : Nat → Nat} {nL : Nat} {L : wL} {ls : Array Slot} (h : w_LH ad nL L ls) {i : Nat} {v : wV} (hv : w_ld L i = some v) : ls[i]? = some (.val (w_cv ad v)) := h.2.2.2 i v (w_ld_some.mp hv)
theorem w_kp_length (L : wL) (i : Nat) : (w_kp L i).length = L.length := by
  unfold w_kp
  split
  · rfl
  · split <;> simp
theorem w_kp_get {L : wL} {i j : Nat} {v : wV} (h : (w_kp L i)[j]? = some (some v)) : L[j]? = some (some v) ∧ ¬ (j + 1 = i ∧ w_cat v = 2) := by
  unfold w_kp at h
  split at h
  · exact ⟨h, fun q => by omega⟩
  · rename_i k
    split at h
    · rename_i z hz
      rw [List.getElem?_set] at h
      by_cases e : k = j
      · subst e
        rw [if_pos rfl] at h
        split at h <;> cases h
      · rw [if_neg e] at h
        exact ⟨h, fun q => by omega⟩
    · rename_i hz
      refine ⟨h, fun q => ?_⟩
      have e : j = k := by omega
      subst e
      rcases v with z | z | k'
      · exact absurd q.2 (by simp [w_cat])
      · exact hz z h
      · exact absurd q.2 (by simp [w_cat])
theorem w_LH.s1 {ad : Nat → Nat} {nL i : Nat} {L : wL} {ls ls' : Array Slot} {v : wV} (h : w_LH ad nL L ls) (h' : lv_has ls' nL ((i, w_cv ad v) :: (w_lv ad L).filter (fun q => !(q.1 == i) && !(q.1 + 1 == i && q.2.category == 2)))) : w_LH ad nL (w_s1 L i v) ls' := by
  refine ⟨by simp [w_s1, w_kp_length, h.1], h'.1, h'.2.1, fun j u hu => ?_⟩
  unfold w_s1 at hu
  rw [List.getElem?_set] at hu
  by_cases e : i = j
  · subst e
    rw [if_pos rfl] at hu
    split at hu
    · cases hu
      exact h'.2.2 _ List.mem_cons_self
    · cases hu
  · rw [if_neg e] at hu
    obtain ⟨g1, g2⟩ := w_kp_get hu
    refine h'.2.2 (j, w_cv ad u) (List.mem_cons_of_mem _ (List.mem_filter.mpr ⟨w_lv_mem.mpr ⟨u, g1, rfl⟩, ?_⟩))
    simp only [w_cat_cv]
    simp only [Bool.and_eq_true, Bool.not_eq_true', beq_eq_false_iff_ne, Bool.and_eq_false_iff]
    refine ⟨fun q => e q.symm, ?_⟩
    by_cases c : j + 1 = i
    · right
      intro q
      exact g2 ⟨c, q⟩
    · left
      exact c
theorem w_LH.s2 {ad : Nat → Nat} {nL i : Nat} {L : wL} {ls ls' : Array Slot} {v : wV} (h : w_LH ad nL L ls) (h' : lv_has ls' nL ((i, w_cv ad v) :: (w_lv ad L).filter (fun q => !(q.1 == i) && (!(q.1 == i + 1) && !(q.1 + 1 == i && q.2.category == 2))))) : w_LH ad nL (w_s2 L i v) ls' := by
  refine ⟨by simp [w_s2, w_kp_length, h.1], h'.1, h'.2.1, fun j u hu => ?_⟩
  unfold w_s2 at hu
  rw [List.getElem?_set] at hu
  by_cases e : i = j
  · subst e
    rw [if_pos rfl] at hu
    split at hu
    · cases hu
      exact h'.2.2 _ List.mem_cons_self
    · cases hu
  · rw [if_neg e, List.getElem?_set] at hu
    by_cases e1 : i + 1 = j
    · rw [if_pos e1] at hu
      split at hu <;> cases hu
    · rw [if_neg e1] at hu
      obtain ⟨g1, g2⟩ := w_kp_get hu
      refine h'.2.2 (j, w_cv ad u) (List.mem_cons_of_mem _ (List.mem_filter.mpr ⟨w_lv_mem.mpr ⟨u, g1, rfl⟩, ?_⟩))
      simp only [w_cat_cv]
      simp only [Bool.and_eq_true, Bool.not_eq_true', beq_eq_false_iff_ne, Bool.and_eq_false_iff]
      refine ⟨fun q => e q.symm, fun q => e1 q.symm, ?_⟩
      by_cases c : j + 1 = i
      · right
        intro q
        exact g2 ⟨c, q⟩
      · left
        exact c
/-! ===== one instruction ===== -/
def w_and (x y : Int) : Int := (Int32.ofInt x &&& Int32.ofInt y).toInt
def w_or (x y : Int) : Int := (Int32.ofInt x ||| Int32.ofInt y).toInt
def w_shl (x y : Int) : Int := (Int32.ofInt x <<< (Int32.ofInt y &&& 31)).toInt
def w_shr (x y : Int) : Int := (Int32.ofInt x >>> (Int32.ofInt y &&& 31)).toInt
def w_landl (x y : Int) : Int := (Int64.ofInt x &&& Int64.ofInt y).toInt
def w_lor (x y : Int) : Int := (Int64.ofInt x ||| Int64.ofInt y).toInt
def w_lushr (x y : Int) : Int := (((Int64.ofInt x).toUInt64 >>> ((Int32.ofInt y).toInt64.toUInt64 &&& Int64.toUInt64 63)).toInt64).toInt
def w_lshl (x y : Int) : Int := (Int64.ofInt x <<< ((Int32.ofInt y).toInt64 &&& 63)).toInt
def w_cmp (x y : Int) : Int := if x < y then -1 else if x = y then 0 else 1
/-- a method's frame of reference: its bytes, its answer's kind (0 none, 1 int, 2 long, 3 boolean), its links, its constants, its calls, what must hold at its end -/
abbrev wE : Type := Nat × Nat × Nat × (List wV → wW → Prop) × (List wV → wW → Int → wW → Prop)
abbrev wF : Type := ByteArray × Nat × List (Nat × Nat × Nat × Nat) × List (Nat × Nat) × List (Nat × Int) × List (Nat × Int) × List (Nat × wE) × (Int → wW → Prop)
abbrev wK : Type := Nat → wL → List wV → wW → Prop
def w_psh (rt : Nat) (r : Int) (st : List wV) : List wV := match rt with
  | 0 => st
  | 2 => vl r :: st
  | _ => vi r :: st
def w_call (F : wF) (kd idx pc : Nat) (L : wL) (st : List wV) (w : wW) (K : wK) : Prop := match w_lk F.2.2.2.2.2.2.1 idx with
  | some e => e.1 = kd ∧ e.2.1 ≤ st.length ∧ w_cats (st.drop e.2.1) ≤ 8 ∧ e.2.2.2.1 (st.take e.2.1).reverse w ∧ ∀ r w', e.2.2.2.2 (st.take e.2.1).reverse w r w' → K (pc + 3) L (w_psh e.2.2.1 r (st.drop e.2.1)) w'
  | none => False
def w_to (pc : Nat) (off : Int) : Nat := ((pc : Int) + off).toNat
def w_br (C : Prop) (pc : Nat) (off : Int) (L : wL) (st : List wV) (w : wW) (K : wK) : Prop := 0 ≤ (pc : Int) + off ∧ (C → K (w_to pc off) L st w) ∧ (¬ C → K (pc + 3) L st w)
def w_sw (x : Int) (pc : Nat) (L : wL) (st : List wV) (w : wW) (K : wK) : Int → List Int → Prop
  | _, [] => True
  | lo, o :: os => (x = lo → 0 ≤ (pc : Int) + o ∧ K (w_to pc o) L st w) ∧ w_sw x pc L st w K (lo + 1) os
def w_if (o : Jvm.ClassFile.Cond) (x y : Int) : Prop := match o with
  | .eq => x = y
  | .ne => ¬ x = y
  | .lt => x < y
  | .ge => y ≤ x
  | .gt => y < x
  | .le => x ≤ y
def w1 (F : wF) (K : wK) (i : Instr) (n pc : Nat) (L : wL) (st : List wV) (w : wW) : Prop := match i, st with
  | .iconst z, st => n = 1 ∧ K (pc + n) L (vi z :: st) w
  | .bipush z, st => n = 2 ∧ (-128 ≤ z ∧ z ≤ 127) ∧ K (pc + n) L (vi z :: st) w
  | .sipush z, st => n = 3 ∧ (-32768 ≤ z ∧ z ≤ 32767) ∧ K (pc + n) L (vi z :: st) w
  | .lconst z, st => n = 1 ∧ K (pc + n) L (vl (z : Nat) :: st) w
  | .ldc2_w j, st => match w_lk F.2.2.2.2.1 j with
    | some z => n = 3 ∧ K (pc + n) L (vl z :: st) w
    | none => False
  | .ldc j, st => match w_lk F.2.2.2.2.2.1 j with
    | some z => n = 2 ∧ K (pc + n) L (vi z :: st) w
    | none => False
  | .iload_n j, st => match w_ld L j with
    | some (.inl z) => n = 1 ∧ K (pc + n) L (vi z :: st) w
    | _ => False
  | .iload j, st => match w_ld L j with
    | some (.inl z) => n = 2 ∧ K (pc + n) L (vi z :: st) w
    | _ => False
  | .lload_n j, st => match w_ld L j with
    | some (.inr (.inl z)) => n = 1 ∧ K (pc + n) L (vl z :: st) w
    | _ => False
  | .lload j, st => match w_ld L j with
    | some (.inr (.inl z)) => n = 2 ∧ K (pc + n) L (vl z :: st) w
    | _ => False
  | .aload_n j, st => match w_ld L j with
    | some (.inr (.inr (some k))) => n = 1 ∧ K (pc + n) L (vr k :: st) w
    | _ => False
  | .aload j, st => match w_ld L j with
    | some (.inr (.inr (some k))) => n = 2 ∧ K (pc + n) L (vr k :: st) w
    | _ => False
  | .istore_n j, .inl z :: st => n = 1 ∧ (j : Nat) < L.length ∧ K (pc + n) (w_s1 L j (vi z)) st w
  | .istore j, .inl z :: st => n = 2 ∧ j < L.length ∧ K (pc + n) (w_s1 L j (vi z)) st w
  | .astore_n j, .inr (.inr (some k)) :: st => n = 1 ∧ (j : Nat) < L.length ∧ K (pc + n) (w_s1 L j (vr k)) st w
  | .astore j, .inr (.inr (some k)) :: st => n = 2 ∧ j < L.length ∧ K (pc + n) (w_s1 L j (vr k)) st w
  | .lstore_n j, .inr (.inl z) :: st => n = 1 ∧ (j : Nat) + 1 < L.length ∧ K (pc + n) (w_s2 L j (vl z)) st w
  | .lstore j, .inr (.inl z) :: st => n = 2 ∧ j + 1 < L.length ∧ K (pc + n) (w_s2 L j (vl z)) st w
  | .iinc j c, st => match w_ld L j with
    | some (.inl z) => n = 3 ∧ K (pc + n) (w_s1 L j (vi (z + c))) st w
    | _ => False
  | .iadd, .inl y :: .inl x :: st => n = 1 ∧ K (pc + n) L (vi (x + y) :: st) w
  | .isub, .inl y :: .inl x :: st => n = 1 ∧ K (pc + n) L (vi (x - y) :: st) w
  | .imul, .inl y :: .inl x :: st => n = 1 ∧ K (pc + n) L (vi (x * y) :: st) w
  | .idiv, .inl y :: .inl x :: st => n = 1 ∧ (inI x ∧ inI y ∧ y ≠ 0) ∧ K (pc + n) L (vi (x.tdiv y) :: st) w
  | .irem, .inl y :: .inl x :: st => n = 1 ∧ (inI x ∧ inI y ∧ y ≠ 0) ∧ K (pc + n) L (vi (x.tmod y) :: st) w
  | .iand, .inl y :: .inl x :: st => n = 1 ∧ K (pc + n) L (vi (w_and x y) :: st) w
  | .ior, .inl y :: .inl x :: st => n = 1 ∧ K (pc + n) L (vi (w_or x y) :: st) w
  | .ishl, .inl y :: .inl x :: st => n = 1 ∧ K (pc + n) L (vi (w_shl x y) :: st) w
  | .ishr, .inl y :: .inl x :: st => n = 1 ∧ K (pc + n) L (vi (w_shr x y) :: st) w
  | .ladd, .inr (.inl y) :: .inr (.inl x) :: st => n = 1 ∧ K (pc + n) L (vl (x + y) :: st) w
  | .lsub, .inr (.inl y) :: .inr (.inl x) :: st => n = 1 ∧ K (pc + n) L (vl (x - y) :: st) w
  | .lmul, .inr (.inl y) :: .inr (.inl x) :: st => n = 1 ∧ K (pc + n) L (vl (x * y) :: st) w
  | .ldiv, .inr (.inl y) :: .inr (.inl x) :: st => n = 1 ∧ (inL x ∧ inL y ∧ y ≠ 0) ∧ K (pc + n) L (vl (x.tdiv y) :: st) w
  | .lrem, .inr (.inl y) :: .inr (.inl x) :: st => n = 1 ∧ (inL x ∧ inL y ∧ y ≠ 0) ∧ K (pc + n) L (vl (x.tmod y) :: st) w
  | .land, .inr (.inl y) :: .inr (.inl x) :: st => n = 1 ∧ K (pc + n) L (vl (w_landl x y) :: st) w
  | .lor, .inr (.inl y) :: .inr (.inl x) :: st => n = 1 ∧ K (pc + n) L (vl (w_lor x y) :: st) w
  | .lushr, .inl y :: .inr (.inl x) :: st => n = 1 ∧ K (pc + n) L (vl (w_lushr x y) :: st) w
  | .lshl, .inl y :: .inr (.inl x) :: st => n = 1 ∧ K (pc + n) L (vl (w_lshl x y) :: st) w
  | .lcmp, .inr (.inl y) :: .inr (.inl x) :: st => n = 1 ∧ (inL x ∧ inL y) ∧ K (pc + n) L (vi (w_cmp x y) :: st) w
  | .i2l, .inl x :: st => n = 1 ∧ inI x ∧ K (pc + n) L (vl x :: st) w
  | .l2i, .inr (.inl x) :: st => n = 1 ∧ K (pc + n) L (vi x :: st) w
  | .dup, v :: st => n = 1 ∧ w_cat v = 1 ∧ K (pc + n) L (v :: v :: st) w
  | .dup2, .inr (.inl x) :: st => n = 1 ∧ K (pc + n) L (vl x :: vl x :: st) w
  | .dup2, v :: u :: st => n = 1 ∧ (w_cat v = 1 ∧ w_cat u = 1) ∧ K (pc + n) L (v :: u :: v :: u :: st) w
  | .pop, v :: st => n = 1 ∧ w_cat v = 1 ∧ K (pc + n) L st w
  | .pop2, .inr (.inl _) :: st => n = 1 ∧ K (pc + n) L st w
  | .ifCond o off, .inl x :: st => n = 3 ∧ inI x ∧ w_br (w_if o x 0) pc off L st w K
  | .if_icmp o off, .inl y :: .inl x :: st => n = 3 ∧ (inI x ∧ inI y) ∧ w_br (w_if o x y) pc off L st w K
  | .goto off, st => n = 3 ∧ 0 ≤ (pc : Int) + off ∧ K (w_to pc off) L st w
  | .tableswitch d lo hi offs, .inl x :: st => (inI x ∧ lo + offs.toList.length = hi + 1) ∧ (x < lo ∨ hi < x → 0 ≤ (pc : Int) + d ∧ K (w_to pc d) L st w) ∧ w_sw x pc L st w K lo offs.toList
  | .getfield j, .inr (.inr (some a)) :: st => match w_lk F.2.2.1 j with
    | some q => n = 3 ∧ w_kd a = 100 + q.1 ∧ K (pc + n) L (w_fv w a q.2.1 q.2.2 :: st) w
    | none => False
  | .putfield j, .inl z :: .inr (.inr (some a)) :: st => match w_lk F.2.2.1 j with
    | some q => n = 3 ∧ w_kd a = 100 + q.1 ∧ (q.2.2 = 0 ∨ (q.2.2 = 3 ∧ (z = 0 ∨ z = 1))) ∧ K (pc + n) L st (w_up w a q.2.1 z)
    | none => False
  | .putfield j, .inr (.inl z) :: .inr (.inr (some a)) :: st => match w_lk F.2.2.1 j with
    | some q => n = 3 ∧ w_kd a = 100 + q.1 ∧ q.2.2 = 1 ∧ K (pc + n) L st (w_up w a q.2.1 z)
    | none => False
  | .getstatic j, st => match w_lk F.2.2.2.1 j with
    | some k => n = 3 ∧ K (pc + n) L (vr k :: st) w
    | none => False
  | .iaload, .inl i :: .inr (.inr (some a)) :: st => n = 1 ∧ ((0 ≤ i ∧ i < w_ln a) ∧ ((w_kd a = 0 ∧ K (pc + n) L (vi (w a i.toNat) :: st) w) ∨ (w_kd a = 4 ∧ (a = 157 ∨ a = 158) ∧ K (pc + n) L (vi (w_sv a i.toNat) :: st) w)))
  | .laload, .inl i :: .inr (.inr (some a)) :: st => n = 1 ∧ (0 ≤ i ∧ i < w_ln a) ∧ w_kd a = 1 ∧ K (pc + n) L (vl (w a i.toNat) :: st) w
  | .aaload, .inl i :: .inr (.inr (some a)) :: st => n = 1 ∧ ((0 ≤ i ∧ i < w_ln a) ∧ (w_kd a = 2 ∨ w_kd a = 3) ∧ K (pc + n) L (vr (a + 1 + i.toNat) :: st) w)
  | .iastore, .inl v :: .inl i :: .inr (.inr (some a)) :: st => n = 1 ∧ (0 ≤ i ∧ i < w_ln a) ∧ w_kd a = 0 ∧ K (pc + n) L st (w_up w a i.toNat v)
  | .lastore, .inr (.inl v) :: .inl i :: .inr (.inr (some a)) :: st => n = 1 ∧ (0 ≤ i ∧ i < w_ln a) ∧ w_kd a = 1 ∧ K (pc + n) L st (w_up w a i.toNat v)
  | .arraylength, .inr (.inr (some a)) :: st => n = 1 ∧ ((w_kd a = 0 ∨ w_kd a = 1) ∧ K (pc + n) L (vi (w_ln a) :: st) w)
  | .invokevirtual j, st => n = 3 ∧ w_call F 0 j pc L st w K
  | .invokestatic j, st => n = 3 ∧ w_call F 1 j pc L st w K
  | .ireturn, [.inl z] => n = 1 ∧ ((F.2.1 = 1 ∨ (F.2.1 = 3 ∧ (z = 0 ∨ z = 1))) ∧ F.2.2.2.2.2.2.2 z w)
  | .lreturn, [.inr (.inl z)] => n = 1 ∧ F.2.1 = 2 ∧ F.2.2.2.2.2.2.2 z w
  | .return_, [] => n = 1 ∧ F.2.1 = 0 ∧ F.2.2.2.2.2.2.2 0 w
  | _, _ => False
/-- the walk: at most f instructions on, up to one of the places of stp (not at the first) -/
def wp (F : wF) (G : wK) (stp : List Nat) : Nat → Nat → wL → List wV → wW → Prop
  | 0, pc, L, st, w => G pc L st w
  | f + 1, pc, L, st, w => match decode F.1 pc with
    | .ok (i, n) => w1 F (fun pc' L' st' w' => if stp.contains pc' = true then G pc' L' st' w' else wp F G stp f pc' L' st' w') i n pc L st w
    | _ => False
/-- what a walk may rest on -/
def wS (F : wF) (G : wK) : Prop := ∀ (stp : List Nat) (f pc : Nat) (L : wL) (st : List wV) (w : wW), wp F G stp f pc L st w → G pc L st w
def wS1 (F : wF) (G : wK) : Prop := ∀ (pc : Nat) (i : Instr) (n : Nat) (L : wL) (st : List wV) (w : wW), decode F.1 pc = .ok (i, n) → w1 F G i n pc L st w → G pc L st w
