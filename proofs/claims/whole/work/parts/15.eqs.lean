section WEQ
variable {F : wF} {K : wK} {n pc : Nat} {L : wL} {st : List wV} {w : wW}
theorem w1_iconst {z : Int} : w1 F K (.iconst z) n pc L (st) w = (n = 1 ∧ K (pc + n) L (vi z :: st) w) := rfl
theorem w1_bipush {z : Int} : w1 F K (.bipush z) n pc L (st) w = (n = 2 ∧ (-128 ≤ z ∧ z ≤ 127) ∧ K (pc + n) L (vi z :: st) w) := rfl
theorem w1_sipush {z : Int} : w1 F K (.sipush z) n pc L (st) w = (n = 3 ∧ (-32768 ≤ z ∧ z ≤ 32767) ∧ K (pc + n) L (vi z :: st) w) := rfl
theorem w1_lconst {z : Fin 2} : w1 F K (.lconst z) n pc L (st) w = (n = 1 ∧ K (pc + n) L (vl (z : Nat) :: st) w) := rfl
theorem w1_ldc2_w {j : Nat} : w1 F K (.ldc2_w j) n pc L (st) w = (match w_lk F.2.2.2.2.1 j with
    | some z => n = 3 ∧ K (pc + n) L (vl z :: st) w
    | none => False) := rfl
theorem w1_ldc {j : Nat} : w1 F K (.ldc j) n pc L (st) w = (match w_lk F.2.2.2.2.2.1 j with
    | some z => n = 2 ∧ K (pc + n) L (vi z :: st) w
    | none => False) := rfl
theorem w1_iload_n_0 : w1 F K (.iload_n 0) n pc L (st) w = (match w_ld L 0 with
    | some (.inl z) => n = 1 ∧ K (pc + n) L (vi z :: st) w
    | _ => False) := rfl
theorem w1_iload_n_1 : w1 F K (.iload_n 1) n pc L (st) w = (match w_ld L 1 with
    | some (.inl z) => n = 1 ∧ K (pc + n) L (vi z :: st) w
    | _ => False) := rfl
theorem w1_iload_n_2 : w1 F K (.iload_n 2) n pc L (st) w = (match w_ld L 2 with
    | some (.inl z) => n = 1 ∧ K (pc + n) L (vi z :: st) w
    | _ => False) := rfl
theorem w1_iload_n_3 : w1 F K (.iload_n 3) n pc L (st) w = (match w_ld L 3 with
    | some (.inl z) => n = 1 ∧ K (pc + n) L (vi z :: st) w
    | _ => False) := rfl
theorem w1_iload {j : Nat} : w1 F K (.iload j) n pc L (st) w = (match w_ld L j with
    | some (.inl z) => n = 2 ∧ K (pc + n) L (vi z :: st) w
    | _ => False) := rfl
theorem w1_lload_n_0 : w1 F K (.lload_n 0) n pc L (st) w = (match w_ld L 0 with
    | some (.inr (.inl z)) => n = 1 ∧ K (pc + n) L (vl z :: st) w
    | _ => False) := rfl
theorem w1_lload_n_1 : w1 F K (.lload_n 1) n pc L (st) w = (match w_ld L 1 with
    | some (.inr (.inl z)) => n = 1 ∧ K (pc + n) L (vl z :: st) w
    | _ => False) := rfl
theorem w1_lload_n_2 : w1 F K (.lload_n 2) n pc L (st) w = (match w_ld L 2 with
    | some (.inr (.inl z)) => n = 1 ∧ K (pc + n) L (vl z :: st) w
    | _ => False) := rfl
theorem w1_lload_n_3 : w1 F K (.lload_n 3) n pc L (st) w = (match w_ld L 3 with
    | some (.inr (.inl z)) => n = 1 ∧ K (pc + n) L (vl z :: st) w
    | _ => False) := rfl
theorem w1_lload {j : Nat} : w1 F K (.lload j) n pc L (st) w = (match w_ld L j with
    | some (.inr (.inl z)) => n = 2 ∧ K (pc + n) L (vl z :: st) w
    | _ => False) := rfl
theorem w1_aload_n_0 : w1 F K (.aload_n 0) n pc L (st) w = (match w_ld L 0 with
    | some (.inr (.inr (some k))) => n = 1 ∧ K (pc + n) L (vr k :: st) w
    | _ => False) := rfl
theorem w1_aload_n_1 : w1 F K (.aload_n 1) n pc L (st) w = (match w_ld L 1 with
    | some (.inr (.inr (some k))) => n = 1 ∧ K (pc + n) L (vr k :: st) w
    | _ => False) := rfl
theorem w1_aload_n_2 : w1 F K (.aload_n 2) n pc L (st) w = (match w_ld L 2 with
    | some (.inr (.inr (some k))) => n = 1 ∧ K (pc + n) L (vr k :: st) w
    | _ => False) := rfl
theorem w1_aload_n_3 : w1 F K (.aload_n 3) n pc L (st) w = (match w_ld L 3 with
    | some (.inr (.inr (some k))) => n = 1 ∧ K (pc + n) L (vr k :: st) w
    | _ => False) := rfl
theorem w1_aload {j : Nat} : w1 F K (.aload j) n pc L (st) w = (match w_ld L j with
    | some (.inr (.inr (some k))) => n = 2 ∧ K (pc + n) L (vr k :: st) w
    | _ => False) := rfl
theorem w1_istore_n_0 {z : Int} : w1 F K (.istore_n 0) n pc L (.inl z :: st) w = (n = 1 ∧ 0 < L.length ∧ K (pc + n) (w_s1 L 0 (vi z)) st w) := rfl
theorem w1_istore_n_1 {z : Int} : w1 F K (.istore_n 1) n pc L (.inl z :: st) w = (n = 1 ∧ 1 < L.length ∧ K (pc + n) (w_s1 L 1 (vi z)) st w) := rfl
theorem w1_istore_n_2 {z : Int} : w1 F K (.istore_n 2) n pc L (.inl z :: st) w = (n = 1 ∧ 2 < L.length ∧ K (pc + n) (w_s1 L 2 (vi z)) st w) := rfl
theorem w1_istore_n_3 {z : Int} : w1 F K (.istore_n 3) n pc L (.inl z :: st) w = (n = 1 ∧ 3 < L.length ∧ K (pc + n) (w_s1 L 3 (vi z)) st w) := rfl
theorem w1_istore {j : Nat} {z : Int} : w1 F K (.istore j) n pc L (.inl z :: st) w = (n = 2 ∧ j < L.length ∧ K (pc + n) (w_s1 L j (vi z)) st w) := rfl
theorem w1_astore_n_0 {k : Nat} : w1 F K (.astore_n 0) n pc L (.inr (.inr (some k)) :: st) w = (n = 1 ∧ 0 < L.length ∧ K (pc + n) (w_s1 L 0 (vr k)) st w) := rfl
theorem w1_astore_n_1 {k : Nat} : w1 F K (.astore_n 1) n pc L (.inr (.inr (some k)) :: st) w = (n = 1 ∧ 1 < L.length ∧ K (pc + n) (w_s1 L 1 (vr k)) st w) := rfl
theorem w1_astore_n_2 {k : Nat} : w1 F K (.astore_n 2) n pc L (.inr (.inr (some k)) :: st) w = (n = 1 ∧ 2 < L.length ∧ K (pc + n) (w_s1 L 2 (vr k)) st w) := rfl
theorem w1_astore_n_3 {k : Nat} : w1 F K (.astore_n 3) n pc L (.inr (.inr (some k)) :: st) w = (n = 1 ∧ 3 < L.length ∧ K (pc + n) (w_s1 L 3 (vr k)) st w) := rfl
theorem w1_astore {j : Nat} {k : Nat} : w1 F K (.astore j) n pc L (.inr (.inr (some k)) :: st) w = (n = 2 ∧ j < L.length ∧ K (pc + n) (w_s1 L j (vr k)) st w) := rfl
theorem w1_lstore_n_0 {z : Int} : w1 F K (.lstore_n 0) n pc L (.inr (.inl z) :: st) w = (n = 1 ∧ 0 + 1 < L.length ∧ K (pc + n) (w_s2 L 0 (vl z)) st w) := rfl
theorem w1_lstore_n_1 {z : Int} : w1 F K (.lstore_n 1) n pc L (.inr (.inl z) :: st) w = (n = 1 ∧ 1 + 1 < L.length ∧ K (pc + n) (w_s2 L 1 (vl z)) st w) := rfl
theorem w1_lstore_n_2 {z : Int} : w1 F K (.lstore_n 2) n pc L (.inr (.inl z) :: st) w = (n = 1 ∧ 2 + 1 < L.length ∧ K (pc + n) (w_s2 L 2 (vl z)) st w) := rfl
theorem w1_lstore_n_3 {z : Int} : w1 F K (.lstore_n 3) n pc L (.inr (.inl z) :: st) w = (n = 1 ∧ 3 + 1 < L.length ∧ K (pc + n) (w_s2 L 3 (vl z)) st w) := rfl
theorem w1_lstore {j : Nat} {z : Int} : w1 F K (.lstore j) n pc L (.inr (.inl z) :: st) w = (n = 2 ∧ j + 1 < L.length ∧ K (pc + n) (w_s2 L j (vl z)) st w) := rfl
theorem w1_iinc {j : Nat} {c : Int} : w1 F K (.iinc j c) n pc L (st) w = (match w_ld L j with
    | some (.inl z) => n = 3 ∧ K (pc + n) (w_s1 L j (vi (z + c))) st w
    | _ => False) := rfl
theorem w1_iadd  {x : Int} {y : Int} : w1 F K (.iadd) n pc L (.inl y :: .inl x :: st) w = (n = 1 ∧ K (pc + n) L (vi (x + y) :: st) w) := rfl
theorem w1_isub  {x : Int} {y : Int} : w1 F K (.isub) n pc L (.inl y :: .inl x :: st) w = (n = 1 ∧ K (pc + n) L (vi (x - y) :: st) w) := rfl
theorem w1_imul  {x : Int} {y : Int} : w1 F K (.imul) n pc L (.inl y :: .inl x :: st) w = (n = 1 ∧ K (pc + n) L (vi (x * y) :: st) w) := rfl
theorem w1_idiv  {x : Int} {y : Int} : w1 F K (.idiv) n pc L (.inl y :: .inl x :: st) w = (n = 1 ∧ (inI x ∧ inI y ∧ y ≠ 0) ∧ K (pc + n) L (vi (x.tdiv y) :: st) w) := rfl
theorem w1_irem  {x : Int} {y : Int} : w1 F K (.irem) n pc L (.inl y :: .inl x :: st) w = (n = 1 ∧ (inI x ∧ inI y ∧ y ≠ 0) ∧ K (pc + n) L (vi (x.tmod y) :: st) w) := rfl
theorem w1_iand  {x : Int} {y : Int} : w1 F K (.iand) n pc L (.inl y :: .inl x :: st) w = (n = 1 ∧ K (pc + n) L (vi (w_and x y) :: st) w) := rfl
theorem w1_ior  {x : Int} {y : Int} : w1 F K (.ior) n pc L (.inl y :: .inl x :: st) w = (n = 1 ∧ K (pc + n) L (vi (w_or x y) :: st) w) := rfl
theorem w1_ishl  {x : Int} {y : Int} : w1 F K (.ishl) n pc L (.inl y :: .inl x :: st) w = (n = 1 ∧ K (pc + n) L (vi (w_shl x y) :: st) w) := rfl
theorem w1_ishr  {x : Int} {y : Int} : w1 F K (.ishr) n pc L (.inl y :: .inl x :: st) w = (n = 1 ∧ K (pc + n) L (vi (w_shr x y) :: st) w) := rfl
theorem w1_ladd  {x : Int} {y : Int} : w1 F K (.ladd) n pc L (.inr (.inl y) :: .inr (.inl x) :: st) w = (n = 1 ∧ K (pc + n) L (vl (x + y) :: st) w) := rfl
theorem w1_lsub  {x : Int} {y : Int} : w1 F K (.lsub) n pc L (.inr (.inl y) :: .inr (.inl x) :: st) w = (n = 1 ∧ K (pc + n) L (vl (x - y) :: st) w) := rfl
theorem w1_lmul  {x : Int} {y : Int} : w1 F K (.lmul) n pc L (.inr (.inl y) :: .inr (.inl x) :: st) w = (n = 1 ∧ K (pc + n) L (vl (x * y) :: st) w) := rfl
theorem w1_ldiv  {x : Int} {y : Int} : w1 F K (.ldiv) n pc L (.inr (.inl y) :: .inr (.inl x) :: st) w = (n = 1 ∧ (inL x ∧ inL y ∧ y ≠ 0) ∧ K (pc + n) L (vl (x.tdiv y) :: st) w) := rfl
theorem w1_lrem  {x : Int} {y : Int} : w1 F K (.lrem) n pc L (.inr (.inl y) :: .inr (.inl x) :: st) w = (n = 1 ∧ (inL x ∧ inL y ∧ y ≠ 0) ∧ K (pc + n) L (vl (x.tmod y) :: st) w) := rfl
theorem w1_land  {x : Int} {y : Int} : w1 F K (.land) n pc L (.inr (.inl y) :: .inr (.inl x) :: st) w = (n = 1 ∧ K (pc + n) L (vl (w_landl x y) :: st) w) := rfl
theorem w1_lor  {x : Int} {y : Int} : w1 F K (.lor) n pc L (.inr (.inl y) :: .inr (.inl x) :: st) w = (n = 1 ∧ K (pc + n) L (vl (w_lor x y) :: st) w) := rfl
theorem w1_lushr  {x : Int} {y : Int} : w1 F K (.lushr) n pc L (.inl y :: .inr (.inl x) :: st) w = (n = 1 ∧ K (pc + n) L (vl (w_lushr x y) :: st) w) := rfl
theorem w1_lshl  {x : Int} {y : Int} : w1 F K (.lshl) n pc L (.inl y :: .inr (.inl x) :: st) w = (n = 1 ∧ K (pc + n) L (vl (w_lshl x y) :: st) w) := rfl
theorem w1_lcmp  {x : Int} {y : Int} : w1 F K (.lcmp) n pc L (.inr (.inl y) :: .inr (.inl x) :: st) w = (n = 1 ∧ (inL x ∧ inL y) ∧ K (pc + n) L (vi (w_cmp x y) :: st) w) := rfl
theorem w1_i2l  {x : Int} : w1 F K (.i2l) n pc L (.inl x :: st) w = (n = 1 ∧ inI x ∧ K (pc + n) L (vl x :: st) w) := rfl
theorem w1_l2i  {x : Int} : w1 F K (.l2i) n pc L (.inr (.inl x) :: st) w = (n = 1 ∧ K (pc + n) L (vi x :: st) w) := rfl
theorem w1_dup  {v : wV} : w1 F K (.dup) n pc L (v :: st) w = (n = 1 ∧ w_cat v = 1 ∧ K (pc + n) L (v :: v :: st) w) := rfl
theorem w1_dup2  {x : Int} : w1 F K (.dup2) n pc L (.inr (.inl x) :: st) w = (n = 1 ∧ K (pc + n) L (vl x :: vl x :: st) w) := rfl
theorem w1_dup2i {x : Int} {u : wV} : w1 F K (.dup2) n pc L ((.inl x) :: u :: st) w = (n = 1 ∧ (w_cat (.inl x : wV) = 1 ∧ w_cat u = 1) ∧ K (pc + n) L ((.inl x) :: u :: (.inl x) :: u :: st) w) := rfl
theorem w1_dup2r {x : Option Nat} {u : wV} : w1 F K (.dup2) n pc L ((.inr (.inr x)) :: u :: st) w = (n = 1 ∧ (w_cat (.inr (.inr x) : wV) = 1 ∧ w_cat u = 1) ∧ K (pc + n) L ((.inr (.inr x)) :: u :: (.inr (.inr x)) :: u :: st) w) := rfl
theorem w1_pop  {v : wV} : w1 F K (.pop) n pc L (v :: st) w = (n = 1 ∧ w_cat v = 1 ∧ K (pc + n) L st w) := rfl
theorem w1_pop2  {z : Int} : w1 F K (.pop2) n pc L (.inr (.inl z) :: st) w = (n = 1 ∧ K (pc + n) L st w) := rfl
theorem w1_ifCond {o : Jvm.ClassFile.Cond} {off : Int} {x : Int} : w1 F K (.ifCond o off) n pc L (.inl x :: st) w = (n = 3 ∧ inI x ∧ w_br (w_if o x 0) pc off L st w K) := rfl
theorem w1_if_icmp {o : Jvm.ClassFile.Cond} {off : Int} {x : Int} {y : Int} : w1 F K (.if_icmp o off) n pc L (.inl y :: .inl x :: st) w = (n = 3 ∧ (inI x ∧ inI y) ∧ w_br (w_if o x y) pc off L st w K) := rfl
theorem w1_goto {off : Int} : w1 F K (.goto off) n pc L (st) w = (n = 3 ∧ 0 ≤ (pc : Int) + off ∧ K (w_to pc off) L st w) := rfl
theorem w1_tableswitch {d lo hi : Int} {offs : Array Int} {x : Int} : w1 F K (.tableswitch d lo hi offs) n pc L (.inl x :: st) w = ((inI x ∧ lo + offs.toList.length = hi + 1) ∧ (x < lo ∨ hi < x → 0 ≤ (pc : Int) + d ∧ K (w_to pc d) L st w) ∧ w_sw x pc L st w K lo offs.toList) := rfl
theorem w1_getfield {j : Nat} {a : Nat} : w1 F K (.getfield j) n pc L (.inr (.inr (some a)) :: st) w = (match w_lk F.2.2.1 j with
    | some q => n = 3 ∧ w_kd a = 100 + q.1 ∧ K (pc + n) L (w_fv w a q.2.1 q.2.2 :: st) w
    | none => False) := rfl
theorem w1_putfield {j : Nat} {a : Nat} {z : Int} : w1 F K (.putfield j) n pc L (.inl z :: .inr (.inr (some a)) :: st) w = (match w_lk F.2.2.1 j with
    | some q => n = 3 ∧ w_kd a = 100 + q.1 ∧ (q.2.2 = 0 ∨ (q.2.2 = 3 ∧ (z = 0 ∨ z = 1))) ∧ K (pc + n) L st (w_up w a q.2.1 z)
    | none => False) := rfl
theorem w1_putfield2 {j : Nat} {a : Nat} {z : Int} : w1 F K (.putfield j) n pc L (.inr (.inl z) :: .inr (.inr (some a)) :: st) w = (match w_lk F.2.2.1 j with
    | some q => n = 3 ∧ w_kd a = 100 + q.1 ∧ q.2.2 = 1 ∧ K (pc + n) L st (w_up w a q.2.1 z)
    | none => False) := rfl
theorem w1_getstatic {j : Nat} : w1 F K (.getstatic j) n pc L (st) w = (match w_lk F.2.2.2.1 j with
    | some k => n = 3 ∧ K (pc + n) L (vr k :: st) w
    | none => False) := rfl
theorem w1_iaload  {a : Nat} {i : Int} : w1 F K (.iaload) n pc L (.inl i :: .inr (.inr (some a)) :: st) w = (n = 1 ∧ ((0 ≤ i ∧ i < w_ln a) ∧ ((w_kd a = 0 ∧ K (pc + n) L (vi (w a i.toNat) :: st) w) ∨ (w_kd a = 4 ∧ (a = 157 ∨ a = 158) ∧ K (pc + n) L (vi (w_sv a i.toNat) :: st) w)))) := rfl
theorem w1_laload  {a : Nat} {i : Int} : w1 F K (.laload) n pc L (.inl i :: .inr (.inr (some a)) :: st) w = (n = 1 ∧ (0 ≤ i ∧ i < w_ln a) ∧ w_kd a = 1 ∧ K (pc + n) L (vl (w a i.toNat) :: st) w) := rfl
theorem w1_aaload  {a : Nat} {i : Int} : w1 F K (.aaload) n pc L (.inl i :: .inr (.inr (some a)) :: st) w = (n = 1 ∧ ((0 ≤ i ∧ i < w_ln a) ∧ (w_kd a = 2 ∨ w_kd a = 3) ∧ K (pc + n) L (vr (a + 1 + i.toNat) :: st) w)) := rfl
theorem w1_iastore  {a : Nat} {i : Int} {v : Int} : w1 F K (.iastore) n pc L (.inl v :: .inl i :: .inr (.inr (some a)) :: st) w = (n = 1 ∧ (0 ≤ i ∧ i < w_ln a) ∧ w_kd a = 0 ∧ K (pc + n) L st (w_up w a i.toNat v)) := rfl
theorem w1_lastore  {a : Nat} {i : Int} {v : Int} : w1 F K (.lastore) n pc L (.inr (.inl v) :: .inl i :: .inr (.inr (some a)) :: st) w = (n = 1 ∧ (0 ≤ i ∧ i < w_ln a) ∧ w_kd a = 1 ∧ K (pc + n) L st (w_up w a i.toNat v)) := rfl
theorem w1_arraylength  {a : Nat} : w1 F K (.arraylength) n pc L (.inr (.inr (some a)) :: st) w = (n = 1 ∧ ((w_kd a = 0 ∨ w_kd a = 1) ∧ K (pc + n) L (vi (w_ln a) :: st) w)) := rfl
theorem w1_invokevirtual {j : Nat} : w1 F K (.invokevirtual j) n pc L (st) w = (n = 3 ∧ w_call F 0 j pc L st w K) := rfl
theorem w1_invokestatic {j : Nat} : w1 F K (.invokestatic j) n pc L (st) w = (n = 3 ∧ w_call F 1 j pc L st w K) := rfl
theorem w1_ireturn  {z : Int} : w1 F K (.ireturn) n pc L ([.inl z]) w = (n = 1 ∧ ((F.2.1 = 1 ∨ (F.2.1 = 3 ∧ (z = 0 ∨ z = 1))) ∧ F.2.2.2.2.2.2.2 z w)) := rfl
theorem w1_lreturn  {z : Int} : w1 F K (.lreturn) n pc L ([.inr (.inl z)]) w = (n = 1 ∧ F.2.1 = 2 ∧ F.2.2.2.2.2.2.2 z w) := rfl
theorem w1_return  : w1 F K (.return_) n pc L ([]) w = (n = 1 ∧ F.2.1 = 0 ∧ F.2.2.2.2.2.2.2 0 w) := rfl
def wk (F : wF) (G : wK) (stp : List Nat) (f : Nat) : wK := fun pc L st w => if stp.contains pc = true then G pc L st w else wp F G stp f pc L st w
theorem wk_s {G : wK} {stp : List Nat} {f : Nat} : wk F G stp f pc L st w = if stp.contains pc = true then G pc L st w else wp F G stp f pc L st w := rfl
theorem wp_s {G : wK} {stp : List Nat} {f : Nat} (h : (f == 0) = false) : wp F G stp f pc L st w = (match decode F.1 pc with
    | .ok (i, n) => w1 F (wk F G stp (f - 1)) i n pc L st w
    | _ => False) := by
  cases f with
  | zero => cases h
  | succ f => rfl
theorem w_lk_c {α : Type} {i j : Nat} {x : α} {L : List (Nat × α)} : w_lk ((i, x) :: L) j = if i = j then some x else w_lk L j := by
  unfold w_lk
  by_cases h : i = j
  · simp [h]
  · simp [h]
theorem w_ld0 {v : Option wV} {L : wL} : w_ld (v :: L) 0 = v := by
  unfold w_ld
  cases v <;> rfl
theorem w_ldS {v : Option wV} {L : wL} {i : Nat} : w_ld (v :: L) (i + 1) = w_ld L i := by
  unfold w_ld
  simp
theorem w_kp0 : w_kp L 0 = L := rfl
end WEQ
