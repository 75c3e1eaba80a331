/-! the reference's searches -/
theorem okr_rMS {S w : wW} {r m : Nat} {Z lv wet : Int} (hS : hR S) (hr : mrR w r) (h3 : ¬ w 141 r = 3) (hm : m < 12) (hl : 0 ≤ lv ∧ lv ≤ Z) (hw : wet = 0 ∨ wet = 1) : okr S Z (rMS S w r m lv wet) m lv :=
  okr_like (rM_S (Z := Z) hS (w1 := w) (fun _ _ _ _ => rfl) (fun q => absurd q h3) m hm lv wet hl hw) (fun _ _ => by show (0 : Int) ≤ 200; decide) (okr_rM hS hr (fun q => absurd q h3) hm hl hw)
theorem rMS_c {S w w1 : wW} (he : ∀ k i, 141 ≤ k → k ≤ 143 → w1 k i = w k i) (r : Nat) : rMS S w1 r = rMS S w r := by
  funext m lv wet j
  unfold rMS
  rw [he 141 _ (by decide) (by decide), he 142 _ (by decide) (by decide), he 143 _ (by decide) (by decide)]
theorem mse_in {S : wW} {R : Nat → Int → Int → Nat → Int} {price roof : Int} {e s : Nat} (hy : yR S) (hok : okE (runE S (S 0 0 + e) s R) (monthsF S)) (hp : 0 ≤ price ∧ price ≤ 99) (hf : 0 ≤ roof ∧ roof ≤ 99) (he : e ≤ 5) (hs : s ≤ 200) : 0 ≤ seT S price roof R e s ∧ seT S price roof R e s ≤ 300000 ∧ (0 ≤ sm (rnM (runE S (S 0 0 + e) s R)) (monthsF S) ∧ sm (rnM (runE S (S 0 0 + e) s R)) (monthsF S) ≤ 235008) := by
  have h1 := mul_bd hp.1 hp.2 (show 0 ≤ (s : Int) by omega) (show (s : Int) ≤ 200 by omega)
  have h2 := mul_bd hf.1 hf.2 (show 0 ≤ (e : Int) by omega) (show (e : Int) ≤ 5 by omega)
  have h5 := sm_in (fun k hk => rnM_in hok (k := k) hk) (monthsF S) (Nat.le_refl _)
  have hm : monthsF S ≤ 96 := by unfold monthsF; have := hy.1; omega
  unfold seT
  omega
def evB (w w1 : wW) : Prop := ∀ k i, ¬ (144 ≤ k ∧ k ≤ 150) → ¬ (k = 135 ∧ ((17 ≤ i ∧ i ≤ 23) ∨ i = 31 ∨ i = 32)) → w1 k i = w k i
/-- the best so far; ahead of the first there is none -/
def bsF (n : Nat) (x : Int × Int × Int) : Int := if n = 0 then -1 else x.2.1
def bmF (n : Nat) (x : Int × Int × Int) : Int := if n = 0 then -1 else x.2.2
def blF (n : Nat) (x : Int × Int × Int) : Int := if n = 0 then 0 else x.1
theorem bs_step {n : Nat} {t s e : Int} {x : Int × Int × Int} (h0 : n = 0 → t < x.1) (hx : n ≠ 0 → 0 ≤ x.2.1) (c : bsF n x = -1 ∨ t < blF n x) : bsF (n + 1) (stp t s e x) = s ∧ bmF (n + 1) (stp t s e x) = e ∧ blF (n + 1) (stp t s e x) = t := by
  have ht : t < x.1 := by
    by_cases q : n = 0
    · exact h0 q
    · have := hx q
      unfold bsF blF at c
      rw [if_neg q, if_neg q] at c
      omega
  unfold bsF bmF blF stp
  rw [if_pos ht]
  exact ⟨rfl, rfl, rfl⟩
theorem bs_keep {n : Nat} {t s e : Int} {x : Int × Int × Int} (c : ¬ (bsF n x = -1 ∨ t < blF n x)) : n ≠ 0 ∧ bsF (n + 1) (stp t s e x) = bsF n x ∧ bmF (n + 1) (stp t s e x) = bmF n x ∧ blF (n + 1) (stp t s e x) = blF n x := by
  have hn : n ≠ 0 := fun q => c (Or.inl (by unfold bsF; rw [if_pos q]))
  refine ⟨hn, ?_⟩
  have ht : ¬ t < x.1 := fun q => c (Or.inr (by unfold blF; rw [if_neg hn]; exact q))
  unfold bsF bmF blF stp
  rw [if_neg ht, if_neg hn, if_neg hn, if_neg hn, if_neg (by omega), if_neg (by omega), if_neg (by omega)]
  exact ⟨rfl, rfl, rfl⟩
theorem stp_2i {t s e : Int} {x : Int × Int × Int} (hs : 0 ≤ s) (hx : 0 ≤ x.2.1) : 0 ≤ (stp t s e x).2.1 := by unfold stp; split <;> assumption
theorem seI_2 {t : Nat → Int} {e : Int} {x : Int × Int × Int} (h : 0 ≤ x.2.1) : ∀ n, 0 ≤ (seI t e x n).2.1
  | 0 => h
  | n + 1 => stp_2i (by omega) (seI_2 h n)
theorem seO_2 {t : Nat → Nat → Int} {x : Int × Int × Int} (h : 0 ≤ x.2.1) : ∀ n, 0 ≤ (seO t x n).2.1
  | 0 => h
  | n + 1 => by simp only [seO]; exact seI_2 (seO_2 h n) 201
theorem stp_1 {t s e : Int} {x : Int × Int × Int} {M : Int} (ht : 0 ≤ t ∧ t ≤ 300000) (hx : 0 ≤ x.1 ∧ x.1 ≤ M) (hM : 300000 ≤ M) : 0 ≤ (stp t s e x).1 ∧ (stp t s e x).1 ≤ M := by unfold stp; split <;> omega
theorem seI_1 {t : Nat → Int} {e : Int} {x : Int × Int × Int} (h : 0 ≤ x.1 ∧ x.1 ≤ 1073741824) : ∀ n, (∀ j, j < n → 0 ≤ t j ∧ t j ≤ 300000) → 0 ≤ (seI t e x n).1 ∧ (seI t e x n).1 ≤ 1073741824
  | 0, _ => h
  | n + 1, ht => stp_1 (ht n (by omega)) (seI_1 h n (fun j hj => ht j (by omega))) (by decide)
theorem seO_1 {t : Nat → Nat → Int} {x : Int × Int × Int} (h : 0 ≤ x.1 ∧ x.1 ≤ 1073741824) : ∀ n, (∀ i j, i < n → j < 201 → 0 ≤ t i j ∧ t i j ≤ 300000) → 0 ≤ (seO t x n).1 ∧ (seO t x n).1 ≤ 1073741824
  | 0, _ => h
  | n + 1, ht => by simp only [seO]; exact seI_1 (seO_1 h n (fun i j hi hj => ht i j (by omega) hj)) 201 (fun j hj => ht n j (by omega) hj)
def b0 : Int × Int × Int := (1073741824, 0, 0)
def p_X10_cheapest (S T : wW) : List wV → wW → Prop := fun av w => match av with
  | [.inr (.inr (some this)), .inl i, .inl price, .inl what] => this = 135 ∧ mMQ S T w ∧ inI i ∧ inI price ∧ inI what ∧ (0 ≤ w 135 32 ∧ w 135 32 ≤ 20)
  | _ => False
theorem h_X10_cheapest (S T : wW) : ∀ av w, (p_X10_cheapest S T) av w → ∃ a r, av = vr a :: r ∧ w_kd a = 100 + 10 := by
  intro av w h
  unfold p_X10_cheapest at h
  split at h
  · refine ⟨_, _, rfl, ?_⟩
    first | (rw [h.1]; rfl) | (rw [h]; rfl)
  · exact h.elim
def q_X10_cheapest (S T : wW) : List wV → wW → Int → wW → Prop := fun av w r w' => match av with
  | [.inr (.inr (some this)), .inl i, .inl price, .inl what] => r = cheA S T i price what (w 135 32) ∧ evB w w' ∧ w' 135 32 = w 135 32 + cheD S T i price what (w 135 32)
  | _ => False
set_option maxRecDepth 100000 in
set_option maxHeartbeats 4000000 in
theorem c_X10_cheapest (S T : wW) : w_Ct yX10_cheapest cX10_cheapest 10 1 6 157 (p_X10_cheapest S T) (q_X10_cheapest S T) := by
  refine w_met (own := RX10) (fl := w_fl10) (gs := w_gs10) (kl := w_kl10) (ki := w_ki10) (cs := [(154, (0, 2, 3, p_X10_isRule, q_X10_isRule)), (236, (0, 1, 3, p_X10_lacks, q_X10_lacks)), (107, (1, 3, 3, p_X10_in, q_X10_in)), (243, (0, 2, 0, (p_X10_goRun S), (q_X10_goRun S)))]) (by decide +kernel) rfl ?_ w_flok10 w_gsok10 w_klok10 w_kiok10 ?_ ?_
  · intro av w h
    unfold p_X10_cheapest at h
    split at h
    · simp [w_pos, w_cat]
    · exact h.elim
  · exact List.forall_mem_cons.mpr ⟨⟨_, _, w_callV (own := RX10) (idx := 154) (ci := 10) c_X10_isRule rfl rfl h_X10_isRule (w_m5 75 (by decide +kernel) (by decide +kernel)) (w_m5 77 (by decide +kernel) (by decide +kernel)) (w_m0 36 (by decide +kernel) (by decide +kernel)) (w_m1 12 (by decide +kernel) (by decide +kernel)) (w_m5 78 (by decide +kernel) (by decide +kernel)) ⟨by decide +kernel, by decide +kernel, by decide +kernel⟩, by decide, by decide⟩, List.forall_mem_cons.mpr ⟨⟨_, _, w_callV (own := RX10) (idx := 236) (ci := 10) c_X10_lacks rfl rfl h_X10_lacks (w_m5 99 (by decide +kernel) (by decide +kernel)) (w_m5 101 (by decide +kernel) (by decide +kernel)) (w_m0 37 (by decide +kernel) (by decide +kernel)) (w_m1 12 (by decide +kernel) (by decide +kernel)) (w_m5 102 (by decide +kernel) (by decide +kernel)) ⟨by decide +kernel, by decide +kernel, by decide +kernel⟩, by decide, by decide⟩, List.forall_mem_cons.mpr ⟨⟨_, _, w_callS (own := RX10) (idx := 107) c_X10_in (w_m5 14 (by decide +kernel) (by decide +kernel)) (w_m5 15 (by decide +kernel) (by decide +kernel)) (w_m1 12 (by decide +kernel) (by decide +kernel)) (w_m5 16 (by decide +kernel) (by decide +kernel)) ⟨by decide +kernel, by decide +kernel, by decide +kernel⟩, by decide, by decide⟩, List.forall_mem_cons.mpr ⟨⟨_, _, w_callV (own := RX10) (idx := 243) (ci := 10) (c_X10_goRun S) rfl rfl (h_X10_goRun S) (w_m5 105 (by decide +kernel) (by decide +kernel)) (w_m5 107 (by decide +kernel) (by decide +kernel)) (w_m0 38 (by decide +kernel) (by decide +kernel)) (w_m1 12 (by decide +kernel) (by decide +kernel)) (w_m5 108 (by decide +kernel) (by decide +kernel)) ⟨by decide +kernel, by decide +kernel, by decide +kernel⟩, by decide, by decide⟩, fun _ h => absurd h List.not_mem_nil⟩⟩⟩⟩
  intro av w hp
  unfold p_X10_cheapest at hp
  split at hp
  case h_2 => exact hp.elim
  rename_i this i price what
  intro G hG
  simp only [w_ent, w_pos, w_cat, Nat.reduceEqDiff, ↓reduceIte, List.length_cons, List.length_nil, Nat.reduceAdd, Nat.reduceSub, List.cons_append, List.nil_append, List.replicate_succ, List.replicate_zero]
  obtain ⟨rfl, hQ, hi, hpi, hwh, hsd⟩ := hp
  have hT0 : evB w w := fun k i _ _ => rfl
  obtain ⟨⟨hrc, hrc0⟩, ⟨hu0, hu3, hu4⟩, ⟨hy, hY⟩, hH, hr8, hru⟩ := id hQ
  have hyc := hy.1
  have hy1 := hY.1
  have e68 : (0 ≤ i ∧ i < T 4 2) → ¬ (T 4 4 = 0 ∨ S 4 1 = 0) → ¬ T 5 i.toNat = 3 → (0 ≤ price ∧ price ≤ 99) → (0 ≤ what ∧ what ≤ 1) → w 135 32 < 20 → G 68 [some (vr 135), some (vi i), some (vi price), some (vi what), none, none, none, none, none, none] [] w := by
    intro h1 h2 h3 h4 h5 h6
    obtain ⟨hS, hM⟩ := hH (by omega)
    have hA := hS.2.1
    obtain ⟨r, rfl⟩ : ∃ n : Nat, i = n := ⟨i.toNat, by omega⟩
    have hmr := hr8 r (by omega)
    have hmc := hru r (by omega)
    rw [Int.toNat_natCast] at h3
    have h31 : ¬ w 141 r = 3 := by rw [hmc.2.1]; exact h3
    have hokE : ∀ s : Nat, s ≤ 200 → okE (runE S (S 0 0 + (0 : Nat)) s (rMS S w r)) (monthsF S) := fun s hs => okE_mg (T := S) (r := 0) hS hy (by omega) (by omega) (fun m lv wet hm l1 l2 hw => okr_rMS hS hmr h31 hm ⟨l1, l2⟩ hw)
    have hseq : ∀ s : Nat, s ≤ 200 → seT S price 0 (rMS S w r) 0 s = seT S price 0 (rS S T r) 0 s := fun s hs => seT_like (hokE s hs) (fun m hm lv wet => rMS_S hmc m hm lv wet)
    have hbx : seI (seT S price 0 (rMS S w r) 0) ((0 : Nat) : Int) b0 201 = buyX S price 0 (rS S T r) 1 := seI_c 201 (fun j hj => hseq j (by omega))
    have hT : ∀ s : Nat, s ≤ 200 → 0 ≤ seT S price 0 (rMS S w r) 0 s ∧ seT S price 0 (rMS S w r) 0 s ≤ 300000 := fun s hs => by
      have := mse_in (roof := 0) hy (hokE s hs) h4 (by decide) (by decide) hs
      exact ⟨this.1, this.2.1⟩
    have hs1 := fun n (hn : n ≤ 201) => seI_1 (t := seT S price 0 (rMS S w r) 0) (e := ((0 : Nat) : Int)) (x := b0) (by decide) n (fun j hj => hT j (by omega))
    have hs2 := fun n => seI_2 (t := seT S price 0 (rMS S w r) 0) (e := ((0 : Nat) : Int)) (x := b0) (by decide) n
    have m1 : w 139 1 = S 0 1 := hM.2.1
    -- the frame of the search
    have fin : ∀ w1 : wW, (∀ k i, ¬ (k = 139 ∧ i = 1) → ¬ (144 ≤ k ∧ k ≤ 150) → ¬ (k = 135 ∧ ((17 ≤ i ∧ i ≤ 23) ∨ i = 31)) → w1 k i = w_up w 135 32 (w 135 32 + 1) k i) → ∀ z, z = (if what = 0 then (buyX S price 0 (rS S T r) 1).2.1 else (buyX S price 0 (rS S T r) 1).1) → q_X10_cheapest S T [vr 135, vi r, vi price, vi what] w z (w_up w1 139 1 (S 0 1)) := by
      intro w1 hw1 z hz
      refine ⟨?_, fun k j a b => ?_, ?_⟩
      · show z = cheA S T r price what (w 135 32)
        rw [hz]
        unfold cheA
        rw [if_neg (show ¬ ((r : Int) < 0 ∨ T 4 2 ≤ r) by omega), if_neg (show ¬ ((T 4 4 = 0 ∨ S 4 1 = 0) ∨ T 5 (r : Int).toNat = 3) by rw [Int.toNat_natCast]; omega), if_neg (show ¬ (price < 0 ∨ 99 < price) by omega), if_neg (show ¬ (what < 0 ∨ 1 < what) by omega), if_neg (show ¬ 20 ≤ w 135 32 by omega), Int.toNat_natCast]
      · by_cases c : k = 139 ∧ j = 1
        · rw [c.1, c.2, up_eq, m1]
        · rw [up_ne c, hw1 k j c a (by omega), up_ne (by omega)]
      · rw [up_k (by decide), hw1 135 32 (by decide) (by omega) (by omega), up_eq]
        unfold cheD
        rw [if_neg (by omega), if_neg (by rw [Int.toNat_natCast]; omega), if_neg (by omega), if_neg (by omega), if_neg (by omega)]
    have loop : ∀ d s : Nat, s + d = 201 → ∀ w1 : wW, (∀ k i, ¬ (k = 139 ∧ i = 1) → ¬ (144 ≤ k ∧ k ≤ 150) → ¬ (k = 135 ∧ ((17 ≤ i ∧ i ≤ 23) ∨ i = 31)) → w1 k i = w_up w 135 32 (w 135 32 + 1) k i) → ∀ x8 x9 : Option wV,
        G 95 [some (vr 135), some (vi r), some (vi price), some (vi what), some (vi (S 0 1)), some (vi (bsF s (seI (seT S price 0 (rMS S w r) 0) ((0 : Nat) : Int) b0 s))), some (vi (blF s (seI (seT S price 0 (rMS S w r) 0) ((0 : Nat) : Int) b0 s))), some (vi s), x8, x9] [] w1 := by
      intro d
      induction d with
      | zero =>
        intro s hs w1 hw1 x8 x9
        have e : s = 201 := by omega
        subst e
        have f := fin w1 hw1
        rw [← hbx] at f
        have b1 : bsF 201 (seI (seT S price 0 (rMS S w r) 0) ((0 : Nat) : Int) b0 201) = (seI (seT S price 0 (rMS S w r) 0) ((0 : Nat) : Int) b0 201).2.1 := rfl
        have b2 : blF 201 (seI (seT S price 0 (rMS S w r) 0) ((0 : Nat) : Int) b0 201) = (seI (seT S price 0 (rMS S w r) 0) ((0 : Nat) : Int) b0 201).1 := rfl
        rw [b1, b2]
        generalize seI (seT S price 0 (rMS S w r) 0) ((0 : Nat) : Int) b0 201 = x at *
        (apply hG [95] 2000; simp only [w_br_i, w_ite, w_all, w_all0, forall_eq, w_b0, w_b1, ↓reduceIte, w_ent, w_pos, List.replicate_succ, List.replicate_zero, wp_s, wk_s, w_lk_c, w_ld0, w_ldS, w_kp0, w_kp, w_s1, w_s2, w_to, w_if, w_call, w_sw, w_cat, w_cats, w_psh, w_fv, List.contains_cons, List.contains_nil, List.set_cons_zero, List.set_cons_succ, List.length_cons, List.length_nil, List.find?_cons, List.find?_nil, List.take_succ_cons, List.take_zero, List.drop_succ_cons, List.drop_zero, List.reverse_cons, List.reverse_nil, List.nil_append, List.cons_append, Option.map_some, Option.map_none, Nat.reduceAdd, Nat.reduceBEq, Nat.reduceEqDiff, Nat.reduceLT, Nat.reduceLeDiff, Nat.reduceSub, Int.reduceAdd, Int.reduceSub, Int.reduceMul, Int.reduceNeg, Int.reduceToNat, Int.reduceLT, Int.reduceLE, Int.reduceEq, Bool.false_eq_true, Bool.or_false, Bool.false_or, Bool.true_or, Bool.or_true, if_true, if_false, ite_true, ite_false, true_and, and_true, false_and, and_false, true_or, or_true, false_or, or_false, Int.cast_ofNat_Int, Int.toNat_natCast, Int.natCast_add, List.getElem?_cons_zero, List.getElem?_cons_succ, true_implies, forall_const, not_true_eq_false, not_false_eq_true, ne_eq, beq_iff_eq, imp_self, List.length_set, Nat.zero_add, Nat.add_zero, Int.zero_add, Int.add_zero, w1_aload_n_0, w1_iload_n_1, w1_invokevirtual, w1_ifCond, w1_bipush, w1_ireturn, w1_getfield, w1_iaload, w1_iconst, w1_if_icmp, w1_iload_n_2, w1_i2l, w1_lconst, w1_ldc2_w, w1_invokestatic, w1_iload_n_3, w1_dup, w1_dup2, w1_iadd, w1_putfield, w1_putfield2, w1_istore, w1_iload, w1_sipush, w1_iastore, w1_imul, w1_goto, w1_iinc, dX10_cheapest_0, dX10_cheapest_1, dX10_cheapest_2, dX10_cheapest_5, dX10_cheapest_8, dX10_cheapest_10, dX10_cheapest_11, dX10_cheapest_12, dX10_cheapest_15, dX10_cheapest_18, dX10_cheapest_19, dX10_cheapest_22, dX10_cheapest_23, dX10_cheapest_24, dX10_cheapest_25, dX10_cheapest_28, dX10_cheapest_30, dX10_cheapest_31, dX10_cheapest_32, dX10_cheapest_33, dX10_cheapest_34, dX10_cheapest_37, dX10_cheapest_40, dX10_cheapest_43, dX10_cheapest_44, dX10_cheapest_45, dX10_cheapest_46, dX10_cheapest_47, dX10_cheapest_50, dX10_cheapest_53, dX10_cheapest_55, dX10_cheapest_56, dX10_cheapest_57, dX10_cheapest_60, dX10_cheapest_62, dX10_cheapest_65, dX10_cheapest_67, dX10_cheapest_68, dX10_cheapest_69, dX10_cheapest_70, dX10_cheapest_73, dX10_cheapest_74, dX10_cheapest_75, dX10_cheapest_78, dX10_cheapest_79, dX10_cheapest_82, dX10_cheapest_83, dX10_cheapest_84, dX10_cheapest_86, dX10_cheapest_87, dX10_cheapest_89, dX10_cheapest_90, dX10_cheapest_92, dX10_cheapest_93, dX10_cheapest_95, dX10_cheapest_97, dX10_cheapest_100, dX10_cheapest_103, dX10_cheapest_104, dX10_cheapest_107, dX10_cheapest_108, dX10_cheapest_110, dX10_cheapest_111, dX10_cheapest_112, dX10_cheapest_113, dX10_cheapest_116, dX10_cheapest_117, dX10_cheapest_119, dX10_cheapest_120, dX10_cheapest_121, dX10_cheapest_124, dX10_cheapest_125, dX10_cheapest_126, dX10_cheapest_127, dX10_cheapest_129, dX10_cheapest_131, dX10_cheapest_132, dX10_cheapest_135, dX10_cheapest_137, dX10_cheapest_139, dX10_cheapest_142, dX10_cheapest_143, dX10_cheapest_146, dX10_cheapest_147, dX10_cheapest_149, dX10_cheapest_151, dX10_cheapest_154, dX10_cheapest_156, dX10_cheapest_159, dX10_cheapest_161, dX10_cheapest_163, dX10_cheapest_165, dX10_cheapest_168, dX10_cheapest_170, dX10_cheapest_173, dX10_cheapest_175, dX10_cheapest_177, dX10_cheapest_180, dX10_cheapest_183, dX10_cheapest_184, dX10_cheapest_187, dX10_cheapest_188, dX10_cheapest_190, dX10_cheapest_191, dX10_cheapest_192, dX10_cheapest_195, dX10_cheapest_197, dX10_cheapest_200, dX10_cheapest_202, w_flk10_19, w_flk10_25, w_flk10_257, w_flk10_50, w_klk10_255, w_kd_135, w_rf_135_0, w_rf_135_2, w_rf_135_3, w_rf_135_8, w_rf_135_12, w_rf_135_14, w_rf_135_15, w_rf_135_16, w_rf_135_24, w_rf_135_25, w_rf_135_26, w_rf_135_27, w_rf_135_28, w_rf_135_29, w_rf_135_30, w_rf_135_33, w_rf_135_34, w_rf_135_39, w_rf_135_40, w_rf_135_41, w_rf_135_42, w_kd_139, w_ln_139, lc0, lc1])
        (repeat' (with_reducible (first | refine And.intro ?_ ?_ | intro _))) <;> (try (first | (with_reducible assumption) | (simp only [inI, inL]; omega) | omega))
        all_goals first
          | (exfalso; omega)
          | (refine f _ ?_; rw [if_pos (by omega)])
          | (refine f _ ?_; rw [if_neg (by omega)])
      | succ d ih =>
        intro s hs w1 hw1 x8 x9
        have hx1 := hs1 s (by omega)
        have hx2 := hs2 s
        have hTs := hT s (by omega)
        have hmi := mse_in (roof := 0) hy (hokE s (by omega)) h4 (by decide) (by decide) (by omega)
        have hpm := mul_bd h4.1 h4.2 (show 0 ≤ (s : Int) by omega) (show (s : Int) ≤ 200 by omega)
        have hseT : seT S price 0 (rMS S w r) 0 s = price * s + sm (rnM (runE S (S 0 0 + (0 : Nat)) s (rMS S w r))) (monthsF S) := by unfold seT; rw [Int.zero_mul, Int.add_zero]
        have e := ih (s + 1) (by omega)
        simp only [seI] at e
        generalize hxe : seI (seT S price 0 (rMS S w r) 0) ((0 : Nat) : Int) b0 s = x at *
        -- the world of this size
        have hws : ∀ k i, ¬ (k = 139 ∧ i = 1) → ¬ (144 ≤ k ∧ k ≤ 150) → ¬ (k = 135 ∧ ((17 ≤ i ∧ i ≤ 23) ∨ i = 31)) → w_up w1 139 1 s k i = w_up w 135 32 (w 135 32 + 1) k i := fun k i a b c => by rw [up_ne a]; exact hw1 k i a b c
        have hk : ∀ k i, 139 ≤ k → k ≤ 143 → ¬ (k = 139 ∧ i = 1) → w_up w1 139 1 s k i = w k i := fun k i a b c => by rw [hws k i c (by omega) (by omega), up_k (by omega)]
        have h9 : w_up w1 139 1 s 135 9 = w 135 9 := by rw [hws 135 9 (by omega) (by omega) (by omega), up_ne (by decide)]
        have h11 : w_up w1 139 1 s 135 11 = w 135 11 := by rw [hws 135 11 (by omega) (by omega) (by omega), up_ne (by decide)]
        have hMs : mH S (S 0 0) s (w_up w1 139 1 s) := ⟨by rw [hk _ _ (by decide) (by decide) (by decide)]; exact hM.1, up_eq _ _ _ _, fun j a b => by rw [hk _ _ (by decide) (by decide) (by omega)]; exact hM.2.2.1 j a b, ⟨by rw [h9]; exact hM.2.2.2.1, fun u hu => by rw [hk _ _ (by decide) (by decide) (by omega), hk _ _ (by decide) (by decide) (by omega), hk _ _ (by decide) (by decide) (by omega)]; exact hM.2.2.2.2 u hu⟩⟩
        have he3 : ∀ k i, 141 ≤ k → k ≤ 143 → w_up w1 139 1 s k i = w k i := fun k i a b => hk k i (by omega) b (by omega)
        have hpc : p_X10_goRun S [vr 135, vi r] (w_up w1 139 1 s) := ⟨rfl, by omega, hS, ⟨hy, mY_of hY h11 (fun i => hk 140 i (by decide) (by decide) (by omega))⟩, by rw [Int.toNat_natCast]; exact mrR_c hmr he3, S 0 0, s, hMs, by omega, by omega, fun q => by
          rw [Int.toNat_natCast, he3 141 _ (by decide) (by decide)] at q
          exact absurd q h31⟩
        have e116 : ∀ v w2, q_X10_goRun S [vr 135, vi r] (w_up w1 139 1 s) v w2 → G 116 [some (vr 135), some (vi r), some (vi price), some (vi what), some (vi (S 0 1)), some (vi (bsF s x)), some (vi (blF s x)), some (vi s), x8, x9] [] w2 := by
          intro v w2 hq
          simp only [q_X10_goRun, Int.toNat_natCast] at hq
          unfold mgV mgE at hq
          rw [hMs.1, hMs.2.1, rMS_c he3] at hq
          obtain ⟨g1, g2, -⟩ := hq
          have h149 : w2 149 2 = sm (rnM (runE S (S 0 0 + (0 : Nat)) s (rMS S w r))) (monthsF S) := by
            rw [g2 2 (by decide)]
            have e0 : S 0 0 + ((0 : Nat) : Int) = S 0 0 := by omega
            rw [e0]
            rfl
          have hw2 : ∀ k i, ¬ (k = 139 ∧ i = 1) → ¬ (144 ≤ k ∧ k ≤ 150) → ¬ (k = 135 ∧ ((17 ≤ i ∧ i ≤ 23) ∨ i = 31)) → w2 k i = w_up w 135 32 (w 135 32 + 1) k i := fun k i a b c => by rw [g1 k i b c]; exact hws k i a b c
          generalize hzs : sm (rnM (runE S (S 0 0 + (0 : Nat)) s (rMS S w r))) (monthsF S) = zs at *
          have e := e w2 hw2 (some (vi (price * s + zs)))
          rw [hseT] at e hTs
          have hbr : inI (bsF s x) ∧ inI (blF s x) := by
            have h0 : bsF s x = -1 ∨ (bsF s x = x.2.1) := by unfold bsF; split; exact Or.inl rfl; exact Or.inr rfl
            have h1 : blF s x = 0 ∨ blF s x = x.1 := by unfold blF; split; exact Or.inl rfl; exact Or.inr rfl
            have h2 : x.2.1 ≤ 200 := by
              rw [← hxe]
              have : ∀ n : Nat, n ≤ 201 → (seI (seT S price 0 (rMS S w r) 0) ((0 : Nat) : Int) b0 n).2.1 ≤ 200 := by
                intro n
                induction n with
                | zero =>
                  intro _
                  show (0 : Int) ≤ 200
                  decide
                | succ n ihn =>
                  intro hn
                  have := ihn (by omega)
                  simp only [seI, stp]
                  split
                  · show (n : Int) ≤ 200
                    omega
                  · exact this
              exact this s (by omega)
            refine ⟨⟨by omega, by omega⟩, ⟨by omega, by omega⟩⟩
          by_cases c : bsF s x = -1 ∨ price * s + zs < blF s x
          · obtain ⟨a1, a2, a3⟩ := bs_step (n := s) (t := price * s + zs) (s := (s : Int)) (e := ((0 : Nat) : Int)) (x := x) (fun q => by
              rw [q] at hxe
              rw [← hxe]
              show _ < (1073741824 : Int)
              omega) (fun _ => hx2) c
            rw [a1, a3] at e
            simp only [Int.natCast_add, Int.cast_ofNat_Int] at e
            (apply hG [95] 2000; simp only [w_br_i, w_ite, w_all, w_all0, forall_eq, w_b0, w_b1, ↓reduceIte, w_ent, w_pos, List.replicate_succ, List.replicate_zero, wp_s, wk_s, w_lk_c, w_ld0, w_ldS, w_kp0, w_kp, w_s1, w_s2, w_to, w_if, w_call, w_sw, w_cat, w_cats, w_psh, w_fv, List.contains_cons, List.contains_nil, List.set_cons_zero, List.set_cons_succ, List.length_cons, List.length_nil, List.find?_cons, List.find?_nil, List.take_succ_cons, List.take_zero, List.drop_succ_cons, List.drop_zero, List.reverse_cons, List.reverse_nil, List.nil_append, List.cons_append, Option.map_some, Option.map_none, Nat.reduceAdd, Nat.reduceBEq, Nat.reduceEqDiff, Nat.reduceLT, Nat.reduceLeDiff, Nat.reduceSub, Int.reduceAdd, Int.reduceSub, Int.reduceMul, Int.reduceNeg, Int.reduceToNat, Int.reduceLT, Int.reduceLE, Int.reduceEq, Bool.false_eq_true, Bool.or_false, Bool.false_or, Bool.true_or, Bool.or_true, if_true, if_false, ite_true, ite_false, true_and, and_true, false_and, and_false, true_or, or_true, false_or, or_false, Int.cast_ofNat_Int, Int.toNat_natCast, Int.natCast_add, List.getElem?_cons_zero, List.getElem?_cons_succ, true_implies, forall_const, not_true_eq_false, not_false_eq_true, ne_eq, beq_iff_eq, imp_self, List.length_set, Nat.zero_add, Nat.add_zero, Int.zero_add, Int.add_zero, w1_aload_n_0, w1_iload_n_1, w1_invokevirtual, w1_ifCond, w1_bipush, w1_ireturn, w1_getfield, w1_iaload, w1_iconst, w1_if_icmp, w1_iload_n_2, w1_i2l, w1_lconst, w1_ldc2_w, w1_invokestatic, w1_iload_n_3, w1_dup, w1_dup2, w1_iadd, w1_putfield, w1_putfield2, w1_istore, w1_iload, w1_sipush, w1_iastore, w1_imul, w1_goto, w1_iinc, dX10_cheapest_0, dX10_cheapest_1, dX10_cheapest_2, dX10_cheapest_5, dX10_cheapest_8, dX10_cheapest_10, dX10_cheapest_11, dX10_cheapest_12, dX10_cheapest_15, dX10_cheapest_18, dX10_cheapest_19, dX10_cheapest_22, dX10_cheapest_23, dX10_cheapest_24, dX10_cheapest_25, dX10_cheapest_28, dX10_cheapest_30, dX10_cheapest_31, dX10_cheapest_32, dX10_cheapest_33, dX10_cheapest_34, dX10_cheapest_37, dX10_cheapest_40, dX10_cheapest_43, dX10_cheapest_44, dX10_cheapest_45, dX10_cheapest_46, dX10_cheapest_47, dX10_cheapest_50, dX10_cheapest_53, dX10_cheapest_55, dX10_cheapest_56, dX10_cheapest_57, dX10_cheapest_60, dX10_cheapest_62, dX10_cheapest_65, dX10_cheapest_67, dX10_cheapest_68, dX10_cheapest_69, dX10_cheapest_70, dX10_cheapest_73, dX10_cheapest_74, dX10_cheapest_75, dX10_cheapest_78, dX10_cheapest_79, dX10_cheapest_82, dX10_cheapest_83, dX10_cheapest_84, dX10_cheapest_86, dX10_cheapest_87, dX10_cheapest_89, dX10_cheapest_90, dX10_cheapest_92, dX10_cheapest_93, dX10_cheapest_95, dX10_cheapest_97, dX10_cheapest_100, dX10_cheapest_103, dX10_cheapest_104, dX10_cheapest_107, dX10_cheapest_108, dX10_cheapest_110, dX10_cheapest_111, dX10_cheapest_112, dX10_cheapest_113, dX10_cheapest_116, dX10_cheapest_117, dX10_cheapest_119, dX10_cheapest_120, dX10_cheapest_121, dX10_cheapest_124, dX10_cheapest_125, dX10_cheapest_126, dX10_cheapest_127, dX10_cheapest_129, dX10_cheapest_131, dX10_cheapest_132, dX10_cheapest_135, dX10_cheapest_137, dX10_cheapest_139, dX10_cheapest_142, dX10_cheapest_143, dX10_cheapest_146, dX10_cheapest_147, dX10_cheapest_149, dX10_cheapest_151, dX10_cheapest_154, dX10_cheapest_156, dX10_cheapest_159, dX10_cheapest_161, dX10_cheapest_163, dX10_cheapest_165, dX10_cheapest_168, dX10_cheapest_170, dX10_cheapest_173, dX10_cheapest_175, dX10_cheapest_177, dX10_cheapest_180, dX10_cheapest_183, dX10_cheapest_184, dX10_cheapest_187, dX10_cheapest_188, dX10_cheapest_190, dX10_cheapest_191, dX10_cheapest_192, dX10_cheapest_195, dX10_cheapest_197, dX10_cheapest_200, dX10_cheapest_202, w_flk10_19, w_flk10_25, w_flk10_257, w_flk10_50, w_klk10_255, w_kd_135, w_rf_135_0, w_rf_135_2, w_rf_135_3, w_rf_135_8, w_rf_135_12, w_rf_135_14, w_rf_135_15, w_rf_135_16, w_rf_135_24, w_rf_135_25, w_rf_135_26, w_rf_135_27, w_rf_135_28, w_rf_135_29, w_rf_135_30, w_rf_135_33, w_rf_135_34, w_rf_135_39, w_rf_135_40, w_rf_135_41, w_rf_135_42, w_kd_149, w_ln_149, lc0, lc1, h149])
            (repeat' (with_reducible (first | refine And.intro ?_ ?_ | intro _))) <;> (try (first | (with_reducible assumption) | (simp only [inI, inL]; omega) | omega))
            all_goals first
              | exact e _
              | exact hbr.1.1
              | exact hbr.1.2
              | exact hbr.2.1
              | exact hbr.2.2
              | (exfalso; omega)
          · obtain ⟨a0, a1, a2, a3⟩ := bs_keep (n := s) (t := price * s + zs) (s := (s : Int)) (e := ((0 : Nat) : Int)) (x := x) c
            rw [a1, a3] at e
            simp only [Int.natCast_add, Int.cast_ofNat_Int] at e
            (apply hG [95] 2000; simp only [w_br_i, w_ite, w_all, w_all0, forall_eq, w_b0, w_b1, ↓reduceIte, w_ent, w_pos, List.replicate_succ, List.replicate_zero, wp_s, wk_s, w_lk_c, w_ld0, w_ldS, w_kp0, w_kp, w_s1, w_s2, w_to, w_if, w_call, w_sw, w_cat, w_cats, w_psh, w_fv, List.contains_cons, List.contains_nil, List.set_cons_zero, List.set_cons_succ, List.length_cons, List.length_nil, List.find?_cons, List.find?_nil, List.take_succ_cons, List.take_zero, List.drop_succ_cons, List.drop_zero, List.reverse_cons, List.reverse_nil, List.nil_append, List.cons_append, Option.map_some, Option.map_none, Nat.reduceAdd, Nat.reduceBEq, Nat.reduceEqDiff, Nat.reduceLT, Nat.reduceLeDiff, Nat.reduceSub, Int.reduceAdd, Int.reduceSub, Int.reduceMul, Int.reduceNeg, Int.reduceToNat, Int.reduceLT, Int.reduceLE, Int.reduceEq, Bool.false_eq_true, Bool.or_false, Bool.false_or, Bool.true_or, Bool.or_true, if_true, if_false, ite_true, ite_false, true_and, and_true, false_and, and_false, true_or, or_true, false_or, or_false, Int.cast_ofNat_Int, Int.toNat_natCast, Int.natCast_add, List.getElem?_cons_zero, List.getElem?_cons_succ, true_implies, forall_const, not_true_eq_false, not_false_eq_true, ne_eq, beq_iff_eq, imp_self, List.length_set, Nat.zero_add, Nat.add_zero, Int.zero_add, Int.add_zero, w1_aload_n_0, w1_iload_n_1, w1_invokevirtual, w1_ifCond, w1_bipush, w1_ireturn, w1_getfield, w1_iaload, w1_iconst, w1_if_icmp, w1_iload_n_2, w1_i2l, w1_lconst, w1_ldc2_w, w1_invokestatic, w1_iload_n_3, w1_dup, w1_dup2, w1_iadd, w1_putfield, w1_putfield2, w1_istore, w1_iload, w1_sipush, w1_iastore, w1_imul, w1_goto, w1_iinc, dX10_cheapest_0, dX10_cheapest_1, dX10_cheapest_2, dX10_cheapest_5, dX10_cheapest_8, dX10_cheapest_10, dX10_cheapest_11, dX10_cheapest_12, dX10_cheapest_15, dX10_cheapest_18, dX10_cheapest_19, dX10_cheapest_22, dX10_cheapest_23, dX10_cheapest_24, dX10_cheapest_25, dX10_cheapest_28, dX10_cheapest_30, dX10_cheapest_31, dX10_cheapest_32, dX10_cheapest_33, dX10_cheapest_34, dX10_cheapest_37, dX10_cheapest_40, dX10_cheapest_43, dX10_cheapest_44, dX10_cheapest_45, dX10_cheapest_46, dX10_cheapest_47, dX10_cheapest_50, dX10_cheapest_53, dX10_cheapest_55, dX10_cheapest_56, dX10_cheapest_57, dX10_cheapest_60, dX10_cheapest_62, dX10_cheapest_65, dX10_cheapest_67, dX10_cheapest_68, dX10_cheapest_69, dX10_cheapest_70, dX10_cheapest_73, dX10_cheapest_74, dX10_cheapest_75, dX10_cheapest_78, dX10_cheapest_79, dX10_cheapest_82, dX10_cheapest_83, dX10_cheapest_84, dX10_cheapest_86, dX10_cheapest_87, dX10_cheapest_89, dX10_cheapest_90, dX10_cheapest_92, dX10_cheapest_93, dX10_cheapest_95, dX10_cheapest_97, dX10_cheapest_100, dX10_cheapest_103, dX10_cheapest_104, dX10_cheapest_107, dX10_cheapest_108, dX10_cheapest_110, dX10_cheapest_111, dX10_cheapest_112, dX10_cheapest_113, dX10_cheapest_116, dX10_cheapest_117, dX10_cheapest_119, dX10_cheapest_120, dX10_cheapest_121, dX10_cheapest_124, dX10_cheapest_125, dX10_cheapest_126, dX10_cheapest_127, dX10_cheapest_129, dX10_cheapest_131, dX10_cheapest_132, dX10_cheapest_135, dX10_cheapest_137, dX10_cheapest_139, dX10_cheapest_142, dX10_cheapest_143, dX10_cheapest_146, dX10_cheapest_147, dX10_cheapest_149, dX10_cheapest_151, dX10_cheapest_154, dX10_cheapest_156, dX10_cheapest_159, dX10_cheapest_161, dX10_cheapest_163, dX10_cheapest_165, dX10_cheapest_168, dX10_cheapest_170, dX10_cheapest_173, dX10_cheapest_175, dX10_cheapest_177, dX10_cheapest_180, dX10_cheapest_183, dX10_cheapest_184, dX10_cheapest_187, dX10_cheapest_188, dX10_cheapest_190, dX10_cheapest_191, dX10_cheapest_192, dX10_cheapest_195, dX10_cheapest_197, dX10_cheapest_200, dX10_cheapest_202, w_flk10_19, w_flk10_25, w_flk10_257, w_flk10_50, w_klk10_255, w_kd_135, w_rf_135_0, w_rf_135_2, w_rf_135_3, w_rf_135_8, w_rf_135_12, w_rf_135_14, w_rf_135_15, w_rf_135_16, w_rf_135_24, w_rf_135_25, w_rf_135_26, w_rf_135_27, w_rf_135_28, w_rf_135_29, w_rf_135_30, w_rf_135_33, w_rf_135_34, w_rf_135_39, w_rf_135_40, w_rf_135_41, w_rf_135_42, w_kd_149, w_ln_149, lc0, lc1, h149])
            (repeat' (with_reducible (first | refine And.intro ?_ ?_ | intro _))) <;> (try (first | (with_reducible assumption) | (simp only [inI, inL]; omega) | omega))
            all_goals first
              | exact e _
              | exact hbr.1.1
              | exact hbr.1.2
              | exact hbr.2.1
              | exact hbr.2.2
              | (exfalso; omega)
        (apply hG [95, 116] 2000; simp only [w_br_i, w_ite, w_all, w_all0, forall_eq, w_b0, w_b1, ↓reduceIte, w_ent, w_pos, List.replicate_succ, List.replicate_zero, wp_s, wk_s, w_lk_c, w_ld0, w_ldS, w_kp0, w_kp, w_s1, w_s2, w_to, w_if, w_call, w_sw, w_cat, w_cats, w_psh, w_fv, List.contains_cons, List.contains_nil, List.set_cons_zero, List.set_cons_succ, List.length_cons, List.length_nil, List.find?_cons, List.find?_nil, List.take_succ_cons, List.take_zero, List.drop_succ_cons, List.drop_zero, List.reverse_cons, List.reverse_nil, List.nil_append, List.cons_append, Option.map_some, Option.map_none, Nat.reduceAdd, Nat.reduceBEq, Nat.reduceEqDiff, Nat.reduceLT, Nat.reduceLeDiff, Nat.reduceSub, Int.reduceAdd, Int.reduceSub, Int.reduceMul, Int.reduceNeg, Int.reduceToNat, Int.reduceLT, Int.reduceLE, Int.reduceEq, Bool.false_eq_true, Bool.or_false, Bool.false_or, Bool.true_or, Bool.or_true, if_true, if_false, ite_true, ite_false, true_and, and_true, false_and, and_false, true_or, or_true, false_or, or_false, Int.cast_ofNat_Int, Int.toNat_natCast, Int.natCast_add, List.getElem?_cons_zero, List.getElem?_cons_succ, true_implies, forall_const, not_true_eq_false, not_false_eq_true, ne_eq, beq_iff_eq, imp_self, List.length_set, Nat.zero_add, Nat.add_zero, Int.zero_add, Int.add_zero, w1_aload_n_0, w1_iload_n_1, w1_invokevirtual, w1_ifCond, w1_bipush, w1_ireturn, w1_getfield, w1_iaload, w1_iconst, w1_if_icmp, w1_iload_n_2, w1_i2l, w1_lconst, w1_ldc2_w, w1_invokestatic, w1_iload_n_3, w1_dup, w1_dup2, w1_iadd, w1_putfield, w1_putfield2, w1_istore, w1_iload, w1_sipush, w1_iastore, w1_imul, w1_goto, w1_iinc, dX10_cheapest_0, dX10_cheapest_1, dX10_cheapest_2, dX10_cheapest_5, dX10_cheapest_8, dX10_cheapest_10, dX10_cheapest_11, dX10_cheapest_12, dX10_cheapest_15, dX10_cheapest_18, dX10_cheapest_19, dX10_cheapest_22, dX10_cheapest_23, dX10_cheapest_24, dX10_cheapest_25, dX10_cheapest_28, dX10_cheapest_30, dX10_cheapest_31, dX10_cheapest_32, dX10_cheapest_33, dX10_cheapest_34, dX10_cheapest_37, dX10_cheapest_40, dX10_cheapest_43, dX10_cheapest_44, dX10_cheapest_45, dX10_cheapest_46, dX10_cheapest_47, dX10_cheapest_50, dX10_cheapest_53, dX10_cheapest_55, dX10_cheapest_56, dX10_cheapest_57, dX10_cheapest_60, dX10_cheapest_62, dX10_cheapest_65, dX10_cheapest_67, dX10_cheapest_68, dX10_cheapest_69, dX10_cheapest_70, dX10_cheapest_73, dX10_cheapest_74, dX10_cheapest_75, dX10_cheapest_78, dX10_cheapest_79, dX10_cheapest_82, dX10_cheapest_83, dX10_cheapest_84, dX10_cheapest_86, dX10_cheapest_87, dX10_cheapest_89, dX10_cheapest_90, dX10_cheapest_92, dX10_cheapest_93, dX10_cheapest_95, dX10_cheapest_97, dX10_cheapest_100, dX10_cheapest_103, dX10_cheapest_104, dX10_cheapest_107, dX10_cheapest_108, dX10_cheapest_110, dX10_cheapest_111, dX10_cheapest_112, dX10_cheapest_113, dX10_cheapest_116, dX10_cheapest_117, dX10_cheapest_119, dX10_cheapest_120, dX10_cheapest_121, dX10_cheapest_124, dX10_cheapest_125, dX10_cheapest_126, dX10_cheapest_127, dX10_cheapest_129, dX10_cheapest_131, dX10_cheapest_132, dX10_cheapest_135, dX10_cheapest_137, dX10_cheapest_139, dX10_cheapest_142, dX10_cheapest_143, dX10_cheapest_146, dX10_cheapest_147, dX10_cheapest_149, dX10_cheapest_151, dX10_cheapest_154, dX10_cheapest_156, dX10_cheapest_159, dX10_cheapest_161, dX10_cheapest_163, dX10_cheapest_165, dX10_cheapest_168, dX10_cheapest_170, dX10_cheapest_173, dX10_cheapest_175, dX10_cheapest_177, dX10_cheapest_180, dX10_cheapest_183, dX10_cheapest_184, dX10_cheapest_187, dX10_cheapest_188, dX10_cheapest_190, dX10_cheapest_191, dX10_cheapest_192, dX10_cheapest_195, dX10_cheapest_197, dX10_cheapest_200, dX10_cheapest_202, w_flk10_19, w_flk10_25, w_flk10_257, w_flk10_50, w_klk10_255, w_kd_135, w_rf_135_0, w_rf_135_2, w_rf_135_3, w_rf_135_8, w_rf_135_12, w_rf_135_14, w_rf_135_15, w_rf_135_16, w_rf_135_24, w_rf_135_25, w_rf_135_26, w_rf_135_27, w_rf_135_28, w_rf_135_29, w_rf_135_30, w_rf_135_33, w_rf_135_34, w_rf_135_39, w_rf_135_40, w_rf_135_41, w_rf_135_42, w_kd_139, w_ln_139, lc0, lc1, hpc])
        (repeat' (with_reducible (first | refine And.intro ?_ ?_ | intro _))) <;> (try (first | (with_reducible assumption) | (simp only [inI, inL]; omega) | omega))
        all_goals first
          | exact e116 _ _ (by assumption)
          | (exfalso; omega)
    have e := loop 201 0 rfl (w_up w 135 32 (w 135 32 + 1)) (fun k i _ _ _ => rfl) none none
    have u1 : w_up w 135 32 (w 135 32 + 1) 139 1 = S 0 1 := by rw [up_k (by decide)]; exact m1
    simp only [bsF, blF, if_true, Int.cast_ofNat_Int] at e
    (apply hG [95] 2000; simp only [w_br_i, w_ite, w_all, w_all0, forall_eq, w_b0, w_b1, ↓reduceIte, w_ent, w_pos, List.replicate_succ, List.replicate_zero, wp_s, wk_s, w_lk_c, w_ld0, w_ldS, w_kp0, w_kp, w_s1, w_s2, w_to, w_if, w_call, w_sw, w_cat, w_cats, w_psh, w_fv, List.contains_cons, List.contains_nil, List.set_cons_zero, List.set_cons_succ, List.length_cons, List.length_nil, List.find?_cons, List.find?_nil, List.take_succ_cons, List.take_zero, List.drop_succ_cons, List.drop_zero, List.reverse_cons, List.reverse_nil, List.nil_append, List.cons_append, Option.map_some, Option.map_none, Nat.reduceAdd, Nat.reduceBEq, Nat.reduceEqDiff, Nat.reduceLT, Nat.reduceLeDiff, Nat.reduceSub, Int.reduceAdd, Int.reduceSub, Int.reduceMul, Int.reduceNeg, Int.reduceToNat, Int.reduceLT, Int.reduceLE, Int.reduceEq, Bool.false_eq_true, Bool.or_false, Bool.false_or, Bool.true_or, Bool.or_true, if_true, if_false, ite_true, ite_false, true_and, and_true, false_and, and_false, true_or, or_true, false_or, or_false, Int.cast_ofNat_Int, Int.toNat_natCast, Int.natCast_add, List.getElem?_cons_zero, List.getElem?_cons_succ, true_implies, forall_const, not_true_eq_false, not_false_eq_true, ne_eq, beq_iff_eq, imp_self, List.length_set, Nat.zero_add, Nat.add_zero, Int.zero_add, Int.add_zero, w1_aload_n_0, w1_iload_n_1, w1_invokevirtual, w1_ifCond, w1_bipush, w1_ireturn, w1_getfield, w1_iaload, w1_iconst, w1_if_icmp, w1_iload_n_2, w1_i2l, w1_lconst, w1_ldc2_w, w1_invokestatic, w1_iload_n_3, w1_dup, w1_dup2, w1_iadd, w1_putfield, w1_putfield2, w1_istore, w1_iload, w1_sipush, w1_iastore, w1_imul, w1_goto, w1_iinc, dX10_cheapest_0, dX10_cheapest_1, dX10_cheapest_2, dX10_cheapest_5, dX10_cheapest_8, dX10_cheapest_10, dX10_cheapest_11, dX10_cheapest_12, dX10_cheapest_15, dX10_cheapest_18, dX10_cheapest_19, dX10_cheapest_22, dX10_cheapest_23, dX10_cheapest_24, dX10_cheapest_25, dX10_cheapest_28, dX10_cheapest_30, dX10_cheapest_31, dX10_cheapest_32, dX10_cheapest_33, dX10_cheapest_34, dX10_cheapest_37, dX10_cheapest_40, dX10_cheapest_43, dX10_cheapest_44, dX10_cheapest_45, dX10_cheapest_46, dX10_cheapest_47, dX10_cheapest_50, dX10_cheapest_53, dX10_cheapest_55, dX10_cheapest_56, dX10_cheapest_57, dX10_cheapest_60, dX10_cheapest_62, dX10_cheapest_65, dX10_cheapest_67, dX10_cheapest_68, dX10_cheapest_69, dX10_cheapest_70, dX10_cheapest_73, dX10_cheapest_74, dX10_cheapest_75, dX10_cheapest_78, dX10_cheapest_79, dX10_cheapest_82, dX10_cheapest_83, dX10_cheapest_84, dX10_cheapest_86, dX10_cheapest_87, dX10_cheapest_89, dX10_cheapest_90, dX10_cheapest_92, dX10_cheapest_93, dX10_cheapest_95, dX10_cheapest_97, dX10_cheapest_100, dX10_cheapest_103, dX10_cheapest_104, dX10_cheapest_107, dX10_cheapest_108, dX10_cheapest_110, dX10_cheapest_111, dX10_cheapest_112, dX10_cheapest_113, dX10_cheapest_116, dX10_cheapest_117, dX10_cheapest_119, dX10_cheapest_120, dX10_cheapest_121, dX10_cheapest_124, dX10_cheapest_125, dX10_cheapest_126, dX10_cheapest_127, dX10_cheapest_129, dX10_cheapest_131, dX10_cheapest_132, dX10_cheapest_135, dX10_cheapest_137, dX10_cheapest_139, dX10_cheapest_142, dX10_cheapest_143, dX10_cheapest_146, dX10_cheapest_147, dX10_cheapest_149, dX10_cheapest_151, dX10_cheapest_154, dX10_cheapest_156, dX10_cheapest_159, dX10_cheapest_161, dX10_cheapest_163, dX10_cheapest_165, dX10_cheapest_168, dX10_cheapest_170, dX10_cheapest_173, dX10_cheapest_175, dX10_cheapest_177, dX10_cheapest_180, dX10_cheapest_183, dX10_cheapest_184, dX10_cheapest_187, dX10_cheapest_188, dX10_cheapest_190, dX10_cheapest_191, dX10_cheapest_192, dX10_cheapest_195, dX10_cheapest_197, dX10_cheapest_200, dX10_cheapest_202, w_flk10_19, w_flk10_25, w_flk10_257, w_flk10_50, w_klk10_255, w_kd_135, w_rf_135_0, w_rf_135_2, w_rf_135_3, w_rf_135_8, w_rf_135_12, w_rf_135_14, w_rf_135_15, w_rf_135_16, w_rf_135_24, w_rf_135_25, w_rf_135_26, w_rf_135_27, w_rf_135_28, w_rf_135_29, w_rf_135_30, w_rf_135_33, w_rf_135_34, w_rf_135_39, w_rf_135_40, w_rf_135_41, w_rf_135_42, w_kd_139, w_ln_139, lc0, lc1, u1])
    (repeat' (with_reducible (first | refine And.intro ?_ ?_ | intro _))) <;> (try (first | (with_reducible assumption) | (simp only [inI, inL]; omega) | omega))
    all_goals first
      | exact e
      | (exfalso; omega)
  have e11 : (0 ≤ i ∧ i < T 4 2) → G 11 [some (vr 135), some (vi i), some (vi price), some (vi what), none, none, none, none, none, none] [] w := by
    intro h1
    have hk := (hru i.toNat (by omega)).2.1
    have hkr := (hr8 i.toNat (by omega)).2.1
    rw [hk] at hkr
    (apply hG [68, 95] 2000; simp only [w_br_i, w_ite, w_all, w_all0, forall_eq, w_b0, w_b1, ↓reduceIte, w_ent, w_pos, List.replicate_succ, List.replicate_zero, wp_s, wk_s, w_lk_c, w_ld0, w_ldS, w_kp0, w_kp, w_s1, w_s2, w_to, w_if, w_call, w_sw, w_cat, w_cats, w_psh, w_fv, List.contains_cons, List.contains_nil, List.set_cons_zero, List.set_cons_succ, List.length_cons, List.length_nil, List.find?_cons, List.find?_nil, List.take_succ_cons, List.take_zero, List.drop_succ_cons, List.drop_zero, List.reverse_cons, List.reverse_nil, List.nil_append, List.cons_append, Option.map_some, Option.map_none, Nat.reduceAdd, Nat.reduceBEq, Nat.reduceEqDiff, Nat.reduceLT, Nat.reduceLeDiff, Nat.reduceSub, Int.reduceAdd, Int.reduceSub, Int.reduceMul, Int.reduceNeg, Int.reduceToNat, Int.reduceLT, Int.reduceLE, Int.reduceEq, Bool.false_eq_true, Bool.or_false, Bool.false_or, Bool.true_or, Bool.or_true, if_true, if_false, ite_true, ite_false, true_and, and_true, false_and, and_false, true_or, or_true, false_or, or_false, Int.cast_ofNat_Int, Int.toNat_natCast, Int.natCast_add, List.getElem?_cons_zero, List.getElem?_cons_succ, true_implies, forall_const, not_true_eq_false, not_false_eq_true, ne_eq, beq_iff_eq, imp_self, List.length_set, Nat.zero_add, Nat.add_zero, Int.zero_add, Int.add_zero, w1_aload_n_0, w1_iload_n_1, w1_invokevirtual, w1_ifCond, w1_bipush, w1_ireturn, w1_getfield, w1_iaload, w1_iconst, w1_if_icmp, w1_iload_n_2, w1_i2l, w1_lconst, w1_ldc2_w, w1_invokestatic, w1_iload_n_3, w1_dup, w1_dup2, w1_iadd, w1_putfield, w1_putfield2, w1_istore, w1_iload, w1_sipush, w1_iastore, w1_imul, w1_goto, w1_iinc, dX10_cheapest_0, dX10_cheapest_1, dX10_cheapest_2, dX10_cheapest_5, dX10_cheapest_8, dX10_cheapest_10, dX10_cheapest_11, dX10_cheapest_12, dX10_cheapest_15, dX10_cheapest_18, dX10_cheapest_19, dX10_cheapest_22, dX10_cheapest_23, dX10_cheapest_24, dX10_cheapest_25, dX10_cheapest_28, dX10_cheapest_30, dX10_cheapest_31, dX10_cheapest_32, dX10_cheapest_33, dX10_cheapest_34, dX10_cheapest_37, dX10_cheapest_40, dX10_cheapest_43, dX10_cheapest_44, dX10_cheapest_45, dX10_cheapest_46, dX10_cheapest_47, dX10_cheapest_50, dX10_cheapest_53, dX10_cheapest_55, dX10_cheapest_56, dX10_cheapest_57, dX10_cheapest_60, dX10_cheapest_62, dX10_cheapest_65, dX10_cheapest_67, dX10_cheapest_68, dX10_cheapest_69, dX10_cheapest_70, dX10_cheapest_73, dX10_cheapest_74, dX10_cheapest_75, dX10_cheapest_78, dX10_cheapest_79, dX10_cheapest_82, dX10_cheapest_83, dX10_cheapest_84, dX10_cheapest_86, dX10_cheapest_87, dX10_cheapest_89, dX10_cheapest_90, dX10_cheapest_92, dX10_cheapest_93, dX10_cheapest_95, dX10_cheapest_97, dX10_cheapest_100, dX10_cheapest_103, dX10_cheapest_104, dX10_cheapest_107, dX10_cheapest_108, dX10_cheapest_110, dX10_cheapest_111, dX10_cheapest_112, dX10_cheapest_113, dX10_cheapest_116, dX10_cheapest_117, dX10_cheapest_119, dX10_cheapest_120, dX10_cheapest_121, dX10_cheapest_124, dX10_cheapest_125, dX10_cheapest_126, dX10_cheapest_127, dX10_cheapest_129, dX10_cheapest_131, dX10_cheapest_132, dX10_cheapest_135, dX10_cheapest_137, dX10_cheapest_139, dX10_cheapest_142, dX10_cheapest_143, dX10_cheapest_146, dX10_cheapest_147, dX10_cheapest_149, dX10_cheapest_151, dX10_cheapest_154, dX10_cheapest_156, dX10_cheapest_159, dX10_cheapest_161, dX10_cheapest_163, dX10_cheapest_165, dX10_cheapest_168, dX10_cheapest_170, dX10_cheapest_173, dX10_cheapest_175, dX10_cheapest_177, dX10_cheapest_180, dX10_cheapest_183, dX10_cheapest_184, dX10_cheapest_187, dX10_cheapest_188, dX10_cheapest_190, dX10_cheapest_191, dX10_cheapest_192, dX10_cheapest_195, dX10_cheapest_197, dX10_cheapest_200, dX10_cheapest_202, w_flk10_19, w_flk10_25, w_flk10_257, w_flk10_50, w_klk10_255, w_kd_135, w_rf_135_0, w_rf_135_2, w_rf_135_3, w_rf_135_8, w_rf_135_12, w_rf_135_14, w_rf_135_15, w_rf_135_16, w_rf_135_24, w_rf_135_25, w_rf_135_26, w_rf_135_27, w_rf_135_28, w_rf_135_29, w_rf_135_30, w_rf_135_33, w_rf_135_34, w_rf_135_39, w_rf_135_40, w_rf_135_41, w_rf_135_42, w_kd_141, w_ln_141, lc0, lc1, p_X10_lacks, q_X10_lacks, p_X10_in, q_X10_in, hu0, hy1, hk])
    (repeat' (with_reducible (first | refine And.intro ?_ ?_ | intro _))) <;> (try (first | (with_reducible assumption) | (simp only [inI, inL]; omega) | omega))
    all_goals first
      | exact e68 (by omega) (by omega) (by omega) (by omega) (by omega) (by omega)
      | exact ⟨by unfold cheA; (repeat' split) <;> first | rfl | (exfalso; omega), hT0, by unfold cheD; (repeat' split) <;> omega⟩
  (apply hG [11, 95] 2000; simp only [w_br_i, w_ite, w_all, w_all0, forall_eq, w_b0, w_b1, ↓reduceIte, w_ent, w_pos, List.replicate_succ, List.replicate_zero, wp_s, wk_s, w_lk_c, w_ld0, w_ldS, w_kp0, w_kp, w_s1, w_s2, w_to, w_if, w_call, w_sw, w_cat, w_cats, w_psh, w_fv, List.contains_cons, List.contains_nil, List.set_cons_zero, List.set_cons_succ, List.length_cons, List.length_nil, List.find?_cons, List.find?_nil, List.take_succ_cons, List.take_zero, List.drop_succ_cons, List.drop_zero, List.reverse_cons, List.reverse_nil, List.nil_append, List.cons_append, Option.map_some, Option.map_none, Nat.reduceAdd, Nat.reduceBEq, Nat.reduceEqDiff, Nat.reduceLT, Nat.reduceLeDiff, Nat.reduceSub, Int.reduceAdd, Int.reduceSub, Int.reduceMul, Int.reduceNeg, Int.reduceToNat, Int.reduceLT, Int.reduceLE, Int.reduceEq, Bool.false_eq_true, Bool.or_false, Bool.false_or, Bool.true_or, Bool.or_true, if_true, if_false, ite_true, ite_false, true_and, and_true, false_and, and_false, true_or, or_true, false_or, or_false, Int.cast_ofNat_Int, Int.toNat_natCast, Int.natCast_add, List.getElem?_cons_zero, List.getElem?_cons_succ, true_implies, forall_const, not_true_eq_false, not_false_eq_true, ne_eq, beq_iff_eq, imp_self, List.length_set, Nat.zero_add, Nat.add_zero, Int.zero_add, Int.add_zero, w1_aload_n_0, w1_iload_n_1, w1_invokevirtual, w1_ifCond, w1_bipush, w1_ireturn, w1_getfield, w1_iaload, w1_iconst, w1_if_icmp, w1_iload_n_2, w1_i2l, w1_lconst, w1_ldc2_w, w1_invokestatic, w1_iload_n_3, w1_dup, w1_dup2, w1_iadd, w1_putfield, w1_putfield2, w1_istore, w1_iload, w1_sipush, w1_iastore, w1_imul, w1_goto, w1_iinc, dX10_cheapest_0, dX10_cheapest_1, dX10_cheapest_2, dX10_cheapest_5, dX10_cheapest_8, dX10_cheapest_10, dX10_cheapest_11, dX10_cheapest_12, dX10_cheapest_15, dX10_cheapest_18, dX10_cheapest_19, dX10_cheapest_22, dX10_cheapest_23, dX10_cheapest_24, dX10_cheapest_25, dX10_cheapest_28, dX10_cheapest_30, dX10_cheapest_31, dX10_cheapest_32, dX10_cheapest_33, dX10_cheapest_34, dX10_cheapest_37, dX10_cheapest_40, dX10_cheapest_43, dX10_cheapest_44, dX10_cheapest_45, dX10_cheapest_46, dX10_cheapest_47, dX10_cheapest_50, dX10_cheapest_53, dX10_cheapest_55, dX10_cheapest_56, dX10_cheapest_57, dX10_cheapest_60, dX10_cheapest_62, dX10_cheapest_65, dX10_cheapest_67, dX10_cheapest_68, dX10_cheapest_69, dX10_cheapest_70, dX10_cheapest_73, dX10_cheapest_74, dX10_cheapest_75, dX10_cheapest_78, dX10_cheapest_79, dX10_cheapest_82, dX10_cheapest_83, dX10_cheapest_84, dX10_cheapest_86, dX10_cheapest_87, dX10_cheapest_89, dX10_cheapest_90, dX10_cheapest_92, dX10_cheapest_93, dX10_cheapest_95, dX10_cheapest_97, dX10_cheapest_100, dX10_cheapest_103, dX10_cheapest_104, dX10_cheapest_107, dX10_cheapest_108, dX10_cheapest_110, dX10_cheapest_111, dX10_cheapest_112, dX10_cheapest_113, dX10_cheapest_116, dX10_cheapest_117, dX10_cheapest_119, dX10_cheapest_120, dX10_cheapest_121, dX10_cheapest_124, dX10_cheapest_125, dX10_cheapest_126, dX10_cheapest_127, dX10_cheapest_129, dX10_cheapest_131, dX10_cheapest_132, dX10_cheapest_135, dX10_cheapest_137, dX10_cheapest_139, dX10_cheapest_142, dX10_cheapest_143, dX10_cheapest_146, dX10_cheapest_147, dX10_cheapest_149, dX10_cheapest_151, dX10_cheapest_154, dX10_cheapest_156, dX10_cheapest_159, dX10_cheapest_161, dX10_cheapest_163, dX10_cheapest_165, dX10_cheapest_168, dX10_cheapest_170, dX10_cheapest_173, dX10_cheapest_175, dX10_cheapest_177, dX10_cheapest_180, dX10_cheapest_183, dX10_cheapest_184, dX10_cheapest_187, dX10_cheapest_188, dX10_cheapest_190, dX10_cheapest_191, dX10_cheapest_192, dX10_cheapest_195, dX10_cheapest_197, dX10_cheapest_200, dX10_cheapest_202, w_flk10_19, w_flk10_25, w_flk10_257, w_flk10_50, w_klk10_255, w_kd_135, w_rf_135_0, w_rf_135_2, w_rf_135_3, w_rf_135_8, w_rf_135_12, w_rf_135_14, w_rf_135_15, w_rf_135_16, w_rf_135_24, w_rf_135_25, w_rf_135_26, w_rf_135_27, w_rf_135_28, w_rf_135_29, w_rf_135_30, w_rf_135_33, w_rf_135_34, w_rf_135_39, w_rf_135_40, w_rf_135_41, w_rf_135_42, lc0, lc1, p_X10_isRule, q_X10_isRule, hrc0])
  (repeat' (with_reducible (first | refine And.intro ?_ ?_ | intro _))) <;> (try (first | (with_reducible assumption) | (simp only [inI, inL]; omega) | omega))
  all_goals first
    | exact e11 (by omega)
    | exact ⟨by unfold cheA; (repeat' split) <;> first | rfl | (exfalso; omega), hT0, by unfold cheD; (repeat' split) <;> omega⟩
