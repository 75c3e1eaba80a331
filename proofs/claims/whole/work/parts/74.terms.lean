/-! in lowest terms -/
def trA (up low part : Int) : Int := (if part = 0 then up else low) / (Nat.gcd up.toNat low.toNat : Nat)
theorem eu_h {a b n : Nat} (hb : 0 < b) (hba : b ≤ a) (h : a * b < 2 ^ (n + 1)) : b * (a % b) < 2 ^ n ∧ a % b ≤ b := by
  have h1 := Nat.mod_lt a hb
  have h2 := Nat.div_add_mod a b
  have h3 : 1 ≤ a / b := (Nat.one_le_div_iff hb).mpr hba
  have h4 : b * 1 ≤ b * (a / b) := Nat.mul_le_mul_left b h3
  have h5 : b * (a % b * 2) ≤ b * a := Nat.mul_le_mul_left b (by omega)
  rw [← Nat.mul_assoc, Nat.mul_comm b a] at h5
  rw [Nat.pow_succ] at h
  omega

def p_X9_inLowestTerms (S : wW) : List wV → wW → Prop := fun av w => match av with
  | [.inr (.inr (some this)), .inr (.inl up), .inl part] => this = 0 ∧ (yR S ∧ yX S w ∧ 1 ≤ S 4 1) ∧ (0 ≤ up ∧ up ≤ 2500000000000000) ∧ inI part
  | _ => False
theorem h_X9_inLowestTerms (S : wW) : ∀ av w, (p_X9_inLowestTerms S) av w → ∃ a r, av = vr a :: r ∧ w_kd a = 100 + 9 := by
  intro av w h
  unfold p_X9_inLowestTerms at h
  split at h
  · refine ⟨_, _, rfl, ?_⟩
    first | (rw [h.1]; rfl) | (rw [h]; rfl)
  · exact h.elim
def q_X9_inLowestTerms (S : wW) : List wV → wW → Int → wW → Prop := fun av w r w' => match av with
  | [.inr (.inr (some this)), .inr (.inl up), .inl part] => r = trA up (wy S 12) part ∧ w' = w
  | _ => False
set_option maxRecDepth 100000 in
set_option maxHeartbeats 4000000 in
theorem c_X9_inLowestTerms (S : wW) : w_Ct yX9_inLowestTerms cX9_inLowestTerms 13 2 0 0 (p_X9_inLowestTerms S) (q_X9_inLowestTerms S) := by
  refine w_met (own := RX9) (fl := w_fl9) (gs := w_gs9) (kl := w_kl9) (ki := w_ki9) (cs := []) (by decide +kernel) rfl ?_ w_flok9 w_gsok9 w_klok9 w_kiok9 ?_ ?_
  · intro av w h
    unfold p_X9_inLowestTerms at h
    split at h
    · simp [w_pos, w_cat]
    · exact h.elim
  · exact fun _ h => absurd h List.not_mem_nil
  intro av w hp
  unfold p_X9_inLowestTerms at hp
  split at hp
  case h_2 => exact hp.elim
  rename_i this up part
  intro G hG
  simp only [w_ent, w_pos, w_cat, Nat.reduceEqDiff, ↓reduceIte, List.length_cons, List.length_nil, Nat.reduceAdd, Nat.reduceSub, List.cons_append, List.nil_append, List.replicate_succ, List.replicate_zero]
  obtain ⟨rfl, ⟨hy, hyX, hy1⟩, hup, hpt⟩ := hp
  have hc : w 11 1 = S 4 1 := hyX.1
  have hyr := hy.1
  have hwy : ∀ j, j ≤ 12 → 1 ≤ wy S j ∧ wy S j ≤ 68719476736 := by
    have h1 : ∀ j, 1 ≤ wy S j := by
      intro j
      induction j with
      | zero => simp [wy]
      | succ j ih =>
        have := Int.mul_le_mul ih hy1 (by decide) (by omega)
        simp only [wy]
        omega
    intro j hj
    have := wy_in hy j
    have := (pw8_12 j hj).2
    have := h1 j
    omega
  have hw12 := hwy 12 (Nat.le_refl _)
  obtain ⟨A, rfl⟩ : ∃ n : Nat, up = n := ⟨up.toNat, by omega⟩
  obtain ⟨B, hB⟩ : ∃ n : Nat, wy S 12 = n := ⟨(wy S 12).toNat, by omega⟩
  have hg1 : 0 < Nat.gcd A B := Nat.gcd_pos_of_pos_right A (by omega)
  have hgB : Nat.gcd A B ≤ B := Nat.gcd_le_right A (by omega)
  have e78 : ∀ (x10 : Option wV) x11 x12, G 78 [some (vr 0), some (vl A), none, some (vi part), some (vl B), none, some (vl (Nat.gcd A B : Nat)), none, some (vl 0), none, x10, x11, x12] [] w := by
    intro x10 x11 x12
    have hcm := w_cmp_r (Nat.gcd A B : Nat) 0
    have td1 : Int.tdiv (A : Int) (Nat.gcd A B : Nat) = (A : Int) / (Nat.gcd A B : Nat) := Int.tdiv_eq_ediv_of_nonneg (by omega)
    have td2 : Int.tdiv (B : Int) (Nat.gcd A B : Nat) = (B : Int) / (Nat.gcd A B : Nat) := Int.tdiv_eq_ediv_of_nonneg (by omega)
    have fin : ∀ r, r = trA A B part → q_X9_inLowestTerms S [vr 0, vl A, vi part] w r w := fun r hr => ⟨by show r = trA A (wy S 12) part; rw [hB]; exact hr, rfl⟩
    unfold trA at fin
    simp only [Int.toNat_natCast] at fin
    (apply hG [6, 42] 2000; simp only [w_br_i, w_ite, w_all, w_all0, forall_eq, w_b0, w_b1, ↓reduceIte, w_ent, w_pos, List.replicate_succ, List.replicate_zero, wp_s, wk_s, w_lk_c, w_ld0, w_ldS, w_kp0, w_kp, w_s1, w_s2, w_to, w_if, w_call, w_sw, w_cat, w_cats, w_psh, w_fv, List.contains_cons, List.contains_nil, List.set_cons_zero, List.set_cons_succ, List.length_cons, List.length_nil, List.find?_cons, List.find?_nil, List.take_succ_cons, List.take_zero, List.drop_succ_cons, List.drop_zero, List.reverse_cons, List.reverse_nil, List.nil_append, List.cons_append, Option.map_some, Option.map_none, Nat.reduceAdd, Nat.reduceBEq, Nat.reduceEqDiff, Nat.reduceLT, Nat.reduceLeDiff, Nat.reduceSub, Int.reduceAdd, Int.reduceSub, Int.reduceMul, Int.reduceNeg, Int.reduceToNat, Int.reduceLT, Int.reduceLE, Int.reduceEq, Bool.false_eq_true, Bool.or_false, Bool.false_or, Bool.true_or, Bool.or_true, if_true, if_false, ite_true, ite_false, true_and, and_true, false_and, and_false, true_or, or_true, false_or, or_false, Int.cast_ofNat_Int, Int.toNat_natCast, Int.natCast_add, List.getElem?_cons_zero, List.getElem?_cons_succ, true_implies, forall_const, not_true_eq_false, not_false_eq_true, ne_eq, beq_iff_eq, imp_self, List.length_set, Nat.zero_add, Nat.add_zero, Int.zero_add, Int.add_zero, w1_lconst, w1_lstore, w1_iconst, w1_istore, w1_iload, w1_bipush, w1_if_icmp, w1_lload, w1_aload_n_0, w1_getfield, w1_i2l, w1_lmul, w1_iinc, w1_goto, w1_lload_n_1, w1_sipush, w1_lcmp, w1_ifCond, w1_lrem, w1_iload_n_3, w1_ldiv, w1_lreturn, dX9_inLowestTerms_0, dX9_inLowestTerms_1, dX9_inLowestTerms_3, dX9_inLowestTerms_4, dX9_inLowestTerms_6, dX9_inLowestTerms_8, dX9_inLowestTerms_10, dX9_inLowestTerms_13, dX9_inLowestTerms_15, dX9_inLowestTerms_16, dX9_inLowestTerms_19, dX9_inLowestTerms_22, dX9_inLowestTerms_23, dX9_inLowestTerms_24, dX9_inLowestTerms_26, dX9_inLowestTerms_29, dX9_inLowestTerms_32, dX9_inLowestTerms_33, dX9_inLowestTerms_35, dX9_inLowestTerms_37, dX9_inLowestTerms_39, dX9_inLowestTerms_40, dX9_inLowestTerms_42, dX9_inLowestTerms_44, dX9_inLowestTerms_47, dX9_inLowestTerms_50, dX9_inLowestTerms_52, dX9_inLowestTerms_53, dX9_inLowestTerms_54, dX9_inLowestTerms_57, dX9_inLowestTerms_59, dX9_inLowestTerms_61, dX9_inLowestTerms_62, dX9_inLowestTerms_64, dX9_inLowestTerms_66, dX9_inLowestTerms_68, dX9_inLowestTerms_70, dX9_inLowestTerms_72, dX9_inLowestTerms_75, dX9_inLowestTerms_78, dX9_inLowestTerms_79, dX9_inLowestTerms_82, dX9_inLowestTerms_83, dX9_inLowestTerms_86, dX9_inLowestTerms_88, dX9_inLowestTerms_90, dX9_inLowestTerms_92, dX9_inLowestTerms_93, dX9_inLowestTerms_94, dX9_inLowestTerms_97, dX9_inLowestTerms_99, dX9_inLowestTerms_102, dX9_inLowestTerms_104, dX9_inLowestTerms_106, dX9_inLowestTerms_107, w_flk9_124, w_flk9_26, lc0, lc1, td1, td2])
    (repeat' (with_reducible (first | refine And.intro ?_ ?_ | intro _))) <;> (try (first | assumption | contradiction | exact Or.inl trivial | exact Or.inl rfl | exact Or.inr rfl | (simp only [inI, inL]; omega) | omega))
    all_goals first
      | (exfalso; omega)
      | (refine fin _ ?_; rw [if_pos (by omega)])
      | (refine fin _ ?_; rw [if_neg (by omega)])
  have fin78 : ∀ a b : Nat, b = 0 → Nat.gcd a b = Nat.gcd A B → ∀ (x10 : Option wV) x11 x12, G 78 [some (vr 0), some (vl A), none, some (vi part), some (vl B), none, some (vl a), none, some (vl b), none, x10, x11, x12] [] w := by
    intro a b hb hg x10 x11 x12
    subst hb
    rw [Nat.gcd_zero_right] at hg
    rw [hg]
    exact e78 _ _ _
  have step : ∀ a b : Nat, 0 < b → a ≤ 9000000000000000 → b ≤ 9000000000000000 → ∀ i : Nat, i < 200 → (∀ x11 : Option wV, G 42 [some (vr 0), some (vl A), none, some (vi part), some (vl B), none, some (vl b), none, some (vl (a % b : Nat)), none, some (vi (i + 1)), x11, none] [] w) → ∀ x11 : Option wV, G 42 [some (vr 0), some (vl A), none, some (vi part), some (vl B), none, some (vl a), none, some (vl b), none, some (vi i), x11, none] [] w := by
    intro a b hb ha hb2 i hi e x11
    have hcm := w_cmp_r (b : Int) 0
    have tm : Int.tmod (a : Int) (b : Int) = ((a % b : Nat) : Int) := rfl
    (apply hG [42, 78, 6] 2000; simp only [w_br_i, w_ite, w_all, w_all0, forall_eq, w_b0, w_b1, ↓reduceIte, w_ent, w_pos, List.replicate_succ, List.replicate_zero, wp_s, wk_s, w_lk_c, w_ld0, w_ldS, w_kp0, w_kp, w_s1, w_s2, w_to, w_if, w_call, w_sw, w_cat, w_cats, w_psh, w_fv, List.contains_cons, List.contains_nil, List.set_cons_zero, List.set_cons_succ, List.length_cons, List.length_nil, List.find?_cons, List.find?_nil, List.take_succ_cons, List.take_zero, List.drop_succ_cons, List.drop_zero, List.reverse_cons, List.reverse_nil, List.nil_append, List.cons_append, Option.map_some, Option.map_none, Nat.reduceAdd, Nat.reduceBEq, Nat.reduceEqDiff, Nat.reduceLT, Nat.reduceLeDiff, Nat.reduceSub, Int.reduceAdd, Int.reduceSub, Int.reduceMul, Int.reduceNeg, Int.reduceToNat, Int.reduceLT, Int.reduceLE, Int.reduceEq, Bool.false_eq_true, Bool.or_false, Bool.false_or, Bool.true_or, Bool.or_true, if_true, if_false, ite_true, ite_false, true_and, and_true, false_and, and_false, true_or, or_true, false_or, or_false, Int.cast_ofNat_Int, Int.toNat_natCast, Int.natCast_add, List.getElem?_cons_zero, List.getElem?_cons_succ, true_implies, forall_const, not_true_eq_false, not_false_eq_true, ne_eq, beq_iff_eq, imp_self, List.length_set, Nat.zero_add, Nat.add_zero, Int.zero_add, Int.add_zero, w1_lconst, w1_lstore, w1_iconst, w1_istore, w1_iload, w1_bipush, w1_if_icmp, w1_lload, w1_aload_n_0, w1_getfield, w1_i2l, w1_lmul, w1_iinc, w1_goto, w1_lload_n_1, w1_sipush, w1_lcmp, w1_ifCond, w1_lrem, w1_iload_n_3, w1_ldiv, w1_lreturn, dX9_inLowestTerms_0, dX9_inLowestTerms_1, dX9_inLowestTerms_3, dX9_inLowestTerms_4, dX9_inLowestTerms_6, dX9_inLowestTerms_8, dX9_inLowestTerms_10, dX9_inLowestTerms_13, dX9_inLowestTerms_15, dX9_inLowestTerms_16, dX9_inLowestTerms_19, dX9_inLowestTerms_22, dX9_inLowestTerms_23, dX9_inLowestTerms_24, dX9_inLowestTerms_26, dX9_inLowestTerms_29, dX9_inLowestTerms_32, dX9_inLowestTerms_33, dX9_inLowestTerms_35, dX9_inLowestTerms_37, dX9_inLowestTerms_39, dX9_inLowestTerms_40, dX9_inLowestTerms_42, dX9_inLowestTerms_44, dX9_inLowestTerms_47, dX9_inLowestTerms_50, dX9_inLowestTerms_52, dX9_inLowestTerms_53, dX9_inLowestTerms_54, dX9_inLowestTerms_57, dX9_inLowestTerms_59, dX9_inLowestTerms_61, dX9_inLowestTerms_62, dX9_inLowestTerms_64, dX9_inLowestTerms_66, dX9_inLowestTerms_68, dX9_inLowestTerms_70, dX9_inLowestTerms_72, dX9_inLowestTerms_75, dX9_inLowestTerms_78, dX9_inLowestTerms_79, dX9_inLowestTerms_82, dX9_inLowestTerms_83, dX9_inLowestTerms_86, dX9_inLowestTerms_88, dX9_inLowestTerms_90, dX9_inLowestTerms_92, dX9_inLowestTerms_93, dX9_inLowestTerms_94, dX9_inLowestTerms_97, dX9_inLowestTerms_99, dX9_inLowestTerms_102, dX9_inLowestTerms_104, dX9_inLowestTerms_106, dX9_inLowestTerms_107, w_flk9_124, w_flk9_26, lc0, lc1, tm])
    (repeat' (with_reducible (first | refine And.intro ?_ ?_ | intro _))) <;> (try (first | assumption | contradiction | exact Or.inl trivial | exact Or.inl rfl | exact Or.inr rfl | (simp only [inI, inL]; omega) | omega))
    all_goals first
      | exact e _
      | (exfalso; omega)
  have zero : ∀ a b : Nat, b = 0 → Nat.gcd a b = Nat.gcd A B → ∀ i : Nat, i < 200 → ∀ x11 : Option wV, G 42 [some (vr 0), some (vl A), none, some (vi part), some (vl B), none, some (vl a), none, some (vl b), none, some (vi i), x11, none] [] w := by
    intro a b hb hg i hi x11
    have e := fin78 a b hb hg (some (vi i)) x11 none
    have hcm := w_cmp_r (b : Int) 0
    (apply hG [42, 78, 6] 2000; simp only [w_br_i, w_ite, w_all, w_all0, forall_eq, w_b0, w_b1, ↓reduceIte, w_ent, w_pos, List.replicate_succ, List.replicate_zero, wp_s, wk_s, w_lk_c, w_ld0, w_ldS, w_kp0, w_kp, w_s1, w_s2, w_to, w_if, w_call, w_sw, w_cat, w_cats, w_psh, w_fv, List.contains_cons, List.contains_nil, List.set_cons_zero, List.set_cons_succ, List.length_cons, List.length_nil, List.find?_cons, List.find?_nil, List.take_succ_cons, List.take_zero, List.drop_succ_cons, List.drop_zero, List.reverse_cons, List.reverse_nil, List.nil_append, List.cons_append, Option.map_some, Option.map_none, Nat.reduceAdd, Nat.reduceBEq, Nat.reduceEqDiff, Nat.reduceLT, Nat.reduceLeDiff, Nat.reduceSub, Int.reduceAdd, Int.reduceSub, Int.reduceMul, Int.reduceNeg, Int.reduceToNat, Int.reduceLT, Int.reduceLE, Int.reduceEq, Bool.false_eq_true, Bool.or_false, Bool.false_or, Bool.true_or, Bool.or_true, if_true, if_false, ite_true, ite_false, true_and, and_true, false_and, and_false, true_or, or_true, false_or, or_false, Int.cast_ofNat_Int, Int.toNat_natCast, Int.natCast_add, List.getElem?_cons_zero, List.getElem?_cons_succ, true_implies, forall_const, not_true_eq_false, not_false_eq_true, ne_eq, beq_iff_eq, imp_self, List.length_set, Nat.zero_add, Nat.add_zero, Int.zero_add, Int.add_zero, w1_lconst, w1_lstore, w1_iconst, w1_istore, w1_iload, w1_bipush, w1_if_icmp, w1_lload, w1_aload_n_0, w1_getfield, w1_i2l, w1_lmul, w1_iinc, w1_goto, w1_lload_n_1, w1_sipush, w1_lcmp, w1_ifCond, w1_lrem, w1_iload_n_3, w1_ldiv, w1_lreturn, dX9_inLowestTerms_0, dX9_inLowestTerms_1, dX9_inLowestTerms_3, dX9_inLowestTerms_4, dX9_inLowestTerms_6, dX9_inLowestTerms_8, dX9_inLowestTerms_10, dX9_inLowestTerms_13, dX9_inLowestTerms_15, dX9_inLowestTerms_16, dX9_inLowestTerms_19, dX9_inLowestTerms_22, dX9_inLowestTerms_23, dX9_inLowestTerms_24, dX9_inLowestTerms_26, dX9_inLowestTerms_29, dX9_inLowestTerms_32, dX9_inLowestTerms_33, dX9_inLowestTerms_35, dX9_inLowestTerms_37, dX9_inLowestTerms_39, dX9_inLowestTerms_40, dX9_inLowestTerms_42, dX9_inLowestTerms_44, dX9_inLowestTerms_47, dX9_inLowestTerms_50, dX9_inLowestTerms_52, dX9_inLowestTerms_53, dX9_inLowestTerms_54, dX9_inLowestTerms_57, dX9_inLowestTerms_59, dX9_inLowestTerms_61, dX9_inLowestTerms_62, dX9_inLowestTerms_64, dX9_inLowestTerms_66, dX9_inLowestTerms_68, dX9_inLowestTerms_70, dX9_inLowestTerms_72, dX9_inLowestTerms_75, dX9_inLowestTerms_78, dX9_inLowestTerms_79, dX9_inLowestTerms_82, dX9_inLowestTerms_83, dX9_inLowestTerms_86, dX9_inLowestTerms_88, dX9_inLowestTerms_90, dX9_inLowestTerms_92, dX9_inLowestTerms_93, dX9_inLowestTerms_94, dX9_inLowestTerms_97, dX9_inLowestTerms_99, dX9_inLowestTerms_102, dX9_inLowestTerms_104, dX9_inLowestTerms_106, dX9_inLowestTerms_107, w_flk9_124, w_flk9_26, lc0, lc1])
    (repeat' (with_reducible (first | refine And.intro ?_ ?_ | intro _))) <;> (try (first | assumption | contradiction | exact Or.inl trivial | exact Or.inl rfl | exact Or.inr rfl | (simp only [inI, inL]; omega) | omega))
    all_goals first
      | exact e
      | (exfalso; omega)
  have loop : ∀ n i : Nat, i + n = 199 → ∀ a b : Nat, b ≤ a → a ≤ 9000000000000000 → a * b < 2 ^ n → Nat.gcd a b = Nat.gcd A B → ∀ x11 : Option wV, G 42 [some (vr 0), some (vl A), none, some (vi part), some (vl B), none, some (vl a), none, some (vl b), none, some (vi i), x11, none] [] w := by
    intro n
    induction n with
    | zero =>
      intro i hi a b hba ha hab hg x11
      have hb : b = 0 := by
        rcases Nat.eq_zero_or_pos b with h | h
        · exact h
        · have := Nat.mul_le_mul (show 1 ≤ a by omega) (show 1 ≤ b by omega)
          omega
      exact zero a b hb hg i (by omega) x11
    | succ n ih =>
      intro i hi a b hba ha hab hg x11
      rcases Nat.eq_zero_or_pos b with hb | hb
      · exact zero a b hb hg i (by omega) x11
      · have h := eu_h hb hba hab
        refine step a b hb ha (by omega) i (by omega) (fun x11 => ?_) x11
        have e := ih (i + 1) (by omega) b (a % b) h.2 (by omega) h.1 (by rw [Nat.gcd_comm, ← Nat.gcd_rec, Nat.gcd_comm]; exact hg) x11
        simp only [Int.natCast_add, Int.cast_ofNat_Int] at e
        exact e
  have first : ∀ x11 : Option wV, G 42 [some (vr 0), some (vl A), none, some (vi part), some (vl B), none, some (vl A), none, some (vl B), none, some (vi (0 : Nat)), x11, none] [] w := by
    intro x11
    have hBp : 0 < B := by omega
    have hm := Nat.mod_lt A hBp
    refine step A B hBp (by omega) (by omega) 0 (by decide) (fun x11 => ?_) x11
    have e := loop 198 1 rfl B (A % B) (by omega) (by omega) (by
      have h1 : B * (A % B) ≤ B * B := Nat.mul_le_mul_left B (by omega)
      have h2 : B * B ≤ 68719476736 * 68719476736 := Nat.mul_le_mul (by omega) (by omega)
      have h3 : 68719476736 * 68719476736 < 2 ^ 198 := by decide
      omega) (by rw [Nat.gcd_comm, ← Nat.gcd_rec, Nat.gcd_comm]) x11
    exact e
  have loop1 : ∀ d i : Nat, i + d = 12 → G 6 [some (vr 0), some (vl A), none, some (vi part), some (vl (wy S i)), none, some (vi i), none, none, none, none, none, none] [] w := by
    intro d
    induction d with
    | zero =>
      intro i hi
      have e : i = 12 := by omega
      subst e
      have e := first none
      rw [hB]
      simp only [Int.cast_ofNat_Int] at e
      (apply hG [6, 42] 2000; simp only [w_br_i, w_ite, w_all, w_all0, forall_eq, w_b0, w_b1, ↓reduceIte, w_ent, w_pos, List.replicate_succ, List.replicate_zero, wp_s, wk_s, w_lk_c, w_ld0, w_ldS, w_kp0, w_kp, w_s1, w_s2, w_to, w_if, w_call, w_sw, w_cat, w_cats, w_psh, w_fv, List.contains_cons, List.contains_nil, List.set_cons_zero, List.set_cons_succ, List.length_cons, List.length_nil, List.find?_cons, List.find?_nil, List.take_succ_cons, List.take_zero, List.drop_succ_cons, List.drop_zero, List.reverse_cons, List.reverse_nil, List.nil_append, List.cons_append, Option.map_some, Option.map_none, Nat.reduceAdd, Nat.reduceBEq, Nat.reduceEqDiff, Nat.reduceLT, Nat.reduceLeDiff, Nat.reduceSub, Int.reduceAdd, Int.reduceSub, Int.reduceMul, Int.reduceNeg, Int.reduceToNat, Int.reduceLT, Int.reduceLE, Int.reduceEq, Bool.false_eq_true, Bool.or_false, Bool.false_or, Bool.true_or, Bool.or_true, if_true, if_false, ite_true, ite_false, true_and, and_true, false_and, and_false, true_or, or_true, false_or, or_false, Int.cast_ofNat_Int, Int.toNat_natCast, Int.natCast_add, List.getElem?_cons_zero, List.getElem?_cons_succ, true_implies, forall_const, not_true_eq_false, not_false_eq_true, ne_eq, beq_iff_eq, imp_self, List.length_set, Nat.zero_add, Nat.add_zero, Int.zero_add, Int.add_zero, w1_lconst, w1_lstore, w1_iconst, w1_istore, w1_iload, w1_bipush, w1_if_icmp, w1_lload, w1_aload_n_0, w1_getfield, w1_i2l, w1_lmul, w1_iinc, w1_goto, w1_lload_n_1, w1_sipush, w1_lcmp, w1_ifCond, w1_lrem, w1_iload_n_3, w1_ldiv, w1_lreturn, dX9_inLowestTerms_0, dX9_inLowestTerms_1, dX9_inLowestTerms_3, dX9_inLowestTerms_4, dX9_inLowestTerms_6, dX9_inLowestTerms_8, dX9_inLowestTerms_10, dX9_inLowestTerms_13, dX9_inLowestTerms_15, dX9_inLowestTerms_16, dX9_inLowestTerms_19, dX9_inLowestTerms_22, dX9_inLowestTerms_23, dX9_inLowestTerms_24, dX9_inLowestTerms_26, dX9_inLowestTerms_29, dX9_inLowestTerms_32, dX9_inLowestTerms_33, dX9_inLowestTerms_35, dX9_inLowestTerms_37, dX9_inLowestTerms_39, dX9_inLowestTerms_40, dX9_inLowestTerms_42, dX9_inLowestTerms_44, dX9_inLowestTerms_47, dX9_inLowestTerms_50, dX9_inLowestTerms_52, dX9_inLowestTerms_53, dX9_inLowestTerms_54, dX9_inLowestTerms_57, dX9_inLowestTerms_59, dX9_inLowestTerms_61, dX9_inLowestTerms_62, dX9_inLowestTerms_64, dX9_inLowestTerms_66, dX9_inLowestTerms_68, dX9_inLowestTerms_70, dX9_inLowestTerms_72, dX9_inLowestTerms_75, dX9_inLowestTerms_78, dX9_inLowestTerms_79, dX9_inLowestTerms_82, dX9_inLowestTerms_83, dX9_inLowestTerms_86, dX9_inLowestTerms_88, dX9_inLowestTerms_90, dX9_inLowestTerms_92, dX9_inLowestTerms_93, dX9_inLowestTerms_94, dX9_inLowestTerms_97, dX9_inLowestTerms_99, dX9_inLowestTerms_102, dX9_inLowestTerms_104, dX9_inLowestTerms_106, dX9_inLowestTerms_107, w_flk9_124, w_flk9_26, lc0, lc1])
      (repeat' (with_reducible (first | refine And.intro ?_ ?_ | intro _))) <;> (try (first | assumption | contradiction | exact Or.inl trivial | exact Or.inl rfl | exact Or.inr rfl | (simp only [inI, inL]; omega) | omega))
      all_goals first
        | exact e
        | (exfalso; omega)
    | succ d ih =>
      intro i hi
      have e := ih (i + 1) (by omega)
      simp only [wy, Int.natCast_add, Int.cast_ofNat_Int] at e
      (apply hG [6, 42] 2000; simp only [w_br_i, w_ite, w_all, w_all0, forall_eq, w_b0, w_b1, ↓reduceIte, w_ent, w_pos, List.replicate_succ, List.replicate_zero, wp_s, wk_s, w_lk_c, w_ld0, w_ldS, w_kp0, w_kp, w_s1, w_s2, w_to, w_if, w_call, w_sw, w_cat, w_cats, w_psh, w_fv, List.contains_cons, List.contains_nil, List.set_cons_zero, List.set_cons_succ, List.length_cons, List.length_nil, List.find?_cons, List.find?_nil, List.take_succ_cons, List.take_zero, List.drop_succ_cons, List.drop_zero, List.reverse_cons, List.reverse_nil, List.nil_append, List.cons_append, Option.map_some, Option.map_none, Nat.reduceAdd, Nat.reduceBEq, Nat.reduceEqDiff, Nat.reduceLT, Nat.reduceLeDiff, Nat.reduceSub, Int.reduceAdd, Int.reduceSub, Int.reduceMul, Int.reduceNeg, Int.reduceToNat, Int.reduceLT, Int.reduceLE, Int.reduceEq, Bool.false_eq_true, Bool.or_false, Bool.false_or, Bool.true_or, Bool.or_true, if_true, if_false, ite_true, ite_false, true_and, and_true, false_and, and_false, true_or, or_true, false_or, or_false, Int.cast_ofNat_Int, Int.toNat_natCast, Int.natCast_add, List.getElem?_cons_zero, List.getElem?_cons_succ, true_implies, forall_const, not_true_eq_false, not_false_eq_true, ne_eq, beq_iff_eq, imp_self, List.length_set, Nat.zero_add, Nat.add_zero, Int.zero_add, Int.add_zero, w1_lconst, w1_lstore, w1_iconst, w1_istore, w1_iload, w1_bipush, w1_if_icmp, w1_lload, w1_aload_n_0, w1_getfield, w1_i2l, w1_lmul, w1_iinc, w1_goto, w1_lload_n_1, w1_sipush, w1_lcmp, w1_ifCond, w1_lrem, w1_iload_n_3, w1_ldiv, w1_lreturn, dX9_inLowestTerms_0, dX9_inLowestTerms_1, dX9_inLowestTerms_3, dX9_inLowestTerms_4, dX9_inLowestTerms_6, dX9_inLowestTerms_8, dX9_inLowestTerms_10, dX9_inLowestTerms_13, dX9_inLowestTerms_15, dX9_inLowestTerms_16, dX9_inLowestTerms_19, dX9_inLowestTerms_22, dX9_inLowestTerms_23, dX9_inLowestTerms_24, dX9_inLowestTerms_26, dX9_inLowestTerms_29, dX9_inLowestTerms_32, dX9_inLowestTerms_33, dX9_inLowestTerms_35, dX9_inLowestTerms_37, dX9_inLowestTerms_39, dX9_inLowestTerms_40, dX9_inLowestTerms_42, dX9_inLowestTerms_44, dX9_inLowestTerms_47, dX9_inLowestTerms_50, dX9_inLowestTerms_52, dX9_inLowestTerms_53, dX9_inLowestTerms_54, dX9_inLowestTerms_57, dX9_inLowestTerms_59, dX9_inLowestTerms_61, dX9_inLowestTerms_62, dX9_inLowestTerms_64, dX9_inLowestTerms_66, dX9_inLowestTerms_68, dX9_inLowestTerms_70, dX9_inLowestTerms_72, dX9_inLowestTerms_75, dX9_inLowestTerms_78, dX9_inLowestTerms_79, dX9_inLowestTerms_82, dX9_inLowestTerms_83, dX9_inLowestTerms_86, dX9_inLowestTerms_88, dX9_inLowestTerms_90, dX9_inLowestTerms_92, dX9_inLowestTerms_93, dX9_inLowestTerms_94, dX9_inLowestTerms_97, dX9_inLowestTerms_99, dX9_inLowestTerms_102, dX9_inLowestTerms_104, dX9_inLowestTerms_106, dX9_inLowestTerms_107, w_flk9_124, w_flk9_26, w_kd_0, w_rf_0_0, w_rf_0_1, w_rf_0_2, w_rf_0_3, w_rf_0_4, w_rf_0_5, w_rf_0_6, w_rf_0_7, w_rf_0_8, w_rf_0_9, w_rf_0_10, w_kd_11, w_rf_11_0, lc0, lc1, hc])
      (repeat' (with_reducible (first | refine And.intro ?_ ?_ | intro _))) <;> (try (first | assumption | contradiction | exact Or.inl trivial | exact Or.inl rfl | exact Or.inr rfl | (simp only [inI, inL]; omega) | omega))
      all_goals first
        | exact e
        | (exfalso; omega)
  have e := loop1 12 0 rfl
  simp only [wy, Int.cast_ofNat_Int] at e
  (apply hG [6, 42] 2000; simp only [w_br_i, w_ite, w_all, w_all0, forall_eq, w_b0, w_b1, ↓reduceIte, w_ent, w_pos, List.replicate_succ, List.replicate_zero, wp_s, wk_s, w_lk_c, w_ld0, w_ldS, w_kp0, w_kp, w_s1, w_s2, w_to, w_if, w_call, w_sw, w_cat, w_cats, w_psh, w_fv, List.contains_cons, List.contains_nil, List.set_cons_zero, List.set_cons_succ, List.length_cons, List.length_nil, List.find?_cons, List.find?_nil, List.take_succ_cons, List.take_zero, List.drop_succ_cons, List.drop_zero, List.reverse_cons, List.reverse_nil, List.nil_append, List.cons_append, Option.map_some, Option.map_none, Nat.reduceAdd, Nat.reduceBEq, Nat.reduceEqDiff, Nat.reduceLT, Nat.reduceLeDiff, Nat.reduceSub, Int.reduceAdd, Int.reduceSub, Int.reduceMul, Int.reduceNeg, Int.reduceToNat, Int.reduceLT, Int.reduceLE, Int.reduceEq, Bool.false_eq_true, Bool.or_false, Bool.false_or, Bool.true_or, Bool.or_true, if_true, if_false, ite_true, ite_false, true_and, and_true, false_and, and_false, true_or, or_true, false_or, or_false, Int.cast_ofNat_Int, Int.toNat_natCast, Int.natCast_add, List.getElem?_cons_zero, List.getElem?_cons_succ, true_implies, forall_const, not_true_eq_false, not_false_eq_true, ne_eq, beq_iff_eq, imp_self, List.length_set, Nat.zero_add, Nat.add_zero, Int.zero_add, Int.add_zero, w1_lconst, w1_lstore, w1_iconst, w1_istore, w1_iload, w1_bipush, w1_if_icmp, w1_lload, w1_aload_n_0, w1_getfield, w1_i2l, w1_lmul, w1_iinc, w1_goto, w1_lload_n_1, w1_sipush, w1_lcmp, w1_ifCond, w1_lrem, w1_iload_n_3, w1_ldiv, w1_lreturn, dX9_inLowestTerms_0, dX9_inLowestTerms_1, dX9_inLowestTerms_3, dX9_inLowestTerms_4, dX9_inLowestTerms_6, dX9_inLowestTerms_8, dX9_inLowestTerms_10, dX9_inLowestTerms_13, dX9_inLowestTerms_15, dX9_inLowestTerms_16, dX9_inLowestTerms_19, dX9_inLowestTerms_22, dX9_inLowestTerms_23, dX9_inLowestTerms_24, dX9_inLowestTerms_26, dX9_inLowestTerms_29, dX9_inLowestTerms_32, dX9_inLowestTerms_33, dX9_inLowestTerms_35, dX9_inLowestTerms_37, dX9_inLowestTerms_39, dX9_inLowestTerms_40, dX9_inLowestTerms_42, dX9_inLowestTerms_44, dX9_inLowestTerms_47, dX9_inLowestTerms_50, dX9_inLowestTerms_52, dX9_inLowestTerms_53, dX9_inLowestTerms_54, dX9_inLowestTerms_57, dX9_inLowestTerms_59, dX9_inLowestTerms_61, dX9_inLowestTerms_62, dX9_inLowestTerms_64, dX9_inLowestTerms_66, dX9_inLowestTerms_68, dX9_inLowestTerms_70, dX9_inLowestTerms_72, dX9_inLowestTerms_75, dX9_inLowestTerms_78, dX9_inLowestTerms_79, dX9_inLowestTerms_82, dX9_inLowestTerms_83, dX9_inLowestTerms_86, dX9_inLowestTerms_88, dX9_inLowestTerms_90, dX9_inLowestTerms_92, dX9_inLowestTerms_93, dX9_inLowestTerms_94, dX9_inLowestTerms_97, dX9_inLowestTerms_99, dX9_inLowestTerms_102, dX9_inLowestTerms_104, dX9_inLowestTerms_106, dX9_inLowestTerms_107, w_flk9_124, w_flk9_26, w_kd_0, w_rf_0_0, w_rf_0_1, w_rf_0_2, w_rf_0_3, w_rf_0_4, w_rf_0_5, w_rf_0_6, w_rf_0_7, w_rf_0_8, w_rf_0_9, w_rf_0_10, lc0, lc1])
  (repeat' (with_reducible (first | refine And.intro ?_ ?_ | intro _))) <;> (try (first | assumption | contradiction | exact Or.inl trivial | exact Or.inl rfl | exact Or.inr rfl | (simp only [inI, inL]; omega) | omega))
