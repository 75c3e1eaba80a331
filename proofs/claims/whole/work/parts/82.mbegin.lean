/-! the reference's tank: its numbers f (135: 17 to 23), its shorts g (144) -/
def mw (w : wW) (f g : Nat → Int) : wW := fun k i => if k = 135 ∧ (17 ≤ i ∧ i ≤ 23) then f i else if k = 144 then g i else w k i
theorem mw_id (w : wW) : mw w (w 135) (w 144) = w := by
  funext k i
  unfold mw
  split
  · rename_i h; rw [h.1]
  · split
    · rename_i h; rw [h]
    · rfl
theorem mw_mw (w : wW) (f g f' g' : Nat → Int) : mw (mw w f g) f' g' = mw w f' g' := by
  funext k i
  unfold mw
  repeat' split
  all_goals rfl
theorem mw_f (w : wW) (f g : Nat → Int) (i : Nat) (h : 17 ≤ i ∧ i ≤ 23) : mw w f g 135 i = f i := by simp [mw, h]
theorem mw_g (w : wW) (f g : Nat → Int) : mw w f g 144 = g := by
  funext i
  simp [mw]
theorem mw_x (w : wW) (f g : Nat → Int) {k i : Nat} (h : k ≠ 135 ∧ k ≠ 144) : mw w f g k i = w k i := by
  unfold mw
  rw [if_neg (fun q => h.1 q.1), if_neg h.2]
theorem mw_y (w : wW) (f g : Nat → Int) {i : Nat} (h : i < 17 ∨ 23 < i) : mw w f g 135 i = w 135 i := by
  unfold mw
  rw [if_neg (fun q => by omega), if_neg (by decide)]
theorem mw_uf (w : wW) (f g : Nat → Int) (j : Nat) (v : Int) (h : 17 ≤ j ∧ j ≤ 23) : w_up (mw w f g) 135 j v = mw w (fup f j v) g := by
  funext k i
  simp only [mw, w_up, fup]
  by_cases e : k = 135 ∧ i = j
  · rw [if_pos e, if_pos ⟨e.1, by omega⟩, if_pos e.2]
  · rw [if_neg e]
    by_cases e2 : k = 135 ∧ (17 ≤ i ∧ i ≤ 23)
    · rw [if_pos e2, if_pos e2, if_neg (fun q => e ⟨e2.1, q⟩)]
    · rw [if_neg e2, if_neg e2]
theorem mw_ug (w : wW) (f g : Nat → Int) (j : Nat) (v : Int) : w_up (mw w f g) 144 j v = mw w f (fup g j v) := by
  funext k i
  simp only [mw, w_up, fup]
  by_cases e : k = 144 ∧ i = j
  · rw [if_pos e, if_neg (by omega), if_pos e.1, if_pos e.2]
  · rw [if_neg e]
    by_cases e2 : k = 135 ∧ (17 ≤ i ∧ i ≤ 23)
    · rw [if_pos e2, if_pos e2]
    · rw [if_neg e2, if_neg e2]
      by_cases e3 : k = 144
      · rw [if_pos e3, if_pos e3, if_neg (fun q => e ⟨e3, q⟩)]
      · rw [if_neg e3, if_neg e3]
/-- the uses -/
def mU (S w : wW) : Prop := w 135 9 = S 4 0 ∧ ∀ u, u < (S 4 0).toNat → w 139 (7 + 3 * u) = S 1 u ∧ w 139 (8 + 3 * u) = S 2 u ∧ w 139 (9 + 3 * u) = S 3 u
/-- the house, with this area and size -/
def mH (S : wW) (A Z : Int) (w : wW) : Prop := w 139 0 = A ∧ w 139 1 = Z ∧ (∀ j, 2 ≤ j → j < 7 → w 139 j = S 0 j) ∧ mU S w
theorem mU_of {S w w1 : wW} (h : mU S w) (h1 : w1 135 9 = w 135 9) (h2 : ∀ i, w1 139 i = w 139 i) : mU S w1 :=
  ⟨by rw [h1]; exact h.1, fun u hu => by rw [h2, h2, h2]; exact h.2 u hu⟩
theorem mH_of {S w w1 : wW} {A Z : Int} (h : mH S A Z w) (h1 : w1 135 9 = w 135 9) (h2 : ∀ i, w1 139 i = w 139 i) : mH S A Z w1 :=
  ⟨by rw [h2]; exact h.1, by rw [h2]; exact h.2.1, fun j h3 h4 => by rw [h2]; exact h.2.2.1 j h3 h4, mU_of h.2.2.2 h1 h2⟩
theorem mH_mw {S w : wW} {A Z : Int} {f g : Nat → Int} (h : mH S A Z w) : mH S A Z (mw w f g) := mH_of h (mw_y _ _ _ (Or.inl (by decide))) (fun i => mw_x _ _ _ ⟨by decide, by decide⟩)

def p_X10_begin (S : wW) : List wV → wW → Prop := fun av w => match av with
  | [.inr (.inr (some this)), .inl fr, .inl rain, .inl wet, .inl leak] => this = 135 ∧ hR S ∧ (∃ A Z, mH S A Z w ∧ (0 ≤ A ∧ A ≤ 25) ∧ (fr ≤ Z ∧ Z ≤ 200)) ∧ 0 ≤ fr ∧ (0 ≤ rain ∧ rain ≤ 9) ∧ (wet = 0 ∨ wet = 1) ∧ (0 ≤ leak ∧ leak ≤ 9)
  | _ => False
theorem h_X10_begin (S : wW) : ∀ av w, (p_X10_begin S) av w → ∃ a r, av = vr a :: r ∧ w_kd a = 100 + 10 := by
  intro av w h
  unfold p_X10_begin at h
  split at h
  · refine ⟨_, _, rfl, ?_⟩
    first | (rw [h.1]; rfl) | (rw [h]; rfl)
  · exact h.elim
def mb_C (S w : wW) (rain wet : Int) : Int := lvC S (w 139 0) rain wet
def q_X10_begin (S : wW) : List wV → wW → Int → wW → Prop := fun av w r w' => match av with
  | [.inr (.inr (some this)), .inl fr, .inl rain, .inl wet, .inl leak] => ∃ f, w' = mw w f (w 144) ∧ f 17 = mb_C S w rain wet ∧ f 18 = lvO (w 139 1) (fr + mb_C S w rain wet) ∧ f 19 = lvK leak (fr + mb_C S w rain wet - lvO (w 139 1) (fr + mb_C S w rain wet)) ∧ f 22 = lvB S (w 139 0) (w 139 1) leak rain fr wet ∧ (f 20 = w 135 20 ∧ f 21 = w 135 21 ∧ f 23 = w 135 23)
  | _ => False
set_option maxRecDepth 100000 in
set_option maxHeartbeats 4000000 in
theorem c_X10_begin (S : wW) : w_Ct yX10_begin cX10_begin 6 0 0 0 (p_X10_begin S) (q_X10_begin S) := by
  refine w_met (own := RX10) (fl := w_fl10) (gs := w_gs10) (kl := w_kl10) (ki := w_ki10) (cs := []) (by decide +kernel) rfl ?_ w_flok10 w_gsok10 w_klok10 w_kiok10 ?_ ?_
  · intro av w h
    unfold p_X10_begin at h
    split at h
    · simp [w_pos, w_cat]
    · exact h.elim
  · exact fun _ h => absurd h List.not_mem_nil
  intro av w hp
  unfold p_X10_begin at hp
  split at hp
  case h_2 => exact hp.elim
  rename_i this fr rain wet leak
  intro G hG
  simp only [w_ent, w_pos, w_cat, Nat.reduceEqDiff, ↓reduceIte, List.length_cons, List.length_nil, Nat.reduceAdd, Nat.reduceSub, List.cons_append, List.nil_append, List.replicate_succ, List.replicate_zero]
  obtain ⟨rfl, hS, ⟨A, Z, hM, hA, hZ⟩, hfr, hrain, hwet, hleak⟩ := hp
  obtain ⟨m0, m1, mj, -⟩ := hM
  have m2 := mj 2 (by decide) (by decide)
  have m3 := mj 3 (by decide) (by decide)
  have h2 := hS.2.2.2.1
  have h3 := hS.2.2.2.2.1
  have hm := mul_bd hA.1 hA.2 hrain.1 hrain.2
  have hCr := lvC_in (wet := wet) hS hA hrain
  have eC : mb_C S w rain wet = lvC S A rain wet := by unfold mb_C; rw [m0]
  have eB : lvB S A Z leak rain fr wet = fr + lvC S A rain wet - lvO Z (fr + lvC S A rain wet) - lvK leak (fr + lvC S A rain wet - lvO Z (fr + lvC S A rain wet)) := rfl
  have x1 : ∀ f g, mw w f g 139 1 = Z := fun f g => by rw [mw_x _ _ _ ⟨by decide, by decide⟩]; exact m1
  generalize hCe : lvC S A rain wet = C at *
  have hO : 0 ≤ lvO Z (fr + C) ∧ fr + C - lvO Z (fr + C) ≤ Z ∧ 0 ≤ fr + C - lvO Z (fr + C) := by unfold lvO; split <;> omega
  have e125 : ∀ (f : Nat → Int) (x5 : Option wV), f 17 = C → f 18 = lvO Z (fr + C) → f 22 = fr + C - lvO Z (fr + C) → (f 20 = w 135 20 ∧ f 21 = w 135 21 ∧ f 23 = w 135 23) → G 125 [some (vr 135), some (vi fr), some (vi rain), some (vi wet), some (vi leak), x5] [vi (lvK leak (fr + C - lvO Z (fr + C))), vr 135] (mw w f (w 144)) := by
    intro f x5 f17 f18 f22 fe
    (apply hG [] 2000; simp only [w_br_i, w_ite, w_all, w_all0, forall_eq, w_b0, w_b1, ↓reduceIte, w_ent, w_pos, List.replicate_succ, List.replicate_zero, wp_s, wk_s, w_lk_c, w_ld0, w_ldS, w_kp0, w_kp, w_s1, w_s2, w_to, w_if, w_call, w_sw, w_cat, w_cats, w_psh, w_fv, List.contains_cons, List.contains_nil, List.set_cons_zero, List.set_cons_succ, List.length_cons, List.length_nil, List.find?_cons, List.find?_nil, List.take_succ_cons, List.take_zero, List.drop_succ_cons, List.drop_zero, List.reverse_cons, List.reverse_nil, List.nil_append, List.cons_append, Option.map_some, Option.map_none, Nat.reduceAdd, Nat.reduceBEq, Nat.reduceEqDiff, Nat.reduceLT, Nat.reduceLeDiff, Nat.reduceSub, Int.reduceAdd, Int.reduceSub, Int.reduceMul, Int.reduceNeg, Int.reduceToNat, Int.reduceLT, Int.reduceLE, Int.reduceEq, Bool.false_eq_true, Bool.or_false, Bool.false_or, Bool.true_or, Bool.or_true, if_true, if_false, ite_true, ite_false, true_and, and_true, false_and, and_false, true_or, or_true, false_or, or_false, Int.cast_ofNat_Int, Int.toNat_natCast, Int.natCast_add, List.getElem?_cons_zero, List.getElem?_cons_succ, true_implies, forall_const, not_true_eq_false, not_false_eq_true, ne_eq, beq_iff_eq, imp_self, List.length_set, Nat.zero_add, Nat.add_zero, Int.zero_add, Int.add_zero, w1_aload_n_0, w1_getfield, w1_iconst, w1_iaload, w1_iload_n_2, w1_imul, w1_isub, w1_iload_n_3, w1_ifCond, w1_goto, w1_istore, w1_iload, w1_putfield, w1_putfield2, w1_iload_n_1, w1_iadd, w1_if_icmp, w1_dup, w1_dup2, w1_return, dX10_begin_0, dX10_begin_1, dX10_begin_4, dX10_begin_5, dX10_begin_6, dX10_begin_7, dX10_begin_8, dX10_begin_9, dX10_begin_12, dX10_begin_13, dX10_begin_14, dX10_begin_15, dX10_begin_16, dX10_begin_19, dX10_begin_20, dX10_begin_23, dX10_begin_24, dX10_begin_27, dX10_begin_28, dX10_begin_29, dX10_begin_30, dX10_begin_32, dX10_begin_33, dX10_begin_34, dX10_begin_37, dX10_begin_39, dX10_begin_42, dX10_begin_43, dX10_begin_46, dX10_begin_48, dX10_begin_51, dX10_begin_52, dX10_begin_53, dX10_begin_54, dX10_begin_57, dX10_begin_58, dX10_begin_61, dX10_begin_62, dX10_begin_63, dX10_begin_66, dX10_begin_67, dX10_begin_70, dX10_begin_71, dX10_begin_72, dX10_begin_75, dX10_begin_76, dX10_begin_79, dX10_begin_80, dX10_begin_83, dX10_begin_84, dX10_begin_85, dX10_begin_86, dX10_begin_89, dX10_begin_90, dX10_begin_93, dX10_begin_94, dX10_begin_95, dX10_begin_98, dX10_begin_99, dX10_begin_102, dX10_begin_103, dX10_begin_106, dX10_begin_107, dX10_begin_109, dX10_begin_110, dX10_begin_113, dX10_begin_116, dX10_begin_118, dX10_begin_121, dX10_begin_122, dX10_begin_125, dX10_begin_128, dX10_begin_129, dX10_begin_130, dX10_begin_133, dX10_begin_134, dX10_begin_137, dX10_begin_138, dX10_begin_141, w_flk10_165, w_flk10_168, w_flk10_171, w_flk10_174, w_flk10_19, w_kd_135, w_rf_135_0, w_rf_135_2, w_rf_135_3, w_rf_135_8, w_rf_135_12, w_rf_135_14, w_rf_135_15, w_rf_135_16, w_rf_135_24, w_rf_135_25, w_rf_135_26, w_rf_135_27, w_rf_135_28, w_rf_135_29, w_rf_135_30, w_rf_135_33, w_rf_135_34, w_rf_135_39, w_rf_135_40, w_rf_135_41, w_rf_135_42, mw_uf, mw_f, fup_i, f22])
    (repeat' (with_reducible (first | refine And.intro ?_ ?_ | intro _))) <;> (try (first | (with_reducible assumption) | (simp only [inI, inL]; omega) | omega))
    all_goals (simp only [q_X10_begin, eC, m0, m1, eB]; refine ⟨_, rfl, ?_, ?_, ?_, ?_, ?_, ?_, ?_⟩ <;> simp [fup, f17, f18, f22, fe])
  have e90 : ∀ (f : Nat → Int) (x5 : Option wV), f 17 = C → f 22 = fr + C → (f 20 = w 135 20 ∧ f 21 = w 135 21 ∧ f 23 = w 135 23) → G 90 [some (vr 135), some (vi fr), some (vi rain), some (vi wet), some (vi leak), x5] [vi (lvO Z (fr + C)), vr 135] (mw w f (w 144)) := by
    intro f x5 f17 f22 fe
    have e := e125 (fup (fup f 18 (lvO Z (fr + C))) 22 (fr + C - lvO Z (fr + C))) x5 (by simp [fup, f17]) (by simp [fup]) (by simp [fup]) (by simp [fup, fe])
    unfold lvK at e
    (apply hG [125] 2000; simp only [w_br_i, w_ite, w_all, w_all0, forall_eq, w_b0, w_b1, ↓reduceIte, w_ent, w_pos, List.replicate_succ, List.replicate_zero, wp_s, wk_s, w_lk_c, w_ld0, w_ldS, w_kp0, w_kp, w_s1, w_s2, w_to, w_if, w_call, w_sw, w_cat, w_cats, w_psh, w_fv, List.contains_cons, List.contains_nil, List.set_cons_zero, List.set_cons_succ, List.length_cons, List.length_nil, List.find?_cons, List.find?_nil, List.take_succ_cons, List.take_zero, List.drop_succ_cons, List.drop_zero, List.reverse_cons, List.reverse_nil, List.nil_append, List.cons_append, Option.map_some, Option.map_none, Nat.reduceAdd, Nat.reduceBEq, Nat.reduceEqDiff, Nat.reduceLT, Nat.reduceLeDiff, Nat.reduceSub, Int.reduceAdd, Int.reduceSub, Int.reduceMul, Int.reduceNeg, Int.reduceToNat, Int.reduceLT, Int.reduceLE, Int.reduceEq, Bool.false_eq_true, Bool.or_false, Bool.false_or, Bool.true_or, Bool.or_true, if_true, if_false, ite_true, ite_false, true_and, and_true, false_and, and_false, true_or, or_true, false_or, or_false, Int.cast_ofNat_Int, Int.toNat_natCast, Int.natCast_add, List.getElem?_cons_zero, List.getElem?_cons_succ, true_implies, forall_const, not_true_eq_false, not_false_eq_true, ne_eq, beq_iff_eq, imp_self, List.length_set, Nat.zero_add, Nat.add_zero, Int.zero_add, Int.add_zero, w1_aload_n_0, w1_getfield, w1_iconst, w1_iaload, w1_iload_n_2, w1_imul, w1_isub, w1_iload_n_3, w1_ifCond, w1_goto, w1_istore, w1_iload, w1_putfield, w1_putfield2, w1_iload_n_1, w1_iadd, w1_if_icmp, w1_dup, w1_dup2, w1_return, dX10_begin_0, dX10_begin_1, dX10_begin_4, dX10_begin_5, dX10_begin_6, dX10_begin_7, dX10_begin_8, dX10_begin_9, dX10_begin_12, dX10_begin_13, dX10_begin_14, dX10_begin_15, dX10_begin_16, dX10_begin_19, dX10_begin_20, dX10_begin_23, dX10_begin_24, dX10_begin_27, dX10_begin_28, dX10_begin_29, dX10_begin_30, dX10_begin_32, dX10_begin_33, dX10_begin_34, dX10_begin_37, dX10_begin_39, dX10_begin_42, dX10_begin_43, dX10_begin_46, dX10_begin_48, dX10_begin_51, dX10_begin_52, dX10_begin_53, dX10_begin_54, dX10_begin_57, dX10_begin_58, dX10_begin_61, dX10_begin_62, dX10_begin_63, dX10_begin_66, dX10_begin_67, dX10_begin_70, dX10_begin_71, dX10_begin_72, dX10_begin_75, dX10_begin_76, dX10_begin_79, dX10_begin_80, dX10_begin_83, dX10_begin_84, dX10_begin_85, dX10_begin_86, dX10_begin_89, dX10_begin_90, dX10_begin_93, dX10_begin_94, dX10_begin_95, dX10_begin_98, dX10_begin_99, dX10_begin_102, dX10_begin_103, dX10_begin_106, dX10_begin_107, dX10_begin_109, dX10_begin_110, dX10_begin_113, dX10_begin_116, dX10_begin_118, dX10_begin_121, dX10_begin_122, dX10_begin_125, dX10_begin_128, dX10_begin_129, dX10_begin_130, dX10_begin_133, dX10_begin_134, dX10_begin_137, dX10_begin_138, dX10_begin_141, w_flk10_165, w_flk10_168, w_flk10_171, w_flk10_174, w_flk10_19, w_kd_135, w_rf_135_0, w_rf_135_2, w_rf_135_3, w_rf_135_8, w_rf_135_12, w_rf_135_14, w_rf_135_15, w_rf_135_16, w_rf_135_24, w_rf_135_25, w_rf_135_26, w_rf_135_27, w_rf_135_28, w_rf_135_29, w_rf_135_30, w_rf_135_33, w_rf_135_34, w_rf_135_39, w_rf_135_40, w_rf_135_41, w_rf_135_42, mw_uf, mw_f, fup_i, f22])
    by_cases q : fr + C - lvO Z (fr + C) < leak
    · rw [if_pos q] at e
      (repeat' (with_reducible (first | refine And.intro ?_ ?_ | intro _))) <;> (try (first | (with_reducible assumption) | (simp only [inI, inL]; omega) | omega))
      all_goals first
        | exact e
        | (exfalso; omega)
    · rw [if_neg q] at e
      (repeat' (with_reducible (first | refine And.intro ?_ ?_ | intro _))) <;> (try (first | (with_reducible assumption) | (simp only [inI, inL]; omega) | omega))
      all_goals first
        | exact e
        | (exfalso; omega)
        | (have e2 : leak = fr + C - lvO Z (fr + C) := by omega
           rw [← e2] at e ⊢; exact e)
  have e48 : ∀ x5 : Option wV, G 48 [some (vr 135), some (vi fr), some (vi rain), some (vi wet), some (vi leak), x5] [vi C, vr 135] w := by
    intro x5
    have e := e90 (fup (fup (w 135) 17 C) 22 (fr + C)) x5 (by simp [fup]) (by simp [fup]) (by simp [fup])
    unfold lvO at e
    rw [← mw_id w]
    (apply hG [90] 2000; simp only [w_br_i, w_ite, w_all, w_all0, forall_eq, w_b0, w_b1, ↓reduceIte, w_ent, w_pos, List.replicate_succ, List.replicate_zero, wp_s, wk_s, w_lk_c, w_ld0, w_ldS, w_kp0, w_kp, w_s1, w_s2, w_to, w_if, w_call, w_sw, w_cat, w_cats, w_psh, w_fv, List.contains_cons, List.contains_nil, List.set_cons_zero, List.set_cons_succ, List.length_cons, List.length_nil, List.find?_cons, List.find?_nil, List.take_succ_cons, List.take_zero, List.drop_succ_cons, List.drop_zero, List.reverse_cons, List.reverse_nil, List.nil_append, List.cons_append, Option.map_some, Option.map_none, Nat.reduceAdd, Nat.reduceBEq, Nat.reduceEqDiff, Nat.reduceLT, Nat.reduceLeDiff, Nat.reduceSub, Int.reduceAdd, Int.reduceSub, Int.reduceMul, Int.reduceNeg, Int.reduceToNat, Int.reduceLT, Int.reduceLE, Int.reduceEq, Bool.false_eq_true, Bool.or_false, Bool.false_or, Bool.true_or, Bool.or_true, if_true, if_false, ite_true, ite_false, true_and, and_true, false_and, and_false, true_or, or_true, false_or, or_false, Int.cast_ofNat_Int, Int.toNat_natCast, Int.natCast_add, List.getElem?_cons_zero, List.getElem?_cons_succ, true_implies, forall_const, not_true_eq_false, not_false_eq_true, ne_eq, beq_iff_eq, imp_self, List.length_set, Nat.zero_add, Nat.add_zero, Int.zero_add, Int.add_zero, w1_aload_n_0, w1_getfield, w1_iconst, w1_iaload, w1_iload_n_2, w1_imul, w1_isub, w1_iload_n_3, w1_ifCond, w1_goto, w1_istore, w1_iload, w1_putfield, w1_putfield2, w1_iload_n_1, w1_iadd, w1_if_icmp, w1_dup, w1_dup2, w1_return, dX10_begin_0, dX10_begin_1, dX10_begin_4, dX10_begin_5, dX10_begin_6, dX10_begin_7, dX10_begin_8, dX10_begin_9, dX10_begin_12, dX10_begin_13, dX10_begin_14, dX10_begin_15, dX10_begin_16, dX10_begin_19, dX10_begin_20, dX10_begin_23, dX10_begin_24, dX10_begin_27, dX10_begin_28, dX10_begin_29, dX10_begin_30, dX10_begin_32, dX10_begin_33, dX10_begin_34, dX10_begin_37, dX10_begin_39, dX10_begin_42, dX10_begin_43, dX10_begin_46, dX10_begin_48, dX10_begin_51, dX10_begin_52, dX10_begin_53, dX10_begin_54, dX10_begin_57, dX10_begin_58, dX10_begin_61, dX10_begin_62, dX10_begin_63, dX10_begin_66, dX10_begin_67, dX10_begin_70, dX10_begin_71, dX10_begin_72, dX10_begin_75, dX10_begin_76, dX10_begin_79, dX10_begin_80, dX10_begin_83, dX10_begin_84, dX10_begin_85, dX10_begin_86, dX10_begin_89, dX10_begin_90, dX10_begin_93, dX10_begin_94, dX10_begin_95, dX10_begin_98, dX10_begin_99, dX10_begin_102, dX10_begin_103, dX10_begin_106, dX10_begin_107, dX10_begin_109, dX10_begin_110, dX10_begin_113, dX10_begin_116, dX10_begin_118, dX10_begin_121, dX10_begin_122, dX10_begin_125, dX10_begin_128, dX10_begin_129, dX10_begin_130, dX10_begin_133, dX10_begin_134, dX10_begin_137, dX10_begin_138, dX10_begin_141, w_flk10_165, w_flk10_168, w_flk10_171, w_flk10_174, w_flk10_19, w_kd_135, w_rf_135_0, w_rf_135_2, w_rf_135_3, w_rf_135_8, w_rf_135_12, w_rf_135_14, w_rf_135_15, w_rf_135_16, w_rf_135_24, w_rf_135_25, w_rf_135_26, w_rf_135_27, w_rf_135_28, w_rf_135_29, w_rf_135_30, w_rf_135_33, w_rf_135_34, w_rf_135_39, w_rf_135_40, w_rf_135_41, w_rf_135_42, w_kd_139, w_ln_139, mw_uf, mw_f, fup_i, x1])
    by_cases q : Z < fr + C
    · rw [if_pos q] at e
      (repeat' (with_reducible (first | refine And.intro ?_ ?_ | intro _))) <;> (try (first | (with_reducible assumption) | (simp only [inI, inL]; omega) | omega))
      all_goals first
        | exact e
        | (exfalso; omega)
    · rw [if_neg q] at e
      (repeat' (with_reducible (first | refine And.intro ?_ ?_ | intro _))) <;> (try (first | (with_reducible assumption) | (simp only [inI, inL]; omega) | omega))
      all_goals first
        | exact e
        | (exfalso; omega)
  have e29 : ∀ (ws : Int) (x5 : Option wV), ws = (if wet = 0 then S 0 3 else 0) → G 29 [some (vr 135), some (vi fr), some (vi rain), some (vi wet), some (vi leak), x5] [vi ws, vi (A * rain - S 0 2)] w := by
    intro ws x5 hws
    have hwr : 0 ≤ ws ∧ ws ≤ 9 := by rw [hws]; split <;> omega
    have eCe : C = if rain = 0 then 0 else if A * rain - S 0 2 - ws < 0 then 0 else A * rain - S 0 2 - ws := by
      rw [← hCe, hws]
      rfl
    (apply hG [48] 2000; simp only [w_br_i, w_ite, w_all, w_all0, forall_eq, w_b0, w_b1, ↓reduceIte, w_ent, w_pos, List.replicate_succ, List.replicate_zero, wp_s, wk_s, w_lk_c, w_ld0, w_ldS, w_kp0, w_kp, w_s1, w_s2, w_to, w_if, w_call, w_sw, w_cat, w_cats, w_psh, w_fv, List.contains_cons, List.contains_nil, List.set_cons_zero, List.set_cons_succ, List.length_cons, List.length_nil, List.find?_cons, List.find?_nil, List.take_succ_cons, List.take_zero, List.drop_succ_cons, List.drop_zero, List.reverse_cons, List.reverse_nil, List.nil_append, List.cons_append, Option.map_some, Option.map_none, Nat.reduceAdd, Nat.reduceBEq, Nat.reduceEqDiff, Nat.reduceLT, Nat.reduceLeDiff, Nat.reduceSub, Int.reduceAdd, Int.reduceSub, Int.reduceMul, Int.reduceNeg, Int.reduceToNat, Int.reduceLT, Int.reduceLE, Int.reduceEq, Bool.false_eq_true, Bool.or_false, Bool.false_or, Bool.true_or, Bool.or_true, if_true, if_false, ite_true, ite_false, true_and, and_true, false_and, and_false, true_or, or_true, false_or, or_false, Int.cast_ofNat_Int, Int.toNat_natCast, Int.natCast_add, List.getElem?_cons_zero, List.getElem?_cons_succ, true_implies, forall_const, not_true_eq_false, not_false_eq_true, ne_eq, beq_iff_eq, imp_self, List.length_set, Nat.zero_add, Nat.add_zero, Int.zero_add, Int.add_zero, w1_aload_n_0, w1_getfield, w1_iconst, w1_iaload, w1_iload_n_2, w1_imul, w1_isub, w1_iload_n_3, w1_ifCond, w1_goto, w1_istore, w1_iload, w1_putfield, w1_putfield2, w1_iload_n_1, w1_iadd, w1_if_icmp, w1_dup, w1_dup2, w1_return, dX10_begin_0, dX10_begin_1, dX10_begin_4, dX10_begin_5, dX10_begin_6, dX10_begin_7, dX10_begin_8, dX10_begin_9, dX10_begin_12, dX10_begin_13, dX10_begin_14, dX10_begin_15, dX10_begin_16, dX10_begin_19, dX10_begin_20, dX10_begin_23, dX10_begin_24, dX10_begin_27, dX10_begin_28, dX10_begin_29, dX10_begin_30, dX10_begin_32, dX10_begin_33, dX10_begin_34, dX10_begin_37, dX10_begin_39, dX10_begin_42, dX10_begin_43, dX10_begin_46, dX10_begin_48, dX10_begin_51, dX10_begin_52, dX10_begin_53, dX10_begin_54, dX10_begin_57, dX10_begin_58, dX10_begin_61, dX10_begin_62, dX10_begin_63, dX10_begin_66, dX10_begin_67, dX10_begin_70, dX10_begin_71, dX10_begin_72, dX10_begin_75, dX10_begin_76, dX10_begin_79, dX10_begin_80, dX10_begin_83, dX10_begin_84, dX10_begin_85, dX10_begin_86, dX10_begin_89, dX10_begin_90, dX10_begin_93, dX10_begin_94, dX10_begin_95, dX10_begin_98, dX10_begin_99, dX10_begin_102, dX10_begin_103, dX10_begin_106, dX10_begin_107, dX10_begin_109, dX10_begin_110, dX10_begin_113, dX10_begin_116, dX10_begin_118, dX10_begin_121, dX10_begin_122, dX10_begin_125, dX10_begin_128, dX10_begin_129, dX10_begin_130, dX10_begin_133, dX10_begin_134, dX10_begin_137, dX10_begin_138, dX10_begin_141, w_flk10_165, w_flk10_168, w_flk10_171, w_flk10_174, w_flk10_19, w_kd_135, w_rf_135_0, w_rf_135_2, w_rf_135_3, w_rf_135_8, w_rf_135_12, w_rf_135_14, w_rf_135_15, w_rf_135_16, w_rf_135_24, w_rf_135_25, w_rf_135_26, w_rf_135_27, w_rf_135_28, w_rf_135_29, w_rf_135_30, w_rf_135_33, w_rf_135_34, w_rf_135_39, w_rf_135_40, w_rf_135_41, w_rf_135_42, w_kd_139, w_ln_139])
    (repeat' (with_reducible (first | refine And.intro ?_ ?_ | intro _))) <;> (try (first | (with_reducible assumption) | (simp only [inI, inL]; omega) | omega))
    all_goals first
      | (have e := e48 (some (vi (A * rain - S 0 2 - ws)))
         rw [eCe] at e
         first
           | (rw [if_pos (by omega)] at e; exact e)
           | (rw [if_neg (by omega), if_pos (by omega)] at e; exact e)
           | (rw [if_neg (by omega), if_neg (by omega)] at e; exact e))
      | (exfalso; omega)
  (apply hG [29] 2000; simp only [w_br_i, w_ite, w_all, w_all0, forall_eq, w_b0, w_b1, ↓reduceIte, w_ent, w_pos, List.replicate_succ, List.replicate_zero, wp_s, wk_s, w_lk_c, w_ld0, w_ldS, w_kp0, w_kp, w_s1, w_s2, w_to, w_if, w_call, w_sw, w_cat, w_cats, w_psh, w_fv, List.contains_cons, List.contains_nil, List.set_cons_zero, List.set_cons_succ, List.length_cons, List.length_nil, List.find?_cons, List.find?_nil, List.take_succ_cons, List.take_zero, List.drop_succ_cons, List.drop_zero, List.reverse_cons, List.reverse_nil, List.nil_append, List.cons_append, Option.map_some, Option.map_none, Nat.reduceAdd, Nat.reduceBEq, Nat.reduceEqDiff, Nat.reduceLT, Nat.reduceLeDiff, Nat.reduceSub, Int.reduceAdd, Int.reduceSub, Int.reduceMul, Int.reduceNeg, Int.reduceToNat, Int.reduceLT, Int.reduceLE, Int.reduceEq, Bool.false_eq_true, Bool.or_false, Bool.false_or, Bool.true_or, Bool.or_true, if_true, if_false, ite_true, ite_false, true_and, and_true, false_and, and_false, true_or, or_true, false_or, or_false, Int.cast_ofNat_Int, Int.toNat_natCast, Int.natCast_add, List.getElem?_cons_zero, List.getElem?_cons_succ, true_implies, forall_const, not_true_eq_false, not_false_eq_true, ne_eq, beq_iff_eq, imp_self, List.length_set, Nat.zero_add, Nat.add_zero, Int.zero_add, Int.add_zero, w1_aload_n_0, w1_getfield, w1_iconst, w1_iaload, w1_iload_n_2, w1_imul, w1_isub, w1_iload_n_3, w1_ifCond, w1_goto, w1_istore, w1_iload, w1_putfield, w1_putfield2, w1_iload_n_1, w1_iadd, w1_if_icmp, w1_dup, w1_dup2, w1_return, dX10_begin_0, dX10_begin_1, dX10_begin_4, dX10_begin_5, dX10_begin_6, dX10_begin_7, dX10_begin_8, dX10_begin_9, dX10_begin_12, dX10_begin_13, dX10_begin_14, dX10_begin_15, dX10_begin_16, dX10_begin_19, dX10_begin_20, dX10_begin_23, dX10_begin_24, dX10_begin_27, dX10_begin_28, dX10_begin_29, dX10_begin_30, dX10_begin_32, dX10_begin_33, dX10_begin_34, dX10_begin_37, dX10_begin_39, dX10_begin_42, dX10_begin_43, dX10_begin_46, dX10_begin_48, dX10_begin_51, dX10_begin_52, dX10_begin_53, dX10_begin_54, dX10_begin_57, dX10_begin_58, dX10_begin_61, dX10_begin_62, dX10_begin_63, dX10_begin_66, dX10_begin_67, dX10_begin_70, dX10_begin_71, dX10_begin_72, dX10_begin_75, dX10_begin_76, dX10_begin_79, dX10_begin_80, dX10_begin_83, dX10_begin_84, dX10_begin_85, dX10_begin_86, dX10_begin_89, dX10_begin_90, dX10_begin_93, dX10_begin_94, dX10_begin_95, dX10_begin_98, dX10_begin_99, dX10_begin_102, dX10_begin_103, dX10_begin_106, dX10_begin_107, dX10_begin_109, dX10_begin_110, dX10_begin_113, dX10_begin_116, dX10_begin_118, dX10_begin_121, dX10_begin_122, dX10_begin_125, dX10_begin_128, dX10_begin_129, dX10_begin_130, dX10_begin_133, dX10_begin_134, dX10_begin_137, dX10_begin_138, dX10_begin_141, w_flk10_165, w_flk10_168, w_flk10_171, w_flk10_174, w_flk10_19, w_kd_135, w_rf_135_0, w_rf_135_2, w_rf_135_3, w_rf_135_8, w_rf_135_12, w_rf_135_14, w_rf_135_15, w_rf_135_16, w_rf_135_24, w_rf_135_25, w_rf_135_26, w_rf_135_27, w_rf_135_28, w_rf_135_29, w_rf_135_30, w_rf_135_33, w_rf_135_34, w_rf_135_39, w_rf_135_40, w_rf_135_41, w_rf_135_42, w_kd_139, w_ln_139, m0, m2, m3])
  (repeat' (with_reducible (first | refine And.intro ?_ ?_ | intro _))) <;> (try (first | (with_reducible assumption) | (simp only [inI, inL]; omega) | omega))
  all_goals first
    | exact e29 _ _ (by rw [if_pos (by omega)])
    | exact e29 _ _ (by rw [if_neg (by omega)])
    | (exfalso; omega)
