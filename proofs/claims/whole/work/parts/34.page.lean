/-! the page's reading: how far, whether well so far, what was found, how many uses -/
abbrev pP : Type := Int × Int × (Nat → Int) × Int
def pw (w : wW) (p : pP) : wW := fun k i => if k = 3 then p.2.2.1 i else if k = 1 ∧ i = 3 then p.2.2.2 else if k = 1 ∧ i = 4 then p.1 else if k = 1 ∧ i = 5 then p.2.1 else w k i
def pq (w : wW) : pP := (w 1 4, w 1 5, w 3, w 1 3)
theorem pw_pq (w : wW) : pw w (pq w) = w := by
  funext k i
  unfold pw pq
  split
  · rename_i h; rw [h]
  · split
    · rename_i h; rw [h.1, h.2]
    · split
      · rename_i h; rw [h.1, h.2]
      · split
        · rename_i h; rw [h.1, h.2]
        · rfl
theorem pq_pw (w : wW) (p : pP) : pq (pw w p) = p := rfl
theorem pw_pw (w : wW) (p q : pP) : pw (pw w p) q = pw w q := by
  funext k i
  unfold pw
  repeat' split
  all_goals rfl
theorem pw_2 (w : wW) (p : pP) : pw w p 2 = w 2 := rfl
theorem pw_12 (w : wW) (p : pP) : pw w p 1 2 = w 1 2 := rfl
theorem pw_13 (w : wW) (p : pP) : pw w p 1 3 = p.2.2.2 := rfl
theorem pw_14 (w : wW) (p : pP) : pw w p 1 4 = p.1 := rfl
theorem pw_15 (w : wW) (p : pP) : pw w p 1 5 = p.2.1 := rfl
theorem pw_u3 (w : wW) (p : pP) (v : Int) : w_up (pw w p) 1 3 v = pw w (p.1, p.2.1, p.2.2.1, v) := by
  funext k i
  unfold pw w_up
  by_cases h : k = 1 ∧ i = 3
  · rw [if_pos h, if_neg (by omega), if_pos h]
  · rw [if_neg h, if_neg h]
    simp only [if_neg h]
theorem pw_u4 (w : wW) (p : pP) (v : Int) : w_up (pw w p) 1 4 v = pw w (v, p.2.1, p.2.2.1, p.2.2.2) := by
  funext k i
  unfold pw w_up
  by_cases h : k = 1 ∧ i = 4
  · rw [if_pos h, if_neg (by omega), if_neg (by omega), if_pos h]
  · rw [if_neg h]
    simp only [if_neg h]
theorem pw_u5 (w : wW) (p : pP) (v : Int) : w_up (pw w p) 1 5 v = pw w (p.1, v, p.2.2.1, p.2.2.2) := by
  funext k i
  unfold pw w_up
  by_cases h : k = 1 ∧ i = 5
  · rw [if_pos h, if_neg (by omega), if_neg (by omega), if_neg (by omega), if_pos h]
  · rw [if_neg h]
    simp only [if_neg h]
def fup (f : Nat → Int) (j : Nat) (v : Int) : Nat → Int := fun i => if i = j then v else f i
theorem pw_uf (w : wW) (p : pP) (j : Nat) (v : Int) : w_up (pw w p) 3 j v = pw w (p.1, p.2.1, fup p.2.2.1 j v, p.2.2.2) := by
  funext k i
  unfold pw w_up fup
  by_cases h : k = 3
  · subst h
    by_cases h2 : i = j
    · simp [h2]
    · simp [h2]
  · simp [h]
def pI (len : Int) (p : pP) : Prop := (0 ≤ p.1 ∧ p.1 ≤ len) ∧ (p.2.1 = 0 ∨ p.2.1 = 1)
def tI (w : wW) : Prop := (0 ≤ w 1 2 ∧ w 1 2 ≤ 60) ∧ ∀ i, i < 60 → 0 ≤ w 2 i ∧ w 2 i ≤ 126
theorem tI_pw (w : wW) (p : pP) : tI (pw w p) ↔ tI w := Iff.rfl
def pDig (t : Nat → Int) (len a : Int) : Int := if a < len ∧ 48 ≤ t a.toNat ∧ t a.toNat ≤ 57 then t a.toNat - 48 else -1
theorem pDig_in (t : Nat → Int) (len a : Int) : -1 ≤ pDig t len a ∧ pDig t len a ≤ 9 ∧ (0 ≤ pDig t len a → a < len) := by
  unfold pDig
  split <;> omega
def pSign (t : Nat → Int) (len c : Int) (p : pP) : pP := if ¬ p.2.1 = 0 ∧ p.1 < len ∧ t p.1.toNat = c then (p.1 + 1, 1, p.2.2) else (p.1, 0, p.2.2)
theorem pSign_I {t : Nat → Int} {len c : Int} {p : pP} (h : pI len p) : pI len (pSign t len c p) := by
  obtain ⟨h1, h2⟩ := h
  unfold pSign pI
  split
  · dsimp only; omega
  · dsimp only; omega
def pMore (t : Nat → Int) (len most : Int) : Nat → Int × Int → Int × Int
  | 0, q => q
  | n + 1, q => if q.1 ≤ 0 ∨ pDig t len q.2 = -1 ∨ most < 10 * q.1 + pDig t len q.2 then q else pMore t len most n (10 * q.1 + pDig t len q.2, q.2 + 1)
theorem pMore_I (t : Nat → Int) (len most : Int) : ∀ (n : Nat) (q : Int × Int), 0 ≤ q.2 → q.2 ≤ len → 0 ≤ q.1 → q.1 ≤ most → (q.2 ≤ (pMore t len most n q).2 ∧ (pMore t len most n q).2 ≤ len) ∧ (q.1 ≤ (pMore t len most n q).1 ∧ (pMore t len most n q).1 ≤ most)
  | 0, q, h1, h2, h3, h4 => ⟨⟨Int.le_refl _, h2⟩, Int.le_refl _, h4⟩
  | n + 1, q, h1, h2, h3, h4 => by
    have hd := pDig_in t len q.2
    simp only [pMore]
    split
    · exact ⟨⟨Int.le_refl _, h2⟩, Int.le_refl _, h4⟩
    · have ih := pMore_I t len most n (10 * q.1 + pDig t len q.2, q.2 + 1) (by dsimp only; omega) (by dsimp only; omega) (by dsimp only; omega) (by dsimp only; omega)
      dsimp only at ih
      omega
def pV0 (t : Nat → Int) (len : Int) (p : pP) : Int := if ¬ p.2.1 = 0 then pDig t len p.1 else -1
def pNumV (t : Nat → Int) (len least most : Int) (p : pP) : Int := if pV0 t len p < least ∨ most < pV0 t len p then 0 else (pMore t len most 2 (pV0 t len p, p.1 + 1)).1
def pNum (t : Nat → Int) (len least most : Int) (p : pP) : pP := if pV0 t len p < least ∨ most < pV0 t len p then (p.1, 0, p.2.2) else ((pMore t len most 2 (pV0 t len p, p.1 + 1)).2, p.2.1, p.2.2)
theorem pV0_in (t : Nat → Int) (len : Int) (p : pP) : -1 ≤ pV0 t len p ∧ pV0 t len p ≤ 9 ∧ (0 ≤ pV0 t len p → p.1 < len) := by
  have := pDig_in t len p.1
  unfold pV0
  split <;> omega
theorem pNum_I {t : Nat → Int} {len least most : Int} {p : pP} (h0 : 0 ≤ least) (h : pI len p) : pI len (pNum t len least most p) := by
  have hv := pV0_in t len p
  obtain ⟨h1, h2⟩ := h
  unfold pNum pI
  split
  · dsimp only; omega
  · have := pMore_I t len most 2 (pV0 t len p, p.1 + 1) (by dsimp only; omega) (by dsimp only; omega) (by dsimp only; omega) (by dsimp only; omega)
    dsimp only at this ⊢
    omega
theorem pNumV_in {t : Nat → Int} {len least most : Int} {p : pP} (h0 : 0 ≤ least) (hm : 0 ≤ most) (h : pI len p) : 0 ≤ pNumV t len least most p ∧ pNumV t len least most p ≤ most := by
  have hv := pV0_in t len p
  obtain ⟨h1, h2⟩ := h
  unfold pNumV
  split
  · omega
  · have := pMore_I t len most 2 (pV0 t len p, p.1 + 1) (by dsimp only; omega) (by dsimp only; omega) (by dsimp only; omega) (by dsimp only; omega)
    dsimp only at this
    omega
def p_X3_sees : List wV → wW → Prop := fun av w => match av with
  | [.inr (.inr (some this)), .inl c] => this = 1 ∧ inI c ∧ tI w ∧ pI (w 1 2) (pq w)
  | _ => False
theorem h_X3_sees : ∀ av w, p_X3_sees av w → ∃ a r, av = vr a :: r ∧ w_kd a = 100 + 3 := by
  intro av w h
  unfold p_X3_sees at h
  split at h
  · refine ⟨_, _, rfl, ?_⟩
    first | (rw [h.1]; rfl) | (rw [h]; rfl)
  · exact h.elim
def pSeesV (t : Nat → Int) (len c : Int) (p : pP) : Int := if ¬ p.2.1 = 0 ∧ p.1 < len ∧ t p.1.toNat = c then 1 else 0
def q_X3_sees : List wV → wW → Int → wW → Prop := fun av w r w' => match av with
  | [.inr (.inr (some this)), .inl c] => r = pSeesV (w 2) (w 1 2) c (pq w) ∧ w' = w
  | _ => False
set_option maxRecDepth 100000 in
set_option maxHeartbeats 4000000 in
theorem c_X3_sees : w_Ct yX3_sees cX3_sees 2 3 0 0 p_X3_sees q_X3_sees := by
  refine w_met (own := RX3) (fl := w_fl3) (gs := w_gs3) (kl := w_kl3) (ki := w_ki3) (cs := []) (by decide +kernel) rfl ?_ w_flok3 w_gsok3 w_klok3 w_kiok3 ?_ ?_
  · intro av w h
    unfold p_X3_sees at h
    split at h
    · simp [w_pos, w_cat]
    · exact h.elim
  · exact fun _ h => absurd h List.not_mem_nil
  intro av w hp
  unfold p_X3_sees at hp
  split at hp
  case h_2 => exact hp.elim
  rename_i this c
  intro G hG
  simp only [w_ent, w_pos, w_cat, Nat.reduceEqDiff, ↓reduceIte, List.length_cons, List.length_nil, Nat.reduceAdd, Nat.reduceSub, List.cons_append, List.nil_append, List.replicate_succ, List.replicate_zero]
  obtain ⟨rfl, h1, ⟨h2, h3⟩, h4, h5⟩ := hp
  simp only [pq] at h4 h5
  have h6 := fun q => h3 (w 1 4).toNat (show (w 1 4).toNat < 60 from q)
  (apply hG [] 2000; simp only [w_br_i, w_ite, w_all, w_all0, forall_eq, w_b0, w_b1, ↓reduceIte, w_ent, w_pos, List.replicate_succ, List.replicate_zero, wp_s, wk_s, w_lk_c, w_ld0, w_ldS, w_kp0, w_kp, w_s1, w_s2, w_to, w_if, w_call, w_sw, w_cat, w_cats, w_psh, w_fv, List.contains_cons, List.contains_nil, List.set_cons_zero, List.set_cons_succ, List.length_cons, List.length_nil, List.find?_cons, List.find?_nil, List.take_succ_cons, List.take_zero, List.drop_succ_cons, List.drop_zero, List.reverse_cons, List.reverse_nil, List.nil_append, List.cons_append, Option.map_some, Option.map_none, Nat.reduceAdd, Nat.reduceBEq, Nat.reduceEqDiff, Nat.reduceLT, Nat.reduceLeDiff, Nat.reduceSub, Int.reduceAdd, Int.reduceSub, Int.reduceMul, Int.reduceNeg, Int.reduceToNat, Int.reduceLT, Int.reduceLE, Int.reduceEq, Bool.false_eq_true, Bool.or_false, Bool.false_or, Bool.true_or, Bool.or_true, if_true, if_false, ite_true, ite_false, true_and, and_true, false_and, and_false, true_or, or_true, false_or, or_false, Int.cast_ofNat_Int, Int.toNat_natCast, Int.natCast_add, List.getElem?_cons_zero, List.getElem?_cons_succ, true_implies, forall_const, not_true_eq_false, not_false_eq_true, ne_eq, beq_iff_eq, imp_self, List.length_set, Nat.zero_add, Nat.add_zero, Int.zero_add, Int.add_zero, w1_aload_n_0, w1_getfield, w1_ifCond, w1_if_icmp, w1_iaload, w1_iload_n_1, w1_iconst, w1_goto, w1_ireturn, dX3_sees_0, dX3_sees_1, dX3_sees_4, dX3_sees_7, dX3_sees_8, dX3_sees_11, dX3_sees_12, dX3_sees_15, dX3_sees_18, dX3_sees_19, dX3_sees_22, dX3_sees_23, dX3_sees_26, dX3_sees_27, dX3_sees_28, dX3_sees_31, dX3_sees_32, dX3_sees_35, dX3_sees_36, w_flk3_18, w_flk3_22, w_flk3_25, w_flk3_9, w_kd_1, w_rf_1_0, w_rf_1_1, w_kd_2, w_ln_2])
  (repeat' (with_reducible (first | refine And.intro ?_ ?_ | intro _))) <;> (try (first | assumption | contradiction | exact Or.inl trivial | exact Or.inl rfl | exact Or.inr rfl | (simp only [inI, inL]; omega) | omega))
  all_goals (simp only [q_X3_sees, pSeesV, pq]; ((repeat' (first | refine And.intro ?_ ?_ | split)) <;> (first | rfl | trivial | assumption | contradiction | omega | (exfalso; omega))))
def p_X3_takeSign : List wV → wW → Prop := fun av w => match av with
  | [.inr (.inr (some this)), .inl c] => this = 1 ∧ inI c ∧ tI w ∧ pI (w 1 2) (pq w)
  | _ => False
theorem h_X3_takeSign : ∀ av w, p_X3_takeSign av w → ∃ a r, av = vr a :: r ∧ w_kd a = 100 + 3 := by
  intro av w h
  unfold p_X3_takeSign at h
  split at h
  · refine ⟨_, _, rfl, ?_⟩
    first | (rw [h.1]; rfl) | (rw [h]; rfl)
  · exact h.elim
def q_X3_takeSign : List wV → wW → Int → wW → Prop := fun av w r w' => match av with
  | [.inr (.inr (some this)), .inl c] => w' = pw w (pSign (w 2) (w 1 2) c (pq w))
  | _ => False
set_option maxRecDepth 100000 in
set_option maxHeartbeats 4000000 in
theorem c_X3_takeSign : w_Ct yX3_takeSign cX3_takeSign 2 0 1 21 p_X3_takeSign q_X3_takeSign := by
  refine w_met (own := RX3) (fl := w_fl3) (gs := w_gs3) (kl := w_kl3) (ki := w_ki3) (cs := [(45, (0, 2, 3, p_X3_sees, q_X3_sees))]) (by decide +kernel) rfl ?_ w_flok3 w_gsok3 w_klok3 w_kiok3 ?_ ?_
  · intro av w h
    unfold p_X3_takeSign at h
    split at h
    · simp [w_pos, w_cat]
    · exact h.elim
  · exact List.forall_mem_cons.mpr ⟨⟨_, _, w_callV (own := RX3) (idx := 45) (ci := 3) c_X3_sees rfl rfl h_X3_sees (w_m2 217 (by decide +kernel) (by decide +kernel)) (w_m2 219 (by decide +kernel) (by decide +kernel)) (w_m0 3 (by decide +kernel) (by decide +kernel)) (w_m1 2 (by decide +kernel) (by decide +kernel)) (w_m2 220 (by decide +kernel) (by decide +kernel)) ⟨by decide +kernel, by decide +kernel, by decide +kernel⟩, by decide, by decide⟩, fun _ h => absurd h List.not_mem_nil⟩
  intro av w hp
  unfold p_X3_takeSign at hp
  split at hp
  case h_2 => exact hp.elim
  rename_i this c
  intro G hG
  simp only [w_ent, w_pos, w_cat, Nat.reduceEqDiff, ↓reduceIte, List.length_cons, List.length_nil, Nat.reduceAdd, Nat.reduceSub, List.cons_append, List.nil_append, List.replicate_succ, List.replicate_zero]
  obtain ⟨rfl, h1, h2, h3⟩ := hp
  obtain ⟨w, p, rfl⟩ : ∃ w0 p, w = pw w0 p := ⟨w, pq w, (pw_pq w).symm⟩
  rw [tI_pw] at h2
  rw [pq_pw, pw_12] at h3
  (apply hG [] 2000; simp only [w_br_i, w_ite, w_all, w_all0, forall_eq, w_b0, w_b1, ↓reduceIte, w_ent, w_pos, List.replicate_succ, List.replicate_zero, wp_s, wk_s, w_lk_c, w_ld0, w_ldS, w_kp0, w_kp, w_s1, w_s2, w_to, w_if, w_call, w_sw, w_cat, w_cats, w_psh, w_fv, List.contains_cons, List.contains_nil, List.set_cons_zero, List.set_cons_succ, List.length_cons, List.length_nil, List.find?_cons, List.find?_nil, List.take_succ_cons, List.take_zero, List.drop_succ_cons, List.drop_zero, List.reverse_cons, List.reverse_nil, List.nil_append, List.cons_append, Option.map_some, Option.map_none, Nat.reduceAdd, Nat.reduceBEq, Nat.reduceEqDiff, Nat.reduceLT, Nat.reduceLeDiff, Nat.reduceSub, Int.reduceAdd, Int.reduceSub, Int.reduceMul, Int.reduceNeg, Int.reduceToNat, Int.reduceLT, Int.reduceLE, Int.reduceEq, Bool.false_eq_true, Bool.or_false, Bool.false_or, Bool.true_or, Bool.or_true, if_true, if_false, ite_true, ite_false, true_and, and_true, false_and, and_false, true_or, or_true, false_or, or_false, Int.cast_ofNat_Int, Int.toNat_natCast, Int.natCast_add, List.getElem?_cons_zero, List.getElem?_cons_succ, true_implies, forall_const, not_true_eq_false, not_false_eq_true, ne_eq, beq_iff_eq, imp_self, List.length_set, Nat.zero_add, Nat.add_zero, Int.zero_add, Int.add_zero, w1_aload_n_0, w1_iload_n_1, w1_invokevirtual, w1_putfield, w1_putfield2, w1_dup, w1_dup2, w1_getfield, w1_ifCond, w1_iconst, w1_goto, w1_iadd, w1_return, dX3_takeSign_0, dX3_takeSign_1, dX3_takeSign_2, dX3_takeSign_3, dX3_takeSign_6, dX3_takeSign_9, dX3_takeSign_10, dX3_takeSign_11, dX3_takeSign_14, dX3_takeSign_15, dX3_takeSign_18, dX3_takeSign_21, dX3_takeSign_22, dX3_takeSign_25, dX3_takeSign_26, dX3_takeSign_27, dX3_takeSign_30, w_flk3_22, w_flk3_25, w_kd_1, w_rf_1_0, w_rf_1_1, w_kd_2, w_ln_2, p_X3_sees, q_X3_sees, pw_2, pw_12, pw_14, pw_15, pw_u4, pw_u5, pq_pw, tI_pw, h1, h2, h3])
  have e : q_X3_takeSign [vr 1, vi c] (pw w p) 0 (pw w (pSign (w 2) (w 1 2) c p)) := by simp only [q_X3_takeSign, pw_2, pw_12, pq_pw, pw_pw]
  unfold pSign at e
  by_cases q : ¬ p.2.1 = 0 ∧ p.1 < w 1 2 ∧ w 2 p.1.toNat = c
  · rw [if_pos q] at e
    have hs : pSeesV (w 2) (w 1 2) c p = 1 := if_pos q
    rw [hs]
    (repeat' (with_reducible (first | refine And.intro ?_ ?_ | intro _))) <;> (try (first | assumption | contradiction | exact Or.inl trivial | exact Or.inl rfl | exact Or.inr rfl | (simp only [inI, inL]; omega) | omega))
  · rw [if_neg q] at e
    have hs : pSeesV (w 2) (w 1 2) c p = 0 := if_neg q
    rw [hs]
    simp only [Int.add_zero]
    (repeat' (with_reducible (first | refine And.intro ?_ ?_ | intro _))) <;> (try (first | assumption | contradiction | exact Or.inl trivial | exact Or.inl rfl | exact Or.inr rfl | (simp only [inI, inL]; omega) | omega))
def p_X3_digitAhead : List wV → wW → Prop := fun av w => match av with
  | [.inr (.inr (some this))] => this = 1 ∧ tI w ∧ pI (w 1 2) (pq w)
  | _ => False
theorem h_X3_digitAhead : ∀ av w, p_X3_digitAhead av w → ∃ a r, av = vr a :: r ∧ w_kd a = 100 + 3 := by
  intro av w h
  unfold p_X3_digitAhead at h
  split at h
  · refine ⟨_, _, rfl, ?_⟩
    first | (rw [h.1]; rfl) | (rw [h]; rfl)
  · exact h.elim
def q_X3_digitAhead : List wV → wW → Int → wW → Prop := fun av w r w' => match av with
  | [.inr (.inr (some this))] => r = pDig (w 2) (w 1 2) (w 1 4) ∧ w' = w
  | _ => False
set_option maxRecDepth 100000 in
set_option maxHeartbeats 4000000 in
theorem c_X3_digitAhead : w_Ct yX3_digitAhead cX3_digitAhead 2 1 0 0 p_X3_digitAhead q_X3_digitAhead := by
  refine w_met (own := RX3) (fl := w_fl3) (gs := w_gs3) (kl := w_kl3) (ki := w_ki3) (cs := []) (by decide +kernel) rfl ?_ w_flok3 w_gsok3 w_klok3 w_kiok3 ?_ ?_
  · intro av w h
    unfold p_X3_digitAhead at h
    split at h
    · simp [w_pos, w_cat]
    · exact h.elim
  · exact fun _ h => absurd h List.not_mem_nil
  intro av w hp
  unfold p_X3_digitAhead at hp
  split at hp
  case h_2 => exact hp.elim
  rename_i this
  intro G hG
  simp only [w_ent, w_pos, w_cat, Nat.reduceEqDiff, ↓reduceIte, List.length_cons, List.length_nil, Nat.reduceAdd, Nat.reduceSub, List.cons_append, List.nil_append, List.replicate_succ, List.replicate_zero]
  obtain ⟨rfl, ⟨h2, h3⟩, h4, h5⟩ := hp
  simp only [pq] at h4 h5
  have h6 := fun q => h3 (w 1 4).toNat (show (w 1 4).toNat < 60 from q)
  (apply hG [] 2000; simp only [w_br_i, w_ite, w_all, w_all0, forall_eq, w_b0, w_b1, ↓reduceIte, w_ent, w_pos, List.replicate_succ, List.replicate_zero, wp_s, wk_s, w_lk_c, w_ld0, w_ldS, w_kp0, w_kp, w_s1, w_s2, w_to, w_if, w_call, w_sw, w_cat, w_cats, w_psh, w_fv, List.contains_cons, List.contains_nil, List.set_cons_zero, List.set_cons_succ, List.length_cons, List.length_nil, List.find?_cons, List.find?_nil, List.take_succ_cons, List.take_zero, List.drop_succ_cons, List.drop_zero, List.reverse_cons, List.reverse_nil, List.nil_append, List.cons_append, Option.map_some, Option.map_none, Nat.reduceAdd, Nat.reduceBEq, Nat.reduceEqDiff, Nat.reduceLT, Nat.reduceLeDiff, Nat.reduceSub, Int.reduceAdd, Int.reduceSub, Int.reduceMul, Int.reduceNeg, Int.reduceToNat, Int.reduceLT, Int.reduceLE, Int.reduceEq, Bool.false_eq_true, Bool.or_false, Bool.false_or, Bool.true_or, Bool.or_true, if_true, if_false, ite_true, ite_false, true_and, and_true, false_and, and_false, true_or, or_true, false_or, or_false, Int.cast_ofNat_Int, Int.toNat_natCast, Int.natCast_add, List.getElem?_cons_zero, List.getElem?_cons_succ, true_implies, forall_const, not_true_eq_false, not_false_eq_true, ne_eq, beq_iff_eq, imp_self, List.length_set, Nat.zero_add, Nat.add_zero, Int.zero_add, Int.add_zero, w1_aload_n_0, w1_getfield, w1_if_icmp, w1_iaload, w1_bipush, w1_iconst, w1_goto, w1_istore_n_1, w1_iload_n_1, w1_ifCond, w1_isub, w1_ireturn, dX3_digitAhead_0, dX3_digitAhead_1, dX3_digitAhead_4, dX3_digitAhead_5, dX3_digitAhead_8, dX3_digitAhead_11, dX3_digitAhead_12, dX3_digitAhead_15, dX3_digitAhead_16, dX3_digitAhead_19, dX3_digitAhead_20, dX3_digitAhead_22, dX3_digitAhead_25, dX3_digitAhead_26, dX3_digitAhead_29, dX3_digitAhead_30, dX3_digitAhead_33, dX3_digitAhead_34, dX3_digitAhead_36, dX3_digitAhead_39, dX3_digitAhead_40, dX3_digitAhead_43, dX3_digitAhead_44, dX3_digitAhead_45, dX3_digitAhead_46, dX3_digitAhead_49, dX3_digitAhead_50, dX3_digitAhead_53, dX3_digitAhead_54, dX3_digitAhead_57, dX3_digitAhead_58, dX3_digitAhead_60, dX3_digitAhead_61, dX3_digitAhead_64, dX3_digitAhead_65, w_flk3_18, w_flk3_22, w_flk3_9, w_kd_1, w_rf_1_0, w_rf_1_1, w_kd_2, w_ln_2])
  (repeat' (with_reducible (first | refine And.intro ?_ ?_ | intro _))) <;> (try (first | assumption | contradiction | exact Or.inl trivial | exact Or.inl rfl | exact Or.inr rfl | (simp only [inI, inL]; omega) | omega))
  all_goals (simp only [q_X3_digitAhead, pDig]; ((repeat' (first | refine And.intro ?_ ?_ | split)) <;> (first | rfl | trivial | assumption | contradiction | omega | (exfalso; omega))))

theorem pMore_f (t : Nat → Int) (len most : Int) (n : Nat) (q : Int × Int) : pMore t len most (n + 1) q = if q.1 ≤ 0 ∨ pDig t len q.2 = -1 ∨ most < 10 * q.1 + pDig t len q.2 then q else pMore t len most n (10 * q.1 + pDig t len q.2, q.2 + 1) := rfl
def p_X3_takeNumber : List wV → wW → Prop := fun av w => match av with
  | [.inr (.inr (some this)), .inl least, .inl most] => this = 1 ∧ tI w ∧ pI (w 1 2) (pq w) ∧ (0 ≤ least ∧ least ≤ 1) ∧ (0 ≤ most ∧ most ≤ 200)
  | _ => False
theorem h_X3_takeNumber : ∀ av w, p_X3_takeNumber av w → ∃ a r, av = vr a :: r ∧ w_kd a = 100 + 3 := by
  intro av w h
  unfold p_X3_takeNumber at h
  split at h
  · refine ⟨_, _, rfl, ?_⟩
    first | (rw [h.1]; rfl) | (rw [h]; rfl)
  · exact h.elim
def q_X3_takeNumber : List wV → wW → Int → wW → Prop := fun av w r w' => match av with
  | [.inr (.inr (some this)), .inl least, .inl most] => r = pNumV (w 2) (w 1 2) least most (pq w) ∧ w' = pw w (pNum (w 2) (w 1 2) least most (pq w))
  | _ => False
set_option maxRecDepth 100000 in
set_option maxHeartbeats 4000000 in
theorem c_X3_takeNumber : w_Ct yX3_takeNumber cX3_takeNumber 6 1 1 21 p_X3_takeNumber q_X3_takeNumber := by
  refine w_met (own := RX3) (fl := w_fl3) (gs := w_gs3) (kl := w_kl3) (ki := w_ki3) (cs := [(66, (0, 1, 1, p_X3_digitAhead, q_X3_digitAhead))]) (by decide +kernel) rfl ?_ w_flok3 w_gsok3 w_klok3 w_kiok3 ?_ ?_
  · intro av w h
    unfold p_X3_takeNumber at h
    split at h
    · simp [w_pos, w_cat]
    · exact h.elim
  · exact List.forall_mem_cons.mpr ⟨⟨_, _, w_callV (own := RX3) (idx := 66) (ci := 3) c_X3_digitAhead rfl rfl h_X3_digitAhead (w_m2 227 (by decide +kernel) (by decide +kernel)) (w_m2 229 (by decide +kernel) (by decide +kernel)) (w_m0 5 (by decide +kernel) (by decide +kernel)) (w_m1 2 (by decide +kernel) (by decide +kernel)) (w_m2 230 (by decide +kernel) (by decide +kernel)) ⟨by decide +kernel, by decide +kernel, by decide +kernel⟩, by decide, by decide⟩, fun _ h => absurd h List.not_mem_nil⟩
  intro av w hp
  unfold p_X3_takeNumber at hp
  split at hp
  case h_2 => exact hp.elim
  rename_i this least most
  intro G hG
  simp only [w_ent, w_pos, w_cat, Nat.reduceEqDiff, ↓reduceIte, List.length_cons, List.length_nil, Nat.reduceAdd, Nat.reduceSub, List.cons_append, List.nil_append, List.replicate_succ, List.replicate_zero]
  obtain ⟨rfl, h2, h3, h4, h5⟩ := hp
  obtain ⟨w, p, rfl⟩ : ∃ w0 p, w = pw w0 p := ⟨w, pq w, (pw_pq w).symm⟩
  rw [tI_pw] at h2
  rw [pq_pw, pw_12] at h3
  have hV := pV0_in (w 2) (w 1 2) p
  have hI := h3
  obtain ⟨h6, h7⟩ := h3
  have loop : ∀ n i : Nat, i + n = 2 → ∀ v a : Int, ∀ x5 : Option wV, pI (w 1 2) (a, p.2.1, p.2.2) → (0 ≤ v ∧ v ≤ most) → (∀ v', v' = (pMore (w 2) (w 1 2) most n (v, a)).1 → q_X3_takeNumber [vr 1, vi least, vi most] (pw w p) v' (pw w ((pMore (w 2) (w 1 2) most n (v, a)).2, p.2.1, p.2.2))) → G 46 [some (vr 1), some (vi least), some (vi most), some (vi v), some (vi (i + 1)), x5] [] (pw w (a, p.2.1, p.2.2)) := by
    intro n
    induction n with
    | zero =>
      intro i h2 v a x5 h8 h9 hq
      have e : i = 1 + 1 := by omega
      subst e
      (apply hG [46] 2000; simp only [w_br_i, w_ite, w_all, w_all0, forall_eq, w_b0, w_b1, ↓reduceIte, w_ent, w_pos, List.replicate_succ, List.replicate_zero, wp_s, wk_s, w_lk_c, w_ld0, w_ldS, w_kp0, w_kp, w_s1, w_s2, w_to, w_if, w_call, w_sw, w_cat, w_cats, w_psh, w_fv, List.contains_cons, List.contains_nil, List.set_cons_zero, List.set_cons_succ, List.length_cons, List.length_nil, List.find?_cons, List.find?_nil, List.take_succ_cons, List.take_zero, List.drop_succ_cons, List.drop_zero, List.reverse_cons, List.reverse_nil, List.nil_append, List.cons_append, Option.map_some, Option.map_none, Nat.reduceAdd, Nat.reduceBEq, Nat.reduceEqDiff, Nat.reduceLT, Nat.reduceLeDiff, Nat.reduceSub, Int.reduceAdd, Int.reduceSub, Int.reduceMul, Int.reduceNeg, Int.reduceToNat, Int.reduceLT, Int.reduceLE, Int.reduceEq, Bool.false_eq_true, Bool.or_false, Bool.false_or, Bool.true_or, Bool.or_true, if_true, if_false, ite_true, ite_false, true_and, and_true, false_and, and_false, true_or, or_true, false_or, or_false, Int.cast_ofNat_Int, Int.toNat_natCast, Int.natCast_add, List.getElem?_cons_zero, List.getElem?_cons_succ, true_implies, forall_const, not_true_eq_false, not_false_eq_true, ne_eq, beq_iff_eq, imp_self, List.length_set, Nat.zero_add, Nat.add_zero, Int.zero_add, Int.add_zero, w1_aload_n_0, w1_getfield, w1_ifCond, w1_invokevirtual, w1_goto, w1_iconst, w1_istore_n_3, w1_iload_n_3, w1_iload_n_1, w1_if_icmp, w1_iload_n_2, w1_putfield, w1_putfield2, w1_ireturn, w1_dup, w1_dup2, w1_iadd, w1_istore, w1_iload, w1_bipush, w1_imul, w1_iinc, dX3_takeNumber_0, dX3_takeNumber_1, dX3_takeNumber_4, dX3_takeNumber_7, dX3_takeNumber_8, dX3_takeNumber_11, dX3_takeNumber_14, dX3_takeNumber_15, dX3_takeNumber_16, dX3_takeNumber_17, dX3_takeNumber_18, dX3_takeNumber_21, dX3_takeNumber_22, dX3_takeNumber_23, dX3_takeNumber_26, dX3_takeNumber_27, dX3_takeNumber_28, dX3_takeNumber_31, dX3_takeNumber_32, dX3_takeNumber_33, dX3_takeNumber_34, dX3_takeNumber_35, dX3_takeNumber_38, dX3_takeNumber_39, dX3_takeNumber_40, dX3_takeNumber_43, dX3_takeNumber_44, dX3_takeNumber_46, dX3_takeNumber_48, dX3_takeNumber_49, dX3_takeNumber_52, dX3_takeNumber_53, dX3_takeNumber_56, dX3_takeNumber_57, dX3_takeNumber_60, dX3_takeNumber_62, dX3_takeNumber_64, dX3_takeNumber_65, dX3_takeNumber_68, dX3_takeNumber_70, dX3_takeNumber_71, dX3_takeNumber_72, dX3_takeNumber_74, dX3_takeNumber_75, dX3_takeNumber_76, dX3_takeNumber_79, dX3_takeNumber_82, dX3_takeNumber_84, dX3_takeNumber_85, dX3_takeNumber_86, dX3_takeNumber_88, dX3_takeNumber_89, dX3_takeNumber_90, dX3_takeNumber_91, dX3_takeNumber_92, dX3_takeNumber_95, dX3_takeNumber_96, dX3_takeNumber_97, dX3_takeNumber_100, dX3_takeNumber_103, dX3_takeNumber_106, dX3_takeNumber_107, w_flk3_22, w_flk3_25, w_kd_1, w_rf_1_0, w_rf_1_1, p_X3_digitAhead, q_X3_digitAhead])
      (repeat' (with_reducible (first | refine And.intro ?_ ?_ | intro _))) <;> (try (first | assumption | contradiction | exact Or.inl trivial | exact Or.inl rfl | exact Or.inr rfl | (simp only [inI, inL]; omega) | omega))
      all_goals exact hq _ rfl
    | succ n ih =>
      intro i h2' v a x5 h8 h9 hq
      have hd := pDig_in (w 2) (w 1 2) a
      rw [pMore_f] at hq
      have h8' := h8
      obtain ⟨h81, h82⟩ := h8
      dsimp only at h81 h82
      (apply hG [46, 106] 2000; simp only [w_br_i, w_ite, w_all, w_all0, forall_eq, w_b0, w_b1, ↓reduceIte, w_ent, w_pos, List.replicate_succ, List.replicate_zero, wp_s, wk_s, w_lk_c, w_ld0, w_ldS, w_kp0, w_kp, w_s1, w_s2, w_to, w_if, w_call, w_sw, w_cat, w_cats, w_psh, w_fv, List.contains_cons, List.contains_nil, List.set_cons_zero, List.set_cons_succ, List.length_cons, List.length_nil, List.find?_cons, List.find?_nil, List.take_succ_cons, List.take_zero, List.drop_succ_cons, List.drop_zero, List.reverse_cons, List.reverse_nil, List.nil_append, List.cons_append, Option.map_some, Option.map_none, Nat.reduceAdd, Nat.reduceBEq, Nat.reduceEqDiff, Nat.reduceLT, Nat.reduceLeDiff, Nat.reduceSub, Int.reduceAdd, Int.reduceSub, Int.reduceMul, Int.reduceNeg, Int.reduceToNat, Int.reduceLT, Int.reduceLE, Int.reduceEq, Bool.false_eq_true, Bool.or_false, Bool.false_or, Bool.true_or, Bool.or_true, if_true, if_false, ite_true, ite_false, true_and, and_true, false_and, and_false, true_or, or_true, false_or, or_false, Int.cast_ofNat_Int, Int.toNat_natCast, Int.natCast_add, List.getElem?_cons_zero, List.getElem?_cons_succ, true_implies, forall_const, not_true_eq_false, not_false_eq_true, ne_eq, beq_iff_eq, imp_self, List.length_set, Nat.zero_add, Nat.add_zero, Int.zero_add, Int.add_zero, w1_aload_n_0, w1_getfield, w1_ifCond, w1_invokevirtual, w1_goto, w1_iconst, w1_istore_n_3, w1_iload_n_3, w1_iload_n_1, w1_if_icmp, w1_iload_n_2, w1_putfield, w1_putfield2, w1_ireturn, w1_dup, w1_dup2, w1_iadd, w1_istore, w1_iload, w1_bipush, w1_imul, w1_iinc, dX3_takeNumber_0, dX3_takeNumber_1, dX3_takeNumber_4, dX3_takeNumber_7, dX3_takeNumber_8, dX3_takeNumber_11, dX3_takeNumber_14, dX3_takeNumber_15, dX3_takeNumber_16, dX3_takeNumber_17, dX3_takeNumber_18, dX3_takeNumber_21, dX3_takeNumber_22, dX3_takeNumber_23, dX3_takeNumber_26, dX3_takeNumber_27, dX3_takeNumber_28, dX3_takeNumber_31, dX3_takeNumber_32, dX3_takeNumber_33, dX3_takeNumber_34, dX3_takeNumber_35, dX3_takeNumber_38, dX3_takeNumber_39, dX3_takeNumber_40, dX3_takeNumber_43, dX3_takeNumber_44, dX3_takeNumber_46, dX3_takeNumber_48, dX3_takeNumber_49, dX3_takeNumber_52, dX3_takeNumber_53, dX3_takeNumber_56, dX3_takeNumber_57, dX3_takeNumber_60, dX3_takeNumber_62, dX3_takeNumber_64, dX3_takeNumber_65, dX3_takeNumber_68, dX3_takeNumber_70, dX3_takeNumber_71, dX3_takeNumber_72, dX3_takeNumber_74, dX3_takeNumber_75, dX3_takeNumber_76, dX3_takeNumber_79, dX3_takeNumber_82, dX3_takeNumber_84, dX3_takeNumber_85, dX3_takeNumber_86, dX3_takeNumber_88, dX3_takeNumber_89, dX3_takeNumber_90, dX3_takeNumber_91, dX3_takeNumber_92, dX3_takeNumber_95, dX3_takeNumber_96, dX3_takeNumber_97, dX3_takeNumber_100, dX3_takeNumber_103, dX3_takeNumber_106, dX3_takeNumber_107, w_flk3_22, w_flk3_25, w_kd_1, w_rf_1_0, w_rf_1_1, p_X3_digitAhead, q_X3_digitAhead, pw_2, pw_12, pw_14, pw_15, pw_u4, pw_u5, pq_pw, tI_pw, h2, h8'])
      have e106 : ∀ x4 x5 : Option wV, (v ≤ 0 ∨ pDig (w 2) (w 1 2) a = -1 ∨ most < 10 * v + pDig (w 2) (w 1 2) a) → G 106 [some (vr 1), some (vi least), some (vi most), some (vi v), x4, x5] [] (pw w (a, p.2.1, p.2.2)) := by
        intro x4 x5 h
        (apply hG [46] 2000; simp only [w_br_i, w_ite, w_all, w_all0, forall_eq, w_b0, w_b1, ↓reduceIte, w_ent, w_pos, List.replicate_succ, List.replicate_zero, wp_s, wk_s, w_lk_c, w_ld0, w_ldS, w_kp0, w_kp, w_s1, w_s2, w_to, w_if, w_call, w_sw, w_cat, w_cats, w_psh, w_fv, List.contains_cons, List.contains_nil, List.set_cons_zero, List.set_cons_succ, List.length_cons, List.length_nil, List.find?_cons, List.find?_nil, List.take_succ_cons, List.take_zero, List.drop_succ_cons, List.drop_zero, List.reverse_cons, List.reverse_nil, List.nil_append, List.cons_append, Option.map_some, Option.map_none, Nat.reduceAdd, Nat.reduceBEq, Nat.reduceEqDiff, Nat.reduceLT, Nat.reduceLeDiff, Nat.reduceSub, Int.reduceAdd, Int.reduceSub, Int.reduceMul, Int.reduceNeg, Int.reduceToNat, Int.reduceLT, Int.reduceLE, Int.reduceEq, Bool.false_eq_true, Bool.or_false, Bool.false_or, Bool.true_or, Bool.or_true, if_true, if_false, ite_true, ite_false, true_and, and_true, false_and, and_false, true_or, or_true, false_or, or_false, Int.cast_ofNat_Int, Int.toNat_natCast, Int.natCast_add, List.getElem?_cons_zero, List.getElem?_cons_succ, true_implies, forall_const, not_true_eq_false, not_false_eq_true, ne_eq, beq_iff_eq, imp_self, List.length_set, Nat.zero_add, Nat.add_zero, Int.zero_add, Int.add_zero, w1_aload_n_0, w1_getfield, w1_ifCond, w1_invokevirtual, w1_goto, w1_iconst, w1_istore_n_3, w1_iload_n_3, w1_iload_n_1, w1_if_icmp, w1_iload_n_2, w1_putfield, w1_putfield2, w1_ireturn, w1_dup, w1_dup2, w1_iadd, w1_istore, w1_iload, w1_bipush, w1_imul, w1_iinc, dX3_takeNumber_0, dX3_takeNumber_1, dX3_takeNumber_4, dX3_takeNumber_7, dX3_takeNumber_8, dX3_takeNumber_11, dX3_takeNumber_14, dX3_takeNumber_15, dX3_takeNumber_16, dX3_takeNumber_17, dX3_takeNumber_18, dX3_takeNumber_21, dX3_takeNumber_22, dX3_takeNumber_23, dX3_takeNumber_26, dX3_takeNumber_27, dX3_takeNumber_28, dX3_takeNumber_31, dX3_takeNumber_32, dX3_takeNumber_33, dX3_takeNumber_34, dX3_takeNumber_35, dX3_takeNumber_38, dX3_takeNumber_39, dX3_takeNumber_40, dX3_takeNumber_43, dX3_takeNumber_44, dX3_takeNumber_46, dX3_takeNumber_48, dX3_takeNumber_49, dX3_takeNumber_52, dX3_takeNumber_53, dX3_takeNumber_56, dX3_takeNumber_57, dX3_takeNumber_60, dX3_takeNumber_62, dX3_takeNumber_64, dX3_takeNumber_65, dX3_takeNumber_68, dX3_takeNumber_70, dX3_takeNumber_71, dX3_takeNumber_72, dX3_takeNumber_74, dX3_takeNumber_75, dX3_takeNumber_76, dX3_takeNumber_79, dX3_takeNumber_82, dX3_takeNumber_84, dX3_takeNumber_85, dX3_takeNumber_86, dX3_takeNumber_88, dX3_takeNumber_89, dX3_takeNumber_90, dX3_takeNumber_91, dX3_takeNumber_92, dX3_takeNumber_95, dX3_takeNumber_96, dX3_takeNumber_97, dX3_takeNumber_100, dX3_takeNumber_103, dX3_takeNumber_106, dX3_takeNumber_107, w_flk3_22, w_flk3_25])
        have hq := hq v (by dsimp only; rw [if_pos h])
        dsimp only at hq
        rw [if_pos h] at hq
        exact hq
      (repeat' (with_reducible (first | refine And.intro ?_ ?_ | intro _))) <;> (try (first | assumption | contradiction | exact Or.inl trivial | exact Or.inl rfl | exact Or.inr rfl | (simp only [inI, inL]; omega) | omega))
      all_goals first
        | exact e106 _ _ (by omega)
        | skip
      have e := ih (i + 1) (by omega) (10 * v + pDig (w 2) (w 1 2) a) (a + 1) (some (vi (pDig (w 2) (w 1 2) a))) ⟨by dsimp only; omega, h82⟩ (by omega) (by
        intro v' hv'
        have hq := hq v' (by dsimp only; rw [if_neg (by omega)]; exact hv')
        dsimp only at hq
        rw [if_neg (by omega)] at hq
        exact hq)
      simpa only [Int.natCast_add, Int.cast_ofNat_Int] using e
  have e15 : ∀ x4 x5 : Option wV, G 15 [some (vr 1), some (vi least), some (vi most), none, x4, x5] [vi (pV0 (w 2) (w 1 2) p)] (pw w p) := by
    intro x4 x5
    (apply hG [26, 46] 2000; simp only [w_br_i, w_ite, w_all, w_all0, forall_eq, w_b0, w_b1, ↓reduceIte, w_ent, w_pos, List.replicate_succ, List.replicate_zero, wp_s, wk_s, w_lk_c, w_ld0, w_ldS, w_kp0, w_kp, w_s1, w_s2, w_to, w_if, w_call, w_sw, w_cat, w_cats, w_psh, w_fv, List.contains_cons, List.contains_nil, List.set_cons_zero, List.set_cons_succ, List.length_cons, List.length_nil, List.find?_cons, List.find?_nil, List.take_succ_cons, List.take_zero, List.drop_succ_cons, List.drop_zero, List.reverse_cons, List.reverse_nil, List.nil_append, List.cons_append, Option.map_some, Option.map_none, Nat.reduceAdd, Nat.reduceBEq, Nat.reduceEqDiff, Nat.reduceLT, Nat.reduceLeDiff, Nat.reduceSub, Int.reduceAdd, Int.reduceSub, Int.reduceMul, Int.reduceNeg, Int.reduceToNat, Int.reduceLT, Int.reduceLE, Int.reduceEq, Bool.false_eq_true, Bool.or_false, Bool.false_or, Bool.true_or, Bool.or_true, if_true, if_false, ite_true, ite_false, true_and, and_true, false_and, and_false, true_or, or_true, false_or, or_false, Int.cast_ofNat_Int, Int.toNat_natCast, Int.natCast_add, List.getElem?_cons_zero, List.getElem?_cons_succ, true_implies, forall_const, not_true_eq_false, not_false_eq_true, ne_eq, beq_iff_eq, imp_self, List.length_set, Nat.zero_add, Nat.add_zero, Int.zero_add, Int.add_zero, w1_aload_n_0, w1_getfield, w1_ifCond, w1_invokevirtual, w1_goto, w1_iconst, w1_istore_n_3, w1_iload_n_3, w1_iload_n_1, w1_if_icmp, w1_iload_n_2, w1_putfield, w1_putfield2, w1_ireturn, w1_dup, w1_dup2, w1_iadd, w1_istore, w1_iload, w1_bipush, w1_imul, w1_iinc, dX3_takeNumber_0, dX3_takeNumber_1, dX3_takeNumber_4, dX3_takeNumber_7, dX3_takeNumber_8, dX3_takeNumber_11, dX3_takeNumber_14, dX3_takeNumber_15, dX3_takeNumber_16, dX3_takeNumber_17, dX3_takeNumber_18, dX3_takeNumber_21, dX3_takeNumber_22, dX3_takeNumber_23, dX3_takeNumber_26, dX3_takeNumber_27, dX3_takeNumber_28, dX3_takeNumber_31, dX3_takeNumber_32, dX3_takeNumber_33, dX3_takeNumber_34, dX3_takeNumber_35, dX3_takeNumber_38, dX3_takeNumber_39, dX3_takeNumber_40, dX3_takeNumber_43, dX3_takeNumber_44, dX3_takeNumber_46, dX3_takeNumber_48, dX3_takeNumber_49, dX3_takeNumber_52, dX3_takeNumber_53, dX3_takeNumber_56, dX3_takeNumber_57, dX3_takeNumber_60, dX3_takeNumber_62, dX3_takeNumber_64, dX3_takeNumber_65, dX3_takeNumber_68, dX3_takeNumber_70, dX3_takeNumber_71, dX3_takeNumber_72, dX3_takeNumber_74, dX3_takeNumber_75, dX3_takeNumber_76, dX3_takeNumber_79, dX3_takeNumber_82, dX3_takeNumber_84, dX3_takeNumber_85, dX3_takeNumber_86, dX3_takeNumber_88, dX3_takeNumber_89, dX3_takeNumber_90, dX3_takeNumber_91, dX3_takeNumber_92, dX3_takeNumber_95, dX3_takeNumber_96, dX3_takeNumber_97, dX3_takeNumber_100, dX3_takeNumber_103, dX3_takeNumber_106, dX3_takeNumber_107, w_flk3_22, w_flk3_25, w_kd_1, w_rf_1_0, w_rf_1_1, pw_14, pw_u4])
    have e26 : (pV0 (w 2) (w 1 2) p < least ∨ most < pV0 (w 2) (w 1 2) p) → ∀ x3 x4 x5 : Option wV, G 26 [some (vr 1), some (vi least), some (vi most), x3, x4, x5] [] (pw w p) := by
      intro h x3 x4 x5
      (apply hG [46] 2000; simp only [w_br_i, w_ite, w_all, w_all0, forall_eq, w_b0, w_b1, ↓reduceIte, w_ent, w_pos, List.replicate_succ, List.replicate_zero, wp_s, wk_s, w_lk_c, w_ld0, w_ldS, w_kp0, w_kp, w_s1, w_s2, w_to, w_if, w_call, w_sw, w_cat, w_cats, w_psh, w_fv, List.contains_cons, List.contains_nil, List.set_cons_zero, List.set_cons_succ, List.length_cons, List.length_nil, List.find?_cons, List.find?_nil, List.take_succ_cons, List.take_zero, List.drop_succ_cons, List.drop_zero, List.reverse_cons, List.reverse_nil, List.nil_append, List.cons_append, Option.map_some, Option.map_none, Nat.reduceAdd, Nat.reduceBEq, Nat.reduceEqDiff, Nat.reduceLT, Nat.reduceLeDiff, Nat.reduceSub, Int.reduceAdd, Int.reduceSub, Int.reduceMul, Int.reduceNeg, Int.reduceToNat, Int.reduceLT, Int.reduceLE, Int.reduceEq, Bool.false_eq_true, Bool.or_false, Bool.false_or, Bool.true_or, Bool.or_true, if_true, if_false, ite_true, ite_false, true_and, and_true, false_and, and_false, true_or, or_true, false_or, or_false, Int.cast_ofNat_Int, Int.toNat_natCast, Int.natCast_add, List.getElem?_cons_zero, List.getElem?_cons_succ, true_implies, forall_const, not_true_eq_false, not_false_eq_true, ne_eq, beq_iff_eq, imp_self, List.length_set, Nat.zero_add, Nat.add_zero, Int.zero_add, Int.add_zero, w1_aload_n_0, w1_getfield, w1_ifCond, w1_invokevirtual, w1_goto, w1_iconst, w1_istore_n_3, w1_iload_n_3, w1_iload_n_1, w1_if_icmp, w1_iload_n_2, w1_putfield, w1_putfield2, w1_ireturn, w1_dup, w1_dup2, w1_iadd, w1_istore, w1_iload, w1_bipush, w1_imul, w1_iinc, dX3_takeNumber_0, dX3_takeNumber_1, dX3_takeNumber_4, dX3_takeNumber_7, dX3_takeNumber_8, dX3_takeNumber_11, dX3_takeNumber_14, dX3_takeNumber_15, dX3_takeNumber_16, dX3_takeNumber_17, dX3_takeNumber_18, dX3_takeNumber_21, dX3_takeNumber_22, dX3_takeNumber_23, dX3_takeNumber_26, dX3_takeNumber_27, dX3_takeNumber_28, dX3_takeNumber_31, dX3_takeNumber_32, dX3_takeNumber_33, dX3_takeNumber_34, dX3_takeNumber_35, dX3_takeNumber_38, dX3_takeNumber_39, dX3_takeNumber_40, dX3_takeNumber_43, dX3_takeNumber_44, dX3_takeNumber_46, dX3_takeNumber_48, dX3_takeNumber_49, dX3_takeNumber_52, dX3_takeNumber_53, dX3_takeNumber_56, dX3_takeNumber_57, dX3_takeNumber_60, dX3_takeNumber_62, dX3_takeNumber_64, dX3_takeNumber_65, dX3_takeNumber_68, dX3_takeNumber_70, dX3_takeNumber_71, dX3_takeNumber_72, dX3_takeNumber_74, dX3_takeNumber_75, dX3_takeNumber_76, dX3_takeNumber_79, dX3_takeNumber_82, dX3_takeNumber_84, dX3_takeNumber_85, dX3_takeNumber_86, dX3_takeNumber_88, dX3_takeNumber_89, dX3_takeNumber_90, dX3_takeNumber_91, dX3_takeNumber_92, dX3_takeNumber_95, dX3_takeNumber_96, dX3_takeNumber_97, dX3_takeNumber_100, dX3_takeNumber_103, dX3_takeNumber_106, dX3_takeNumber_107, w_flk3_22, w_flk3_25, w_kd_1, w_rf_1_0, w_rf_1_1, pw_14, pw_u4, pw_u5])
      simp only [q_X3_takeNumber, pw_2, pw_12, pq_pw, pw_pw]
      simp only [pNumV, pNum, if_pos h, true_and]
    (repeat' (with_reducible (first | refine And.intro ?_ ?_ | intro _))) <;> (try (first | assumption | contradiction | exact Or.inl trivial | exact Or.inl rfl | exact Or.inr rfl | (simp only [inI, inL]; omega) | omega))
    all_goals first
      | exact e26 (by omega) _ _ _
      | skip
    refine loop 2 0 rfl _ _ _ ⟨by dsimp only; omega, h7⟩ (by omega) ?_
    intro v' hv'
    simp only [q_X3_takeNumber, pw_2, pw_12, pq_pw, pw_pw]
    unfold pNumV pNum
    rw [if_neg (by omega), if_neg (by omega)]
    exact ⟨hv', rfl⟩
  (apply hG [15, 46] 2000; simp only [w_br_i, w_ite, w_all, w_all0, forall_eq, w_b0, w_b1, ↓reduceIte, w_ent, w_pos, List.replicate_succ, List.replicate_zero, wp_s, wk_s, w_lk_c, w_ld0, w_ldS, w_kp0, w_kp, w_s1, w_s2, w_to, w_if, w_call, w_sw, w_cat, w_cats, w_psh, w_fv, List.contains_cons, List.contains_nil, List.set_cons_zero, List.set_cons_succ, List.length_cons, List.length_nil, List.find?_cons, List.find?_nil, List.take_succ_cons, List.take_zero, List.drop_succ_cons, List.drop_zero, List.reverse_cons, List.reverse_nil, List.nil_append, List.cons_append, Option.map_some, Option.map_none, Nat.reduceAdd, Nat.reduceBEq, Nat.reduceEqDiff, Nat.reduceLT, Nat.reduceLeDiff, Nat.reduceSub, Int.reduceAdd, Int.reduceSub, Int.reduceMul, Int.reduceNeg, Int.reduceToNat, Int.reduceLT, Int.reduceLE, Int.reduceEq, Bool.false_eq_true, Bool.or_false, Bool.false_or, Bool.true_or, Bool.or_true, if_true, if_false, ite_true, ite_false, true_and, and_true, false_and, and_false, true_or, or_true, false_or, or_false, Int.cast_ofNat_Int, Int.toNat_natCast, Int.natCast_add, List.getElem?_cons_zero, List.getElem?_cons_succ, true_implies, forall_const, not_true_eq_false, not_false_eq_true, ne_eq, beq_iff_eq, imp_self, List.length_set, Nat.zero_add, Nat.add_zero, Int.zero_add, Int.add_zero, w1_aload_n_0, w1_getfield, w1_ifCond, w1_invokevirtual, w1_goto, w1_iconst, w1_istore_n_3, w1_iload_n_3, w1_iload_n_1, w1_if_icmp, w1_iload_n_2, w1_putfield, w1_putfield2, w1_ireturn, w1_dup, w1_dup2, w1_iadd, w1_istore, w1_iload, w1_bipush, w1_imul, w1_iinc, dX3_takeNumber_0, dX3_takeNumber_1, dX3_takeNumber_4, dX3_takeNumber_7, dX3_takeNumber_8, dX3_takeNumber_11, dX3_takeNumber_14, dX3_takeNumber_15, dX3_takeNumber_16, dX3_takeNumber_17, dX3_takeNumber_18, dX3_takeNumber_21, dX3_takeNumber_22, dX3_takeNumber_23, dX3_takeNumber_26, dX3_takeNumber_27, dX3_takeNumber_28, dX3_takeNumber_31, dX3_takeNumber_32, dX3_takeNumber_33, dX3_takeNumber_34, dX3_takeNumber_35, dX3_takeNumber_38, dX3_takeNumber_39, dX3_takeNumber_40, dX3_takeNumber_43, dX3_takeNumber_44, dX3_takeNumber_46, dX3_takeNumber_48, dX3_takeNumber_49, dX3_takeNumber_52, dX3_takeNumber_53, dX3_takeNumber_56, dX3_takeNumber_57, dX3_takeNumber_60, dX3_takeNumber_62, dX3_takeNumber_64, dX3_takeNumber_65, dX3_takeNumber_68, dX3_takeNumber_70, dX3_takeNumber_71, dX3_takeNumber_72, dX3_takeNumber_74, dX3_takeNumber_75, dX3_takeNumber_76, dX3_takeNumber_79, dX3_takeNumber_82, dX3_takeNumber_84, dX3_takeNumber_85, dX3_takeNumber_86, dX3_takeNumber_88, dX3_takeNumber_89, dX3_takeNumber_90, dX3_takeNumber_91, dX3_takeNumber_92, dX3_takeNumber_95, dX3_takeNumber_96, dX3_takeNumber_97, dX3_takeNumber_100, dX3_takeNumber_103, dX3_takeNumber_106, dX3_takeNumber_107, w_flk3_22, w_flk3_25, w_kd_1, w_rf_1_0, w_rf_1_1, p_X3_digitAhead, q_X3_digitAhead, pw_2, pw_12, pw_14, pw_15, pw_u4, pw_u5, pq_pw, tI_pw, h2, hI])
  have e := e15 none none
  unfold pV0 at e
  by_cases q : p.2.1 = 0
  · rw [if_neg (by omega)] at e
    (repeat' (with_reducible (first | refine And.intro ?_ ?_ | intro _))) <;> (try (first | assumption | contradiction | exact Or.inl trivial | exact Or.inl rfl | exact Or.inr rfl | (simp only [inI, inL]; omega) | omega))
  · rw [if_pos (by omega)] at e
    (repeat' (with_reducible (first | refine And.intro ?_ ?_ | intro _))) <;> (try (first | assumption | contradiction | exact Or.inl trivial | exact Or.inl rfl | exact Or.inr rfl | (simp only [inI, inL]; omega) | omega))
