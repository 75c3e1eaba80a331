/-! what the house says (S 0: its numbers, S 1, 2, 3: WANT, HOT, WORTH, S 4 0: how many uses), and a month's last two steps -/
def hR (S : wW) : Prop := (1 ≤ S 4 0 ∧ S 4 0 ≤ 3) ∧ (1 ≤ S 0 0 ∧ S 0 0 ≤ 20) ∧ (0 ≤ S 0 1 ∧ S 0 1 ≤ 200) ∧ (0 ≤ S 0 2 ∧ S 0 2 ≤ 9) ∧ (0 ≤ S 0 3 ∧ S 0 3 ≤ 9) ∧ (0 ≤ S 0 4 ∧ S 0 4 ≤ 9) ∧ (0 ≤ S 0 5 ∧ S 0 5 ≤ 5) ∧ (0 ≤ S 0 6 ∧ S 0 6 ≤ 9) ∧ (∀ u, u < (S 4 0).toNat → (1 ≤ S 1 u ∧ S 1 u ≤ 15) ∧ (0 ≤ S 2 u ∧ S 2 u ≤ 9) ∧ (1 ≤ S 3 u ∧ S 3 u ≤ 9))
def hX (S : wW) (w : wW) : Prop := w 4 6 = S 4 0 ∧ (∀ j, j < 7 → w 5 j = S 0 j) ∧ (∀ u, u < (S 4 0).toNat → w 6 u = S 1 u ∧ w 7 u = S 2 u ∧ w 8 u = S 3 u) ∧ (∀ j, j < (S 4 0).toNat → w 9 j = ((o_ord (S 3) (S 4 0).toNat).getD j 0 : Nat)) ∧ (∀ n, n < 10 → w 10 n = o_comes (S 0 0) n (S 0 2) (S 0 3) 0 ∧ w 10 (10 + n) = o_comes (S 0 0) n (S 0 2) (S 0 3) 1)
theorem hX_of {S w w' : wW} (h : hX S w) (he : ∀ k i, (4 ≤ k ∧ k ≤ 10) → w' k i = w k i) : hX S w' := by
  obtain ⟨h1, h2, h3, h4, h5⟩ := h
  refine ⟨?_, fun j hj => ?_, fun u hu => ?_, fun j hj => ?_, fun n hn => ?_⟩
  · rw [he 4 6 (by decide)]; exact h1
  · rw [he 5 j (by decide)]; exact h2 j hj
  · rw [he 6 u (by decide), he 7 u (by decide), he 8 u (by decide)]; exact h3 u hu
  · rw [he 9 j (by decide)]; exact h4 j hj
  · rw [he 10 n (by decide), he 10 (10 + n) (by decide)]; exact h5 n hn
def dW (S : wW) (u : Nat) (m : Int) : Int := S 1 u + if 5 ≤ m ∧ m ≤ 7 then S 2 u else 0
theorem dW_in {S : wW} (h : hR S) {u : Nat} (hu : u < (S 4 0).toNat) (m : Int) : 1 ≤ dW S u m ∧ dW S u m ≤ 24 := by
  have := h.2.2.2.2.2.2.2.2 u hu
  unfold dW
  split <;> omega
def dWh (S : wW) (u : Nat) (m hf : Int) : Int := if hf = 0 then dW S u m else dW S u m / 2
theorem dWh_in {S : wW} (h : hR S) {u : Nat} (hu : u < (S 4 0).toNat) (m hf : Int) : 0 ≤ dWh S u m hf ∧ dWh S u m hf ≤ dW S u m := by
  have := dW_in h hu m
  unfold dWh
  split <;> omega
/-- what a use gets out of l -/
def dg (S : wW) (m hf : Int) (u : Nat) (l : Int) : Int := if dWh S u m hf < l then dWh S u m hf else l
def dL (S : wW) (m hf : Int) (os : Nat → Nat) (l0 : Int) : Nat → Int
  | 0 => l0
  | i + 1 => dL S m hf os l0 i - dg S m hf (os i) (dL S m hf os l0 i)
def dG (S : wW) (m hf : Int) (os : Nat → Nat) (l0 : Int) : Nat → Int
  | 0 => 0
  | i + 1 => dG S m hf os l0 i + dg S m hf (os i) (dL S m hf os l0 i)
def dK (S : wW) (m hf : Int) (os : Nat → Nat) (l0 : Int) : Nat → Int
  | 0 => 0
  | i + 1 => dK S m hf os l0 i + (dW S (os i) m - dg S m hf (os i) (dL S m hf os l0 i))
def dC (S : wW) (m hf : Int) (os : Nat → Nat) (l0 c0 : Int) : Nat → Int
  | 0 => c0
  | i + 1 => dC S m hf os l0 c0 i + (dW S (os i) m - dg S m hf (os i) (dL S m hf os l0 i)) * S 3 (os i)
def dS (S : wW) (m hf : Int) (os : Nat → Nat) (l0 : Int) (f0 : Nat → Int) : Nat → Nat → Int
  | 0 => f0
  | i + 1 => fup (dS S m hf os l0 f0 i) (os i) (dW S (os i) m - dg S m hf (os i) (dL S m hf os l0 i))
theorem dG_L (S : wW) (m hf : Int) (os : Nat → Nat) (l0 : Int) : ∀ i, dG S m hf os l0 i = l0 - dL S m hf os l0 i
  | 0 => by simp [dG, dL]
  | i + 1 => by simp only [dG, dL, dG_L S m hf os l0 i]; omega
def dO (S : wW) (bw : Int) (i : Nat) : Nat := if bw = 0 then i else (o_ord (S 3) (S 4 0).toNat).getD i 0
theorem o_ord_lt (f : Nat → Int) (u i : Nat) (hu : 1 ≤ u ∧ u ≤ 3) (hi : i < u) : (o_ord f u).getD i 0 < u := by
  have e : u = 1 ∨ u = 2 ∨ u = 3 := by omega
  rcases e with rfl | rfl | rfl
  · have : i = 0 := by omega
    subst this
    simp [o_ord]
  · have : i = 0 ∨ i = 1 := by omega
    rcases this with rfl | rfl <;> simp [o_ord] <;> split <;> simp
  · have : i = 0 ∨ i = 1 ∨ i = 2 := by omega
    rcases this with rfl | rfl | rfl <;> simp [o_ord] <;> (repeat' split) <;> simp
theorem dO_lt {S : wW} (h : hR S) (bw : Int) {i : Nat} (hi : i < (S 4 0).toNat) : dO S bw i < (S 4 0).toNat := by
  unfold dO
  split
  · exact hi
  · exact o_ord_lt _ _ _ (by have := h.1; omega) hi
theorem dg_in {S : wW} (h : hR S) {u : Nat} (hu : u < (S 4 0).toNat) (m hf : Int) {l : Int} (hl : 0 ≤ l) : 0 ≤ dg S m hf u l ∧ dg S m hf u l ≤ l ∧ dg S m hf u l ≤ dW S u m := by
  have := dWh_in h hu m hf
  unfold dg
  split <;> omega
theorem dL_in {S : wW} (h : hR S) (m hf bw : Int) {l0 : Int} (hl : 0 ≤ l0) : ∀ i, i ≤ (S 4 0).toNat → 0 ≤ dL S m hf (dO S bw) l0 i ∧ dL S m hf (dO S bw) l0 i ≤ l0
  | 0, _ => ⟨hl, Int.le_refl _⟩
  | i + 1, hi => by
    have ih := dL_in h m hf bw hl i (by omega)
    have hg := dg_in h (dO_lt h bw (i := i) (by omega)) m hf ih.1
    simp only [dL]
    omega
/-! the tank's cells -/
def tw (w : wW) (f g : Nat → Int) : wW := fun k i => if k = 88 ∧ 3 ≤ i then f i else if k = 89 then g i else w k i
theorem tw_id (w : wW) : tw w (w 88) (w 89) = w := by
  funext k i
  unfold tw
  split
  · rename_i h; rw [h.1]
  · split
    · rename_i h; rw [h]
    · rfl
theorem tw_tw (w : wW) (f g f' g' : Nat → Int) : tw (tw w f g) f' g' = tw w f' g' := by
  funext k i
  unfold tw
  repeat' split
  all_goals rfl
theorem tw_88 (w : wW) (f g : Nat → Int) (i : Nat) (h : 3 ≤ i) : tw w f g 88 i = f i := by simp [tw, h]
theorem tw_89 (w : wW) (f g : Nat → Int) : tw w f g 89 = g := rfl
theorem tw_x (w : wW) (f g : Nat → Int) {k i : Nat} (h : k ≠ 88 ∧ k ≠ 89) : tw w f g k i = w k i := by
  unfold tw
  rw [if_neg (fun q => h.1 q.1), if_neg h.2]
theorem tw_uf (w : wW) (f g : Nat → Int) (j : Nat) (v : Int) (h : 3 ≤ j) : w_up (tw w f g) 88 j v = tw w (fup f j v) g := by
  funext k i
  simp only [tw, w_up, fup]
  by_cases e : k = 88 ∧ i = j
  · rw [if_pos e, if_pos ⟨e.1, by omega⟩, if_pos e.2]
  · rw [if_neg e]
    by_cases e2 : k = 88 ∧ 3 ≤ i
    · rw [if_pos e2, if_pos e2, if_neg (fun q => e ⟨e2.1, q⟩)]
    · rw [if_neg e2, if_neg e2]
theorem tw_ug (w : wW) (f g : Nat → Int) (j : Nat) (v : Int) : w_up (tw w f g) 89 j v = tw w f (fup g j v) := by
  funext k i
  simp only [tw, w_up, fup]
  by_cases e : k = 89 ∧ i = j
  · rw [if_pos e, if_neg (by omega), if_pos e.1, if_pos e.2]
  · rw [if_neg e]
    by_cases e2 : k = 88 ∧ 3 ≤ i
    · rw [if_pos e2, if_pos e2]
    · rw [if_neg e2, if_neg e2]
      by_cases e3 : k = 89
      · rw [if_pos e3, if_pos e3, if_neg (fun q => e ⟨e3, q⟩)]
      · rw [if_neg e3, if_neg e3]
theorem hX_tw {S w : wW} {f g : Nat → Int} : hX S (tw w f g) ↔ hX S w :=
  ⟨fun h => hX_of h (fun k i hk => (tw_x w f g ⟨by omega, by omega⟩).symm), fun h => hX_of h (fun k i hk => tw_x w f g ⟨by omega, by omega⟩)⟩
theorem fup_eq (f : Nat → Int) (j : Nat) (v : Int) : fup f j v j = v := if_pos rfl
theorem fup_ne {f : Nat → Int} {j i : Nat} {v : Int} (h : i ≠ j) : fup f j v i = f i := if_neg h

def p_X6_startFull (S : wW) : List wV → wW → Prop := fun av w => match av with
  | [.inr (.inr (some this)), .inl area, .inl size] => this = 88 ∧ hX S w
  | _ => False
theorem h_X6_startFull (S : wW) : ∀ av w, (p_X6_startFull S) av w → ∃ a r, av = vr a :: r ∧ w_kd a = 100 + 6 := by
  intro av w h
  unfold p_X6_startFull at h
  split at h
  · refine ⟨_, _, rfl, ?_⟩
    first | (rw [h.1]; rfl) | (rw [h]; rfl)
  · exact h.elim
def t_start (w : wW) (area size leak : Int) : Nat → Int := fup (fup (fup (fup (fup (w 88) 3 area) 4 size) 5 leak) 6 size) 7 1
def q_X6_startFull (S : wW) : List wV → wW → Int → wW → Prop := fun av w r w' => match av with
  | [.inr (.inr (some this)), .inl area, .inl size] => w' = tw w (t_start w area size (S 0 4)) (w 89)
  | _ => False
set_option maxRecDepth 100000 in
set_option maxHeartbeats 4000000 in
theorem c_X6_startFull (S : wW) : w_Ct yX6_startFull cX6_startFull 3 0 0 0 (p_X6_startFull S) (q_X6_startFull S) := by
  refine w_met (own := RX6) (fl := w_fl6) (gs := w_gs6) (kl := w_kl6) (ki := w_ki6) (cs := []) (by decide +kernel) rfl ?_ w_flok6 w_gsok6 w_klok6 w_kiok6 ?_ ?_
  · intro av w h
    unfold p_X6_startFull at h
    split at h
    · simp [w_pos, w_cat]
    · exact h.elim
  · exact fun _ h => absurd h List.not_mem_nil
  intro av w hp
  unfold p_X6_startFull at hp
  split at hp
  case h_2 => exact hp.elim
  rename_i this area size
  intro G hG
  simp only [w_ent, w_pos, w_cat, Nat.reduceEqDiff, ↓reduceIte, List.length_cons, List.length_nil, Nat.reduceAdd, Nat.reduceSub, List.cons_append, List.nil_append, List.replicate_succ, List.replicate_zero]
  obtain ⟨rfl, hp⟩ := hp
  have h4 : w 5 4 = S 0 4 := hp.2.1 4 (by decide)
  have e : w_up (w_up (w_up (w_up (w_up w 88 3 area) 88 4 size) 88 5 (S 0 4)) 88 6 size) 88 7 1 = tw w (t_start w area size (S 0 4)) (w 89) := by
    conv => lhs; rw [← tw_id w]
    rw [tw_uf _ _ _ _ _ (by decide), tw_uf _ _ _ _ _ (by decide), tw_uf _ _ _ _ _ (by decide), tw_uf _ _ _ _ _ (by decide), tw_uf _ _ _ _ _ (by decide)]
    rfl
  have u5 : ∀ (w : wW) (i : Nat) (v : Int) (j : Nat), w_up w 88 i v 5 j = w 5 j := fun w i v j => up_k (by decide)
  (apply hG [] 2000; simp only [w_br_i, w_ite, w_all, w_all0, forall_eq, w_b0, w_b1, ↓reduceIte, w_ent, w_pos, List.replicate_succ, List.replicate_zero, wp_s, wk_s, w_lk_c, w_ld0, w_ldS, w_kp0, w_kp, w_s1, w_s2, w_to, w_if, w_call, w_sw, w_cat, w_cats, w_psh, w_fv, List.contains_cons, List.contains_nil, List.set_cons_zero, List.set_cons_succ, List.length_cons, List.length_nil, List.find?_cons, List.find?_nil, List.take_succ_cons, List.take_zero, List.drop_succ_cons, List.drop_zero, List.reverse_cons, List.reverse_nil, List.nil_append, List.cons_append, Option.map_some, Option.map_none, Nat.reduceAdd, Nat.reduceBEq, Nat.reduceEqDiff, Nat.reduceLT, Nat.reduceLeDiff, Nat.reduceSub, Int.reduceAdd, Int.reduceSub, Int.reduceMul, Int.reduceNeg, Int.reduceToNat, Int.reduceLT, Int.reduceLE, Int.reduceEq, Bool.false_eq_true, Bool.or_false, Bool.false_or, Bool.true_or, Bool.or_true, if_true, if_false, ite_true, ite_false, true_and, and_true, false_and, and_false, true_or, or_true, false_or, or_false, Int.cast_ofNat_Int, Int.toNat_natCast, Int.natCast_add, List.getElem?_cons_zero, List.getElem?_cons_succ, true_implies, forall_const, not_true_eq_false, not_false_eq_true, ne_eq, beq_iff_eq, imp_self, List.length_set, Nat.zero_add, Nat.add_zero, Int.zero_add, Int.add_zero, w1_aload_n_0, w1_iload_n_1, w1_putfield, w1_putfield2, w1_iload_n_2, w1_getfield, w1_iconst, w1_iaload, w1_return, dX6_startFull_0, dX6_startFull_1, dX6_startFull_2, dX6_startFull_5, dX6_startFull_6, dX6_startFull_7, dX6_startFull_10, dX6_startFull_11, dX6_startFull_12, dX6_startFull_15, dX6_startFull_18, dX6_startFull_19, dX6_startFull_20, dX6_startFull_23, dX6_startFull_24, dX6_startFull_25, dX6_startFull_28, dX6_startFull_29, dX6_startFull_30, dX6_startFull_33, w_flk6_15, w_flk6_30, w_flk6_23, w_flk6_27, w_flk6_35, w_flk6_38, w_flk6_41, w_kd_4, w_rf_4_0, w_rf_4_1, w_rf_4_2, w_rf_4_3, w_rf_4_4, w_rf_4_5, w_kd_5, w_ln_5, w_kd_88, w_rf_88_0, w_rf_88_1, w_rf_88_2, u5, h4])
  (repeat' (with_reducible (first | refine And.intro ?_ ?_ | intro _))) <;> (try (first | assumption | contradiction | exact Or.inl trivial | exact Or.inl rfl | exact Or.inr rfl | (simp only [inI, inL]; omega) | omega))
  all_goals (simp only [q_X6_startFull]; exact e)
def ePump (S : wW) (size kind n pl m lv : Int) : Int := if kind = 3 then pl else if kind = 4 ∧ lv < n then (if size - lv < (if m = 7 then 0 else S 0 5) then size - lv else (if m = 7 then 0 else S 0 5)) else 0
def eMost (kind cap gl d : Int) : Int := if kind = 3 then gl else if kind = 5 then cap else d
def eMin (a b : Int) : Int := if a < b then a else b
/-- a rule's cells: its kind, n, and what it gives at most -/
def rR (w : wW) (a : Nat) : Prop := (36 ≤ a ∧ a < 46) ∧ (0 ≤ w a 1 ∧ w a 1 ≤ 5) ∧ (0 ≤ w a 2 ∧ w a 2 ≤ 200) ∧ (∀ m, m < 12 → 0 ≤ w (a + 10) m ∧ w (a + 10) m ≤ 99)
def stF (lv wet : Int) : Nat := (2 * lv + if wet = 0 then 0 else 1).toNat
def p_X6_choosePumpedAndGiven (S : wW) : List wV → wW → Prop := fun av w => match av with
  | [.inr (.inr (some this)), .inr (.inr (some a)), .inl m] => this = 88 ∧ hR S ∧ hX S w ∧ rR w a ∧ (0 ≤ m ∧ m < 12) ∧ (0 ≤ w 88 6 ∧ w 88 6 ≤ w 88 4 ∧ w 88 4 ≤ 200) ∧ (w 88 7 = 0 ∨ w 88 7 = 1) ∧ (w a 1 = 3 → (0 ≤ w (58 + m.toNat) (stF (w 88 6) (w 88 7)) ∧ w 88 6 + w (58 + m.toNat) (stF (w 88 6) (w 88 7)) ≤ w 88 4) ∧ (0 ≤ w (71 + m.toNat) (stF (w 88 6) (w 88 7)) ∧ w (71 + m.toNat) (stF (w 88 6) (w 88 7)) ≤ 200))
  | _ => False
theorem h_X6_choosePumpedAndGiven (S : wW) : ∀ av w, (p_X6_choosePumpedAndGiven S) av w → ∃ a r, av = vr a :: r ∧ w_kd a = 100 + 6 := by
  intro av w h
  unfold p_X6_choosePumpedAndGiven at h
  split at h
  · refine ⟨_, _, rfl, ?_⟩
    first | (rw [h.1]; rfl) | (rw [h]; rfl)
  · exact h.elim
def ePumpW (S w : wW) (a : Nat) (m : Int) : Int := ePump S (w 88 4) (w a 1) (w a 2) (w (58 + m.toNat) (stF (w 88 6) (w 88 7))) m (w 88 6)
def eMostW (w : wW) (a : Nat) (m : Int) : Int := eMost (w a 1) (w (a + 10) m.toNat) (w (71 + m.toNat) (stF (w 88 6) (w 88 7))) 72
def q_X6_choosePumpedAndGiven (S : wW) : List wV → wW → Int → wW → Prop := fun av w r w' => match av with
  | [.inr (.inr (some this)), .inr (.inr (some a)), .inl m] => r = eMin (eMostW w a m) (w 88 6 + ePumpW S w a m) ∧ ∃ f, w' = tw w f (w 89) ∧ f 6 = w 88 6 + ePumpW S w a m ∧ f 11 = ePumpW S w a m ∧ ∀ i, i ≠ 6 → i ≠ 11 → f i = w 88 i
  | _ => False
set_option maxRecDepth 100000 in
set_option maxHeartbeats 4000000 in
theorem c_X6_choosePumpedAndGiven (S : wW) : w_Ct yX6_choosePumpedAndGiven cX6_choosePumpedAndGiven 5 1 1 21 (p_X6_choosePumpedAndGiven S) (q_X6_choosePumpedAndGiven S) := by
  refine w_met (own := RX6) (fl := w_fl6) (gs := w_gs6) (kl := w_kl6) (ki := w_ki6) (cs := [(103, (1, 2, 1, p_X9_stateOf, q_X9_stateOf)), (116, (0, 2, 1, p_X1_mostPumped, q_X1_mostPumped)), (120, (1, 2, 1, w_preMM, w_postMin))]) (by decide +kernel) rfl ?_ w_flok6 w_gsok6 w_klok6 w_kiok6 ?_ ?_
  · intro av w h
    unfold p_X6_choosePumpedAndGiven at h
    split at h
    · simp [w_pos, w_cat]
    · exact h.elim
  · exact List.forall_mem_cons.mpr ⟨⟨_, _, w_callSN (own := RX6) (idx := 103) (host := "HowBigTank") c_X9_stateOf (w_m3 158 (by decide +kernel) (by decide +kernel)) (w_m3 159 (by decide +kernel) (by decide +kernel)) (w_m1 1 (by decide +kernel) (by decide +kernel)) (w_m3 160 (by decide +kernel) (by decide +kernel)) ⟨by decide +kernel, by decide +kernel, by decide +kernel⟩, by decide, by decide⟩, List.forall_mem_cons.mpr ⟨⟨_, _, w_callV (own := RX6) (idx := 116) (ci := 1) c_X1_mostPumped rfl rfl h_X1_mostPumped (w_m3 161 (by decide +kernel) (by decide +kernel)) (w_m3 126 (by decide +kernel) (by decide +kernel)) (w_m3 127 (by decide +kernel) (by decide +kernel)) (w_m1 3 (by decide +kernel) (by decide +kernel)) (w_m3 128 (by decide +kernel) (by decide +kernel)) ⟨by decide +kernel, by decide +kernel, by decide +kernel⟩, by decide, by decide⟩, List.forall_mem_cons.mpr ⟨⟨_, _, w_callMin (own := RX6) (idx := 120) (w_m3 162 (by decide +kernel) (by decide +kernel)) (w_m3 15 (by decide +kernel) (by decide +kernel)) (w_m1 14 (by decide +kernel) (by decide +kernel)) (w_m3 16 (by decide +kernel) (by decide +kernel)), by decide, by decide⟩, fun _ h => absurd h List.not_mem_nil⟩⟩⟩
  intro av w hp
  unfold p_X6_choosePumpedAndGiven at hp
  split at hp
  case h_2 => exact hp.elim
  rename_i this a m
  intro G hG
  simp only [w_ent, w_pos, w_cat, Nat.reduceEqDiff, ↓reduceIte, List.length_cons, List.length_nil, Nat.reduceAdd, Nat.reduceSub, List.cons_append, List.nil_append, List.replicate_succ, List.replicate_zero]
  obtain ⟨rfl, hS, hXw, hr, hm, hlv, hwet, hpl⟩ := hp
  obtain ⟨m, rfl⟩ : ∃ n : Nat, m = n := ⟨m.toNat, by omega⟩
  obtain ⟨ha, hk, hn, hcap⟩ := hr
  have kd := w_kdr ha
  have kr := w_rfr ha
  have km := w_kdm ha
  have kw := w_kdw (m := m) (by omega)
  have x1 : ∀ f g i, tw w f g a i = w a i := fun f g i => tw_x w f g ⟨by omega, by omega⟩
  have x2 : ∀ f g i, tw w f g (a + 10) i = w (a + 10) i := fun f g i => tw_x w f g ⟨by omega, by omega⟩
  have x3 : ∀ f g i, tw w f g (58 + m) i = w (58 + m) i := fun f g i => tw_x w f g ⟨by omega, by omega⟩
  have x4 : ∀ f g i, tw w f g (71 + m) i = w (71 + m) i := fun f g i => tw_x w f g ⟨by omega, by omega⟩
  have x5 : ∀ f g, tw w f g 5 5 = w 5 5 := fun f g => tw_x w f g ⟨by omega, by omega⟩
  have h55 : w 5 5 = S 0 5 := hXw.2.1 5 (by decide)
  have h05 := hS.2.2.2.2.2.2.1
  have hcm := hcap m (by omega)
  simp only [Int.toNat_natCast] at hpl
  have e122 : ∀ (P M : Int) (f : Nat → Int) (x4 : Option wV), P = ePumpW S w a m → M = eMostW w a m → (0 ≤ P ∧ w 88 6 + P ≤ w 88 4) → (0 ≤ M ∧ M ≤ 200) → f 11 = P → (∀ i, i ≠ 11 → f i = w 88 i) → G 122 [some (vr 88), some (vr a), some (vi m), some (vi M), x4] [] (tw w f (w 89)) := by
    intro P M f x4 hP hM hPr hMr hf hfe
    have f6 : f 6 = w 88 6 := hfe 6 (by decide)
    (apply hG [] 2000; simp only [w_br_i, w_ite, w_all, w_all0, forall_eq, w_b0, w_b1, ↓reduceIte, w_ent, w_pos, List.replicate_succ, List.replicate_zero, wp_s, wk_s, w_lk_c, w_ld0, w_ldS, w_kp0, w_kp, w_s1, w_s2, w_to, w_if, w_call, w_sw, w_cat, w_cats, w_psh, w_fv, List.contains_cons, List.contains_nil, List.set_cons_zero, List.set_cons_succ, List.length_cons, List.length_nil, List.find?_cons, List.find?_nil, List.take_succ_cons, List.take_zero, List.drop_succ_cons, List.drop_zero, List.reverse_cons, List.reverse_nil, List.nil_append, List.cons_append, Option.map_some, Option.map_none, Nat.reduceAdd, Nat.reduceBEq, Nat.reduceEqDiff, Nat.reduceLT, Nat.reduceLeDiff, Nat.reduceSub, Int.reduceAdd, Int.reduceSub, Int.reduceMul, Int.reduceNeg, Int.reduceToNat, Int.reduceLT, Int.reduceLE, Int.reduceEq, Bool.false_eq_true, Bool.or_false, Bool.false_or, Bool.true_or, Bool.or_true, if_true, if_false, ite_true, ite_false, true_and, and_true, false_and, and_false, true_or, or_true, false_or, or_false, Int.cast_ofNat_Int, Int.toNat_natCast, Int.natCast_add, List.getElem?_cons_zero, List.getElem?_cons_succ, true_implies, forall_const, not_true_eq_false, not_false_eq_true, ne_eq, beq_iff_eq, imp_self, List.length_set, Nat.zero_add, Nat.add_zero, Int.zero_add, Int.add_zero, w1_aload_n_0, w1_iconst, w1_putfield, w1_putfield2, w1_bipush, w1_istore_n_3, w1_aload_n_1, w1_getfield, w1_if_icmp, w1_invokestatic, w1_istore, w1_iload_n_2, w1_aaload, w1_iload, w1_iaload, w1_goto, w1_invokevirtual, w1_isub, w1_dup, w1_dup2, w1_iadd, w1_iload_n_3, w1_ireturn, dX6_choosePumpedAndGiven_0, dX6_choosePumpedAndGiven_1, dX6_choosePumpedAndGiven_2, dX6_choosePumpedAndGiven_5, dX6_choosePumpedAndGiven_7, dX6_choosePumpedAndGiven_8, dX6_choosePumpedAndGiven_9, dX6_choosePumpedAndGiven_12, dX6_choosePumpedAndGiven_13, dX6_choosePumpedAndGiven_16, dX6_choosePumpedAndGiven_17, dX6_choosePumpedAndGiven_20, dX6_choosePumpedAndGiven_21, dX6_choosePumpedAndGiven_24, dX6_choosePumpedAndGiven_27, dX6_choosePumpedAndGiven_29, dX6_choosePumpedAndGiven_30, dX6_choosePumpedAndGiven_31, dX6_choosePumpedAndGiven_34, dX6_choosePumpedAndGiven_37, dX6_choosePumpedAndGiven_38, dX6_choosePumpedAndGiven_39, dX6_choosePumpedAndGiven_41, dX6_choosePumpedAndGiven_42, dX6_choosePumpedAndGiven_45, dX6_choosePumpedAndGiven_46, dX6_choosePumpedAndGiven_49, dX6_choosePumpedAndGiven_52, dX6_choosePumpedAndGiven_53, dX6_choosePumpedAndGiven_54, dX6_choosePumpedAndGiven_56, dX6_choosePumpedAndGiven_57, dX6_choosePumpedAndGiven_58, dX6_choosePumpedAndGiven_61, dX6_choosePumpedAndGiven_62, dX6_choosePumpedAndGiven_65, dX6_choosePumpedAndGiven_66, dX6_choosePumpedAndGiven_69, dX6_choosePumpedAndGiven_70, dX6_choosePumpedAndGiven_73, dX6_choosePumpedAndGiven_74, dX6_choosePumpedAndGiven_77, dX6_choosePumpedAndGiven_80, dX6_choosePumpedAndGiven_81, dX6_choosePumpedAndGiven_82, dX6_choosePumpedAndGiven_85, dX6_choosePumpedAndGiven_86, dX6_choosePumpedAndGiven_89, dX6_choosePumpedAndGiven_90, dX6_choosePumpedAndGiven_93, dX6_choosePumpedAndGiven_94, dX6_choosePumpedAndGiven_97, dX6_choosePumpedAndGiven_98, dX6_choosePumpedAndGiven_101, dX6_choosePumpedAndGiven_104, dX6_choosePumpedAndGiven_107, dX6_choosePumpedAndGiven_108, dX6_choosePumpedAndGiven_111, dX6_choosePumpedAndGiven_112, dX6_choosePumpedAndGiven_115, dX6_choosePumpedAndGiven_116, dX6_choosePumpedAndGiven_119, dX6_choosePumpedAndGiven_120, dX6_choosePumpedAndGiven_121, dX6_choosePumpedAndGiven_122, dX6_choosePumpedAndGiven_123, dX6_choosePumpedAndGiven_124, dX6_choosePumpedAndGiven_127, dX6_choosePumpedAndGiven_128, dX6_choosePumpedAndGiven_131, dX6_choosePumpedAndGiven_132, dX6_choosePumpedAndGiven_135, dX6_choosePumpedAndGiven_136, dX6_choosePumpedAndGiven_137, dX6_choosePumpedAndGiven_140, dX6_choosePumpedAndGiven_143, dX6_choosePumpedAndGiven_144, dX6_choosePumpedAndGiven_147, dX6_choosePumpedAndGiven_148, dX6_choosePumpedAndGiven_151, w_flk6_107, w_flk6_113, w_flk6_125, w_flk6_15, w_flk6_19, w_flk6_27, w_flk6_38, w_flk6_41, w_flk6_66, w_flk6_71, w_flk6_84, w_kd_88, w_rf_88_0, w_rf_88_1, w_rf_88_2, tw_88, tw_uf, fup_i, hf, f6])
    have fin : q_X6_choosePumpedAndGiven S [vr 88, vr a, vi m] w (eMin M (w 88 6 + P)) (tw w (fup f 6 (w 88 6 + P)) (w 89)) := by
      simp only [q_X6_choosePumpedAndGiven, ← hP, ← hM]
      refine ⟨by first | rfl | trivial, _, rfl, ?_, ?_, fun i h1 h2 => ?_⟩
      · simp [fup]
      · simp [fup, hf]
      · simp [fup, h1, hfe i h2]
    unfold eMin at fin
    by_cases q : M < w 88 6 + P
    · rw [if_pos q] at fin
      (repeat' (with_reducible (first | refine And.intro ?_ ?_ | intro _))) <;> (try (first | assumption | contradiction | exact Or.inl trivial | exact Or.inl rfl | exact Or.inr rfl | (simp only [inI, inL]; omega) | omega))
    · rw [if_neg q] at fin
      (repeat' (with_reducible (first | refine And.intro ?_ ?_ | intro _))) <;> (try (first | assumption | contradiction | exact Or.inl trivial | exact Or.inl rfl | exact Or.inr rfl | (simp only [inI, inL]; omega) | omega))
  have hst : (stF (w 88 6) (w 88 7) : Int) = 2 * w 88 6 + if w 88 7 = 0 then 0 else 1 := by
    unfold stF
    split <;> omega
  have hst2 : (2 * w 88 6 + if w 88 7 = 0 then 0 else 1).toNat = stF (w 88 6) (w 88 7) := rfl
  have hstr : (stF (w 88 6) (w 88 7) : Int) ≤ 401 := by
    rw [hst]
    split <;> omega
  have fe : ∀ P i, i ≠ 11 → fup (fup (w 88) 11 0) 11 P i = w 88 i := fun P i h => by simp [fup, h]
  have fe0 : ∀ i, i ≠ 11 → fup (w 88) 11 0 i = w 88 i := fun i h => by simp [fup, h]
  have fp : ∀ P, fup (fup (w 88) 11 0) 11 P 11 = P := fun P => by simp [fup]
  have fp0 : fup (w 88) 11 0 11 = 0 := by simp [fup]
  by_cases k3 : w a 1 = 3
  · obtain ⟨p1, p2⟩ := hpl k3
    have eP : ePumpW S w a m = w (58 + m) (stF (w 88 6) (w 88 7)) := by simp [ePumpW, ePump, k3]
    have eM : eMostW w a m = w (71 + m) (stF (w 88 6) (w 88 7)) := by simp [eMostW, eMost, k3]
    rw [← tw_id w]
    (apply hG [122] 2000; simp only [w_br_i, w_ite, w_all, w_all0, forall_eq, w_b0, w_b1, ↓reduceIte, w_ent, w_pos, List.replicate_succ, List.replicate_zero, wp_s, wk_s, w_lk_c, w_ld0, w_ldS, w_kp0, w_kp, w_s1, w_s2, w_to, w_if, w_call, w_sw, w_cat, w_cats, w_psh, w_fv, List.contains_cons, List.contains_nil, List.set_cons_zero, List.set_cons_succ, List.length_cons, List.length_nil, List.find?_cons, List.find?_nil, List.take_succ_cons, List.take_zero, List.drop_succ_cons, List.drop_zero, List.reverse_cons, List.reverse_nil, List.nil_append, List.cons_append, Option.map_some, Option.map_none, Nat.reduceAdd, Nat.reduceBEq, Nat.reduceEqDiff, Nat.reduceLT, Nat.reduceLeDiff, Nat.reduceSub, Int.reduceAdd, Int.reduceSub, Int.reduceMul, Int.reduceNeg, Int.reduceToNat, Int.reduceLT, Int.reduceLE, Int.reduceEq, Bool.false_eq_true, Bool.or_false, Bool.false_or, Bool.true_or, Bool.or_true, if_true, if_false, ite_true, ite_false, true_and, and_true, false_and, and_false, true_or, or_true, false_or, or_false, Int.cast_ofNat_Int, Int.toNat_natCast, Int.natCast_add, List.getElem?_cons_zero, List.getElem?_cons_succ, true_implies, forall_const, not_true_eq_false, not_false_eq_true, ne_eq, beq_iff_eq, imp_self, List.length_set, Nat.zero_add, Nat.add_zero, Int.zero_add, Int.add_zero, w1_aload_n_0, w1_iconst, w1_putfield, w1_putfield2, w1_bipush, w1_istore_n_3, w1_aload_n_1, w1_getfield, w1_if_icmp, w1_invokestatic, w1_istore, w1_iload_n_2, w1_aaload, w1_iload, w1_iaload, w1_goto, w1_invokevirtual, w1_isub, w1_dup, w1_dup2, w1_iadd, w1_iload_n_3, w1_ireturn, dX6_choosePumpedAndGiven_0, dX6_choosePumpedAndGiven_1, dX6_choosePumpedAndGiven_2, dX6_choosePumpedAndGiven_5, dX6_choosePumpedAndGiven_7, dX6_choosePumpedAndGiven_8, dX6_choosePumpedAndGiven_9, dX6_choosePumpedAndGiven_12, dX6_choosePumpedAndGiven_13, dX6_choosePumpedAndGiven_16, dX6_choosePumpedAndGiven_17, dX6_choosePumpedAndGiven_20, dX6_choosePumpedAndGiven_21, dX6_choosePumpedAndGiven_24, dX6_choosePumpedAndGiven_27, dX6_choosePumpedAndGiven_29, dX6_choosePumpedAndGiven_30, dX6_choosePumpedAndGiven_31, dX6_choosePumpedAndGiven_34, dX6_choosePumpedAndGiven_37, dX6_choosePumpedAndGiven_38, dX6_choosePumpedAndGiven_39, dX6_choosePumpedAndGiven_41, dX6_choosePumpedAndGiven_42, dX6_choosePumpedAndGiven_45, dX6_choosePumpedAndGiven_46, dX6_choosePumpedAndGiven_49, dX6_choosePumpedAndGiven_52, dX6_choosePumpedAndGiven_53, dX6_choosePumpedAndGiven_54, dX6_choosePumpedAndGiven_56, dX6_choosePumpedAndGiven_57, dX6_choosePumpedAndGiven_58, dX6_choosePumpedAndGiven_61, dX6_choosePumpedAndGiven_62, dX6_choosePumpedAndGiven_65, dX6_choosePumpedAndGiven_66, dX6_choosePumpedAndGiven_69, dX6_choosePumpedAndGiven_70, dX6_choosePumpedAndGiven_73, dX6_choosePumpedAndGiven_74, dX6_choosePumpedAndGiven_77, dX6_choosePumpedAndGiven_80, dX6_choosePumpedAndGiven_81, dX6_choosePumpedAndGiven_82, dX6_choosePumpedAndGiven_85, dX6_choosePumpedAndGiven_86, dX6_choosePumpedAndGiven_89, dX6_choosePumpedAndGiven_90, dX6_choosePumpedAndGiven_93, dX6_choosePumpedAndGiven_94, dX6_choosePumpedAndGiven_97, dX6_choosePumpedAndGiven_98, dX6_choosePumpedAndGiven_101, dX6_choosePumpedAndGiven_104, dX6_choosePumpedAndGiven_107, dX6_choosePumpedAndGiven_108, dX6_choosePumpedAndGiven_111, dX6_choosePumpedAndGiven_112, dX6_choosePumpedAndGiven_115, dX6_choosePumpedAndGiven_116, dX6_choosePumpedAndGiven_119, dX6_choosePumpedAndGiven_120, dX6_choosePumpedAndGiven_121, dX6_choosePumpedAndGiven_122, dX6_choosePumpedAndGiven_123, dX6_choosePumpedAndGiven_124, dX6_choosePumpedAndGiven_127, dX6_choosePumpedAndGiven_128, dX6_choosePumpedAndGiven_131, dX6_choosePumpedAndGiven_132, dX6_choosePumpedAndGiven_135, dX6_choosePumpedAndGiven_136, dX6_choosePumpedAndGiven_137, dX6_choosePumpedAndGiven_140, dX6_choosePumpedAndGiven_143, dX6_choosePumpedAndGiven_144, dX6_choosePumpedAndGiven_147, dX6_choosePumpedAndGiven_148, dX6_choosePumpedAndGiven_151, w_flk6_107, w_flk6_113, w_flk6_125, w_flk6_15, w_flk6_19, w_flk6_27, w_flk6_38, w_flk6_41, w_flk6_66, w_flk6_71, w_flk6_84, w_kd_56, w_rf_56_0, w_rf_56_1, w_rf_56_2, w_rf_56_3, w_rf_56_4, w_rf_56_5, w_rf_56_6, w_rf_56_7, w_rf_56_8, w_kd_57, w_ln_57, w_kd_70, w_ln_70, w_kd_88, w_rf_88_0, w_rf_88_1, w_rf_88_2, tw_88, tw_uf, fup_i, kd, x1, k3, x3, x4, p_X9_stateOf, q_X9_stateOf, hst2, kw.1.1.1, kw.1.1.2, kw.1.2.1, kw.1.2.2])
    rw [← hst]
    (repeat' (with_reducible (first | refine And.intro ?_ ?_ | intro _))) <;> (try (first | assumption | contradiction | exact Or.inl trivial | exact Or.inl rfl | exact Or.inr rfl | (simp only [inI, inL]; omega) | omega))
    all_goals first
      | exact e122 _ _ _ _ eP.symm eM.symm p1 p2 (fp _) (fe _)
      | skip
  · by_cases k4 : w a 1 = 4 ∧ w 88 6 < w a 2
    · have eP : ePumpW S w a m = (if w 88 4 - w 88 6 < (if (m : Int) = 7 then 0 else S 0 5) then w 88 4 - w 88 6 else (if (m : Int) = 7 then 0 else S 0 5)) := by
        unfold ePumpW ePump
        rw [if_neg k3, if_pos k4]
      have eM : eMostW w a m = 72 := by simp [eMostW, eMost, k4.1]
      have k41 := k4.1
      have hmp : 0 ≤ (if (m : Int) = 7 then 0 else S 0 5) ∧ (if (m : Int) = 7 then 0 else S 0 5) ≤ 5 := by split <;> omega
      have hPr : 0 ≤ ePumpW S w a m ∧ w 88 6 + ePumpW S w a m ≤ w 88 4 := by
        rw [eP]
        split <;> omega
      generalize hmpe : (if (m : Int) = 7 then 0 else S 0 5) = mp at hmp eP
      rw [← tw_id w]
      (apply hG [122] 2000; simp only [w_br_i, w_ite, w_all, w_all0, forall_eq, w_b0, w_b1, ↓reduceIte, w_ent, w_pos, List.replicate_succ, List.replicate_zero, wp_s, wk_s, w_lk_c, w_ld0, w_ldS, w_kp0, w_kp, w_s1, w_s2, w_to, w_if, w_call, w_sw, w_cat, w_cats, w_psh, w_fv, List.contains_cons, List.contains_nil, List.set_cons_zero, List.set_cons_succ, List.length_cons, List.length_nil, List.find?_cons, List.find?_nil, List.take_succ_cons, List.take_zero, List.drop_succ_cons, List.drop_zero, List.reverse_cons, List.reverse_nil, List.nil_append, List.cons_append, Option.map_some, Option.map_none, Nat.reduceAdd, Nat.reduceBEq, Nat.reduceEqDiff, Nat.reduceLT, Nat.reduceLeDiff, Nat.reduceSub, Int.reduceAdd, Int.reduceSub, Int.reduceMul, Int.reduceNeg, Int.reduceToNat, Int.reduceLT, Int.reduceLE, Int.reduceEq, Bool.false_eq_true, Bool.or_false, Bool.false_or, Bool.true_or, Bool.or_true, if_true, if_false, ite_true, ite_false, true_and, and_true, false_and, and_false, true_or, or_true, false_or, or_false, Int.cast_ofNat_Int, Int.toNat_natCast, Int.natCast_add, List.getElem?_cons_zero, List.getElem?_cons_succ, true_implies, forall_const, not_true_eq_false, not_false_eq_true, ne_eq, beq_iff_eq, imp_self, List.length_set, Nat.zero_add, Nat.add_zero, Int.zero_add, Int.add_zero, w1_aload_n_0, w1_iconst, w1_putfield, w1_putfield2, w1_bipush, w1_istore_n_3, w1_aload_n_1, w1_getfield, w1_if_icmp, w1_invokestatic, w1_istore, w1_iload_n_2, w1_aaload, w1_iload, w1_iaload, w1_goto, w1_invokevirtual, w1_isub, w1_dup, w1_dup2, w1_iadd, w1_iload_n_3, w1_ireturn, dX6_choosePumpedAndGiven_0, dX6_choosePumpedAndGiven_1, dX6_choosePumpedAndGiven_2, dX6_choosePumpedAndGiven_5, dX6_choosePumpedAndGiven_7, dX6_choosePumpedAndGiven_8, dX6_choosePumpedAndGiven_9, dX6_choosePumpedAndGiven_12, dX6_choosePumpedAndGiven_13, dX6_choosePumpedAndGiven_16, dX6_choosePumpedAndGiven_17, dX6_choosePumpedAndGiven_20, dX6_choosePumpedAndGiven_21, dX6_choosePumpedAndGiven_24, dX6_choosePumpedAndGiven_27, dX6_choosePumpedAndGiven_29, dX6_choosePumpedAndGiven_30, dX6_choosePumpedAndGiven_31, dX6_choosePumpedAndGiven_34, dX6_choosePumpedAndGiven_37, dX6_choosePumpedAndGiven_38, dX6_choosePumpedAndGiven_39, dX6_choosePumpedAndGiven_41, dX6_choosePumpedAndGiven_42, dX6_choosePumpedAndGiven_45, dX6_choosePumpedAndGiven_46, dX6_choosePumpedAndGiven_49, dX6_choosePumpedAndGiven_52, dX6_choosePumpedAndGiven_53, dX6_choosePumpedAndGiven_54, dX6_choosePumpedAndGiven_56, dX6_choosePumpedAndGiven_57, dX6_choosePumpedAndGiven_58, dX6_choosePumpedAndGiven_61, dX6_choosePumpedAndGiven_62, dX6_choosePumpedAndGiven_65, dX6_choosePumpedAndGiven_66, dX6_choosePumpedAndGiven_69, dX6_choosePumpedAndGiven_70, dX6_choosePumpedAndGiven_73, dX6_choosePumpedAndGiven_74, dX6_choosePumpedAndGiven_77, dX6_choosePumpedAndGiven_80, dX6_choosePumpedAndGiven_81, dX6_choosePumpedAndGiven_82, dX6_choosePumpedAndGiven_85, dX6_choosePumpedAndGiven_86, dX6_choosePumpedAndGiven_89, dX6_choosePumpedAndGiven_90, dX6_choosePumpedAndGiven_93, dX6_choosePumpedAndGiven_94, dX6_choosePumpedAndGiven_97, dX6_choosePumpedAndGiven_98, dX6_choosePumpedAndGiven_101, dX6_choosePumpedAndGiven_104, dX6_choosePumpedAndGiven_107, dX6_choosePumpedAndGiven_108, dX6_choosePumpedAndGiven_111, dX6_choosePumpedAndGiven_112, dX6_choosePumpedAndGiven_115, dX6_choosePumpedAndGiven_116, dX6_choosePumpedAndGiven_119, dX6_choosePumpedAndGiven_120, dX6_choosePumpedAndGiven_121, dX6_choosePumpedAndGiven_122, dX6_choosePumpedAndGiven_123, dX6_choosePumpedAndGiven_124, dX6_choosePumpedAndGiven_127, dX6_choosePumpedAndGiven_128, dX6_choosePumpedAndGiven_131, dX6_choosePumpedAndGiven_132, dX6_choosePumpedAndGiven_135, dX6_choosePumpedAndGiven_136, dX6_choosePumpedAndGiven_137, dX6_choosePumpedAndGiven_140, dX6_choosePumpedAndGiven_143, dX6_choosePumpedAndGiven_144, dX6_choosePumpedAndGiven_147, dX6_choosePumpedAndGiven_148, dX6_choosePumpedAndGiven_151, w_flk6_107, w_flk6_113, w_flk6_125, w_flk6_15, w_flk6_19, w_flk6_27, w_flk6_38, w_flk6_41, w_flk6_66, w_flk6_71, w_flk6_84, w_kd_4, w_rf_4_0, w_rf_4_1, w_rf_4_2, w_rf_4_3, w_rf_4_4, w_rf_4_5, w_kd_5, w_ln_5, w_kd_88, w_rf_88_0, w_rf_88_1, w_rf_88_2, tw_88, tw_uf, fup_i, kd, x1, k41, x5, h55, hmpe, p_X1_mostPumped, q_X1_mostPumped, w_preMM, w_postMin])
      rw [← eP]
      (repeat' (with_reducible (first | refine And.intro ?_ ?_ | intro _))) <;> (try (first | assumption | contradiction | exact Or.inl trivial | exact Or.inl rfl | exact Or.inr rfl | (simp only [inI, inL]; omega) | omega))
      all_goals first
        | exact e122 _ _ _ _ rfl eM.symm hPr (by decide) (fp _) (fe _)
        | skip
    · have eP : ePumpW S w a m = 0 := by
        unfold ePumpW ePump
        rw [if_neg k3, if_neg k4]
      by_cases k5 : w a 1 = 5
      · have eM : eMostW w a m = w (a + 10) m := by simp [eMostW, eMost, k5]
        rw [← tw_id w]
        (apply hG [122] 2000; simp only [w_br_i, w_ite, w_all, w_all0, forall_eq, w_b0, w_b1, ↓reduceIte, w_ent, w_pos, List.replicate_succ, List.replicate_zero, wp_s, wk_s, w_lk_c, w_ld0, w_ldS, w_kp0, w_kp, w_s1, w_s2, w_to, w_if, w_call, w_sw, w_cat, w_cats, w_psh, w_fv, List.contains_cons, List.contains_nil, List.set_cons_zero, List.set_cons_succ, List.length_cons, List.length_nil, List.find?_cons, List.find?_nil, List.take_succ_cons, List.take_zero, List.drop_succ_cons, List.drop_zero, List.reverse_cons, List.reverse_nil, List.nil_append, List.cons_append, Option.map_some, Option.map_none, Nat.reduceAdd, Nat.reduceBEq, Nat.reduceEqDiff, Nat.reduceLT, Nat.reduceLeDiff, Nat.reduceSub, Int.reduceAdd, Int.reduceSub, Int.reduceMul, Int.reduceNeg, Int.reduceToNat, Int.reduceLT, Int.reduceLE, Int.reduceEq, Bool.false_eq_true, Bool.or_false, Bool.false_or, Bool.true_or, Bool.or_true, if_true, if_false, ite_true, ite_false, true_and, and_true, false_and, and_false, true_or, or_true, false_or, or_false, Int.cast_ofNat_Int, Int.toNat_natCast, Int.natCast_add, List.getElem?_cons_zero, List.getElem?_cons_succ, true_implies, forall_const, not_true_eq_false, not_false_eq_true, ne_eq, beq_iff_eq, imp_self, List.length_set, Nat.zero_add, Nat.add_zero, Int.zero_add, Int.add_zero, w1_aload_n_0, w1_iconst, w1_putfield, w1_putfield2, w1_bipush, w1_istore_n_3, w1_aload_n_1, w1_getfield, w1_if_icmp, w1_invokestatic, w1_istore, w1_iload_n_2, w1_aaload, w1_iload, w1_iaload, w1_goto, w1_invokevirtual, w1_isub, w1_dup, w1_dup2, w1_iadd, w1_iload_n_3, w1_ireturn, dX6_choosePumpedAndGiven_0, dX6_choosePumpedAndGiven_1, dX6_choosePumpedAndGiven_2, dX6_choosePumpedAndGiven_5, dX6_choosePumpedAndGiven_7, dX6_choosePumpedAndGiven_8, dX6_choosePumpedAndGiven_9, dX6_choosePumpedAndGiven_12, dX6_choosePumpedAndGiven_13, dX6_choosePumpedAndGiven_16, dX6_choosePumpedAndGiven_17, dX6_choosePumpedAndGiven_20, dX6_choosePumpedAndGiven_21, dX6_choosePumpedAndGiven_24, dX6_choosePumpedAndGiven_27, dX6_choosePumpedAndGiven_29, dX6_choosePumpedAndGiven_30, dX6_choosePumpedAndGiven_31, dX6_choosePumpedAndGiven_34, dX6_choosePumpedAndGiven_37, dX6_choosePumpedAndGiven_38, dX6_choosePumpedAndGiven_39, dX6_choosePumpedAndGiven_41, dX6_choosePumpedAndGiven_42, dX6_choosePumpedAndGiven_45, dX6_choosePumpedAndGiven_46, dX6_choosePumpedAndGiven_49, dX6_choosePumpedAndGiven_52, dX6_choosePumpedAndGiven_53, dX6_choosePumpedAndGiven_54, dX6_choosePumpedAndGiven_56, dX6_choosePumpedAndGiven_57, dX6_choosePumpedAndGiven_58, dX6_choosePumpedAndGiven_61, dX6_choosePumpedAndGiven_62, dX6_choosePumpedAndGiven_65, dX6_choosePumpedAndGiven_66, dX6_choosePumpedAndGiven_69, dX6_choosePumpedAndGiven_70, dX6_choosePumpedAndGiven_73, dX6_choosePumpedAndGiven_74, dX6_choosePumpedAndGiven_77, dX6_choosePumpedAndGiven_80, dX6_choosePumpedAndGiven_81, dX6_choosePumpedAndGiven_82, dX6_choosePumpedAndGiven_85, dX6_choosePumpedAndGiven_86, dX6_choosePumpedAndGiven_89, dX6_choosePumpedAndGiven_90, dX6_choosePumpedAndGiven_93, dX6_choosePumpedAndGiven_94, dX6_choosePumpedAndGiven_97, dX6_choosePumpedAndGiven_98, dX6_choosePumpedAndGiven_101, dX6_choosePumpedAndGiven_104, dX6_choosePumpedAndGiven_107, dX6_choosePumpedAndGiven_108, dX6_choosePumpedAndGiven_111, dX6_choosePumpedAndGiven_112, dX6_choosePumpedAndGiven_115, dX6_choosePumpedAndGiven_116, dX6_choosePumpedAndGiven_119, dX6_choosePumpedAndGiven_120, dX6_choosePumpedAndGiven_121, dX6_choosePumpedAndGiven_122, dX6_choosePumpedAndGiven_123, dX6_choosePumpedAndGiven_124, dX6_choosePumpedAndGiven_127, dX6_choosePumpedAndGiven_128, dX6_choosePumpedAndGiven_131, dX6_choosePumpedAndGiven_132, dX6_choosePumpedAndGiven_135, dX6_choosePumpedAndGiven_136, dX6_choosePumpedAndGiven_137, dX6_choosePumpedAndGiven_140, dX6_choosePumpedAndGiven_143, dX6_choosePumpedAndGiven_144, dX6_choosePumpedAndGiven_147, dX6_choosePumpedAndGiven_148, dX6_choosePumpedAndGiven_151, w_flk6_107, w_flk6_113, w_flk6_125, w_flk6_15, w_flk6_19, w_flk6_27, w_flk6_38, w_flk6_41, w_flk6_66, w_flk6_71, w_flk6_84, w_kd_88, w_rf_88_0, w_rf_88_1, w_rf_88_2, tw_88, tw_uf, fup_i, kd, kr, km.1, km.2, x1, x2, k5])
        (repeat' (with_reducible (first | refine And.intro ?_ ?_ | intro _))) <;> (try (first | assumption | contradiction | exact Or.inl trivial | exact Or.inl rfl | exact Or.inr rfl | (simp only [inI, inL]; omega) | omega))
        all_goals first
          | exact e122 _ _ _ _ eP.symm eM.symm (by omega) (by omega) fp0 fe0
          | skip
      · have eM : eMostW w a m = 72 := by simp [eMostW, eMost, k3, k5]
        rw [← tw_id w]
        (apply hG [122] 2000; simp only [w_br_i, w_ite, w_all, w_all0, forall_eq, w_b0, w_b1, ↓reduceIte, w_ent, w_pos, List.replicate_succ, List.replicate_zero, wp_s, wk_s, w_lk_c, w_ld0, w_ldS, w_kp0, w_kp, w_s1, w_s2, w_to, w_if, w_call, w_sw, w_cat, w_cats, w_psh, w_fv, List.contains_cons, List.contains_nil, List.set_cons_zero, List.set_cons_succ, List.length_cons, List.length_nil, List.find?_cons, List.find?_nil, List.take_succ_cons, List.take_zero, List.drop_succ_cons, List.drop_zero, List.reverse_cons, List.reverse_nil, List.nil_append, List.cons_append, Option.map_some, Option.map_none, Nat.reduceAdd, Nat.reduceBEq, Nat.reduceEqDiff, Nat.reduceLT, Nat.reduceLeDiff, Nat.reduceSub, Int.reduceAdd, Int.reduceSub, Int.reduceMul, Int.reduceNeg, Int.reduceToNat, Int.reduceLT, Int.reduceLE, Int.reduceEq, Bool.false_eq_true, Bool.or_false, Bool.false_or, Bool.true_or, Bool.or_true, if_true, if_false, ite_true, ite_false, true_and, and_true, false_and, and_false, true_or, or_true, false_or, or_false, Int.cast_ofNat_Int, Int.toNat_natCast, Int.natCast_add, List.getElem?_cons_zero, List.getElem?_cons_succ, true_implies, forall_const, not_true_eq_false, not_false_eq_true, ne_eq, beq_iff_eq, imp_self, List.length_set, Nat.zero_add, Nat.add_zero, Int.zero_add, Int.add_zero, w1_aload_n_0, w1_iconst, w1_putfield, w1_putfield2, w1_bipush, w1_istore_n_3, w1_aload_n_1, w1_getfield, w1_if_icmp, w1_invokestatic, w1_istore, w1_iload_n_2, w1_aaload, w1_iload, w1_iaload, w1_goto, w1_invokevirtual, w1_isub, w1_dup, w1_dup2, w1_iadd, w1_iload_n_3, w1_ireturn, dX6_choosePumpedAndGiven_0, dX6_choosePumpedAndGiven_1, dX6_choosePumpedAndGiven_2, dX6_choosePumpedAndGiven_5, dX6_choosePumpedAndGiven_7, dX6_choosePumpedAndGiven_8, dX6_choosePumpedAndGiven_9, dX6_choosePumpedAndGiven_12, dX6_choosePumpedAndGiven_13, dX6_choosePumpedAndGiven_16, dX6_choosePumpedAndGiven_17, dX6_choosePumpedAndGiven_20, dX6_choosePumpedAndGiven_21, dX6_choosePumpedAndGiven_24, dX6_choosePumpedAndGiven_27, dX6_choosePumpedAndGiven_29, dX6_choosePumpedAndGiven_30, dX6_choosePumpedAndGiven_31, dX6_choosePumpedAndGiven_34, dX6_choosePumpedAndGiven_37, dX6_choosePumpedAndGiven_38, dX6_choosePumpedAndGiven_39, dX6_choosePumpedAndGiven_41, dX6_choosePumpedAndGiven_42, dX6_choosePumpedAndGiven_45, dX6_choosePumpedAndGiven_46, dX6_choosePumpedAndGiven_49, dX6_choosePumpedAndGiven_52, dX6_choosePumpedAndGiven_53, dX6_choosePumpedAndGiven_54, dX6_choosePumpedAndGiven_56, dX6_choosePumpedAndGiven_57, dX6_choosePumpedAndGiven_58, dX6_choosePumpedAndGiven_61, dX6_choosePumpedAndGiven_62, dX6_choosePumpedAndGiven_65, dX6_choosePumpedAndGiven_66, dX6_choosePumpedAndGiven_69, dX6_choosePumpedAndGiven_70, dX6_choosePumpedAndGiven_73, dX6_choosePumpedAndGiven_74, dX6_choosePumpedAndGiven_77, dX6_choosePumpedAndGiven_80, dX6_choosePumpedAndGiven_81, dX6_choosePumpedAndGiven_82, dX6_choosePumpedAndGiven_85, dX6_choosePumpedAndGiven_86, dX6_choosePumpedAndGiven_89, dX6_choosePumpedAndGiven_90, dX6_choosePumpedAndGiven_93, dX6_choosePumpedAndGiven_94, dX6_choosePumpedAndGiven_97, dX6_choosePumpedAndGiven_98, dX6_choosePumpedAndGiven_101, dX6_choosePumpedAndGiven_104, dX6_choosePumpedAndGiven_107, dX6_choosePumpedAndGiven_108, dX6_choosePumpedAndGiven_111, dX6_choosePumpedAndGiven_112, dX6_choosePumpedAndGiven_115, dX6_choosePumpedAndGiven_116, dX6_choosePumpedAndGiven_119, dX6_choosePumpedAndGiven_120, dX6_choosePumpedAndGiven_121, dX6_choosePumpedAndGiven_122, dX6_choosePumpedAndGiven_123, dX6_choosePumpedAndGiven_124, dX6_choosePumpedAndGiven_127, dX6_choosePumpedAndGiven_128, dX6_choosePumpedAndGiven_131, dX6_choosePumpedAndGiven_132, dX6_choosePumpedAndGiven_135, dX6_choosePumpedAndGiven_136, dX6_choosePumpedAndGiven_137, dX6_choosePumpedAndGiven_140, dX6_choosePumpedAndGiven_143, dX6_choosePumpedAndGiven_144, dX6_choosePumpedAndGiven_147, dX6_choosePumpedAndGiven_148, dX6_choosePumpedAndGiven_151, w_flk6_107, w_flk6_113, w_flk6_125, w_flk6_15, w_flk6_19, w_flk6_27, w_flk6_38, w_flk6_41, w_flk6_66, w_flk6_71, w_flk6_84, w_kd_88, w_rf_88_0, w_rf_88_1, w_rf_88_2, tw_88, tw_uf, fup_i, kd, x1])
        (repeat' (with_reducible (first | refine And.intro ?_ ?_ | intro _))) <;> (try (first | assumption | contradiction | exact Or.inl trivial | exact Or.inl rfl | exact Or.inr rfl | (simp only [inI, inL]; omega) | omega))
        all_goals first
          | exact e122 _ _ _ _ eP.symm eM.symm (by omega) (by decide) fp0 fe0
          | (exfalso; omega)
