/-! the reference's reading, letter by letter: f, g what is read, u uses, d what is due, b whether it has begun, n how many -/
abbrev aS : Type := (Nat → Int) × (Nat → Int) × Int × Int × Int × Int
def aW (w : wW) (s : aS) : wW := fun k i => if k = 137 then s.1 i else if k = 138 then s.2.1 i else if k = 135 ∧ i = 4 then s.2.2.1 else if k = 135 ∧ i = 5 then s.2.2.2.1 else if k = 135 ∧ i = 6 then s.2.2.2.2.1 else if k = 135 ∧ i = 7 then s.2.2.2.2.2 else w k i
theorem aW_137 (w : wW) (s : aS) : aW w s 137 = s.1 := rfl
theorem aW_138 (w : wW) (s : aS) : aW w s 138 = s.2.1 := rfl
theorem aW_4 (w : wW) (s : aS) : aW w s 135 4 = s.2.2.1 := rfl
theorem aW_5 (w : wW) (s : aS) : aW w s 135 5 = s.2.2.2.1 := rfl
theorem aW_6 (w : wW) (s : aS) : aW w s 135 6 = s.2.2.2.2.1 := rfl
theorem aW_7 (w : wW) (s : aS) : aW w s 135 7 = s.2.2.2.2.2 := rfl
theorem aW_1 (w : wW) (s : aS) : aW w s 135 1 = w 135 1 := rfl
theorem aW_136 (w : wW) (s : aS) : aW w s 136 = w 136 := rfl
theorem aW_x (w : wW) (s : aS) {k i : Nat} (h1 : k ≠ 137) (h2 : k ≠ 138) (h3 : ¬ (k = 135 ∧ (4 ≤ i ∧ i ≤ 7))) : aW w s k i = w k i := by
  unfold aW
  rw [if_neg h1, if_neg h2, if_neg (by omega), if_neg (by omega), if_neg (by omega), if_neg (by omega)]
theorem aW_aW (w : wW) (s s' : aS) : aW (aW w s) s' = aW w s' := by
  funext k i
  unfold aW
  repeat' split
  all_goals rfl
theorem aW_u4 (w : wW) (s : aS) (v : Int) : w_up (aW w s) 135 4 v = aW w (s.1, s.2.1, v, s.2.2.2) := by
  funext k i
  unfold aW w_up
  by_cases h : k = 135 ∧ i = 4
  · rw [if_pos h, if_neg (by omega), if_neg (by omega), if_pos h]
  · rw [if_neg h]
    simp only [if_neg h]
theorem aW_u5 (w : wW) (s : aS) (v : Int) : w_up (aW w s) 135 5 v = aW w (s.1, s.2.1, s.2.2.1, v, s.2.2.2.2) := by
  funext k i
  unfold aW w_up
  by_cases h : k = 135 ∧ i = 5
  · rw [if_pos h, if_neg (by omega), if_neg (by omega), if_neg (by omega), if_pos h]
  · rw [if_neg h]
    simp only [if_neg h]
theorem aW_u6 (w : wW) (s : aS) (v : Int) : w_up (aW w s) 135 6 v = aW w (s.1, s.2.1, s.2.2.1, s.2.2.2.1, v, s.2.2.2.2.2) := by
  funext k i
  unfold aW w_up
  by_cases h : k = 135 ∧ i = 6
  · rw [if_pos h, if_neg (by omega), if_neg (by omega), if_neg (by omega), if_neg (by omega), if_pos h]
  · rw [if_neg h]
    simp only [if_neg h]
theorem aW_u7 (w : wW) (s : aS) (v : Int) : w_up (aW w s) 135 7 v = aW w (s.1, s.2.1, s.2.2.1, s.2.2.2.1, s.2.2.2.2.1, v) := by
  funext k i
  unfold aW w_up
  by_cases h : k = 135 ∧ i = 7
  · rw [if_pos h, if_neg (by omega), if_neg (by omega), if_neg (by omega), if_neg (by omega), if_neg (by omega), if_pos h]
  · rw [if_neg h]
    simp only [if_neg h]
theorem aW_uf (w : wW) (s : aS) (j : Nat) (v : Int) : w_up (aW w s) 137 j v = aW w (fup s.1 j v, s.2) := by
  funext k i
  unfold aW w_up fup
  by_cases h : k = 137
  · subst h
    by_cases h2 : i = j
    · simp [h2]
    · simp [h2]
  · simp [h]
theorem aW_ug (w : wW) (s : aS) (j : Nat) (v : Int) : w_up (aW w s) 138 j v = aW w (s.1, fup s.2.1 j v, s.2.2) := by
  funext k i
  unfold aW w_up fup
  by_cases h : k = 138
  · subst h
    by_cases h2 : i = j
    · simp [h2]
    · simp [h2]
  · simp [h]
theorem aW_id (w : wW) : aW w (w 137, w 138, w 135 4, w 135 5, w 135 6, w 135 7) = w := by
  funext k i
  unfold aW
  (repeat' split)
  · rename_i h; rw [h]
  · rename_i h; rw [h]
  · rename_i h; rw [h.1, h.2]
  · rename_i h; rw [h.1, h.2]
  · rename_i h; rw [h.1, h.2]
  · rename_i h; rw [h.1, h.2]
  · rfl
def mBe (d c : Int) : Int := if d = 0 then (if c = 115 then 1 else -1) else if d = 1 then (if c = 108 then 2 else -1) else if d = 2 then (if c = 119 then 3 else -1) else if d = 3 then (if c = 107 then 4 else if c = 112 then 5 else if c = 59 then 10 else -1) else if d = 4 then (if c = 112 then 5 else if c = 59 then 10 else -1) else if d = 5 then (if c = 113 then 6 else -1) else if d = 6 then (if c = 59 then 10 else -1) else if d = 7 then (if c = 104 then 8 else -1) else if d = 8 then (if c = 99 then 9 else -1) else (if c = 59 then 10 else -1)
def plc (d u : Int) : Int := if d < 7 then d else 7 + 3 * (u - 1) + d - 7
def gN (c : Int) (s : aS) : Int × aS := if s.2.2.2.2.1 = 0 then ((if m_low s.2.2.2.1 ≤ c - 48 ∧ c - 48 ≤ m_high s.2.2.2.1 then 1 else 0), (fup s.1 (plc s.2.2.2.1 s.2.2.1).toNat (c - 48), s.2.1, s.2.2.1, s.2.2.2.1, 1, s.2.2.2.2.2))
  else ((if 0 < s.1 (plc s.2.2.2.1 s.2.2.1).toNat ∧ 10 * s.1 (plc s.2.2.2.1 s.2.2.1).toNat + c - 48 ≤ m_high s.2.2.2.1 then 1 else 0), (fup s.1 (plc s.2.2.2.1 s.2.2.1).toNat (10 * s.1 (plc s.2.2.2.1 s.2.2.1).toNat + c - 48), s.2))
def gNx (c : Int) (s : aS) : Int := if s.2.2.2.2.1 = 0 then -1 else mBe s.2.2.2.1 c
def gH (c : Int) (s : aS) : Int × aS := if s.2.2.2.1 = 11 then ((if c = 97 then 1 else 0), (s.1, s.2.1, s.2.2.1, 0, 0, s.2.2.2.2.2)) else if s.2.2.2.1 = 10 then ((if c = 117 then 1 else 0), (s.1, s.2.1, s.2.2.1 + 1, 7, 0, s.2.2.2.2.2)) else if 48 ≤ c ∧ c ≤ 57 then gN c s else
  ((if gNx c s ≠ -1 ∧ (gNx c s ≠ 10 ∨ s.2.2.1 < 3) then 1 else 0), (s.1, s.2.1, s.2.2.1, gNx c s, 0, s.2.2.2.2.2))
def gY (c : Int) (s : aS) : Int × aS := if (48 ≤ c ∧ c ≤ 57) ∧ s.2.2.2.2.2 < 12 then (1, (s.1, fup s.2.1 s.2.2.2.2.2.toNat (c - 48), s.2.2.1, s.2.2.2.1, s.2.2.2.2.1, s.2.2.2.2.2 + 1)) else (0, s)
def gTm (c : Int) (s : aS) : Int := if c = 44 ∧ ¬ s.2.2.2.2.1 = 0 ∧ s.2.2.2.2.2 < 11 then 1 else 0
def gT (c : Int) (s : aS) : Int × aS := if 48 ≤ c ∧ c ≤ 57 then ((if s.2.2.2.2.1 = 0 ∨ (1 ≤ s.2.1 s.2.2.2.2.2.toNat ∧ s.2.1 s.2.2.2.2.2.toNat ≤ 9) then 1 else 0), (s.1, fup s.2.1 s.2.2.2.2.2.toNat (if s.2.2.2.2.1 = 0 then c - 48 else 10 * s.2.1 s.2.2.2.2.2.toNat + c - 48), s.2.2.1, s.2.2.2.1, 1, s.2.2.2.2.2)) else
  (gTm c s, (s.1, s.2.1, s.2.2.1, s.2.2.2.1, 0, s.2.2.2.2.2 + gTm c s))
/-- what an accepted state must be: of a HOUSE -/
def aIH (s : aS) : Prop := (0 ≤ s.2.2.2.1 ∧ s.2.2.2.1 ≤ 11) ∧ (s.2.2.2.2.1 = 0 ∨ s.2.2.2.2.1 = 1) ∧ (0 ≤ s.2.2.1 ∧ s.2.2.1 ≤ 3) ∧ (7 ≤ s.2.2.2.1 → s.2.2.2.1 ≤ 9 → 1 ≤ s.2.2.1) ∧ (s.2.2.2.1 = 10 → s.2.2.1 ≤ 2) ∧ ∀ i, i < 16 → 0 ≤ s.1 i ∧ s.1 i ≤ 255
theorem plc_in {s : aS} (h : aIH s) (h9 : s.2.2.2.1 ≤ 9) : 0 ≤ plc s.2.2.2.1 s.2.2.1 ∧ plc s.2.2.2.1 s.2.2.1 < 16 := by
  obtain ⟨h1, h2, h3, h4, h5, h6⟩ := h
  unfold plc
  split <;> omega
theorem m_high_in (d : Int) : 5 ≤ m_high d ∧ m_high d ≤ 200 := by unfold m_high; (repeat' split) <;> omega
theorem m_low_in (d : Int) : 0 ≤ m_low d ∧ m_low d ≤ 1 := by unfold m_low; split <;> omega
theorem mBe_in (d c : Int) : mBe d c = -1 ∨ ((1 ≤ mBe d c ∧ mBe d c ≤ 10) ∧ mBe d c ≠ 7 ∧ (mBe d c = 8 → d = 7) ∧ (mBe d c = 9 → d = 8)) := by
  unfold mBe
  (repeat' split) <;> omega
theorem gH_I {c : Int} {s : aS} (h : aIH s) (hc : 0 ≤ c ∧ c ≤ 126) (ha : (gH c s).1 ≠ 0) : aIH (gH c s).2 := by
  obtain ⟨h1, h2, h3, h4, h5, h6⟩ := id h
  unfold gH at ha ⊢
  by_cases c11 : s.2.2.2.1 = 11
  · rw [if_pos c11] at ha ⊢
    exact ⟨by show (0 : Int) ≤ 0 ∧ (0 : Int) ≤ 11; decide, Or.inl rfl, h3, fun q => by have q' : (7 : Int) ≤ 0 := q; omega, fun q => by have q' : (0 : Int) = 10 := q; omega, h6⟩
  · rw [if_neg c11] at ha ⊢
    by_cases c10 : s.2.2.2.1 = 10
    · rw [if_pos c10] at ha ⊢
      refine ⟨by show (0 : Int) ≤ 7 ∧ (7 : Int) ≤ 11; decide, Or.inl rfl, ?_, fun _ _ => ?_, fun q => by have q' : (7 : Int) = 10 := q; omega, h6⟩
      · show 0 ≤ s.2.2.1 + 1 ∧ s.2.2.1 + 1 ≤ 3
        omega
      · show 1 ≤ s.2.2.1 + 1
        omega
    · rw [if_neg c10] at ha ⊢
      by_cases cd : 48 ≤ c ∧ c ≤ 57
      · rw [if_pos cd] at ha ⊢
        have hp := plc_in h (by omega)
        have hh := m_high_in s.2.2.2.1
        unfold gN at ha ⊢
        by_cases cb : s.2.2.2.2.1 = 0
        · rw [if_pos cb] at ha ⊢
          refine ⟨h1, Or.inr rfl, h3, h4, h5, fun i hi => ?_⟩
          show 0 ≤ fup s.1 (plc s.2.2.2.1 s.2.2.1).toNat (c - 48) i ∧ fup s.1 (plc s.2.2.2.1 s.2.2.1).toNat (c - 48) i ≤ 255
          unfold fup
          split
          · omega
          · exact h6 i hi
        · rw [if_neg cb] at ha ⊢
          have hv := h6 (plc s.2.2.2.1 s.2.2.1).toNat (by omega)
          dsimp only at ha
          have hle : 10 * s.1 (plc s.2.2.2.1 s.2.2.1).toNat + c - 48 ≤ m_high s.2.2.2.1 := by
            by_cases q : 0 < s.1 (plc s.2.2.2.1 s.2.2.1).toNat ∧ 10 * s.1 (plc s.2.2.2.1 s.2.2.1).toNat + c - 48 ≤ m_high s.2.2.2.1
            · exact q.2
            · rw [if_neg q] at ha; exact absurd rfl ha
          refine ⟨h1, h2, h3, h4, h5, fun i hi => ?_⟩
          show 0 ≤ fup s.1 (plc s.2.2.2.1 s.2.2.1).toNat _ i ∧ fup s.1 (plc s.2.2.2.1 s.2.2.1).toNat _ i ≤ 255
          unfold fup
          split
          · omega
          · exact h6 i hi
      · rw [if_neg cd] at ha ⊢
        dsimp only at ha
        have hq : gNx c s ≠ -1 ∧ (gNx c s ≠ 10 ∨ s.2.2.1 < 3) := by
          by_cases q : gNx c s ≠ -1 ∧ (gNx c s ≠ 10 ∨ s.2.2.1 < 3)
          · exact q
          · rw [if_neg q] at ha; exact absurd rfl ha
        have hb : gNx c s = mBe s.2.2.2.1 c := by
          unfold gNx at hq ⊢
          by_cases q : s.2.2.2.2.1 = 0
          · rw [if_pos q] at hq; omega
          · rw [if_neg q]
        have hi := mBe_in s.2.2.2.1 c
        rw [← hb] at hi
        refine ⟨?_, Or.inl rfl, h3, fun a b => ?_, fun a => ?_, h6⟩
        · show 0 ≤ gNx c s ∧ gNx c s ≤ 11
          omega
        · have a' : 7 ≤ gNx c s := a
          have b' : gNx c s ≤ 9 := b
          show 1 ≤ s.2.2.1
          omega
        · have a' : gNx c s = 10 := a
          show s.2.2.1 ≤ 2
          omega
def p_X10_behind : List wV → wW → Prop := fun av w => match av with
  | [.inl d, .inl c] => (0 ≤ d ∧ d ≤ 9) ∧ inI c
  | _ => False
def q_X10_behind : List wV → wW → Int → wW → Prop := fun av w r w' => match av with
  | [.inl d, .inl c] => r = mBe d c ∧ w' = w
  | _ => False
set_option maxRecDepth 100000 in
set_option maxHeartbeats 4000000 in
theorem c_X10_behind : w_Ct yX10_behind cX10_behind 2 1 0 0 p_X10_behind q_X10_behind := by
  refine w_met (own := RX10) (fl := w_fl10) (gs := w_gs10) (kl := w_kl10) (ki := w_ki10) (cs := []) (by decide +kernel) rfl ?_ w_flok10 w_gsok10 w_klok10 w_kiok10 ?_ ?_
  · intro av w h
    unfold p_X10_behind at h
    split at h
    · simp [w_pos, w_cat]
    · exact h.elim
  · exact fun _ h => absurd h List.not_mem_nil
  intro av w hp
  unfold p_X10_behind at hp
  split at hp
  case h_2 => exact hp.elim
  rename_i d c
  intro G hG
  simp only [w_ent, w_pos, w_cat, Nat.reduceEqDiff, ↓reduceIte, List.length_cons, List.length_nil, Nat.reduceAdd, Nat.reduceSub, List.cons_append, List.nil_append, List.replicate_succ, List.replicate_zero]
  (apply hG [] 2000; simp only [w_br_i, w_ite, w_all, w_all0, forall_eq, w_b0, w_b1, ↓reduceIte, w_ent, w_pos, List.replicate_succ, List.replicate_zero, wp_s, wk_s, w_lk_c, w_ld0, w_ldS, w_kp0, w_kp, w_s1, w_s2, w_to, w_if, w_call, w_sw, w_cat, w_cats, w_psh, w_fv, List.contains_cons, List.contains_nil, List.set_cons_zero, List.set_cons_succ, List.length_cons, List.length_nil, List.find?_cons, List.find?_nil, List.take_succ_cons, List.take_zero, List.drop_succ_cons, List.drop_zero, List.reverse_cons, List.reverse_nil, List.nil_append, List.cons_append, Option.map_some, Option.map_none, Nat.reduceAdd, Nat.reduceBEq, Nat.reduceEqDiff, Nat.reduceLT, Nat.reduceLeDiff, Nat.reduceSub, Int.reduceAdd, Int.reduceSub, Int.reduceMul, Int.reduceNeg, Int.reduceToNat, Int.reduceLT, Int.reduceLE, Int.reduceEq, Bool.false_eq_true, Bool.or_false, Bool.false_or, Bool.true_or, Bool.or_true, if_true, if_false, ite_true, ite_false, true_and, and_true, false_and, and_false, true_or, or_true, false_or, or_false, Int.cast_ofNat_Int, Int.toNat_natCast, Int.natCast_add, List.getElem?_cons_zero, List.getElem?_cons_succ, true_implies, forall_const, not_true_eq_false, not_false_eq_true, ne_eq, beq_iff_eq, imp_self, List.length_set, Nat.zero_add, Nat.add_zero, Int.zero_add, Int.add_zero, w1_iload_n_0, w1_tableswitch, w1_iload_n_1, w1_bipush, w1_if_icmp, w1_iconst, w1_goto, w1_ireturn, dX10_behind_0, dX10_behind_1, dX10_behind_52, dX10_behind_53, dX10_behind_55, dX10_behind_58, dX10_behind_59, dX10_behind_62, dX10_behind_63, dX10_behind_64, dX10_behind_65, dX10_behind_67, dX10_behind_70, dX10_behind_71, dX10_behind_74, dX10_behind_75, dX10_behind_76, dX10_behind_77, dX10_behind_79, dX10_behind_82, dX10_behind_83, dX10_behind_86, dX10_behind_87, dX10_behind_88, dX10_behind_89, dX10_behind_91, dX10_behind_94, dX10_behind_95, dX10_behind_98, dX10_behind_99, dX10_behind_101, dX10_behind_104, dX10_behind_105, dX10_behind_108, dX10_behind_109, dX10_behind_111, dX10_behind_114, dX10_behind_116, dX10_behind_119, dX10_behind_120, dX10_behind_121, dX10_behind_122, dX10_behind_124, dX10_behind_127, dX10_behind_128, dX10_behind_131, dX10_behind_132, dX10_behind_134, dX10_behind_137, dX10_behind_139, dX10_behind_142, dX10_behind_143, dX10_behind_144, dX10_behind_145, dX10_behind_147, dX10_behind_150, dX10_behind_152, dX10_behind_155, dX10_behind_156, dX10_behind_157, dX10_behind_158, dX10_behind_160, dX10_behind_163, dX10_behind_165, dX10_behind_168, dX10_behind_169, dX10_behind_170, dX10_behind_171, dX10_behind_173, dX10_behind_176, dX10_behind_178, dX10_behind_181, dX10_behind_182, dX10_behind_183, dX10_behind_184, dX10_behind_186, dX10_behind_189, dX10_behind_191, dX10_behind_194, dX10_behind_195, dX10_behind_196, dX10_behind_197, dX10_behind_199, dX10_behind_202, dX10_behind_204, dX10_behind_207, dX10_behind_208])
  (repeat' (with_reducible (first | refine And.intro ?_ ?_ | intro _))) <;> (try (first | (with_reducible assumption) | (simp only [inI, inL]; omega) | omega))
  all_goals (simp only [q_X10_behind, mBe]; ((repeat' (first | refine And.intro ?_ ?_ | split)) <;> (first | rfl | trivial | assumption | contradiction | omega | (exfalso; omega))))
def p_X10_goNumber : List wV → wW → Prop := fun av w => match av with
  | [.inr (.inr (some this)), .inl c] => this = 135 ∧ (48 ≤ c ∧ c ≤ 57) ∧ ∃ w0 s, w = aW w0 s ∧ aIH s ∧ s.2.2.2.1 ≤ 9
  | _ => False
theorem h_X10_goNumber : ∀ av w, p_X10_goNumber av w → ∃ a r, av = vr a :: r ∧ w_kd a = 100 + 10 := by
  intro av w h
  unfold p_X10_goNumber at h
  split at h
  · refine ⟨_, _, rfl, ?_⟩
    first | (rw [h.1]; rfl) | (rw [h]; rfl)
  · exact h.elim
def q_X10_goNumber : List wV → wW → Int → wW → Prop := fun av w r w' => match av with
  | [.inr (.inr (some this)), .inl c] => ∀ w0 s, w = aW w0 s → r = (gN c s).1 ∧ w' = aW w0 (gN c s).2
  | _ => False
theorem aW_inj {w w0 : wW} {s s' : aS} (h : aW w s = aW w0 s') : s = s' := by
  have h137 : s.1 = s'.1 := congrFun h 137
  have h138 : s.2.1 = s'.2.1 := congrFun h 138
  have h4 : s.2.2.1 = s'.2.2.1 := congrFun (congrFun h 135) 4
  have h5 : s.2.2.2.1 = s'.2.2.2.1 := congrFun (congrFun h 135) 5
  have h6 : s.2.2.2.2.1 = s'.2.2.2.2.1 := congrFun (congrFun h 135) 6
  have h7 : s.2.2.2.2.2 = s'.2.2.2.2.2 := congrFun (congrFun h 135) 7
  exact Prod.ext h137 (Prod.ext h138 (Prod.ext h4 (Prod.ext h5 (Prod.ext h6 h7))))
theorem aW_eq {w w0 : wW} {s s' s2 : aS} (h : aW w s = aW w0 s') : aW w s2 = aW w0 s2 := by rw [← aW_aW w s s2, h, aW_aW]
set_option maxRecDepth 100000 in
set_option maxHeartbeats 4000000 in
theorem c_X10_goNumber : w_Ct yX10_goNumber cX10_goNumber 4 3 1 21 p_X10_goNumber q_X10_goNumber := by
  refine w_met (own := RX10) (fl := w_fl10) (gs := w_gs10) (kl := w_kl10) (ki := w_ki10) (cs := [(89, (0, 2, 1, p_X10_placeOf, q_X10_placeOf)), (97, (1, 1, 1, p_X10_lowest, q_X10_lowest)), (100, (1, 1, 1, p_X10_highest, q_X10_highest))]) (by decide +kernel) rfl ?_ w_flok10 w_gsok10 w_klok10 w_kiok10 ?_ ?_
  · intro av w h
    unfold p_X10_goNumber at h
    split at h
    · simp [w_pos, w_cat]
    · exact h.elim
  · exact List.forall_mem_cons.mpr ⟨⟨_, _, w_callV (own := RX10) (idx := 89) (ci := 10) c_X10_placeOf rfl rfl h_X10_placeOf (w_m5 31 (by decide +kernel) (by decide +kernel)) (w_m5 33 (by decide +kernel) (by decide +kernel)) (w_m0 33 (by decide +kernel) (by decide +kernel)) (w_m1 12 (by decide +kernel) (by decide +kernel)) (w_m5 34 (by decide +kernel) (by decide +kernel)) ⟨by decide +kernel, by decide +kernel, by decide +kernel⟩, by decide, by decide⟩, List.forall_mem_cons.mpr ⟨⟨_, _, w_callS (own := RX10) (idx := 97) c_X10_lowest (w_m5 35 (by decide +kernel) (by decide +kernel)) (w_m5 36 (by decide +kernel) (by decide +kernel)) (w_m1 12 (by decide +kernel) (by decide +kernel)) (w_m5 37 (by decide +kernel) (by decide +kernel)) ⟨by decide +kernel, by decide +kernel, by decide +kernel⟩, by decide, by decide⟩, List.forall_mem_cons.mpr ⟨⟨_, _, w_callS (own := RX10) (idx := 100) c_X10_highest (w_m5 38 (by decide +kernel) (by decide +kernel)) (w_m5 39 (by decide +kernel) (by decide +kernel)) (w_m1 12 (by decide +kernel) (by decide +kernel)) (w_m5 40 (by decide +kernel) (by decide +kernel)) ⟨by decide +kernel, by decide +kernel, by decide +kernel⟩, by decide, by decide⟩, fun _ h => absurd h List.not_mem_nil⟩⟩⟩
  intro av w hp
  unfold p_X10_goNumber at hp
  split at hp
  case h_2 => exact hp.elim
  rename_i this c
  intro G hG
  simp only [w_ent, w_pos, w_cat, Nat.reduceEqDiff, ↓reduceIte, List.length_cons, List.length_nil, Nat.reduceAdd, Nat.reduceSub, List.cons_append, List.nil_append, List.replicate_succ, List.replicate_zero]
  obtain ⟨rfl, hc, w, s, rfl, hI, h9⟩ := hp
  have fin : ∀ r w', (r = (gN c s).1 ∧ w' = aW w (gN c s).2) → q_X10_goNumber [vr 135, vi c] (aW w s) r w' := by
    rintro r w' ⟨rfl, rfl⟩ w0 s' he
    rw [← aW_inj he]
    exact ⟨rfl, aW_eq he⟩
  obtain ⟨h1, h2, h3, h4, h5, h6⟩ := id hI
  have hp := plc_in hI h9
  have hv := h6 (plc s.2.2.2.1 s.2.2.1).toNat (by omega)
  have hh := m_high_in s.2.2.2.1
  have hl := m_low_in s.2.2.2.1
  have hpe : (if s.2.2.2.1 < 7 then s.2.2.2.1 else 7 + 3 * (s.2.2.1 - 1) + s.2.2.2.1 - 7) = plc s.2.2.2.1 s.2.2.1 := rfl
  unfold gN at fin
  generalize plc s.2.2.2.1 s.2.2.1 = pl at *
  (apply hG [] 2000; simp only [w_br_i, w_ite, w_all, w_all0, forall_eq, w_b0, w_b1, ↓reduceIte, w_ent, w_pos, List.replicate_succ, List.replicate_zero, wp_s, wk_s, w_lk_c, w_ld0, w_ldS, w_kp0, w_kp, w_s1, w_s2, w_to, w_if, w_call, w_sw, w_cat, w_cats, w_psh, w_fv, List.contains_cons, List.contains_nil, List.set_cons_zero, List.set_cons_succ, List.length_cons, List.length_nil, List.find?_cons, List.find?_nil, List.take_succ_cons, List.take_zero, List.drop_succ_cons, List.drop_zero, List.reverse_cons, List.reverse_nil, List.nil_append, List.cons_append, Option.map_some, Option.map_none, Nat.reduceAdd, Nat.reduceBEq, Nat.reduceEqDiff, Nat.reduceLT, Nat.reduceLeDiff, Nat.reduceSub, Int.reduceAdd, Int.reduceSub, Int.reduceMul, Int.reduceNeg, Int.reduceToNat, Int.reduceLT, Int.reduceLE, Int.reduceEq, Bool.false_eq_true, Bool.or_false, Bool.false_or, Bool.true_or, Bool.or_true, if_true, if_false, ite_true, ite_false, true_and, and_true, false_and, and_false, true_or, or_true, false_or, or_false, Int.cast_ofNat_Int, Int.toNat_natCast, Int.natCast_add, List.getElem?_cons_zero, List.getElem?_cons_succ, true_implies, forall_const, not_true_eq_false, not_false_eq_true, ne_eq, beq_iff_eq, imp_self, List.length_set, Nat.zero_add, Nat.add_zero, Int.zero_add, Int.add_zero, w1_aload_n_0, w1_getfield, w1_invokevirtual, w1_istore_n_2, w1_ifCond, w1_iload_n_2, w1_iload_n_1, w1_bipush, w1_isub, w1_iastore, w1_iconst, w1_putfield, w1_putfield2, w1_iaload, w1_invokestatic, w1_if_icmp, w1_goto, w1_ireturn, w1_istore_n_3, w1_imul, w1_iadd, w1_iload_n_3, dX10_goNumber_0, dX10_goNumber_1, dX10_goNumber_2, dX10_goNumber_5, dX10_goNumber_8, dX10_goNumber_9, dX10_goNumber_10, dX10_goNumber_13, dX10_goNumber_16, dX10_goNumber_17, dX10_goNumber_20, dX10_goNumber_21, dX10_goNumber_22, dX10_goNumber_24, dX10_goNumber_25, dX10_goNumber_26, dX10_goNumber_27, dX10_goNumber_28, dX10_goNumber_31, dX10_goNumber_32, dX10_goNumber_35, dX10_goNumber_36, dX10_goNumber_37, dX10_goNumber_38, dX10_goNumber_41, dX10_goNumber_44, dX10_goNumber_47, dX10_goNumber_48, dX10_goNumber_51, dX10_goNumber_52, dX10_goNumber_53, dX10_goNumber_54, dX10_goNumber_57, dX10_goNumber_60, dX10_goNumber_63, dX10_goNumber_64, dX10_goNumber_67, dX10_goNumber_68, dX10_goNumber_69, dX10_goNumber_70, dX10_goNumber_73, dX10_goNumber_74, dX10_goNumber_75, dX10_goNumber_78, dX10_goNumber_79, dX10_goNumber_82, dX10_goNumber_83, dX10_goNumber_84, dX10_goNumber_85, dX10_goNumber_88, dX10_goNumber_89, dX10_goNumber_91, dX10_goNumber_92, dX10_goNumber_95, dX10_goNumber_96, dX10_goNumber_97, dX10_goNumber_98, dX10_goNumber_99, dX10_goNumber_100, dX10_goNumber_102, dX10_goNumber_103, dX10_goNumber_104, dX10_goNumber_105, dX10_goNumber_108, dX10_goNumber_109, dX10_goNumber_112, dX10_goNumber_113, dX10_goNumber_114, dX10_goNumber_115, dX10_goNumber_118, dX10_goNumber_121, dX10_goNumber_124, dX10_goNumber_125, dX10_goNumber_128, dX10_goNumber_129, w_flk10_13, w_flk10_86, w_flk10_93, w_kd_135, w_rf_135_0, w_rf_135_2, w_rf_135_3, w_rf_135_8, w_rf_135_12, w_rf_135_14, w_rf_135_15, w_rf_135_16, w_rf_135_24, w_rf_135_25, w_rf_135_26, w_rf_135_27, w_rf_135_28, w_rf_135_29, w_rf_135_30, w_rf_135_33, w_rf_135_34, w_rf_135_39, w_rf_135_40, w_rf_135_41, w_rf_135_42, w_kd_137, w_ln_137, aW_137, aW_4, aW_5, aW_6, aW_uf, aW_u6, p_X10_placeOf, q_X10_placeOf, hpe, p_X10_lowest, q_X10_lowest, p_X10_highest, q_X10_highest, fup_eq])
  by_cases cb : s.2.2.2.2.1 = 0
  · rw [if_pos cb] at fin
    dsimp only at fin
    by_cases q : m_low s.2.2.2.1 ≤ c - 48 ∧ c - 48 ≤ m_high s.2.2.2.1
    · rw [if_pos q] at fin
      (repeat' (with_reducible (first | refine And.intro ?_ ?_ | intro _))) <;> (try (first | (with_reducible assumption) | (simp only [inI, inL]; omega) | omega))
      all_goals first
        | (exfalso; omega)
        | exact fin _ _ ⟨rfl, rfl⟩
    · rw [if_neg q] at fin
      (repeat' (with_reducible (first | refine And.intro ?_ ?_ | intro _))) <;> (try (first | (with_reducible assumption) | (simp only [inI, inL]; omega) | omega))
      all_goals first
        | (exfalso; omega)
        | exact fin _ _ ⟨rfl, rfl⟩
  · rw [if_neg cb] at fin
    dsimp only at fin
    by_cases q : 0 < s.1 pl.toNat ∧ 10 * s.1 pl.toNat + c - 48 ≤ m_high s.2.2.2.1
    · rw [if_pos q] at fin
      (repeat' (with_reducible (first | refine And.intro ?_ ?_ | intro _))) <;> (try (first | (with_reducible assumption) | (simp only [inI, inL]; omega) | omega))
      all_goals first
        | (exfalso; omega)
        | exact fin _ _ ⟨rfl, rfl⟩
    · rw [if_neg q] at fin
      (repeat' (with_reducible (first | refine And.intro ?_ ?_ | intro _))) <;> (try (first | (with_reducible assumption) | (simp only [inI, inL]; omega) | omega))
      all_goals first
        | (exfalso; omega)
        | exact fin _ _ ⟨rfl, rfl⟩
def p_X10_goHouse : List wV → wW → Prop := fun av w => match av with
  | [.inr (.inr (some this)), .inl c] => this = 135 ∧ (0 ≤ c ∧ c ≤ 126) ∧ ∃ w0 s, w = aW w0 s ∧ aIH s
  | _ => False
theorem h_X10_goHouse : ∀ av w, p_X10_goHouse av w → ∃ a r, av = vr a :: r ∧ w_kd a = 100 + 10 := by
  intro av w h
  unfold p_X10_goHouse at h
  split at h
  · refine ⟨_, _, rfl, ?_⟩
    first | (rw [h.1]; rfl) | (rw [h]; rfl)
  · exact h.elim
def q_X10_goHouse : List wV → wW → Int → wW → Prop := fun av w r w' => match av with
  | [.inr (.inr (some this)), .inl c] => ∀ w0 s, w = aW w0 s → r = (gH c s).1 ∧ w' = aW w0 (gH c s).2
  | _ => False
set_option maxRecDepth 100000 in
set_option maxHeartbeats 4000000 in
theorem c_X10_goHouse : w_Ct yX10_goHouse cX10_goHouse 3 3 2 44 p_X10_goHouse q_X10_goHouse := by
  refine w_met (own := RX10) (fl := w_fl10) (gs := w_gs10) (kl := w_kl10) (ki := w_ki10) (cs := [(107, (1, 3, 3, p_X10_in, q_X10_in)), (111, (0, 2, 3, p_X10_goNumber, q_X10_goNumber)), (115, (1, 2, 1, p_X10_behind, q_X10_behind))]) (by decide +kernel) rfl ?_ w_flok10 w_gsok10 w_klok10 w_kiok10 ?_ ?_
  · intro av w h
    unfold p_X10_goHouse at h
    split at h
    · simp [w_pos, w_cat]
    · exact h.elim
  · exact List.forall_mem_cons.mpr ⟨⟨_, _, w_callS (own := RX10) (idx := 107) c_X10_in (w_m5 14 (by decide +kernel) (by decide +kernel)) (w_m5 15 (by decide +kernel) (by decide +kernel)) (w_m1 12 (by decide +kernel) (by decide +kernel)) (w_m5 16 (by decide +kernel) (by decide +kernel)) ⟨by decide +kernel, by decide +kernel, by decide +kernel⟩, by decide, by decide⟩, List.forall_mem_cons.mpr ⟨⟨_, _, w_callV (own := RX10) (idx := 111) (ci := 10) c_X10_goNumber rfl rfl h_X10_goNumber (w_m5 27 (by decide +kernel) (by decide +kernel)) (w_m5 29 (by decide +kernel) (by decide +kernel)) (w_m0 32 (by decide +kernel) (by decide +kernel)) (w_m1 12 (by decide +kernel) (by decide +kernel)) (w_m5 30 (by decide +kernel) (by decide +kernel)) ⟨by decide +kernel, by decide +kernel, by decide +kernel⟩, by decide, by decide⟩, List.forall_mem_cons.mpr ⟨⟨_, _, w_callS (own := RX10) (idx := 115) c_X10_behind (w_m5 41 (by decide +kernel) (by decide +kernel)) (w_m5 42 (by decide +kernel) (by decide +kernel)) (w_m1 12 (by decide +kernel) (by decide +kernel)) (w_m5 43 (by decide +kernel) (by decide +kernel)) ⟨by decide +kernel, by decide +kernel, by decide +kernel⟩, by decide, by decide⟩, fun _ h => absurd h List.not_mem_nil⟩⟩⟩
  intro av w hp
  unfold p_X10_goHouse at hp
  split at hp
  case h_2 => exact hp.elim
  rename_i this c
  intro G hG
  simp only [w_ent, w_pos, w_cat, Nat.reduceEqDiff, ↓reduceIte, List.length_cons, List.length_nil, Nat.reduceAdd, Nat.reduceSub, List.cons_append, List.nil_append, List.replicate_succ, List.replicate_zero]
  obtain ⟨rfl, hc, w, s, rfl, hI⟩ := hp
  have fin : ∀ r w', (r = (gH c s).1 ∧ w' = aW w (gH c s).2) → q_X10_goHouse [vr 135, vi c] (aW w s) r w' := by
    rintro r w' ⟨rfl, rfl⟩ w0 s' he
    rw [← aW_inj he]
    exact ⟨rfl, aW_eq he⟩
  obtain ⟨h1, h2, h3, h4, h5, h6⟩ := id hI
  unfold gH at fin
  by_cases c11 : s.2.2.2.1 = 11
  · rw [if_pos c11] at fin
    dsimp only at fin
    by_cases q : c = 97
    · rw [if_pos q] at fin
      (apply hG [] 2000; simp only [w_br_i, w_ite, w_all, w_all0, forall_eq, w_b0, w_b1, ↓reduceIte, w_ent, w_pos, List.replicate_succ, List.replicate_zero, wp_s, wk_s, w_lk_c, w_ld0, w_ldS, w_kp0, w_kp, w_s1, w_s2, w_to, w_if, w_call, w_sw, w_cat, w_cats, w_psh, w_fv, List.contains_cons, List.contains_nil, List.set_cons_zero, List.set_cons_succ, List.length_cons, List.length_nil, List.find?_cons, List.find?_nil, List.take_succ_cons, List.take_zero, List.drop_succ_cons, List.drop_zero, List.reverse_cons, List.reverse_nil, List.nil_append, List.cons_append, Option.map_some, Option.map_none, Nat.reduceAdd, Nat.reduceBEq, Nat.reduceEqDiff, Nat.reduceLT, Nat.reduceLeDiff, Nat.reduceSub, Int.reduceAdd, Int.reduceSub, Int.reduceMul, Int.reduceNeg, Int.reduceToNat, Int.reduceLT, Int.reduceLE, Int.reduceEq, Bool.false_eq_true, Bool.or_false, Bool.false_or, Bool.true_or, Bool.or_true, if_true, if_false, ite_true, ite_false, true_and, and_true, false_and, and_false, true_or, or_true, false_or, or_false, Int.cast_ofNat_Int, Int.toNat_natCast, Int.natCast_add, List.getElem?_cons_zero, List.getElem?_cons_succ, true_implies, forall_const, not_true_eq_false, not_false_eq_true, ne_eq, beq_iff_eq, imp_self, List.length_set, Nat.zero_add, Nat.add_zero, Int.zero_add, Int.add_zero, w1_aload_n_0, w1_getfield, w1_bipush, w1_if_icmp, w1_iconst, w1_putfield, w1_putfield2, w1_iload_n_1, w1_goto, w1_ireturn, w1_dup, w1_dup2, w1_iadd, w1_i2l, w1_ldc2_w, w1_invokestatic, w1_ifCond, w1_invokevirtual, w1_istore_n_2, w1_iload_n_2, dX10_goHouse_0, dX10_goHouse_1, dX10_goHouse_4, dX10_goHouse_6, dX10_goHouse_9, dX10_goHouse_10, dX10_goHouse_11, dX10_goHouse_14, dX10_goHouse_15, dX10_goHouse_16, dX10_goHouse_19, dX10_goHouse_20, dX10_goHouse_22, dX10_goHouse_25, dX10_goHouse_26, dX10_goHouse_29, dX10_goHouse_30, dX10_goHouse_31, dX10_goHouse_32, dX10_goHouse_35, dX10_goHouse_37, dX10_goHouse_40, dX10_goHouse_41, dX10_goHouse_43, dX10_goHouse_46, dX10_goHouse_47, dX10_goHouse_48, dX10_goHouse_51, dX10_goHouse_52, dX10_goHouse_53, dX10_goHouse_56, dX10_goHouse_57, dX10_goHouse_58, dX10_goHouse_61, dX10_goHouse_62, dX10_goHouse_64, dX10_goHouse_67, dX10_goHouse_68, dX10_goHouse_71, dX10_goHouse_72, dX10_goHouse_73, dX10_goHouse_74, dX10_goHouse_75, dX10_goHouse_78, dX10_goHouse_81, dX10_goHouse_84, dX10_goHouse_87, dX10_goHouse_88, dX10_goHouse_89, dX10_goHouse_92, dX10_goHouse_93, dX10_goHouse_94, dX10_goHouse_97, dX10_goHouse_100, dX10_goHouse_101, dX10_goHouse_104, dX10_goHouse_105, dX10_goHouse_108, dX10_goHouse_111, dX10_goHouse_112, dX10_goHouse_113, dX10_goHouse_114, dX10_goHouse_115, dX10_goHouse_118, dX10_goHouse_119, dX10_goHouse_120, dX10_goHouse_123, dX10_goHouse_124, dX10_goHouse_125, dX10_goHouse_128, dX10_goHouse_129, dX10_goHouse_131, dX10_goHouse_134, dX10_goHouse_135, dX10_goHouse_138, dX10_goHouse_139, dX10_goHouse_142, dX10_goHouse_143, dX10_goHouse_146, dX10_goHouse_147, w_flk10_83, w_flk10_86, w_flk10_93, w_klk10_103, w_klk10_105, w_kd_135, w_rf_135_0, w_rf_135_2, w_rf_135_3, w_rf_135_8, w_rf_135_12, w_rf_135_14, w_rf_135_15, w_rf_135_16, w_rf_135_24, w_rf_135_25, w_rf_135_26, w_rf_135_27, w_rf_135_28, w_rf_135_29, w_rf_135_30, w_rf_135_33, w_rf_135_34, w_rf_135_39, w_rf_135_40, w_rf_135_41, w_rf_135_42, aW_5, aW_u5, aW_u6, c11])
      (repeat' (with_reducible (first | refine And.intro ?_ ?_ | intro _))) <;> (try (first | (with_reducible assumption) | (simp only [inI, inL]; omega) | omega))
      all_goals first
        | (exfalso; omega)
        | exact fin _ _ ⟨rfl, rfl⟩
    · rw [if_neg q] at fin
      (apply hG [] 2000; simp only [w_br_i, w_ite, w_all, w_all0, forall_eq, w_b0, w_b1, ↓reduceIte, w_ent, w_pos, List.replicate_succ, List.replicate_zero, wp_s, wk_s, w_lk_c, w_ld0, w_ldS, w_kp0, w_kp, w_s1, w_s2, w_to, w_if, w_call, w_sw, w_cat, w_cats, w_psh, w_fv, List.contains_cons, List.contains_nil, List.set_cons_zero, List.set_cons_succ, List.length_cons, List.length_nil, List.find?_cons, List.find?_nil, List.take_succ_cons, List.take_zero, List.drop_succ_cons, List.drop_zero, List.reverse_cons, List.reverse_nil, List.nil_append, List.cons_append, Option.map_some, Option.map_none, Nat.reduceAdd, Nat.reduceBEq, Nat.reduceEqDiff, Nat.reduceLT, Nat.reduceLeDiff, Nat.reduceSub, Int.reduceAdd, Int.reduceSub, Int.reduceMul, Int.reduceNeg, Int.reduceToNat, Int.reduceLT, Int.reduceLE, Int.reduceEq, Bool.false_eq_true, Bool.or_false, Bool.false_or, Bool.true_or, Bool.or_true, if_true, if_false, ite_true, ite_false, true_and, and_true, false_and, and_false, true_or, or_true, false_or, or_false, Int.cast_ofNat_Int, Int.toNat_natCast, Int.natCast_add, List.getElem?_cons_zero, List.getElem?_cons_succ, true_implies, forall_const, not_true_eq_false, not_false_eq_true, ne_eq, beq_iff_eq, imp_self, List.length_set, Nat.zero_add, Nat.add_zero, Int.zero_add, Int.add_zero, w1_aload_n_0, w1_getfield, w1_bipush, w1_if_icmp, w1_iconst, w1_putfield, w1_putfield2, w1_iload_n_1, w1_goto, w1_ireturn, w1_dup, w1_dup2, w1_iadd, w1_i2l, w1_ldc2_w, w1_invokestatic, w1_ifCond, w1_invokevirtual, w1_istore_n_2, w1_iload_n_2, dX10_goHouse_0, dX10_goHouse_1, dX10_goHouse_4, dX10_goHouse_6, dX10_goHouse_9, dX10_goHouse_10, dX10_goHouse_11, dX10_goHouse_14, dX10_goHouse_15, dX10_goHouse_16, dX10_goHouse_19, dX10_goHouse_20, dX10_goHouse_22, dX10_goHouse_25, dX10_goHouse_26, dX10_goHouse_29, dX10_goHouse_30, dX10_goHouse_31, dX10_goHouse_32, dX10_goHouse_35, dX10_goHouse_37, dX10_goHouse_40, dX10_goHouse_41, dX10_goHouse_43, dX10_goHouse_46, dX10_goHouse_47, dX10_goHouse_48, dX10_goHouse_51, dX10_goHouse_52, dX10_goHouse_53, dX10_goHouse_56, dX10_goHouse_57, dX10_goHouse_58, dX10_goHouse_61, dX10_goHouse_62, dX10_goHouse_64, dX10_goHouse_67, dX10_goHouse_68, dX10_goHouse_71, dX10_goHouse_72, dX10_goHouse_73, dX10_goHouse_74, dX10_goHouse_75, dX10_goHouse_78, dX10_goHouse_81, dX10_goHouse_84, dX10_goHouse_87, dX10_goHouse_88, dX10_goHouse_89, dX10_goHouse_92, dX10_goHouse_93, dX10_goHouse_94, dX10_goHouse_97, dX10_goHouse_100, dX10_goHouse_101, dX10_goHouse_104, dX10_goHouse_105, dX10_goHouse_108, dX10_goHouse_111, dX10_goHouse_112, dX10_goHouse_113, dX10_goHouse_114, dX10_goHouse_115, dX10_goHouse_118, dX10_goHouse_119, dX10_goHouse_120, dX10_goHouse_123, dX10_goHouse_124, dX10_goHouse_125, dX10_goHouse_128, dX10_goHouse_129, dX10_goHouse_131, dX10_goHouse_134, dX10_goHouse_135, dX10_goHouse_138, dX10_goHouse_139, dX10_goHouse_142, dX10_goHouse_143, dX10_goHouse_146, dX10_goHouse_147, w_flk10_83, w_flk10_86, w_flk10_93, w_klk10_103, w_klk10_105, w_kd_135, w_rf_135_0, w_rf_135_2, w_rf_135_3, w_rf_135_8, w_rf_135_12, w_rf_135_14, w_rf_135_15, w_rf_135_16, w_rf_135_24, w_rf_135_25, w_rf_135_26, w_rf_135_27, w_rf_135_28, w_rf_135_29, w_rf_135_30, w_rf_135_33, w_rf_135_34, w_rf_135_39, w_rf_135_40, w_rf_135_41, w_rf_135_42, aW_5, aW_u5, aW_u6, c11])
      (repeat' (with_reducible (first | refine And.intro ?_ ?_ | intro _))) <;> (try (first | (with_reducible assumption) | (simp only [inI, inL]; omega) | omega))
      all_goals first
        | (exfalso; omega)
        | exact fin _ _ ⟨rfl, rfl⟩
  · rw [if_neg c11] at fin
    by_cases c10 : s.2.2.2.1 = 10
    · rw [if_pos c10] at fin
      dsimp only at fin
      by_cases q : c = 117
      · rw [if_pos q] at fin
        (apply hG [] 2000; simp only [w_br_i, w_ite, w_all, w_all0, forall_eq, w_b0, w_b1, ↓reduceIte, w_ent, w_pos, List.replicate_succ, List.replicate_zero, wp_s, wk_s, w_lk_c, w_ld0, w_ldS, w_kp0, w_kp, w_s1, w_s2, w_to, w_if, w_call, w_sw, w_cat, w_cats, w_psh, w_fv, List.contains_cons, List.contains_nil, List.set_cons_zero, List.set_cons_succ, List.length_cons, List.length_nil, List.find?_cons, List.find?_nil, List.take_succ_cons, List.take_zero, List.drop_succ_cons, List.drop_zero, List.reverse_cons, List.reverse_nil, List.nil_append, List.cons_append, Option.map_some, Option.map_none, Nat.reduceAdd, Nat.reduceBEq, Nat.reduceEqDiff, Nat.reduceLT, Nat.reduceLeDiff, Nat.reduceSub, Int.reduceAdd, Int.reduceSub, Int.reduceMul, Int.reduceNeg, Int.reduceToNat, Int.reduceLT, Int.reduceLE, Int.reduceEq, Bool.false_eq_true, Bool.or_false, Bool.false_or, Bool.true_or, Bool.or_true, if_true, if_false, ite_true, ite_false, true_and, and_true, false_and, and_false, true_or, or_true, false_or, or_false, Int.cast_ofNat_Int, Int.toNat_natCast, Int.natCast_add, List.getElem?_cons_zero, List.getElem?_cons_succ, true_implies, forall_const, not_true_eq_false, not_false_eq_true, ne_eq, beq_iff_eq, imp_self, List.length_set, Nat.zero_add, Nat.add_zero, Int.zero_add, Int.add_zero, w1_aload_n_0, w1_getfield, w1_bipush, w1_if_icmp, w1_iconst, w1_putfield, w1_putfield2, w1_iload_n_1, w1_goto, w1_ireturn, w1_dup, w1_dup2, w1_iadd, w1_i2l, w1_ldc2_w, w1_invokestatic, w1_ifCond, w1_invokevirtual, w1_istore_n_2, w1_iload_n_2, dX10_goHouse_0, dX10_goHouse_1, dX10_goHouse_4, dX10_goHouse_6, dX10_goHouse_9, dX10_goHouse_10, dX10_goHouse_11, dX10_goHouse_14, dX10_goHouse_15, dX10_goHouse_16, dX10_goHouse_19, dX10_goHouse_20, dX10_goHouse_22, dX10_goHouse_25, dX10_goHouse_26, dX10_goHouse_29, dX10_goHouse_30, dX10_goHouse_31, dX10_goHouse_32, dX10_goHouse_35, dX10_goHouse_37, dX10_goHouse_40, dX10_goHouse_41, dX10_goHouse_43, dX10_goHouse_46, dX10_goHouse_47, dX10_goHouse_48, dX10_goHouse_51, dX10_goHouse_52, dX10_goHouse_53, dX10_goHouse_56, dX10_goHouse_57, dX10_goHouse_58, dX10_goHouse_61, dX10_goHouse_62, dX10_goHouse_64, dX10_goHouse_67, dX10_goHouse_68, dX10_goHouse_71, dX10_goHouse_72, dX10_goHouse_73, dX10_goHouse_74, dX10_goHouse_75, dX10_goHouse_78, dX10_goHouse_81, dX10_goHouse_84, dX10_goHouse_87, dX10_goHouse_88, dX10_goHouse_89, dX10_goHouse_92, dX10_goHouse_93, dX10_goHouse_94, dX10_goHouse_97, dX10_goHouse_100, dX10_goHouse_101, dX10_goHouse_104, dX10_goHouse_105, dX10_goHouse_108, dX10_goHouse_111, dX10_goHouse_112, dX10_goHouse_113, dX10_goHouse_114, dX10_goHouse_115, dX10_goHouse_118, dX10_goHouse_119, dX10_goHouse_120, dX10_goHouse_123, dX10_goHouse_124, dX10_goHouse_125, dX10_goHouse_128, dX10_goHouse_129, dX10_goHouse_131, dX10_goHouse_134, dX10_goHouse_135, dX10_goHouse_138, dX10_goHouse_139, dX10_goHouse_142, dX10_goHouse_143, dX10_goHouse_146, dX10_goHouse_147, w_flk10_83, w_flk10_86, w_flk10_93, w_klk10_103, w_klk10_105, w_kd_135, w_rf_135_0, w_rf_135_2, w_rf_135_3, w_rf_135_8, w_rf_135_12, w_rf_135_14, w_rf_135_15, w_rf_135_16, w_rf_135_24, w_rf_135_25, w_rf_135_26, w_rf_135_27, w_rf_135_28, w_rf_135_29, w_rf_135_30, w_rf_135_33, w_rf_135_34, w_rf_135_39, w_rf_135_40, w_rf_135_41, w_rf_135_42, aW_5, aW_4, aW_u4, aW_u5, aW_u6, c10])
        (repeat' (with_reducible (first | refine And.intro ?_ ?_ | intro _))) <;> (try (first | (with_reducible assumption) | (simp only [inI, inL]; omega) | omega))
        all_goals first
          | (exfalso; omega)
          | exact fin _ _ ⟨rfl, rfl⟩
      · rw [if_neg q] at fin
        (apply hG [] 2000; simp only [w_br_i, w_ite, w_all, w_all0, forall_eq, w_b0, w_b1, ↓reduceIte, w_ent, w_pos, List.replicate_succ, List.replicate_zero, wp_s, wk_s, w_lk_c, w_ld0, w_ldS, w_kp0, w_kp, w_s1, w_s2, w_to, w_if, w_call, w_sw, w_cat, w_cats, w_psh, w_fv, List.contains_cons, List.contains_nil, List.set_cons_zero, List.set_cons_succ, List.length_cons, List.length_nil, List.find?_cons, List.find?_nil, List.take_succ_cons, List.take_zero, List.drop_succ_cons, List.drop_zero, List.reverse_cons, List.reverse_nil, List.nil_append, List.cons_append, Option.map_some, Option.map_none, Nat.reduceAdd, Nat.reduceBEq, Nat.reduceEqDiff, Nat.reduceLT, Nat.reduceLeDiff, Nat.reduceSub, Int.reduceAdd, Int.reduceSub, Int.reduceMul, Int.reduceNeg, Int.reduceToNat, Int.reduceLT, Int.reduceLE, Int.reduceEq, Bool.false_eq_true, Bool.or_false, Bool.false_or, Bool.true_or, Bool.or_true, if_true, if_false, ite_true, ite_false, true_and, and_true, false_and, and_false, true_or, or_true, false_or, or_false, Int.cast_ofNat_Int, Int.toNat_natCast, Int.natCast_add, List.getElem?_cons_zero, List.getElem?_cons_succ, true_implies, forall_const, not_true_eq_false, not_false_eq_true, ne_eq, beq_iff_eq, imp_self, List.length_set, Nat.zero_add, Nat.add_zero, Int.zero_add, Int.add_zero, w1_aload_n_0, w1_getfield, w1_bipush, w1_if_icmp, w1_iconst, w1_putfield, w1_putfield2, w1_iload_n_1, w1_goto, w1_ireturn, w1_dup, w1_dup2, w1_iadd, w1_i2l, w1_ldc2_w, w1_invokestatic, w1_ifCond, w1_invokevirtual, w1_istore_n_2, w1_iload_n_2, dX10_goHouse_0, dX10_goHouse_1, dX10_goHouse_4, dX10_goHouse_6, dX10_goHouse_9, dX10_goHouse_10, dX10_goHouse_11, dX10_goHouse_14, dX10_goHouse_15, dX10_goHouse_16, dX10_goHouse_19, dX10_goHouse_20, dX10_goHouse_22, dX10_goHouse_25, dX10_goHouse_26, dX10_goHouse_29, dX10_goHouse_30, dX10_goHouse_31, dX10_goHouse_32, dX10_goHouse_35, dX10_goHouse_37, dX10_goHouse_40, dX10_goHouse_41, dX10_goHouse_43, dX10_goHouse_46, dX10_goHouse_47, dX10_goHouse_48, dX10_goHouse_51, dX10_goHouse_52, dX10_goHouse_53, dX10_goHouse_56, dX10_goHouse_57, dX10_goHouse_58, dX10_goHouse_61, dX10_goHouse_62, dX10_goHouse_64, dX10_goHouse_67, dX10_goHouse_68, dX10_goHouse_71, dX10_goHouse_72, dX10_goHouse_73, dX10_goHouse_74, dX10_goHouse_75, dX10_goHouse_78, dX10_goHouse_81, dX10_goHouse_84, dX10_goHouse_87, dX10_goHouse_88, dX10_goHouse_89, dX10_goHouse_92, dX10_goHouse_93, dX10_goHouse_94, dX10_goHouse_97, dX10_goHouse_100, dX10_goHouse_101, dX10_goHouse_104, dX10_goHouse_105, dX10_goHouse_108, dX10_goHouse_111, dX10_goHouse_112, dX10_goHouse_113, dX10_goHouse_114, dX10_goHouse_115, dX10_goHouse_118, dX10_goHouse_119, dX10_goHouse_120, dX10_goHouse_123, dX10_goHouse_124, dX10_goHouse_125, dX10_goHouse_128, dX10_goHouse_129, dX10_goHouse_131, dX10_goHouse_134, dX10_goHouse_135, dX10_goHouse_138, dX10_goHouse_139, dX10_goHouse_142, dX10_goHouse_143, dX10_goHouse_146, dX10_goHouse_147, w_flk10_83, w_flk10_86, w_flk10_93, w_klk10_103, w_klk10_105, w_kd_135, w_rf_135_0, w_rf_135_2, w_rf_135_3, w_rf_135_8, w_rf_135_12, w_rf_135_14, w_rf_135_15, w_rf_135_16, w_rf_135_24, w_rf_135_25, w_rf_135_26, w_rf_135_27, w_rf_135_28, w_rf_135_29, w_rf_135_30, w_rf_135_33, w_rf_135_34, w_rf_135_39, w_rf_135_40, w_rf_135_41, w_rf_135_42, aW_5, aW_4, aW_u4, aW_u5, aW_u6, c10])
        (repeat' (with_reducible (first | refine And.intro ?_ ?_ | intro _))) <;> (try (first | (with_reducible assumption) | (simp only [inI, inL]; omega) | omega))
        all_goals first
          | (exfalso; omega)
          | exact fin _ _ ⟨rfl, rfl⟩
    · rw [if_neg c10] at fin
      by_cases cd : 48 ≤ c ∧ c ≤ 57
      · rw [if_pos cd] at fin
        have hpc : p_X10_goNumber [vr 135, vi c] (aW w s) := ⟨rfl, cd, w, s, rfl, hI, by omega⟩
        have h01 : (gN c s).1 = 0 ∨ (gN c s).1 = 1 := by
          unfold gN
          split
          · dsimp only; split
            · exact Or.inr rfl
            · exact Or.inl rfl
          · dsimp only; split
            · exact Or.inr rfl
            · exact Or.inl rfl
        have e92 : ∀ r w2 x2, q_X10_goNumber [vr 135, vi c] (aW w s) r w2 → G 92 [some (vr 135), some (vi c), x2] [vi r] w2 := by
          intro r w2 x2 hq
          obtain ⟨rfl, rfl⟩ := hq w s rfl
          (apply hG [] 2000; simp only [w_br_i, w_ite, w_all, w_all0, forall_eq, w_b0, w_b1, ↓reduceIte, w_ent, w_pos, List.replicate_succ, List.replicate_zero, wp_s, wk_s, w_lk_c, w_ld0, w_ldS, w_kp0, w_kp, w_s1, w_s2, w_to, w_if, w_call, w_sw, w_cat, w_cats, w_psh, w_fv, List.contains_cons, List.contains_nil, List.set_cons_zero, List.set_cons_succ, List.length_cons, List.length_nil, List.find?_cons, List.find?_nil, List.take_succ_cons, List.take_zero, List.drop_succ_cons, List.drop_zero, List.reverse_cons, List.reverse_nil, List.nil_append, List.cons_append, Option.map_some, Option.map_none, Nat.reduceAdd, Nat.reduceBEq, Nat.reduceEqDiff, Nat.reduceLT, Nat.reduceLeDiff, Nat.reduceSub, Int.reduceAdd, Int.reduceSub, Int.reduceMul, Int.reduceNeg, Int.reduceToNat, Int.reduceLT, Int.reduceLE, Int.reduceEq, Bool.false_eq_true, Bool.or_false, Bool.false_or, Bool.true_or, Bool.or_true, if_true, if_false, ite_true, ite_false, true_and, and_true, false_and, and_false, true_or, or_true, false_or, or_false, Int.cast_ofNat_Int, Int.toNat_natCast, Int.natCast_add, List.getElem?_cons_zero, List.getElem?_cons_succ, true_implies, forall_const, not_true_eq_false, not_false_eq_true, ne_eq, beq_iff_eq, imp_self, List.length_set, Nat.zero_add, Nat.add_zero, Int.zero_add, Int.add_zero, w1_aload_n_0, w1_getfield, w1_bipush, w1_if_icmp, w1_iconst, w1_putfield, w1_putfield2, w1_iload_n_1, w1_goto, w1_ireturn, w1_dup, w1_dup2, w1_iadd, w1_i2l, w1_ldc2_w, w1_invokestatic, w1_ifCond, w1_invokevirtual, w1_istore_n_2, w1_iload_n_2, dX10_goHouse_0, dX10_goHouse_1, dX10_goHouse_4, dX10_goHouse_6, dX10_goHouse_9, dX10_goHouse_10, dX10_goHouse_11, dX10_goHouse_14, dX10_goHouse_15, dX10_goHouse_16, dX10_goHouse_19, dX10_goHouse_20, dX10_goHouse_22, dX10_goHouse_25, dX10_goHouse_26, dX10_goHouse_29, dX10_goHouse_30, dX10_goHouse_31, dX10_goHouse_32, dX10_goHouse_35, dX10_goHouse_37, dX10_goHouse_40, dX10_goHouse_41, dX10_goHouse_43, dX10_goHouse_46, dX10_goHouse_47, dX10_goHouse_48, dX10_goHouse_51, dX10_goHouse_52, dX10_goHouse_53, dX10_goHouse_56, dX10_goHouse_57, dX10_goHouse_58, dX10_goHouse_61, dX10_goHouse_62, dX10_goHouse_64, dX10_goHouse_67, dX10_goHouse_68, dX10_goHouse_71, dX10_goHouse_72, dX10_goHouse_73, dX10_goHouse_74, dX10_goHouse_75, dX10_goHouse_78, dX10_goHouse_81, dX10_goHouse_84, dX10_goHouse_87, dX10_goHouse_88, dX10_goHouse_89, dX10_goHouse_92, dX10_goHouse_93, dX10_goHouse_94, dX10_goHouse_97, dX10_goHouse_100, dX10_goHouse_101, dX10_goHouse_104, dX10_goHouse_105, dX10_goHouse_108, dX10_goHouse_111, dX10_goHouse_112, dX10_goHouse_113, dX10_goHouse_114, dX10_goHouse_115, dX10_goHouse_118, dX10_goHouse_119, dX10_goHouse_120, dX10_goHouse_123, dX10_goHouse_124, dX10_goHouse_125, dX10_goHouse_128, dX10_goHouse_129, dX10_goHouse_131, dX10_goHouse_134, dX10_goHouse_135, dX10_goHouse_138, dX10_goHouse_139, dX10_goHouse_142, dX10_goHouse_143, dX10_goHouse_146, dX10_goHouse_147, w_flk10_83, w_flk10_86, w_flk10_93, w_klk10_103, w_klk10_105])
          (repeat' (with_reducible (first | refine And.intro ?_ ?_ | intro _))) <;> (try (first | (with_reducible assumption) | (simp only [inI, inL]; omega) | omega))
          all_goals first
            | exact fin _ _ ⟨rfl, rfl⟩
            | omega
        (apply hG [92] 2000; simp only [w_br_i, w_ite, w_all, w_all0, forall_eq, w_b0, w_b1, ↓reduceIte, w_ent, w_pos, List.replicate_succ, List.replicate_zero, wp_s, wk_s, w_lk_c, w_ld0, w_ldS, w_kp0, w_kp, w_s1, w_s2, w_to, w_if, w_call, w_sw, w_cat, w_cats, w_psh, w_fv, List.contains_cons, List.contains_nil, List.set_cons_zero, List.set_cons_succ, List.length_cons, List.length_nil, List.find?_cons, List.find?_nil, List.take_succ_cons, List.take_zero, List.drop_succ_cons, List.drop_zero, List.reverse_cons, List.reverse_nil, List.nil_append, List.cons_append, Option.map_some, Option.map_none, Nat.reduceAdd, Nat.reduceBEq, Nat.reduceEqDiff, Nat.reduceLT, Nat.reduceLeDiff, Nat.reduceSub, Int.reduceAdd, Int.reduceSub, Int.reduceMul, Int.reduceNeg, Int.reduceToNat, Int.reduceLT, Int.reduceLE, Int.reduceEq, Bool.false_eq_true, Bool.or_false, Bool.false_or, Bool.true_or, Bool.or_true, if_true, if_false, ite_true, ite_false, true_and, and_true, false_and, and_false, true_or, or_true, false_or, or_false, Int.cast_ofNat_Int, Int.toNat_natCast, Int.natCast_add, List.getElem?_cons_zero, List.getElem?_cons_succ, true_implies, forall_const, not_true_eq_false, not_false_eq_true, ne_eq, beq_iff_eq, imp_self, List.length_set, Nat.zero_add, Nat.add_zero, Int.zero_add, Int.add_zero, w1_aload_n_0, w1_getfield, w1_bipush, w1_if_icmp, w1_iconst, w1_putfield, w1_putfield2, w1_iload_n_1, w1_goto, w1_ireturn, w1_dup, w1_dup2, w1_iadd, w1_i2l, w1_ldc2_w, w1_invokestatic, w1_ifCond, w1_invokevirtual, w1_istore_n_2, w1_iload_n_2, dX10_goHouse_0, dX10_goHouse_1, dX10_goHouse_4, dX10_goHouse_6, dX10_goHouse_9, dX10_goHouse_10, dX10_goHouse_11, dX10_goHouse_14, dX10_goHouse_15, dX10_goHouse_16, dX10_goHouse_19, dX10_goHouse_20, dX10_goHouse_22, dX10_goHouse_25, dX10_goHouse_26, dX10_goHouse_29, dX10_goHouse_30, dX10_goHouse_31, dX10_goHouse_32, dX10_goHouse_35, dX10_goHouse_37, dX10_goHouse_40, dX10_goHouse_41, dX10_goHouse_43, dX10_goHouse_46, dX10_goHouse_47, dX10_goHouse_48, dX10_goHouse_51, dX10_goHouse_52, dX10_goHouse_53, dX10_goHouse_56, dX10_goHouse_57, dX10_goHouse_58, dX10_goHouse_61, dX10_goHouse_62, dX10_goHouse_64, dX10_goHouse_67, dX10_goHouse_68, dX10_goHouse_71, dX10_goHouse_72, dX10_goHouse_73, dX10_goHouse_74, dX10_goHouse_75, dX10_goHouse_78, dX10_goHouse_81, dX10_goHouse_84, dX10_goHouse_87, dX10_goHouse_88, dX10_goHouse_89, dX10_goHouse_92, dX10_goHouse_93, dX10_goHouse_94, dX10_goHouse_97, dX10_goHouse_100, dX10_goHouse_101, dX10_goHouse_104, dX10_goHouse_105, dX10_goHouse_108, dX10_goHouse_111, dX10_goHouse_112, dX10_goHouse_113, dX10_goHouse_114, dX10_goHouse_115, dX10_goHouse_118, dX10_goHouse_119, dX10_goHouse_120, dX10_goHouse_123, dX10_goHouse_124, dX10_goHouse_125, dX10_goHouse_128, dX10_goHouse_129, dX10_goHouse_131, dX10_goHouse_134, dX10_goHouse_135, dX10_goHouse_138, dX10_goHouse_139, dX10_goHouse_142, dX10_goHouse_143, dX10_goHouse_146, dX10_goHouse_147, w_flk10_83, w_flk10_86, w_flk10_93, w_klk10_103, w_klk10_105, w_kd_135, w_rf_135_0, w_rf_135_2, w_rf_135_3, w_rf_135_8, w_rf_135_12, w_rf_135_14, w_rf_135_15, w_rf_135_16, w_rf_135_24, w_rf_135_25, w_rf_135_26, w_rf_135_27, w_rf_135_28, w_rf_135_29, w_rf_135_30, w_rf_135_33, w_rf_135_34, w_rf_135_39, w_rf_135_40, w_rf_135_41, w_rf_135_42, aW_5, p_X10_in, q_X10_in, hpc])
        (repeat' (with_reducible (first | refine And.intro ?_ ?_ | intro _))) <;> (try (first | (with_reducible assumption) | (simp only [inI, inL]; omega) | omega))
        all_goals first
          | (exfalso; omega)
          | exact e92 _ _ _ (by assumption)
      · rw [if_neg cd] at fin
        dsimp only at fin
        have hnr : -1 ≤ gNx c s ∧ gNx c s ≤ 10 := by
          unfold gNx
          split
          · omega
          · have := mBe_in s.2.2.2.1 c; omega
        have e112 : ∀ nx x2, nx = gNx c s → G 112 [some (vr 135), some (vi c), x2] [vi nx] (aW w s) := by
          intro nx x2 hnx
          rw [← hnx] at fin hnr
          by_cases q : nx ≠ -1 ∧ (nx ≠ 10 ∨ s.2.2.1 < 3)
          · rw [if_pos q] at fin
            (apply hG [] 2000; simp only [w_br_i, w_ite, w_all, w_all0, forall_eq, w_b0, w_b1, ↓reduceIte, w_ent, w_pos, List.replicate_succ, List.replicate_zero, wp_s, wk_s, w_lk_c, w_ld0, w_ldS, w_kp0, w_kp, w_s1, w_s2, w_to, w_if, w_call, w_sw, w_cat, w_cats, w_psh, w_fv, List.contains_cons, List.contains_nil, List.set_cons_zero, List.set_cons_succ, List.length_cons, List.length_nil, List.find?_cons, List.find?_nil, List.take_succ_cons, List.take_zero, List.drop_succ_cons, List.drop_zero, List.reverse_cons, List.reverse_nil, List.nil_append, List.cons_append, Option.map_some, Option.map_none, Nat.reduceAdd, Nat.reduceBEq, Nat.reduceEqDiff, Nat.reduceLT, Nat.reduceLeDiff, Nat.reduceSub, Int.reduceAdd, Int.reduceSub, Int.reduceMul, Int.reduceNeg, Int.reduceToNat, Int.reduceLT, Int.reduceLE, Int.reduceEq, Bool.false_eq_true, Bool.or_false, Bool.false_or, Bool.true_or, Bool.or_true, if_true, if_false, ite_true, ite_false, true_and, and_true, false_and, and_false, true_or, or_true, false_or, or_false, Int.cast_ofNat_Int, Int.toNat_natCast, Int.natCast_add, List.getElem?_cons_zero, List.getElem?_cons_succ, true_implies, forall_const, not_true_eq_false, not_false_eq_true, ne_eq, beq_iff_eq, imp_self, List.length_set, Nat.zero_add, Nat.add_zero, Int.zero_add, Int.add_zero, w1_aload_n_0, w1_getfield, w1_bipush, w1_if_icmp, w1_iconst, w1_putfield, w1_putfield2, w1_iload_n_1, w1_goto, w1_ireturn, w1_dup, w1_dup2, w1_iadd, w1_i2l, w1_ldc2_w, w1_invokestatic, w1_ifCond, w1_invokevirtual, w1_istore_n_2, w1_iload_n_2, dX10_goHouse_0, dX10_goHouse_1, dX10_goHouse_4, dX10_goHouse_6, dX10_goHouse_9, dX10_goHouse_10, dX10_goHouse_11, dX10_goHouse_14, dX10_goHouse_15, dX10_goHouse_16, dX10_goHouse_19, dX10_goHouse_20, dX10_goHouse_22, dX10_goHouse_25, dX10_goHouse_26, dX10_goHouse_29, dX10_goHouse_30, dX10_goHouse_31, dX10_goHouse_32, dX10_goHouse_35, dX10_goHouse_37, dX10_goHouse_40, dX10_goHouse_41, dX10_goHouse_43, dX10_goHouse_46, dX10_goHouse_47, dX10_goHouse_48, dX10_goHouse_51, dX10_goHouse_52, dX10_goHouse_53, dX10_goHouse_56, dX10_goHouse_57, dX10_goHouse_58, dX10_goHouse_61, dX10_goHouse_62, dX10_goHouse_64, dX10_goHouse_67, dX10_goHouse_68, dX10_goHouse_71, dX10_goHouse_72, dX10_goHouse_73, dX10_goHouse_74, dX10_goHouse_75, dX10_goHouse_78, dX10_goHouse_81, dX10_goHouse_84, dX10_goHouse_87, dX10_goHouse_88, dX10_goHouse_89, dX10_goHouse_92, dX10_goHouse_93, dX10_goHouse_94, dX10_goHouse_97, dX10_goHouse_100, dX10_goHouse_101, dX10_goHouse_104, dX10_goHouse_105, dX10_goHouse_108, dX10_goHouse_111, dX10_goHouse_112, dX10_goHouse_113, dX10_goHouse_114, dX10_goHouse_115, dX10_goHouse_118, dX10_goHouse_119, dX10_goHouse_120, dX10_goHouse_123, dX10_goHouse_124, dX10_goHouse_125, dX10_goHouse_128, dX10_goHouse_129, dX10_goHouse_131, dX10_goHouse_134, dX10_goHouse_135, dX10_goHouse_138, dX10_goHouse_139, dX10_goHouse_142, dX10_goHouse_143, dX10_goHouse_146, dX10_goHouse_147, w_flk10_83, w_flk10_86, w_flk10_93, w_klk10_103, w_klk10_105, w_kd_135, w_rf_135_0, w_rf_135_2, w_rf_135_3, w_rf_135_8, w_rf_135_12, w_rf_135_14, w_rf_135_15, w_rf_135_16, w_rf_135_24, w_rf_135_25, w_rf_135_26, w_rf_135_27, w_rf_135_28, w_rf_135_29, w_rf_135_30, w_rf_135_33, w_rf_135_34, w_rf_135_39, w_rf_135_40, w_rf_135_41, w_rf_135_42, aW_4, aW_u5, aW_u6])
            (repeat' (with_reducible (first | refine And.intro ?_ ?_ | intro _))) <;> (try (first | (with_reducible assumption) | (simp only [inI, inL]; omega) | omega))
            all_goals first
              | (exfalso; omega)
              | exact fin _ _ ⟨rfl, rfl⟩
          · rw [if_neg q] at fin
            (apply hG [] 2000; simp only [w_br_i, w_ite, w_all, w_all0, forall_eq, w_b0, w_b1, ↓reduceIte, w_ent, w_pos, List.replicate_succ, List.replicate_zero, wp_s, wk_s, w_lk_c, w_ld0, w_ldS, w_kp0, w_kp, w_s1, w_s2, w_to, w_if, w_call, w_sw, w_cat, w_cats, w_psh, w_fv, List.contains_cons, List.contains_nil, List.set_cons_zero, List.set_cons_succ, List.length_cons, List.length_nil, List.find?_cons, List.find?_nil, List.take_succ_cons, List.take_zero, List.drop_succ_cons, List.drop_zero, List.reverse_cons, List.reverse_nil, List.nil_append, List.cons_append, Option.map_some, Option.map_none, Nat.reduceAdd, Nat.reduceBEq, Nat.reduceEqDiff, Nat.reduceLT, Nat.reduceLeDiff, Nat.reduceSub, Int.reduceAdd, Int.reduceSub, Int.reduceMul, Int.reduceNeg, Int.reduceToNat, Int.reduceLT, Int.reduceLE, Int.reduceEq, Bool.false_eq_true, Bool.or_false, Bool.false_or, Bool.true_or, Bool.or_true, if_true, if_false, ite_true, ite_false, true_and, and_true, false_and, and_false, true_or, or_true, false_or, or_false, Int.cast_ofNat_Int, Int.toNat_natCast, Int.natCast_add, List.getElem?_cons_zero, List.getElem?_cons_succ, true_implies, forall_const, not_true_eq_false, not_false_eq_true, ne_eq, beq_iff_eq, imp_self, List.length_set, Nat.zero_add, Nat.add_zero, Int.zero_add, Int.add_zero, w1_aload_n_0, w1_getfield, w1_bipush, w1_if_icmp, w1_iconst, w1_putfield, w1_putfield2, w1_iload_n_1, w1_goto, w1_ireturn, w1_dup, w1_dup2, w1_iadd, w1_i2l, w1_ldc2_w, w1_invokestatic, w1_ifCond, w1_invokevirtual, w1_istore_n_2, w1_iload_n_2, dX10_goHouse_0, dX10_goHouse_1, dX10_goHouse_4, dX10_goHouse_6, dX10_goHouse_9, dX10_goHouse_10, dX10_goHouse_11, dX10_goHouse_14, dX10_goHouse_15, dX10_goHouse_16, dX10_goHouse_19, dX10_goHouse_20, dX10_goHouse_22, dX10_goHouse_25, dX10_goHouse_26, dX10_goHouse_29, dX10_goHouse_30, dX10_goHouse_31, dX10_goHouse_32, dX10_goHouse_35, dX10_goHouse_37, dX10_goHouse_40, dX10_goHouse_41, dX10_goHouse_43, dX10_goHouse_46, dX10_goHouse_47, dX10_goHouse_48, dX10_goHouse_51, dX10_goHouse_52, dX10_goHouse_53, dX10_goHouse_56, dX10_goHouse_57, dX10_goHouse_58, dX10_goHouse_61, dX10_goHouse_62, dX10_goHouse_64, dX10_goHouse_67, dX10_goHouse_68, dX10_goHouse_71, dX10_goHouse_72, dX10_goHouse_73, dX10_goHouse_74, dX10_goHouse_75, dX10_goHouse_78, dX10_goHouse_81, dX10_goHouse_84, dX10_goHouse_87, dX10_goHouse_88, dX10_goHouse_89, dX10_goHouse_92, dX10_goHouse_93, dX10_goHouse_94, dX10_goHouse_97, dX10_goHouse_100, dX10_goHouse_101, dX10_goHouse_104, dX10_goHouse_105, dX10_goHouse_108, dX10_goHouse_111, dX10_goHouse_112, dX10_goHouse_113, dX10_goHouse_114, dX10_goHouse_115, dX10_goHouse_118, dX10_goHouse_119, dX10_goHouse_120, dX10_goHouse_123, dX10_goHouse_124, dX10_goHouse_125, dX10_goHouse_128, dX10_goHouse_129, dX10_goHouse_131, dX10_goHouse_134, dX10_goHouse_135, dX10_goHouse_138, dX10_goHouse_139, dX10_goHouse_142, dX10_goHouse_143, dX10_goHouse_146, dX10_goHouse_147, w_flk10_83, w_flk10_86, w_flk10_93, w_klk10_103, w_klk10_105, w_kd_135, w_rf_135_0, w_rf_135_2, w_rf_135_3, w_rf_135_8, w_rf_135_12, w_rf_135_14, w_rf_135_15, w_rf_135_16, w_rf_135_24, w_rf_135_25, w_rf_135_26, w_rf_135_27, w_rf_135_28, w_rf_135_29, w_rf_135_30, w_rf_135_33, w_rf_135_34, w_rf_135_39, w_rf_135_40, w_rf_135_41, w_rf_135_42, aW_4, aW_u5, aW_u6])
            (repeat' (with_reducible (first | refine And.intro ?_ ?_ | intro _))) <;> (try (first | (with_reducible assumption) | (simp only [inI, inL]; omega) | omega))
            all_goals first
              | (exfalso; omega)
              | exact fin _ _ ⟨rfl, rfl⟩
        (apply hG [112] 2000; simp only [w_br_i, w_ite, w_all, w_all0, forall_eq, w_b0, w_b1, ↓reduceIte, w_ent, w_pos, List.replicate_succ, List.replicate_zero, wp_s, wk_s, w_lk_c, w_ld0, w_ldS, w_kp0, w_kp, w_s1, w_s2, w_to, w_if, w_call, w_sw, w_cat, w_cats, w_psh, w_fv, List.contains_cons, List.contains_nil, List.set_cons_zero, List.set_cons_succ, List.length_cons, List.length_nil, List.find?_cons, List.find?_nil, List.take_succ_cons, List.take_zero, List.drop_succ_cons, List.drop_zero, List.reverse_cons, List.reverse_nil, List.nil_append, List.cons_append, Option.map_some, Option.map_none, Nat.reduceAdd, Nat.reduceBEq, Nat.reduceEqDiff, Nat.reduceLT, Nat.reduceLeDiff, Nat.reduceSub, Int.reduceAdd, Int.reduceSub, Int.reduceMul, Int.reduceNeg, Int.reduceToNat, Int.reduceLT, Int.reduceLE, Int.reduceEq, Bool.false_eq_true, Bool.or_false, Bool.false_or, Bool.true_or, Bool.or_true, if_true, if_false, ite_true, ite_false, true_and, and_true, false_and, and_false, true_or, or_true, false_or, or_false, Int.cast_ofNat_Int, Int.toNat_natCast, Int.natCast_add, List.getElem?_cons_zero, List.getElem?_cons_succ, true_implies, forall_const, not_true_eq_false, not_false_eq_true, ne_eq, beq_iff_eq, imp_self, List.length_set, Nat.zero_add, Nat.add_zero, Int.zero_add, Int.add_zero, w1_aload_n_0, w1_getfield, w1_bipush, w1_if_icmp, w1_iconst, w1_putfield, w1_putfield2, w1_iload_n_1, w1_goto, w1_ireturn, w1_dup, w1_dup2, w1_iadd, w1_i2l, w1_ldc2_w, w1_invokestatic, w1_ifCond, w1_invokevirtual, w1_istore_n_2, w1_iload_n_2, dX10_goHouse_0, dX10_goHouse_1, dX10_goHouse_4, dX10_goHouse_6, dX10_goHouse_9, dX10_goHouse_10, dX10_goHouse_11, dX10_goHouse_14, dX10_goHouse_15, dX10_goHouse_16, dX10_goHouse_19, dX10_goHouse_20, dX10_goHouse_22, dX10_goHouse_25, dX10_goHouse_26, dX10_goHouse_29, dX10_goHouse_30, dX10_goHouse_31, dX10_goHouse_32, dX10_goHouse_35, dX10_goHouse_37, dX10_goHouse_40, dX10_goHouse_41, dX10_goHouse_43, dX10_goHouse_46, dX10_goHouse_47, dX10_goHouse_48, dX10_goHouse_51, dX10_goHouse_52, dX10_goHouse_53, dX10_goHouse_56, dX10_goHouse_57, dX10_goHouse_58, dX10_goHouse_61, dX10_goHouse_62, dX10_goHouse_64, dX10_goHouse_67, dX10_goHouse_68, dX10_goHouse_71, dX10_goHouse_72, dX10_goHouse_73, dX10_goHouse_74, dX10_goHouse_75, dX10_goHouse_78, dX10_goHouse_81, dX10_goHouse_84, dX10_goHouse_87, dX10_goHouse_88, dX10_goHouse_89, dX10_goHouse_92, dX10_goHouse_93, dX10_goHouse_94, dX10_goHouse_97, dX10_goHouse_100, dX10_goHouse_101, dX10_goHouse_104, dX10_goHouse_105, dX10_goHouse_108, dX10_goHouse_111, dX10_goHouse_112, dX10_goHouse_113, dX10_goHouse_114, dX10_goHouse_115, dX10_goHouse_118, dX10_goHouse_119, dX10_goHouse_120, dX10_goHouse_123, dX10_goHouse_124, dX10_goHouse_125, dX10_goHouse_128, dX10_goHouse_129, dX10_goHouse_131, dX10_goHouse_134, dX10_goHouse_135, dX10_goHouse_138, dX10_goHouse_139, dX10_goHouse_142, dX10_goHouse_143, dX10_goHouse_146, dX10_goHouse_147, w_flk10_83, w_flk10_86, w_flk10_93, w_klk10_103, w_klk10_105, w_kd_135, w_rf_135_0, w_rf_135_2, w_rf_135_3, w_rf_135_8, w_rf_135_12, w_rf_135_14, w_rf_135_15, w_rf_135_16, w_rf_135_24, w_rf_135_25, w_rf_135_26, w_rf_135_27, w_rf_135_28, w_rf_135_29, w_rf_135_30, w_rf_135_33, w_rf_135_34, w_rf_135_39, w_rf_135_40, w_rf_135_41, w_rf_135_42, aW_5, aW_6, p_X10_in, q_X10_in, p_X10_behind, q_X10_behind])
        (repeat' (with_reducible (first | refine And.intro ?_ ?_ | intro _))) <;> (try (first | (with_reducible assumption) | (simp only [inI, inL]; omega) | omega))
        all_goals first
          | (exfalso; omega)
          | exact e112 _ _ (by unfold gNx; rw [if_pos (by omega)])
          | exact e112 _ _ (by unfold gNx; rw [if_neg (by omega)])
