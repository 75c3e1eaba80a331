/-! a year with a leak told -/
def lkF (lk st : Int) (k : Nat) : Int := if (k : Int) < st then 0 else lk
def agE (S : wW) (lk st : Int) (R : Nat → Int → Int → Nat → Int) (rain : Nat → Int) : rE := (S, S 0 0, S 0 1, lkF lk st, R, rain)
def agM (E : rE) (rd : Nat → Int) (k : Nat) : Prop := rd k = -1 ∨ rd k = (rnQ E (k + 1)).1
theorem okE_ag {S w : wW} {a : Nat} {lk st : Int} {rain : Nat → Int} (hS : hR S) (hr : rR w a) (hp : plA w a (S 0 1)) (hl : 0 ≤ lk ∧ lk ≤ 9) (hn : ∀ m, m < 12 → 0 ≤ rain m ∧ rain m ≤ 9) : okE (agE S lk st (rX w a) rain) 12 := by
  have hA := hS.2.1
  refine ⟨hS, ⟨by show 0 ≤ S 0 0; omega, by show S 0 0 ≤ 25; omega⟩, hS.2.2.1, fun k _ => ?_, fun k hk => hn k hk, fun m lv wet hm l1 l2 hw => okr_rX hS hr hp hm ⟨l1, l2⟩ hw⟩
  show 0 ≤ lkF lk st k ∧ lkF lk st k ≤ 9
  unfold lkF
  split <;> omega
/-- the world in the middle -/
def inG (S w : wW) (E : rE) (k : Nat) (w1 : wW) : Prop := ev 88 89 w w1 ∧ (w1 88 3 = E.2.1 ∧ w1 88 4 = E.2.2.1) ∧ w1 88 6 = (rnQ E k).1 ∧ w1 88 7 = (rnQ E k).2
theorem ev_w {p q p' q' : Nat} {w w1 : wW} (h : ev p q w w1) (h1 : p' ≤ p) (h2 : q ≤ q') : ev p' q' w w1 := fun k i hk => h k i (by omega)
theorem inG_pre {S w w1 : wW} {a : Nat} {lk st : Int} {rn : Nat → Int} {k : Nat} (hS : hR S) (hXw : hX S w) (hr : rR w a) (hp : plA w a (S 0 1)) (hl : 0 ≤ lk ∧ lk ≤ 9) (hn : ∀ m, m < 12 → 0 ≤ rn m ∧ rn m ≤ 9) (hk : k < 12) (h : inG S w (agE S lk st (rX w a) rn) k w1) (h5 : w1 88 5 = lkF lk st k) : p_X6_pass S [vr 88, vr a, vi k, vi (rn k)] w1 := by
  have hok := okE_ag (st := st) hS hr hp hl hn
  have hq := rnQ_in hok k (by omega)
  obtain ⟨he, ⟨h3, h4⟩, h6, h7⟩ := h
  have he' := ev_w (p' := 88) (q' := 92) he (by omega) (by omega)
  have hA := hS.2.1
  refine ⟨rfl, hS, hX_ev hXw he', rR_ev hr he', by omega, hn k hk, ⟨?_, ?_, ?_, ?_⟩, ?_⟩
  · rw [h3]; exact ⟨by show 0 ≤ S 0 0; omega, by show S 0 0 ≤ 25; omega⟩
  · rw [h4, h6]; exact ⟨hq.1.1, hq.1.2, hS.2.2.1.2⟩
  · rw [h5]; exact hok.2.2.2.1 k hk
  · rw [h7]; exact hq.2
  · rw [h4]; exact plA_ev hr.1 hp he'
theorem inG_pass {S w w1 w2 : wW} {a : Nat} {lk st : Int} {rn : Nat → Int} {k : Nat} {r : Int} (ha : 36 ≤ a ∧ a < 46) (hk : k < 12) (h : inG S w (agE S lk st (rX w a) rn) k w1) (h5 : w1 88 5 = lkF lk st k) (hq : q_X6_pass S [vr 88, vr a, vi k, vi (rn k)] w1 r w2) : inG S w (agE S lk st (rX w a) rn) (k + 1) w2 := by
  obtain ⟨he, ⟨h3, h4⟩, h6, h7⟩ := h
  have he' := ev_w (p' := 88) (q' := 92) he (by omega) (by omega)
  have hkm : k % 12 = k := by omega
  have eB : pLv S w1 (rn k) = rnB (agE S lk st (rX w a) rn) k := by
    unfold pLv rnB
    rw [h3, h4, h5, h6, h7]
    rfl
  have eR : pR S w1 a k (rn k) = rnR (agE S lk st (rX w a) rn) k := by
    unfold pR rnR
    rw [eB, Int.toNat_natCast, rX_ev ha hk he', hkm]
    rfl
  simp only [q_X6_pass, eB, eR, h3, h4, h5, h6] at hq
  obtain ⟨f, rfl, ⟨g3, g4, g5⟩, g6, g7, -⟩ := hq
  refine ⟨fun k i hk => ?_, ⟨?_, ?_⟩, ?_, ?_⟩
  · rw [tw_x _ _ _ ⟨by omega, by omega⟩]; exact he k i hk
  · rw [tw_88 _ _ _ _ (by decide)]; exact g3
  · rw [tw_88 _ _ _ _ (by decide)]; exact g4
  · rw [tw_88 _ _ _ _ (by decide), g6, rnQ_s, hkm]; rfl
  · rw [tw_88 _ _ _ _ (by decide), g7, rnQ_s]; rfl
def p_X6_agrees (S : wW) : List wV → wW → Prop := fun av w => match av with
  | [.inr (.inr (some this)), .inr (.inr (some a)), .inr (.inr (some b)), .inr (.inr (some d)), .inl lk, .inl st] => this = 88 ∧ hR S ∧ hX S w ∧ rR w a ∧ plA w a (S 0 1) ∧ (∃ y, y < 8 ∧ b = 13 + y) ∧ d = 34 ∧ (0 ≤ lk ∧ lk ≤ 9) ∧ (0 ≤ st ∧ st ≤ 12) ∧ (∀ m, m < 12 → 0 ≤ w b m ∧ w b m ≤ 9) ∧ (∀ m, m < 12 → inI (w 34 m))
  | _ => False
theorem h_X6_agrees (S : wW) : ∀ av w, (p_X6_agrees S) av w → ∃ a r, av = vr a :: r ∧ w_kd a = 100 + 6 := by
  intro av w h
  unfold p_X6_agrees at h
  split at h
  · refine ⟨_, _, rfl, ?_⟩
    first | (rw [h.1]; rfl) | (rw [h]; rfl)
  · exact h.elim
def agP (S w : wW) (a b : Nat) (lk st : Int) (m : Nat) : Prop := agM (agE S lk st (rX w a) (w b)) (w 34) m
def q_X6_agrees (S : wW) : List wV → wW → Int → wW → Prop := fun av w r w' => match av with
  | [.inr (.inr (some this)), .inr (.inr (some a)), .inr (.inr (some b)), .inr (.inr (some d)), .inl lk, .inl st] => ev 88 89 w w' ∧ ((r = 1 ∧ ∀ m, m < 12 → agP S w a b lk st m) ∨ (r = 0 ∧ ∃ m, m < 12 ∧ ¬ agP S w a b lk st m))
  | _ => False
set_option maxRecDepth 100000 in
set_option maxHeartbeats 4000000 in
theorem c_X6_agrees (S : wW) : w_Ct yX6_agrees cX6_agrees 7 3 4 97 (p_X6_agrees S) (q_X6_agrees S) := by
  refine w_met (own := RX6) (fl := w_fl6) (gs := w_gs6) (kl := w_kl6) (ki := w_ki6) (cs := [(128, (0, 3, 0, (p_X6_startFull S), (q_X6_startFull S))), (132, (0, 4, 0, (p_X6_pass S), (q_X6_pass S)))]) (by decide +kernel) rfl ?_ w_flok6 w_gsok6 w_klok6 w_kiok6 ?_ ?_
  · intro av w h
    unfold p_X6_agrees at h
    split at h
    · simp [w_pos, w_cat]
    · exact h.elim
  · exact List.forall_mem_cons.mpr ⟨⟨_, _, w_callV (own := RX6) (idx := 128) (ci := 6) (c_X6_startFull S) rfl rfl (h_X6_startFull S) (w_m4 51 (by decide +kernel) (by decide +kernel)) (w_m3 142 (by decide +kernel) (by decide +kernel)) (w_m3 143 (by decide +kernel) (by decide +kernel)) (w_m1 9 (by decide +kernel) (by decide +kernel)) (w_m3 144 (by decide +kernel) (by decide +kernel)) ⟨by decide +kernel, by decide +kernel, by decide +kernel⟩, by decide, by decide⟩, List.forall_mem_cons.mpr ⟨⟨_, _, w_callV (own := RX6) (idx := 132) (ci := 6) (c_X6_pass S) rfl rfl (h_X6_pass S) (w_m4 52 (by decide +kernel) (by decide +kernel)) (w_m3 146 (by decide +kernel) (by decide +kernel)) (w_m3 147 (by decide +kernel) (by decide +kernel)) (w_m1 9 (by decide +kernel) (by decide +kernel)) (w_m3 148 (by decide +kernel) (by decide +kernel)) ⟨by decide +kernel, by decide +kernel, by decide +kernel⟩, by decide, by decide⟩, fun _ h => absurd h List.not_mem_nil⟩⟩
  intro av w hp
  unfold p_X6_agrees at hp
  split at hp
  case h_2 => exact hp.elim
  rename_i this a b d lk st
  intro G hG
  simp only [w_ent, w_pos, w_cat, Nat.reduceEqDiff, ↓reduceIte, List.length_cons, List.length_nil, Nat.reduceAdd, Nat.reduceSub, List.cons_append, List.nil_append, List.replicate_succ, List.replicate_zero]
  obtain ⟨rfl, hS, hXw, hr, hp, ⟨y, hy8, rfl⟩, rfl, hlk, hst, hn, hrd⟩ := hp
  have ha := hr.1
  have hA := hS.2.1
  have hSz := hS.2.2.1
  have ky := (w_kdy (y := y) (by omega)).1
  have s0 : w 5 0 = S 0 0 := hXw.2.1 0 (by decide)
  have s1 : w 5 1 = S 0 1 := hXw.2.1 1 (by decide)
  have hok := okE_ag (st := st) hS hr hp hlk hn
  have loop : ∀ n m : Nat, m + n = 12 → ∀ w1, inG S w (agE S lk st (rX w a) (w (13 + y))) m w1 → (∀ j, j < m → agP S w a (13 + y) lk st j) → G 25 [some (vr 88), some (vr a), some (vr (13 + y)), some (vr 34), some (vi lk), some (vi st), some (vi m)] [] w1 := by
    intro n
    induction n with
    | zero =>
      intro m hm w1 hw1 hall
      have e : m = 12 := by omega
      subst e
      (apply hG [25] 2000; simp only [w_br_i, w_ite, w_all, w_all0, forall_eq, w_b0, w_b1, ↓reduceIte, w_ent, w_pos, List.replicate_succ, List.replicate_zero, wp_s, wk_s, w_lk_c, w_ld0, w_ldS, w_kp0, w_kp, w_s1, w_s2, w_to, w_if, w_call, w_sw, w_cat, w_cats, w_psh, w_fv, List.contains_cons, List.contains_nil, List.set_cons_zero, List.set_cons_succ, List.length_cons, List.length_nil, List.find?_cons, List.find?_nil, List.take_succ_cons, List.take_zero, List.drop_succ_cons, List.drop_zero, List.reverse_cons, List.reverse_nil, List.nil_append, List.cons_append, Option.map_some, Option.map_none, Nat.reduceAdd, Nat.reduceBEq, Nat.reduceEqDiff, Nat.reduceLT, Nat.reduceLeDiff, Nat.reduceSub, Int.reduceAdd, Int.reduceSub, Int.reduceMul, Int.reduceNeg, Int.reduceToNat, Int.reduceLT, Int.reduceLE, Int.reduceEq, Bool.false_eq_true, Bool.or_false, Bool.false_or, Bool.true_or, Bool.or_true, if_true, if_false, ite_true, ite_false, true_and, and_true, false_and, and_false, true_or, or_true, false_or, or_false, Int.cast_ofNat_Int, Int.toNat_natCast, Int.natCast_add, List.getElem?_cons_zero, List.getElem?_cons_succ, true_implies, forall_const, not_true_eq_false, not_false_eq_true, ne_eq, beq_iff_eq, imp_self, List.length_set, Nat.zero_add, Nat.add_zero, Int.zero_add, Int.add_zero, w1_aload_n_0, w1_getfield, w1_iconst, w1_iaload, w1_invokevirtual, w1_istore, w1_iload, w1_bipush, w1_if_icmp, w1_goto, w1_putfield, w1_putfield2, w1_aload_n_1, w1_aload_n_2, w1_aload_n_3, w1_ireturn, w1_iinc, dX6_agrees_0, dX6_agrees_1, dX6_agrees_2, dX6_agrees_5, dX6_agrees_8, dX6_agrees_9, dX6_agrees_10, dX6_agrees_11, dX6_agrees_14, dX6_agrees_17, dX6_agrees_18, dX6_agrees_19, dX6_agrees_22, dX6_agrees_23, dX6_agrees_25, dX6_agrees_27, dX6_agrees_29, dX6_agrees_32, dX6_agrees_33, dX6_agrees_35, dX6_agrees_37, dX6_agrees_40, dX6_agrees_41, dX6_agrees_44, dX6_agrees_46, dX6_agrees_49, dX6_agrees_50, dX6_agrees_51, dX6_agrees_53, dX6_agrees_54, dX6_agrees_56, dX6_agrees_57, dX6_agrees_60, dX6_agrees_61, dX6_agrees_63, dX6_agrees_64, dX6_agrees_65, dX6_agrees_68, dX6_agrees_69, dX6_agrees_71, dX6_agrees_72, dX6_agrees_73, dX6_agrees_76, dX6_agrees_79, dX6_agrees_80, dX6_agrees_81, dX6_agrees_84, dX6_agrees_87, dX6_agrees_88, w_flk6_15, w_flk6_30, w_flk6_38, w_flk6_35, w_kd_88, w_rf_88_0, w_rf_88_1, w_rf_88_2])
      (repeat' (with_reducible (first | refine And.intro ?_ ?_ | intro _))) <;> (try (first | assumption | contradiction | exact Or.inl trivial | exact Or.inl rfl | exact Or.inr rfl | (simp only [inI, inL]; omega) | omega))
      all_goals (simp only [q_X6_agrees]; exact ⟨hw1.1, Or.inl ⟨by first | rfl | trivial, hall⟩⟩)
    | succ n ih =>
      intro m hm w1 hw1 hall
      have hm12 : m < 12 := by omega
      have e46 : G 46 [some (vr 88), some (vr a), some (vr (13 + y)), some (vr 34), some (vi lk), some (vi st), some (vi m)] [vi (lkF lk st m), vr 88] w1 := by
        have hI : inG S w (agE S lk st (rX w a) (w (13 + y))) m (w_up w1 88 5 (lkF lk st m)) := by
          obtain ⟨he, ⟨h3, h4⟩, h6, h7⟩ := hw1
          refine ⟨fun k i hk => ?_, ⟨?_, ?_⟩, ?_, ?_⟩
          · rw [up_k (by omega)]; exact he k i hk
          · rw [up_ne (by decide)]; exact h3
          · rw [up_ne (by decide)]; exact h4
          · rw [up_ne (by decide)]; exact h6
          · rw [up_ne (by decide)]; exact h7
        have hpc := inG_pre hS hXw hr hp hlk hn hm12 hI (up_eq _ _ _ _)
        have hrain : w_up w1 88 5 (lkF lk st m) (13 + y) m = w (13 + y) m := by rw [up_k (by omega)]; exact hw1.1 _ _ (by omega)
        have e60 : ∀ r w2, q_X6_pass S [vr 88, vr a, vi m, vi (w (13 + y) m)] (w_up w1 88 5 (lkF lk st m)) r w2 → G 60 [some (vr 88), some (vr a), some (vr (13 + y)), some (vr 34), some (vi lk), some (vi st), some (vi m)] [] w2 := by
          intro r w2 hq
          have hI2 := inG_pass ha hm12 hI (up_eq _ _ _ _) hq
          have hlv : w2 88 6 = (rnQ (agE S lk st (rX w a) (w (13 + y))) (m + 1)).1 := hI2.2.2.1
          have hlr := (rnQ_in hok (m + 1) (by omega)).1
          have hsz : (agE S lk st (rX w a) (w (13 + y))).2.2.1 = S 0 1 := rfl
          rw [hsz] at hlr
          have hrd2 : w2 34 m = w 34 m := hI2.1 _ _ (by omega)
          have hrm := hrd m hm12
          by_cases c : agP S w a (13 + y) lk st m
          · have e := ih (m + 1) (by omega) w2 hI2 (fun j hj => by
              by_cases q : j = m
              · rw [q]; exact c
              · exact hall j (by omega))
            simp only [Int.natCast_add, Int.cast_ofNat_Int] at e
            have c' : w 34 m = -1 ∨ w 34 m = (rnQ (agE S lk st (rX w a) (w (13 + y))) (m + 1)).1 := c
            (apply hG [25] 2000; simp only [w_br_i, w_ite, w_all, w_all0, forall_eq, w_b0, w_b1, ↓reduceIte, w_ent, w_pos, List.replicate_succ, List.replicate_zero, wp_s, wk_s, w_lk_c, w_ld0, w_ldS, w_kp0, w_kp, w_s1, w_s2, w_to, w_if, w_call, w_sw, w_cat, w_cats, w_psh, w_fv, List.contains_cons, List.contains_nil, List.set_cons_zero, List.set_cons_succ, List.length_cons, List.length_nil, List.find?_cons, List.find?_nil, List.take_succ_cons, List.take_zero, List.drop_succ_cons, List.drop_zero, List.reverse_cons, List.reverse_nil, List.nil_append, List.cons_append, Option.map_some, Option.map_none, Nat.reduceAdd, Nat.reduceBEq, Nat.reduceEqDiff, Nat.reduceLT, Nat.reduceLeDiff, Nat.reduceSub, Int.reduceAdd, Int.reduceSub, Int.reduceMul, Int.reduceNeg, Int.reduceToNat, Int.reduceLT, Int.reduceLE, Int.reduceEq, Bool.false_eq_true, Bool.or_false, Bool.false_or, Bool.true_or, Bool.or_true, if_true, if_false, ite_true, ite_false, true_and, and_true, false_and, and_false, true_or, or_true, false_or, or_false, Int.cast_ofNat_Int, Int.toNat_natCast, Int.natCast_add, List.getElem?_cons_zero, List.getElem?_cons_succ, true_implies, forall_const, not_true_eq_false, not_false_eq_true, ne_eq, beq_iff_eq, imp_self, List.length_set, Nat.zero_add, Nat.add_zero, Int.zero_add, Int.add_zero, w1_aload_n_0, w1_getfield, w1_iconst, w1_iaload, w1_invokevirtual, w1_istore, w1_iload, w1_bipush, w1_if_icmp, w1_goto, w1_putfield, w1_putfield2, w1_aload_n_1, w1_aload_n_2, w1_aload_n_3, w1_ireturn, w1_iinc, dX6_agrees_0, dX6_agrees_1, dX6_agrees_2, dX6_agrees_5, dX6_agrees_8, dX6_agrees_9, dX6_agrees_10, dX6_agrees_11, dX6_agrees_14, dX6_agrees_17, dX6_agrees_18, dX6_agrees_19, dX6_agrees_22, dX6_agrees_23, dX6_agrees_25, dX6_agrees_27, dX6_agrees_29, dX6_agrees_32, dX6_agrees_33, dX6_agrees_35, dX6_agrees_37, dX6_agrees_40, dX6_agrees_41, dX6_agrees_44, dX6_agrees_46, dX6_agrees_49, dX6_agrees_50, dX6_agrees_51, dX6_agrees_53, dX6_agrees_54, dX6_agrees_56, dX6_agrees_57, dX6_agrees_60, dX6_agrees_61, dX6_agrees_63, dX6_agrees_64, dX6_agrees_65, dX6_agrees_68, dX6_agrees_69, dX6_agrees_71, dX6_agrees_72, dX6_agrees_73, dX6_agrees_76, dX6_agrees_79, dX6_agrees_80, dX6_agrees_81, dX6_agrees_84, dX6_agrees_87, dX6_agrees_88, w_flk6_15, w_flk6_30, w_flk6_38, w_flk6_35, w_kd_34, w_ln_34, w_kd_88, w_rf_88_0, w_rf_88_1, w_rf_88_2, hrd2, hlv])
            (repeat' (with_reducible (first | refine And.intro ?_ ?_ | intro _))) <;> (try (first | assumption | contradiction | exact Or.inl trivial | exact Or.inl rfl | exact Or.inr rfl | (simp only [inI, inL]; omega) | omega))
            all_goals first
              | exact e
              | (exfalso; omega)
          · have c' : ¬ (w 34 m = -1 ∨ w 34 m = (rnQ (agE S lk st (rX w a) (w (13 + y))) (m + 1)).1) := c
            (apply hG [25] 2000; simp only [w_br_i, w_ite, w_all, w_all0, forall_eq, w_b0, w_b1, ↓reduceIte, w_ent, w_pos, List.replicate_succ, List.replicate_zero, wp_s, wk_s, w_lk_c, w_ld0, w_ldS, w_kp0, w_kp, w_s1, w_s2, w_to, w_if, w_call, w_sw, w_cat, w_cats, w_psh, w_fv, List.contains_cons, List.contains_nil, List.set_cons_zero, List.set_cons_succ, List.length_cons, List.length_nil, List.find?_cons, List.find?_nil, List.take_succ_cons, List.take_zero, List.drop_succ_cons, List.drop_zero, List.reverse_cons, List.reverse_nil, List.nil_append, List.cons_append, Option.map_some, Option.map_none, Nat.reduceAdd, Nat.reduceBEq, Nat.reduceEqDiff, Nat.reduceLT, Nat.reduceLeDiff, Nat.reduceSub, Int.reduceAdd, Int.reduceSub, Int.reduceMul, Int.reduceNeg, Int.reduceToNat, Int.reduceLT, Int.reduceLE, Int.reduceEq, Bool.false_eq_true, Bool.or_false, Bool.false_or, Bool.true_or, Bool.or_true, if_true, if_false, ite_true, ite_false, true_and, and_true, false_and, and_false, true_or, or_true, false_or, or_false, Int.cast_ofNat_Int, Int.toNat_natCast, Int.natCast_add, List.getElem?_cons_zero, List.getElem?_cons_succ, true_implies, forall_const, not_true_eq_false, not_false_eq_true, ne_eq, beq_iff_eq, imp_self, List.length_set, Nat.zero_add, Nat.add_zero, Int.zero_add, Int.add_zero, w1_aload_n_0, w1_getfield, w1_iconst, w1_iaload, w1_invokevirtual, w1_istore, w1_iload, w1_bipush, w1_if_icmp, w1_goto, w1_putfield, w1_putfield2, w1_aload_n_1, w1_aload_n_2, w1_aload_n_3, w1_ireturn, w1_iinc, dX6_agrees_0, dX6_agrees_1, dX6_agrees_2, dX6_agrees_5, dX6_agrees_8, dX6_agrees_9, dX6_agrees_10, dX6_agrees_11, dX6_agrees_14, dX6_agrees_17, dX6_agrees_18, dX6_agrees_19, dX6_agrees_22, dX6_agrees_23, dX6_agrees_25, dX6_agrees_27, dX6_agrees_29, dX6_agrees_32, dX6_agrees_33, dX6_agrees_35, dX6_agrees_37, dX6_agrees_40, dX6_agrees_41, dX6_agrees_44, dX6_agrees_46, dX6_agrees_49, dX6_agrees_50, dX6_agrees_51, dX6_agrees_53, dX6_agrees_54, dX6_agrees_56, dX6_agrees_57, dX6_agrees_60, dX6_agrees_61, dX6_agrees_63, dX6_agrees_64, dX6_agrees_65, dX6_agrees_68, dX6_agrees_69, dX6_agrees_71, dX6_agrees_72, dX6_agrees_73, dX6_agrees_76, dX6_agrees_79, dX6_agrees_80, dX6_agrees_81, dX6_agrees_84, dX6_agrees_87, dX6_agrees_88, w_flk6_15, w_flk6_30, w_flk6_38, w_flk6_35, w_kd_34, w_ln_34, w_kd_88, w_rf_88_0, w_rf_88_1, w_rf_88_2, hrd2, hlv])
            (repeat' (with_reducible (first | refine And.intro ?_ ?_ | intro _))) <;> (try (first | assumption | contradiction | exact Or.inl trivial | exact Or.inl rfl | exact Or.inr rfl | (simp only [inI, inL]; omega) | omega))
            all_goals first
              | (simp only [q_X6_agrees]; exact ⟨hI2.1, Or.inr ⟨by first | rfl | trivial, m, hm12, c⟩⟩)
              | (exfalso; omega)
        (apply hG [25, 60] 2000; simp only [w_br_i, w_ite, w_all, w_all0, forall_eq, w_b0, w_b1, ↓reduceIte, w_ent, w_pos, List.replicate_succ, List.replicate_zero, wp_s, wk_s, w_lk_c, w_ld0, w_ldS, w_kp0, w_kp, w_s1, w_s2, w_to, w_if, w_call, w_sw, w_cat, w_cats, w_psh, w_fv, List.contains_cons, List.contains_nil, List.set_cons_zero, List.set_cons_succ, List.length_cons, List.length_nil, List.find?_cons, List.find?_nil, List.take_succ_cons, List.take_zero, List.drop_succ_cons, List.drop_zero, List.reverse_cons, List.reverse_nil, List.nil_append, List.cons_append, Option.map_some, Option.map_none, Nat.reduceAdd, Nat.reduceBEq, Nat.reduceEqDiff, Nat.reduceLT, Nat.reduceLeDiff, Nat.reduceSub, Int.reduceAdd, Int.reduceSub, Int.reduceMul, Int.reduceNeg, Int.reduceToNat, Int.reduceLT, Int.reduceLE, Int.reduceEq, Bool.false_eq_true, Bool.or_false, Bool.false_or, Bool.true_or, Bool.or_true, if_true, if_false, ite_true, ite_false, true_and, and_true, false_and, and_false, true_or, or_true, false_or, or_false, Int.cast_ofNat_Int, Int.toNat_natCast, Int.natCast_add, List.getElem?_cons_zero, List.getElem?_cons_succ, true_implies, forall_const, not_true_eq_false, not_false_eq_true, ne_eq, beq_iff_eq, imp_self, List.length_set, Nat.zero_add, Nat.add_zero, Int.zero_add, Int.add_zero, w1_aload_n_0, w1_getfield, w1_iconst, w1_iaload, w1_invokevirtual, w1_istore, w1_iload, w1_bipush, w1_if_icmp, w1_goto, w1_putfield, w1_putfield2, w1_aload_n_1, w1_aload_n_2, w1_aload_n_3, w1_ireturn, w1_iinc, dX6_agrees_0, dX6_agrees_1, dX6_agrees_2, dX6_agrees_5, dX6_agrees_8, dX6_agrees_9, dX6_agrees_10, dX6_agrees_11, dX6_agrees_14, dX6_agrees_17, dX6_agrees_18, dX6_agrees_19, dX6_agrees_22, dX6_agrees_23, dX6_agrees_25, dX6_agrees_27, dX6_agrees_29, dX6_agrees_32, dX6_agrees_33, dX6_agrees_35, dX6_agrees_37, dX6_agrees_40, dX6_agrees_41, dX6_agrees_44, dX6_agrees_46, dX6_agrees_49, dX6_agrees_50, dX6_agrees_51, dX6_agrees_53, dX6_agrees_54, dX6_agrees_56, dX6_agrees_57, dX6_agrees_60, dX6_agrees_61, dX6_agrees_63, dX6_agrees_64, dX6_agrees_65, dX6_agrees_68, dX6_agrees_69, dX6_agrees_71, dX6_agrees_72, dX6_agrees_73, dX6_agrees_76, dX6_agrees_79, dX6_agrees_80, dX6_agrees_81, dX6_agrees_84, dX6_agrees_87, dX6_agrees_88, w_flk6_15, w_flk6_30, w_flk6_38, w_flk6_35, w_kd_88, w_rf_88_0, w_rf_88_1, w_rf_88_2, ky.1, ky.2, hrain, hpc])
        (repeat' (with_reducible (first | refine And.intro ?_ ?_ | intro _))) <;> (try (first | assumption | contradiction | exact Or.inl trivial | exact Or.inl rfl | exact Or.inr rfl | (simp only [inI, inL]; omega) | omega))
        all_goals exact e60 _ _ (by assumption)
      unfold lkF at e46
      (apply hG [25, 46] 2000; simp only [w_br_i, w_ite, w_all, w_all0, forall_eq, w_b0, w_b1, ↓reduceIte, w_ent, w_pos, List.replicate_succ, List.replicate_zero, wp_s, wk_s, w_lk_c, w_ld0, w_ldS, w_kp0, w_kp, w_s1, w_s2, w_to, w_if, w_call, w_sw, w_cat, w_cats, w_psh, w_fv, List.contains_cons, List.contains_nil, List.set_cons_zero, List.set_cons_succ, List.length_cons, List.length_nil, List.find?_cons, List.find?_nil, List.take_succ_cons, List.take_zero, List.drop_succ_cons, List.drop_zero, List.reverse_cons, List.reverse_nil, List.nil_append, List.cons_append, Option.map_some, Option.map_none, Nat.reduceAdd, Nat.reduceBEq, Nat.reduceEqDiff, Nat.reduceLT, Nat.reduceLeDiff, Nat.reduceSub, Int.reduceAdd, Int.reduceSub, Int.reduceMul, Int.reduceNeg, Int.reduceToNat, Int.reduceLT, Int.reduceLE, Int.reduceEq, Bool.false_eq_true, Bool.or_false, Bool.false_or, Bool.true_or, Bool.or_true, if_true, if_false, ite_true, ite_false, true_and, and_true, false_and, and_false, true_or, or_true, false_or, or_false, Int.cast_ofNat_Int, Int.toNat_natCast, Int.natCast_add, List.getElem?_cons_zero, List.getElem?_cons_succ, true_implies, forall_const, not_true_eq_false, not_false_eq_true, ne_eq, beq_iff_eq, imp_self, List.length_set, Nat.zero_add, Nat.add_zero, Int.zero_add, Int.add_zero, w1_aload_n_0, w1_getfield, w1_iconst, w1_iaload, w1_invokevirtual, w1_istore, w1_iload, w1_bipush, w1_if_icmp, w1_goto, w1_putfield, w1_putfield2, w1_aload_n_1, w1_aload_n_2, w1_aload_n_3, w1_ireturn, w1_iinc, dX6_agrees_0, dX6_agrees_1, dX6_agrees_2, dX6_agrees_5, dX6_agrees_8, dX6_agrees_9, dX6_agrees_10, dX6_agrees_11, dX6_agrees_14, dX6_agrees_17, dX6_agrees_18, dX6_agrees_19, dX6_agrees_22, dX6_agrees_23, dX6_agrees_25, dX6_agrees_27, dX6_agrees_29, dX6_agrees_32, dX6_agrees_33, dX6_agrees_35, dX6_agrees_37, dX6_agrees_40, dX6_agrees_41, dX6_agrees_44, dX6_agrees_46, dX6_agrees_49, dX6_agrees_50, dX6_agrees_51, dX6_agrees_53, dX6_agrees_54, dX6_agrees_56, dX6_agrees_57, dX6_agrees_60, dX6_agrees_61, dX6_agrees_63, dX6_agrees_64, dX6_agrees_65, dX6_agrees_68, dX6_agrees_69, dX6_agrees_71, dX6_agrees_72, dX6_agrees_73, dX6_agrees_76, dX6_agrees_79, dX6_agrees_80, dX6_agrees_81, dX6_agrees_84, dX6_agrees_87, dX6_agrees_88, w_flk6_15, w_flk6_30, w_flk6_38, w_flk6_35, w_kd_88, w_rf_88_0, w_rf_88_1, w_rf_88_2])
      by_cases c : (m : Int) < st
      · rw [if_pos c] at e46
        (repeat' (with_reducible (first | refine And.intro ?_ ?_ | intro _))) <;> (try (first | assumption | contradiction | exact Or.inl trivial | exact Or.inl rfl | exact Or.inr rfl | (simp only [inI, inL]; omega) | omega))
        all_goals first
          | exact e46
          | (exfalso; omega)
      · rw [if_neg c] at e46
        (repeat' (with_reducible (first | refine And.intro ?_ ?_ | intro _))) <;> (try (first | assumption | contradiction | exact Or.inl trivial | exact Or.inl rfl | exact Or.inr rfl | (simp only [inI, inL]; omega) | omega))
        all_goals first
          | exact e46
          | (exfalso; omega)
  have hpc : p_X6_startFull S [vr 88, vi (S 0 0), vi (S 0 1)] w := ⟨rfl, hXw⟩
  have e := loop 12 0 rfl (tw w (t_start w (S 0 0) (S 0 1) (S 0 4)) (w 89)) (by
    refine ⟨fun k i hk => ?_, ⟨?_, ?_⟩, ?_, ?_⟩
    · rw [tw_x _ _ _ ⟨by omega, by omega⟩]
    · rw [tw_88 _ _ _ _ (by decide)]; simp [t_start, fup, agE]
    · rw [tw_88 _ _ _ _ (by decide)]; simp [t_start, fup, agE]
    · rw [tw_88 _ _ _ _ (by decide)]; simp [t_start, fup, rnQ, agE]
    · rw [tw_88 _ _ _ _ (by decide)]; simp [t_start, fup, rnQ, agE]) (fun j hj => by omega)
  simp only [Int.cast_ofNat_Int] at e
  (apply hG [25] 2000; simp only [w_br_i, w_ite, w_all, w_all0, forall_eq, w_b0, w_b1, ↓reduceIte, w_ent, w_pos, List.replicate_succ, List.replicate_zero, wp_s, wk_s, w_lk_c, w_ld0, w_ldS, w_kp0, w_kp, w_s1, w_s2, w_to, w_if, w_call, w_sw, w_cat, w_cats, w_psh, w_fv, List.contains_cons, List.contains_nil, List.set_cons_zero, List.set_cons_succ, List.length_cons, List.length_nil, List.find?_cons, List.find?_nil, List.take_succ_cons, List.take_zero, List.drop_succ_cons, List.drop_zero, List.reverse_cons, List.reverse_nil, List.nil_append, List.cons_append, Option.map_some, Option.map_none, Nat.reduceAdd, Nat.reduceBEq, Nat.reduceEqDiff, Nat.reduceLT, Nat.reduceLeDiff, Nat.reduceSub, Int.reduceAdd, Int.reduceSub, Int.reduceMul, Int.reduceNeg, Int.reduceToNat, Int.reduceLT, Int.reduceLE, Int.reduceEq, Bool.false_eq_true, Bool.or_false, Bool.false_or, Bool.true_or, Bool.or_true, if_true, if_false, ite_true, ite_false, true_and, and_true, false_and, and_false, true_or, or_true, false_or, or_false, Int.cast_ofNat_Int, Int.toNat_natCast, Int.natCast_add, List.getElem?_cons_zero, List.getElem?_cons_succ, true_implies, forall_const, not_true_eq_false, not_false_eq_true, ne_eq, beq_iff_eq, imp_self, List.length_set, Nat.zero_add, Nat.add_zero, Int.zero_add, Int.add_zero, w1_aload_n_0, w1_getfield, w1_iconst, w1_iaload, w1_invokevirtual, w1_istore, w1_iload, w1_bipush, w1_if_icmp, w1_goto, w1_putfield, w1_putfield2, w1_aload_n_1, w1_aload_n_2, w1_aload_n_3, w1_ireturn, w1_iinc, dX6_agrees_0, dX6_agrees_1, dX6_agrees_2, dX6_agrees_5, dX6_agrees_8, dX6_agrees_9, dX6_agrees_10, dX6_agrees_11, dX6_agrees_14, dX6_agrees_17, dX6_agrees_18, dX6_agrees_19, dX6_agrees_22, dX6_agrees_23, dX6_agrees_25, dX6_agrees_27, dX6_agrees_29, dX6_agrees_32, dX6_agrees_33, dX6_agrees_35, dX6_agrees_37, dX6_agrees_40, dX6_agrees_41, dX6_agrees_44, dX6_agrees_46, dX6_agrees_49, dX6_agrees_50, dX6_agrees_51, dX6_agrees_53, dX6_agrees_54, dX6_agrees_56, dX6_agrees_57, dX6_agrees_60, dX6_agrees_61, dX6_agrees_63, dX6_agrees_64, dX6_agrees_65, dX6_agrees_68, dX6_agrees_69, dX6_agrees_71, dX6_agrees_72, dX6_agrees_73, dX6_agrees_76, dX6_agrees_79, dX6_agrees_80, dX6_agrees_81, dX6_agrees_84, dX6_agrees_87, dX6_agrees_88, w_flk6_15, w_flk6_30, w_flk6_38, w_flk6_35, w_kd_4, w_rf_4_0, w_rf_4_1, w_rf_4_2, w_rf_4_3, w_rf_4_4, w_rf_4_5, w_kd_5, w_ln_5, w_kd_88, w_rf_88_0, w_rf_88_1, w_rf_88_2, s0, s1, hpc, q_X6_startFull])
  (repeat' (with_reducible (first | refine And.intro ?_ ?_ | intro _))) <;> (try (first | assumption | contradiction | exact Or.inl trivial | exact Or.inl rfl | exact Or.inr rfl | (simp only [inI, inL]; omega) | omega))
