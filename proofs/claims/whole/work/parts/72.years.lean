/-! a year drawn, month by month; nd: only the never dry -/
def dTb (S : wW) (R : Nat → Int → Int → Nat → Int) (w : wW) : Prop := ∀ m st, m < 12 → st < nSt S → w (95 + m) st = dE S R m st ∧ w (108 + m) st = dSh S R m st ∧ w (121 + m) st = dCo S R m st
def vV (S : wW) (R : Nat → Int → Int → Nat → Int) (nd : Int) : Nat → Nat → Int
  | 0 => fun s => if s = 2 * (S 0 1).toNat + 1 then 1 else 0
  | m + 1 => drF (dE S R m) (dSh S R m) nd (lrF S (vV S R nd m) m) (nSt S)
def kV (S : wW) (R : Nat → Int → Int → Nat → Int) (nd : Int) (m : Nat) : Int := drC (dCo S R m) (dSh S R m) nd (lrF S (vV S R nd m) m) (nSt S)
def KV (S : wW) (R : Nat → Int → Int → Nat → Int) : Nat → Int
  | 0 => 0
  | m + 1 => KV S R m * S 4 1 + kV S R 0 m
theorem sm_e {f g : Nat → Int} (n : Nat) (h : ∀ i, i < n → f i = g i) : sm f n = sm g n := sm_c n h
theorem drF_c {e e' sh sh' b b' : Nat → Int} {nd : Int} {N t : Nat} (h : ∀ s, s < N → e s = e' s ∧ sh s = sh' s ∧ b s = b' s) : drF e sh nd b N t = drF e' sh' nd b' N t :=
  sm_c N (fun s hs => by
    obtain ⟨h1, h2, h3⟩ := h s hs
    unfold drY enF dwF
    rw [h1, h2, h3])
theorem drC_c {c c' sh sh' b b' : Nat → Int} {nd : Int} {N : Nat} (h : ∀ s, s < N → c s = c' s ∧ sh s = sh' s ∧ b s = b' s) : drC c sh nd b N = drC c' sh' nd b' N :=
  sm_c N (fun s hs => by
    obtain ⟨h1, h2, h3⟩ := h s hs
    unfold dwF
    rw [h1, h2, h3])
theorem lrF_c {S : wW} {v v' : Nat → Int} {m s : Nat} (h : ∀ st, st < nSt S → v st = v' st) : lrF S v m s = lrF S v' m s :=
  sm_c _ (fun st hst => sm_c _ (fun y _ => by unfold lrY; rw [h st hst]))
/-- what is in range of a rule -/
def okR (S : wW) (R : Nat → Int → Int → Nat → Int) : Prop := ∀ (m : Nat) (lv wet : Int), m < 12 → 0 ≤ lv → lv ≤ S 0 1 → (wet = 0 ∨ wet = 1) → okr S (S 0 1) (R m lv wet) m lv
theorem dE_in {S : wW} (hS : hR S) {R : Nat → Int → Int → Nat → Int} (h : okR S R) {m st : Nat} (hm : m < 12) (hst : st < nSt S) : (0 ≤ dE S R m st ∧ dE S R m st ≤ S 0 1) ∧ (0 ≤ dSh S R m st ∧ dSh S R m st ≤ 72) ∧ (0 ≤ dCo S R m st ∧ dCo S R m st ≤ 2448) := by
  have hSz := hS.2.2.1
  unfold nSt at hst
  have ho := h m (st / 2 : Nat) (st % 2 : Nat) hm (by omega) (by omega) (by omega)
  exact ⟨zE_in hS (by omega) ho, zK_in hS (by omega) ho, zC_in hS (by omega) hSz.2 ho⟩
theorem sbl_lt {S : wW} (hS : hR S) (hy : yR S) {m y st : Nat} (hm : m < 12) (hyl : y < (S 4 1).toNat) (hst : st < nSt S) : sbl S (S (20 + y) m) st < nSt S := by
  have hSz := hS.2.2.1
  have hr := hy.2 y m hyl hm
  unfold nSt at hst ⊢
  have := (sbl_in hS hr (st := st) (by omega)).2
  omega
/-- what a number of each state behind the leak comes to, over all ways -/
theorem lr_pair {S : wW} (hS : hR S) (hy : yR S) {m : Nat} (hm : m < 12) (g v : Nat → Int) : sm (fun s => g s * lrF S v m s) (nSt S) = sm (fun st => sm (fun y => g (sbl S (S (20 + y) m) st) * v st) (S 4 1).toNat) (nSt S) := by
  have e1 : sm (fun s => g s * lrF S v m s) (nSt S) = sm (fun s => sm (fun st => g s * sm (lrY S v m s st) (S 4 1).toNat) (nSt S)) (nSt S) := sm_c _ (fun s _ => by unfold lrF; rw [sm_mul])
  rw [e1, sm_swap]
  refine sm_c _ (fun st hst => ?_)
  have e2 : sm (fun s => g s * sm (lrY S v m s st) (S 4 1).toNat) (nSt S) = sm (fun s => sm (fun y => g s * lrY S v m s st y) (S 4 1).toNat) (nSt S) := sm_c _ (fun s _ => by rw [sm_mul])
  rw [e2, sm_swap]
  refine sm_c _ (fun y hyl => ?_)
  have hlt := sbl_lt hS hy hm hyl hst
  have e3 : sm (fun s => g s * lrY S v m s st y) (nSt S) = sm (fun s => if sbl S (S (20 + y) m) st = s then (fun s => g s * v st) s else 0) (nSt S) := sm_c _ (fun s _ => by
    unfold lrY
    split
    · rfl
    · exact Int.mul_zero _)
  rw [e3, sm_pt, if_pos hlt]
theorem lrF_nn {S : wW} {v : Nat → Int} (h : ∀ st, st < nSt S → 0 ≤ v st) (m s : Nat) : 0 ≤ lrF S v m s := sm_nn _ (fun st hst => sm_nn _ (fun y _ => lrY_in (h st hst) y))
theorem lrF_mass {S : wW} (hS : hR S) (hy : yR S) {m : Nat} (hm : m < 12) (v : Nat → Int) : sm (lrF S v m) (nSt S) = S 4 1 * sm v (nSt S) := by
  have e := lr_pair hS hy hm (fun _ => 1) v
  have e1 : sm (fun s => 1 * lrF S v m s) (nSt S) = sm (lrF S v m) (nSt S) := sm_c _ (fun s _ => Int.one_mul _)
  rw [e1] at e
  rw [e]
  have e2 : sm (fun st => sm (fun y => 1 * v st) (S 4 1).toNat) (nSt S) = sm (fun st => S 4 1 * v st) (nSt S) := sm_c _ (fun st _ => by
    rw [show (fun _ : Nat => 1 * v st) = (fun _ => v st) from funext (fun _ => Int.one_mul _), sm_const, Int.mul_comm]
    have := hy.1
    rw [show (((S 4 1).toNat : Nat) : Int) = S 4 1 by omega])
  rw [e2, sm_mul]
theorem dwF_in {sh b : Nat → Int} {nd : Int} {s : Nat} (h : 0 ≤ b s) : 0 ≤ dwF sh nd b s ∧ dwF sh nd b s ≤ b s := by
  unfold dwF
  split <;> omega
theorem drF_nn {e sh b : Nat → Int} {nd : Int} {N : Nat} (h : ∀ s, s < N → 0 ≤ b s) (t : Nat) : 0 ≤ drF e sh nd b N t := sm_nn _ (fun s hs => by
  have := dwF_in (sh := sh) (nd := nd) (h s hs)
  unfold drY
  split <;> omega)
theorem drF_mass {e sh b : Nat → Int} {nd : Int} {N : Nat} (h : ∀ s, s < N → 0 ≤ b s) (M : Nat) : sm (drF e sh nd b N) M ≤ sm b N := by
  have e1 : sm (drF e sh nd b N) M = sm (fun s => sm (fun t => drY e sh nd b t s) M) N := sm_swap (fun t s => drY e sh nd b t s) N M
  rw [e1]
  refine sm_le N (fun s hs => ?_)
  have e2 : sm (fun t => drY e sh nd b t s) M = sm (fun t => if enF e s = t then (fun _ => dwF sh nd b s) t else 0) M := rfl
  rw [e2, sm_pt]
  have := dwF_in (sh := sh) (nd := nd) (h s hs)
  have := h s hs
  split <;> omega
theorem vV_in {S : wW} (hS : hR S) (hy : yR S) (R : Nat → Int → Int → Nat → Int) (nd : Int) : ∀ m, m ≤ 12 → (∀ s, 0 ≤ vV S R nd m s) ∧ (∀ M, nSt S ≤ M → sm (vV S R nd m) M ≤ pw8 m)
  | 0, _ => by
    refine ⟨fun s => by unfold vV; split <;> omega, fun M hM => ?_⟩
    have e : sm (vV S R nd 0) M = sm (fun s => if 2 * (S 0 1).toNat + 1 = s then (fun _ => (1 : Int)) s else 0) M := sm_c _ (fun s _ => by
      unfold vV
      by_cases q : s = 2 * (S 0 1).toNat + 1
      · rw [if_pos q, if_pos q.symm]
      · rw [if_neg q, if_neg (fun z => q z.symm)])
    rw [e, sm_pt]
    split <;> simp [pw8]
  | m + 1, hm => by
    have ih := vV_in hS hy R nd m (by omega)
    have hl := fun s => lrF_nn (S := S) (v := vV S R nd m) (fun st _ => ih.1 st) m s
    refine ⟨fun s => drF_nn (fun s _ => hl s) s, fun M hM => ?_⟩
    have h1 := drF_mass (e := dE S R m) (sh := dSh S R m) (nd := nd) (b := lrF S (vV S R nd m) m) (N := nSt S) (fun s _ => hl s) M
    rw [lrF_mass hS hy (by omega)] at h1
    have h2 := ih.2 (nSt S) (Nat.le_refl _)
    have h3 := sm_nn (f := vV S R nd m) (nSt S) (fun s _ => ih.1 s)
    have h4 := mul_bd hy.1.1 hy.1.2 h3 h2
    show sm (vV S R nd (m + 1)) M ≤ pw8 m * 8
    have : vV S R nd (m + 1) = drF (dE S R m) (dSh S R m) nd (lrF S (vV S R nd m) m) (nSt S) := rfl
    rw [this]
    omega
theorem pw8_12 : ∀ j, j ≤ 12 → 1 ≤ pw8 j ∧ pw8 j ≤ 68719476736 := by decide
/-- its range: each state's ways ahead of a month and behind its leak -/
theorem vV_b {S : wW} (hS : hR S) (hy : yR S) (R : Nat → Int → Int → Nat → Int) (nd : Int) {m : Nat} (hm : m < 12) : (∀ s, s < nSt S → 0 ≤ vV S R nd m s ∧ vV S R nd m s ≤ 68719476736) ∧ (∀ s, s < nSt S → 0 ≤ lrF S (vV S R nd m) m s) ∧ sm (lrF S (vV S R nd m) m) (nSt S) ≤ pw8 (m + 1) := by
  have h := vV_in hS hy R nd m (by omega)
  have hp := pw8_12 m (by omega)
  have hM := h.2 (nSt S) (Nat.le_refl _)
  refine ⟨fun s hs => ⟨h.1 s, ?_⟩, fun s _ => lrF_nn (fun st _ => h.1 st) m s, ?_⟩
  · have := sm_one (f := vV S R nd m) (n := nSt S) (fun i _ => h.1 i) hs
    omega
  · rw [lrF_mass hS hy hm]
    have h3 := sm_nn (f := vV S R nd m) (nSt S) (fun s _ => h.1 s)
    have h4 := mul_bd hy.1.1 hy.1.2 h3 hM
    show _ ≤ pw8 m * 8
    omega
theorem kV_in {S : wW} (hS : hR S) (hy : yR S) {R : Nat → Int → Int → Nat → Int} (h : okR S R) (nd : Int) {m : Nat} (hm : m < 12) : 0 ≤ kV S R nd m ∧ kV S R nd m ≤ 2448 * pw8 (m + 1) := by
  obtain ⟨-, h2, h3⟩ := vV_b hS hy R nd hm
  have e : ∀ s, s < nSt S → 0 ≤ dwF (dSh S R m) nd (lrF S (vV S R nd m) m) s * dCo S R m s ∧ dwF (dSh S R m) nd (lrF S (vV S R nd m) m) s * dCo S R m s ≤ 2448 * lrF S (vV S R nd m) m s := by
    intro s hs
    have hd := dwF_in (sh := dSh S R m) (nd := nd) (b := lrF S (vV S R nd m) m) (h2 s hs)
    have hc := (dE_in hS h hm hs).2.2
    have := mul_bd hd.1 hd.2 hc.1 hc.2
    rw [Int.mul_comm 2448]
    exact this
  unfold kV drC
  refine ⟨sm_nn _ (fun s hs => (e s hs).1), ?_⟩
  have h5 := sm_le (nSt S) (fun s hs => (e s hs).2)
  rw [sm_mul] at h5
  omega
def bdK : Nat → Int
  | 0 => 0
  | j + 1 => bdK j * 8 + 2448 * pw8 (j + 1)
theorem bdK_in : ∀ j, j ≤ 12 → 0 ≤ bdK j ∧ bdK j ≤ 2500000000000000 := by decide
theorem KV_in {S : wW} (hS : hR S) (hy : yR S) {R : Nat → Int → Int → Nat → Int} (h : okR S R) : ∀ m, m ≤ 12 → 0 ≤ KV S R m ∧ KV S R m ≤ bdK m
  | 0, _ => by simp [KV, bdK]
  | m + 1, hm => by
    have ih := KV_in hS hy h m (by omega)
    have hk := kV_in hS hy h 0 (m := m) (by omega)
    have := mul_bd ih.1 ih.2 hy.1.1 hy.1.2
    simp only [KV, bdK]
    omega
theorem dTb_of {S : wW} {R : Nat → Int → Int → Nat → Int} {w w1 : wW} (h : dTb S R w) (he : ∀ k i, 95 ≤ k → k ≤ 132 → w1 k i = w k i) : dTb S R w1 := fun m st hm hs => by
  rw [he _ _ (by omega) (by omega), he (108 + m) _ (by omega) (by omega), he (121 + m) _ (by omega) (by omega)]
  exact h m st hm hs
/-- one month in the world -/
def yrV (S : wW) (R : Nat → Int → Int → Nat → Int) (nd : Int) (w : wW) (m : Nat) (w1 : wW) : Prop := (∀ k i, k ≠ 133 → k ≠ 134 → w1 k i = w k i) ∧ (∀ s, s < 402 → w1 133 s = vV S R nd m s)
theorem yr_p1 {S w w1 : wW} {R : Nat → Int → Int → Nat → Int} {nd : Int} {m : Nat} (hS : hR S) (hXw : hX S w) (hy : yR S) (hyX : yX S w) (hm : m < 12) (h : yrV S R nd w m w1) : p_X0_letRain S [vr 93, vi m] w1 := by
  have hSz := hS.2.2.1
  refine ⟨rfl, hS, hX_of hXw (fun k i hk => h.1 k i (by omega) (by omega)), ⟨hy, yX_of hy hyX (fun k i hk => h.1 k i (by omega) (by omega))⟩, by omega, fun s hs => ?_⟩
  rw [h.2 s (by unfold nSt at hs; omega)]
  exact (vV_b hS hy R nd hm).1 s hs
theorem yr_q1 {S w w1 w2 : wW} {R : Nat → Int → Int → Nat → Int} {nd : Int} {m : Nat} {r : Int} (hS : hR S) (hm : m < 12) (h : yrV S R nd w m w1) (hq : q_X0_letRain S [vr 93, vi m] w1 r w2) : (∀ k i, k ≠ 133 → k ≠ 134 → w2 k i = w k i) ∧ ∀ s, s < 402 → w2 134 s = lrF S (vV S R nd m) m s := by
  simp only [q_X0_letRain, Int.toNat_natCast] at hq
  have hSz := hS.2.2.1
  refine ⟨fun k i k1 k2 => by rw [hq.1 k i k2]; exact h.1 k i k1 k2, fun s hs => ?_⟩
  rw [hq.2 s hs]
  exact lrF_c (fun st hst => h.2 st (by unfold nSt at hst; omega))
theorem yr_p2 {S w w2 : wW} {R : Nat → Int → Int → Nat → Int} {nd : Int} {m : Nat} (hS : hR S) (hXw : hX S w) (hy : yR S) (hok : okR S R) (htb : dTb S R w) (hm : m < 12) (hnd : inI nd) (h : (∀ k i, k ≠ 133 → k ≠ 134 → w2 k i = w k i) ∧ ∀ s, s < 402 → w2 134 s = lrF S (vV S R nd m) m s) : p_X0_draw S [vr 93, vi m, vi nd] w2 := by
  have hSz := hS.2.2.1
  refine ⟨rfl, hS, hX_of hXw (fun k i hk => h.1 k i (by omega) (by omega)), by omega, hnd, fun s hs => ?_⟩
  have hb := vV_b hS hy R nd hm
  have hd := dE_in hS hok hm hs
  have ht := htb m s hm hs
  have h1 := sm_one (f := lrF S (vV S R nd m) m) (n := nSt S) (fun i hi => hb.2.1 i hi) hs
  have h0 := hb.2.1 s hs
  have hp : pw8 (m + 1) ≤ 68719476736 := (pw8_12 (m + 1) (by omega)).2
  have hs402 : s < 402 := by unfold nSt at hs; omega
  rw [h.2 s hs402, Int.toNat_natCast, h.1 _ _ (by omega) (by omega), h.1 (108 + m) _ (by omega) (by omega), h.1 (121 + m) _ (by omega) (by omega), ht.1, ht.2.1, ht.2.2]
  refine ⟨⟨h0, by omega⟩, hd.1, ⟨by omega, by omega⟩, ⟨by omega, by omega⟩⟩
theorem yr_q2 {S w w2 w3 : wW} {R : Nat → Int → Int → Nat → Int} {nd : Int} {m : Nat} {r : Int} (hS : hR S) (htb : dTb S R w) (hm : m < 12) (h : (∀ k i, k ≠ 133 → k ≠ 134 → w2 k i = w k i) ∧ ∀ s, s < 402 → w2 134 s = lrF S (vV S R nd m) m s) (hq : q_X0_draw S [vr 93, vi m, vi nd] w2 r w3) : yrV S R nd w (m + 1) w3 ∧ r = kV S R nd m := by
  simp only [q_X0_draw, Int.toNat_natCast] at hq
  have hSz := hS.2.2.1
  obtain ⟨g1, g2, g3⟩ := hq
  have e : ∀ s, s < nSt S → w2 (95 + m) s = dE S R m s ∧ w2 (108 + m) s = dSh S R m s ∧ w2 (121 + m) s = dCo S R m s ∧ w2 134 s = lrF S (vV S R nd m) m s := by
    intro s hs
    have ht := htb m s hm hs
    have hs402 : s < 402 := by unfold nSt at hs; omega
    rw [h.1 _ _ (by omega) (by omega), h.1 (108 + m) _ (by omega) (by omega), h.1 (121 + m) _ (by omega) (by omega)]
    exact ⟨ht.1, ht.2.1, ht.2.2, h.2 s hs402⟩
  refine ⟨⟨fun k i k1 k2 => by rw [g1 k i k1]; exact h.1 k i k1 k2, fun t ht => ?_⟩, ?_⟩
  · rw [g2 t ht]
    exact drF_c (fun s hs => by have := e s hs; exact ⟨this.1, this.2.1, this.2.2.2⟩)
  · rw [g3]
    exact drC_c (fun s hs => by have := e s hs; exact ⟨this.2.2.1, this.2.1, this.2.2.2⟩)
theorem yr_0 {S w w1 : wW} {R : Nat → Int → Int → Nat → Int} {nd : Int} {r : Int} (hq : q_X0_startFull S [vr 93] w r w1) : yrV S R nd w 0 w1 := by
  simp only [q_X0_startFull] at hq
  exact ⟨fun k i k1 k2 => hq.1 k i k1, fun s hs => hq.2 s hs⟩
def p_X0_costAsLaidOut (S : wW) : List wV → wW → Prop := fun av w => match av with
  | [.inr (.inr (some this))] => this = 93 ∧ hR S ∧ hX S w ∧ (yR S ∧ yX S w) ∧ ∃ R, okR S R ∧ dTb S R w
  | _ => False
theorem h_X0_costAsLaidOut (S : wW) : ∀ av w, (p_X0_costAsLaidOut S) av w → ∃ a r, av = vr a :: r ∧ w_kd a = 100 + 0 := by
  intro av w h
  unfold p_X0_costAsLaidOut at h
  split at h
  · refine ⟨_, _, rfl, ?_⟩
    first | (rw [h.1]; rfl) | (rw [h]; rfl)
  · exact h.elim
def q_X0_costAsLaidOut (S : wW) : List wV → wW → Int → wW → Prop := fun av w r w' => match av with
  | [.inr (.inr (some this))] => (∀ k i, k ≠ 133 → k ≠ 134 → w' k i = w k i) ∧ ∀ R, okR S R → dTb S R w → r = KV S R 12
  | _ => False
set_option maxRecDepth 100000 in
set_option maxHeartbeats 4000000 in
theorem c_X0_costAsLaidOut (S : wW) : w_Ct yX0_costAsLaidOut cX0_costAsLaidOut 4 2 2 55 (p_X0_costAsLaidOut S) (q_X0_costAsLaidOut S) := by
  refine w_met (own := RX0) (fl := w_fl0) (gs := w_gs0) (kl := w_kl0) (ki := w_ki0) (cs := [(58, (0, 1, 0, (p_X0_startFull S), (q_X0_startFull S))), (61, (0, 2, 0, (p_X0_letRain S), (q_X0_letRain S))), (65, (0, 3, 2, (p_X0_draw S), (q_X0_draw S)))]) (by decide +kernel) rfl ?_ w_flok0 w_gsok0 w_klok0 w_kiok0 ?_ ?_
  · intro av w h
    unfold p_X0_costAsLaidOut at h
    split at h
    · simp [w_pos, w_cat]
    · exact h.elim
  · exact List.forall_mem_cons.mpr ⟨⟨_, _, w_callV (own := RX0) (idx := 58) (ci := 0) (c_X0_startFull S) rfl rfl (h_X0_startFull S) (w_m3 235 (by decide +kernel) (by decide +kernel)) (w_m3 237 (by decide +kernel) (by decide +kernel)) (w_m0 24 (by decide +kernel) (by decide +kernel)) (w_m1 11 (by decide +kernel) (by decide +kernel)) (w_m3 238 (by decide +kernel) (by decide +kernel)) ⟨by decide +kernel, by decide +kernel, by decide +kernel⟩, by decide, by decide⟩, List.forall_mem_cons.mpr ⟨⟨_, _, w_callV (own := RX0) (idx := 61) (ci := 0) (c_X0_letRain S) rfl rfl (h_X0_letRain S) (w_m4 1 (by decide +kernel) (by decide +kernel)) (w_m4 3 (by decide +kernel) (by decide +kernel)) (w_m0 25 (by decide +kernel) (by decide +kernel)) (w_m1 11 (by decide +kernel) (by decide +kernel)) (w_m4 4 (by decide +kernel) (by decide +kernel)) ⟨by decide +kernel, by decide +kernel, by decide +kernel⟩, by decide, by decide⟩, List.forall_mem_cons.mpr ⟨⟨_, _, w_callV (own := RX0) (idx := 65) (ci := 0) (c_X0_draw S) rfl rfl (h_X0_draw S) (w_m4 6 (by decide +kernel) (by decide +kernel)) (w_m4 8 (by decide +kernel) (by decide +kernel)) (w_m0 26 (by decide +kernel) (by decide +kernel)) (w_m1 11 (by decide +kernel) (by decide +kernel)) (w_m4 9 (by decide +kernel) (by decide +kernel)) ⟨by decide +kernel, by decide +kernel, by decide +kernel⟩, by decide, by decide⟩, fun _ h => absurd h List.not_mem_nil⟩⟩⟩
  intro av w hp
  unfold p_X0_costAsLaidOut at hp
  split at hp
  case h_2 => exact hp.elim
  rename_i this
  intro G hG
  simp only [w_ent, w_pos, w_cat, Nat.reduceEqDiff, ↓reduceIte, List.length_cons, List.length_nil, Nat.reduceAdd, Nat.reduceSub, List.cons_append, List.nil_append, List.replicate_succ, List.replicate_zero]
  obtain ⟨rfl, hS, hXw, ⟨hy, hyX⟩, R0, hok0, htb0⟩ := hp
  obtain ⟨ny, hny⟩ : ∃ n : Nat, S 4 1 = n := ⟨(S 4 1).toNat, by have := hy.1; omega⟩
  have hny8 : ny ≤ 8 := by have := hy.1; omega
  have huni : ∀ R, okR S R → dTb S R w → KV S R 12 = KV S R0 12 := by
    intro R hok htb
    have hv : ∀ m, m ≤ 12 → (∀ s, vV S R 0 m s = vV S R0 0 m s) ∧ KV S R m = KV S R0 m := by
      intro m
      induction m with
      | zero => intro _; exact ⟨fun s => rfl, rfl⟩
      | succ m ih =>
        intro hm
        have ih := ih (by omega)
        have e : ∀ s, s < nSt S → dE S R m s = dE S R0 m s ∧ dSh S R m s = dSh S R0 m s ∧ dCo S R m s = dCo S R0 m s ∧ lrF S (vV S R 0 m) m s = lrF S (vV S R0 0 m) m s := by
          intro s hs
          have a := htb m s (by omega) hs
          have b := htb0 m s (by omega) hs
          exact ⟨a.1.symm.trans b.1, a.2.1.symm.trans b.2.1, a.2.2.symm.trans b.2.2, lrF_c (fun st _ => ih.1 st)⟩
        refine ⟨fun s => drF_c (fun s hs => by have := e s hs; exact ⟨this.1, this.2.1, this.2.2.2⟩), ?_⟩
        simp only [KV]
        rw [ih.2]
        have : kV S R 0 m = kV S R0 0 m := drC_c (fun s hs => by have := e s hs; exact ⟨this.2.2.1, this.2.1, this.2.2.2⟩)
        rw [this]
    exact (hv 12 (Nat.le_refl _)).2
  have loop : ∀ d m : Nat, m + d = 12 → ∀ w1, yrV S R0 0 w m w1 → G 8 [some (vr 93), some (vl (KV S R0 m)), none, some (vi m)] [] w1 := by
    intro d
    induction d with
    | zero =>
      intro m hm w1 hw1
      have e : m = 12 := by omega
      subst e
      (apply hG [8] 2000; simp only [w_br_i, w_ite, w_all, w_all0, forall_eq, w_b0, w_b1, ↓reduceIte, w_ent, w_pos, List.replicate_succ, List.replicate_zero, wp_s, wk_s, w_lk_c, w_ld0, w_ldS, w_kp0, w_kp, w_s1, w_s2, w_to, w_if, w_call, w_sw, w_cat, w_cats, w_psh, w_fv, List.contains_cons, List.contains_nil, List.set_cons_zero, List.set_cons_succ, List.length_cons, List.length_nil, List.find?_cons, List.find?_nil, List.take_succ_cons, List.take_zero, List.drop_succ_cons, List.drop_zero, List.reverse_cons, List.reverse_nil, List.nil_append, List.cons_append, Option.map_some, Option.map_none, Nat.reduceAdd, Nat.reduceBEq, Nat.reduceEqDiff, Nat.reduceLT, Nat.reduceLeDiff, Nat.reduceSub, Int.reduceAdd, Int.reduceSub, Int.reduceMul, Int.reduceNeg, Int.reduceToNat, Int.reduceLT, Int.reduceLE, Int.reduceEq, Bool.false_eq_true, Bool.or_false, Bool.false_or, Bool.true_or, Bool.or_true, if_true, if_false, ite_true, ite_false, true_and, and_true, false_and, and_false, true_or, or_true, false_or, or_false, Int.cast_ofNat_Int, Int.toNat_natCast, Int.natCast_add, List.getElem?_cons_zero, List.getElem?_cons_succ, true_implies, forall_const, not_true_eq_false, not_false_eq_true, ne_eq, beq_iff_eq, imp_self, List.length_set, Nat.zero_add, Nat.add_zero, Int.zero_add, Int.add_zero, w1_lconst, w1_lstore_n_1, w1_aload_n_0, w1_invokevirtual, w1_iconst, w1_istore_n_3, w1_iload_n_3, w1_bipush, w1_if_icmp, w1_lload_n_1, w1_getfield, w1_i2l, w1_lmul, w1_ladd, w1_iinc, w1_goto, w1_lreturn, dX0_costAsLaidOut_0, dX0_costAsLaidOut_1, dX0_costAsLaidOut_2, dX0_costAsLaidOut_3, dX0_costAsLaidOut_6, dX0_costAsLaidOut_7, dX0_costAsLaidOut_8, dX0_costAsLaidOut_9, dX0_costAsLaidOut_11, dX0_costAsLaidOut_14, dX0_costAsLaidOut_15, dX0_costAsLaidOut_16, dX0_costAsLaidOut_19, dX0_costAsLaidOut_20, dX0_costAsLaidOut_21, dX0_costAsLaidOut_24, dX0_costAsLaidOut_27, dX0_costAsLaidOut_28, dX0_costAsLaidOut_29, dX0_costAsLaidOut_30, dX0_costAsLaidOut_31, dX0_costAsLaidOut_32, dX0_costAsLaidOut_35, dX0_costAsLaidOut_36, dX0_costAsLaidOut_37, dX0_costAsLaidOut_40, dX0_costAsLaidOut_43, dX0_costAsLaidOut_44, w_flk0_115, w_flk0_40, w_kd_93, w_rf_93_0, w_rf_93_1, w_rf_93_2, w_rf_93_3, w_rf_93_4, w_rf_93_5, w_rf_93_6, w_rf_93_7, w_rf_93_8, lc0, lc1])
      (repeat' (with_reducible (first | refine And.intro ?_ ?_ | intro _))) <;> (try (first | assumption | contradiction | exact Or.inl trivial | exact Or.inl rfl | exact Or.inr rfl | (simp only [inI, inL]; omega) | omega))
      all_goals first
        | (simp only [q_X0_costAsLaidOut]; exact ⟨hw1.1, fun R h1 h2 => (huni R h1 h2).symm⟩)
        | (exfalso; omega)
    | succ d ih =>
      intro m hm w1 hw1
      have hpc := yr_p1 hS hXw hy hyX (show m < 12 by omega) hw1
      have e19 : ∀ r w2, q_X0_letRain S [vr 93, vi m] w1 r w2 → G 19 [some (vr 93), some (vl (KV S R0 m)), none, some (vi m)] [] w2 := by
        intro r w2 hq
        have h2 := yr_q1 hS (show m < 12 by omega) hw1 hq
        have hpc2 := yr_p2 hS hXw hy hok0 htb0 (show m < 12 by omega) w_i0 h2
        have hc : w2 11 1 = ny := by rw [h2.1 11 1 (by decide) (by decide), hyX.1, hny]
        have e35 : ∀ r w3, q_X0_draw S [vr 93, vi m, vi 0] w2 r w3 → G 35 [some (vr 93), some (vl (KV S R0 m)), none, some (vi m)] [vl r, vl (KV S R0 m * ny)] w3 := by
          intro r w3 hq
          obtain ⟨h3, rfl⟩ := yr_q2 hS htb0 (show m < 12 by omega) h2 hq
          have e := ih (m + 1) (by omega) w3 h3
          simp only [KV, hny, Int.natCast_add, Int.cast_ofNat_Int] at e
          (apply hG [8] 2000; simp only [w_br_i, w_ite, w_all, w_all0, forall_eq, w_b0, w_b1, ↓reduceIte, w_ent, w_pos, List.replicate_succ, List.replicate_zero, wp_s, wk_s, w_lk_c, w_ld0, w_ldS, w_kp0, w_kp, w_s1, w_s2, w_to, w_if, w_call, w_sw, w_cat, w_cats, w_psh, w_fv, List.contains_cons, List.contains_nil, List.set_cons_zero, List.set_cons_succ, List.length_cons, List.length_nil, List.find?_cons, List.find?_nil, List.take_succ_cons, List.take_zero, List.drop_succ_cons, List.drop_zero, List.reverse_cons, List.reverse_nil, List.nil_append, List.cons_append, Option.map_some, Option.map_none, Nat.reduceAdd, Nat.reduceBEq, Nat.reduceEqDiff, Nat.reduceLT, Nat.reduceLeDiff, Nat.reduceSub, Int.reduceAdd, Int.reduceSub, Int.reduceMul, Int.reduceNeg, Int.reduceToNat, Int.reduceLT, Int.reduceLE, Int.reduceEq, Bool.false_eq_true, Bool.or_false, Bool.false_or, Bool.true_or, Bool.or_true, if_true, if_false, ite_true, ite_false, true_and, and_true, false_and, and_false, true_or, or_true, false_or, or_false, Int.cast_ofNat_Int, Int.toNat_natCast, Int.natCast_add, List.getElem?_cons_zero, List.getElem?_cons_succ, true_implies, forall_const, not_true_eq_false, not_false_eq_true, ne_eq, beq_iff_eq, imp_self, List.length_set, Nat.zero_add, Nat.add_zero, Int.zero_add, Int.add_zero, w1_lconst, w1_lstore_n_1, w1_aload_n_0, w1_invokevirtual, w1_iconst, w1_istore_n_3, w1_iload_n_3, w1_bipush, w1_if_icmp, w1_lload_n_1, w1_getfield, w1_i2l, w1_lmul, w1_ladd, w1_iinc, w1_goto, w1_lreturn, dX0_costAsLaidOut_0, dX0_costAsLaidOut_1, dX0_costAsLaidOut_2, dX0_costAsLaidOut_3, dX0_costAsLaidOut_6, dX0_costAsLaidOut_7, dX0_costAsLaidOut_8, dX0_costAsLaidOut_9, dX0_costAsLaidOut_11, dX0_costAsLaidOut_14, dX0_costAsLaidOut_15, dX0_costAsLaidOut_16, dX0_costAsLaidOut_19, dX0_costAsLaidOut_20, dX0_costAsLaidOut_21, dX0_costAsLaidOut_24, dX0_costAsLaidOut_27, dX0_costAsLaidOut_28, dX0_costAsLaidOut_29, dX0_costAsLaidOut_30, dX0_costAsLaidOut_31, dX0_costAsLaidOut_32, dX0_costAsLaidOut_35, dX0_costAsLaidOut_36, dX0_costAsLaidOut_37, dX0_costAsLaidOut_40, dX0_costAsLaidOut_43, dX0_costAsLaidOut_44, w_flk0_115, w_flk0_40, w_kd_93, w_rf_93_0, w_rf_93_1, w_rf_93_2, w_rf_93_3, w_rf_93_4, w_rf_93_5, w_rf_93_6, w_rf_93_7, w_rf_93_8, lc0, lc1])
          exact e
        (apply hG [35, 8] 2000; simp only [w_br_i, w_ite, w_all, w_all0, forall_eq, w_b0, w_b1, ↓reduceIte, w_ent, w_pos, List.replicate_succ, List.replicate_zero, wp_s, wk_s, w_lk_c, w_ld0, w_ldS, w_kp0, w_kp, w_s1, w_s2, w_to, w_if, w_call, w_sw, w_cat, w_cats, w_psh, w_fv, List.contains_cons, List.contains_nil, List.set_cons_zero, List.set_cons_succ, List.length_cons, List.length_nil, List.find?_cons, List.find?_nil, List.take_succ_cons, List.take_zero, List.drop_succ_cons, List.drop_zero, List.reverse_cons, List.reverse_nil, List.nil_append, List.cons_append, Option.map_some, Option.map_none, Nat.reduceAdd, Nat.reduceBEq, Nat.reduceEqDiff, Nat.reduceLT, Nat.reduceLeDiff, Nat.reduceSub, Int.reduceAdd, Int.reduceSub, Int.reduceMul, Int.reduceNeg, Int.reduceToNat, Int.reduceLT, Int.reduceLE, Int.reduceEq, Bool.false_eq_true, Bool.or_false, Bool.false_or, Bool.true_or, Bool.or_true, if_true, if_false, ite_true, ite_false, true_and, and_true, false_and, and_false, true_or, or_true, false_or, or_false, Int.cast_ofNat_Int, Int.toNat_natCast, Int.natCast_add, List.getElem?_cons_zero, List.getElem?_cons_succ, true_implies, forall_const, not_true_eq_false, not_false_eq_true, ne_eq, beq_iff_eq, imp_self, List.length_set, Nat.zero_add, Nat.add_zero, Int.zero_add, Int.add_zero, w1_lconst, w1_lstore_n_1, w1_aload_n_0, w1_invokevirtual, w1_iconst, w1_istore_n_3, w1_iload_n_3, w1_bipush, w1_if_icmp, w1_lload_n_1, w1_getfield, w1_i2l, w1_lmul, w1_ladd, w1_iinc, w1_goto, w1_lreturn, dX0_costAsLaidOut_0, dX0_costAsLaidOut_1, dX0_costAsLaidOut_2, dX0_costAsLaidOut_3, dX0_costAsLaidOut_6, dX0_costAsLaidOut_7, dX0_costAsLaidOut_8, dX0_costAsLaidOut_9, dX0_costAsLaidOut_11, dX0_costAsLaidOut_14, dX0_costAsLaidOut_15, dX0_costAsLaidOut_16, dX0_costAsLaidOut_19, dX0_costAsLaidOut_20, dX0_costAsLaidOut_21, dX0_costAsLaidOut_24, dX0_costAsLaidOut_27, dX0_costAsLaidOut_28, dX0_costAsLaidOut_29, dX0_costAsLaidOut_30, dX0_costAsLaidOut_31, dX0_costAsLaidOut_32, dX0_costAsLaidOut_35, dX0_costAsLaidOut_36, dX0_costAsLaidOut_37, dX0_costAsLaidOut_40, dX0_costAsLaidOut_43, dX0_costAsLaidOut_44, w_flk0_115, w_flk0_40, w_kd_11, w_rf_11_0, w_kd_93, w_rf_93_0, w_rf_93_1, w_rf_93_2, w_rf_93_3, w_rf_93_4, w_rf_93_5, w_rf_93_6, w_rf_93_7, w_rf_93_8, lc0, lc1, hc, hpc2])
        (repeat' (with_reducible (first | refine And.intro ?_ ?_ | intro _))) <;> (try (first | assumption | contradiction | exact Or.inl trivial | exact Or.inl rfl | exact Or.inr rfl | (simp only [inI, inL]; omega) | omega))
        all_goals exact e35 _ _ (by assumption)
      (apply hG [19, 8] 2000; simp only [w_br_i, w_ite, w_all, w_all0, forall_eq, w_b0, w_b1, ↓reduceIte, w_ent, w_pos, List.replicate_succ, List.replicate_zero, wp_s, wk_s, w_lk_c, w_ld0, w_ldS, w_kp0, w_kp, w_s1, w_s2, w_to, w_if, w_call, w_sw, w_cat, w_cats, w_psh, w_fv, List.contains_cons, List.contains_nil, List.set_cons_zero, List.set_cons_succ, List.length_cons, List.length_nil, List.find?_cons, List.find?_nil, List.take_succ_cons, List.take_zero, List.drop_succ_cons, List.drop_zero, List.reverse_cons, List.reverse_nil, List.nil_append, List.cons_append, Option.map_some, Option.map_none, Nat.reduceAdd, Nat.reduceBEq, Nat.reduceEqDiff, Nat.reduceLT, Nat.reduceLeDiff, Nat.reduceSub, Int.reduceAdd, Int.reduceSub, Int.reduceMul, Int.reduceNeg, Int.reduceToNat, Int.reduceLT, Int.reduceLE, Int.reduceEq, Bool.false_eq_true, Bool.or_false, Bool.false_or, Bool.true_or, Bool.or_true, if_true, if_false, ite_true, ite_false, true_and, and_true, false_and, and_false, true_or, or_true, false_or, or_false, Int.cast_ofNat_Int, Int.toNat_natCast, Int.natCast_add, List.getElem?_cons_zero, List.getElem?_cons_succ, true_implies, forall_const, not_true_eq_false, not_false_eq_true, ne_eq, beq_iff_eq, imp_self, List.length_set, Nat.zero_add, Nat.add_zero, Int.zero_add, Int.add_zero, w1_lconst, w1_lstore_n_1, w1_aload_n_0, w1_invokevirtual, w1_iconst, w1_istore_n_3, w1_iload_n_3, w1_bipush, w1_if_icmp, w1_lload_n_1, w1_getfield, w1_i2l, w1_lmul, w1_ladd, w1_iinc, w1_goto, w1_lreturn, dX0_costAsLaidOut_0, dX0_costAsLaidOut_1, dX0_costAsLaidOut_2, dX0_costAsLaidOut_3, dX0_costAsLaidOut_6, dX0_costAsLaidOut_7, dX0_costAsLaidOut_8, dX0_costAsLaidOut_9, dX0_costAsLaidOut_11, dX0_costAsLaidOut_14, dX0_costAsLaidOut_15, dX0_costAsLaidOut_16, dX0_costAsLaidOut_19, dX0_costAsLaidOut_20, dX0_costAsLaidOut_21, dX0_costAsLaidOut_24, dX0_costAsLaidOut_27, dX0_costAsLaidOut_28, dX0_costAsLaidOut_29, dX0_costAsLaidOut_30, dX0_costAsLaidOut_31, dX0_costAsLaidOut_32, dX0_costAsLaidOut_35, dX0_costAsLaidOut_36, dX0_costAsLaidOut_37, dX0_costAsLaidOut_40, dX0_costAsLaidOut_43, dX0_costAsLaidOut_44, w_flk0_115, w_flk0_40, w_kd_93, w_rf_93_0, w_rf_93_1, w_rf_93_2, w_rf_93_3, w_rf_93_4, w_rf_93_5, w_rf_93_6, w_rf_93_7, w_rf_93_8, lc0, lc1, hpc])
      (repeat' (with_reducible (first | refine And.intro ?_ ?_ | intro _))) <;> (try (first | assumption | contradiction | exact Or.inl trivial | exact Or.inl rfl | exact Or.inr rfl | (simp only [inI, inL]; omega) | omega))
      all_goals first
        | exact e19 _ _ (by assumption)
        | (exfalso; omega)
  have hpc : p_X0_startFull S [vr 93] w := ⟨rfl, hS, hXw⟩
  have e6 : ∀ r w1, q_X0_startFull S [vr 93] w r w1 → G 6 [some (vr 93), some (vl 0), none, none] [] w1 := by
    intro r w1 hq
    have e := loop 12 0 rfl w1 (yr_0 hq)
    simp only [KV, Int.cast_ofNat_Int] at e
    (apply hG [8] 2000; simp only [w_br_i, w_ite, w_all, w_all0, forall_eq, w_b0, w_b1, ↓reduceIte, w_ent, w_pos, List.replicate_succ, List.replicate_zero, wp_s, wk_s, w_lk_c, w_ld0, w_ldS, w_kp0, w_kp, w_s1, w_s2, w_to, w_if, w_call, w_sw, w_cat, w_cats, w_psh, w_fv, List.contains_cons, List.contains_nil, List.set_cons_zero, List.set_cons_succ, List.length_cons, List.length_nil, List.find?_cons, List.find?_nil, List.take_succ_cons, List.take_zero, List.drop_succ_cons, List.drop_zero, List.reverse_cons, List.reverse_nil, List.nil_append, List.cons_append, Option.map_some, Option.map_none, Nat.reduceAdd, Nat.reduceBEq, Nat.reduceEqDiff, Nat.reduceLT, Nat.reduceLeDiff, Nat.reduceSub, Int.reduceAdd, Int.reduceSub, Int.reduceMul, Int.reduceNeg, Int.reduceToNat, Int.reduceLT, Int.reduceLE, Int.reduceEq, Bool.false_eq_true, Bool.or_false, Bool.false_or, Bool.true_or, Bool.or_true, if_true, if_false, ite_true, ite_false, true_and, and_true, false_and, and_false, true_or, or_true, false_or, or_false, Int.cast_ofNat_Int, Int.toNat_natCast, Int.natCast_add, List.getElem?_cons_zero, List.getElem?_cons_succ, true_implies, forall_const, not_true_eq_false, not_false_eq_true, ne_eq, beq_iff_eq, imp_self, List.length_set, Nat.zero_add, Nat.add_zero, Int.zero_add, Int.add_zero, w1_lconst, w1_lstore_n_1, w1_aload_n_0, w1_invokevirtual, w1_iconst, w1_istore_n_3, w1_iload_n_3, w1_bipush, w1_if_icmp, w1_lload_n_1, w1_getfield, w1_i2l, w1_lmul, w1_ladd, w1_iinc, w1_goto, w1_lreturn, dX0_costAsLaidOut_0, dX0_costAsLaidOut_1, dX0_costAsLaidOut_2, dX0_costAsLaidOut_3, dX0_costAsLaidOut_6, dX0_costAsLaidOut_7, dX0_costAsLaidOut_8, dX0_costAsLaidOut_9, dX0_costAsLaidOut_11, dX0_costAsLaidOut_14, dX0_costAsLaidOut_15, dX0_costAsLaidOut_16, dX0_costAsLaidOut_19, dX0_costAsLaidOut_20, dX0_costAsLaidOut_21, dX0_costAsLaidOut_24, dX0_costAsLaidOut_27, dX0_costAsLaidOut_28, dX0_costAsLaidOut_29, dX0_costAsLaidOut_30, dX0_costAsLaidOut_31, dX0_costAsLaidOut_32, dX0_costAsLaidOut_35, dX0_costAsLaidOut_36, dX0_costAsLaidOut_37, dX0_costAsLaidOut_40, dX0_costAsLaidOut_43, dX0_costAsLaidOut_44, w_flk0_115, w_flk0_40, w_kd_93, w_rf_93_0, w_rf_93_1, w_rf_93_2, w_rf_93_3, w_rf_93_4, w_rf_93_5, w_rf_93_6, w_rf_93_7, w_rf_93_8, lc0, lc1])
    exact e
  (apply hG [6, 8] 2000; simp only [w_br_i, w_ite, w_all, w_all0, forall_eq, w_b0, w_b1, ↓reduceIte, w_ent, w_pos, List.replicate_succ, List.replicate_zero, wp_s, wk_s, w_lk_c, w_ld0, w_ldS, w_kp0, w_kp, w_s1, w_s2, w_to, w_if, w_call, w_sw, w_cat, w_cats, w_psh, w_fv, List.contains_cons, List.contains_nil, List.set_cons_zero, List.set_cons_succ, List.length_cons, List.length_nil, List.find?_cons, List.find?_nil, List.take_succ_cons, List.take_zero, List.drop_succ_cons, List.drop_zero, List.reverse_cons, List.reverse_nil, List.nil_append, List.cons_append, Option.map_some, Option.map_none, Nat.reduceAdd, Nat.reduceBEq, Nat.reduceEqDiff, Nat.reduceLT, Nat.reduceLeDiff, Nat.reduceSub, Int.reduceAdd, Int.reduceSub, Int.reduceMul, Int.reduceNeg, Int.reduceToNat, Int.reduceLT, Int.reduceLE, Int.reduceEq, Bool.false_eq_true, Bool.or_false, Bool.false_or, Bool.true_or, Bool.or_true, if_true, if_false, ite_true, ite_false, true_and, and_true, false_and, and_false, true_or, or_true, false_or, or_false, Int.cast_ofNat_Int, Int.toNat_natCast, Int.natCast_add, List.getElem?_cons_zero, List.getElem?_cons_succ, true_implies, forall_const, not_true_eq_false, not_false_eq_true, ne_eq, beq_iff_eq, imp_self, List.length_set, Nat.zero_add, Nat.add_zero, Int.zero_add, Int.add_zero, w1_lconst, w1_lstore_n_1, w1_aload_n_0, w1_invokevirtual, w1_iconst, w1_istore_n_3, w1_iload_n_3, w1_bipush, w1_if_icmp, w1_lload_n_1, w1_getfield, w1_i2l, w1_lmul, w1_ladd, w1_iinc, w1_goto, w1_lreturn, dX0_costAsLaidOut_0, dX0_costAsLaidOut_1, dX0_costAsLaidOut_2, dX0_costAsLaidOut_3, dX0_costAsLaidOut_6, dX0_costAsLaidOut_7, dX0_costAsLaidOut_8, dX0_costAsLaidOut_9, dX0_costAsLaidOut_11, dX0_costAsLaidOut_14, dX0_costAsLaidOut_15, dX0_costAsLaidOut_16, dX0_costAsLaidOut_19, dX0_costAsLaidOut_20, dX0_costAsLaidOut_21, dX0_costAsLaidOut_24, dX0_costAsLaidOut_27, dX0_costAsLaidOut_28, dX0_costAsLaidOut_29, dX0_costAsLaidOut_30, dX0_costAsLaidOut_31, dX0_costAsLaidOut_32, dX0_costAsLaidOut_35, dX0_costAsLaidOut_36, dX0_costAsLaidOut_37, dX0_costAsLaidOut_40, dX0_costAsLaidOut_43, dX0_costAsLaidOut_44, w_flk0_115, w_flk0_40, w_kd_93, w_rf_93_0, w_rf_93_1, w_rf_93_2, w_rf_93_3, w_rf_93_4, w_rf_93_5, w_rf_93_6, w_rf_93_7, w_rf_93_8, lc0, lc1, hpc])
  (repeat' (with_reducible (first | refine And.intro ?_ ?_ | intro _))) <;> (try (first | assumption | contradiction | exact Or.inl trivial | exact Or.inl rfl | exact Or.inr rfl | (simp only [inI, inL]; omega) | omega))
  all_goals exact e6 _ _ (by assumption)
