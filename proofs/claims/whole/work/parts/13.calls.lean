theorem wS_of {F : wF} {G : wK} (h : wS1 F G) : wS F G := by
  have mono : ∀ (K1 K2 : wK), (∀ pc L st w, K1 pc L st w → K2 pc L st w) → ∀ i n pc L st w, w1 F K1 i n pc L st w → w1 F K2 i n pc L st w := by
    intro K1 K2 hk i n pc L st w q
    have hbr : ∀ (C : Prop) pc off L st w, w_br C pc off L st w K1 → w_br C pc off L st w K2 := fun C pc off L st w q => ⟨q.1, fun z => hk _ _ _ _ (q.2.1 z), fun z => hk _ _ _ _ (q.2.2 z)⟩
    have hsw : ∀ (os : List Int) x pc L st w lo, w_sw x pc L st w K1 lo os → w_sw x pc L st w K2 lo os := by
      intro os
      induction os with
      | nil => intro x pc L st w lo q; trivial
      | cons o os ih => intro x pc L st w lo q; exact ⟨fun z => ⟨(q.1 z).1, hk _ _ _ _ (q.1 z).2⟩, ih _ _ _ _ _ _ q.2⟩
    have hcall : ∀ kd idx pc L st w, w_call F kd idx pc L st w K1 → w_call F kd idx pc L st w K2 := by
      intro kd idx pc L st w q
      unfold w_call at q ⊢
      split at q
      · exact ⟨q.1, q.2.1, q.2.2.1, q.2.2.2.1, fun r w' z => hk _ _ _ _ (q.2.2.2.2 r w' z)⟩
      · exact q
    unfold w1 at q ⊢
    split at q
    all_goals first
      | exact q.elim
      | exact ⟨q.1, hk _ _ _ _ q.2⟩
      | exact ⟨q.1, q.2.1, hk _ _ _ _ q.2.2⟩
      | exact ⟨q.1, q.2.1, q.2.2.1, hk _ _ _ _ q.2.2.2⟩
      | exact ⟨q.1, q.2.1, hbr _ _ _ _ _ _ q.2.2⟩
      | exact ⟨q.1, hcall _ _ _ _ _ _ q.2⟩
      | exact ⟨q.1, fun z => ⟨(q.2.1 z).1, hk _ _ _ _ (q.2.1 z).2⟩, hsw _ _ _ _ _ _ _ q.2.2⟩
      | exact ⟨q.1, q.2.1, q.2.2.imp (fun z => ⟨z.1, hk _ _ _ _ z.2⟩) (fun z => ⟨z.1, z.2.1, hk _ _ _ _ z.2.2⟩)⟩
      | exact q
      | (split at q
         · rename_i z hz
           first
             | exact ⟨q.1, hk _ _ _ _ q.2⟩
             | exact ⟨q.1, q.2.1, hk _ _ _ _ q.2.2⟩
             | exact ⟨q.1, q.2.1, q.2.2.1, hk _ _ _ _ q.2.2.2⟩
         · exact q.elim)
  intro stp f
  induction f with
  | zero => intro pc L st w q; exact q
  | succ f ih =>
    intro pc L st w q
    unfold wp at q
    split at q
    · rename_i i n hd
      refine h pc i n L st w hd (mono _ _ (fun pc' L' st' w' z => ?_) _ _ _ _ _ _ q)
      by_cases hc : stp.contains pc' = true
      · simp only [hc, if_true] at z
        exact z
      · simp only [hc] at z
        exact ih _ _ _ _ z
    · exact q.elim
