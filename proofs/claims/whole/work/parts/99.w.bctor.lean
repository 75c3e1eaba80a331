/-! the constructors: tables, contracts (laid by mkctor.py) -/
def bzt_J7_fill_53178 : bzT := (cJ7_fill_53178, ([] : List (Nat × Nat × Nat × Nat)), [], [], [], 0, 99, 0, 0, [])
def bzf_J7_fill_53178 : bzF := bzFn bzt_J7_fill_53178 20 4
theorem bzc_J7_fill_53178 : bzCt yJ7_fill_53178 cJ7_fill_53178 4 0 0 0 0 bzf_J7_fill_53178 :=
  bz_met (own := RJ7) (by decide +kernel) rfl (by decide +kernel) (fun _ h => absurd h List.not_mem_nil)
    (fun _ h => absurd h List.not_mem_nil)
    (fun j h => by simp at h)
    (fun j h => by simp at h)
    (Or.inl rfl) (fun r h => by cases h)
    (fun _ h => absurd h List.not_mem_nil)
def bzt_X3_init : bzT := (cX3_init, w_fl3, [], [], [], 3, 3, 2, 76, [])
def bzf_X3_init : bzF := bzFn bzt_X3_init 20 1
theorem bzc_X3_init : bzCt yX3_init cX3_init 1 1 20 2 76 bzf_X3_init :=
  bz_met (own := RX3) (by decide +kernel) rfl (by decide +kernel) (w_flok3)
    (fun _ h => absurd h List.not_mem_nil)
    (fun j h => by simp at h)
    (fun j h => by simp at h)
    (Or.inr ⟨by decide, by decide, w_m1 28 (by decide +kernel) (by decide +kernel)⟩) (fun r h => by cases h; exact ⟨rfl, rfl⟩)
    (fun _ h => absurd h List.not_mem_nil)
def bzt_X1_init : bzT := (cX1_init, w_fl1, [], [], [], 3, 1, 6, 39, [])
def bzf_X1_init : bzF := bzFn bzt_X1_init 48 1
theorem bzc_X1_init : bzCt yX1_init cX1_init 1 1 20 6 39 bzf_X1_init :=
  bz_met (own := RX1) (by decide +kernel) rfl (by decide +kernel) (w_flok1)
    (fun _ h => absurd h List.not_mem_nil)
    (fun j h => by simp at h)
    (fun j h => by simp at h)
    (Or.inr ⟨by decide, by decide, w_m1 60 (by decide +kernel) (by decide +kernel)⟩) (fun r h => by cases h; exact ⟨rfl, rfl⟩)
    (fun _ h => absurd h List.not_mem_nil)
def bzt_X8_init : bzT := (cX8_init, w_fl8, [], [9], [], 3, 8, 9, 104, [])
def bzf_X8_init : bzF := bzFn bzt_X8_init 16 1
theorem bzc_X8_init : bzCt yX8_init cX8_init 1 1 20 9 104 bzf_X8_init :=
  bz_met (own := RX8) (by decide +kernel) rfl (by decide +kernel) (w_flok8)
    (fun _ h => absurd h List.not_mem_nil)
    (fun j h => by
      have h : j = 9 := by simpa using h
      subst h
      exact w_m1 103 (by decide +kernel) (by decide +kernel))
    (fun j h => by simp at h)
    (Or.inr ⟨by decide, by decide, w_m1 102 (by decide +kernel) (by decide +kernel)⟩) (fun r h => by cases h; exact ⟨rfl, rfl⟩)
    (fun _ h => absurd h List.not_mem_nil)
def bzt_X2_init : bzT := (cX2_init, w_fl2, [(15, 8)], [], [], 3, 2, 12, 125, [(17, (0, 1, bzf_X8_init, 9, 104))])
def bzf_X2_init : bzF := bzFn bzt_X2_init 31 1
theorem bzc_X2_init : bzCt yX2_init cX2_init 1 2 40 12 125 bzf_X2_init :=
  bz_met (own := RX2) (by decide +kernel) rfl (by decide +kernel) (w_flok2)
    (List.forall_mem_cons.mpr ⟨⟨RX8, TX8, 2, rfl, w_m1 128 (by decide +kernel) (by decide +kernel), w_m1 98 (by decide +kernel) (by decide +kernel), w_m1 4 (by decide +kernel) (by decide +kernel)⟩, fun _ h => absurd h List.not_mem_nil⟩)
    (fun j h => by simp at h)
    (fun j h => by simp at h)
    (Or.inr ⟨by decide, by decide, w_m1 127 (by decide +kernel) (by decide +kernel)⟩) (fun r h => by cases h; exact ⟨rfl, rfl⟩)
    (List.forall_mem_cons.mpr ⟨⟨_, _, bz_callIN (host := "HowBigTank") (n := 0) bzc_X8_init (w_m1 129 (by decide +kernel) (by decide +kernel)) (w_m1 100 (by decide +kernel) (by decide +kernel)) (w_m1 4 (by decide +kernel) (by decide +kernel)) (w_m1 101 (by decide +kernel) (by decide +kernel)) rfl ⟨by decide +kernel, by decide +kernel, by decide +kernel⟩, by decide, by decide⟩, fun _ h => absurd h List.not_mem_nil⟩)
def bzt_X4_init : bzT := (cX4_init, w_fl4, [], [], [], 3, 4, 1, 12, [])
def bzf_X4_init : bzF := bzFn bzt_X4_init 22 1
theorem bzc_X4_init : bzCt yX4_init cX4_init 1 1 20 1 12 bzf_X4_init :=
  bz_met (own := RX4) (by decide +kernel) rfl (by decide +kernel) (w_flok4)
    (fun _ h => absurd h List.not_mem_nil)
    (fun j h => by simp at h)
    (fun j h => by simp at h)
    (Or.inr ⟨by decide, by decide, w_m1 150 (by decide +kernel) (by decide +kernel)⟩) (fun r h => by cases h; exact ⟨rfl, rfl⟩)
    (fun _ h => absurd h List.not_mem_nil)
def bzt_X7_init : bzT := (cX7_init, w_fl7, [], [9], [], 3, 7, 31, 10951, [])
def bzf_X7_init : bzF := bzFn bzt_X7_init 89 3
theorem bzc_X7_init : bzCt yX7_init cX7_init 3 1 20 31 10951 bzf_X7_init :=
  bz_met (own := RX7) (by decide +kernel) rfl (by decide +kernel) (w_flok7)
    (fun _ h => absurd h List.not_mem_nil)
    (fun j h => by
      have h : j = 9 := by simpa using h
      subst h
      exact w_m1 191 (by decide +kernel) (by decide +kernel))
    (fun j h => by simp at h)
    (Or.inr ⟨by decide, by decide, w_m1 190 (by decide +kernel) (by decide +kernel)⟩) (fun r h => by cases h; exact ⟨rfl, rfl⟩)
    (fun _ h => absurd h List.not_mem_nil)
def bzt_X6_init : bzT := (cX6_init, w_fl6, [], [], [], 3, 6, 1, 3, [])
def bzf_X6_init : bzF := bzFn bzt_X6_init 21 3
theorem bzc_X6_init : bzCt yX6_init cX6_init 3 1 20 1 3 bzf_X6_init :=
  bz_met (own := RX6) (by decide +kernel) rfl (by decide +kernel) (w_flok6)
    (fun _ h => absurd h List.not_mem_nil)
    (fun j h => by simp at h)
    (fun j h => by simp at h)
    (Or.inr ⟨by decide, by decide, w_m1 236 (by decide +kernel) (by decide +kernel)⟩) (fun r h => by cases h; exact ⟨rfl, rfl⟩)
    (fun _ h => absurd h List.not_mem_nil)
def bzt_X5_init : bzT := (cX5_init, w_fl5, [], [], [], 3, 5, 2, 10, [])
def bzf_X5_init : bzF := bzFn bzt_X5_init 34 4
theorem bzc_X5_init : bzCt yX5_init cX5_init 4 1 20 2 10 bzf_X5_init :=
  bz_met (own := RX5) (by decide +kernel) rfl (by decide +kernel) (w_flok5)
    (fun _ h => absurd h List.not_mem_nil)
    (fun j h => by simp at h)
    (fun j h => by simp at h)
    (Or.inr ⟨by decide, by decide, w_m2 59 (by decide +kernel) (by decide +kernel)⟩) (fun r h => by cases h; exact ⟨rfl, rfl⟩)
    (fun _ h => absurd h List.not_mem_nil)
def bzt_X0_init : bzT := (cX0_init, w_fl0, [(9, 4)], [18], [], 3, 0, 43, 15331, [(11, (0, 1, bzf_X4_init, 1, 12))])
def bzf_X0_init : bzF := bzFn bzt_X0_init 87 4
theorem bzc_X0_init : bzCt yX0_init cX0_init 4 2 40 43 15331 bzf_X0_init :=
  bz_met (own := RX0) (by decide +kernel) rfl (by decide +kernel) (w_flok0)
    (List.forall_mem_cons.mpr ⟨⟨RX4, TX4, 7, rfl, w_m2 100 (by decide +kernel) (by decide +kernel), w_m1 146 (by decide +kernel) (by decide +kernel), w_m1 6 (by decide +kernel) (by decide +kernel)⟩, fun _ h => absurd h List.not_mem_nil⟩)
    (fun j h => by
      have h : j = 18 := by simpa using h
      subst h
      exact w_m2 102 (by decide +kernel) (by decide +kernel))
    (fun j h => by simp at h)
    (Or.inr ⟨by decide, by decide, w_m2 99 (by decide +kernel) (by decide +kernel)⟩) (fun r h => by cases h; exact ⟨rfl, rfl⟩)
    (List.forall_mem_cons.mpr ⟨⟨_, _, bz_callIN (host := "HowBigTank") (n := 0) bzc_X4_init (w_m2 101 (by decide +kernel) (by decide +kernel)) (w_m1 148 (by decide +kernel) (by decide +kernel)) (w_m1 6 (by decide +kernel) (by decide +kernel)) (w_m1 149 (by decide +kernel) (by decide +kernel)) rfl ⟨by decide +kernel, by decide +kernel, by decide +kernel⟩, by decide, by decide⟩, fun _ h => absurd h List.not_mem_nil⟩)
def bzt_X9_init : bzT := (cX9_init, w_fl9, [(9, 3), (16, 1), (23, 8), (30, 4), (40, 2), (58, 7), (67, 6), (76, 5), (85, 0)], [], [30], 3, 9, 134, 26893, [(11, (0, 1, bzf_X3_init, 2, 76)), (18, (0, 1, bzf_X1_init, 6, 39)), (25, (0, 1, bzf_X8_init, 9, 104)), (42, (0, 1, bzf_X2_init, 12, 125)), (47, (0, 1, bzf_X4_init, 1, 12)), (52, (1, 2, bzf_J7_fill_53178, 0, 0)), (60, (0, 3, bzf_X7_init, 31, 10951)), (69, (0, 3, bzf_X6_init, 1, 3)), (78, (0, 4, bzf_X5_init, 2, 10)), (87, (0, 4, bzf_X0_init, 43, 15331))])
def bzf_X9_init : bzF := bzFn bzt_X9_init 195 2
theorem bzc_X9_init : bzCt yX9_init cX9_init 2 3 63 134 26893 bzf_X9_init :=
  bz_met (own := RX9) (by decide +kernel) rfl (by decide +kernel) (w_flok9)
    (List.forall_mem_cons.mpr ⟨⟨RX3, TX3, 6, rfl, w_m1 23 (by decide +kernel) (by decide +kernel), w_m1 24 (by decide +kernel) (by decide +kernel), w_m1 2 (by decide +kernel) (by decide +kernel)⟩, List.forall_mem_cons.mpr ⟨⟨RX1, TX1, 7, rfl, w_m1 55 (by decide +kernel) (by decide +kernel), w_m1 56 (by decide +kernel) (by decide +kernel), w_m1 3 (by decide +kernel) (by decide +kernel)⟩, List.forall_mem_cons.mpr ⟨⟨RX8, TX8, 2, rfl, w_m1 97 (by decide +kernel) (by decide +kernel), w_m1 98 (by decide +kernel) (by decide +kernel), w_m1 4 (by decide +kernel) (by decide +kernel)⟩, List.forall_mem_cons.mpr ⟨⟨RX4, TX4, 7, rfl, w_m1 120 (by decide +kernel) (by decide +kernel), w_m1 146 (by decide +kernel) (by decide +kernel), w_m1 6 (by decide +kernel) (by decide +kernel)⟩, List.forall_mem_cons.mpr ⟨⟨RX2, TX2, 4, rfl, w_m1 122 (by decide +kernel) (by decide +kernel), w_m1 123 (by decide +kernel) (by decide +kernel), w_m1 5 (by decide +kernel) (by decide +kernel)⟩, List.forall_mem_cons.mpr ⟨⟨RX7, TX7, 11, rfl, w_m1 185 (by decide +kernel) (by decide +kernel), w_m1 186 (by decide +kernel) (by decide +kernel), w_m1 8 (by decide +kernel) (by decide +kernel)⟩, List.forall_mem_cons.mpr ⟨⟨RX6, TX6, 15, rfl, w_m1 231 (by decide +kernel) (by decide +kernel), w_m1 232 (by decide +kernel) (by decide +kernel), w_m1 9 (by decide +kernel) (by decide +kernel)⟩, List.forall_mem_cons.mpr ⟨⟨RX5, TX5, 9, rfl, w_m2 54 (by decide +kernel) (by decide +kernel), w_m2 55 (by decide +kernel) (by decide +kernel), w_m1 10 (by decide +kernel) (by decide +kernel)⟩, List.forall_mem_cons.mpr ⟨⟨RX0, TX0, 9, rfl, w_m2 94 (by decide +kernel) (by decide +kernel), w_m2 95 (by decide +kernel) (by decide +kernel), w_m1 11 (by decide +kernel) (by decide +kernel)⟩, fun _ h => absurd h List.not_mem_nil⟩⟩⟩⟩⟩⟩⟩⟩⟩)
    (fun j h => by simp at h)
    (fun j h => by
      have h : j = 30 := by simpa using h
      subst h
      exact w_m1 120 (by decide +kernel) (by decide +kernel))
    (Or.inr ⟨by decide, by decide, w_m1 20 (by decide +kernel) (by decide +kernel)⟩) (fun r h => by cases h; exact ⟨rfl, rfl⟩)
    (List.forall_mem_cons.mpr ⟨⟨_, _, bz_callIN (host := "HowBigTank") (n := 0) bzc_X3_init (w_m1 25 (by decide +kernel) (by decide +kernel)) (w_m1 26 (by decide +kernel) (by decide +kernel)) (w_m1 2 (by decide +kernel) (by decide +kernel)) (w_m1 27 (by decide +kernel) (by decide +kernel)) rfl ⟨by decide +kernel, by decide +kernel, by decide +kernel⟩, by decide, by decide⟩, List.forall_mem_cons.mpr ⟨⟨_, _, bz_callIN (host := "HowBigTank") (n := 0) bzc_X1_init (w_m1 57 (by decide +kernel) (by decide +kernel)) (w_m1 58 (by decide +kernel) (by decide +kernel)) (w_m1 3 (by decide +kernel) (by decide +kernel)) (w_m1 59 (by decide +kernel) (by decide +kernel)) rfl ⟨by decide +kernel, by decide +kernel, by decide +kernel⟩, by decide, by decide⟩, List.forall_mem_cons.mpr ⟨⟨_, _, bz_callIN (host := "HowBigTank") (n := 0) bzc_X8_init (w_m1 99 (by decide +kernel) (by decide +kernel)) (w_m1 100 (by decide +kernel) (by decide +kernel)) (w_m1 4 (by decide +kernel) (by decide +kernel)) (w_m1 101 (by decide +kernel) (by decide +kernel)) rfl ⟨by decide +kernel, by decide +kernel, by decide +kernel⟩, by decide, by decide⟩, List.forall_mem_cons.mpr ⟨⟨_, _, bz_callIN (host := "HowBigTank") (n := 0) bzc_X2_init (w_m1 124 (by decide +kernel) (by decide +kernel)) (w_m1 125 (by decide +kernel) (by decide +kernel)) (w_m1 5 (by decide +kernel) (by decide +kernel)) (w_m1 126 (by decide +kernel) (by decide +kernel)) rfl ⟨by decide +kernel, by decide +kernel, by decide +kernel⟩, by decide, by decide⟩, List.forall_mem_cons.mpr ⟨⟨_, _, bz_callIN (host := "HowBigTank") (n := 0) bzc_X4_init (w_m1 147 (by decide +kernel) (by decide +kernel)) (w_m1 148 (by decide +kernel) (by decide +kernel)) (w_m1 6 (by decide +kernel) (by decide +kernel)) (w_m1 149 (by decide +kernel) (by decide +kernel)) rfl ⟨by decide +kernel, by decide +kernel, by decide +kernel⟩, by decide, by decide⟩, List.forall_mem_cons.mpr ⟨⟨_, _, bz_callS (n := 2) bzc_J7_fill_53178 (w_m1 182 (by decide +kernel) (by decide +kernel)) (w_m1 183 (by decide +kernel) (by decide +kernel)) (w_m1 7 (by decide +kernel) (by decide +kernel)) (w_m1 184 (by decide +kernel) (by decide +kernel)) ⟨by decide +kernel, by decide +kernel, by decide +kernel⟩, by decide, by decide⟩, List.forall_mem_cons.mpr ⟨⟨_, _, bz_callI (n := 2) bzc_X7_init (w_m1 187 (by decide +kernel) (by decide +kernel)) (w_m1 188 (by decide +kernel) (by decide +kernel)) (w_m1 8 (by decide +kernel) (by decide +kernel)) (w_m1 189 (by decide +kernel) (by decide +kernel)) rfl ⟨by decide +kernel, by decide +kernel, by decide +kernel⟩, by decide, by decide⟩, List.forall_mem_cons.mpr ⟨⟨_, _, bz_callI (n := 2) bzc_X6_init (w_m1 233 (by decide +kernel) (by decide +kernel)) (w_m1 234 (by decide +kernel) (by decide +kernel)) (w_m1 9 (by decide +kernel) (by decide +kernel)) (w_m1 235 (by decide +kernel) (by decide +kernel)) rfl ⟨by decide +kernel, by decide +kernel, by decide +kernel⟩, by decide, by decide⟩, List.forall_mem_cons.mpr ⟨⟨_, _, bz_callI (n := 3) bzc_X5_init (w_m2 56 (by decide +kernel) (by decide +kernel)) (w_m2 57 (by decide +kernel) (by decide +kernel)) (w_m1 10 (by decide +kernel) (by decide +kernel)) (w_m2 58 (by decide +kernel) (by decide +kernel)) rfl ⟨by decide +kernel, by decide +kernel, by decide +kernel⟩, by decide, by decide⟩, List.forall_mem_cons.mpr ⟨⟨_, _, bz_callI (n := 3) bzc_X0_init (w_m2 96 (by decide +kernel) (by decide +kernel)) (w_m2 97 (by decide +kernel) (by decide +kernel)) (w_m1 11 (by decide +kernel) (by decide +kernel)) (w_m2 98 (by decide +kernel) (by decide +kernel)) rfl ⟨by decide +kernel, by decide +kernel, by decide +kernel⟩, by decide, by decide⟩, fun _ h => absurd h List.not_mem_nil⟩⟩⟩⟩⟩⟩⟩⟩⟩⟩)
def bzt_X10_init : bzT := (cX10_init, w_fl10, [], [], [], 1, 10, 21, 16139, [])
def bzf_X10_init : bzF := bzFn bzt_X10_init 202 2
theorem bzc_X10_init : bzCt yX10_init cX10_init 2 1 20 21 16139 bzf_X10_init :=
  bz_met (own := RX10) (by decide +kernel) rfl (by decide +kernel) (w_flok10)
    (fun _ h => absurd h List.not_mem_nil)
    (fun j h => by simp at h)
    (fun j h => by simp at h)
    (Or.inr ⟨by decide, by decide, w_m4 100 (by decide +kernel) (by decide +kernel)⟩) (fun r h => by cases h; exact ⟨rfl, rfl⟩)
    (fun _ h => absurd h List.not_mem_nil)
def bzPosL : List Nat := [0, 1, 2, 3, 4, 5, 6, 7, 8, 9, 10, 11, 12, 13, 14, 15, 16, 17, 18, 19, 20, 23, 24, 35, 25, 26, 27, 28, 29, 30, 31, 32, 33, 34, 22, 21, 38, 40, 42, 44, 46, 48, 50, 52, 36, 92, 39, 41, 43, 45, 47, 49, 51, 53, 37, 93, 54, 55, 56, 57, 58, 59, 60, 61, 62, 63, 64, 65, 66, 67, 68, 69, 70, 71, 72, 73, 74, 75, 76, 77, 78, 79, 80, 81, 82, 83, 84, 85, 86, 87, 88, 89, 90, 91, 94, 95, 96, 97, 98, 99, 100, 101, 102, 103, 104, 105, 106, 107, 108, 109, 110, 111, 112, 113, 114, 115, 116, 117, 118, 119, 120, 121, 122, 123, 124, 125, 126, 127, 128, 129, 130, 131, 132, 133, 134, 135, 136, 137, 138, 139, 140, 141, 142, 143, 144, 145, 146, 147, 148, 149, 150, 151, 152, 153, 154, 155, 156]
