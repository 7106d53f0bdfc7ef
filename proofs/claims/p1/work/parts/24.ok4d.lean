theorem ok_file (x y : Int32) : qkb (f_L_file U0 g0 x y) (f_X7_file V0 x y) = true := by
  rcases new_cases x with ⟨h1, h2⟩ | ⟨h1, h2, q, hq, hq2, rfl⟩
  · rcases rights_cases y with ⟨r1, r2⟩ | ⟨r1, r2, _⟩
    all_goals
      unfold f_L_file f_X6_file f_X7_file f_X6_makeThing f_X7_begins
      rw [h1, h2, r2]
      rfl
  · rcases rights_cases y with ⟨r1, r2⟩ | ⟨r1, r2, _⟩
    · obtain ⟨V', e1, e2⟩ := begins_bad (k := 0) (r := y) (p := -1) hq hq2 h2
      refine qkb_x (k := 1) (U := U0) (g := g0) (x := 0) (V := V') ?_ ?_ e2 (fun h => absurd h (by decide))
      · unfold f_L_file f_X6_file
        rw [make_bad (Or.inl r1) h1]
        generalize U0 = W
        rfl
      · unfold f_X7_file
        rw [r2]
        dsimp only [bn_s]
        rw [e1, bn_n]
    · by_cases hl : q < 100
      · obtain ⟨U', e0⟩ := make_lo (k := 0) (r := y) (p := 0) r1 (by decide) hq hl h1
        obtain ⟨V', e1, e2⟩ := begins_lo (k := 0) (r := y) (p := -1) hq hl h2
        refine qkb_x (k := 0) (U := U') (g := setL g0 (1 : Int32).toInt64) (x := 1) (V := V') ?_ ?_ e2 (fun h => by decide)
        · unfold f_L_file f_X6_file
          rw [e0]
          rfl
        · unfold f_X7_file
          rw [r2]
          dsimp only [bn_s]
          rw [e1, bn_n]
      · obtain ⟨U', e0⟩ := make_hi (k := 0) (r := y) (p := 0) r1 (by decide) (by omega) hq2 h1
        obtain ⟨V', e1, e2⟩ := begins_hi (k := 0) (r := y) (p := -1) (by omega) hq2 h2
        refine qkb_x (k := 2) (U := U') (g := g0) (x := 0) (V := V') ?_ ?_ e2 (fun h => absurd h (by decide))
        · unfold f_L_file f_X6_file
          rw [e0]
          rfl
        · unfold f_X7_file
          rw [r2]
          dsimp only [bn_s]
          rw [e1, bn_n]
theorem ok_folder (x y : Int32) : qkb (f_L_folder U0 g0 x y) (f_X7_folder V0 x y) = true := by
  rcases new_cases x with ⟨h1, h2⟩ | ⟨h1, h2, q, hq, hq2, rfl⟩
  · rcases rights_cases y with ⟨r1, r2⟩ | ⟨r1, r2, _⟩
    all_goals
      unfold f_L_folder f_X6_folder f_X7_folder f_X6_makeThing f_X7_begins
      rw [h1, h2, r2]
      rfl
  · rcases rights_cases y with ⟨r1, r2⟩ | ⟨r1, r2, _⟩
    · obtain ⟨V', e1, e2⟩ := begins_bad (k := 1) (r := y) (p := -1) hq hq2 h2
      refine qkb_x (k := 1) (U := U0) (g := g0) (x := 0) (V := V') ?_ ?_ e2 (fun h => absurd h (by decide))
      · unfold f_L_folder f_X6_folder
        rw [make_bad (Or.inl r1) h1]
        generalize U0 = W
        rfl
      · unfold f_X7_folder
        rw [r2]
        dsimp only [bn_s]
        rw [e1, bn_n]
    · by_cases hl : q < 100
      · obtain ⟨U', e0⟩ := make_lo (k := 1) (r := y) (p := 0) r1 (by decide) hq hl h1
        obtain ⟨V', e1, e2⟩ := begins_lo (k := 1) (r := y) (p := -1) hq hl h2
        refine qkb_x (k := 0) (U := U') (g := setL g0 (1 : Int32).toInt64) (x := 1) (V := V') ?_ ?_ e2 (fun h => by decide)
        · unfold f_L_folder f_X6_folder
          rw [e0]
          rfl
        · unfold f_X7_folder
          rw [r2]
          dsimp only [bn_s]
          rw [e1, bn_n]
      · obtain ⟨U', e0⟩ := make_hi (k := 1) (r := y) (p := 0) r1 (by decide) (by omega) hq2 h1
        obtain ⟨V', e1, e2⟩ := begins_hi (k := 1) (r := y) (p := -1) (by omega) hq2 h2
        refine qkb_x (k := 2) (U := U') (g := g0) (x := 0) (V := V') ?_ ?_ e2 (fun h => absurd h (by decide))
        · unfold f_L_folder f_X6_folder
          rw [e0]
          rfl
        · unfold f_X7_folder
          rw [r2]
          dsimp only [bn_s]
          rw [e1, bn_n]
theorem ok_link (x y : Int32) : qkb (f_L_link U0 g0 x y) (f_X7_link V0 x y) = true := by
  rcases new_cases x with ⟨h1, h2⟩ | ⟨h1, h2, q, hq, hq2, rfl⟩
  · rcases path_cases2 y with ⟨r1, r2⟩ | ⟨r1, r2, _⟩
    all_goals
      unfold f_L_link f_X6_link f_X7_link f_X6_makeThing f_X7_begins
      rw [h1, h2, r2]
      rfl
  · rcases path_cases2 y with ⟨r1, r2⟩ | ⟨r1, r2, _⟩
    · obtain ⟨V', e1, e2⟩ := begins_bad (k := 2) (r := 15) (p := y) hq hq2 h2
      refine qkb_x (k := 1) (U := U0) (g := g0) (x := 0) (V := V') ?_ ?_ e2 (fun h => absurd h (by decide))
      · unfold f_L_link f_X6_link
        rw [make_bad (Or.inr ⟨by decide, r1⟩) h1]
        generalize U0 = W
        rfl
      · unfold f_X7_link
        rw [r2]
        dsimp only [bn_s]
        rw [e1, bn_n]
    · by_cases hl : q < 100
      · obtain ⟨U', e0⟩ := make_lo (k := 2) (r := 15) (p := y) (by decide) r1 hq hl h1
        obtain ⟨V', e1, e2⟩ := begins_lo (k := 2) (r := 15) (p := y) hq hl h2
        refine qkb_x (k := 0) (U := U') (g := setL g0 (1 : Int32).toInt64) (x := 1) (V := V') ?_ ?_ e2 (fun h => by decide)
        · unfold f_L_link f_X6_link
          rw [e0]
          rfl
        · unfold f_X7_link
          rw [r2]
          dsimp only [bn_s]
          rw [e1, bn_n]
      · obtain ⟨U', e0⟩ := make_hi (k := 2) (r := 15) (p := y) (by decide) r1 (by omega) hq2 h1
        obtain ⟨V', e1, e2⟩ := begins_hi (k := 2) (r := 15) (p := y) (by omega) hq2 h2
        refine qkb_x (k := 2) (U := U') (g := g0) (x := 0) (V := V') ?_ ?_ e2 (fun h => absurd h (by decide))
        · unfold f_L_link f_X6_link
          rw [e0]
          rfl
        · unfold f_X7_link
          rw [r2]
          dsimp only [bn_s]
          rw [e1, bn_n]
