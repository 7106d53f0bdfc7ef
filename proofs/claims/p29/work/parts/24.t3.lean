theorem t_X6_isUser (p0 : Int32) : cg_O (f_X6_isUser p0) (fun z => (z.toInt = 0 ∨ (0 ≤ p0.toInt ∧ p0.toInt < 4))) := by
  unfold f_X6_isUser
  try dsimp only [jn]
  refine cg_lt2 (Eq.refl ((p0) : Int32).toInt) (by decide : (0 : Int32).toInt = 0) (fun h_1 => ?_) (fun h_1 => ?_)
  · exact cg_some (show ((vp_nar .boolean 0).toInt = 0 ∨ (0 ≤ p0.toInt ∧ p0.toInt < 4)) from (by first | omega | decide | exact Or.inl (by decide) | exact Or.inr (by omega)))
  · refine cg_le2 (by decide : (4 : Int32).toInt = 4) (Eq.refl ((p0) : Int32).toInt) (fun h_2 => ?_) (fun h_2 => ?_)
    · exact cg_some (show ((vp_nar .boolean 0).toInt = 0 ∨ (0 ≤ p0.toInt ∧ p0.toInt < 4)) from (by first | omega | decide | exact Or.inl (by decide) | exact Or.inr (by omega)))
    · exact cg_some (show ((vp_nar .boolean 1).toInt = 0 ∨ (0 ≤ p0.toInt ∧ p0.toInt < 4)) from (by first | omega | decide | exact Or.inl (by decide) | exact Or.inr (by omega)))
theorem t_X6_isNewPath (p0 : Int32) : cg_O (f_X6_isNewPath p0) (fun z => True) := by
  unfold f_X6_isNewPath
  try dsimp only [jn]
  refine cg_lt2 (Eq.refl ((p0) : Int32).toInt) (by decide : (1 : Int32).toInt = 1) (fun h_1 => ?_) (fun h_1 => ?_)
  · exact cg_some trivial
  · refine cg_lt2 (by decide : (99999999 : Int32).toInt = 99999999) (Eq.refl ((p0) : Int32).toInt) (fun h_2 => ?_) (fun h_2 => ?_)
    · exact cg_some trivial
    · exact cg_some trivial
theorem t_X6_isRights (p0 : Int32) : cg_O (f_X6_isRights p0) (fun z => True) := by
  unfold f_X6_isRights
  try dsimp only [jn]
  refine cg_lt2 (Eq.refl ((p0) : Int32).toInt) (by decide : (0 : Int32).toInt = 0) (fun h_1 => ?_) (fun h_1 => ?_)
  · exact cg_some trivial
  · refine cg_lt2 (by decide : (15 : Int32).toInt = 15) (Eq.refl ((p0) : Int32).toInt) (fun h_2 => ?_) (fun h_2 => ?_)
    · exact cg_some trivial
    · exact cg_some trivial
theorem t_X6_isPath (p0 : Int32) : cg_O (f_X6_isPath p0) (fun z => True) := by
  unfold f_X6_isPath
  try dsimp only [jn]
  refine cg_lt2 (Eq.refl ((p0) : Int32).toInt) (by decide : (0 : Int32).toInt = 0) (fun h_1 => ?_) (fun h_1 => ?_)
  · exact cg_some trivial
  · refine cg_lt2 (by decide : (99999999 : Int32).toInt = 99999999) (Eq.refl ((p0) : Int32).toInt) (fun h_2 => ?_) (fun h_2 => ?_)
    · exact cg_some trivial
    · exact cg_some trivial
theorem t_X6_folderAhead (U : S2) (p1 : Int32) (h0 : cg_U U) : cg_O (f_X6_folderAhead U p1) (fun z => (cg_G U z.2)) := by
  unfold f_X6_folderAhead
  try dsimp only [jn]
  refine cg_bn (t_X5_thingAt (U 6) (U 1) (p1 / 100) 1 ) (fun z_1 hz_1 => ?_)
  refine cg_bv (fun u_2 eu_2 => ?_)
  have gu_2 : cg_G U u_2 := by rw [eu_2]; exact (g_oth (g_refl h0) (by decide) (by decide) (by decide))
  refine cg_bn (t_X4_isOfKind (u_2 1) z_1.1 1 ) (fun z_3 hz_3 => ?_)
  refine cg_eq2 (Eq.refl ((z_3) : Int32).toInt) (by decide : (0 : Int32).toInt = 0) (fun h_1 => ?_) (fun h_1 => ?_)
  · exact cg_some (show (cg_G U u_2) from gu_2)
  · exact cg_some (show (cg_G U u_2) from gu_2)
theorem t_X6_may (U : S2) (p1 : Int32) (p2 : Int32) (p3 : Int32) (h0 : cg_U U) : cg_O (f_X6_may U p1 p2 p3) (fun z => True) := by
  unfold f_X6_may
  try dsimp only [jn]
  refine cg_bn (t_X4_ownerOf (U 1) p1 ) (fun z_1 hz_1 => ?_)
  refine cg_eq2 (Eq.refl ((U 0 10 0) : Int32).toInt) (Eq.refl ((z_1) : Int32).toInt) (fun h_1 => ?_) (fun h_1 => ?_)
  · refine cg_eq2 (Eq.refl ((U 0 10 0) : Int32).toInt) (by decide : (0 : Int32).toInt = 0) (fun h_2 => ?_) (fun h_2 => ?_)
    · exact cg_some trivial
    · refine cg_bn (t_X4_rightsOf (U 1) p1 ) (fun z_6 hz_6 => ?_)
      refine cg_eq2 (Eq.refl ((z_6 &&& p2) : Int32).toInt) (by decide : (0 : Int32).toInt = 0) (fun h_3 => ?_) (fun h_3 => ?_)
      · exact cg_some trivial
      · exact cg_some trivial
  · refine cg_eq2 (Eq.refl ((U 0 10 0) : Int32).toInt) (by decide : (0 : Int32).toInt = 0) (fun h_4 => ?_) (fun h_4 => ?_)
    · exact cg_some trivial
    · refine cg_bn (t_X4_rightsOf (U 1) p1 ) (fun z_6 hz_6 => ?_)
      refine cg_eq2 (Eq.refl ((z_6 &&& p3) : Int32).toInt) (by decide : (0 : Int32).toInt = 0) (fun h_5 => ?_) (fun h_5 => ?_)
      · exact cg_some trivial
      · exact cg_some trivial
theorem t_X6_mayWrite (U : S2) (p1 : Int32) (h0 : cg_U U) : cg_O (f_X6_mayWrite U p1) (fun z => True) := by
  unfold f_X6_mayWrite
  try dsimp only [jn]
  refine cg_bn (t_X6_may U p1 4 1 ((g_refl h0)).1) (fun z_1 hz_1 => ?_)
  exact cg_some trivial
theorem t_X6_canTakeNewName (U : S2) (p1 : Int32) (p2 : Int32) (h0 : cg_U U) : cg_O (f_X6_canTakeNewName U p1 p2) (fun z => True) := by
  unfold f_X6_canTakeNewName
  try dsimp only [jn]
  refine cg_bn (t_X4_thingNamed (U 1) p1 p2 ) (fun z_1 hz_1 => ?_)
  refine cg_eq2 (Eq.refl ((z_1) : Int32).toInt) (by decide : (-1 : Int32).toInt = -1) (fun h_1 => ?_) (fun h_1 => ?_)
  · refine cg_bn (t_X4_sizeOf (U 1) p1 (g_sz (g_refl h0) (by decide) (by decide))) (fun z_5 hz_5 => ?_)
    refine cg_le2 (by decide : (8 : Int32).toInt = 8) (Eq.refl ((z_5) : Int32).toInt) (fun h_2 => ?_) (fun h_2 => ?_)
    · exact cg_some trivial
    · refine cg_bn (t_X6_mayWrite U p1 ((g_refl h0)).1) (fun z_7 hz_7 => ?_)
      refine cg_eq2 (Eq.refl ((z_7) : Int32).toInt) (by decide : (0 : Int32).toInt = 0) (fun h_3 => ?_) (fun h_3 => ?_)
      · exact cg_some trivial
      · exact cg_some trivial
  · exact cg_some trivial
theorem t_X6_makeThing (U : S2) (p1 : Int32) (p2 : Int32) (p3 : Int32) (p4 : Int32) (h0 : cg_U U) : cg_O (f_X6_makeThing U p1 p2 p3 p4) (fun z => (z.1 = 0 ∨ z.1 = 1 ∨ z.1 = 2 ∨ z.1 = 3) ∧ (cg_G U z.2.2)) := by
  unfold f_X6_makeThing
  try dsimp only [jn]
  refine cg_bn (t_X6_isNewPath p2 ) (fun z_1 hz_1 => ?_)
  refine cg_eq2 (Eq.refl ((z_1) : Int32).toInt) (by decide : (0 : Int32).toInt = 0) (fun h_1 => ?_) (fun h_1 => ?_)
  · exact cg_some (show (1 = 0 ∨ 1 = 1 ∨ 1 = 2 ∨ 1 = 3) ∧ (cg_G U U) from ⟨(by decide), (g_refl h0)⟩)
  · refine cg_bn (t_X6_isRights p3 ) (fun z_4 hz_4 => ?_)
    refine cg_eq2 (Eq.refl ((z_4) : Int32).toInt) (by decide : (0 : Int32).toInt = 0) (fun h_2 => ?_) (fun h_2 => ?_)
    · exact cg_some (show (1 = 0 ∨ 1 = 1 ∨ 1 = 2 ∨ 1 = 3) ∧ (cg_G U U) from ⟨(by decide), (g_refl h0)⟩)
    · refine cg_bn (t_X6_isPath p4 ) (fun z_6 hz_6 => ?_)
      refine cg_eq2 (Eq.refl ((z_6) : Int32).toInt) (by decide : (0 : Int32).toInt = 0) (fun h_3 => ?_) (fun h_3 => ?_)
      · exact cg_some (show (1 = 0 ∨ 1 = 1 ∨ 1 = 2 ∨ 1 = 3) ∧ (cg_G U U) from ⟨(by decide), (g_refl h0)⟩)
      · refine cg_bn (t_X6_folderAhead U p2 ((g_refl h0)).1) (fun z_8 hz_8 => ?_)
        refine cg_eq2 (Eq.refl ((z_8.1) : Int32).toInt) (by decide : (-1 : Int32).toInt = -1) (fun h_4 => ?_) (fun h_4 => ?_)
        · exact cg_some (show (2 = 0 ∨ 2 = 1 ∨ 2 = 2 ∨ 2 = 3) ∧ (cg_G U z_8.2) from ⟨(by decide), (g_trans (g_refl h0) hz_8)⟩)
        · refine cg_eq2 (Eq.refl ((p2 - p2 / 100 * 100) : Int32).toInt) (by decide : (0 : Int32).toInt = 0) (fun h_5 => ?_) (fun h_5 => ?_)
          · exact cg_some (show (2 = 0 ∨ 2 = 1 ∨ 2 = 2 ∨ 2 = 3) ∧ (cg_G U z_8.2) from ⟨(by decide), (g_trans (g_refl h0) hz_8)⟩)
          · refine cg_bn (t_X4_lowestNotHad (z_8.2 1) ) (fun z_12 hz_12 => ?_)
            refine cg_eq2 (Eq.refl ((z_12) : Int32).toInt) (by decide : (-1 : Int32).toInt = -1) (fun h_6 => ?_) (fun h_6 => ?_)
            · exact cg_some (show (3 = 0 ∨ 3 = 1 ∨ 3 = 2 ∨ 3 = 3) ∧ (cg_G U z_8.2) from ⟨(by decide), (g_trans (g_refl h0) hz_8)⟩)
            · refine cg_bn (t_X6_canTakeNewName z_8.2 z_8.1 (p2 - p2 / 100 * 100) ((g_trans (g_refl h0) hz_8)).1) (fun z_15 hz_15 => ?_)
              refine cg_eq2 (Eq.refl ((z_15) : Int32).toInt) (by decide : (0 : Int32).toInt = 0) (fun h_7 => ?_) (fun h_7 => ?_)
              · exact cg_some (show (3 = 0 ∨ 3 = 1 ∨ 3 = 2 ∨ 3 = 3) ∧ (cg_G U z_8.2) from ⟨(by decide), (g_trans (g_refl h0) hz_8)⟩)
              · refine cg_bn (t_X4_makeThing (z_8.2 1) z_12 p1 (z_8.2 0 10 0) p3 (g_sz (g_trans (g_refl h0) hz_8) (by decide) (by decide))) (fun z_17 hz_17 => ?_)
                refine cg_bv (fun u_18 eu_18 => ?_)
                have gu_18 : cg_G U u_18 := by rw [eu_18]; exact (g_tree (g_trans (g_refl h0) hz_8) (by decide) (by decide) hz_17)
                refine cg_bn (t_X4_setPath (u_18 1) z_12 p4 (g_sz gu_18 (by decide) (by decide))) (fun z_19 hz_19 => ?_)
                refine cg_bv (fun u_20 eu_20 => ?_)
                have gu_20 : cg_G U u_20 := by rw [eu_20]; exact (g_tree gu_18 (by decide) (by decide) hz_19)
                refine cg_bn (t_X4_putEntry (u_20 1) z_8.1 (p2 - p2 / 100 * 100) z_12 (g_sz gu_20 (by decide) (by decide))) (fun z_21 hz_21 => ?_)
                refine cg_bv (fun u_22 eu_22 => ?_)
                have gu_22 : cg_G U u_22 := by rw [eu_22]; exact (g_tree gu_20 (by decide) (by decide) hz_21)
                exact cg_some (show (0 = 0 ∨ 0 = 1 ∨ 0 = 2 ∨ 0 = 3) ∧ (cg_G U u_22) from ⟨(by decide), gu_22⟩)
theorem t_X6_file (U : S2) (p1 : Int32) (p2 : Int32) (h0 : cg_U U) : cg_O (f_X6_file U p1 p2) (fun z => (z.1 = 0 ∨ z.1 = 1 ∨ z.1 = 2 ∨ z.1 = 3) ∧ (cg_G U z.2.2)) := by
  unfold f_X6_file
  try dsimp only [jn]
  refine cg_bn (t_X6_makeThing U 0 p1 p2 0 ((g_refl h0)).1) (fun z_1 hz_1 => ?_)
  refine cg_i (fun h_1 => ?_) (fun h_1 => ?_)
  · exact cg_some (show (0 = 0 ∨ 0 = 1 ∨ 0 = 2 ∨ 0 = 3) ∧ (cg_G U z_1.2.2) from ⟨(by decide), (g_trans (g_refl h0) hz_1.2)⟩)
  · exact cg_some (show (z_1.1 = 0 ∨ z_1.1 = 1 ∨ z_1.1 = 2 ∨ z_1.1 = 3) ∧ (cg_G U z_1.2.2) from ⟨(by omega), (g_trans (g_refl h0) hz_1.2)⟩)
theorem t_X6_folder (U : S2) (p1 : Int32) (p2 : Int32) (h0 : cg_U U) : cg_O (f_X6_folder U p1 p2) (fun z => (z.1 = 0 ∨ z.1 = 1 ∨ z.1 = 2 ∨ z.1 = 3) ∧ (cg_G U z.2.2)) := by
  unfold f_X6_folder
  try dsimp only [jn]
  refine cg_bn (t_X6_makeThing U 1 p1 p2 0 ((g_refl h0)).1) (fun z_1 hz_1 => ?_)
  refine cg_i (fun h_1 => ?_) (fun h_1 => ?_)
  · exact cg_some (show (0 = 0 ∨ 0 = 1 ∨ 0 = 2 ∨ 0 = 3) ∧ (cg_G U z_1.2.2) from ⟨(by decide), (g_trans (g_refl h0) hz_1.2)⟩)
  · exact cg_some (show (z_1.1 = 0 ∨ z_1.1 = 1 ∨ z_1.1 = 2 ∨ z_1.1 = 3) ∧ (cg_G U z_1.2.2) from ⟨(by omega), (g_trans (g_refl h0) hz_1.2)⟩)
theorem t_X6_link (U : S2) (p1 : Int32) (p2 : Int32) (h0 : cg_U U) : cg_O (f_X6_link U p1 p2) (fun z => (z.1 = 0 ∨ z.1 = 1 ∨ z.1 = 2 ∨ z.1 = 3) ∧ (cg_G U z.2.2)) := by
  unfold f_X6_link
  try dsimp only [jn]
  refine cg_bn (t_X6_makeThing U 2 p1 15 p2 ((g_refl h0)).1) (fun z_1 hz_1 => ?_)
  refine cg_i (fun h_1 => ?_) (fun h_1 => ?_)
  · exact cg_some (show (0 = 0 ∨ 0 = 1 ∨ 0 = 2 ∨ 0 = 3) ∧ (cg_G U z_1.2.2) from ⟨(by decide), (g_trans (g_refl h0) hz_1.2)⟩)
  · exact cg_some (show (z_1.1 = 0 ∨ z_1.1 = 1 ∨ z_1.1 = 2 ∨ z_1.1 = 3) ∧ (cg_G U z_1.2.2) from ⟨(by omega), (g_trans (g_refl h0) hz_1.2)⟩)
theorem t_X6_hard (U : S2) (p1 : Int32) (p2 : Int32) (h0 : cg_U U) : cg_O (f_X6_hard U p1 p2) (fun z => (z.1 = 0 ∨ z.1 = 1 ∨ z.1 = 2 ∨ z.1 = 3) ∧ (cg_G U z.2.2)) := by
  unfold f_X6_hard
  try dsimp only [jn]
  refine cg_bn (t_X6_isNewPath p1 ) (fun z_1 hz_1 => ?_)
  refine cg_eq2 (Eq.refl ((z_1) : Int32).toInt) (by decide : (0 : Int32).toInt = 0) (fun h_1 => ?_) (fun h_1 => ?_)
  · exact cg_some (show (1 = 0 ∨ 1 = 1 ∨ 1 = 2 ∨ 1 = 3) ∧ (cg_G U U) from ⟨(by decide), (g_refl h0)⟩)
  · refine cg_bn (t_X6_isNewPath p2 ) (fun z_4 hz_4 => ?_)
    refine cg_eq2 (Eq.refl ((z_4) : Int32).toInt) (by decide : (0 : Int32).toInt = 0) (fun h_2 => ?_) (fun h_2 => ?_)
    · exact cg_some (show (1 = 0 ∨ 1 = 1 ∨ 1 = 2 ∨ 1 = 3) ∧ (cg_G U U) from ⟨(by decide), (g_refl h0)⟩)
    · refine cg_bn (t_X5_thingAt (U 6) (U 1) p1 0 ) (fun z_6 hz_6 => ?_)
      refine cg_bv (fun u_7 eu_7 => ?_)
      have gu_7 : cg_G U u_7 := by rw [eu_7]; exact (g_oth (g_refl h0) (by decide) (by decide) (by decide))
      refine cg_bn (t_X6_folderAhead u_7 p2 (gu_7).1) (fun z_8 hz_8 => ?_)
      refine cg_eq2 (Eq.refl ((z_6.1) : Int32).toInt) (by decide : (-1 : Int32).toInt = -1) (fun h_3 => ?_) (fun h_3 => ?_)
      · exact cg_some (show (2 = 0 ∨ 2 = 1 ∨ 2 = 2 ∨ 2 = 3) ∧ (cg_G U z_8.2) from ⟨(by decide), (g_trans gu_7 hz_8)⟩)
      · refine cg_eq2 (Eq.refl ((z_8.1) : Int32).toInt) (by decide : (-1 : Int32).toInt = -1) (fun h_4 => ?_) (fun h_4 => ?_)
        · exact cg_some (show (2 = 0 ∨ 2 = 1 ∨ 2 = 2 ∨ 2 = 3) ∧ (cg_G U z_8.2) from ⟨(by decide), (g_trans gu_7 hz_8)⟩)
        · refine cg_eq2 (Eq.refl ((p2 - p2 / 100 * 100) : Int32).toInt) (by decide : (0 : Int32).toInt = 0) (fun h_5 => ?_) (fun h_5 => ?_)
          · exact cg_some (show (2 = 0 ∨ 2 = 1 ∨ 2 = 2 ∨ 2 = 3) ∧ (cg_G U z_8.2) from ⟨(by decide), (g_trans gu_7 hz_8)⟩)
          · refine cg_bn (t_X4_isOfKind (z_8.2 1) z_6.1 1 ) (fun z_13 hz_13 => ?_)
            refine cg_eq2 (Eq.refl ((z_13) : Int32).toInt) (by decide : (0 : Int32).toInt = 0) (fun h_6 => ?_) (fun h_6 => ?_)
            · refine cg_bn (t_X6_canTakeNewName z_8.2 z_8.1 (p2 - p2 / 100 * 100) ((g_trans gu_7 hz_8)).1) (fun z_16 hz_16 => ?_)
              refine cg_eq2 (Eq.refl ((z_16) : Int32).toInt) (by decide : (0 : Int32).toInt = 0) (fun h_7 => ?_) (fun h_7 => ?_)
              · exact cg_some (show (3 = 0 ∨ 3 = 1 ∨ 3 = 2 ∨ 3 = 3) ∧ (cg_G U z_8.2) from ⟨(by decide), (g_trans gu_7 hz_8)⟩)
              · refine cg_bn (t_X4_putEntry (z_8.2 1) z_8.1 (p2 - p2 / 100 * 100) z_6.1 (g_sz (g_trans gu_7 hz_8) (by decide) (by decide))) (fun z_18 hz_18 => ?_)
                refine cg_bv (fun u_19 eu_19 => ?_)
                have gu_19 : cg_G U u_19 := by rw [eu_19]; exact (g_tree (g_trans gu_7 hz_8) (by decide) (by decide) hz_18)
                refine cg_bn (t_X4_countOf (u_19 1) z_6.1 ) (fun z_20 hz_20 => ?_)
                refine cg_bn (t_X4_setCount (u_19 1) z_6.1 (z_20 + 1) (g_sz gu_19 (by decide) (by decide))) (fun z_21 hz_21 => ?_)
                refine cg_bv (fun u_22 eu_22 => ?_)
                have gu_22 : cg_G U u_22 := by rw [eu_22]; exact (g_tree gu_19 (by decide) (by decide) hz_21)
                refine cg_bn (t_X4_countOf (u_22 1) z_6.1 ) (fun z_23 hz_23 => ?_)
                exact cg_some (show (0 = 0 ∨ 0 = 1 ∨ 0 = 2 ∨ 0 = 3) ∧ (cg_G U u_22) from ⟨(by decide), gu_22⟩)
            · exact cg_some (show (3 = 0 ∨ 3 = 1 ∨ 3 = 2 ∨ 3 = 3) ∧ (cg_G U z_8.2) from ⟨(by decide), (g_trans gu_7 hz_8)⟩)
theorem t_X6_canComeTo (U : S2) (p1 : Int32) (p2 : Int32) (p3 : Int32) (h0 : cg_U U) : cg_O (f_X6_canComeTo U p1 p2 p3) (fun z => True) := by
  unfold f_X6_canComeTo
  try dsimp only [jn]
  refine cg_bn (t_X4_isOfKind (U 1) p1 1 ) (fun z_1 hz_1 => ?_)
  refine cg_eq2 (Eq.refl ((z_1) : Int32).toInt) (by decide : (0 : Int32).toInt = 0) (fun h_1 => ?_) (fun h_1 => ?_)
  · refine cg_bn (t_X4_isOfKind (U 1) p3 1 ) (fun z_3 hz_3 => ?_)
    refine cg_eq2 (Eq.refl ((z_3) : Int32).toInt) (by decide : (0 : Int32).toInt = 0) (fun h_2 => ?_) (fun h_2 => ?_)
    · exact cg_some trivial
    · exact cg_some trivial
  · refine cg_eq2 (Eq.refl ((p3) : Int32).toInt) (by decide : (-1 : Int32).toInt = -1) (fun h_3 => ?_) (fun h_3 => ?_)
    · refine cg_eq2 (by decide : (1 : Int32).toInt = 1) (by decide : (0 : Int32).toInt = 0) (fun h_4 => ?_) (fun h_4 => ?_)
      · exact cg_some trivial
      · refine cg_bn (t_X4_isAtOrBelow (U 1) p2 p1 (g_sz (g_refl h0) (by decide) (by decide))) (fun z_10 hz_10 => ?_)
        refine cg_eq2 (Eq.refl ((z_10) : Int32).toInt) (by decide : (0 : Int32).toInt = 0) (fun h_5 => ?_) (fun h_5 => ?_)
        · exact cg_some trivial
        · exact cg_some trivial
    · refine cg_bn (t_X4_isOfKind (U 1) p3 1 ) (fun z_14 hz_14 => ?_)
      refine cg_eq2 (Eq.refl ((z_14) : Int32).toInt) (by decide : (0 : Int32).toInt = 0) (fun h_6 => ?_) (fun h_6 => ?_)
      · refine cg_eq2 (by decide : (0 : Int32).toInt = 0) (by decide : (0 : Int32).toInt = 0) (fun h_7 => ?_) (fun h_7 => ?_)
        · exact cg_some trivial
        · refine cg_bn (t_X4_isAtOrBelow (U 1) p2 p1 (g_sz (g_refl h0) (by decide) (by decide))) (fun z_10 hz_10 => ?_)
          refine cg_eq2 (Eq.refl ((z_10) : Int32).toInt) (by decide : (0 : Int32).toInt = 0) (fun h_8 => ?_) (fun h_8 => ?_)
          · exact cg_some trivial
          · exact cg_some trivial
      · refine cg_bn (t_X4_sizeOf (U 1) p3 (g_sz (g_refl h0) (by decide) (by decide))) (fun z_17 hz_17 => ?_)
        refine cg_eq2 (Eq.refl ((z_17) : Int32).toInt) (by decide : (0 : Int32).toInt = 0) (fun h_9 => ?_) (fun h_9 => ?_)
        · refine cg_eq2 (by decide : (1 : Int32).toInt = 1) (by decide : (0 : Int32).toInt = 0) (fun h_10 => ?_) (fun h_10 => ?_)
          · exact cg_some trivial
          · refine cg_bn (t_X4_isAtOrBelow (U 1) p2 p1 (g_sz (g_refl h0) (by decide) (by decide))) (fun z_10 hz_10 => ?_)
            refine cg_eq2 (Eq.refl ((z_10) : Int32).toInt) (by decide : (0 : Int32).toInt = 0) (fun h_11 => ?_) (fun h_11 => ?_)
            · exact cg_some trivial
            · exact cg_some trivial
        · refine cg_eq2 (by decide : (0 : Int32).toInt = 0) (by decide : (0 : Int32).toInt = 0) (fun h_12 => ?_) (fun h_12 => ?_)
          · exact cg_some trivial
          · refine cg_bn (t_X4_isAtOrBelow (U 1) p2 p1 (g_sz (g_refl h0) (by decide) (by decide))) (fun z_10 hz_10 => ?_)
            refine cg_eq2 (Eq.refl ((z_10) : Int32).toInt) (by decide : (0 : Int32).toInt = 0) (fun h_13 => ?_) (fun h_13 => ?_)
            · exact cg_some trivial
            · exact cg_some trivial
theorem t_X6_hasRoomFor (U : S2) (p1 : Int32) (p2 : Int32) (p3 : Int32) (h0 : cg_U U) : cg_O (f_X6_hasRoomFor U p1 p2 p3) (fun z => True) := by
  unfold f_X6_hasRoomFor
  try dsimp only [jn]
  refine cg_eq2 (Eq.refl ((p1) : Int32).toInt) (Eq.refl ((p2) : Int32).toInt) (fun h_1 => ?_) (fun h_1 => ?_)
  · exact cg_some trivial
  · refine cg_eq2 (Eq.refl ((p3) : Int32).toInt) (by decide : (-1 : Int32).toInt = -1) (fun h_2 => ?_) (fun h_2 => ?_)
    · refine cg_bn (t_X4_sizeOf (U 1) p2 (g_sz (g_refl h0) (by decide) (by decide))) (fun z_5 hz_5 => ?_)
      refine cg_le2 (by decide : (8 : Int32).toInt = 8) (Eq.refl ((z_5) : Int32).toInt) (fun h_3 => ?_) (fun h_3 => ?_)
      · exact cg_some trivial
      · exact cg_some trivial
    · exact cg_some trivial
theorem t_X6_goneUnlessOpen (U : S2) (p1 : Int32) (h0 : cg_U U) : cg_O (f_X6_goneUnlessOpen U p1) (fun z => (cg_G U z.2)) := by
  unfold f_X6_goneUnlessOpen
  try dsimp only [jn]
  refine cg_bn (t_X3_countOf (U 9) p1 ) (fun z_1 hz_1 => ?_)
  refine cg_le2 (Eq.refl ((z_1) : Int32).toInt) (by decide : (0 : Int32).toInt = 0) (fun h_1 => ?_) (fun h_1 => ?_)
  · refine cg_bn (t_X4_clearThing (U 1) p1 (g_sz (g_refl h0) (by decide) (by decide))) (fun z_3 hz_3 => ?_)
    refine cg_bv (fun u_4 eu_4 => ?_)
    have gu_4 : cg_G U u_4 := by rw [eu_4]; exact (g_tree (g_refl h0) (by decide) (by decide) hz_3)
    refine cg_bn (t_X0_forgetThing (u_4 8) p1 ) (fun z_5 hz_5 => ?_)
    refine cg_bv (fun u_6 eu_6 => ?_)
    have gu_6 : cg_G U u_6 := by rw [eu_6]; exact (g_oth gu_4 (by decide) (by decide) (by decide))
    exact cg_some (show (cg_G U u_6) from gu_6)
  · exact cg_some (show (cg_G U U) from (g_refl h0))
theorem t_X6_loseName (U : S2) (p1 : Int32) (h0 : cg_U U) : cg_O (f_X6_loseName U p1) (fun z => (cg_G U z.2)) := by
  unfold f_X6_loseName
  try dsimp only [jn]
  refine cg_bn (t_X4_isOfKind (U 1) p1 1 ) (fun z_1 hz_1 => ?_)
  refine cg_eq2 (Eq.refl ((z_1) : Int32).toInt) (by decide : (0 : Int32).toInt = 0) (fun h_1 => ?_) (fun h_1 => ?_)
  · refine cg_bn (t_X4_countOf (U 1) p1 ) (fun z_3 hz_3 => ?_)
    refine cg_bn (t_X4_setCount (U 1) p1 (z_3 - 1) (g_sz (g_refl h0) (by decide) (by decide))) (fun z_4 hz_4 => ?_)
    refine cg_bv (fun u_5 eu_5 => ?_)
    have gu_5 : cg_G U u_5 := by rw [eu_5]; exact (g_tree (g_refl h0) (by decide) (by decide) hz_4)
    refine cg_bn (t_X4_countOf (u_5 1) p1 ) (fun z_6 hz_6 => ?_)
    refine cg_eq2 (Eq.refl ((z_6) : Int32).toInt) (by decide : (0 : Int32).toInt = 0) (fun h_2 => ?_) (fun h_2 => ?_)
    · refine cg_bn (t_X6_goneUnlessOpen u_5 p1 (gu_5).1) (fun z_10 hz_10 => ?_)
      refine cg_eq2 (Eq.refl ((z_10.1) : Int32).toInt) (by decide : (0 : Int32).toInt = 0) (fun h_3 => ?_) (fun h_3 => ?_)
      · exact cg_some (show (cg_G U z_10.2) from (g_trans gu_5 hz_10))
      · exact cg_some (show (cg_G U z_10.2) from (g_trans gu_5 hz_10))
    · exact cg_some (show (cg_G U u_5) from gu_5)
  · refine cg_bn (t_X6_goneUnlessOpen U p1 ((g_refl h0)).1) (fun z_12 hz_12 => ?_)
    exact cg_some (show (cg_G U z_12.2) from (g_trans (g_refl h0) hz_12))
theorem t_X6_rename (U : S2) (p1 : Int32) (p2 : Int32) (h0 : cg_U U) : cg_O (f_X6_rename U p1 p2) (fun z => (z.1 = 0 ∨ z.1 = 1 ∨ z.1 = 2 ∨ z.1 = 3) ∧ (cg_G U z.2.2)) := by
  unfold f_X6_rename
  try dsimp only [jn]
  refine cg_bn (t_X6_isNewPath p1 ) (fun z_1 hz_1 => ?_)
  refine cg_eq2 (Eq.refl ((z_1) : Int32).toInt) (by decide : (0 : Int32).toInt = 0) (fun h_1 => ?_) (fun h_1 => ?_)
  · exact cg_some (show (1 = 0 ∨ 1 = 1 ∨ 1 = 2 ∨ 1 = 3) ∧ (cg_G U U) from ⟨(by decide), (g_refl h0)⟩)
  · refine cg_bn (t_X6_isNewPath p2 ) (fun z_4 hz_4 => ?_)
    refine cg_eq2 (Eq.refl ((z_4) : Int32).toInt) (by decide : (0 : Int32).toInt = 0) (fun h_2 => ?_) (fun h_2 => ?_)
    · exact cg_some (show (1 = 0 ∨ 1 = 1 ∨ 1 = 2 ∨ 1 = 3) ∧ (cg_G U U) from ⟨(by decide), (g_refl h0)⟩)
    · refine cg_bn (t_X6_folderAhead U p1 ((g_refl h0)).1) (fun z_6 hz_6 => ?_)
      refine cg_bn (t_X4_thingNamed (z_6.2 1) z_6.1 (p1 - p1 / 100 * 100) ) (fun z_7 hz_7 => ?_)
      refine cg_bn (t_X6_folderAhead z_6.2 p2 ((g_trans (g_refl h0) hz_6)).1) (fun z_8 hz_8 => ?_)
      refine cg_eq2 (Eq.refl ((z_7) : Int32).toInt) (by decide : (-1 : Int32).toInt = -1) (fun h_3 => ?_) (fun h_3 => ?_)
      · exact cg_some (show (2 = 0 ∨ 2 = 1 ∨ 2 = 2 ∨ 2 = 3) ∧ (cg_G U z_8.2) from ⟨(by decide), (g_trans (g_trans (g_refl h0) hz_6) hz_8)⟩)
      · refine cg_eq2 (Eq.refl ((z_8.1) : Int32).toInt) (by decide : (-1 : Int32).toInt = -1) (fun h_4 => ?_) (fun h_4 => ?_)
        · exact cg_some (show (2 = 0 ∨ 2 = 1 ∨ 2 = 2 ∨ 2 = 3) ∧ (cg_G U z_8.2) from ⟨(by decide), (g_trans (g_trans (g_refl h0) hz_6) hz_8)⟩)
        · refine cg_eq2 (Eq.refl ((p2 - p2 / 100 * 100) : Int32).toInt) (by decide : (0 : Int32).toInt = 0) (fun h_5 => ?_) (fun h_5 => ?_)
          · exact cg_some (show (2 = 0 ∨ 2 = 1 ∨ 2 = 2 ∨ 2 = 3) ∧ (cg_G U z_8.2) from ⟨(by decide), (g_trans (g_trans (g_refl h0) hz_6) hz_8)⟩)
          · refine cg_bn (t_X4_thingNamed (z_8.2 1) z_8.1 (p2 - p2 / 100 * 100) ) (fun z_13 hz_13 => ?_)
            refine cg_eq2 (Eq.refl ((z_13) : Int32).toInt) (Eq.refl ((z_7) : Int32).toInt) (fun h_6 => ?_) (fun h_6 => ?_)
            · exact cg_some (show (0 = 0 ∨ 0 = 1 ∨ 0 = 2 ∨ 0 = 3) ∧ (cg_G U z_8.2) from ⟨(by decide), (g_trans (g_trans (g_refl h0) hz_6) hz_8)⟩)
            · refine cg_bn (t_X6_canComeTo z_8.2 z_7 z_8.1 z_13 ((g_trans (g_trans (g_refl h0) hz_6) hz_8)).1) (fun z_15 hz_15 => ?_)
              refine cg_eq2 (Eq.refl ((z_15) : Int32).toInt) (by decide : (0 : Int32).toInt = 0) (fun h_7 => ?_) (fun h_7 => ?_)
              · exact cg_some (show (3 = 0 ∨ 3 = 1 ∨ 3 = 2 ∨ 3 = 3) ∧ (cg_G U z_8.2) from ⟨(by decide), (g_trans (g_trans (g_refl h0) hz_6) hz_8)⟩)
              · refine cg_bn (t_X6_hasRoomFor z_8.2 z_6.1 z_8.1 z_13 ((g_trans (g_trans (g_refl h0) hz_6) hz_8)).1) (fun z_18 hz_18 => ?_)
                refine cg_eq2 (Eq.refl ((z_18) : Int32).toInt) (by decide : (0 : Int32).toInt = 0) (fun h_8 => ?_) (fun h_8 => ?_)
                · exact cg_some (show (3 = 0 ∨ 3 = 1 ∨ 3 = 2 ∨ 3 = 3) ∧ (cg_G U z_8.2) from ⟨(by decide), (g_trans (g_trans (g_refl h0) hz_6) hz_8)⟩)
                · refine cg_bn (t_X6_mayWrite z_8.2 z_6.1 ((g_trans (g_trans (g_refl h0) hz_6) hz_8)).1) (fun z_20 hz_20 => ?_)
                  refine cg_eq2 (Eq.refl ((z_20) : Int32).toInt) (by decide : (0 : Int32).toInt = 0) (fun h_9 => ?_) (fun h_9 => ?_)
                  · exact cg_some (show (3 = 0 ∨ 3 = 1 ∨ 3 = 2 ∨ 3 = 3) ∧ (cg_G U z_8.2) from ⟨(by decide), (g_trans (g_trans (g_refl h0) hz_6) hz_8)⟩)
                  · refine cg_bn (t_X6_mayWrite z_8.2 z_8.1 ((g_trans (g_trans (g_refl h0) hz_6) hz_8)).1) (fun z_22 hz_22 => ?_)
                    refine cg_eq2 (Eq.refl ((z_22) : Int32).toInt) (by decide : (0 : Int32).toInt = 0) (fun h_10 => ?_) (fun h_10 => ?_)
                    · exact cg_some (show (3 = 0 ∨ 3 = 1 ∨ 3 = 2 ∨ 3 = 3) ∧ (cg_G U z_8.2) from ⟨(by decide), (g_trans (g_trans (g_refl h0) hz_6) hz_8)⟩)
                    · refine cg_bn (t_X4_takeEntry (z_8.2 1) z_6.1 (p1 - p1 / 100 * 100) (g_sz (g_trans (g_trans (g_refl h0) hz_6) hz_8) (by decide) (by decide))) (fun z_24 hz_24 => ?_)
                      refine cg_bv (fun u_25 eu_25 => ?_)
                      have gu_25 : cg_G U u_25 := by rw [eu_25]; exact (g_tree (g_trans (g_trans (g_refl h0) hz_6) hz_8) (by decide) (by decide) hz_24)
                      refine cg_eq2 (Eq.refl ((z_13) : Int32).toInt) (by decide : (-1 : Int32).toInt = -1) (fun h_11 => ?_) (fun h_11 => ?_)
                      · refine cg_bn (t_X4_putEntry (u_25 1) z_8.1 (p2 - p2 / 100 * 100) z_7 (g_sz gu_25 (by decide) (by decide))) (fun z_27 hz_27 => ?_)
                        refine cg_bv (fun u_28 eu_28 => ?_)
                        have gu_28 : cg_G U u_28 := by rw [eu_28]; exact (g_tree gu_25 (by decide) (by decide) hz_27)
                        exact cg_some (show (0 = 0 ∨ 0 = 1 ∨ 0 = 2 ∨ 0 = 3) ∧ (cg_G U u_28) from ⟨(by decide), gu_28⟩)
                      · refine cg_bn (t_X4_takeEntry (u_25 1) z_8.1 (p2 - p2 / 100 * 100) (g_sz gu_25 (by decide) (by decide))) (fun z_30 hz_30 => ?_)
                        refine cg_bv (fun u_31 eu_31 => ?_)
                        have gu_31 : cg_G U u_31 := by rw [eu_31]; exact (g_tree gu_25 (by decide) (by decide) hz_30)
                        refine cg_bn (t_X6_loseName u_31 z_13 (gu_31).1) (fun z_32 hz_32 => ?_)
                        refine cg_bn (t_X4_putEntry (z_32.2 1) z_8.1 (p2 - p2 / 100 * 100) z_7 (g_sz (g_trans gu_31 hz_32) (by decide) (by decide))) (fun z_27 hz_27 => ?_)
                        refine cg_bv (fun u_28 eu_28 => ?_)
                        have gu_28 : cg_G U u_28 := by rw [eu_28]; exact (g_tree (g_trans gu_31 hz_32) (by decide) (by decide) hz_27)
                        exact cg_some (show (0 = 0 ∨ 0 = 1 ∨ 0 = 2 ∨ 0 = 3) ∧ (cg_G U u_28) from ⟨(by decide), gu_28⟩)
theorem t_X6_remove (U : S2) (p1 : Int32) (h0 : cg_U U) : cg_O (f_X6_remove U p1) (fun z => (z.1 = 0 ∨ z.1 = 1 ∨ z.1 = 2 ∨ z.1 = 3) ∧ (cg_G U z.2.2)) := by
  unfold f_X6_remove
  try dsimp only [jn]
  refine cg_bn (t_X6_isNewPath p1 ) (fun z_1 hz_1 => ?_)
  refine cg_eq2 (Eq.refl ((z_1) : Int32).toInt) (by decide : (0 : Int32).toInt = 0) (fun h_1 => ?_) (fun h_1 => ?_)
  · exact cg_some (show (1 = 0 ∨ 1 = 1 ∨ 1 = 2 ∨ 1 = 3) ∧ (cg_G U U) from ⟨(by decide), (g_refl h0)⟩)
  · refine cg_bn (t_X6_folderAhead U p1 ((g_refl h0)).1) (fun z_3 hz_3 => ?_)
    refine cg_bn (t_X4_thingNamed (z_3.2 1) z_3.1 (p1 - p1 / 100 * 100) ) (fun z_4 hz_4 => ?_)
    refine cg_eq2 (Eq.refl ((z_4) : Int32).toInt) (by decide : (-1 : Int32).toInt = -1) (fun h_2 => ?_) (fun h_2 => ?_)
    · exact cg_some (show (2 = 0 ∨ 2 = 1 ∨ 2 = 2 ∨ 2 = 3) ∧ (cg_G U z_3.2) from ⟨(by decide), (g_trans (g_refl h0) hz_3)⟩)
    · refine cg_bn (t_X4_sizeOf (z_3.2 1) z_4 (g_sz (g_trans (g_refl h0) hz_3) (by decide) (by decide))) (fun z_6 hz_6 => ?_)
      refine cg_lt2 (by decide : (0 : Int32).toInt = 0) (Eq.refl ((z_6) : Int32).toInt) (fun h_3 => ?_) (fun h_3 => ?_)
      · exact cg_some (show (3 = 0 ∨ 3 = 1 ∨ 3 = 2 ∨ 3 = 3) ∧ (cg_G U z_3.2) from ⟨(by decide), (g_trans (g_refl h0) hz_3)⟩)
      · refine cg_bn (t_X6_mayWrite z_3.2 z_3.1 ((g_trans (g_refl h0) hz_3)).1) (fun z_9 hz_9 => ?_)
        refine cg_eq2 (Eq.refl ((z_9) : Int32).toInt) (by decide : (0 : Int32).toInt = 0) (fun h_4 => ?_) (fun h_4 => ?_)
        · exact cg_some (show (3 = 0 ∨ 3 = 1 ∨ 3 = 2 ∨ 3 = 3) ∧ (cg_G U z_3.2) from ⟨(by decide), (g_trans (g_refl h0) hz_3)⟩)
        · refine cg_bn (t_X4_takeEntry (z_3.2 1) z_3.1 (p1 - p1 / 100 * 100) (g_sz (g_trans (g_refl h0) hz_3) (by decide) (by decide))) (fun z_11 hz_11 => ?_)
          refine cg_bv (fun u_12 eu_12 => ?_)
          have gu_12 : cg_G U u_12 := by rw [eu_12]; exact (g_tree (g_trans (g_refl h0) hz_3) (by decide) (by decide) hz_11)
          refine cg_bn (t_X6_loseName u_12 z_4 (gu_12).1) (fun z_13 hz_13 => ?_)
          exact cg_some (show (0 = 0 ∨ 0 = 1 ∨ 0 = 2 ∨ 0 = 3) ∧ (cg_G U z_13.2) from ⟨(by decide), (g_trans gu_12 hz_13)⟩)
theorem t_X6_rights (U : S2) (p1 : Int32) (p2 : Int32) (h0 : cg_U U) : cg_O (f_X6_rights U p1 p2) (fun z => (z.1 = 0 ∨ z.1 = 1 ∨ z.1 = 2 ∨ z.1 = 3) ∧ (cg_G U z.2.2)) := by
  unfold f_X6_rights
  try dsimp only [jn]
  refine cg_bn (t_X6_isPath p1 ) (fun z_1 hz_1 => ?_)
  refine cg_eq2 (Eq.refl ((z_1) : Int32).toInt) (by decide : (0 : Int32).toInt = 0) (fun h_1 => ?_) (fun h_1 => ?_)
  · exact cg_some (show (1 = 0 ∨ 1 = 1 ∨ 1 = 2 ∨ 1 = 3) ∧ (cg_G U U) from ⟨(by decide), (g_refl h0)⟩)
  · refine cg_bn (t_X6_isRights p2 ) (fun z_4 hz_4 => ?_)
    refine cg_eq2 (Eq.refl ((z_4) : Int32).toInt) (by decide : (0 : Int32).toInt = 0) (fun h_2 => ?_) (fun h_2 => ?_)
    · exact cg_some (show (1 = 0 ∨ 1 = 1 ∨ 1 = 2 ∨ 1 = 3) ∧ (cg_G U U) from ⟨(by decide), (g_refl h0)⟩)
    · refine cg_bn (t_X5_thingAt (U 6) (U 1) p1 1 ) (fun z_6 hz_6 => ?_)
      refine cg_bv (fun u_7 eu_7 => ?_)
      have gu_7 : cg_G U u_7 := by rw [eu_7]; exact (g_oth (g_refl h0) (by decide) (by decide) (by decide))
      refine cg_eq2 (Eq.refl ((z_6.1) : Int32).toInt) (by decide : (-1 : Int32).toInt = -1) (fun h_3 => ?_) (fun h_3 => ?_)
      · exact cg_some (show (2 = 0 ∨ 2 = 1 ∨ 2 = 2 ∨ 2 = 3) ∧ (cg_G U u_7) from ⟨(by decide), gu_7⟩)
      · refine cg_eq2 (Eq.refl ((u_7 0 10 0) : Int32).toInt) (by decide : (0 : Int32).toInt = 0) (fun h_4 => ?_) (fun h_4 => ?_)
        · refine cg_bn (t_X4_rightsOf (u_7 1) z_6.1 ) (fun z_10 hz_10 => ?_)
          refine cg_bn (t_X4_setRights (u_7 1) z_6.1 p2 (g_sz gu_7 (by decide) (by decide))) (fun z_11 hz_11 => ?_)
          refine cg_bv (fun u_12 eu_12 => ?_)
          have gu_12 : cg_G U u_12 := by rw [eu_12]; exact (g_tree gu_7 (by decide) (by decide) hz_11)
          exact cg_some (show (0 = 0 ∨ 0 = 1 ∨ 0 = 2 ∨ 0 = 3) ∧ (cg_G U u_12) from ⟨(by decide), gu_12⟩)
        · refine cg_bn (t_X4_ownerOf (u_7 1) z_6.1 ) (fun z_14 hz_14 => ?_)
          refine cg_eq2 (Eq.refl ((u_7 0 10 0) : Int32).toInt) (Eq.refl ((z_14) : Int32).toInt) (fun h_5 => ?_) (fun h_5 => ?_)
          · refine cg_bn (t_X4_rightsOf (u_7 1) z_6.1 ) (fun z_10 hz_10 => ?_)
            refine cg_bn (t_X4_setRights (u_7 1) z_6.1 p2 (g_sz gu_7 (by decide) (by decide))) (fun z_11 hz_11 => ?_)
            refine cg_bv (fun u_12 eu_12 => ?_)
            have gu_12 : cg_G U u_12 := by rw [eu_12]; exact (g_tree gu_7 (by decide) (by decide) hz_11)
            exact cg_some (show (0 = 0 ∨ 0 = 1 ∨ 0 = 2 ∨ 0 = 3) ∧ (cg_G U u_12) from ⟨(by decide), gu_12⟩)
          · exact cg_some (show (3 = 0 ∨ 3 = 1 ∨ 3 = 2 ∨ 3 = 3) ∧ (cg_G U u_7) from ⟨(by decide), gu_7⟩)
theorem t_X6_own (U : S2) (p1 : Int32) (p2 : Int32) (h0 : cg_U U) : cg_O (f_X6_own U p1 p2) (fun z => (z.1 = 0 ∨ z.1 = 1 ∨ z.1 = 2 ∨ z.1 = 3) ∧ (cg_G U z.2.2)) := by
  unfold f_X6_own
  try dsimp only [jn]
  refine cg_bn (t_X6_isPath p1 ) (fun z_1 hz_1 => ?_)
  refine cg_eq2 (Eq.refl ((z_1) : Int32).toInt) (by decide : (0 : Int32).toInt = 0) (fun h_1 => ?_) (fun h_1 => ?_)
  · exact cg_some (show (1 = 0 ∨ 1 = 1 ∨ 1 = 2 ∨ 1 = 3) ∧ (cg_G U U) from ⟨(by decide), (g_refl h0)⟩)
  · refine cg_bn (t_X5_thingAt (U 6) (U 1) p1 1 ) (fun z_3 hz_3 => ?_)
    refine cg_bv (fun u_4 eu_4 => ?_)
    have gu_4 : cg_G U u_4 := by rw [eu_4]; exact (g_oth (g_refl h0) (by decide) (by decide) (by decide))
    refine cg_eq2 (Eq.refl ((z_3.1) : Int32).toInt) (by decide : (-1 : Int32).toInt = -1) (fun h_2 => ?_) (fun h_2 => ?_)
    · exact cg_some (show (2 = 0 ∨ 2 = 1 ∨ 2 = 2 ∨ 2 = 3) ∧ (cg_G U u_4) from ⟨(by decide), gu_4⟩)
    · refine cg_bn (t_X6_isUser p2 ) (fun z_7 hz_7 => ?_)
      refine cg_eq2 (Eq.refl ((z_7) : Int32).toInt) (by decide : (0 : Int32).toInt = 0) (fun h_3 => ?_) (fun h_3 => ?_)
      · exact cg_some (show (2 = 0 ∨ 2 = 1 ∨ 2 = 2 ∨ 2 = 3) ∧ (cg_G U u_4) from ⟨(by decide), gu_4⟩)
      · refine cg_eq2 (Eq.refl ((u_4 0 10 0) : Int32).toInt) (by decide : (0 : Int32).toInt = 0) (fun h_4 => ?_) (fun h_4 => ?_)
        · refine cg_bn (t_X4_ownerOf (u_4 1) z_3.1 ) (fun z_10 hz_10 => ?_)
          refine cg_bn (t_X4_setOwner (u_4 1) z_3.1 p2 (g_sz gu_4 (by decide) (by decide))) (fun z_11 hz_11 => ?_)
          refine cg_bv (fun u_12 eu_12 => ?_)
          have gu_12 : cg_G U u_12 := by rw [eu_12]; exact (g_tree gu_4 (by decide) (by decide) hz_11)
          exact cg_some (show (0 = 0 ∨ 0 = 1 ∨ 0 = 2 ∨ 0 = 3) ∧ (cg_G U u_12) from ⟨(by decide), gu_12⟩)
        · exact cg_some (show (3 = 0 ∨ 3 = 1 ∨ 3 = 2 ∨ 3 = 3) ∧ (cg_G U u_4) from ⟨(by decide), gu_4⟩)
theorem t_X6_look (U : S2) (p1 : Int32) (p2 : Int32) (h0 : cg_U U) : cg_O (f_X6_look U p1 p2) (fun z => (z.1 = 0 ∨ z.1 = 1 ∨ z.1 = 2) ∧ (cg_G U z.2.2)) := by
  unfold f_X6_look
  try dsimp only [jn]
  refine cg_bn (t_X6_isPath p1 ) (fun z_1 hz_1 => ?_)
  refine cg_eq2 (Eq.refl ((z_1) : Int32).toInt) (by decide : (0 : Int32).toInt = 0) (fun h_1 => ?_) (fun h_1 => ?_)
  · exact cg_some (show (1 = 0 ∨ 1 = 1 ∨ 1 = 2) ∧ (cg_G U U) from ⟨(by decide), (g_refl h0)⟩)
  · refine cg_bn (t_X5_thingAt (U 6) (U 1) p1 p2 ) (fun z_3 hz_3 => ?_)
    refine cg_bv (fun u_4 eu_4 => ?_)
    have gu_4 : cg_G U u_4 := by rw [eu_4]; exact (g_oth (g_refl h0) (by decide) (by decide) (by decide))
    refine cg_eq2 (Eq.refl ((z_3.1) : Int32).toInt) (by decide : (-1 : Int32).toInt = -1) (fun h_2 => ?_) (fun h_2 => ?_)
    · exact cg_some (show (2 = 0 ∨ 2 = 1 ∨ 2 = 2) ∧ (cg_G U u_4) from ⟨(by decide), gu_4⟩)
    · exact cg_some (show (0 = 0 ∨ 0 = 1 ∨ 0 = 2) ∧ (cg_G U u_4) from ⟨(by decide), gu_4⟩)
theorem t_X6_mayRead (U : S2) (p1 : Int32) (h0 : cg_U U) : cg_O (f_X6_mayRead U p1) (fun z => True) := by
  unfold f_X6_mayRead
  try dsimp only [jn]
  refine cg_bn (t_X6_may U p1 8 2 ((g_refl h0)).1) (fun z_1 hz_1 => ?_)
  exact cg_some trivial
theorem t_X6_open (U : S2) (p1 : Int32) (p2 : Int32) (h0 : cg_U U) : cg_O (f_X6_open U p1 p2) (fun z => (z.1 = 0 ∨ z.1 = 1 ∨ z.1 = 2 ∨ z.1 = 3) ∧ (cg_G U z.2.2)) := by
  unfold f_X6_open
  try dsimp only [jn]
  refine cg_bn (t_X6_isPath p1 ) (fun z_1 hz_1 => ?_)
  refine cg_eq2 (Eq.refl ((z_1) : Int32).toInt) (by decide : (0 : Int32).toInt = 0) (fun h_1 => ?_) (fun h_1 => ?_)
  · exact cg_some (show (1 = 0 ∨ 1 = 1 ∨ 1 = 2 ∨ 1 = 3) ∧ (cg_G U U) from ⟨(by decide), (g_refl h0)⟩)
  · refine cg_bn (t_X5_thingAt (U 6) (U 1) p1 1 ) (fun z_3 hz_3 => ?_)
    refine cg_bv (fun u_4 eu_4 => ?_)
    have gu_4 : cg_G U u_4 := by rw [eu_4]; exact (g_oth (g_refl h0) (by decide) (by decide) (by decide))
    refine cg_eq2 (Eq.refl ((z_3.1) : Int32).toInt) (by decide : (-1 : Int32).toInt = -1) (fun h_2 => ?_) (fun h_2 => ?_)
    · exact cg_some (show (2 = 0 ∨ 2 = 1 ∨ 2 = 2 ∨ 2 = 3) ∧ (cg_G U u_4) from ⟨(by decide), gu_4⟩)
    · refine cg_bn (t_X4_isOfKind (u_4 1) z_3.1 0 ) (fun z_6 hz_6 => ?_)
      refine cg_eq2 (Eq.refl ((z_6) : Int32).toInt) (by decide : (0 : Int32).toInt = 0) (fun h_3 => ?_) (fun h_3 => ?_)
      · exact cg_some (show (3 = 0 ∨ 3 = 1 ∨ 3 = 2 ∨ 3 = 3) ∧ (cg_G U u_4) from ⟨(by decide), gu_4⟩)
      · refine cg_bn (t_X6_mayRead u_4 z_3.1 (gu_4).1) (fun z_9 hz_9 => ?_)
        refine cg_eq2 (Eq.refl ((z_9) : Int32).toInt) (by decide : (0 : Int32).toInt = 0) (fun h_4 => ?_) (fun h_4 => ?_)
        · exact cg_some (show (3 = 0 ∨ 3 = 1 ∨ 3 = 2 ∨ 3 = 3) ∧ (cg_G U u_4) from ⟨(by decide), gu_4⟩)
        · refine cg_eq2 (Eq.refl ((p2) : Int32).toInt) (by decide : (0 : Int32).toInt = 0) (fun h_5 => ?_) (fun h_5 => ?_)
          · refine cg_bn (t_X3_isSpent (u_4 9) ) (fun z_12 hz_12 => ?_)
            refine cg_eq2 (Eq.refl ((z_12) : Int32).toInt) (by decide : (0 : Int32).toInt = 0) (fun h_6 => ?_) (fun h_6 => ?_)
            · refine cg_bn (t_X3_give (u_4 9) z_3.1 p2 ) (fun z_14 hz_14 => ?_)
              refine cg_bv (fun u_15 eu_15 => ?_)
              have gu_15 : cg_G U u_15 := by rw [eu_15]; exact (g_oth gu_4 (by decide) (by decide) (by decide))
              exact cg_some (show (0 = 0 ∨ 0 = 1 ∨ 0 = 2 ∨ 0 = 3) ∧ (cg_G U u_15) from ⟨(by decide), gu_15⟩)
            · exact cg_some (show (3 = 0 ∨ 3 = 1 ∨ 3 = 2 ∨ 3 = 3) ∧ (cg_G U u_4) from ⟨(by decide), gu_4⟩)
          · refine cg_bn (t_X6_mayWrite u_4 z_3.1 (gu_4).1) (fun z_17 hz_17 => ?_)
            refine cg_eq2 (Eq.refl ((z_17) : Int32).toInt) (by decide : (0 : Int32).toInt = 0) (fun h_7 => ?_) (fun h_7 => ?_)
            · exact cg_some (show (3 = 0 ∨ 3 = 1 ∨ 3 = 2 ∨ 3 = 3) ∧ (cg_G U u_4) from ⟨(by decide), gu_4⟩)
            · refine cg_bn (t_X3_isSpent (u_4 9) ) (fun z_12 hz_12 => ?_)
              refine cg_eq2 (Eq.refl ((z_12) : Int32).toInt) (by decide : (0 : Int32).toInt = 0) (fun h_8 => ?_) (fun h_8 => ?_)
              · refine cg_bn (t_X3_give (u_4 9) z_3.1 p2 ) (fun z_14 hz_14 => ?_)
                refine cg_bv (fun u_15 eu_15 => ?_)
                have gu_15 : cg_G U u_15 := by rw [eu_15]; exact (g_oth gu_4 (by decide) (by decide) (by decide))
                exact cg_some (show (0 = 0 ∨ 0 = 1 ∨ 0 = 2 ∨ 0 = 3) ∧ (cg_G U u_15) from ⟨(by decide), gu_15⟩)
              · exact cg_some (show (3 = 0 ∨ 3 = 1 ∨ 3 = 2 ∨ 3 = 3) ∧ (cg_G U u_4) from ⟨(by decide), gu_4⟩)
