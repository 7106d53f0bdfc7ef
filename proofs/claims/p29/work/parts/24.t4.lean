theorem t_X6_demandHandle (U : S2) (p1 : Int32) (h0 : cg_U U) : cg_O (f_X6_demandHandle U p1) (fun z => (z.1 = 0 ∨ z.1 = 2) ∧ (cg_G U z.2.2)) := by
  unfold f_X6_demandHandle
  try dsimp only [jn]
  refine cg_bn (t_X3_isHandle (U 9) p1 ) (fun z_1 hz_1 => ?_)
  refine cg_eq2 (Eq.refl ((z_1) : Int32).toInt) (by decide : (0 : Int32).toInt = 0) (fun h_1 => ?_) (fun h_1 => ?_)
  · exact cg_some (show (2 = 0 ∨ 2 = 2) ∧ (cg_G U U) from ⟨(by decide), (g_refl h0)⟩)
  · exact cg_some (show (0 = 0 ∨ 0 = 2) ∧ (cg_G U U) from ⟨(by decide), (g_refl h0)⟩)
theorem t_X6_demandOpen (U : S2) (p1 : Int32) (h0 : cg_U U) : cg_O (f_X6_demandOpen U p1) (fun z => (z.1 = 0 ∨ z.1 = 3) ∧ (cg_G U z.2.2)) := by
  unfold f_X6_demandOpen
  try dsimp only [jn]
  refine cg_bn (t_X3_isOpen (U 9) p1 ) (fun z_1 hz_1 => ?_)
  refine cg_eq2 (Eq.refl ((z_1) : Int32).toInt) (by decide : (0 : Int32).toInt = 0) (fun h_1 => ?_) (fun h_1 => ?_)
  · exact cg_some (show (3 = 0 ∨ 3 = 3) ∧ (cg_G U U) from ⟨(by decide), (g_refl h0)⟩)
  · exact cg_some (show (0 = 0 ∨ 0 = 3) ∧ (cg_G U U) from ⟨(by decide), (g_refl h0)⟩)
theorem t_X6_close (U : S2) (p1 : Int32) (h0 : cg_U U) : cg_O (f_X6_close U p1) (fun z => (z.1 = 0 ∨ z.1 = 2 ∨ z.1 = 3) ∧ (cg_G U z.2.2)) := by
  unfold f_X6_close
  try dsimp only [jn]
  refine cg_bn (t_X6_demandHandle U p1 ((g_refl h0)).1) (fun z_1 hz_1 => ?_)
  refine cg_i (fun h_1 => ?_) (fun h_1 => ?_)
  · refine cg_bn (t_X6_demandOpen z_1.2.2 p1 ((g_trans (g_refl h0) hz_1.2)).1) (fun z_3 hz_3 => ?_)
    refine cg_i (fun h_2 => ?_) (fun h_2 => ?_)
    · refine cg_bn (t_X3_thingOf (z_3.2.2 9) p1 ) (fun z_5 hz_5 => ?_)
      refine cg_bn (t_X0_tellError (z_3.2.2 8) z_5 ) (fun z_6 hz_6 => ?_)
      refine cg_bv (fun u_7 eu_7 => ?_)
      have gu_7 : cg_G U u_7 := by rw [eu_7]; exact (g_oth (g_trans (g_trans (g_refl h0) hz_1.2) hz_3.2) (by decide) (by decide) (by decide))
      refine cg_bn (t_X3_shut (u_7 9) p1 ) (fun z_8 hz_8 => ?_)
      refine cg_bv (fun u_9 eu_9 => ?_)
      have gu_9 : cg_G U u_9 := by rw [eu_9]; exact (g_oth gu_7 (by decide) (by decide) (by decide))
      refine cg_bn (t_X4_countOf (u_9 1) z_5 ) (fun z_10 hz_10 => ?_)
      refine cg_eq2 (Eq.refl ((z_10) : Int32).toInt) (by decide : (0 : Int32).toInt = 0) (fun h_3 => ?_) (fun h_3 => ?_)
      · refine cg_bn (t_X6_goneUnlessOpen u_9 z_5 (gu_9).1) (fun z_13 hz_13 => ?_)
        exact cg_some (show (0 = 0 ∨ 0 = 2 ∨ 0 = 3) ∧ (cg_G U z_13.2) from ⟨(by decide), (g_trans gu_9 hz_13)⟩)
      · exact cg_some (show (0 = 0 ∨ 0 = 2 ∨ 0 = 3) ∧ (cg_G U u_9) from ⟨(by decide), gu_9⟩)
    · exact cg_some (show (z_3.1 = 0 ∨ z_3.1 = 2 ∨ z_3.1 = 3) ∧ (cg_G U z_3.2.2) from ⟨(by omega), (g_trans (g_trans (g_refl h0) hz_1.2) hz_3.2)⟩)
  · exact cg_some (show (z_1.1 = 0 ∨ z_1.1 = 2 ∨ z_1.1 = 3) ∧ (cg_G U z_1.2.2) from ⟨(by omega), (g_trans (g_refl h0) hz_1.2)⟩)
theorem t_X6_isPage (p0 : Int32) : cg_O (f_X6_isPage p0) (fun z => (z.toInt = 0 ∨ (0 ≤ p0.toInt ∧ p0.toInt < 16))) := by
  unfold f_X6_isPage
  try dsimp only [jn]
  refine cg_lt2 (Eq.refl ((p0) : Int32).toInt) (by decide : (0 : Int32).toInt = 0) (fun h_1 => ?_) (fun h_1 => ?_)
  · exact cg_some (show ((vp_nar .boolean 0).toInt = 0 ∨ (0 ≤ p0.toInt ∧ p0.toInt < 16)) from (by first | omega | decide | exact Or.inl (by decide) | exact Or.inr (by omega)))
  · refine cg_le2 (by decide : (16 : Int32).toInt = 16) (Eq.refl ((p0) : Int32).toInt) (fun h_2 => ?_) (fun h_2 => ?_)
    · exact cg_some (show ((vp_nar .boolean 0).toInt = 0 ∨ (0 ≤ p0.toInt ∧ p0.toInt < 16)) from (by first | omega | decide | exact Or.inl (by decide) | exact Or.inr (by omega)))
    · exact cg_some (show ((vp_nar .boolean 1).toInt = 0 ∨ (0 ≤ p0.toInt ∧ p0.toInt < 16)) from (by first | omega | decide | exact Or.inl (by decide) | exact Or.inr (by omega)))
theorem t_X6_demandHandleAndPage (U : S2) (p1 : Int32) (p2 : Int32) (h0 : cg_U U) : cg_O (f_X6_demandHandleAndPage U p1 p2) (fun z => (z.1 = 0 ∨ z.1 = 2) ∧ (cg_G U z.2.2) ∧ (z.1 ≠ 0 ∨ (0 ≤ p2.toInt ∧ p2.toInt < 16))) := by
  unfold f_X6_demandHandleAndPage
  try dsimp only [jn]
  refine cg_bn (t_X6_demandHandle U p1 ((g_refl h0)).1) (fun z_1 hz_1 => ?_)
  refine cg_i (fun h_1 => ?_) (fun h_1 => ?_)
  · refine cg_bn (t_X6_isPage p2 ) (fun z_3 hz_3 => ?_)
    refine cg_eq2 (Eq.refl ((z_3) : Int32).toInt) (by decide : (0 : Int32).toInt = 0) (fun h_2 => ?_) (fun h_2 => ?_)
    · exact cg_some (show (2 = 0 ∨ 2 = 2) ∧ (cg_G U z_1.2.2) ∧ (2 ≠ 0 ∨ (0 ≤ p2.toInt ∧ p2.toInt < 16)) from ⟨(by decide), (g_trans (g_refl h0) hz_1.2), (by first | omega | decide | exact Or.inl (by decide) | exact Or.inr (by omega))⟩)
    · exact cg_some (show (0 = 0 ∨ 0 = 2) ∧ (cg_G U z_1.2.2) ∧ (0 ≠ 0 ∨ (0 ≤ p2.toInt ∧ p2.toInt < 16)) from ⟨(by decide), (g_trans (g_refl h0) hz_1.2), (by first | omega | decide | exact Or.inl (by decide) | exact Or.inr (by omega))⟩)
  · exact cg_some (show (z_1.1 = 0 ∨ z_1.1 = 2) ∧ (cg_G U z_1.2.2) ∧ (z_1.1 ≠ 0 ∨ (0 ≤ p2.toInt ∧ p2.toInt < 16)) from ⟨(by omega), (g_trans (g_refl h0) hz_1.2), (by first | omega | decide | exact Or.inl (by decide) | exact Or.inr (by omega))⟩)
theorem t_X6_demandWriting (U : S2) (p1 : Int32) (h0 : cg_U U) : cg_O (f_X6_demandWriting U p1) (fun z => (z.1 = 0 ∨ z.1 = 3) ∧ (cg_G U z.2.2)) := by
  unfold f_X6_demandWriting
  try dsimp only [jn]
  refine cg_bn (t_X6_demandOpen U p1 ((g_refl h0)).1) (fun z_1 hz_1 => ?_)
  refine cg_i (fun h_1 => ?_) (fun h_1 => ?_)
  · refine cg_bn (t_X3_isToWrite (z_1.2.2 9) p1 ) (fun z_3 hz_3 => ?_)
    refine cg_eq2 (Eq.refl ((z_3) : Int32).toInt) (by decide : (0 : Int32).toInt = 0) (fun h_2 => ?_) (fun h_2 => ?_)
    · exact cg_some (show (3 = 0 ∨ 3 = 3) ∧ (cg_G U z_1.2.2) from ⟨(by decide), (g_trans (g_refl h0) hz_1.2)⟩)
    · exact cg_some (show (0 = 0 ∨ 0 = 3) ∧ (cg_G U z_1.2.2) from ⟨(by decide), (g_trans (g_refl h0) hz_1.2)⟩)
  · exact cg_some (show (z_1.1 = 0 ∨ z_1.1 = 3) ∧ (cg_G U z_1.2.2) from ⟨(by omega), (g_trans (g_refl h0) hz_1.2)⟩)
theorem t_X6_isWithinQuota (U : S2) (p1 : Int32) (p2 : Int32) (h0 : cg_U U) : cg_O (f_X6_isWithinQuota U p1 p2) (fun z => True) := by
  unfold f_X6_isWithinQuota
  try dsimp only [jn]
  refine cg_bn (t_X4_ownerOf (U 1) p1 ) (fun z_1 hz_1 => ?_)
  refine cg_bn (t_X6_isUser z_1 ) (fun z_2 hz_2 => ?_)
  refine cg_eq2 (Eq.refl ((z_2) : Int32).toInt) (by decide : (0 : Int32).toInt = 0) (fun h_1 => ?_) (fun h_1 => ?_)
  · exact cg_some trivial
  · refine cg_bn (t_X4_blocksOf (U 1) z_1 ) (fun z_6 hz_6 => ?_)
    refine cg_chk (inb_e (Eq.refl (z_1).toInt) (by omega) (by omega)) ?_
    refine cg_lt2 (Eq.refl ((U 0 9 (z_1).toNatClampNeg) : Int32).toInt) (Eq.refl ((z_6 + p2) : Int32).toInt) (fun h_2 => ?_) (fun h_2 => ?_)
    · exact cg_some trivial
    · exact cg_some trivial
theorem t_X6_isInSnapshot (U : S2) (p1 : Int32) (h0 : cg_U U) : cg_O (f_X6_isInSnapshot U p1) (fun z => True) := by
  unfold f_X6_isInSnapshot
  try dsimp only [jn]
  refine cg_q1 (cg_l1 (fun dr2_1 y2_1_2 => 0 ≤ y2_1_2.toInt ∧ 3 - y2_1_2.toInt ≤ (dr2_1 : Int)) (fun dr2_1 r2_1 ihr2_1 y2_1_2 hh => ?_) 3 4096 (by decide) 0 ⟨(by decide), (by decide)⟩)
  obtain ⟨i_1, i_2⟩ := hh
  refine cg_le2 (by decide : (3 : Int32).toInt = 3) (Eq.refl ((y2_1_2) : Int32).toInt) (fun h_3 => ?_) (fun h_3 => ?_)
  · exact cg_some trivial
  · refine cg_chk (inb_e (Eq.refl (y2_1_2).toInt) (by omega) (by omega)) ?_
    refine cg_eq2 (Eq.refl ((U 0 3 (y2_1_2).toNatClampNeg) : Int32).toInt) (by decide : (0 : Int32).toInt = 0) (fun h_4 => ?_) (fun h_4 => ?_)
    · have e_5 := (add_e (Eq.refl (y2_1_2).toInt) (by decide : (1 : Int32).toInt = 1) (by omega) (by omega))
      exact ihr2_1 (dr2_1 - 1) (y2_1_2 + 1) (by omega) ⟨(by omega), (by omega)⟩
    · refine cg_chk (inb_e (Eq.refl (y2_1_2).toInt) (by omega) (by omega)) ?_
      refine cg_eq2 (Eq.refl ((y2_1_2) : Int32).toInt) (by decide : (0 : Int32).toInt = 0) (fun h_6 => ?_) (fun h_6 => ?_)
      · refine cg_bn (t_X4_hasBlock (U 3) p1 ) (fun z_6 hz_6 => ?_)
        refine cg_eq2 (Eq.refl ((z_6) : Int32).toInt) (by decide : (0 : Int32).toInt = 0) (fun h_7 => ?_) (fun h_7 => ?_)
        · have e_8 := (add_e (Eq.refl (y2_1_2).toInt) (by decide : (1 : Int32).toInt = 1) (by omega) (by omega))
          exact ihr2_1 (dr2_1 - 1) (y2_1_2 + 1) (by omega) ⟨(by omega), (by omega)⟩
        · exact cg_some trivial
      · refine cg_eq2 (Eq.refl ((y2_1_2) : Int32).toInt) (by decide : (1 : Int32).toInt = 1) (fun h_9 => ?_) (fun h_9 => ?_)
        · refine cg_bn (t_X4_hasBlock (U 4) p1 ) (fun z_9 hz_9 => ?_)
          refine cg_eq2 (Eq.refl ((z_9) : Int32).toInt) (by decide : (0 : Int32).toInt = 0) (fun h_10 => ?_) (fun h_10 => ?_)
          · have e_11 := (add_e (Eq.refl (y2_1_2).toInt) (by decide : (1 : Int32).toInt = 1) (by omega) (by omega))
            exact ihr2_1 (dr2_1 - 1) (y2_1_2 + 1) (by omega) ⟨(by omega), (by omega)⟩
          · exact cg_some trivial
        · refine cg_eq2 (Eq.refl ((y2_1_2) : Int32).toInt) (by decide : (2 : Int32).toInt = 2) (fun h_12 => ?_) (fun h_12 => ?_)
          · refine cg_bn (t_X4_hasBlock (U 5) p1 ) (fun z_12 hz_12 => ?_)
            refine cg_eq2 (Eq.refl ((z_12) : Int32).toInt) (by decide : (0 : Int32).toInt = 0) (fun h_13 => ?_) (fun h_13 => ?_)
            · have e_14 := (add_e (Eq.refl (y2_1_2).toInt) (by decide : (1 : Int32).toInt = 1) (by omega) (by omega))
              exact ihr2_1 (dr2_1 - 1) (y2_1_2 + 1) (by omega) ⟨(by omega), (by omega)⟩
            · exact cg_some trivial
          · exfalso
            omega
theorem t_X6_isUnused (U : S2) (p1 : Int32) (h0 : cg_U U) : cg_O (f_X6_isUnused U p1) (fun z => True) := by
  unfold f_X6_isUnused
  try dsimp only [jn]
  refine cg_bn (t_X4_hasBlock (U 1) p1 ) (fun z_1 hz_1 => ?_)
  refine cg_eq2 (Eq.refl ((z_1) : Int32).toInt) (by decide : (0 : Int32).toInt = 0) (fun h_1 => ?_) (fun h_1 => ?_)
  · refine cg_bn (t_X4_hasBlock (U 2) p1 ) (fun z_5 hz_5 => ?_)
    refine cg_eq2 (Eq.refl ((z_5) : Int32).toInt) (by decide : (0 : Int32).toInt = 0) (fun h_2 => ?_) (fun h_2 => ?_)
    · refine cg_bn (t_X6_isInSnapshot U p1 ((g_refl h0)).1) (fun z_7 hz_7 => ?_)
      refine cg_eq2 (Eq.refl ((z_7) : Int32).toInt) (by decide : (0 : Int32).toInt = 0) (fun h_3 => ?_) (fun h_3 => ?_)
      · exact cg_some trivial
      · exact cg_some trivial
    · exact cg_some trivial
  · exact cg_some trivial
theorem t_X6_lowestOfGroup (U : S2) (p1 : Int32) (h0 : cg_U U) : cg_O (f_X6_lowestOfGroup U p1) (fun z => True) := by
  unfold f_X6_lowestOfGroup
  try dsimp only [jn]
  refine cg_q1 (cg_l1 (fun dr2_1 y2_1_2 => 0 ≤ y2_1_2.toInt ∧ 16 - y2_1_2.toInt ≤ (dr2_1 : Int)) (fun dr2_1 r2_1 ihr2_1 y2_1_2 hh => ?_) 16 4096 (by decide) 0 ⟨(by decide), (by decide)⟩)
  obtain ⟨i_1, i_2⟩ := hh
  refine cg_le2 (by decide : (16 : Int32).toInt = 16) (Eq.refl ((y2_1_2) : Int32).toInt) (fun h_3 => ?_) (fun h_3 => ?_)
  · exact cg_some trivial
  · refine cg_bn (t_X6_isUnused U ((p1 * 16) + y2_1_2) ((g_refl h0)).1) (fun z_3 hz_3 => ?_)
    refine cg_eq2 (Eq.refl ((z_3) : Int32).toInt) (by decide : (0 : Int32).toInt = 0) (fun h_4 => ?_) (fun h_4 => ?_)
    · have e_5 := (add_e (Eq.refl (y2_1_2).toInt) (by decide : (1 : Int32).toInt = 1) (by omega) (by omega))
      exact ihr2_1 (dr2_1 - 1) (y2_1_2 + 1) (by omega) ⟨(by omega), (by omega)⟩
    · exact cg_some trivial
theorem t_X6_blockFor (U : S2) (p1 : Int32) (p2 : Int32) (h0 : cg_U U) : cg_O (f_X6_blockFor U p1 p2) (fun z => True) := by
  unfold f_X6_blockFor
  try dsimp only [jn]
  refine cg_bn (t_X4_blockOf (U 1) p1 (p2 - 1) ) (fun z_1 hz_1 => ?_)
  refine cg_eq2 (Eq.refl ((z_1) : Int32).toInt) (by decide : (-1 : Int32).toInt = -1) (fun h_1 => ?_) (fun h_1 => ?_)
  · refine cg_q2 (cg_l2 (fun dr46_3 y46_3_4 y46_3_5 => 0 ≤ y46_3_5.toInt ∧ 4 - y46_3_5.toInt ≤ (dr46_3 : Int)) (fun dr46_3 r46_3 ihr46_3 y46_3_4 y46_3_5 hh => ?_) 4 4096 (by decide) (-1) 0 ⟨(by decide), (by decide)⟩)
    obtain ⟨i_2, i_3⟩ := hh
    refine cg_le2 (by decide : (4 : Int32).toInt = 4) (Eq.refl ((y46_3_5) : Int32).toInt) (fun h_4 => ?_) (fun h_4 => ?_)
    · exact cg_some trivial
    · refine cg_eq2 (Eq.refl ((y46_3_4) : Int32).toInt) (by decide : (-1 : Int32).toInt = -1) (fun h_5 => ?_) (fun h_5 => ?_)
      · refine cg_bn (t_X6_lowestOfGroup U ((p1 + y46_3_5) - (p1 + y46_3_5) / 4 * 4) ((g_refl h0)).1) (fun z_7 hz_7 => ?_)
        have e_6 := (add_e (Eq.refl (y46_3_5).toInt) (by decide : (1 : Int32).toInt = 1) (by omega) (by omega))
        exact ihr46_3 (dr46_3 - 1) z_7 (y46_3_5 + 1) (by omega) ⟨(by omega), (by omega)⟩
      · exact cg_some trivial
  · refine cg_le2 (by decide : (15 : Int32).toInt = 15) (Eq.refl ((z_1 - z_1 / 16 * 16) : Int32).toInt) (fun h_7 => ?_) (fun h_7 => ?_)
    · refine cg_q2 (cg_l2 (fun dr46_3 y46_3_4 y46_3_5 => 0 ≤ y46_3_5.toInt ∧ 4 - y46_3_5.toInt ≤ (dr46_3 : Int)) (fun dr46_3 r46_3 ihr46_3 y46_3_4 y46_3_5 hh => ?_) 4 4096 (by decide) (-1) 0 ⟨(by decide), (by decide)⟩)
      obtain ⟨i_8, i_9⟩ := hh
      refine cg_le2 (by decide : (4 : Int32).toInt = 4) (Eq.refl ((y46_3_5) : Int32).toInt) (fun h_10 => ?_) (fun h_10 => ?_)
      · exact cg_some trivial
      · refine cg_eq2 (Eq.refl ((y46_3_4) : Int32).toInt) (by decide : (-1 : Int32).toInt = -1) (fun h_11 => ?_) (fun h_11 => ?_)
        · refine cg_bn (t_X6_lowestOfGroup U ((p1 + y46_3_5) - (p1 + y46_3_5) / 4 * 4) ((g_refl h0)).1) (fun z_7 hz_7 => ?_)
          have e_12 := (add_e (Eq.refl (y46_3_5).toInt) (by decide : (1 : Int32).toInt = 1) (by omega) (by omega))
          exact ihr46_3 (dr46_3 - 1) z_7 (y46_3_5 + 1) (by omega) ⟨(by omega), (by omega)⟩
        · exact cg_some trivial
    · refine cg_bn (t_X6_isUnused U (z_1 + 1) ((g_refl h0)).1) (fun z_10 hz_10 => ?_)
      refine cg_eq2 (Eq.refl ((z_10) : Int32).toInt) (by decide : (0 : Int32).toInt = 0) (fun h_13 => ?_) (fun h_13 => ?_)
      · refine cg_q2 (cg_l2 (fun dr46_3 y46_3_4 y46_3_5 => 0 ≤ y46_3_5.toInt ∧ 4 - y46_3_5.toInt ≤ (dr46_3 : Int)) (fun dr46_3 r46_3 ihr46_3 y46_3_4 y46_3_5 hh => ?_) 4 4096 (by decide) (-1) 0 ⟨(by decide), (by decide)⟩)
        obtain ⟨i_14, i_15⟩ := hh
        refine cg_le2 (by decide : (4 : Int32).toInt = 4) (Eq.refl ((y46_3_5) : Int32).toInt) (fun h_16 => ?_) (fun h_16 => ?_)
        · exact cg_some trivial
        · refine cg_eq2 (Eq.refl ((y46_3_4) : Int32).toInt) (by decide : (-1 : Int32).toInt = -1) (fun h_17 => ?_) (fun h_17 => ?_)
          · refine cg_bn (t_X6_lowestOfGroup U ((p1 + y46_3_5) - (p1 + y46_3_5) / 4 * 4) ((g_refl h0)).1) (fun z_7 hz_7 => ?_)
            have e_18 := (add_e (Eq.refl (y46_3_5).toInt) (by decide : (1 : Int32).toInt = 1) (by omega) (by omega))
            exact ihr46_3 (dr46_3 - 1) z_7 (y46_3_5 + 1) (by omega) ⟨(by omega), (by omega)⟩
          · exact cg_some trivial
      · exact cg_some trivial
theorem t_X6_blockToWrite (U : S2) (p1 : Int32) (p2 : Int32) (h0 : cg_U U) : cg_O (f_X6_blockToWrite U p1 p2) (fun z => True) := by
  unfold f_X6_blockToWrite
  try dsimp only [jn]
  refine cg_bn (t_X4_blockOf (U 1) p1 p2 ) (fun z_1 hz_1 => ?_)
  refine cg_eq2 (Eq.refl ((z_1) : Int32).toInt) (by decide : (-1 : Int32).toInt = -1) (fun h_1 => ?_) (fun h_1 => ?_)
  · refine cg_bn (t_X6_isWithinQuota U p1 1 ((g_refl h0)).1) (fun z_7 hz_7 => ?_)
    refine cg_eq2 (Eq.refl ((z_7) : Int32).toInt) (by decide : (0 : Int32).toInt = 0) (fun h_2 => ?_) (fun h_2 => ?_)
    · exact cg_some trivial
    · refine cg_bn (t_X6_blockFor U p1 p2 ((g_refl h0)).1) (fun z_10 hz_10 => ?_)
      exact cg_some trivial
  · refine cg_bn (t_X6_isInSnapshot U z_1 ((g_refl h0)).1) (fun z_3 hz_3 => ?_)
    refine cg_eq2 (Eq.refl ((z_3) : Int32).toInt) (by decide : (0 : Int32).toInt = 0) (fun h_3 => ?_) (fun h_3 => ?_)
    · exact cg_some trivial
    · refine cg_bn (t_X6_blockFor U p1 p2 ((g_refl h0)).1) (fun z_6 hz_6 => ?_)
      exact cg_some trivial
theorem t_X6_write (U : S2) (p1 : Int32) (p2 : Int32) (p3 : Int32) (h0 : cg_U U) : cg_O (f_X6_write U p1 p2 p3) (fun z => (z.1 = 0 ∨ z.1 = 1 ∨ z.1 = 2 ∨ z.1 = 3) ∧ (cg_G U z.2.2)) := by
  unfold f_X6_write
  try dsimp only [jn]
  refine cg_bn (t_X6_demandHandleAndPage U p1 p2 ((g_refl h0)).1) (fun z_1 hz_1 => ?_)
  refine cg_i (fun h_1 => ?_) (fun h_1 => ?_)
  · refine cg_lt2 (Eq.refl ((p3) : Int32).toInt) (by decide : (0 : Int32).toInt = 0) (fun h_2 => ?_) (fun h_2 => ?_)
    · exact cg_some (show (1 = 0 ∨ 1 = 1 ∨ 1 = 2 ∨ 1 = 3) ∧ (cg_G U z_1.2.2) from ⟨(by decide), (g_trans (g_refl h0) hz_1.2.1)⟩)
    · refine cg_le2 (Eq.refl ((p3) : Int32).toInt) (by decide : (255 : Int32).toInt = 255) (fun h_3 => ?_) (fun h_3 => ?_)
      · refine cg_bn (t_X6_demandWriting z_1.2.2 p1 ((g_trans (g_refl h0) hz_1.2.1)).1) (fun z_6 hz_6 => ?_)
        refine cg_i (fun h_4 => ?_) (fun h_4 => ?_)
        · refine cg_bn (t_X3_thingOf (z_6.2.2 9) p1 ) (fun z_8 hz_8 => ?_)
          refine cg_bn (t_X6_blockToWrite z_6.2.2 z_8 p2 ((g_trans (g_trans (g_refl h0) hz_1.2.1) hz_6.2)).1) (fun z_9 hz_9 => ?_)
          refine cg_eq2 (Eq.refl ((z_9) : Int32).toInt) (by decide : (-1 : Int32).toInt = -1) (fun h_5 => ?_) (fun h_5 => ?_)
          · exact cg_some (show (3 = 0 ∨ 3 = 1 ∨ 3 = 2 ∨ 3 = 3) ∧ (cg_G U z_6.2.2) from ⟨(by decide), (g_trans (g_trans (g_refl h0) hz_1.2.1) hz_6.2)⟩)
          · refine cg_bn (t_X4_setPage (z_6.2.2 1) z_8 p2 2 z_9 (g_sz (g_trans (g_trans (g_refl h0) hz_1.2.1) hz_6.2) (by decide) (by decide))) (fun z_11 hz_11 => ?_)
            refine cg_bv (fun u_12 eu_12 => ?_)
            have gu_12 : cg_G U u_12 := by rw [eu_12]; exact (g_tree (g_trans (g_trans (g_refl h0) hz_1.2.1) hz_6.2) (by decide) (by decide) hz_11)
            refine cg_bn (t_X0_put (u_12 8) z_8 p2 p3 ) (fun z_13 hz_13 => ?_)
            refine cg_bv (fun u_14 eu_14 => ?_)
            have gu_14 : cg_G U u_14 := by rw [eu_14]; exact (g_oth gu_12 (by decide) (by decide) (by decide))
            exact cg_some (show (0 = 0 ∨ 0 = 1 ∨ 0 = 2 ∨ 0 = 3) ∧ (cg_G U u_14) from ⟨(by decide), gu_14⟩)
        · exact cg_some (show (z_6.1 = 0 ∨ z_6.1 = 1 ∨ z_6.1 = 2 ∨ z_6.1 = 3) ∧ (cg_G U z_6.2.2) from ⟨(by omega), (g_trans (g_trans (g_refl h0) hz_1.2.1) hz_6.2)⟩)
      · exact cg_some (show (1 = 0 ∨ 1 = 1 ∨ 1 = 2 ∨ 1 = 3) ∧ (cg_G U z_1.2.2) from ⟨(by decide), (g_trans (g_refl h0) hz_1.2.1)⟩)
  · exact cg_some (show (z_1.1 = 0 ∨ z_1.1 = 1 ∨ z_1.1 = 2 ∨ z_1.1 = 3) ∧ (cg_G U z_1.2.2) from ⟨(by omega), (g_trans (g_refl h0) hz_1.2.1)⟩)
theorem t_X6_writtenNumber (u7 : S1) (u4 : S1) (p2 : Int32) (p3 : Int32) : cg_O (f_X6_writtenNumber u7 u4 p2 p3) (fun z => True) := by
  unfold f_X6_writtenNumber
  try dsimp only [jn]
  refine cg_bn (t_X4_pageKindOf u4 p2 p3 ) (fun z_1 hz_1 => ?_)
  refine cg_eq2 (Eq.refl ((z_1) : Int32).toInt) (by decide : (2 : Int32).toInt = 2) (fun h_1 => ?_) (fun h_1 => ?_)
  · refine cg_bn (t_X4_blockOf u4 p2 p3 ) (fun z_4 hz_4 => ?_)
    refine cg_bn (t_X2_numberOf u7 z_4 ) (fun z_5 hz_5 => ?_)
    exact cg_some trivial
  · exact cg_some trivial
theorem t_X6_read (U : S2) (p1 : Int32) (p2 : Int32) (h0 : cg_U U) : cg_O (f_X6_read U p1 p2) (fun z => (z.1 = 0 ∨ z.1 = 2 ∨ z.1 = 3) ∧ (cg_G U z.2.2)) := by
  unfold f_X6_read
  try dsimp only [jn]
  refine cg_bn (t_X6_demandHandleAndPage U p1 p2 ((g_refl h0)).1) (fun z_1 hz_1 => ?_)
  refine cg_i (fun h_1 => ?_) (fun h_1 => ?_)
  · refine cg_bn (t_X6_demandOpen z_1.2.2 p1 ((g_trans (g_refl h0) hz_1.2.1)).1) (fun z_3 hz_3 => ?_)
    refine cg_i (fun h_2 => ?_) (fun h_2 => ?_)
    · refine cg_bn (t_X3_thingOf (z_3.2.2 9) p1 ) (fun z_5 hz_5 => ?_)
      refine cg_bn (t_X0_isDirty (z_3.2.2 8) z_5 p2 ) (fun z_6 hz_6 => ?_)
      refine cg_eq2 (Eq.refl ((z_6) : Int32).toInt) (by decide : (0 : Int32).toInt = 0) (fun h_3 => ?_) (fun h_3 => ?_)
      · refine cg_bn (t_X6_writtenNumber (z_3.2.2 7) (z_3.2.2 1) z_5 p2 ) (fun z_8 hz_8 => ?_)
        exact cg_some (show (0 = 0 ∨ 0 = 2 ∨ 0 = 3) ∧ (cg_G U z_3.2.2) from ⟨(by decide), (g_trans (g_trans (g_refl h0) hz_1.2.1) hz_3.2)⟩)
      · refine cg_bn (t_X0_numberOf (z_3.2.2 8) z_5 p2 ) (fun z_9 hz_9 => ?_)
        exact cg_some (show (0 = 0 ∨ 0 = 2 ∨ 0 = 3) ∧ (cg_G U z_3.2.2) from ⟨(by decide), (g_trans (g_trans (g_refl h0) hz_1.2.1) hz_3.2)⟩)
    · exact cg_some (show (z_3.1 = 0 ∨ z_3.1 = 2 ∨ z_3.1 = 3) ∧ (cg_G U z_3.2.2) from ⟨(by omega), (g_trans (g_trans (g_refl h0) hz_1.2.1) hz_3.2)⟩)
  · exact cg_some (show (z_1.1 = 0 ∨ z_1.1 = 2 ∨ z_1.1 = 3) ∧ (cg_G U z_1.2.2) from ⟨(by omega), (g_trans (g_refl h0) hz_1.2.1)⟩)
theorem t_X6_demandHandleAndPages (U : S2) (p1 : Int32) (p2 : Int32) (p3 : Int32) (h0 : cg_U U) : cg_O (f_X6_demandHandleAndPages U p1 p2 p3) (fun z => (z.1 = 0 ∨ z.1 = 1 ∨ z.1 = 2) ∧ (cg_G U z.2.2) ∧ (z.1 ≠ 0 ∨ (0 ≤ p2.toInt ∧ p2.toInt < 16 ∧ 0 ≤ p3.toInt ∧ p3.toInt < 16))) := by
  unfold f_X6_demandHandleAndPages
  try dsimp only [jn]
  refine cg_bn (t_X6_demandHandleAndPage U p1 p2 ((g_refl h0)).1) (fun z_1 hz_1 => ?_)
  refine cg_i (fun h_1 => ?_) (fun h_1 => ?_)
  · refine cg_bn (t_X6_demandHandleAndPage z_1.2.2 p1 p3 ((g_trans (g_refl h0) hz_1.2.1)).1) (fun z_3 hz_3 => ?_)
    refine cg_i (fun h_2 => ?_) (fun h_2 => ?_)
    · refine cg_le2 (Eq.refl ((p2) : Int32).toInt) (Eq.refl ((p3) : Int32).toInt) (fun h_3 => ?_) (fun h_3 => ?_)
      · exact cg_some (show (0 = 0 ∨ 0 = 1 ∨ 0 = 2) ∧ (cg_G U z_3.2.2) ∧ (0 ≠ 0 ∨ (0 ≤ p2.toInt ∧ p2.toInt < 16 ∧ 0 ≤ p3.toInt ∧ p3.toInt < 16)) from ⟨(by decide), (g_trans (g_trans (g_refl h0) hz_1.2.1) hz_3.2.1), (by first | omega | decide | exact Or.inl (by decide) | exact Or.inr (by omega))⟩)
      · exact cg_some (show (1 = 0 ∨ 1 = 1 ∨ 1 = 2) ∧ (cg_G U z_3.2.2) ∧ (1 ≠ 0 ∨ (0 ≤ p2.toInt ∧ p2.toInt < 16 ∧ 0 ≤ p3.toInt ∧ p3.toInt < 16)) from ⟨(by decide), (g_trans (g_trans (g_refl h0) hz_1.2.1) hz_3.2.1), (by first | omega | decide | exact Or.inl (by decide) | exact Or.inr (by omega))⟩)
    · exact cg_some (show (z_3.1 = 0 ∨ z_3.1 = 1 ∨ z_3.1 = 2) ∧ (cg_G U z_3.2.2) ∧ (z_3.1 ≠ 0 ∨ (0 ≤ p2.toInt ∧ p2.toInt < 16 ∧ 0 ≤ p3.toInt ∧ p3.toInt < 16)) from ⟨(by omega), (g_trans (g_trans (g_refl h0) hz_1.2.1) hz_3.2.1), (by first | omega | decide | exact Or.inl (by decide) | exact Or.inr (by omega))⟩)
  · exact cg_some (show (z_1.1 = 0 ∨ z_1.1 = 1 ∨ z_1.1 = 2) ∧ (cg_G U z_1.2.2) ∧ (z_1.1 ≠ 0 ∨ (0 ≤ p2.toInt ∧ p2.toInt < 16 ∧ 0 ≤ p3.toInt ∧ p3.toInt < 16)) from ⟨(by omega), (g_trans (g_refl h0) hz_1.2.1), (by first | omega | decide | exact Or.inl (by decide) | exact Or.inr (by omega))⟩)
theorem t_X6_countOfUnused (U : S2) (h0 : cg_U U) : cg_O (f_X6_countOfUnused U) (fun z => True) := by
  unfold f_X6_countOfUnused
  try dsimp only [jn]
  refine cg_q2 (cg_l2 (fun dr4_1 y4_1_1 y4_1_2 => 0 ≤ y4_1_2.toInt ∧ 64 - y4_1_2.toInt ≤ (dr4_1 : Int)) (fun dr4_1 r4_1 ihr4_1 y4_1_1 y4_1_2 hh => ?_) 64 4096 (by decide) 0 0 ⟨(by decide), (by decide)⟩)
  obtain ⟨i_1, i_2⟩ := hh
  refine cg_le2 (by decide : (64 : Int32).toInt = 64) (Eq.refl ((y4_1_2) : Int32).toInt) (fun h_3 => ?_) (fun h_3 => ?_)
  · exact cg_some trivial
  · refine cg_bn (t_X6_isUnused U y4_1_2 ((g_refl h0)).1) (fun z_3 hz_3 => ?_)
    refine cg_eq2 (Eq.refl ((z_3) : Int32).toInt) (by decide : (0 : Int32).toInt = 0) (fun h_4 => ?_) (fun h_4 => ?_)
    · have e_5 := (add_e (Eq.refl (y4_1_2).toInt) (by decide : (1 : Int32).toInt = 1) (by omega) (by omega))
      exact ihr4_1 (dr4_1 - 1) y4_1_1 (y4_1_2 + 1) (by omega) ⟨(by omega), (by omega)⟩
    · have e_6 := (add_e (Eq.refl (y4_1_2).toInt) (by decide : (1 : Int32).toInt = 1) (by omega) (by omega))
      exact ihr4_1 (dr4_1 - 1) (y4_1_1 + 1) (y4_1_2 + 1) (by omega) ⟨(by omega), (by omega)⟩
theorem t_X6_ahead (U : S2) (p1 : Int32) (p2 : Int32) (p3 : Int32) (h0 : cg_U U) : cg_O (f_X6_ahead U p1 p2 p3) (fun z => (z.1 = 0 ∨ z.1 = 1 ∨ z.1 = 2 ∨ z.1 = 3) ∧ (cg_G U z.2.2)) := by
  unfold f_X6_ahead
  try dsimp only [jn]
  refine cg_bn (t_X6_demandHandleAndPages U p1 p2 p3 ((g_refl h0)).1) (fun z_1 hz_1 => ?_)
  refine cg_i (fun h_1 => ?_) (fun h_1 => ?_)
  · refine cg_bn (t_X6_demandWriting z_1.2.2 p1 ((g_trans (g_refl h0) hz_1.2.1)).1) (fun z_3 hz_3 => ?_)
    refine cg_i (fun h_2 => ?_) (fun h_2 => ?_)
    · refine cg_bn (t_X3_thingOf (z_3.2.2 9) p1 ) (fun z_5 hz_5 => ?_)
      refine cg_bn (t_X4_holesOf (z_3.2.2 1) z_5 p2 p3 (by omega)) (fun z_6 hz_6 => ?_)
      refine cg_le2 (Eq.refl ((z_6) : Int32).toInt) (by decide : (0 : Int32).toInt = 0) (fun h_3 => ?_) (fun h_3 => ?_)
      · refine cg_q2 (cg_l2 (fun dr74_8 y74_8_6 u74_8_0 => cg_G U u74_8_0 ∧ 0 ≤ y74_8_6.toInt ∧ 16 - y74_8_6.toInt ≤ (dr74_8 : Int)) (fun dr74_8 r74_8 ihr74_8 y74_8_6 u74_8_0 hh => ?_) 16 4096 (by decide) p2 z_3.2.2 ⟨(g_trans (g_trans (g_refl h0) hz_1.2.1) hz_3.2), (by first | omega | decide), (by first | omega | decide)⟩)
        obtain ⟨su74_8_0, i_4, i_5⟩ := hh
        refine cg_lt2 (Eq.refl ((p3) : Int32).toInt) (Eq.refl ((y74_8_6) : Int32).toInt) (fun h_6 => ?_) (fun h_6 => ?_)
        · exact cg_some (show (0 = 0 ∨ 0 = 1 ∨ 0 = 2 ∨ 0 = 3) ∧ (cg_G U u74_8_0) from ⟨(by decide), su74_8_0⟩)
        · refine cg_le2 (by decide : (16 : Int32).toInt = 16) (Eq.refl ((y74_8_6) : Int32).toInt) (fun h_7 => ?_) (fun h_7 => ?_)
          · exact cg_some (show (0 = 0 ∨ 0 = 1 ∨ 0 = 2 ∨ 0 = 3) ∧ (cg_G U u74_8_0) from ⟨(by decide), su74_8_0⟩)
          · refine cg_bn (t_X4_pageKindOf (u74_8_0 1) z_5 y74_8_6 ) (fun z_12 hz_12 => ?_)
            refine cg_eq2 (Eq.refl ((z_12) : Int32).toInt) (by decide : (0 : Int32).toInt = 0) (fun h_8 => ?_) (fun h_8 => ?_)
            · refine cg_bn (t_X6_blockFor u74_8_0 z_5 y74_8_6 (su74_8_0).1) (fun z_15 hz_15 => ?_)
              refine cg_bn (t_X4_setPage (u74_8_0 1) z_5 y74_8_6 1 z_15 (g_sz su74_8_0 (by decide) (by decide))) (fun z_16 hz_16 => ?_)
              refine cg_bv (fun u_17 eu_17 => ?_)
              have gu_17 : cg_G U u_17 := by rw [eu_17]; exact (g_tree su74_8_0 (by decide) (by decide) hz_16)
              have e_9 := (add_e (Eq.refl (y74_8_6).toInt) (by decide : (1 : Int32).toInt = 1) (by omega) (by omega))
              exact ihr74_8 (dr74_8 - 1) (y74_8_6 + 1) u_17 (by omega) ⟨gu_17, (by omega), (by omega)⟩
            · have e_10 := (add_e (Eq.refl (y74_8_6).toInt) (by decide : (1 : Int32).toInt = 1) (by omega) (by omega))
              exact ihr74_8 (dr74_8 - 1) (y74_8_6 + 1) u74_8_0 (by omega) ⟨su74_8_0, (by omega), (by omega)⟩
      · refine cg_bn (t_X6_isWithinQuota z_3.2.2 z_5 z_6 ((g_trans (g_trans (g_refl h0) hz_1.2.1) hz_3.2)).1) (fun z_19 hz_19 => ?_)
        refine cg_eq2 (Eq.refl ((z_19) : Int32).toInt) (by decide : (0 : Int32).toInt = 0) (fun h_11 => ?_) (fun h_11 => ?_)
        · exact cg_some (show (3 = 0 ∨ 3 = 1 ∨ 3 = 2 ∨ 3 = 3) ∧ (cg_G U z_3.2.2) from ⟨(by decide), (g_trans (g_trans (g_refl h0) hz_1.2.1) hz_3.2)⟩)
        · refine cg_bn (t_X6_countOfUnused z_3.2.2 ((g_trans (g_trans (g_refl h0) hz_1.2.1) hz_3.2)).1) (fun z_22 hz_22 => ?_)
          refine cg_le2 (Eq.refl ((z_6) : Int32).toInt) (Eq.refl ((z_22) : Int32).toInt) (fun h_12 => ?_) (fun h_12 => ?_)
          · refine cg_q2 (cg_l2 (fun dr74_8 y74_8_6 u74_8_0 => cg_G U u74_8_0 ∧ 0 ≤ y74_8_6.toInt ∧ 16 - y74_8_6.toInt ≤ (dr74_8 : Int)) (fun dr74_8 r74_8 ihr74_8 y74_8_6 u74_8_0 hh => ?_) 16 4096 (by decide) p2 z_3.2.2 ⟨(g_trans (g_trans (g_refl h0) hz_1.2.1) hz_3.2), (by first | omega | decide), (by first | omega | decide)⟩)
            obtain ⟨su74_8_0, i_13, i_14⟩ := hh
            refine cg_lt2 (Eq.refl ((p3) : Int32).toInt) (Eq.refl ((y74_8_6) : Int32).toInt) (fun h_15 => ?_) (fun h_15 => ?_)
            · exact cg_some (show (0 = 0 ∨ 0 = 1 ∨ 0 = 2 ∨ 0 = 3) ∧ (cg_G U u74_8_0) from ⟨(by decide), su74_8_0⟩)
            · refine cg_le2 (by decide : (16 : Int32).toInt = 16) (Eq.refl ((y74_8_6) : Int32).toInt) (fun h_16 => ?_) (fun h_16 => ?_)
              · exact cg_some (show (0 = 0 ∨ 0 = 1 ∨ 0 = 2 ∨ 0 = 3) ∧ (cg_G U u74_8_0) from ⟨(by decide), su74_8_0⟩)
              · refine cg_bn (t_X4_pageKindOf (u74_8_0 1) z_5 y74_8_6 ) (fun z_12 hz_12 => ?_)
                refine cg_eq2 (Eq.refl ((z_12) : Int32).toInt) (by decide : (0 : Int32).toInt = 0) (fun h_17 => ?_) (fun h_17 => ?_)
                · refine cg_bn (t_X6_blockFor u74_8_0 z_5 y74_8_6 (su74_8_0).1) (fun z_15 hz_15 => ?_)
                  refine cg_bn (t_X4_setPage (u74_8_0 1) z_5 y74_8_6 1 z_15 (g_sz su74_8_0 (by decide) (by decide))) (fun z_16 hz_16 => ?_)
                  refine cg_bv (fun u_17 eu_17 => ?_)
                  have gu_17 : cg_G U u_17 := by rw [eu_17]; exact (g_tree su74_8_0 (by decide) (by decide) hz_16)
                  have e_18 := (add_e (Eq.refl (y74_8_6).toInt) (by decide : (1 : Int32).toInt = 1) (by omega) (by omega))
                  exact ihr74_8 (dr74_8 - 1) (y74_8_6 + 1) u_17 (by omega) ⟨gu_17, (by omega), (by omega)⟩
                · have e_19 := (add_e (Eq.refl (y74_8_6).toInt) (by decide : (1 : Int32).toInt = 1) (by omega) (by omega))
                  exact ihr74_8 (dr74_8 - 1) (y74_8_6 + 1) u74_8_0 (by omega) ⟨su74_8_0, (by omega), (by omega)⟩
          · exact cg_some (show (3 = 0 ∨ 3 = 1 ∨ 3 = 2 ∨ 3 = 3) ∧ (cg_G U z_3.2.2) from ⟨(by decide), (g_trans (g_trans (g_refl h0) hz_1.2.1) hz_3.2)⟩)
    · exact cg_some (show (z_3.1 = 0 ∨ z_3.1 = 1 ∨ z_3.1 = 2 ∨ z_3.1 = 3) ∧ (cg_G U z_3.2.2) from ⟨(by omega), (g_trans (g_trans (g_refl h0) hz_1.2.1) hz_3.2)⟩)
  · exact cg_some (show (z_1.1 = 0 ∨ z_1.1 = 1 ∨ z_1.1 = 2 ∨ z_1.1 = 3) ∧ (cg_G U z_1.2.2) from ⟨(by omega), (g_trans (g_refl h0) hz_1.2.1)⟩)
theorem t_X6_cut (U : S2) (p1 : Int32) (p2 : Int32) (h0 : cg_U U) : cg_O (f_X6_cut U p1 p2) (fun z => (z.1 = 0 ∨ z.1 = 2 ∨ z.1 = 3) ∧ (cg_G U z.2.2)) := by
  unfold f_X6_cut
  try dsimp only [jn]
  refine cg_bn (t_X6_demandHandleAndPage U p1 p2 ((g_refl h0)).1) (fun z_1 hz_1 => ?_)
  refine cg_i (fun h_1 => ?_) (fun h_1 => ?_)
  · refine cg_bn (t_X6_demandWriting z_1.2.2 p1 ((g_trans (g_refl h0) hz_1.2.1)).1) (fun z_3 hz_3 => ?_)
    refine cg_i (fun h_2 => ?_) (fun h_2 => ?_)
    · refine cg_bn (t_X3_thingOf (z_3.2.2 9) p1 ) (fun z_5 hz_5 => ?_)
      refine cg_q3 (cg_l3 (fun dr26_6 y26_6_4 y26_6_5 u26_6_0 => cg_G U u26_6_0 ∧ 0 ≤ y26_6_5.toInt ∧ 16 - y26_6_5.toInt ≤ (dr26_6 : Int)) (fun dr26_6 r26_6 ihr26_6 y26_6_4 y26_6_5 u26_6_0 hh => ?_) 16 4096 (by decide) 0 p2 z_3.2.2 ⟨(g_trans (g_trans (g_refl h0) hz_1.2.1) hz_3.2), (by first | omega | decide), (by first | omega | decide)⟩)
      obtain ⟨su26_6_0, i_3, i_4⟩ := hh
      refine cg_le2 (by decide : (16 : Int32).toInt = 16) (Eq.refl ((y26_6_5) : Int32).toInt) (fun h_5 => ?_) (fun h_5 => ?_)
      · exact cg_some (show (0 = 0 ∨ 0 = 2 ∨ 0 = 3) ∧ (cg_G U u26_6_0) from ⟨(by decide), su26_6_0⟩)
      · refine cg_bn (t_X4_pageKindOf (u26_6_0 1) z_5 y26_6_5 ) (fun z_8 hz_8 => ?_)
        refine cg_eq2 (Eq.refl ((z_8) : Int32).toInt) (by decide : (0 : Int32).toInt = 0) (fun h_6 => ?_) (fun h_6 => ?_)
        · have e_7 := (add_e (Eq.refl (y26_6_5).toInt) (by decide : (1 : Int32).toInt = 1) (by omega) (by omega))
          exact ihr26_6 (dr26_6 - 1) y26_6_4 (y26_6_5 + 1) u26_6_0 (by omega) ⟨su26_6_0, (by omega), (by omega)⟩
        · refine cg_bn (t_X4_setPage (u26_6_0 1) z_5 y26_6_5 0 (-1) (g_sz su26_6_0 (by decide) (by decide))) (fun z_11 hz_11 => ?_)
          refine cg_bv (fun u_12 eu_12 => ?_)
          have gu_12 : cg_G U u_12 := by rw [eu_12]; exact (g_tree su26_6_0 (by decide) (by decide) hz_11)
          refine cg_bn (t_X0_letGo (u_12 8) z_5 y26_6_5 ) (fun z_13 hz_13 => ?_)
          refine cg_bv (fun u_14 eu_14 => ?_)
          have gu_14 : cg_G U u_14 := by rw [eu_14]; exact (g_oth gu_12 (by decide) (by decide) (by decide))
          have e_8 := (add_e (Eq.refl (y26_6_5).toInt) (by decide : (1 : Int32).toInt = 1) (by omega) (by omega))
          exact ihr26_6 (dr26_6 - 1) (y26_6_4 + 1) (y26_6_5 + 1) u_14 (by omega) ⟨gu_14, (by omega), (by omega)⟩
    · exact cg_some (show (z_3.1 = 0 ∨ z_3.1 = 2 ∨ z_3.1 = 3) ∧ (cg_G U z_3.2.2) from ⟨(by omega), (g_trans (g_trans (g_refl h0) hz_1.2.1) hz_3.2)⟩)
  · exact cg_some (show (z_1.1 = 0 ∨ z_1.1 = 2 ∨ z_1.1 = 3) ∧ (cg_G U z_1.2.2) from ⟨(by omega), (g_trans (g_refl h0) hz_1.2.1)⟩)
theorem t_X6_lock (U : S2) (p1 : Int32) (p2 : Int32) (p3 : Int32) (p4 : Int32) (h0 : cg_U U) : cg_O (f_X6_lock U p1 p2 p3 p4) (fun z => (z.1 = 0 ∨ z.1 = 1 ∨ z.1 = 2 ∨ z.1 = 3) ∧ (cg_G U z.2.2)) := by
  unfold f_X6_lock
  try dsimp only [jn]
  refine cg_bn (t_X6_demandHandleAndPages U p1 p2 p3 ((g_refl h0)).1) (fun z_1 hz_1 => ?_)
  refine cg_i (fun h_1 => ?_) (fun h_1 => ?_)
  · refine cg_bn (t_X6_demandOpen z_1.2.2 p1 ((g_trans (g_refl h0) hz_1.2.1)).1) (fun z_3 hz_3 => ?_)
    refine cg_i (fun h_2 => ?_) (fun h_2 => ?_)
    · refine cg_eq2 (Eq.refl ((p4) : Int32).toInt) (by decide : (0 : Int32).toInt = 0) (fun h_3 => ?_) (fun h_3 => ?_)
      · refine cg_bn (t_X3_isHindered (z_3.2.2 9) p1 p2 p3 1 (by omega)) (fun z_6 hz_6 => ?_)
        refine cg_eq2 (Eq.refl ((z_6) : Int32).toInt) (by decide : (0 : Int32).toInt = 0) (fun h_4 => ?_) (fun h_4 => ?_)
        · refine cg_bn (t_X3_countLocked (z_3.2.2 9) p1 p2 p3 1 (by omega)) (fun z_8 hz_8 => ?_)
          refine cg_bn (t_X3_setLocks (z_3.2.2 9) p1 p2 p3 1 ) (fun z_9 hz_9 => ?_)
          refine cg_bv (fun u_10 eu_10 => ?_)
          have gu_10 : cg_G U u_10 := by rw [eu_10]; exact (g_oth (g_trans (g_trans (g_refl h0) hz_1.2.1) hz_3.2) (by decide) (by decide) (by decide))
          exact cg_some (show (0 = 0 ∨ 0 = 1 ∨ 0 = 2 ∨ 0 = 3) ∧ (cg_G U u_10) from ⟨(by decide), gu_10⟩)
        · exact cg_some (show (3 = 0 ∨ 3 = 1 ∨ 3 = 2 ∨ 3 = 3) ∧ (cg_G U z_3.2.2) from ⟨(by decide), (g_trans (g_trans (g_refl h0) hz_1.2.1) hz_3.2)⟩)
      · refine cg_bn (t_X3_isHindered (z_3.2.2 9) p1 p2 p3 2 (by omega)) (fun z_6 hz_6 => ?_)
        refine cg_eq2 (Eq.refl ((z_6) : Int32).toInt) (by decide : (0 : Int32).toInt = 0) (fun h_5 => ?_) (fun h_5 => ?_)
        · refine cg_bn (t_X3_countLocked (z_3.2.2 9) p1 p2 p3 2 (by omega)) (fun z_8 hz_8 => ?_)
          refine cg_bn (t_X3_setLocks (z_3.2.2 9) p1 p2 p3 2 ) (fun z_9 hz_9 => ?_)
          refine cg_bv (fun u_10 eu_10 => ?_)
          have gu_10 : cg_G U u_10 := by rw [eu_10]; exact (g_oth (g_trans (g_trans (g_refl h0) hz_1.2.1) hz_3.2) (by decide) (by decide) (by decide))
          exact cg_some (show (0 = 0 ∨ 0 = 1 ∨ 0 = 2 ∨ 0 = 3) ∧ (cg_G U u_10) from ⟨(by decide), gu_10⟩)
        · exact cg_some (show (3 = 0 ∨ 3 = 1 ∨ 3 = 2 ∨ 3 = 3) ∧ (cg_G U z_3.2.2) from ⟨(by decide), (g_trans (g_trans (g_refl h0) hz_1.2.1) hz_3.2)⟩)
    · exact cg_some (show (z_3.1 = 0 ∨ z_3.1 = 1 ∨ z_3.1 = 2 ∨ z_3.1 = 3) ∧ (cg_G U z_3.2.2) from ⟨(by omega), (g_trans (g_trans (g_refl h0) hz_1.2.1) hz_3.2)⟩)
  · exact cg_some (show (z_1.1 = 0 ∨ z_1.1 = 1 ∨ z_1.1 = 2 ∨ z_1.1 = 3) ∧ (cg_G U z_1.2.2) from ⟨(by omega), (g_trans (g_refl h0) hz_1.2.1)⟩)
theorem t_X6_unlock (U : S2) (p1 : Int32) (p2 : Int32) (p3 : Int32) (h0 : cg_U U) : cg_O (f_X6_unlock U p1 p2 p3) (fun z => (z.1 = 0 ∨ z.1 = 1 ∨ z.1 = 2 ∨ z.1 = 3) ∧ (cg_G U z.2.2)) := by
  unfold f_X6_unlock
  try dsimp only [jn]
  refine cg_bn (t_X6_demandHandleAndPages U p1 p2 p3 ((g_refl h0)).1) (fun z_1 hz_1 => ?_)
  refine cg_i (fun h_1 => ?_) (fun h_1 => ?_)
  · refine cg_bn (t_X6_demandOpen z_1.2.2 p1 ((g_trans (g_refl h0) hz_1.2.1)).1) (fun z_3 hz_3 => ?_)
    refine cg_i (fun h_2 => ?_) (fun h_2 => ?_)
    · refine cg_bn (t_X3_countLocked (z_3.2.2 9) p1 p2 p3 0 (by omega)) (fun z_5 hz_5 => ?_)
      refine cg_bn (t_X3_setLocks (z_3.2.2 9) p1 p2 p3 0 ) (fun z_6 hz_6 => ?_)
      refine cg_bv (fun u_7 eu_7 => ?_)
      have gu_7 : cg_G U u_7 := by rw [eu_7]; exact (g_oth (g_trans (g_trans (g_refl h0) hz_1.2.1) hz_3.2) (by decide) (by decide) (by decide))
      exact cg_some (show (0 = 0 ∨ 0 = 1 ∨ 0 = 2 ∨ 0 = 3) ∧ (cg_G U u_7) from ⟨(by decide), gu_7⟩)
    · exact cg_some (show (z_3.1 = 0 ∨ z_3.1 = 1 ∨ z_3.1 = 2 ∨ z_3.1 = 3) ∧ (cg_G U z_3.2.2) from ⟨(by omega), (g_trans (g_trans (g_refl h0) hz_1.2.1) hz_3.2)⟩)
  · exact cg_some (show (z_1.1 = 0 ∨ z_1.1 = 1 ∨ z_1.1 = 2 ∨ z_1.1 = 3) ∧ (cg_G U z_1.2.2) from ⟨(by omega), (g_trans (g_refl h0) hz_1.2.1)⟩)
theorem t_X6_lockOf (U : S2) (p1 : Int32) (p2 : Int32) (h0 : cg_U U) : cg_O (f_X6_lockOf U p1 p2) (fun z => (z.1 = 0 ∨ z.1 = 2) ∧ (cg_G U z.2.2)) := by
  unfold f_X6_lockOf
  try dsimp only [jn]
  refine cg_bn (t_X6_demandHandleAndPage U p1 p2 ((g_refl h0)).1) (fun z_1 hz_1 => ?_)
  refine cg_i (fun h_1 => ?_) (fun h_1 => ?_)
  · refine cg_bn (t_X3_lockAt (z_1.2.2 9) p1 p2 ) (fun z_3 hz_3 => ?_)
    exact cg_some (show (0 = 0 ∨ 0 = 2) ∧ (cg_G U z_1.2.2) from ⟨(by decide), (g_trans (g_refl h0) hz_1.2.1)⟩)
  · exact cg_some (show (z_1.1 = 0 ∨ z_1.1 = 2) ∧ (cg_G U z_1.2.2) from ⟨(by omega), (g_trans (g_refl h0) hz_1.2.1)⟩)
theorem t_X6_flushThing (U : S2) (p1 : Int32) (p2 : Int32) (h0 : cg_U U) : cg_O (f_X6_flushThing U p1 p2) (fun z => (cg_G U z.2)) := by
  unfold f_X6_flushThing
  try dsimp only [jn]
  refine cg_q3 (cg_l3 (fun dr5_1 y5_1_3 y5_1_4 u5_1_0 => cg_G U u5_1_0 ∧ 0 ≤ y5_1_4.toInt ∧ 16 - y5_1_4.toInt ≤ (dr5_1 : Int)) (fun dr5_1 r5_1 ihr5_1 y5_1_3 y5_1_4 u5_1_0 hh => ?_) 16 4096 (by decide) 0 0 U ⟨(g_refl h0), (by decide), (by decide)⟩)
  obtain ⟨su5_1_0, i_1, i_2⟩ := hh
  refine cg_le2 (by decide : (16 : Int32).toInt = 16) (Eq.refl ((y5_1_4) : Int32).toInt) (fun h_3 => ?_) (fun h_3 => ?_)
  · exact cg_some (show (cg_G U u5_1_0) from su5_1_0)
  · refine cg_le2 (Eq.refl ((p2) : Int32).toInt) (Eq.refl ((y5_1_3) : Int32).toInt) (fun h_4 => ?_) (fun h_4 => ?_)
    · exact cg_some (show (cg_G U u5_1_0) from su5_1_0)
    · refine cg_bn (t_X0_isDirty (u5_1_0 8) p1 y5_1_4 ) (fun z_5 hz_5 => ?_)
      refine cg_eq2 (Eq.refl ((z_5) : Int32).toInt) (by decide : (0 : Int32).toInt = 0) (fun h_5 => ?_) (fun h_5 => ?_)
      · have e_6 := (add_e (Eq.refl (y5_1_4).toInt) (by decide : (1 : Int32).toInt = 1) (by omega) (by omega))
        exact ihr5_1 (dr5_1 - 1) y5_1_3 (y5_1_4 + 1) u5_1_0 (by omega) ⟨su5_1_0, (by omega), (by omega)⟩
      · refine cg_bn (t_X4_blockOf (u5_1_0 1) p1 y5_1_4 ) (fun z_8 hz_8 => ?_)
        refine cg_bn (t_X2_isBad (u5_1_0 7) z_8 ) (fun z_9 hz_9 => ?_)
        refine cg_eq2 (Eq.refl ((z_9) : Int32).toInt) (by decide : (0 : Int32).toInt = 0) (fun h_7 => ?_) (fun h_7 => ?_)
        · refine cg_bn (t_X0_numberOf (u5_1_0 8) p1 y5_1_4 ) (fun z_14 hz_14 => ?_)
          refine cg_bn (t_X2_setNumber (u5_1_0 7) z_8 z_14 ) (fun z_15 hz_15 => ?_)
          refine cg_bv (fun u_16 eu_16 => ?_)
          have gu_16 : cg_G U u_16 := by rw [eu_16]; exact (g_disk su5_1_0 hz_15)
          refine cg_bn (t_X0_letGo (u_16 8) p1 y5_1_4 ) (fun z_11 hz_11 => ?_)
          refine cg_bv (fun u_12 eu_12 => ?_)
          have gu_12 : cg_G U u_12 := by rw [eu_12]; exact (g_oth gu_16 (by decide) (by decide) (by decide))
          have e_8 := (add_e (Eq.refl (y5_1_4).toInt) (by decide : (1 : Int32).toInt = 1) (by omega) (by omega))
          exact ihr5_1 (dr5_1 - 1) (y5_1_3 + 1) (y5_1_4 + 1) u_12 (by omega) ⟨gu_12, (by omega), (by omega)⟩
        · refine cg_bn (t_X0_setError (u5_1_0 8) p1 ) (fun z_17 hz_17 => ?_)
          refine cg_bv (fun u_18 eu_18 => ?_)
          have gu_18 : cg_G U u_18 := by rw [eu_18]; exact (g_oth su5_1_0 (by decide) (by decide) (by decide))
          refine cg_bn (t_X0_letGo (u_18 8) p1 y5_1_4 ) (fun z_11 hz_11 => ?_)
          refine cg_bv (fun u_12 eu_12 => ?_)
          have gu_12 : cg_G U u_12 := by rw [eu_12]; exact (g_oth gu_18 (by decide) (by decide) (by decide))
          have e_9 := (add_e (Eq.refl (y5_1_4).toInt) (by decide : (1 : Int32).toInt = 1) (by omega) (by omega))
          exact ihr5_1 (dr5_1 - 1) (y5_1_3 + 1) (y5_1_4 + 1) u_12 (by omega) ⟨gu_12, (by omega), (by omega)⟩
theorem t_X6_flushFirst (U : S2) (p1 : Int32) (h0 : cg_U U) : cg_O (f_X6_flushFirst U p1) (fun z => (cg_G U z.2)) := by
  unfold f_X6_flushFirst
  try dsimp only [jn]
  refine cg_q3 (cg_l3 (fun dr4_1 y4_1_2 y4_1_3 u4_1_0 => cg_G U u4_1_0 ∧ 0 ≤ y4_1_3.toInt ∧ 32 - y4_1_3.toInt ≤ (dr4_1 : Int)) (fun dr4_1 r4_1 ihr4_1 y4_1_2 y4_1_3 u4_1_0 hh => ?_) 32 4096 (by decide) 0 0 U ⟨(g_refl h0), (by decide), (by decide)⟩)
  obtain ⟨su4_1_0, i_1, i_2⟩ := hh
  refine cg_le2 (by decide : (32 : Int32).toInt = 32) (Eq.refl ((y4_1_3) : Int32).toInt) (fun h_3 => ?_) (fun h_3 => ?_)
  · exact cg_some (show (cg_G U u4_1_0) from su4_1_0)
  · refine cg_le2 (Eq.refl ((p1) : Int32).toInt) (Eq.refl ((y4_1_2) : Int32).toInt) (fun h_4 => ?_) (fun h_4 => ?_)
    · exact cg_some (show (cg_G U u4_1_0) from su4_1_0)
    · refine cg_bn (t_X6_flushThing u4_1_0 y4_1_3 (p1 - y4_1_2) (su4_1_0).1) (fun z_5 hz_5 => ?_)
      have e_5 := (add_e (Eq.refl (y4_1_3).toInt) (by decide : (1 : Int32).toInt = 1) (by omega) (by omega))
      exact ihr4_1 (dr4_1 - 1) (y4_1_2 + z_5.1) (y4_1_3 + 1) z_5.2 (by omega) ⟨(g_trans su4_1_0 hz_5), (by omega), (by omega)⟩
