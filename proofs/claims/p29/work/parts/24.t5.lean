theorem t_X6_flush (U : S2) (p1 : Int32) (h0 : cg_U U) : cg_O (f_X6_flush U p1) (fun z => (z.1 = 0 ∨ z.1 = 1) ∧ (cg_G U z.2.2)) := by
  unfold f_X6_flush
  try dsimp only [jn]
  refine cg_lt2 (Eq.refl ((p1) : Int32).toInt) (by decide : (1 : Int32).toInt = 1) (fun h_1 => ?_) (fun h_1 => ?_)
  · exact cg_some (show (1 = 0 ∨ 1 = 1) ∧ (cg_G U U) from ⟨(by decide), (g_refl h0)⟩)
  · refine cg_le2 (Eq.refl ((p1) : Int32).toInt) (by decide : (512 : Int32).toInt = 512) (fun h_2 => ?_) (fun h_2 => ?_)
    · refine cg_bn (t_X6_flushFirst U p1 ((g_refl h0)).1) (fun z_4 hz_4 => ?_)
      exact cg_some (show (0 = 0 ∨ 0 = 1) ∧ (cg_G U z_4.2) from ⟨(by decide), (g_trans (g_refl h0) hz_4)⟩)
    · exact cg_some (show (1 = 0 ∨ 1 = 1) ∧ (cg_G U U) from ⟨(by decide), (g_refl h0)⟩)
theorem t_X6_commitAll (U : S2) (h0 : cg_U U) : cg_O (f_X6_commitAll U) (fun z => (cg_G U z.2)) := by
  unfold f_X6_commitAll
  try dsimp only [jn]
  refine cg_bn (t_X6_flushFirst U 512 ((g_refl h0)).1) (fun z_1 hz_1 => ?_)
  refine cg_bn (t_X4_becomeLike (z_1.2 2) (z_1.2 1) (g_sz (g_trans (g_refl h0) hz_1) (by decide) (by decide)) (g_sz (g_trans (g_refl h0) hz_1) (by decide) (by decide))) (fun z_2 hz_2 => ?_)
  refine cg_bv (fun u_3 eu_3 => ?_)
  have gu_3 : cg_G U u_3 := by rw [eu_3]; exact (g_tree (g_trans (g_refl h0) hz_1) (by decide) (by decide) hz_2)
  exact cg_some (show (cg_G U u_3) from gu_3)
theorem t_X6_sync (U : S2) (p1 : Int32) (h0 : cg_U U) : cg_O (f_X6_sync U p1) (fun z => (z.1 = 0 ∨ z.1 = 2 ∨ z.1 = 3) ∧ (cg_G U z.2.2)) := by
  unfold f_X6_sync
  try dsimp only [jn]
  refine cg_bn (t_X6_demandHandle U p1 ((g_refl h0)).1) (fun z_1 hz_1 => ?_)
  refine cg_i (fun h_1 => ?_) (fun h_1 => ?_)
  · refine cg_bn (t_X6_demandOpen z_1.2.2 p1 ((g_trans (g_refl h0) hz_1.2)).1) (fun z_3 hz_3 => ?_)
    refine cg_i (fun h_2 => ?_) (fun h_2 => ?_)
    · refine cg_bn (t_X3_thingOf (z_3.2.2 9) p1 ) (fun z_5 hz_5 => ?_)
      refine cg_bn (t_X6_flushThing z_3.2.2 z_5 16 ((g_trans (g_trans (g_refl h0) hz_1.2) hz_3.2)).1) (fun z_6 hz_6 => ?_)
      refine cg_bn (t_X6_commitAll z_6.2 ((g_trans (g_trans (g_trans (g_refl h0) hz_1.2) hz_3.2) hz_6)).1) (fun z_7 hz_7 => ?_)
      refine cg_bn (t_X0_tellError (z_7.2 8) z_5 ) (fun z_8 hz_8 => ?_)
      refine cg_bv (fun u_9 eu_9 => ?_)
      have gu_9 : cg_G U u_9 := by rw [eu_9]; exact (g_oth (g_trans (g_trans (g_trans (g_trans (g_refl h0) hz_1.2) hz_3.2) hz_6) hz_7) (by decide) (by decide) (by decide))
      exact cg_some (show (0 = 0 ∨ 0 = 2 ∨ 0 = 3) ∧ (cg_G U u_9) from ⟨(by decide), gu_9⟩)
    · exact cg_some (show (z_3.1 = 0 ∨ z_3.1 = 2 ∨ z_3.1 = 3) ∧ (cg_G U z_3.2.2) from ⟨(by omega), (g_trans (g_trans (g_refl h0) hz_1.2) hz_3.2)⟩)
  · exact cg_some (show (z_1.1 = 0 ∨ z_1.1 = 2 ∨ z_1.1 = 3) ∧ (cg_G U z_1.2.2) from ⟨(by omega), (g_trans (g_refl h0) hz_1.2)⟩)
theorem t_X6_commit (U : S2) (h0 : cg_U U) : cg_O (f_X6_commit U) (fun z => (cg_G U z.2)) := by
  unfold f_X6_commit
  try dsimp only [jn]
  refine cg_bn (t_X6_commitAll U ((g_refl h0)).1) (fun z_1 hz_1 => ?_)
  exact cg_some (show (cg_G U z_1.2) from (g_trans (g_refl h0) hz_1))
theorem t_X6_crash (U : S2) (h0 : cg_U U) : cg_O (f_X6_crash U) (fun z => (cg_G U z.2)) := by
  unfold f_X6_crash
  try dsimp only [jn]
  refine cg_bn (t_X0_count (U 8) ) (fun z_1 hz_1 => ?_)
  refine cg_bn (t_X4_becomeLike (U 1) (U 2) (g_sz (g_refl h0) (by decide) (by decide)) (g_sz (g_refl h0) (by decide) (by decide))) (fun z_2 hz_2 => ?_)
  refine cg_bv (fun u_3 eu_3 => ?_)
  have gu_3 : cg_G U u_3 := by rw [eu_3]; exact (g_tree (g_refl h0) (by decide) (by decide) hz_2)
  refine cg_bn (t_X0_forgetAll (u_3 8) ) (fun z_4 hz_4 => ?_)
  refine cg_bv (fun u_5 eu_5 => ?_)
  have gu_5 : cg_G U u_5 := by rw [eu_5]; exact (g_oth gu_3 (by decide) (by decide) (by decide))
  refine cg_bn (t_X3_shutAll (u_5 9) ) (fun z_6 hz_6 => ?_)
  refine cg_bv (fun u_7 eu_7 => ?_)
  have gu_7 : cg_G U u_7 := by rw [eu_7]; exact (g_oth gu_5 (by decide) (by decide) (by decide))
  refine cg_q2 (cg_l2 (fun dr35_8 y35_8_2 u35_8_0 => cg_G U u35_8_0 ∧ 0 ≤ y35_8_2.toInt ∧ 32 - y35_8_2.toInt ≤ (dr35_8 : Int)) (fun dr35_8 r35_8 ihr35_8 y35_8_2 u35_8_0 hh => ?_) 32 4096 (by decide) 0 u_7 ⟨gu_7, (by decide), (by decide)⟩)
  obtain ⟨su35_8_0, i_1, i_2⟩ := hh
  refine cg_le2 (by decide : (32 : Int32).toInt = 32) (Eq.refl ((y35_8_2) : Int32).toInt) (fun h_3 => ?_) (fun h_3 => ?_)
  · exact cg_some (show (cg_G U u35_8_0) from su35_8_0)
  · refine cg_bn (t_X4_isOfKind (u35_8_0 1) y35_8_2 0 ) (fun z_10 hz_10 => ?_)
    refine cg_eq2 (Eq.refl ((z_10) : Int32).toInt) (by decide : (0 : Int32).toInt = 0) (fun h_4 => ?_) (fun h_4 => ?_)
    · have e_5 := (add_e (Eq.refl (y35_8_2).toInt) (by decide : (1 : Int32).toInt = 1) (by omega) (by omega))
      exact ihr35_8 (dr35_8 - 1) (y35_8_2 + 1) u35_8_0 (by omega) ⟨su35_8_0, (by omega), (by omega)⟩
    · refine cg_bn (t_X4_countOf (u35_8_0 1) y35_8_2 ) (fun z_13 hz_13 => ?_)
      refine cg_eq2 (Eq.refl ((z_13) : Int32).toInt) (by decide : (0 : Int32).toInt = 0) (fun h_6 => ?_) (fun h_6 => ?_)
      · refine cg_bn (t_X4_clearThing (u35_8_0 1) y35_8_2 (g_sz su35_8_0 (by decide) (by decide))) (fun z_15 hz_15 => ?_)
        refine cg_bv (fun u_16 eu_16 => ?_)
        have gu_16 : cg_G U u_16 := by rw [eu_16]; exact (g_tree su35_8_0 (by decide) (by decide) hz_15)
        have e_7 := (add_e (Eq.refl (y35_8_2).toInt) (by decide : (1 : Int32).toInt = 1) (by omega) (by omega))
        exact ihr35_8 (dr35_8 - 1) (y35_8_2 + 1) u_16 (by omega) ⟨gu_16, (by omega), (by omega)⟩
      · have e_8 := (add_e (Eq.refl (y35_8_2).toInt) (by decide : (1 : Int32).toInt = 1) (by omega) (by omega))
        exact ihr35_8 (dr35_8 - 1) (y35_8_2 + 1) u35_8_0 (by omega) ⟨su35_8_0, (by omega), (by omega)⟩
theorem t_X6_lowestNotGiven (U : S2) (h0 : cg_U U) : cg_O (f_X6_lowestNotGiven U) (fun z => (z.toInt = -1 ∨ (0 ≤ z.toInt ∧ z.toInt < 3))) := by
  unfold f_X6_lowestNotGiven
  try dsimp only [jn]
  refine cg_q1 (cg_l1 (fun dr2_1 y2_1_1 => 0 ≤ y2_1_1.toInt ∧ 3 - y2_1_1.toInt ≤ (dr2_1 : Int)) (fun dr2_1 r2_1 ihr2_1 y2_1_1 hh => ?_) 3 4096 (by decide) 0 ⟨(by decide), (by decide)⟩)
  obtain ⟨i_1, i_2⟩ := hh
  refine cg_le2 (by decide : (3 : Int32).toInt = 3) (Eq.refl ((y2_1_1) : Int32).toInt) (fun h_3 => ?_) (fun h_3 => ?_)
  · exact cg_some (show ((-1 : Int32).toInt = -1 ∨ (0 ≤ (-1 : Int32).toInt ∧ (-1 : Int32).toInt < 3)) from (by first | omega | decide | exact Or.inl (by decide) | exact Or.inr (by omega)))
  · refine cg_chk (inb_e (Eq.refl (y2_1_1).toInt) (by omega) (by omega)) ?_
    refine cg_eq2 (Eq.refl ((U 0 3 (y2_1_1).toNatClampNeg) : Int32).toInt) (by decide : (0 : Int32).toInt = 0) (fun h_4 => ?_) (fun h_4 => ?_)
    · exact cg_some (show (y2_1_1.toInt = -1 ∨ (0 ≤ y2_1_1.toInt ∧ y2_1_1.toInt < 3)) from (by first | omega | decide | exact Or.inl (by decide) | exact Or.inr (by omega)))
    · have e_5 := (add_e (Eq.refl (y2_1_1).toInt) (by decide : (1 : Int32).toInt = 1) (by omega) (by omega))
      exact ihr2_1 (dr2_1 - 1) (y2_1_1 + 1) (by omega) ⟨(by omega), (by omega)⟩
theorem t_X6_isSnapshot (U : S2) (p1 : Int32) (h0 : cg_U U) : cg_O (f_X6_isSnapshot U p1) (fun z => (z.toInt = 0 ∨ (0 ≤ p1.toInt ∧ p1.toInt < 3))) := by
  unfold f_X6_isSnapshot
  try dsimp only [jn]
  refine cg_lt2 (Eq.refl ((p1) : Int32).toInt) (by decide : (0 : Int32).toInt = 0) (fun h_1 => ?_) (fun h_1 => ?_)
  · exact cg_some (show ((vp_nar .boolean 0).toInt = 0 ∨ (0 ≤ p1.toInt ∧ p1.toInt < 3)) from (by first | omega | decide | exact Or.inl (by decide) | exact Or.inr (by omega)))
  · refine cg_le2 (by decide : (3 : Int32).toInt = 3) (Eq.refl ((p1) : Int32).toInt) (fun h_2 => ?_) (fun h_2 => ?_)
    · exact cg_some (show ((vp_nar .boolean 0).toInt = 0 ∨ (0 ≤ p1.toInt ∧ p1.toInt < 3)) from (by first | omega | decide | exact Or.inl (by decide) | exact Or.inr (by omega)))
    · refine cg_chk (inb_e (Eq.refl (p1).toInt) (by omega) (by omega)) ?_
      refine cg_eq2 (Eq.refl ((U 0 3 (p1).toNatClampNeg) : Int32).toInt) (by decide : (0 : Int32).toInt = 0) (fun h_3 => ?_) (fun h_3 => ?_)
      · exact cg_some (show ((vp_nar .boolean 0).toInt = 0 ∨ (0 ≤ p1.toInt ∧ p1.toInt < 3)) from (by first | omega | decide | exact Or.inl (by decide) | exact Or.inr (by omega)))
      · exact cg_some (show ((vp_nar .boolean 1).toInt = 0 ∨ (0 ≤ p1.toInt ∧ p1.toInt < 3)) from (by first | omega | decide | exact Or.inl (by decide) | exact Or.inr (by omega)))
theorem t_X6_readOld (U : S2) (p1 : Int32) (p2 : Int32) (p3 : Int32) (h0 : cg_U U) : cg_O (f_X6_readOld U p1 p2 p3) (fun z => (z.1 = 0 ∨ z.1 = 1 ∨ z.1 = 2 ∨ z.1 = 3) ∧ (cg_G U z.2.2)) := by
  unfold f_X6_readOld
  try dsimp only [jn]
  refine cg_bn (t_X6_isPath p2 ) (fun z_1 hz_1 => ?_)
  refine cg_eq2 (Eq.refl ((z_1) : Int32).toInt) (by decide : (0 : Int32).toInt = 0) (fun h_1 => ?_) (fun h_1 => ?_)
  · exact cg_some (show (1 = 0 ∨ 1 = 1 ∨ 1 = 2 ∨ 1 = 3) ∧ (cg_G U U) from ⟨(by decide), (g_refl h0)⟩)
  · refine cg_bn (t_X6_isSnapshot U p1 ((g_refl h0)).1) (fun z_3 hz_3 => ?_)
    refine cg_eq2 (Eq.refl ((z_3) : Int32).toInt) (by decide : (0 : Int32).toInt = 0) (fun h_2 => ?_) (fun h_2 => ?_)
    · exact cg_some (show (2 = 0 ∨ 2 = 1 ∨ 2 = 2 ∨ 2 = 3) ∧ (cg_G U U) from ⟨(by decide), (g_refl h0)⟩)
    · refine cg_bn (t_X6_isPage p3 ) (fun z_6 hz_6 => ?_)
      refine cg_eq2 (Eq.refl ((z_6) : Int32).toInt) (by decide : (0 : Int32).toInt = 0) (fun h_3 => ?_) (fun h_3 => ?_)
      · exact cg_some (show (2 = 0 ∨ 2 = 1 ∨ 2 = 2 ∨ 2 = 3) ∧ (cg_G U U) from ⟨(by decide), (g_refl h0)⟩)
      · refine cg_chk (inb_e (Eq.refl (p1).toInt) (by omega) (by omega)) ?_
        refine cg_eq2 (Eq.refl ((p1) : Int32).toInt) (by decide : (0 : Int32).toInt = 0) (fun h_4 => ?_) (fun h_4 => ?_)
        · refine cg_bn (t_X5_thingAt (U 6) (U 3) p2 1 ) (fun z_9 hz_9 => ?_)
          refine cg_bv (fun u_10 eu_10 => ?_)
          have gu_10 : cg_G U u_10 := by rw [eu_10]; exact (g_oth (g_refl h0) (by decide) (by decide) (by decide))
          refine cg_eq2 (Eq.refl ((z_9.1) : Int32).toInt) (by decide : (-1 : Int32).toInt = -1) (fun h_5 => ?_) (fun h_5 => ?_)
          · exact cg_some (show (2 = 0 ∨ 2 = 1 ∨ 2 = 2 ∨ 2 = 3) ∧ (cg_G U u_10) from ⟨(by decide), gu_10⟩)
          · refine cg_bn (t_X4_isOfKind (u_10 3) z_9.1 0 ) (fun z_12 hz_12 => ?_)
            refine cg_eq2 (Eq.refl ((z_12) : Int32).toInt) (by decide : (0 : Int32).toInt = 0) (fun h_6 => ?_) (fun h_6 => ?_)
            · exact cg_some (show (3 = 0 ∨ 3 = 1 ∨ 3 = 2 ∨ 3 = 3) ∧ (cg_G U u_10) from ⟨(by decide), gu_10⟩)
            · refine cg_bn (t_X6_writtenNumber (u_10 7) (u_10 3) z_9.1 p3 ) (fun z_14 hz_14 => ?_)
              exact cg_some (show (0 = 0 ∨ 0 = 1 ∨ 0 = 2 ∨ 0 = 3) ∧ (cg_G U u_10) from ⟨(by decide), gu_10⟩)
        · refine cg_eq2 (Eq.refl ((p1) : Int32).toInt) (by decide : (1 : Int32).toInt = 1) (fun h_7 => ?_) (fun h_7 => ?_)
          · refine cg_bn (t_X5_thingAt (U 6) (U 4) p2 1 ) (fun z_16 hz_16 => ?_)
            refine cg_bv (fun u_17 eu_17 => ?_)
            have gu_17 : cg_G U u_17 := by rw [eu_17]; exact (g_oth (g_refl h0) (by decide) (by decide) (by decide))
            refine cg_eq2 (Eq.refl ((z_16.1) : Int32).toInt) (by decide : (-1 : Int32).toInt = -1) (fun h_8 => ?_) (fun h_8 => ?_)
            · exact cg_some (show (2 = 0 ∨ 2 = 1 ∨ 2 = 2 ∨ 2 = 3) ∧ (cg_G U u_17) from ⟨(by decide), gu_17⟩)
            · refine cg_bn (t_X4_isOfKind (u_17 4) z_16.1 0 ) (fun z_19 hz_19 => ?_)
              refine cg_eq2 (Eq.refl ((z_19) : Int32).toInt) (by decide : (0 : Int32).toInt = 0) (fun h_9 => ?_) (fun h_9 => ?_)
              · exact cg_some (show (3 = 0 ∨ 3 = 1 ∨ 3 = 2 ∨ 3 = 3) ∧ (cg_G U u_17) from ⟨(by decide), gu_17⟩)
              · refine cg_bn (t_X6_writtenNumber (u_17 7) (u_17 4) z_16.1 p3 ) (fun z_21 hz_21 => ?_)
                exact cg_some (show (0 = 0 ∨ 0 = 1 ∨ 0 = 2 ∨ 0 = 3) ∧ (cg_G U u_17) from ⟨(by decide), gu_17⟩)
          · refine cg_eq2 (Eq.refl ((p1) : Int32).toInt) (by decide : (2 : Int32).toInt = 2) (fun h_10 => ?_) (fun h_10 => ?_)
            · refine cg_bn (t_X5_thingAt (U 6) (U 5) p2 1 ) (fun z_23 hz_23 => ?_)
              refine cg_bv (fun u_24 eu_24 => ?_)
              have gu_24 : cg_G U u_24 := by rw [eu_24]; exact (g_oth (g_refl h0) (by decide) (by decide) (by decide))
              refine cg_eq2 (Eq.refl ((z_23.1) : Int32).toInt) (by decide : (-1 : Int32).toInt = -1) (fun h_11 => ?_) (fun h_11 => ?_)
              · exact cg_some (show (2 = 0 ∨ 2 = 1 ∨ 2 = 2 ∨ 2 = 3) ∧ (cg_G U u_24) from ⟨(by decide), gu_24⟩)
              · refine cg_bn (t_X4_isOfKind (u_24 5) z_23.1 0 ) (fun z_26 hz_26 => ?_)
                refine cg_eq2 (Eq.refl ((z_26) : Int32).toInt) (by decide : (0 : Int32).toInt = 0) (fun h_12 => ?_) (fun h_12 => ?_)
                · exact cg_some (show (3 = 0 ∨ 3 = 1 ∨ 3 = 2 ∨ 3 = 3) ∧ (cg_G U u_24) from ⟨(by decide), gu_24⟩)
                · refine cg_bn (t_X6_writtenNumber (u_24 7) (u_24 5) z_23.1 p3 ) (fun z_28 hz_28 => ?_)
                  exact cg_some (show (0 = 0 ∨ 0 = 1 ∨ 0 = 2 ∨ 0 = 3) ∧ (cg_G U u_24) from ⟨(by decide), gu_24⟩)
            · exfalso
              omega
theorem t_X6_demandBlock (U : S2) (p0 : Int32) (h0 : cg_U U) : cg_O (f_X6_demandBlock U p0) (fun z => (z.1 = 0 ∨ z.1 = 2) ∧ (cg_G U z.2.2)) := by
  unfold f_X6_demandBlock
  try dsimp only [jn]
  refine cg_lt2 (Eq.refl ((p0) : Int32).toInt) (by decide : (0 : Int32).toInt = 0) (fun h_1 => ?_) (fun h_1 => ?_)
  · exact cg_some (show (2 = 0 ∨ 2 = 2) ∧ (cg_G U U) from ⟨(by decide), (g_refl h0)⟩)
  · refine cg_lt2 (Eq.refl ((p0) : Int32).toInt) (by decide : (64 : Int32).toInt = 64) (fun h_2 => ?_) (fun h_2 => ?_)
    · exact cg_some (show (0 = 0 ∨ 0 = 2) ∧ (cg_G U U) from ⟨(by decide), (g_refl h0)⟩)
    · exact cg_some (show (2 = 0 ∨ 2 = 2) ∧ (cg_G U U) from ⟨(by decide), (g_refl h0)⟩)
theorem t_X6_demandThing (U : S2) (p1 : Int32) (h0 : cg_U U) : cg_O (f_X6_demandThing U p1) (fun z => (z.1 = 0 ∨ z.1 = 2) ∧ (cg_G U z.2.2)) := by
  unfold f_X6_demandThing
  try dsimp only [jn]
  refine cg_bn (t_X4_isThing (U 1) p1 ) (fun z_1 hz_1 => ?_)
  refine cg_eq2 (Eq.refl ((z_1) : Int32).toInt) (by decide : (0 : Int32).toInt = 0) (fun h_1 => ?_) (fun h_1 => ?_)
  · exact cg_some (show (2 = 0 ∨ 2 = 2) ∧ (cg_G U U) from ⟨(by decide), (g_refl h0)⟩)
  · exact cg_some (show (0 = 0 ∨ 0 = 2) ∧ (cg_G U U) from ⟨(by decide), (g_refl h0)⟩)
theorem t_X6_shareFirstPage (U : S2) (p1 : Int32) (p2 : Int32) (h0 : cg_U U) : cg_O (f_X6_shareFirstPage U p1 p2) (fun z => (z.1 = 0 ∨ z.1 = 3) ∧ (cg_G U z.2.2)) := by
  unfold f_X6_shareFirstPage
  try dsimp only [jn]
  refine cg_bn (t_X4_isOfKind (U 1) p1 0 ) (fun z_1 hz_1 => ?_)
  refine cg_eq2 (Eq.refl ((z_1) : Int32).toInt) (by decide : (0 : Int32).toInt = 0) (fun h_1 => ?_) (fun h_1 => ?_)
  · refine cg_eq2 (by decide : (0 : Int32).toInt = 0) (by decide : (0 : Int32).toInt = 0) (fun h_2 => ?_) (fun h_2 => ?_)
    · exact cg_some (show (3 = 0 ∨ 3 = 3) ∧ (cg_G U U) from ⟨(by decide), (g_refl h0)⟩)
    · refine cg_eq2 (Eq.refl ((p1) : Int32).toInt) (Eq.refl ((p2) : Int32).toInt) (fun h_3 => ?_) (fun h_3 => ?_)
      · exact cg_some (show (3 = 0 ∨ 3 = 3) ∧ (cg_G U U) from ⟨(by decide), (g_refl h0)⟩)
      · refine cg_bn (t_X4_pageKindOf (U 1) p2 0 ) (fun z_6 hz_6 => ?_)
        refine cg_eq2 (Eq.refl ((z_6) : Int32).toInt) (by decide : (0 : Int32).toInt = 0) (fun h_4 => ?_) (fun h_4 => ?_)
        · exact cg_some (show (3 = 0 ∨ 3 = 3) ∧ (cg_G U U) from ⟨(by decide), (g_refl h0)⟩)
        · refine cg_bn (t_X4_blockOf (U 1) p2 0 ) (fun z_8 hz_8 => ?_)
          refine cg_bn (t_X4_setPage (U 1) p1 0 2 z_8 (g_sz (g_refl h0) (by decide) (by decide))) (fun z_9 hz_9 => ?_)
          refine cg_bv (fun u_10 eu_10 => ?_)
          have gu_10 : cg_G U u_10 := by rw [eu_10]; exact (g_tree (g_refl h0) (by decide) (by decide) hz_9)
          refine cg_bn (t_X0_letGo (u_10 8) p1 0 ) (fun z_11 hz_11 => ?_)
          refine cg_bv (fun u_12 eu_12 => ?_)
          have gu_12 : cg_G U u_12 := by rw [eu_12]; exact (g_oth gu_10 (by decide) (by decide) (by decide))
          exact cg_some (show (0 = 0 ∨ 0 = 3) ∧ (cg_G U u_12) from ⟨(by decide), gu_12⟩)
  · refine cg_bn (t_X4_isOfKind (U 1) p2 0 ) (fun z_15 hz_15 => ?_)
    refine cg_eq2 (Eq.refl ((z_15) : Int32).toInt) (by decide : (0 : Int32).toInt = 0) (fun h_5 => ?_) (fun h_5 => ?_)
    · refine cg_eq2 (by decide : (0 : Int32).toInt = 0) (by decide : (0 : Int32).toInt = 0) (fun h_6 => ?_) (fun h_6 => ?_)
      · exact cg_some (show (3 = 0 ∨ 3 = 3) ∧ (cg_G U U) from ⟨(by decide), (g_refl h0)⟩)
      · refine cg_eq2 (Eq.refl ((p1) : Int32).toInt) (Eq.refl ((p2) : Int32).toInt) (fun h_7 => ?_) (fun h_7 => ?_)
        · exact cg_some (show (3 = 0 ∨ 3 = 3) ∧ (cg_G U U) from ⟨(by decide), (g_refl h0)⟩)
        · refine cg_bn (t_X4_pageKindOf (U 1) p2 0 ) (fun z_6 hz_6 => ?_)
          refine cg_eq2 (Eq.refl ((z_6) : Int32).toInt) (by decide : (0 : Int32).toInt = 0) (fun h_8 => ?_) (fun h_8 => ?_)
          · exact cg_some (show (3 = 0 ∨ 3 = 3) ∧ (cg_G U U) from ⟨(by decide), (g_refl h0)⟩)
          · refine cg_bn (t_X4_blockOf (U 1) p2 0 ) (fun z_8 hz_8 => ?_)
            refine cg_bn (t_X4_setPage (U 1) p1 0 2 z_8 (g_sz (g_refl h0) (by decide) (by decide))) (fun z_9 hz_9 => ?_)
            refine cg_bv (fun u_10 eu_10 => ?_)
            have gu_10 : cg_G U u_10 := by rw [eu_10]; exact (g_tree (g_refl h0) (by decide) (by decide) hz_9)
            refine cg_bn (t_X0_letGo (u_10 8) p1 0 ) (fun z_11 hz_11 => ?_)
            refine cg_bv (fun u_12 eu_12 => ?_)
            have gu_12 : cg_G U u_12 := by rw [eu_12]; exact (g_oth gu_10 (by decide) (by decide) (by decide))
            exact cg_some (show (0 = 0 ∨ 0 = 3) ∧ (cg_G U u_12) from ⟨(by decide), gu_12⟩)
    · refine cg_eq2 (by decide : (1 : Int32).toInt = 1) (by decide : (0 : Int32).toInt = 0) (fun h_9 => ?_) (fun h_9 => ?_)
      · exact cg_some (show (3 = 0 ∨ 3 = 3) ∧ (cg_G U U) from ⟨(by decide), (g_refl h0)⟩)
      · refine cg_eq2 (Eq.refl ((p1) : Int32).toInt) (Eq.refl ((p2) : Int32).toInt) (fun h_10 => ?_) (fun h_10 => ?_)
        · exact cg_some (show (3 = 0 ∨ 3 = 3) ∧ (cg_G U U) from ⟨(by decide), (g_refl h0)⟩)
        · refine cg_bn (t_X4_pageKindOf (U 1) p2 0 ) (fun z_6 hz_6 => ?_)
          refine cg_eq2 (Eq.refl ((z_6) : Int32).toInt) (by decide : (0 : Int32).toInt = 0) (fun h_11 => ?_) (fun h_11 => ?_)
          · exact cg_some (show (3 = 0 ∨ 3 = 3) ∧ (cg_G U U) from ⟨(by decide), (g_refl h0)⟩)
          · refine cg_bn (t_X4_blockOf (U 1) p2 0 ) (fun z_8 hz_8 => ?_)
            refine cg_bn (t_X4_setPage (U 1) p1 0 2 z_8 (g_sz (g_refl h0) (by decide) (by decide))) (fun z_9 hz_9 => ?_)
            refine cg_bv (fun u_10 eu_10 => ?_)
            have gu_10 : cg_G U u_10 := by rw [eu_10]; exact (g_tree (g_refl h0) (by decide) (by decide) hz_9)
            refine cg_bn (t_X0_letGo (u_10 8) p1 0 ) (fun z_11 hz_11 => ?_)
            refine cg_bv (fun u_12 eu_12 => ?_)
            have gu_12 : cg_G U u_12 := by rw [eu_12]; exact (g_oth gu_10 (by decide) (by decide) (by decide))
            exact cg_some (show (0 = 0 ∨ 0 = 3) ∧ (cg_G U u_12) from ⟨(by decide), gu_12⟩)
theorem t_X6_loseFirstEntry (U : S2) (p1 : Int32) (h0 : cg_U U) : cg_O (f_X6_loseFirstEntry U p1) (fun z => (z.1 = 0 ∨ z.1 = 3) ∧ (cg_G U z.2.2)) := by
  unfold f_X6_loseFirstEntry
  try dsimp only [jn]
  refine cg_bn (t_X4_sizeOf (U 1) p1 (g_sz (g_refl h0) (by decide) (by decide))) (fun z_1 hz_1 => ?_)
  refine cg_eq2 (Eq.refl ((z_1) : Int32).toInt) (by decide : (0 : Int32).toInt = 0) (fun h_1 => ?_) (fun h_1 => ?_)
  · exact cg_some (show (3 = 0 ∨ 3 = 3) ∧ (cg_G U U) from ⟨(by decide), (g_refl h0)⟩)
  · refine cg_bn (t_X4_entryName (U 1) p1 0 ) (fun z_3 hz_3 => ?_)
    refine cg_bn (t_X4_takeEntry (U 1) p1 z_3 (g_sz (g_refl h0) (by decide) (by decide))) (fun z_4 hz_4 => ?_)
    refine cg_bv (fun u_5 eu_5 => ?_)
    have gu_5 : cg_G U u_5 := by rw [eu_5]; exact (g_tree (g_refl h0) (by decide) (by decide) hz_4)
    exact cg_some (show (0 = 0 ∨ 0 = 3) ∧ (cg_G U u_5) from ⟨(by decide), gu_5⟩)
theorem t_X6_damage (U : S2) (p1 : Int32) (p2 : Int32) (p3 : Int32) (h0 : cg_U U) : cg_O (f_X6_damage U p1 p2 p3) (fun z => (z.1 = 0 ∨ z.1 = 1 ∨ z.1 = 2 ∨ z.1 = 3) ∧ (cg_G U z.2.2)) := by
  unfold f_X6_damage
  try dsimp only [jn]
  refine cg_lt2 (Eq.refl ((p1) : Int32).toInt) (by decide : (0 : Int32).toInt = 0) (fun h_1 => ?_) (fun h_1 => ?_)
  · exact cg_some (show (1 = 0 ∨ 1 = 1 ∨ 1 = 2 ∨ 1 = 3) ∧ (cg_G U U) from ⟨(by decide), (g_refl h0)⟩)
  · refine cg_le2 (Eq.refl ((p1) : Int32).toInt) (by decide : (2 : Int32).toInt = 2) (fun h_2 => ?_) (fun h_2 => ?_)
    · refine cg_bn (t_X6_demandThing U p2 ((g_refl h0)).1) (fun z_4 hz_4 => ?_)
      refine cg_i (fun h_3 => ?_) (fun h_3 => ?_)
      · refine cg_eq2 (Eq.refl ((p1) : Int32).toInt) (by decide : (0 : Int32).toInt = 0) (fun h_4 => ?_) (fun h_4 => ?_)
        · refine cg_bn (t_X4_countOf (z_4.2.2 1) p2 ) (fun z_15 hz_15 => ?_)
          refine cg_bn (t_X4_setCount (z_4.2.2 1) p2 (z_15 + 1) (g_sz (g_trans (g_refl h0) hz_4.2) (by decide) (by decide))) (fun z_16 hz_16 => ?_)
          refine cg_bv (fun u_17 eu_17 => ?_)
          have gu_17 : cg_G U u_17 := by rw [eu_17]; exact (g_tree (g_trans (g_refl h0) hz_4.2) (by decide) (by decide) hz_16)
          exact cg_some (show (0 = 0 ∨ 0 = 1 ∨ 0 = 2 ∨ 0 = 3) ∧ (cg_G U u_17) from ⟨(by decide), gu_17⟩)
        · refine cg_eq2 (Eq.refl ((p1) : Int32).toInt) (by decide : (1 : Int32).toInt = 1) (fun h_5 => ?_) (fun h_5 => ?_)
          · refine cg_bn (t_X6_demandThing z_4.2.2 p3 ((g_trans (g_refl h0) hz_4.2)).1) (fun z_11 hz_11 => ?_)
            refine cg_i (fun h_6 => ?_) (fun h_6 => ?_)
            · refine cg_bn (t_X6_shareFirstPage z_11.2.2 p2 p3 ((g_trans (g_trans (g_refl h0) hz_4.2) hz_11.2)).1) (fun z_13 hz_13 => ?_)
              refine cg_i (fun h_7 => ?_) (fun h_7 => ?_)
              · exact cg_some (show (0 = 0 ∨ 0 = 1 ∨ 0 = 2 ∨ 0 = 3) ∧ (cg_G U z_13.2.2) from ⟨(by decide), (g_trans (g_trans (g_trans (g_refl h0) hz_4.2) hz_11.2) hz_13.2)⟩)
              · exact cg_some (show (z_13.1 = 0 ∨ z_13.1 = 1 ∨ z_13.1 = 2 ∨ z_13.1 = 3) ∧ (cg_G U z_13.2.2) from ⟨(by omega), (g_trans (g_trans (g_trans (g_refl h0) hz_4.2) hz_11.2) hz_13.2)⟩)
            · exact cg_some (show (z_11.1 = 0 ∨ z_11.1 = 1 ∨ z_11.1 = 2 ∨ z_11.1 = 3) ∧ (cg_G U z_11.2.2) from ⟨(by omega), (g_trans (g_trans (g_refl h0) hz_4.2) hz_11.2)⟩)
          · refine cg_bn (t_X6_loseFirstEntry z_4.2.2 p2 ((g_trans (g_refl h0) hz_4.2)).1) (fun z_9 hz_9 => ?_)
            refine cg_i (fun h_8 => ?_) (fun h_8 => ?_)
            · exact cg_some (show (0 = 0 ∨ 0 = 1 ∨ 0 = 2 ∨ 0 = 3) ∧ (cg_G U z_9.2.2) from ⟨(by decide), (g_trans (g_trans (g_refl h0) hz_4.2) hz_9.2)⟩)
            · exact cg_some (show (z_9.1 = 0 ∨ z_9.1 = 1 ∨ z_9.1 = 2 ∨ z_9.1 = 3) ∧ (cg_G U z_9.2.2) from ⟨(by omega), (g_trans (g_trans (g_refl h0) hz_4.2) hz_9.2)⟩)
      · exact cg_some (show (z_4.1 = 0 ∨ z_4.1 = 1 ∨ z_4.1 = 2 ∨ z_4.1 = 3) ∧ (cg_G U z_4.2.2) from ⟨(by omega), (g_trans (g_refl h0) hz_4.2)⟩)
    · exact cg_some (show (1 = 0 ∨ 1 = 1 ∨ 1 = 2 ∨ 1 = 3) ∧ (cg_G U U) from ⟨(by decide), (g_refl h0)⟩)
theorem t_X6_check (U : S2) (h0 : cg_U U) : cg_O (f_X6_check U) (fun z => (z.1 = 0 ∨ z.1 = 3) ∧ (cg_G U z.2.2)) := by
  unfold f_X6_check
  try dsimp only [jn]
  refine cg_bn (t_X3_isAnyOpen (U 9) ) (fun z_1 hz_1 => ?_)
  refine cg_eq2 (Eq.refl ((z_1) : Int32).toInt) (by decide : (0 : Int32).toInt = 0) (fun h_1 => ?_) (fun h_1 => ?_)
  · refine cg_bn (t_X1_mendPages (U 10) (U 1) (U 8) (g_sz (g_refl h0) (by decide) (by decide))) (fun z_3 hz_3 => ?_)
    refine cg_bv (fun u_4 eu_4 => ?_)
    have gu_4 : cg_G U u_4 := by rw [eu_4]; exact (g_oth (g_tree (g_oth (g_refl h0) (by decide) (by decide) (by decide)) (by decide) (by decide) hz_3) (by decide) (by decide) (by decide))
    refine cg_bn (t_X1_mendThings (u_4 10) (u_4 1) (u_4 8) (g_sz gu_4 (by decide) (by decide))) (fun z_5 hz_5 => ?_)
    refine cg_bv (fun u_6 eu_6 => ?_)
    have gu_6 : cg_G U u_6 := by rw [eu_6]; exact (g_oth (g_tree (g_oth gu_4 (by decide) (by decide) (by decide)) (by decide) (by decide) hz_5) (by decide) (by decide) (by decide))
    refine cg_bn (t_X1_mendCounts (u_6 10) (u_6 1) (g_sz gu_6 (by decide) (by decide))) (fun z_7 hz_7 => ?_)
    refine cg_bv (fun u_8 eu_8 => ?_)
    have gu_8 : cg_G U u_8 := by rw [eu_8]; exact (g_tree gu_6 (by decide) (by decide) hz_7)
    exact cg_some (show (0 = 0 ∨ 0 = 3) ∧ (cg_G U u_8) from ⟨(by decide), gu_8⟩)
  · exact cg_some (show (3 = 0 ∨ 3 = 3) ∧ (cg_G U U) from ⟨(by decide), (g_refl h0)⟩)
theorem t_X6_about (U : S2) (p1 : Int32) (p2 : Int32) (h0 : cg_U U) : cg_O (f_X6_about U p1 p2) (fun z => (z.1 = 0 ∨ z.1 = 1 ∨ z.1 = 2) ∧ (cg_G U z.2.2)) := by
  unfold f_X6_about
  try dsimp only [jn]
  refine cg_bn (t_X6_demandThing U p1 ((g_refl h0)).1) (fun z_1 hz_1 => ?_)
  refine cg_i (fun h_1 => ?_) (fun h_1 => ?_)
  · refine cg_i (fun h_2 => ?_) (fun h_2 => ?_)
    · exact cg_some (show (1 = 0 ∨ 1 = 1 ∨ 1 = 2) ∧ (cg_G U z_1.2.2) from ⟨(by decide), (g_trans (g_refl h0) hz_1.2)⟩)
    · refine cg_eq2 (Eq.refl ((p2) : Int32).toInt) (by decide : (0 : Int32).toInt = 0) (fun h_3 => ?_) (fun h_3 => ?_)
      · refine cg_bn (t_X4_kindOf (z_1.2.2 1) p1 ) (fun z_5 hz_5 => ?_)
        exact cg_some (show (0 = 0 ∨ 0 = 1 ∨ 0 = 2) ∧ (cg_G U z_1.2.2) from ⟨(by decide), (g_trans (g_refl h0) hz_1.2)⟩)
      · refine cg_eq2 (Eq.refl ((p2) : Int32).toInt) (by decide : (1 : Int32).toInt = 1) (fun h_4 => ?_) (fun h_4 => ?_)
        · refine cg_bn (t_X4_ownerOf (z_1.2.2 1) p1 ) (fun z_7 hz_7 => ?_)
          exact cg_some (show (0 = 0 ∨ 0 = 1 ∨ 0 = 2) ∧ (cg_G U z_1.2.2) from ⟨(by decide), (g_trans (g_refl h0) hz_1.2)⟩)
        · refine cg_eq2 (Eq.refl ((p2) : Int32).toInt) (by decide : (2 : Int32).toInt = 2) (fun h_5 => ?_) (fun h_5 => ?_)
          · refine cg_bn (t_X4_rightsOf (z_1.2.2 1) p1 ) (fun z_9 hz_9 => ?_)
            exact cg_some (show (0 = 0 ∨ 0 = 1 ∨ 0 = 2) ∧ (cg_G U z_1.2.2) from ⟨(by decide), (g_trans (g_refl h0) hz_1.2)⟩)
          · refine cg_eq2 (Eq.refl ((p2) : Int32).toInt) (by decide : (3 : Int32).toInt = 3) (fun h_6 => ?_) (fun h_6 => ?_)
            · refine cg_bn (t_X4_countOf (z_1.2.2 1) p1 ) (fun z_11 hz_11 => ?_)
              exact cg_some (show (0 = 0 ∨ 0 = 1 ∨ 0 = 2) ∧ (cg_G U z_1.2.2) from ⟨(by decide), (g_trans (g_refl h0) hz_1.2)⟩)
            · refine cg_eq2 (Eq.refl ((p2) : Int32).toInt) (by decide : (4 : Int32).toInt = 4) (fun h_7 => ?_) (fun h_7 => ?_)
              · refine cg_bn (t_X4_isOfKind (z_1.2.2 1) p1 1 ) (fun z_13 hz_13 => ?_)
                refine cg_eq2 (Eq.refl ((z_13) : Int32).toInt) (by decide : (0 : Int32).toInt = 0) (fun h_8 => ?_) (fun h_8 => ?_)
                · refine cg_bn (t_X4_filledOf (z_1.2.2 1) p1 ) (fun z_16 hz_16 => ?_)
                  exact cg_some (show (0 = 0 ∨ 0 = 1 ∨ 0 = 2) ∧ (cg_G U z_1.2.2) from ⟨(by decide), (g_trans (g_refl h0) hz_1.2)⟩)
                · refine cg_bn (t_X4_sizeOf (z_1.2.2 1) p1 (g_sz (g_trans (g_refl h0) hz_1.2) (by decide) (by decide))) (fun z_17 hz_17 => ?_)
                  exact cg_some (show (0 = 0 ∨ 0 = 1 ∨ 0 = 2) ∧ (cg_G U z_1.2.2) from ⟨(by decide), (g_trans (g_refl h0) hz_1.2)⟩)
              · refine cg_eq2 (Eq.refl ((p2) : Int32).toInt) (by decide : (5 : Int32).toInt = 5) (fun h_9 => ?_) (fun h_9 => ?_)
                · refine cg_bn (t_X3_countOf (z_1.2.2 9) p1 ) (fun z_19 hz_19 => ?_)
                  exact cg_some (show (0 = 0 ∨ 0 = 1 ∨ 0 = 2) ∧ (cg_G U z_1.2.2) from ⟨(by decide), (g_trans (g_refl h0) hz_1.2)⟩)
                · refine cg_eq2 (Eq.refl ((p2) : Int32).toInt) (by decide : (6 : Int32).toInt = 6) (fun h_10 => ?_) (fun h_10 => ?_)
                  · refine cg_bn (t_X0_hasError (z_1.2.2 8) p1 ) (fun z_21 hz_21 => ?_)
                    refine cg_eq2 (Eq.refl ((z_21) : Int32).toInt) (by decide : (0 : Int32).toInt = 0) (fun h_11 => ?_) (fun h_11 => ?_)
                    · exact cg_some (show (0 = 0 ∨ 0 = 1 ∨ 0 = 2) ∧ (cg_G U z_1.2.2) from ⟨(by decide), (g_trans (g_refl h0) hz_1.2)⟩)
                    · exact cg_some (show (0 = 0 ∨ 0 = 1 ∨ 0 = 2) ∧ (cg_G U z_1.2.2) from ⟨(by decide), (g_trans (g_refl h0) hz_1.2)⟩)
                  · exfalso
                    omega
  · exact cg_some (show (z_1.1 = 0 ∨ z_1.1 = 1 ∨ z_1.1 = 2) ∧ (cg_G U z_1.2.2) from ⟨(by omega), (g_trans (g_refl h0) hz_1.2)⟩)
theorem t_X6_entry (U : S2) (p1 : Int32) (p2 : Int32) (h0 : cg_U U) : cg_O (f_X6_entry U p1 p2) (fun z => (z.1 = 0 ∨ z.1 = 2) ∧ (cg_G U z.2.2)) := by
  unfold f_X6_entry
  try dsimp only [jn]
  refine cg_bn (t_X6_demandThing U p1 ((g_refl h0)).1) (fun z_1 hz_1 => ?_)
  refine cg_i (fun h_1 => ?_) (fun h_1 => ?_)
  · refine cg_lt2 (Eq.refl ((p2) : Int32).toInt) (by decide : (0 : Int32).toInt = 0) (fun h_2 => ?_) (fun h_2 => ?_)
    · exact cg_some (show (2 = 0 ∨ 2 = 2) ∧ (cg_G U z_1.2.2) from ⟨(by decide), (g_trans (g_refl h0) hz_1.2)⟩)
    · refine cg_bn (t_X4_sizeOf (z_1.2.2 1) p1 (g_sz (g_trans (g_refl h0) hz_1.2) (by decide) (by decide))) (fun z_5 hz_5 => ?_)
      refine cg_lt2 (Eq.refl ((p2) : Int32).toInt) (Eq.refl ((z_5) : Int32).toInt) (fun h_3 => ?_) (fun h_3 => ?_)
      · refine cg_bn (t_X4_entryThing (z_1.2.2 1) p1 p2 ) (fun z_7 hz_7 => ?_)
        refine cg_bn (t_X4_entryName (z_1.2.2 1) p1 p2 ) (fun z_8 hz_8 => ?_)
        exact cg_some (show (0 = 0 ∨ 0 = 2) ∧ (cg_G U z_1.2.2) from ⟨(by decide), (g_trans (g_refl h0) hz_1.2)⟩)
      · exact cg_some (show (2 = 0 ∨ 2 = 2) ∧ (cg_G U z_1.2.2) from ⟨(by decide), (g_trans (g_refl h0) hz_1.2)⟩)
  · exact cg_some (show (z_1.1 = 0 ∨ z_1.1 = 2) ∧ (cg_G U z_1.2.2) from ⟨(by omega), (g_trans (g_refl h0) hz_1.2)⟩)
theorem t_X6_target (U : S2) (p1 : Int32) (h0 : cg_U U) : cg_O (f_X6_target U p1) (fun z => (z.1 = 0 ∨ z.1 = 2) ∧ (cg_G U z.2.2)) := by
  unfold f_X6_target
  try dsimp only [jn]
  refine cg_bn (t_X6_demandThing U p1 ((g_refl h0)).1) (fun z_1 hz_1 => ?_)
  refine cg_i (fun h_1 => ?_) (fun h_1 => ?_)
  · refine cg_bn (t_X4_isOfKind (z_1.2.2 1) p1 2 ) (fun z_3 hz_3 => ?_)
    refine cg_eq2 (Eq.refl ((z_3) : Int32).toInt) (by decide : (0 : Int32).toInt = 0) (fun h_2 => ?_) (fun h_2 => ?_)
    · exact cg_some (show (0 = 0 ∨ 0 = 2) ∧ (cg_G U z_1.2.2) from ⟨(by decide), (g_trans (g_refl h0) hz_1.2)⟩)
    · refine cg_bn (t_X4_pathOf (z_1.2.2 1) p1 ) (fun z_6 hz_6 => ?_)
      exact cg_some (show (0 = 0 ∨ 0 = 2) ∧ (cg_G U z_1.2.2) from ⟨(by decide), (g_trans (g_refl h0) hz_1.2)⟩)
  · exact cg_some (show (z_1.1 = 0 ∨ z_1.1 = 2) ∧ (cg_G U z_1.2.2) from ⟨(by omega), (g_trans (g_refl h0) hz_1.2)⟩)
theorem t_X6_page (U : S2) (p1 : Int32) (p2 : Int32) (p3 : Int32) (h0 : cg_U U) : cg_O (f_X6_page U p1 p2 p3) (fun z => (z.1 = 0 ∨ z.1 = 1 ∨ z.1 = 2) ∧ (cg_G U z.2.2)) := by
  unfold f_X6_page
  try dsimp only [jn]
  refine cg_bn (t_X6_demandThing U p1 ((g_refl h0)).1) (fun z_1 hz_1 => ?_)
  refine cg_i (fun h_1 => ?_) (fun h_1 => ?_)
  · refine cg_bn (t_X6_isPage p2 ) (fun z_3 hz_3 => ?_)
    refine cg_eq2 (Eq.refl ((z_3) : Int32).toInt) (by decide : (0 : Int32).toInt = 0) (fun h_2 => ?_) (fun h_2 => ?_)
    · exact cg_some (show (2 = 0 ∨ 2 = 1 ∨ 2 = 2) ∧ (cg_G U z_1.2.2) from ⟨(by decide), (g_trans (g_refl h0) hz_1.2)⟩)
    · refine cg_i (fun h_3 => ?_) (fun h_3 => ?_)
      · exact cg_some (show (1 = 0 ∨ 1 = 1 ∨ 1 = 2) ∧ (cg_G U z_1.2.2) from ⟨(by decide), (g_trans (g_refl h0) hz_1.2)⟩)
      · refine cg_eq2 (Eq.refl ((p3) : Int32).toInt) (by decide : (0 : Int32).toInt = 0) (fun h_4 => ?_) (fun h_4 => ?_)
        · refine cg_bn (t_X4_pageKindOf (z_1.2.2 1) p1 p2 ) (fun z_7 hz_7 => ?_)
          exact cg_some (show (0 = 0 ∨ 0 = 1 ∨ 0 = 2) ∧ (cg_G U z_1.2.2) from ⟨(by decide), (g_trans (g_refl h0) hz_1.2)⟩)
        · refine cg_eq2 (Eq.refl ((p3) : Int32).toInt) (by decide : (1 : Int32).toInt = 1) (fun h_5 => ?_) (fun h_5 => ?_)
          · refine cg_bn (t_X4_blockOf (z_1.2.2 1) p1 p2 ) (fun z_9 hz_9 => ?_)
            exact cg_some (show (0 = 0 ∨ 0 = 1 ∨ 0 = 2) ∧ (cg_G U z_1.2.2) from ⟨(by decide), (g_trans (g_refl h0) hz_1.2)⟩)
          · refine cg_eq2 (Eq.refl ((p3) : Int32).toInt) (by decide : (2 : Int32).toInt = 2) (fun h_6 => ?_) (fun h_6 => ?_)
            · refine cg_bn (t_X0_isDirty (z_1.2.2 8) p1 p2 ) (fun z_11 hz_11 => ?_)
              refine cg_eq2 (Eq.refl ((z_11) : Int32).toInt) (by decide : (0 : Int32).toInt = 0) (fun h_7 => ?_) (fun h_7 => ?_)
              · exact cg_some (show (0 = 0 ∨ 0 = 1 ∨ 0 = 2) ∧ (cg_G U z_1.2.2) from ⟨(by decide), (g_trans (g_refl h0) hz_1.2)⟩)
              · exact cg_some (show (0 = 0 ∨ 0 = 1 ∨ 0 = 2) ∧ (cg_G U z_1.2.2) from ⟨(by decide), (g_trans (g_refl h0) hz_1.2)⟩)
            · exfalso
              omega
  · exact cg_some (show (z_1.1 = 0 ∨ z_1.1 = 1 ∨ z_1.1 = 2) ∧ (cg_G U z_1.2.2) from ⟨(by omega), (g_trans (g_refl h0) hz_1.2)⟩)
theorem t_X6_number (U : S2) (p1 : Int32) (h0 : cg_U U) : cg_O (f_X6_number U p1) (fun z => (z.1 = 0 ∨ z.1 = 2) ∧ (cg_G U z.2.2)) := by
  unfold f_X6_number
  try dsimp only [jn]
  refine cg_bn (t_X6_demandBlock U p1 ((g_refl h0)).1) (fun z_1 hz_1 => ?_)
  refine cg_i (fun h_1 => ?_) (fun h_1 => ?_)
  · refine cg_bn (t_X2_numberOf (z_1.2.2 7) p1 ) (fun z_3 hz_3 => ?_)
    exact cg_some (show (0 = 0 ∨ 0 = 2) ∧ (cg_G U z_1.2.2) from ⟨(by decide), (g_trans (g_refl h0) hz_1.2)⟩)
  · exact cg_some (show (z_1.1 = 0 ∨ z_1.1 = 2) ∧ (cg_G U z_1.2.2) from ⟨(by omega), (g_trans (g_refl h0) hz_1.2)⟩)
theorem t_X6_isFree (U : S2) (p1 : Int32) (h0 : cg_U U) : cg_O (f_X6_isFree U p1) (fun z => (z.1 = 0 ∨ z.1 = 2) ∧ (cg_G U z.2.2)) := by
  unfold f_X6_isFree
  try dsimp only [jn]
  refine cg_bn (t_X6_demandBlock U p1 ((g_refl h0)).1) (fun z_1 hz_1 => ?_)
  refine cg_i (fun h_1 => ?_) (fun h_1 => ?_)
  · refine cg_bn (t_X6_isUnused z_1.2.2 p1 ((g_trans (g_refl h0) hz_1.2)).1) (fun z_3 hz_3 => ?_)
    exact cg_some (show (0 = 0 ∨ 0 = 2) ∧ (cg_G U z_1.2.2) from ⟨(by decide), (g_trans (g_refl h0) hz_1.2)⟩)
  · exact cg_some (show (z_1.1 = 0 ∨ z_1.1 = 2) ∧ (cg_G U z_1.2.2) from ⟨(by omega), (g_trans (g_refl h0) hz_1.2)⟩)
theorem t_X6_used (U : S2) (p1 : Int32) (h0 : cg_U U) : cg_O (f_X6_used U p1) (fun z => (z.1 = 0 ∨ z.1 = 2) ∧ (cg_G U z.2.2)) := by
  unfold f_X6_used
  try dsimp only [jn]
  refine cg_bn (t_X6_isUser p1 ) (fun z_1 hz_1 => ?_)
  refine cg_eq2 (Eq.refl ((z_1) : Int32).toInt) (by decide : (0 : Int32).toInt = 0) (fun h_1 => ?_) (fun h_1 => ?_)
  · exact cg_some (show (2 = 0 ∨ 2 = 2) ∧ (cg_G U U) from ⟨(by decide), (g_refl h0)⟩)
  · refine cg_bn (t_X4_blocksOf (U 1) p1 ) (fun z_3 hz_3 => ?_)
    exact cg_some (show (0 = 0 ∨ 0 = 2) ∧ (cg_G U U) from ⟨(by decide), (g_refl h0)⟩)
theorem t_X6_dirty (U : S2) (h0 : cg_U U) : cg_O (f_X6_dirty U) (fun z => True) := by
  unfold f_X6_dirty
  try dsimp only [jn]
  refine cg_bn (t_X0_count (U 8) ) (fun z_1 hz_1 => ?_)
  exact cg_some trivial
