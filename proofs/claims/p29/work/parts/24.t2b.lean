theorem t_X1_isSeenAgain (u0 : S1) (p1 : Int32) : cg_O (f_X1_isSeenAgain u0 p1) (fun z => True) := by
  unfold f_X1_isSeenAgain
  try dsimp only [jn]
  refine cg_lt2 (Eq.refl ((p1) : Int32).toInt) (by decide : (0 : Int32).toInt = 0) (fun h_1 => ?_) (fun h_1 => ?_)
  · exact cg_some trivial
  · refine cg_lt2 (Eq.refl ((p1) : Int32).toInt) (by decide : (64 : Int32).toInt = 64) (fun h_2 => ?_) (fun h_2 => ?_)
    · refine cg_chk (inb_e (Eq.refl (p1).toInt) (by omega) (by omega)) ?_
      refine cg_chk (inb_e (Eq.refl (p1).toInt) (by omega) (by omega)) ?_
      refine cg_bv (fun u_4 eu_4 => ?_)
      exact cg_some trivial
    · exact cg_some trivial
theorem t_X1_mendPages (u0 : S1) (u1 : S1) (u2 : S1) (h0 : cg_S u1) : cg_O (f_X1_mendPages u0 u1 u2) (fun z => (cg_S z.2.2.1)) := by
  unfold f_X1_mendPages
  try dsimp only [jn]
  refine cg_q2 (cg_l2 (fun dr2_1 y2_1_3 u2_1_0 => 0 ≤ y2_1_3.toInt ∧ 64 - y2_1_3.toInt ≤ (dr2_1 : Int)) (fun dr2_1 r2_1 ihr2_1 y2_1_3 u2_1_0 hh => ?_) 64 4096 (by decide) 0 u0 ⟨(by decide), (by decide)⟩)
  obtain ⟨i_1, i_2⟩ := hh
  refine cg_le2 (by decide : (64 : Int32).toInt = 64) (Eq.refl ((y2_1_3) : Int32).toInt) (fun h_3 => ?_) (fun h_3 => ?_)
  · refine cg_q5 (cg_l5 (fun dr26_3 y26_3_3 y26_3_4 u26_3_0 u26_3_1 u26_3_2 => cg_S u26_3_1 ∧ 0 ≤ y26_3_4.toInt ∧ 32 - y26_3_4.toInt ≤ (dr26_3 : Int)) (fun dr26_3 r26_3 ihr26_3 y26_3_3 y26_3_4 u26_3_0 u26_3_1 u26_3_2 hh => ?_) 32 4096 (by decide) 0 0 u2_1_0 u1 u2 ⟨h0, (by decide), (by decide)⟩)
    obtain ⟨su26_3_1, i_4, i_5⟩ := hh
    refine cg_le2 (by decide : (32 : Int32).toInt = 32) (Eq.refl ((y26_3_4) : Int32).toInt) (fun h_6 => ?_) (fun h_6 => ?_)
    · exact cg_some (show (cg_S u26_3_1) from su26_3_1)
    · refine cg_q6 (cg_l6 (fun dr36_5 y36_5_3 y36_5_4 y36_5_5 u36_5_0 u36_5_1 u36_5_2 => y26_3_4 = y36_5_4 ∧ cg_S u36_5_1 ∧ 0 ≤ y36_5_5.toInt ∧ 16 - y36_5_5.toInt ≤ (dr36_5 : Int)) (fun dr36_5 r36_5 ihr36_5 y36_5_3 y36_5_4 y36_5_5 u36_5_0 u36_5_1 u36_5_2 hh => ?_) 16 4096 (by decide) y26_3_3 y26_3_4 0 u26_3_0 u26_3_1 u26_3_2 ⟨rfl, su26_3_1, (by decide), (by decide)⟩)
      obtain ⟨rfl, su36_5_1, i_7, i_8⟩ := hh
      refine cg_le2 (by decide : (16 : Int32).toInt = 16) (Eq.refl ((y36_5_5) : Int32).toInt) (fun h_9 => ?_) (fun h_9 => ?_)
      · have e_10 := (add_e (Eq.refl (y26_3_4).toInt) (by decide : (1 : Int32).toInt = 1) (by omega) (by omega))
        exact ihr26_3 (dr26_3 - 1) y36_5_3 (y26_3_4 + 1) u36_5_0 u36_5_1 u36_5_2 (by omega) ⟨su36_5_1, (by omega), (by omega)⟩
      · refine cg_bn (t_X4_blockOf u36_5_1 y26_3_4 y36_5_5 ) (fun z_7 hz_7 => ?_)
        refine cg_bn (t_X1_isSeenAgain u36_5_0 z_7 ) (fun z_8 hz_8 => ?_)
        refine cg_eq2 (Eq.refl ((z_8.1) : Int32).toInt) (by decide : (0 : Int32).toInt = 0) (fun h_11 => ?_) (fun h_11 => ?_)
        · have e_12 := (add_e (Eq.refl (y36_5_5).toInt) (by decide : (1 : Int32).toInt = 1) (by omega) (by omega))
          exact ihr36_5 (dr36_5 - 1) y36_5_3 y26_3_4 (y36_5_5 + 1) z_8.2 u36_5_1 u36_5_2 (by omega) ⟨rfl, su36_5_1, (by omega), (by omega)⟩
        · refine cg_bn (t_X4_setPage u36_5_1 y26_3_4 y36_5_5 0 (-1) su36_5_1) (fun z_11 hz_11 => ?_)
          refine cg_bn (t_X0_letGo u36_5_2 y26_3_4 y36_5_5 ) (fun z_12 hz_12 => ?_)
          have e_13 := (add_e (Eq.refl (y36_5_5).toInt) (by decide : (1 : Int32).toInt = 1) (by omega) (by omega))
          exact ihr36_5 (dr36_5 - 1) (y36_5_3 + 1) y26_3_4 (y36_5_5 + 1) z_8.2 z_11 z_12 (by omega) ⟨rfl, hz_11, (by omega), (by omega)⟩
  · refine cg_chk (inb_e (Eq.refl (y2_1_3).toInt) (by omega) (by omega)) ?_
    refine cg_bv (fun u_13 eu_13 => ?_)
    have e_14 := (add_e (Eq.refl (y2_1_3).toInt) (by decide : (1 : Int32).toInt = 1) (by omega) (by omega))
    exact ihr2_1 (dr2_1 - 1) (y2_1_3 + 1) u_13 (by omega) ⟨(by omega), (by omega)⟩
theorem t_X1_reach (u0 : S1) (p1 : Int32) : cg_O (f_X1_reach u0 p1) (fun z => True) := by
  unfold f_X1_reach
  try dsimp only [jn]
  refine cg_lt2 (Eq.refl ((p1) : Int32).toInt) (by decide : (0 : Int32).toInt = 0) (fun h_1 => ?_) (fun h_1 => ?_)
  · exact cg_some trivial
  · refine cg_le2 (by decide : (32 : Int32).toInt = 32) (Eq.refl ((p1) : Int32).toInt) (fun h_2 => ?_) (fun h_2 => ?_)
    · exact cg_some trivial
    · refine cg_chk (inb_e (Eq.refl (p1).toInt) (by omega) (by omega)) ?_
      refine cg_eq2 (Eq.refl ((u0 1 (p1).toNatClampNeg) : Int32).toInt) (by decide : (0 : Int32).toInt = 0) (fun h_3 => ?_) (fun h_3 => ?_)
      · refine cg_lt2 (Eq.refl ((u0 3 0) : Int32).toInt) (by decide : (0 : Int32).toInt = 0) (fun h_4 => ?_) (fun h_4 => ?_)
        · exact cg_some trivial
        · refine cg_le2 (by decide : (32 : Int32).toInt = 32) (Eq.refl ((u0 3 0) : Int32).toInt) (fun h_5 => ?_) (fun h_5 => ?_)
          · exact cg_some trivial
          · refine cg_chk (inb_e (Eq.refl (p1).toInt) (by omega) (by omega)) ?_
            refine cg_bv (fun u_7 eu_7 => ?_)
            rw [show u_7 3 0 = u0 3 0 from by rw [eu_7]; rfl]
            refine cg_chk (inb_e (Eq.refl (u0 3 0).toInt) (by omega) (by omega)) ?_
            refine cg_bv (fun u_8 eu_8 => ?_)
            refine cg_bv (fun u_9 eu_9 => ?_)
            exact cg_some trivial
      · exact cg_some trivial
theorem t_X1_reachAll (u0 : S1) (u1 : S1) (h0 : cg_S u1) : cg_O (f_X1_reachAll u0 u1) (fun z => True) := by
  unfold f_X1_reachAll
  try dsimp only [jn]
  refine cg_q2 (cg_l2 (fun dr2_1 y2_1_2 u2_1_0 => 0 ≤ y2_1_2.toInt ∧ 32 - y2_1_2.toInt ≤ (dr2_1 : Int)) (fun dr2_1 r2_1 ihr2_1 y2_1_2 u2_1_0 hh => ?_) 32 4096 (by decide) 0 u0 ⟨(by decide), (by decide)⟩)
  obtain ⟨i_1, i_2⟩ := hh
  refine cg_le2 (by decide : (32 : Int32).toInt = 32) (Eq.refl ((y2_1_2) : Int32).toInt) (fun h_3 => ?_) (fun h_3 => ?_)
  · refine cg_bv (fun u_3 eu_3 => ?_)
    refine cg_bn (t_X1_reach u_3 0 ) (fun z_4 hz_4 => ?_)
    refine cg_q2 (cg_l2 (fun dr33_5 y33_5_2 u33_5_0 => 0 ≤ y33_5_2.toInt ∧ 32 - y33_5_2.toInt ≤ (dr33_5 : Int)) (fun dr33_5 r33_5 ihr33_5 y33_5_2 u33_5_0 hh => ?_) 32 4096 (by decide) 0 z_4 ⟨(by decide), (by decide)⟩)
    obtain ⟨i_4, i_5⟩ := hh
    refine cg_le2 (Eq.refl ((u33_5_0 3 0) : Int32).toInt) (Eq.refl ((y33_5_2) : Int32).toInt) (fun h_6 => ?_) (fun h_6 => ?_)
    · exact cg_some trivial
    · refine cg_le2 (by decide : (32 : Int32).toInt = 32) (Eq.refl ((y33_5_2) : Int32).toInt) (fun h_7 => ?_) (fun h_7 => ?_)
      · exact cg_some trivial
      · refine cg_chk (inb_e (Eq.refl (y33_5_2).toInt) (by omega) (by omega)) ?_
        refine cg_bn (t_X4_sizeOf u1 (u33_5_0 2 (y33_5_2).toNatClampNeg) h0) (fun z_9 hz_9 => ?_)
        refine cg_q4 (cg_l4 (fun dr61_10 y61_10_2 y61_10_3 y61_10_4 u61_10_0 => y33_5_2 = y61_10_2 ∧ z_9 = y61_10_3 ∧ 0 ≤ y61_10_4.toInt ∧ 8 - y61_10_4.toInt ≤ (dr61_10 : Int)) (fun dr61_10 r61_10 ihr61_10 y61_10_2 y61_10_3 y61_10_4 u61_10_0 hh => ?_) 8 4096 (by decide) y33_5_2 z_9 0 u33_5_0 ⟨rfl, rfl, (by decide), (by decide)⟩)
        obtain ⟨rfl, rfl, i_8, i_9⟩ := hh
        refine cg_le2 (Eq.refl ((z_9) : Int32).toInt) (Eq.refl ((y61_10_4) : Int32).toInt) (fun h_10 => ?_) (fun h_10 => ?_)
        · have e_11 := (add_e (Eq.refl (y33_5_2).toInt) (by decide : (1 : Int32).toInt = 1) (by omega) (by omega))
          exact ihr33_5 (dr33_5 - 1) (y33_5_2 + 1) u61_10_0 (by omega) ⟨(by omega), (by omega)⟩
        · refine cg_chk (inb_e (Eq.refl (y33_5_2).toInt) (by omega) (by omega)) ?_
          refine cg_bn (t_X4_entryThing u1 (u61_10_0 2 (y33_5_2).toNatClampNeg) y61_10_4 ) (fun z_12 hz_12 => ?_)
          refine cg_bn (t_X1_reach u61_10_0 z_12 ) (fun z_13 hz_13 => ?_)
          have e_12 := (add_e (Eq.refl (y61_10_4).toInt) (by decide : (1 : Int32).toInt = 1) (by omega) (by omega))
          exact ihr61_10 (dr61_10 - 1) y33_5_2 z_9 (y61_10_4 + 1) z_13 (by omega) ⟨rfl, rfl, (by omega), (by omega)⟩
  · refine cg_chk (inb_e (Eq.refl (y2_1_2).toInt) (by omega) (by omega)) ?_
    refine cg_bv (fun u_14 eu_14 => ?_)
    have e_13 := (add_e (Eq.refl (y2_1_2).toInt) (by decide : (1 : Int32).toInt = 1) (by omega) (by omega))
    exact ihr2_1 (dr2_1 - 1) (y2_1_2 + 1) u_14 (by omega) ⟨(by omega), (by omega)⟩
theorem t_X1_mendThings (u0 : S1) (u1 : S1) (u2 : S1) (h0 : cg_S u1) : cg_O (f_X1_mendThings u0 u1 u2) (fun z => (cg_S z.2.2.1)) := by
  unfold f_X1_mendThings
  try dsimp only [jn]
  refine cg_bn (t_X1_reachAll u0 u1 h0) (fun z_1 hz_1 => ?_)
  refine cg_q5 (cg_l5 (fun dr10_2 y10_2_3 y10_2_4 u10_2_0 u10_2_1 u10_2_2 => z_1 = u10_2_0 ∧ cg_S u10_2_1 ∧ 0 ≤ y10_2_4.toInt ∧ 32 - y10_2_4.toInt ≤ (dr10_2 : Int)) (fun dr10_2 r10_2 ihr10_2 y10_2_3 y10_2_4 u10_2_0 u10_2_1 u10_2_2 hh => ?_) 32 4096 (by decide) 0 0 z_1 u1 u2 ⟨rfl, h0, (by decide), (by decide)⟩)
  obtain ⟨rfl, su10_2_1, i_1, i_2⟩ := hh
  refine cg_le2 (by decide : (32 : Int32).toInt = 32) (Eq.refl ((y10_2_4) : Int32).toInt) (fun h_3 => ?_) (fun h_3 => ?_)
  · exact cg_some (show (cg_S u10_2_1) from su10_2_1)
  · refine cg_bn (t_X4_isThing u10_2_1 y10_2_4 ) (fun z_4 hz_4 => ?_)
    refine cg_eq2 (Eq.refl ((z_4) : Int32).toInt) (by decide : (0 : Int32).toInt = 0) (fun h_4 => ?_) (fun h_4 => ?_)
    · have e_5 := (add_e (Eq.refl (y10_2_4).toInt) (by decide : (1 : Int32).toInt = 1) (by omega) (by omega))
      exact ihr10_2 (dr10_2 - 1) y10_2_3 (y10_2_4 + 1) z_1 u10_2_1 u10_2_2 (by omega) ⟨rfl, su10_2_1, (by omega), (by omega)⟩
    · refine cg_chk (inb_e (Eq.refl (y10_2_4).toInt) (by omega) (by omega)) ?_
      refine cg_eq2 (Eq.refl ((z_1 1 (y10_2_4).toNatClampNeg) : Int32).toInt) (by decide : (0 : Int32).toInt = 0) (fun h_6 => ?_) (fun h_6 => ?_)
      · refine cg_bn (t_X4_clearThing u10_2_1 y10_2_4 su10_2_1) (fun z_8 hz_8 => ?_)
        refine cg_bn (t_X0_forgetThing u10_2_2 y10_2_4 ) (fun z_9 hz_9 => ?_)
        have e_7 := (add_e (Eq.refl (y10_2_4).toInt) (by decide : (1 : Int32).toInt = 1) (by omega) (by omega))
        exact ihr10_2 (dr10_2 - 1) (y10_2_3 + 1) (y10_2_4 + 1) z_1 z_8 z_9 (by omega) ⟨rfl, hz_8, (by omega), (by omega)⟩
      · have e_8 := (add_e (Eq.refl (y10_2_4).toInt) (by decide : (1 : Int32).toInt = 1) (by omega) (by omega))
        exact ihr10_2 (dr10_2 - 1) y10_2_3 (y10_2_4 + 1) z_1 u10_2_1 u10_2_2 (by omega) ⟨rfl, su10_2_1, (by omega), (by omega)⟩
theorem t_X1_mendCounts (u0 : S1) (u1 : S1) (h0 : cg_S u1) : cg_O (f_X1_mendCounts u0 u1) (fun z => (cg_S z.2)) := by
  unfold f_X1_mendCounts
  try dsimp only [jn]
  refine cg_q3 (cg_l3 (fun dr4_1 y4_1_2 y4_1_3 u4_1_1 => cg_S u4_1_1 ∧ 0 ≤ y4_1_3.toInt ∧ 32 - y4_1_3.toInt ≤ (dr4_1 : Int)) (fun dr4_1 r4_1 ihr4_1 y4_1_2 y4_1_3 u4_1_1 hh => ?_) 32 4096 (by decide) 0 0 u1 ⟨h0, (by decide), (by decide)⟩)
  obtain ⟨su4_1_1, i_1, i_2⟩ := hh
  refine cg_le2 (by decide : (32 : Int32).toInt = 32) (Eq.refl ((y4_1_3) : Int32).toInt) (fun h_3 => ?_) (fun h_3 => ?_)
  · exact cg_some (show (cg_S u4_1_1) from su4_1_1)
  · refine cg_bn (t_X4_countEntriesOf u4_1_1 y4_1_3 su4_1_1) (fun z_3 hz_3 => ?_)
    refine cg_bn (t_X4_isThing u4_1_1 y4_1_3 ) (fun z_4 hz_4 => ?_)
    refine cg_eq2 (Eq.refl ((z_4) : Int32).toInt) (by decide : (0 : Int32).toInt = 0) (fun h_4 => ?_) (fun h_4 => ?_)
    · have e_5 := (add_e (Eq.refl (y4_1_3).toInt) (by decide : (1 : Int32).toInt = 1) (by omega) (by omega))
      exact ihr4_1 (dr4_1 - 1) y4_1_2 (y4_1_3 + 1) u4_1_1 (by omega) ⟨su4_1_1, (by omega), (by omega)⟩
    · refine cg_bn (t_X4_countOf u4_1_1 y4_1_3 ) (fun z_7 hz_7 => ?_)
      refine cg_eq2 (Eq.refl ((z_7) : Int32).toInt) (Eq.refl ((z_3) : Int32).toInt) (fun h_6 => ?_) (fun h_6 => ?_)
      · have e_7 := (add_e (Eq.refl (y4_1_3).toInt) (by decide : (1 : Int32).toInt = 1) (by omega) (by omega))
        exact ihr4_1 (dr4_1 - 1) y4_1_2 (y4_1_3 + 1) u4_1_1 (by omega) ⟨su4_1_1, (by omega), (by omega)⟩
      · refine cg_bn (t_X4_setCount u4_1_1 y4_1_3 z_3 su4_1_1) (fun z_9 hz_9 => ?_)
        have e_8 := (add_e (Eq.refl (y4_1_3).toInt) (by decide : (1 : Int32).toInt = 1) (by omega) (by omega))
        exact ihr4_1 (dr4_1 - 1) (y4_1_2 + 1) (y4_1_3 + 1) z_9 (by omega) ⟨hz_9, (by omega), (by omega)⟩
