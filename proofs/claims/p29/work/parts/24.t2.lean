-- the walk
theorem t_X5_putNames (u0 : S1) (p1 : Int32) (h0 : 0 ≤ (u0 1 0).toInt) : cg_O (f_X5_putNames u0 p1) (fun z => 0 ≤ (z 1 0).toInt) := by
  unfold f_X5_putNames
  dsimp only [jn]
  refine cg_q3 (cg_l3 (fun d y4_1_2 y4_1_3 u4_1_0 => 0 ≤ (u4_1_0 1 0).toInt ∧ 0 ≤ y4_1_3.toInt ∧ 4 - y4_1_3.toInt ≤ (d : Int)) (fun d r4_1 ih y4_1_2 y4_1_3 u4_1_0 hh => ?_) 4 4096 (by decide) p1 0 u0 ⟨h0, by decide, by decide⟩)
  obtain ⟨hu, i1, i2⟩ := hh
  refine cg_le2 (by decide : (4 : Int32).toInt = 4) (Eq.refl _) (fun h1 => ?_) (fun h1 => ?_)
  · exact cg_some hu
  refine cg_le2 (Eq.refl _) (by decide : (0 : Int32).toInt = 0) (fun h2 => ?_) (fun h2 => ?_)
  · exact cg_some hu
  refine cg_le2 (by decide : (20 : Int32).toInt = 20) (Eq.refl _) (fun h3 => ?_) (fun h3 => ?_)
  · exact cg_some hu
  refine cg_chk (inb_e (Eq.refl _) (by omega) (by omega)) ?_
  refine cg_bv (fun u_6 e6 => ?_)
  refine cg_bv (fun u_7 e7 => ?_)
  have a : (y4_1_3 + 1).toInt = y4_1_3.toInt + 1 := add_e (Eq.refl _) (by decide) (by omega) (by omega)
  have b : (u_7 1 0).toInt = (u4_1_0 1 0).toInt + 1 := by
    rw [e7, show (up u_6 1 (fun _ => u_6 1 0 + 1)) 1 0 = u_6 1 0 + 1 from rfl, show u_6 1 0 = u4_1_0 1 0 from by rw [e6]; rfl]
    exact add_e (Eq.refl _) (by decide) (by omega) (by omega)
  exact ih (d - 1) _ _ _ (by omega) ⟨by omega, by omega, by omega⟩
theorem t_X5_nextName (u0 : S1) (h0 : 0 ≤ (u0 1 0).toInt) : cg_O (f_X5_nextName u0) (fun z => 0 ≤ (z.2 1 0).toInt) := by
  unfold f_X5_nextName
  dsimp only [jn]
  refine cg_lt2 (Eq.refl _) (by decide : (1 : Int32).toInt = 1) (fun h1 => ?_) (fun h1 => ?_)
  · exact cg_some h0
  refine cg_le2 (Eq.refl _) (by decide : (20 : Int32).toInt = 20) (fun h2 => ?_) (fun h2 => ?_)
  · refine cg_bv (fun u_4 e4 => ?_)
    have b : (u_4 1 0).toInt = (u0 1 0).toInt - 1 := by
      rw [e4, show (up u0 1 (fun _ => u0 1 0 - 1)) 1 0 = u0 1 0 - 1 from rfl]
      exact sub_e (Eq.refl _) (by decide) (by omega) (by omega)
    exact cg_chk (inb_e (Eq.refl _) (by omega) (by omega)) (cg_some (show 0 ≤ (u_4 1 0).toInt by omega))
  · exact cg_some h0
theorem t_X5_thingAt (u0 : S1) (u1 : S1) (p2 : Int32) (p3 : Int32) : cg_O (f_X5_thingAt u0 u1 p2 p3) (fun _ => True) := by
  unfold f_X5_thingAt
  dsimp only [jn]
  refine cg_bv (fun u_1 e1 => ?_)
  refine cg_bn (t_X5_putNames u_1 p2 (by rw [e1]; exact (by decide : 0 ≤ (0 : Int32).toInt))) (fun z_2 hz_2 => ?_)
  refine cg_q4 (cg_l4 (fun d y4 y5 y6 u => 0 ≤ (u 1 0).toInt ∧ 0 ≤ y6.toInt ∧ 20 - y6.toInt ≤ (d : Int)) (fun d r ih y4 y5 y6 u hh => ?_) 20 4096 (by decide) 0 0 0 z_2 ⟨hz_2, by decide, by decide⟩)
  obtain ⟨hu, i1, i2⟩ := hh
  refine cg_le2 (by decide : (20 : Int32).toInt = 20) (Eq.refl _) (fun h1 => ?_) (fun h1 => ?_)
  · exact cg_some trivial
  have a : (y6 + 1).toInt = y6.toInt + 1 := add_e (Eq.refl _) (by decide) (by omega) (by omega)
  refine cg_i (fun h2 => cg_some trivial) (fun h2 => ?_)
  refine cg_bn (t_X5_nextName u hu) (fun z_7 hz_7 => ?_)
  refine cg_bn (t_X4_thingNamed u1 y4 z_7.1) (fun z_8 hz_8 => ?_)
  refine cg_i (fun h3 => cg_some trivial) (fun h3 => ?_)
  refine cg_bn (t_X4_isOfKind u1 z_8 2) (fun z_10 hz_10 => ?_)
  have k1 : cg_O (r z_8 y5 (y6 + 1) z_7.2) (fun _ => True) := ih (d - 1) _ _ _ _ (by omega) ⟨hz_7, by omega, by omega⟩
  have k2 : cg_O (if y5 = 4 then some ((-1), z_7.2) else bn (f_X4_pathOf u1 z_8) (fun z_15 => bn (f_X5_putNames z_7.2 z_15) (fun z_16 => r 0 (y5 + 1) (y6 + 1) z_16))) (fun _ => True) := by
    refine cg_i (fun h5 => cg_some trivial) (fun h5 => ?_)
    refine cg_bn (t_X4_pathOf u1 z_8) (fun z_15 _ => ?_)
    refine cg_bn (t_X5_putNames z_7.2 z_15 hz_7) (fun z_16 hz_16 => ?_)
    exact ih (d - 1) _ _ _ _ (by omega) ⟨hz_16, by omega, by omega⟩
  exact cg_i (fun _ => k1) (fun _ => cg_i (fun _ => k2) (fun _ => cg_i (fun _ => k1) (fun _ => k2)))
theorem t_X3_isHandle (u0 : S1) (p1 : Int32) : cg_O (f_X3_isHandle u0 p1) (fun z => (z.toInt = 0 ∨ (0 ≤ p1.toInt ∧ p1.toInt < 30))) := by
  unfold f_X3_isHandle
  try dsimp only [jn]
  refine cg_lt2 (Eq.refl ((p1) : Int32).toInt) (by decide : (0 : Int32).toInt = 0) (fun h_1 => ?_) (fun h_1 => ?_)
  · exact cg_some (show ((vp_nar .boolean 0).toInt = 0 ∨ (0 ≤ p1.toInt ∧ p1.toInt < 30)) from (by first | omega | decide | exact Or.inl (by decide) | exact Or.inr (by omega)))
  · refine cg_le2 (by decide : (30 : Int32).toInt = 30) (Eq.refl ((p1) : Int32).toInt) (fun h_2 => ?_) (fun h_2 => ?_)
    · exact cg_some (show ((vp_nar .boolean 0).toInt = 0 ∨ (0 ≤ p1.toInt ∧ p1.toInt < 30)) from (by first | omega | decide | exact Or.inl (by decide) | exact Or.inr (by omega)))
    · refine cg_le2 (Eq.refl ((u0 4 0) : Int32).toInt) (Eq.refl ((p1) : Int32).toInt) (fun h_3 => ?_) (fun h_3 => ?_)
      · exact cg_some (show ((vp_nar .boolean 0).toInt = 0 ∨ (0 ≤ p1.toInt ∧ p1.toInt < 30)) from (by first | omega | decide | exact Or.inl (by decide) | exact Or.inr (by omega)))
      · exact cg_some (show ((vp_nar .boolean 1).toInt = 0 ∨ (0 ≤ p1.toInt ∧ p1.toInt < 30)) from (by first | omega | decide | exact Or.inl (by decide) | exact Or.inr (by omega)))
theorem t_X3_isSpent (u0 : S1) : cg_O (f_X3_isSpent u0) (fun z => True) := by
  unfold f_X3_isSpent
  try dsimp only [jn]
  refine cg_lt2 (Eq.refl ((u0 4 0) : Int32).toInt) (by decide : (30 : Int32).toInt = 30) (fun h_1 => ?_) (fun h_1 => ?_)
  · exact cg_some trivial
  · exact cg_some trivial
theorem t_X3_give (u0 : S1) (p1 : Int32) (p2 : Int32) : cg_O (f_X3_give u0 p1 p2) (fun z => True) := by
  unfold f_X3_give
  try dsimp only [jn]
  refine cg_lt2 (Eq.refl ((u0 4 0) : Int32).toInt) (by decide : (0 : Int32).toInt = 0) (fun h_1 => ?_) (fun h_1 => ?_)
  · exact cg_some trivial
  · refine cg_lt2 (Eq.refl ((u0 4 0) : Int32).toInt) (by decide : (30 : Int32).toInt = 30) (fun h_2 => ?_) (fun h_2 => ?_)
    · refine cg_chk (inb_e (Eq.refl (u0 4 0).toInt) (by omega) (by omega)) ?_
      refine cg_bv (fun u_4 eu_4 => ?_)
      rw [show u_4 4 0 = u0 4 0 from by rw [eu_4]; rfl]
      refine cg_chk (inb_e (Eq.refl (u0 4 0).toInt) (by omega) (by omega)) ?_
      refine cg_bv (fun u_5 eu_5 => ?_)
      rw [show u_5 4 0 = u0 4 0 from by rw [eu_5, eu_4]; rfl]
      refine cg_chk (inb_e (Eq.refl (u0 4 0).toInt) (by omega) (by omega)) ?_
      refine cg_bv (fun u_6 eu_6 => ?_)
      refine cg_bv (fun u_7 eu_7 => ?_)
      exact cg_some trivial
    · exact cg_some trivial
theorem t_X3_thingOf (u0 : S1) (p1 : Int32) : cg_O (f_X3_thingOf u0 p1) (fun z => True) := by
  unfold f_X3_thingOf
  try dsimp only [jn]
  refine cg_bn (t_X3_isHandle u0 p1 ) (fun z_1 hz_1 => ?_)
  refine cg_eq2 (Eq.refl ((z_1) : Int32).toInt) (by decide : (0 : Int32).toInt = 0) (fun h_1 => ?_) (fun h_1 => ?_)
  · exact cg_some trivial
  · refine cg_chk (inb_e (Eq.refl (p1).toInt) (by omega) (by omega)) ?_
    exact cg_some trivial
theorem t_X3_isOpen (u0 : S1) (p1 : Int32) : cg_O (f_X3_isOpen u0 p1) (fun z => True) := by
  unfold f_X3_isOpen
  try dsimp only [jn]
  refine cg_bn (t_X3_isHandle u0 p1 ) (fun z_1 hz_1 => ?_)
  refine cg_eq2 (Eq.refl ((z_1) : Int32).toInt) (by decide : (0 : Int32).toInt = 0) (fun h_1 => ?_) (fun h_1 => ?_)
  · exact cg_some trivial
  · refine cg_chk (inb_e (Eq.refl (p1).toInt) (by omega) (by omega)) ?_
    refine cg_eq2 (Eq.refl ((u0 1 (p1).toNatClampNeg) : Int32).toInt) (by decide : (0 : Int32).toInt = 0) (fun h_2 => ?_) (fun h_2 => ?_)
    · exact cg_some trivial
    · exact cg_some trivial
theorem t_X3_isToWrite (u0 : S1) (p1 : Int32) : cg_O (f_X3_isToWrite u0 p1) (fun z => True) := by
  unfold f_X3_isToWrite
  try dsimp only [jn]
  refine cg_bn (t_X3_isHandle u0 p1 ) (fun z_1 hz_1 => ?_)
  refine cg_eq2 (Eq.refl ((z_1) : Int32).toInt) (by decide : (0 : Int32).toInt = 0) (fun h_1 => ?_) (fun h_1 => ?_)
  · exact cg_some trivial
  · refine cg_chk (inb_e (Eq.refl (p1).toInt) (by omega) (by omega)) ?_
    refine cg_eq2 (Eq.refl ((u0 2 (p1).toNatClampNeg) : Int32).toInt) (by decide : (0 : Int32).toInt = 0) (fun h_2 => ?_) (fun h_2 => ?_)
    · exact cg_some trivial
    · exact cg_some trivial
theorem t_X3_setLocks (u0 : S1) (p1 : Int32) (p2 : Int32) (p3 : Int32) (p4 : Int32) : cg_O (f_X3_setLocks u0 p1 p2 p3 p4) (fun z => True) := by
  unfold f_X3_setLocks
  try dsimp only [jn]
  refine cg_bn (t_X3_isHandle u0 p1 ) (fun z_1 hz_1 => ?_)
  refine cg_eq2 (Eq.refl ((z_1) : Int32).toInt) (by decide : (0 : Int32).toInt = 0) (fun h_1 => ?_) (fun h_1 => ?_)
  · exact cg_some trivial
  · refine cg_lt2 (Eq.refl ((p2) : Int32).toInt) (by decide : (0 : Int32).toInt = 0) (fun h_2 => ?_) (fun h_2 => ?_)
    · exact cg_some trivial
    · refine cg_q2 (cg_l2 (fun dr15_5 y15_5_5 u15_5_0 => 0 ≤ y15_5_5.toInt ∧ 16 - y15_5_5.toInt ≤ (dr15_5 : Int)) (fun dr15_5 r15_5 ihr15_5 y15_5_5 u15_5_0 hh => ?_) 16 4096 (by decide) p2 u0 ⟨(by first | omega | decide), (by first | omega | decide)⟩)
      obtain ⟨i_3, i_4⟩ := hh
      refine cg_lt2 (Eq.refl ((p3) : Int32).toInt) (Eq.refl ((y15_5_5) : Int32).toInt) (fun h_5 => ?_) (fun h_5 => ?_)
      · exact cg_some trivial
      · refine cg_le2 (by decide : (16 : Int32).toInt = 16) (Eq.refl ((y15_5_5) : Int32).toInt) (fun h_6 => ?_) (fun h_6 => ?_)
        · exact cg_some trivial
        · refine cg_chk (inb_e (add_e (mul_e (Eq.refl (p1).toInt) (by decide : (16 : Int32).toInt = 16) (by omega) (by omega)) (Eq.refl (y15_5_5).toInt) (by omega) (by omega)) (by omega) (by omega)) ?_
          refine cg_bv (fun u_8 eu_8 => ?_)
          have e_7 := (add_e (Eq.refl (y15_5_5).toInt) (by decide : (1 : Int32).toInt = 1) (by omega) (by omega))
          exact ihr15_5 (dr15_5 - 1) (y15_5_5 + 1) u_8 (by omega) ⟨(by omega), (by omega)⟩
theorem t_X3_shut (u0 : S1) (p1 : Int32) : cg_O (f_X3_shut u0 p1) (fun z => True) := by
  unfold f_X3_shut
  try dsimp only [jn]
  refine cg_bn (t_X3_isHandle u0 p1 ) (fun z_1 hz_1 => ?_)
  refine cg_eq2 (Eq.refl ((z_1) : Int32).toInt) (by decide : (0 : Int32).toInt = 0) (fun h_1 => ?_) (fun h_1 => ?_)
  · exact cg_some trivial
  · refine cg_chk (inb_e (Eq.refl (p1).toInt) (by omega) (by omega)) ?_
    refine cg_bv (fun u_4 eu_4 => ?_)
    refine cg_bn (t_X3_setLocks u_4 p1 0 15 0 ) (fun z_5 hz_5 => ?_)
    exact cg_some trivial
theorem t_X3_shutAll (u0 : S1) : cg_O (f_X3_shutAll u0) (fun z => True) := by
  unfold f_X3_shutAll
  try dsimp only [jn]
  refine cg_q2 (cg_l2 (fun dr2_1 y2_1_1 u2_1_0 => 0 ≤ y2_1_1.toInt ∧ 30 - y2_1_1.toInt ≤ (dr2_1 : Int)) (fun dr2_1 r2_1 ihr2_1 y2_1_1 u2_1_0 hh => ?_) 30 4096 (by decide) 0 u0 ⟨(by decide), (by decide)⟩)
  obtain ⟨i_1, i_2⟩ := hh
  refine cg_le2 (by decide : (30 : Int32).toInt = 30) (Eq.refl ((y2_1_1) : Int32).toInt) (fun h_3 => ?_) (fun h_3 => ?_)
  · exact cg_some trivial
  · refine cg_bn (t_X3_shut u2_1_0 y2_1_1 ) (fun z_3 hz_3 => ?_)
    have e_4 := (add_e (Eq.refl (y2_1_1).toInt) (by decide : (1 : Int32).toInt = 1) (by omega) (by omega))
    exact ihr2_1 (dr2_1 - 1) (y2_1_1 + 1) z_3 (by omega) ⟨(by omega), (by omega)⟩
theorem t_X3_isAnyOpen (u0 : S1) : cg_O (f_X3_isAnyOpen u0) (fun z => True) := by
  unfold f_X3_isAnyOpen
  try dsimp only [jn]
  refine cg_q1 (cg_l1 (fun dr2_1 y2_1_1 => 0 ≤ y2_1_1.toInt ∧ 30 - y2_1_1.toInt ≤ (dr2_1 : Int)) (fun dr2_1 r2_1 ihr2_1 y2_1_1 hh => ?_) 30 4096 (by decide) 0 ⟨(by decide), (by decide)⟩)
  obtain ⟨i_1, i_2⟩ := hh
  refine cg_le2 (by decide : (30 : Int32).toInt = 30) (Eq.refl ((y2_1_1) : Int32).toInt) (fun h_3 => ?_) (fun h_3 => ?_)
  · exact cg_some trivial
  · refine cg_chk (inb_e (Eq.refl (y2_1_1).toInt) (by omega) (by omega)) ?_
    refine cg_eq2 (Eq.refl ((u0 1 (y2_1_1).toNatClampNeg) : Int32).toInt) (by decide : (0 : Int32).toInt = 0) (fun h_4 => ?_) (fun h_4 => ?_)
    · have e_5 := (add_e (Eq.refl (y2_1_1).toInt) (by decide : (1 : Int32).toInt = 1) (by omega) (by omega))
      exact ihr2_1 (dr2_1 - 1) (y2_1_1 + 1) (by omega) ⟨(by omega), (by omega)⟩
    · exact cg_some trivial
theorem t_X3_isOpenOf (u0 : S1) (p1 : Int32) (p2 : Int32) : cg_O (f_X3_isOpenOf u0 p1 p2) (fun z => True) := by
  unfold f_X3_isOpenOf
  try dsimp only [jn]
  refine cg_bn (t_X3_isOpen u0 p1 ) (fun z_1 hz_1 => ?_)
  refine cg_eq2 (Eq.refl ((z_1) : Int32).toInt) (by decide : (0 : Int32).toInt = 0) (fun h_1 => ?_) (fun h_1 => ?_)
  · exact cg_some trivial
  · refine cg_bn (t_X3_thingOf u0 p1 ) (fun z_5 hz_5 => ?_)
    refine cg_eq2 (Eq.refl ((z_5) : Int32).toInt) (Eq.refl ((p2) : Int32).toInt) (fun h_2 => ?_) (fun h_2 => ?_)
    · exact cg_some trivial
    · exact cg_some trivial
theorem t_X3_countOf (u0 : S1) (p1 : Int32) : cg_O (f_X3_countOf u0 p1) (fun z => True) := by
  unfold f_X3_countOf
  try dsimp only [jn]
  refine cg_q2 (cg_l2 (fun dr4_1 y4_1_2 y4_1_3 => 0 ≤ y4_1_3.toInt ∧ 30 - y4_1_3.toInt ≤ (dr4_1 : Int)) (fun dr4_1 r4_1 ihr4_1 y4_1_2 y4_1_3 hh => ?_) 30 4096 (by decide) 0 0 ⟨(by decide), (by decide)⟩)
  obtain ⟨i_1, i_2⟩ := hh
  refine cg_le2 (by decide : (30 : Int32).toInt = 30) (Eq.refl ((y4_1_3) : Int32).toInt) (fun h_3 => ?_) (fun h_3 => ?_)
  · exact cg_some trivial
  · refine cg_bn (t_X3_isOpenOf u0 y4_1_3 p1 ) (fun z_3 hz_3 => ?_)
    refine cg_eq2 (Eq.refl ((z_3) : Int32).toInt) (by decide : (0 : Int32).toInt = 0) (fun h_4 => ?_) (fun h_4 => ?_)
    · have e_5 := (add_e (Eq.refl (y4_1_3).toInt) (by decide : (1 : Int32).toInt = 1) (by omega) (by omega))
      exact ihr4_1 (dr4_1 - 1) y4_1_2 (y4_1_3 + 1) (by omega) ⟨(by omega), (by omega)⟩
    · have e_6 := (add_e (Eq.refl (y4_1_3).toInt) (by decide : (1 : Int32).toInt = 1) (by omega) (by omega))
      exact ihr4_1 (dr4_1 - 1) (y4_1_2 + 1) (y4_1_3 + 1) (by omega) ⟨(by omega), (by omega)⟩
theorem t_X3_lockAt (u0 : S1) (p1 : Int32) (p2 : Int32) : cg_O (f_X3_lockAt u0 p1 p2) (fun z => True) := by
  unfold f_X3_lockAt
  try dsimp only [jn]
  refine cg_bn (t_X3_isHandle u0 p1 ) (fun z_1 hz_1 => ?_)
  refine cg_eq2 (Eq.refl ((z_1) : Int32).toInt) (by decide : (0 : Int32).toInt = 0) (fun h_1 => ?_) (fun h_1 => ?_)
  · exact cg_some trivial
  · refine cg_lt2 (Eq.refl ((p2) : Int32).toInt) (by decide : (0 : Int32).toInt = 0) (fun h_2 => ?_) (fun h_2 => ?_)
    · exact cg_some trivial
    · refine cg_le2 (by decide : (16 : Int32).toInt = 16) (Eq.refl ((p2) : Int32).toInt) (fun h_3 => ?_) (fun h_3 => ?_)
      · exact cg_some trivial
      · refine cg_chk (inb_e (add_e (mul_e (Eq.refl (p1).toInt) (by decide : (16 : Int32).toInt = 16) (by omega) (by omega)) (Eq.refl (p2).toInt) (by omega) (by omega)) (by omega) (by omega)) ?_
        exact cg_some trivial
theorem t_X3_countLocked (u0 : S1) (p1 : Int32) (p2 : Int32) (p3 : Int32) (p4 : Int32) (h0 : 0 ≤ p2.toInt) : cg_O (f_X3_countLocked u0 p1 p2 p3 p4) (fun z => True) := by
  unfold f_X3_countLocked
  try dsimp only [jn]
  refine cg_q2 (cg_l2 (fun dr6_1 y6_1_5 y6_1_6 => 0 ≤ y6_1_6.toInt ∧ 16 - y6_1_6.toInt ≤ (dr6_1 : Int)) (fun dr6_1 r6_1 ihr6_1 y6_1_5 y6_1_6 hh => ?_) 16 4096 (by decide) 0 p2 ⟨(by first | omega | decide), (by first | omega | decide)⟩)
  obtain ⟨i_1, i_2⟩ := hh
  refine cg_lt2 (Eq.refl ((p3) : Int32).toInt) (Eq.refl ((y6_1_6) : Int32).toInt) (fun h_3 => ?_) (fun h_3 => ?_)
  · exact cg_some trivial
  · refine cg_le2 (by decide : (16 : Int32).toInt = 16) (Eq.refl ((y6_1_6) : Int32).toInt) (fun h_4 => ?_) (fun h_4 => ?_)
    · exact cg_some trivial
    · refine cg_bn (t_X3_lockAt u0 p1 y6_1_6 ) (fun z_5 hz_5 => ?_)
      refine cg_eq2 (Eq.refl ((z_5) : Int32).toInt) (Eq.refl ((p4) : Int32).toInt) (fun h_5 => ?_) (fun h_5 => ?_)
      · have e_6 := (add_e (Eq.refl (y6_1_6).toInt) (by decide : (1 : Int32).toInt = 1) (by omega) (by omega))
        exact ihr6_1 (dr6_1 - 1) (y6_1_5 + 1) (y6_1_6 + 1) (by omega) ⟨(by omega), (by omega)⟩
      · have e_7 := (add_e (Eq.refl (y6_1_6).toInt) (by decide : (1 : Int32).toInt = 1) (by omega) (by omega))
        exact ihr6_1 (dr6_1 - 1) y6_1_5 (y6_1_6 + 1) (by omega) ⟨(by omega), (by omega)⟩
theorem t_X3_isHindered (u0 : S1) (p1 : Int32) (p2 : Int32) (p3 : Int32) (p4 : Int32) (h0 : 0 ≤ p2.toInt) : cg_O (f_X3_isHindered u0 p1 p2 p3 p4) (fun z => True) := by
  unfold f_X3_isHindered
  try dsimp only [jn]
  refine cg_bn (t_X3_thingOf u0 p1 ) (fun z_1 hz_1 => ?_)
  refine cg_q1 (cg_l1 (fun dr10_2 y10_2_6 => 0 ≤ y10_2_6.toInt ∧ 30 - y10_2_6.toInt ≤ (dr10_2 : Int)) (fun dr10_2 r10_2 ihr10_2 y10_2_6 hh => ?_) 30 4096 (by decide) 0 ⟨(by decide), (by decide)⟩)
  obtain ⟨i_1, i_2⟩ := hh
  refine cg_le2 (by decide : (30 : Int32).toInt = 30) (Eq.refl ((y10_2_6) : Int32).toInt) (fun h_3 => ?_) (fun h_3 => ?_)
  · exact cg_some trivial
  · refine cg_eq2 (Eq.refl ((y10_2_6) : Int32).toInt) (Eq.refl ((p1) : Int32).toInt) (fun h_4 => ?_) (fun h_4 => ?_)
    · have e_5 := (add_e (Eq.refl (y10_2_6).toInt) (by decide : (1 : Int32).toInt = 1) (by omega) (by omega))
      exact ihr10_2 (dr10_2 - 1) (y10_2_6 + 1) (by omega) ⟨(by omega), (by omega)⟩
    · refine cg_bn (t_X3_isOpenOf u0 y10_2_6 z_1 ) (fun z_6 hz_6 => ?_)
      refine cg_eq2 (Eq.refl ((z_6) : Int32).toInt) (by decide : (0 : Int32).toInt = 0) (fun h_6 => ?_) (fun h_6 => ?_)
      · have e_7 := (add_e (Eq.refl (y10_2_6).toInt) (by decide : (1 : Int32).toInt = 1) (by omega) (by omega))
        exact ihr10_2 (dr10_2 - 1) (y10_2_6 + 1) (by omega) ⟨(by omega), (by omega)⟩
      · refine cg_bn (t_X3_countLocked u0 y10_2_6 p2 p3 1 (by omega)) (fun z_8 hz_8 => ?_)
        refine cg_bn (t_X3_countLocked u0 y10_2_6 p2 p3 2 (by omega)) (fun z_9 hz_9 => ?_)
        refine cg_lt2 (by decide : (0 : Int32).toInt = 0) (Eq.refl ((z_9) : Int32).toInt) (fun h_8 => ?_) (fun h_8 => ?_)
        · exact cg_some trivial
        · refine cg_eq2 (Eq.refl ((p4) : Int32).toInt) (by decide : (2 : Int32).toInt = 2) (fun h_9 => ?_) (fun h_9 => ?_)
          · refine cg_le2 (Eq.refl ((z_8) : Int32).toInt) (by decide : (0 : Int32).toInt = 0) (fun h_10 => ?_) (fun h_10 => ?_)
            · have e_11 := (add_e (Eq.refl (y10_2_6).toInt) (by decide : (1 : Int32).toInt = 1) (by omega) (by omega))
              exact ihr10_2 (dr10_2 - 1) (y10_2_6 + 1) (by omega) ⟨(by omega), (by omega)⟩
            · exact cg_some trivial
          · have e_12 := (add_e (Eq.refl (y10_2_6).toInt) (by decide : (1 : Int32).toInt = 1) (by omega) (by omega))
            exact ihr10_2 (dr10_2 - 1) (y10_2_6 + 1) (by omega) ⟨(by omega), (by omega)⟩
