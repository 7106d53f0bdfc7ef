theorem t_X4_becomeLike (u0 : S1) (u1 : S1) (h0 : cg_S u1) (h1 : cg_S u0) : cg_O (f_X4_becomeLike u0 u1) (fun z => (cg_S z)) := by
  unfold f_X4_becomeLike
  try dsimp only [jn]
  refine cg_bv (fun u_1 eu_1 => ?_)
  have su_1 : cg_S u_1 := by rw [eu_1]; exact (sz_cp h1 (by decide))
  refine cg_bv (fun u_2 eu_2 => ?_)
  have su_2 : cg_S u_2 := by rw [eu_2]; exact (sz_cp su_1 (by decide))
  refine cg_bv (fun u_3 eu_3 => ?_)
  have su_3 : cg_S u_3 := by rw [eu_3]; exact (sz_cp su_2 (by decide))
  refine cg_bv (fun u_4 eu_4 => ?_)
  have su_4 : cg_S u_4 := by rw [eu_4]; exact (sz_cp su_3 (by decide))
  refine cg_bv (fun u_5 eu_5 => ?_)
  have su_5 : cg_S u_5 := by rw [eu_5]; exact (sz_cp su_4 (by decide))
  refine cg_bv (fun u_6 eu_6 => ?_)
  have su_6 : cg_S u_6 := by rw [eu_6]; exact (sz_cp5 su_5 h0)
  refine cg_bv (fun u_7 eu_7 => ?_)
  have su_7 : cg_S u_7 := by rw [eu_7]; exact (sz_cp su_6 (by decide))
  refine cg_bv (fun u_8 eu_8 => ?_)
  have su_8 : cg_S u_8 := by rw [eu_8]; exact (sz_cp su_7 (by decide))
  refine cg_bv (fun u_9 eu_9 => ?_)
  have su_9 : cg_S u_9 := by rw [eu_9]; exact (sz_cp su_8 (by decide))
  refine cg_bv (fun u_10 eu_10 => ?_)
  have su_10 : cg_S u_10 := by rw [eu_10]; exact (sz_cp su_9 (by decide))
  refine cg_bv (fun u_11 eu_11 => ?_)
  have su_11 : cg_S u_11 := by rw [eu_11]; exact (sz_cp su_10 (by decide))
  refine cg_bv (fun u_12 eu_12 => ?_)
  have su_12 : cg_S u_12 := by rw [eu_12]; exact (sz_cp su_11 (by decide))
  exact cg_some (show (cg_S u_12) from su_12)
theorem t_X4_isInRange (p0 : Int32) : cg_O (f_X4_isInRange p0) (fun z => (z.toInt = 0 ∨ (0 ≤ p0.toInt ∧ p0.toInt < 32))) := by
  unfold f_X4_isInRange
  try dsimp only [jn]
  refine cg_lt2 (Eq.refl ((p0) : Int32).toInt) (by decide : (0 : Int32).toInt = 0) (fun h_1 => ?_) (fun h_1 => ?_)
  · exact cg_some (show ((vp_nar .boolean 0).toInt = 0 ∨ (0 ≤ p0.toInt ∧ p0.toInt < 32)) from (by first | omega | decide | exact Or.inl (by decide) | exact Or.inr (by omega)))
  · refine cg_le2 (by decide : (32 : Int32).toInt = 32) (Eq.refl ((p0) : Int32).toInt) (fun h_2 => ?_) (fun h_2 => ?_)
    · exact cg_some (show ((vp_nar .boolean 0).toInt = 0 ∨ (0 ≤ p0.toInt ∧ p0.toInt < 32)) from (by first | omega | decide | exact Or.inl (by decide) | exact Or.inr (by omega)))
    · exact cg_some (show ((vp_nar .boolean 1).toInt = 0 ∨ (0 ≤ p0.toInt ∧ p0.toInt < 32)) from (by first | omega | decide | exact Or.inl (by decide) | exact Or.inr (by omega)))
theorem t_X4_isThing (u0 : S1) (p1 : Int32) : cg_O (f_X4_isThing u0 p1) (fun z => (z.toInt = 0 ∨ (0 ≤ p1.toInt ∧ p1.toInt < 32))) := by
  unfold f_X4_isThing
  try dsimp only [jn]
  refine cg_bn (t_X4_isInRange p1 ) (fun z_1 hz_1 => ?_)
  refine cg_eq2 (Eq.refl ((z_1) : Int32).toInt) (by decide : (0 : Int32).toInt = 0) (fun h_1 => ?_) (fun h_1 => ?_)
  · exact cg_some (show ((vp_nar .boolean 0).toInt = 0 ∨ (0 ≤ p1.toInt ∧ p1.toInt < 32)) from (by first | omega | decide | exact Or.inl (by decide) | exact Or.inr (by omega)))
  · refine cg_chk (inb_e (Eq.refl (p1).toInt) (by omega) (by omega)) ?_
    refine cg_eq2 (Eq.refl ((u0 0 (p1).toNatClampNeg) : Int32).toInt) (by decide : (-1 : Int32).toInt = -1) (fun h_2 => ?_) (fun h_2 => ?_)
    · exact cg_some (show ((vp_nar .boolean 0).toInt = 0 ∨ (0 ≤ p1.toInt ∧ p1.toInt < 32)) from (by first | omega | decide | exact Or.inl (by decide) | exact Or.inr (by omega)))
    · exact cg_some (show ((vp_nar .boolean 1).toInt = 0 ∨ (0 ≤ p1.toInt ∧ p1.toInt < 32)) from (by first | omega | decide | exact Or.inl (by decide) | exact Or.inr (by omega)))
theorem t_X4_isOfKind (u0 : S1) (p1 : Int32) (p2 : Int32) : cg_O (f_X4_isOfKind u0 p1 p2) (fun z => True) := by
  unfold f_X4_isOfKind
  try dsimp only [jn]
  refine cg_bn (t_X4_isThing u0 p1 ) (fun z_1 hz_1 => ?_)
  refine cg_eq2 (Eq.refl ((z_1) : Int32).toInt) (by decide : (0 : Int32).toInt = 0) (fun h_1 => ?_) (fun h_1 => ?_)
  · exact cg_some trivial
  · refine cg_chk (inb_e (Eq.refl (p1).toInt) (by omega) (by omega)) ?_
    refine cg_eq2 (Eq.refl ((u0 0 (p1).toNatClampNeg) : Int32).toInt) (Eq.refl ((p2) : Int32).toInt) (fun h_2 => ?_) (fun h_2 => ?_)
    · exact cg_some trivial
    · exact cg_some trivial
theorem t_X4_kindOf (u0 : S1) (p1 : Int32) : cg_O (f_X4_kindOf u0 p1) (fun z => True) := by
  unfold f_X4_kindOf
  try dsimp only [jn]
  refine cg_bn (t_X4_isInRange p1 ) (fun z_1 hz_1 => ?_)
  refine cg_eq2 (Eq.refl ((z_1) : Int32).toInt) (by decide : (0 : Int32).toInt = 0) (fun h_1 => ?_) (fun h_1 => ?_)
  · exact cg_some trivial
  · refine cg_chk (inb_e (Eq.refl (p1).toInt) (by omega) (by omega)) ?_
    exact cg_some trivial
theorem t_X4_ownerOf (u0 : S1) (p1 : Int32) : cg_O (f_X4_ownerOf u0 p1) (fun z => True) := by
  unfold f_X4_ownerOf
  try dsimp only [jn]
  refine cg_bn (t_X4_isInRange p1 ) (fun z_1 hz_1 => ?_)
  refine cg_eq2 (Eq.refl ((z_1) : Int32).toInt) (by decide : (0 : Int32).toInt = 0) (fun h_1 => ?_) (fun h_1 => ?_)
  · exact cg_some trivial
  · refine cg_chk (inb_e (Eq.refl (p1).toInt) (by omega) (by omega)) ?_
    exact cg_some trivial
theorem t_X4_setOwner (u0 : S1) (p1 : Int32) (p2 : Int32) (h0 : cg_S u0) : cg_O (f_X4_setOwner u0 p1 p2) (fun z => (cg_S z)) := by
  unfold f_X4_setOwner
  try dsimp only [jn]
  refine cg_bn (t_X4_isInRange p1 ) (fun z_1 hz_1 => ?_)
  refine cg_eq2 (Eq.refl ((z_1) : Int32).toInt) (by decide : (0 : Int32).toInt = 0) (fun h_1 => ?_) (fun h_1 => ?_)
  · exact cg_some (show (cg_S u0) from h0)
  · refine cg_chk (inb_e (Eq.refl (p1).toInt) (by omega) (by omega)) ?_
    refine cg_bv (fun u_4 eu_4 => ?_)
    have su_4 : cg_S u_4 := by rw [eu_4]; exact (sz_st h0 (by decide))
    exact cg_some (show (cg_S u_4) from su_4)
theorem t_X4_rightsOf (u0 : S1) (p1 : Int32) : cg_O (f_X4_rightsOf u0 p1) (fun z => True) := by
  unfold f_X4_rightsOf
  try dsimp only [jn]
  refine cg_bn (t_X4_isInRange p1 ) (fun z_1 hz_1 => ?_)
  refine cg_eq2 (Eq.refl ((z_1) : Int32).toInt) (by decide : (0 : Int32).toInt = 0) (fun h_1 => ?_) (fun h_1 => ?_)
  · exact cg_some trivial
  · refine cg_chk (inb_e (Eq.refl (p1).toInt) (by omega) (by omega)) ?_
    exact cg_some trivial
theorem t_X4_setRights (u0 : S1) (p1 : Int32) (p2 : Int32) (h0 : cg_S u0) : cg_O (f_X4_setRights u0 p1 p2) (fun z => (cg_S z)) := by
  unfold f_X4_setRights
  try dsimp only [jn]
  refine cg_bn (t_X4_isInRange p1 ) (fun z_1 hz_1 => ?_)
  refine cg_eq2 (Eq.refl ((z_1) : Int32).toInt) (by decide : (0 : Int32).toInt = 0) (fun h_1 => ?_) (fun h_1 => ?_)
  · exact cg_some (show (cg_S u0) from h0)
  · refine cg_chk (inb_e (Eq.refl (p1).toInt) (by omega) (by omega)) ?_
    refine cg_bv (fun u_4 eu_4 => ?_)
    have su_4 : cg_S u_4 := by rw [eu_4]; exact (sz_st h0 (by decide))
    exact cg_some (show (cg_S u_4) from su_4)
theorem t_X4_countOf (u0 : S1) (p1 : Int32) : cg_O (f_X4_countOf u0 p1) (fun z => True) := by
  unfold f_X4_countOf
  try dsimp only [jn]
  refine cg_bn (t_X4_isInRange p1 ) (fun z_1 hz_1 => ?_)
  refine cg_eq2 (Eq.refl ((z_1) : Int32).toInt) (by decide : (0 : Int32).toInt = 0) (fun h_1 => ?_) (fun h_1 => ?_)
  · exact cg_some trivial
  · refine cg_chk (inb_e (Eq.refl (p1).toInt) (by omega) (by omega)) ?_
    exact cg_some trivial
theorem t_X4_setCount (u0 : S1) (p1 : Int32) (p2 : Int32) (h0 : cg_S u0) : cg_O (f_X4_setCount u0 p1 p2) (fun z => (cg_S z)) := by
  unfold f_X4_setCount
  try dsimp only [jn]
  refine cg_bn (t_X4_isInRange p1 ) (fun z_1 hz_1 => ?_)
  refine cg_eq2 (Eq.refl ((z_1) : Int32).toInt) (by decide : (0 : Int32).toInt = 0) (fun h_1 => ?_) (fun h_1 => ?_)
  · exact cg_some (show (cg_S u0) from h0)
  · refine cg_chk (inb_e (Eq.refl (p1).toInt) (by omega) (by omega)) ?_
    refine cg_bv (fun u_4 eu_4 => ?_)
    have su_4 : cg_S u_4 := by rw [eu_4]; exact (sz_st h0 (by decide))
    exact cg_some (show (cg_S u_4) from su_4)
theorem t_X4_pathOf (u0 : S1) (p1 : Int32) : cg_O (f_X4_pathOf u0 p1) (fun z => True) := by
  unfold f_X4_pathOf
  try dsimp only [jn]
  refine cg_bn (t_X4_isInRange p1 ) (fun z_1 hz_1 => ?_)
  refine cg_eq2 (Eq.refl ((z_1) : Int32).toInt) (by decide : (0 : Int32).toInt = 0) (fun h_1 => ?_) (fun h_1 => ?_)
  · exact cg_some trivial
  · refine cg_chk (inb_e (Eq.refl (p1).toInt) (by omega) (by omega)) ?_
    exact cg_some trivial
theorem t_X4_setPath (u0 : S1) (p1 : Int32) (p2 : Int32) (h0 : cg_S u0) : cg_O (f_X4_setPath u0 p1 p2) (fun z => (cg_S z)) := by
  unfold f_X4_setPath
  try dsimp only [jn]
  refine cg_bn (t_X4_isInRange p1 ) (fun z_1 hz_1 => ?_)
  refine cg_eq2 (Eq.refl ((z_1) : Int32).toInt) (by decide : (0 : Int32).toInt = 0) (fun h_1 => ?_) (fun h_1 => ?_)
  · exact cg_some (show (cg_S u0) from h0)
  · refine cg_chk (inb_e (Eq.refl (p1).toInt) (by omega) (by omega)) ?_
    refine cg_bv (fun u_4 eu_4 => ?_)
    have su_4 : cg_S u_4 := by rw [eu_4]; exact (sz_st h0 (by decide))
    exact cg_some (show (cg_S u_4) from su_4)
theorem t_X4_lowestNotHad (u0 : S1) : cg_O (f_X4_lowestNotHad u0) (fun z => True) := by
  unfold f_X4_lowestNotHad
  try dsimp only [jn]
  refine cg_q1 (cg_l1 (fun dr2_1 y2_1_1 => 0 ≤ y2_1_1.toInt ∧ 32 - y2_1_1.toInt ≤ (dr2_1 : Int)) (fun dr2_1 r2_1 ihr2_1 y2_1_1 hh => ?_) 32 4096 (by decide) 0 ⟨(by decide), (by decide)⟩)
  obtain ⟨i_1, i_2⟩ := hh
  refine cg_le2 (by decide : (32 : Int32).toInt = 32) (Eq.refl ((y2_1_1) : Int32).toInt) (fun h_3 => ?_) (fun h_3 => ?_)
  · exact cg_some trivial
  · refine cg_chk (inb_e (Eq.refl (y2_1_1).toInt) (by omega) (by omega)) ?_
    refine cg_eq2 (Eq.refl ((u0 0 (y2_1_1).toNatClampNeg) : Int32).toInt) (by decide : (-1 : Int32).toInt = -1) (fun h_4 => ?_) (fun h_4 => ?_)
    · exact cg_some trivial
    · have e_5 := (add_e (Eq.refl (y2_1_1).toInt) (by decide : (1 : Int32).toInt = 1) (by omega) (by omega))
      exact ihr2_1 (dr2_1 - 1) (y2_1_1 + 1) (by omega) ⟨(by omega), (by omega)⟩
theorem t_X4_makeThing (u0 : S1) (p1 : Int32) (p2 : Int32) (p3 : Int32) (p4 : Int32) (h0 : cg_S u0) : cg_O (f_X4_makeThing u0 p1 p2 p3 p4) (fun z => (cg_S z)) := by
  unfold f_X4_makeThing
  try dsimp only [jn]
  refine cg_bn (t_X4_isInRange p1 ) (fun z_1 hz_1 => ?_)
  refine cg_eq2 (Eq.refl ((z_1) : Int32).toInt) (by decide : (0 : Int32).toInt = 0) (fun h_1 => ?_) (fun h_1 => ?_)
  · exact cg_some (show (cg_S u0) from h0)
  · refine cg_chk (inb_e (Eq.refl (p1).toInt) (by omega) (by omega)) ?_
    refine cg_bv (fun u_4 eu_4 => ?_)
    have su_4 : cg_S u_4 := by rw [eu_4]; exact (sz_st h0 (by decide))
    refine cg_chk (inb_e (Eq.refl (p1).toInt) (by omega) (by omega)) ?_
    refine cg_bv (fun u_5 eu_5 => ?_)
    have su_5 : cg_S u_5 := by rw [eu_5]; exact (sz_st su_4 (by decide))
    refine cg_chk (inb_e (Eq.refl (p1).toInt) (by omega) (by omega)) ?_
    refine cg_bv (fun u_6 eu_6 => ?_)
    have su_6 : cg_S u_6 := by rw [eu_6]; exact (sz_st su_5 (by decide))
    refine cg_chk (inb_e (Eq.refl (p1).toInt) (by omega) (by omega)) ?_
    refine cg_bv (fun u_7 eu_7 => ?_)
    have su_7 : cg_S u_7 := by rw [eu_7]; exact (sz_st su_6 (by decide))
    exact cg_some (show (cg_S u_7) from su_7)
theorem t_X4_isPageOf (p0 : Int32) (p1 : Int32) : cg_O (f_X4_isPageOf p0 p1) (fun z => (z.toInt = 0 ∨ (0 ≤ p0.toInt ∧ p0.toInt < 32 ∧ 0 ≤ p1.toInt ∧ p1.toInt < 16))) := by
  unfold f_X4_isPageOf
  try dsimp only [jn]
  refine cg_bn (t_X4_isInRange p0 ) (fun z_1 hz_1 => ?_)
  refine cg_eq2 (Eq.refl ((z_1) : Int32).toInt) (by decide : (0 : Int32).toInt = 0) (fun h_1 => ?_) (fun h_1 => ?_)
  · exact cg_some (show ((vp_nar .boolean 0).toInt = 0 ∨ (0 ≤ p0.toInt ∧ p0.toInt < 32 ∧ 0 ≤ p1.toInt ∧ p1.toInt < 16)) from (by first | omega | decide | exact Or.inl (by decide) | exact Or.inr (by omega)))
  · refine cg_lt2 (Eq.refl ((p1) : Int32).toInt) (by decide : (0 : Int32).toInt = 0) (fun h_2 => ?_) (fun h_2 => ?_)
    · exact cg_some (show ((vp_nar .boolean 0).toInt = 0 ∨ (0 ≤ p0.toInt ∧ p0.toInt < 32 ∧ 0 ≤ p1.toInt ∧ p1.toInt < 16)) from (by first | omega | decide | exact Or.inl (by decide) | exact Or.inr (by omega)))
    · refine cg_le2 (by decide : (16 : Int32).toInt = 16) (Eq.refl ((p1) : Int32).toInt) (fun h_3 => ?_) (fun h_3 => ?_)
      · exact cg_some (show ((vp_nar .boolean 0).toInt = 0 ∨ (0 ≤ p0.toInt ∧ p0.toInt < 32 ∧ 0 ≤ p1.toInt ∧ p1.toInt < 16)) from (by first | omega | decide | exact Or.inl (by decide) | exact Or.inr (by omega)))
      · exact cg_some (show ((vp_nar .boolean 1).toInt = 0 ∨ (0 ≤ p0.toInt ∧ p0.toInt < 32 ∧ 0 ≤ p1.toInt ∧ p1.toInt < 16)) from (by first | omega | decide | exact Or.inl (by decide) | exact Or.inr (by omega)))
theorem t_X4_countBlock (u0 : S1) (p1 : Int32) (p2 : Int32) (p3 : Int32) (h0 : cg_S u0) : cg_O (f_X4_countBlock u0 p1 p2 p3) (fun z => (cg_S z)) := by
  unfold f_X4_countBlock
  try dsimp only [jn]
  refine cg_lt2 (Eq.refl ((p2) : Int32).toInt) (by decide : (0 : Int32).toInt = 0) (fun h_1 => ?_) (fun h_1 => ?_)
  · exact cg_some (show (cg_S u0) from h0)
  · refine cg_le2 (by decide : (64 : Int32).toInt = 64) (Eq.refl ((p2) : Int32).toInt) (fun h_2 => ?_) (fun h_2 => ?_)
    · exact cg_some (show (cg_S u0) from h0)
    · refine cg_bn (t_X4_isInRange p1 ) (fun z_4 hz_4 => ?_)
      refine cg_eq2 (Eq.refl ((z_4) : Int32).toInt) (by decide : (0 : Int32).toInt = 0) (fun h_3 => ?_) (fun h_3 => ?_)
      · exact cg_some (show (cg_S u0) from h0)
      · refine cg_chk (inb_e (Eq.refl (p2).toInt) (by omega) (by omega)) ?_
        refine cg_chk (inb_e (Eq.refl (p2).toInt) (by omega) (by omega)) ?_
        refine cg_bv (fun u_6 eu_6 => ?_)
        have su_6 : cg_S u_6 := by rw [eu_6]; exact (sz_st h0 (by decide))
        refine cg_chk (inb_e (Eq.refl (p1).toInt) (by omega) (by omega)) ?_
        refine cg_chk (inb_e (Eq.refl (p1).toInt) (by omega) (by omega)) ?_
        refine cg_bv (fun u_7 eu_7 => ?_)
        have su_7 : cg_S u_7 := by rw [eu_7]; exact (sz_st su_6 (by decide))
        exact cg_some (show (cg_S u_7) from su_7)
theorem t_X4_setPage (u0 : S1) (p1 : Int32) (p2 : Int32) (p3 : Int32) (p4 : Int32) (h0 : cg_S u0) : cg_O (f_X4_setPage u0 p1 p2 p3 p4) (fun z => (cg_S z)) := by
  unfold f_X4_setPage
  try dsimp only [jn]
  refine cg_bn (t_X4_isPageOf p1 p2 ) (fun z_1 hz_1 => ?_)
  refine cg_eq2 (Eq.refl ((z_1) : Int32).toInt) (by decide : (0 : Int32).toInt = 0) (fun h_1 => ?_) (fun h_1 => ?_)
  · exact cg_some (show (cg_S u0) from h0)
  · refine cg_chk (inb_e (add_e (mul_e (Eq.refl (p1).toInt) (by decide : (16 : Int32).toInt = 16) (by omega) (by omega)) (Eq.refl (p2).toInt) (by omega) (by omega)) (by omega) (by omega)) ?_
    refine cg_bn (t_X4_countBlock u0 p1 (u0 9 ((p1 * 16) + p2).toNatClampNeg) (-1) h0) (fun z_4 hz_4 => ?_)
    refine cg_chk (inb_e (add_e (mul_e (Eq.refl (p1).toInt) (by decide : (16 : Int32).toInt = 16) (by omega) (by omega)) (Eq.refl (p2).toInt) (by omega) (by omega)) (by omega) (by omega)) ?_
    refine cg_bv (fun u_5 eu_5 => ?_)
    have su_5 : cg_S u_5 := by rw [eu_5]; exact (sz_st hz_4 (by decide))
    refine cg_chk (inb_e (add_e (mul_e (Eq.refl (p1).toInt) (by decide : (16 : Int32).toInt = 16) (by omega) (by omega)) (Eq.refl (p2).toInt) (by omega) (by omega)) (by omega) (by omega)) ?_
    refine cg_bv (fun u_6 eu_6 => ?_)
    have su_6 : cg_S u_6 := by rw [eu_6]; exact (sz_st su_5 (by decide))
    refine cg_bn (t_X4_countBlock u_6 p1 p4 1 su_6) (fun z_7 hz_7 => ?_)
    exact cg_some (show (cg_S z_7) from hz_7)
theorem t_X4_clearThing (u0 : S1) (p1 : Int32) (h0 : cg_S u0) : cg_O (f_X4_clearThing u0 p1) (fun z => (cg_S z)) := by
  unfold f_X4_clearThing
  try dsimp only [jn]
  refine cg_bn (t_X4_isInRange p1 ) (fun z_1 hz_1 => ?_)
  refine cg_eq2 (Eq.refl ((z_1) : Int32).toInt) (by decide : (0 : Int32).toInt = 0) (fun h_1 => ?_) (fun h_1 => ?_)
  · exact cg_some (show (cg_S u0) from h0)
  · refine cg_q2 (cg_l2 (fun dr9_4 y9_4_2 u9_4_0 => cg_S u9_4_0 ∧ 0 ≤ y9_4_2.toInt ∧ 16 - y9_4_2.toInt ≤ (dr9_4 : Int)) (fun dr9_4 r9_4 ihr9_4 y9_4_2 u9_4_0 hh => ?_) 16 4096 (by decide) 0 u0 ⟨h0, (by decide), (by decide)⟩)
    obtain ⟨su9_4_0, i_2, i_3⟩ := hh
    refine cg_le2 (by decide : (16 : Int32).toInt = 16) (Eq.refl ((y9_4_2) : Int32).toInt) (fun h_4 => ?_) (fun h_4 => ?_)
    · refine cg_chk (inb_e (Eq.refl (p1).toInt) (by omega) (by omega)) ?_
      refine cg_bv (fun u_6 eu_6 => ?_)
      have su_6 : cg_S u_6 := by rw [eu_6]; exact (sz_st su9_4_0 (by decide))
      refine cg_chk (inb_e (Eq.refl (p1).toInt) (by omega) (by omega)) ?_
      refine cg_bv (fun u_7 eu_7 => ?_)
      have su_7 : cg_S u_7 := by rw [eu_7]; exact (sz_st su_6 (by decide))
      refine cg_chk (inb_e (Eq.refl (p1).toInt) (by omega) (by omega)) ?_
      refine cg_bv (fun u_8 eu_8 => ?_)
      have su_8 : cg_S u_8 := by rw [eu_8]; exact (sz_st5 su_7 (by decide : (0 : Int32).toInt = 0) (by omega) (by omega))
      exact cg_some (show (cg_S u_8) from su_8)
    · refine cg_bn (t_X4_setPage u9_4_0 p1 y9_4_2 0 (-1) su9_4_0) (fun z_9 hz_9 => ?_)
      have e_5 := (add_e (Eq.refl (y9_4_2).toInt) (by decide : (1 : Int32).toInt = 1) (by omega) (by omega))
      exact ihr9_4 (dr9_4 - 1) (y9_4_2 + 1) z_9 (by omega) ⟨hz_9, (by omega), (by omega)⟩
theorem t_X4_sizeOf (u0 : S1) (p1 : Int32) (h0 : cg_S u0) : cg_O (f_X4_sizeOf u0 p1) (fun z => (0 ≤ z.toInt ∧ z.toInt ≤ 8)) := by
  unfold f_X4_sizeOf
  try dsimp only [jn]
  refine cg_bn (t_X4_isInRange p1 ) (fun z_1 hz_1 => ?_)
  refine cg_eq2 (Eq.refl ((z_1) : Int32).toInt) (by decide : (0 : Int32).toInt = 0) (fun h_1 => ?_) (fun h_1 => ?_)
  · exact cg_some (show (0 ≤ (0 : Int32).toInt ∧ (0 : Int32).toInt ≤ 8) from (by first | omega | decide | exact Or.inl (by decide) | exact Or.inr (by omega)))
  · refine cg_chk (inb_e (Eq.refl (p1).toInt) (by omega) (by omega)) ?_
    have b_2 := h0 (p1).toNatClampNeg
    exact cg_some (show (0 ≤ (u0 5 (p1).toNatClampNeg).toInt ∧ (u0 5 (p1).toNatClampNeg).toInt ≤ 8) from (by first | omega | decide | exact Or.inl (by decide) | exact Or.inr (by omega)))
theorem t_X4_isEntry (u0 : S1) (p1 : Int32) (p2 : Int32) : cg_O (f_X4_isEntry u0 p1 p2) (fun z => (z.toInt = 0 ∨ (0 ≤ p1.toInt ∧ p1.toInt < 32 ∧ 0 ≤ p2.toInt ∧ p2.toInt < 8 ∧ p2.toInt < (u0 5 (p1).toNatClampNeg).toInt))) := by
  unfold f_X4_isEntry
  try dsimp only [jn]
  refine cg_lt2 (Eq.refl ((p1) : Int32).toInt) (by decide : (0 : Int32).toInt = 0) (fun h_1 => ?_) (fun h_1 => ?_)
  · exact cg_some (show ((vp_nar .boolean 0).toInt = 0 ∨ (0 ≤ p1.toInt ∧ p1.toInt < 32 ∧ 0 ≤ p2.toInt ∧ p2.toInt < 8 ∧ p2.toInt < (u0 5 (p1).toNatClampNeg).toInt)) from (by first | omega | decide | exact Or.inl (by decide) | exact Or.inr (by omega)))
  · refine cg_le2 (by decide : (32 : Int32).toInt = 32) (Eq.refl ((p1) : Int32).toInt) (fun h_2 => ?_) (fun h_2 => ?_)
    · exact cg_some (show ((vp_nar .boolean 0).toInt = 0 ∨ (0 ≤ p1.toInt ∧ p1.toInt < 32 ∧ 0 ≤ p2.toInt ∧ p2.toInt < 8 ∧ p2.toInt < (u0 5 (p1).toNatClampNeg).toInt)) from (by first | omega | decide | exact Or.inl (by decide) | exact Or.inr (by omega)))
    · refine cg_lt2 (Eq.refl ((p2) : Int32).toInt) (by decide : (0 : Int32).toInt = 0) (fun h_3 => ?_) (fun h_3 => ?_)
      · exact cg_some (show ((vp_nar .boolean 0).toInt = 0 ∨ (0 ≤ p1.toInt ∧ p1.toInt < 32 ∧ 0 ≤ p2.toInt ∧ p2.toInt < 8 ∧ p2.toInt < (u0 5 (p1).toNatClampNeg).toInt)) from (by first | omega | decide | exact Or.inl (by decide) | exact Or.inr (by omega)))
      · refine cg_le2 (by decide : (8 : Int32).toInt = 8) (Eq.refl ((p2) : Int32).toInt) (fun h_4 => ?_) (fun h_4 => ?_)
        · exact cg_some (show ((vp_nar .boolean 0).toInt = 0 ∨ (0 ≤ p1.toInt ∧ p1.toInt < 32 ∧ 0 ≤ p2.toInt ∧ p2.toInt < 8 ∧ p2.toInt < (u0 5 (p1).toNatClampNeg).toInt)) from (by first | omega | decide | exact Or.inl (by decide) | exact Or.inr (by omega)))
        · refine cg_chk (inb_e (Eq.refl (p1).toInt) (by omega) (by omega)) ?_
          refine cg_le2 (Eq.refl ((u0 5 (p1).toNatClampNeg) : Int32).toInt) (Eq.refl ((p2) : Int32).toInt) (fun h_5 => ?_) (fun h_5 => ?_)
          · exact cg_some (show ((vp_nar .boolean 0).toInt = 0 ∨ (0 ≤ p1.toInt ∧ p1.toInt < 32 ∧ 0 ≤ p2.toInt ∧ p2.toInt < 8 ∧ p2.toInt < (u0 5 (p1).toNatClampNeg).toInt)) from (by first | omega | decide | exact Or.inl (by decide) | exact Or.inr (by omega)))
          · exact cg_some (show ((vp_nar .boolean 1).toInt = 0 ∨ (0 ≤ p1.toInt ∧ p1.toInt < 32 ∧ 0 ≤ p2.toInt ∧ p2.toInt < 8 ∧ p2.toInt < (u0 5 (p1).toNatClampNeg).toInt)) from (by first | omega | decide | exact Or.inl (by decide) | exact Or.inr (by omega)))
theorem t_X4_entryName (u0 : S1) (p1 : Int32) (p2 : Int32) : cg_O (f_X4_entryName u0 p1 p2) (fun z => True) := by
  unfold f_X4_entryName
  try dsimp only [jn]
  refine cg_bn (t_X4_isEntry u0 p1 p2 ) (fun z_1 hz_1 => ?_)
  refine cg_eq2 (Eq.refl ((z_1) : Int32).toInt) (by decide : (0 : Int32).toInt = 0) (fun h_1 => ?_) (fun h_1 => ?_)
  · exact cg_some trivial
  · refine cg_chk (inb_e (add_e (mul_e (Eq.refl (p1).toInt) (by decide : (8 : Int32).toInt = 8) (by omega) (by omega)) (Eq.refl (p2).toInt) (by omega) (by omega)) (by omega) (by omega)) ?_
    exact cg_some trivial
theorem t_X4_entryThing (u0 : S1) (p1 : Int32) (p2 : Int32) : cg_O (f_X4_entryThing u0 p1 p2) (fun z => True) := by
  unfold f_X4_entryThing
  try dsimp only [jn]
  refine cg_bn (t_X4_isEntry u0 p1 p2 ) (fun z_1 hz_1 => ?_)
  refine cg_eq2 (Eq.refl ((z_1) : Int32).toInt) (by decide : (0 : Int32).toInt = 0) (fun h_1 => ?_) (fun h_1 => ?_)
  · exact cg_some trivial
  · refine cg_chk (inb_e (add_e (mul_e (Eq.refl (p1).toInt) (by decide : (8 : Int32).toInt = 8) (by omega) (by omega)) (Eq.refl (p2).toInt) (by omega) (by omega)) (by omega) (by omega)) ?_
    exact cg_some trivial
theorem t_X4_setEntry (u0 : S1) (p1 : Int32) (p2 : Int32) (p3 : Int32) (p4 : Int32) (h0 : cg_S u0) : cg_O (f_X4_setEntry u0 p1 p2 p3 p4) (fun z => (cg_S z) ∧ (z 5 = u0 5)) := by
  unfold f_X4_setEntry
  try dsimp only [jn]
  refine cg_bn (t_X4_isEntry u0 p1 p2 ) (fun z_1 hz_1 => ?_)
  refine cg_eq2 (Eq.refl ((z_1) : Int32).toInt) (by decide : (0 : Int32).toInt = 0) (fun h_1 => ?_) (fun h_1 => ?_)
  · exact cg_some (show (cg_S u0) ∧ (u0 5 = u0 5) from ⟨h0, (by first | omega | decide | exact Or.inl (by decide) | exact Or.inr (by omega) | rfl | (rw [eu_5, eu_4]; rfl))⟩)
  · refine cg_chk (inb_e (add_e (mul_e (Eq.refl (p1).toInt) (by decide : (8 : Int32).toInt = 8) (by omega) (by omega)) (Eq.refl (p2).toInt) (by omega) (by omega)) (by omega) (by omega)) ?_
    refine cg_bv (fun u_4 eu_4 => ?_)
    have su_4 : cg_S u_4 := by rw [eu_4]; exact (sz_st h0 (by decide))
    refine cg_chk (inb_e (add_e (mul_e (Eq.refl (p1).toInt) (by decide : (8 : Int32).toInt = 8) (by omega) (by omega)) (Eq.refl (p2).toInt) (by omega) (by omega)) (by omega) (by omega)) ?_
    refine cg_bv (fun u_5 eu_5 => ?_)
    have su_5 : cg_S u_5 := by rw [eu_5]; exact (sz_st su_4 (by decide))
    exact cg_some (show (cg_S u_5) ∧ (u_5 5 = u0 5) from ⟨su_5, (by first | omega | decide | exact Or.inl (by decide) | exact Or.inr (by omega) | rfl | (rw [eu_5, eu_4]; rfl))⟩)
theorem t_X4_placeOf (u0 : S1) (p1 : Int32) (p2 : Int32) : cg_O (f_X4_placeOf u0 p1 p2) (fun z => (z.toInt = -1 ∨ (0 ≤ z.toInt ∧ z.toInt < 8 ∧ z.toInt < (u0 5 (p1).toNatClampNeg).toInt))) := by
  unfold f_X4_placeOf
  try dsimp only [jn]
  refine cg_q1 (cg_l1 (fun dr2_1 y2_1_3 => 0 ≤ y2_1_3.toInt ∧ 8 - y2_1_3.toInt ≤ (dr2_1 : Int)) (fun dr2_1 r2_1 ihr2_1 y2_1_3 hh => ?_) 8 4096 (by decide) 0 ⟨(by decide), (by decide)⟩)
  obtain ⟨i_1, i_2⟩ := hh
  refine cg_le2 (by decide : (8 : Int32).toInt = 8) (Eq.refl ((y2_1_3) : Int32).toInt) (fun h_3 => ?_) (fun h_3 => ?_)
  · exact cg_some (show ((-1 : Int32).toInt = -1 ∨ (0 ≤ (-1 : Int32).toInt ∧ (-1 : Int32).toInt < 8 ∧ (-1 : Int32).toInt < (u0 5 (p1).toNatClampNeg).toInt)) from (by first | omega | decide | exact Or.inl (by decide) | exact Or.inr (by omega)))
  · refine cg_bn (t_X4_isEntry u0 p1 y2_1_3 ) (fun z_4 hz_4 => ?_)
    refine cg_eq2 (Eq.refl ((z_4) : Int32).toInt) (by decide : (0 : Int32).toInt = 0) (fun h_4 => ?_) (fun h_4 => ?_)
    · exact cg_some (show ((-1 : Int32).toInt = -1 ∨ (0 ≤ (-1 : Int32).toInt ∧ (-1 : Int32).toInt < 8 ∧ (-1 : Int32).toInt < (u0 5 (p1).toNatClampNeg).toInt)) from (by first | omega | decide | exact Or.inl (by decide) | exact Or.inr (by omega)))
    · refine cg_chk (inb_e (add_e (mul_e (Eq.refl (p1).toInt) (by decide : (8 : Int32).toInt = 8) (by omega) (by omega)) (Eq.refl (y2_1_3).toInt) (by omega) (by omega)) (by omega) (by omega)) ?_
      refine cg_eq2 (Eq.refl ((u0 6 ((p1 * 8) + y2_1_3).toNatClampNeg) : Int32).toInt) (Eq.refl ((p2) : Int32).toInt) (fun h_5 => ?_) (fun h_5 => ?_)
      · exact cg_some (show (y2_1_3.toInt = -1 ∨ (0 ≤ y2_1_3.toInt ∧ y2_1_3.toInt < 8 ∧ y2_1_3.toInt < (u0 5 (p1).toNatClampNeg).toInt)) from (by first | omega | decide | exact Or.inl (by decide) | exact Or.inr (by omega)))
      · have e_6 := (add_e (Eq.refl (y2_1_3).toInt) (by decide : (1 : Int32).toInt = 1) (by omega) (by omega))
        exact ihr2_1 (dr2_1 - 1) (y2_1_3 + 1) (by omega) ⟨(by omega), (by omega)⟩
theorem t_X4_thingNamed (u0 : S1) (p1 : Int32) (p2 : Int32) : cg_O (f_X4_thingNamed u0 p1 p2) (fun z => True) := by
  unfold f_X4_thingNamed
  try dsimp only [jn]
  refine cg_bn (t_X4_placeOf u0 p1 p2 ) (fun z_1 hz_1 => ?_)
  refine cg_bn (t_X4_entryThing u0 p1 z_1 ) (fun z_2 hz_2 => ?_)
  exact cg_some trivial
theorem t_X4_putEntry (u0 : S1) (p1 : Int32) (p2 : Int32) (p3 : Int32) (h0 : cg_S u0) : cg_O (f_X4_putEntry u0 p1 p2 p3) (fun z => (cg_S z)) := by
  unfold f_X4_putEntry
  try dsimp only [jn]
  refine cg_bn (t_X4_sizeOf u0 p1 h0) (fun z_1 hz_1 => ?_)
  refine cg_bn (t_X4_isInRange p1 ) (fun z_2 hz_2 => ?_)
  refine cg_eq2 (Eq.refl ((z_2) : Int32).toInt) (by decide : (0 : Int32).toInt = 0) (fun h_1 => ?_) (fun h_1 => ?_)
  · exact cg_some (show (cg_S u0) from h0)
  · refine cg_lt2 (Eq.refl ((z_1) : Int32).toInt) (by decide : (8 : Int32).toInt = 8) (fun h_2 => ?_) (fun h_2 => ?_)
    · refine cg_chk (inb_e (Eq.refl (p1).toInt) (by omega) (by omega)) ?_
      refine cg_bv (fun u_6 eu_6 => ?_)
      have su_6 : cg_S u_6 := by rw [eu_6]; exact (sz_st5 h0 (add_e (Eq.refl (z_1).toInt) (by decide : (1 : Int32).toInt = 1) (by omega) (by omega)) (by omega) (by omega))
      refine cg_q2 (cg_l2 (fun dr32_7 y32_7_4 u32_7_0 => cg_S u32_7_0 ∧ y32_7_4.toInt ≤ 8 ∧ y32_7_4.toInt ≤ (dr32_7 : Int)) (fun dr32_7 r32_7 ihr32_7 y32_7_4 u32_7_0 hh => ?_) 8 4096 (by decide) z_1 u_6 ⟨su_6, (by first | omega | decide), (by first | omega | decide)⟩)
      obtain ⟨su32_7_0, i_3, i_4⟩ := hh
      refine cg_le2 (Eq.refl ((y32_7_4) : Int32).toInt) (by decide : (0 : Int32).toInt = 0) (fun h_5 => ?_) (fun h_5 => ?_)
      · refine cg_bn (t_X4_setEntry u32_7_0 p1 y32_7_4 p2 p3 su32_7_0) (fun z_9 hz_9 => ?_)
        exact cg_some (show (cg_S z_9) from hz_9.1)
      · refine cg_bn (t_X4_entryName u32_7_0 p1 (y32_7_4 - 1) ) (fun z_11 hz_11 => ?_)
        refine cg_le2 (Eq.refl ((z_11) : Int32).toInt) (Eq.refl ((p2) : Int32).toInt) (fun h_6 => ?_) (fun h_6 => ?_)
        · refine cg_bn (t_X4_setEntry u32_7_0 p1 y32_7_4 p2 p3 su32_7_0) (fun z_9 hz_9 => ?_)
          exact cg_some (show (cg_S z_9) from hz_9.1)
        · refine cg_bn (t_X4_entryName u32_7_0 p1 (y32_7_4 - 1) ) (fun z_13 hz_13 => ?_)
          refine cg_bn (t_X4_entryThing u32_7_0 p1 (y32_7_4 - 1) ) (fun z_14 hz_14 => ?_)
          refine cg_bn (t_X4_setEntry u32_7_0 p1 y32_7_4 z_13 z_14 su32_7_0) (fun z_15 hz_15 => ?_)
          have e_7 := (add_e (Eq.refl (y32_7_4).toInt) (by decide : (-1 : Int32).toInt = -1) (by omega) (by omega))
          exact ihr32_7 (dr32_7 - 1) (y32_7_4 + (-1)) z_15 (by omega) ⟨hz_15.1, (by omega), (by omega)⟩
    · exact cg_some (show (cg_S u0) from h0)
theorem t_X4_takeEntry (u0 : S1) (p1 p2 : Int32) (h0 : cg_S u0) : cg_O (f_X4_takeEntry u0 p1 p2) (fun z => cg_S z) := by
  unfold f_X4_takeEntry
  dsimp only [jn]
  refine cg_bn (t_X4_placeOf u0 p1 p2) (fun z_1 h1 => ?_)
  refine cg_eq2 (Eq.refl _) (by decide : (-1 : Int32).toInt = -1) (fun _ => cg_some h0) (fun h2 => ?_)
  refine cg_bn (t_X4_isInRange p1) (fun z_4 h4 => ?_)
  refine cg_eq2 (Eq.refl _) (by decide : (0 : Int32).toInt = 0) (fun _ => cg_some h0) (fun h5 => ?_)
  have e1 : (z_1 + 1).toInt = z_1.toInt + 1 := add_e (Eq.refl _) (by decide) (by omega) (by omega)
  have hs := h0 p1.toNatClampNeg
  refine cg_q2 (cg_l2 (fun d y u => 0 ≤ y.toInt ∧ 9 - y.toInt ≤ (d : Int) ∧ cg_S u ∧ u 5 = u0 5) (fun d r ih y u hh => ?_) 9 4096 (by decide) (z_1 + 1) u0 ⟨by omega, by omega, h0, rfl⟩)
  obtain ⟨i1, i2, i3, i4⟩ := hh
  refine cg_chk (inb_e (Eq.refl _) (by omega) (by omega)) ?_
  rw [i4]
  refine cg_le2 (Eq.refl _) (Eq.refl _) (fun h => ?_) (fun h => ?_)
  · refine cg_chk (inb_e (Eq.refl _) (by omega) (by omega)) ?_
    refine cg_chk (inb_e (Eq.refl _) (by omega) (by omega)) ?_
    refine cg_bv (fun u8 e8 => cg_some ?_)
    rw [e8]
    exact sz_st5 i3 (sub_e (Eq.refl _) (by decide : (1 : Int32).toInt = 1) (by omega) (by omega)) (by omega) (by omega)
  · refine cg_bn (t_X4_entryName u p1 y) (fun z9 _ => ?_)
    refine cg_bn (t_X4_entryThing u p1 y) (fun z10 _ => ?_)
    refine cg_bn (t_X4_setEntry u p1 (y - 1) z9 z10 i3) (fun z11 h11 => ?_)
    have ey : (y + 1).toInt = y.toInt + 1 := add_e (Eq.refl _) (by decide) (by omega) (by omega)
    exact ih (d - 1) (y + 1) z11 (by omega) ⟨by omega, by omega, h11.1, h11.2.trans i4⟩
theorem t_X4_countEntriesOf (u0 : S1) (p1 : Int32) (h0 : cg_S u0) : cg_O (f_X4_countEntriesOf u0 p1) (fun z => True) := by
  unfold f_X4_countEntriesOf
  try dsimp only [jn]
  refine cg_q2 (cg_l2 (fun dr4_1 y4_1_2 y4_1_3 => 0 ≤ y4_1_3.toInt ∧ 32 - y4_1_3.toInt ≤ (dr4_1 : Int)) (fun dr4_1 r4_1 ihr4_1 y4_1_2 y4_1_3 hh => ?_) 32 4096 (by decide) 0 0 ⟨(by decide), (by decide)⟩)
  obtain ⟨i_1, i_2⟩ := hh
  refine cg_le2 (by decide : (32 : Int32).toInt = 32) (Eq.refl ((y4_1_3) : Int32).toInt) (fun h_3 => ?_) (fun h_3 => ?_)
  · exact cg_some trivial
  · refine cg_q3 (cg_l3 (fun dr13_3 y13_3_2 y13_3_3 y13_3_4 => y4_1_3 = y13_3_3 ∧ 0 ≤ y13_3_4.toInt ∧ 8 - y13_3_4.toInt ≤ (dr13_3 : Int)) (fun dr13_3 r13_3 ihr13_3 y13_3_2 y13_3_3 y13_3_4 hh => ?_) 8 4096 (by decide) y4_1_2 y4_1_3 0 ⟨rfl, (by decide), (by decide)⟩)
    obtain ⟨rfl, i_4, i_5⟩ := hh
    refine cg_chk (inb_e (Eq.refl (y4_1_3).toInt) (by omega) (by omega)) ?_
    have b_7 := h0 (y4_1_3).toNatClampNeg
    refine cg_le2 (Eq.refl ((u0 5 (y4_1_3).toNatClampNeg) : Int32).toInt) (Eq.refl ((y13_3_4) : Int32).toInt) (fun h_6 => ?_) (fun h_6 => ?_)
    · have e_8 := (add_e (Eq.refl (y4_1_3).toInt) (by decide : (1 : Int32).toInt = 1) (by omega) (by omega))
      exact ihr4_1 (dr4_1 - 1) y13_3_2 (y4_1_3 + 1) (by omega) ⟨(by omega), (by omega)⟩
    · refine cg_bn (t_X4_entryThing u0 y4_1_3 y13_3_4 ) (fun z_5 hz_5 => ?_)
      refine cg_eq2 (Eq.refl ((z_5) : Int32).toInt) (Eq.refl ((p1) : Int32).toInt) (fun h_9 => ?_) (fun h_9 => ?_)
      · have e_10 := (add_e (Eq.refl (y13_3_4).toInt) (by decide : (1 : Int32).toInt = 1) (by omega) (by omega))
        exact ihr13_3 (dr13_3 - 1) (y13_3_2 + 1) y4_1_3 (y13_3_4 + 1) (by omega) ⟨rfl, (by omega), (by omega)⟩
      · have e_11 := (add_e (Eq.refl (y13_3_4).toInt) (by decide : (1 : Int32).toInt = 1) (by omega) (by omega))
        exact ihr13_3 (dr13_3 - 1) y13_3_2 y4_1_3 (y13_3_4 + 1) (by omega) ⟨rfl, (by omega), (by omega)⟩
theorem t_X4_folderWith (u0 : S1) (p1 : Int32) (h0 : cg_S u0) : cg_O (f_X4_folderWith u0 p1) (fun z => True) := by
  unfold f_X4_folderWith
  try dsimp only [jn]
  refine cg_q1 (cg_l1 (fun dr2_1 y2_1_2 => 0 ≤ y2_1_2.toInt ∧ 32 - y2_1_2.toInt ≤ (dr2_1 : Int)) (fun dr2_1 r2_1 ihr2_1 y2_1_2 hh => ?_) 32 4096 (by decide) 0 ⟨(by decide), (by decide)⟩)
  obtain ⟨i_1, i_2⟩ := hh
  refine cg_le2 (by decide : (32 : Int32).toInt = 32) (Eq.refl ((y2_1_2) : Int32).toInt) (fun h_3 => ?_) (fun h_3 => ?_)
  · exact cg_some trivial
  · refine cg_q2 (cg_l2 (fun dr10_3 y10_3_2 y10_3_3 => y2_1_2 = y10_3_2 ∧ 0 ≤ y10_3_3.toInt ∧ 8 - y10_3_3.toInt ≤ (dr10_3 : Int)) (fun dr10_3 r10_3 ihr10_3 y10_3_2 y10_3_3 hh => ?_) 8 4096 (by decide) y2_1_2 0 ⟨rfl, (by decide), (by decide)⟩)
    obtain ⟨rfl, i_4, i_5⟩ := hh
    refine cg_chk (inb_e (Eq.refl (y2_1_2).toInt) (by omega) (by omega)) ?_
    have b_7 := h0 (y2_1_2).toNatClampNeg
    refine cg_le2 (Eq.refl ((u0 5 (y2_1_2).toNatClampNeg) : Int32).toInt) (Eq.refl ((y10_3_3) : Int32).toInt) (fun h_6 => ?_) (fun h_6 => ?_)
    · have e_8 := (add_e (Eq.refl (y2_1_2).toInt) (by decide : (1 : Int32).toInt = 1) (by omega) (by omega))
      exact ihr2_1 (dr2_1 - 1) (y2_1_2 + 1) (by omega) ⟨(by omega), (by omega)⟩
    · refine cg_bn (t_X4_entryThing u0 y2_1_2 y10_3_3 ) (fun z_5 hz_5 => ?_)
      refine cg_eq2 (Eq.refl ((z_5) : Int32).toInt) (Eq.refl ((p1) : Int32).toInt) (fun h_9 => ?_) (fun h_9 => ?_)
      · exact cg_some trivial
      · have e_10 := (add_e (Eq.refl (y10_3_3).toInt) (by decide : (1 : Int32).toInt = 1) (by omega) (by omega))
        exact ihr10_3 (dr10_3 - 1) y2_1_2 (y10_3_3 + 1) (by omega) ⟨rfl, (by omega), (by omega)⟩
theorem t_X4_isAtOrBelow (u0 : S1) (p1 : Int32) (p2 : Int32) (h0 : cg_S u0) : cg_O (f_X4_isAtOrBelow u0 p1 p2) (fun z => True) := by
  unfold f_X4_isAtOrBelow
  try dsimp only [jn]
  refine cg_q2 (cg_l2 (fun dr5_1 y5_1_3 y5_1_4 => 0 ≤ y5_1_4.toInt ∧ 32 - y5_1_4.toInt ≤ (dr5_1 : Int)) (fun dr5_1 r5_1 ihr5_1 y5_1_3 y5_1_4 hh => ?_) 32 4096 (by decide) p1 0 ⟨(by decide), (by decide)⟩)
  obtain ⟨i_1, i_2⟩ := hh
  refine cg_le2 (by decide : (32 : Int32).toInt = 32) (Eq.refl ((y5_1_4) : Int32).toInt) (fun h_3 => ?_) (fun h_3 => ?_)
  · exact cg_some trivial
  · refine cg_eq2 (Eq.refl ((y5_1_3) : Int32).toInt) (by decide : (-1 : Int32).toInt = -1) (fun h_4 => ?_) (fun h_4 => ?_)
    · exact cg_some trivial
    · refine cg_eq2 (Eq.refl ((y5_1_3) : Int32).toInt) (Eq.refl ((p2) : Int32).toInt) (fun h_5 => ?_) (fun h_5 => ?_)
      · exact cg_some trivial
      · refine cg_bn (t_X4_folderWith u0 y5_1_3 h0) (fun z_6 hz_6 => ?_)
        have e_6 := (add_e (Eq.refl (y5_1_4).toInt) (by decide : (1 : Int32).toInt = 1) (by omega) (by omega))
        exact ihr5_1 (dr5_1 - 1) z_6 (y5_1_4 + 1) (by omega) ⟨(by omega), (by omega)⟩
theorem t_X4_pageKindOf (u0 : S1) (p1 : Int32) (p2 : Int32) : cg_O (f_X4_pageKindOf u0 p1 p2) (fun z => True) := by
  unfold f_X4_pageKindOf
  try dsimp only [jn]
  refine cg_bn (t_X4_isPageOf p1 p2 ) (fun z_1 hz_1 => ?_)
  refine cg_eq2 (Eq.refl ((z_1) : Int32).toInt) (by decide : (0 : Int32).toInt = 0) (fun h_1 => ?_) (fun h_1 => ?_)
  · exact cg_some trivial
  · refine cg_chk (inb_e (add_e (mul_e (Eq.refl (p1).toInt) (by decide : (16 : Int32).toInt = 16) (by omega) (by omega)) (Eq.refl (p2).toInt) (by omega) (by omega)) (by omega) (by omega)) ?_
    exact cg_some trivial
theorem t_X4_blockOf (u0 : S1) (p1 : Int32) (p2 : Int32) : cg_O (f_X4_blockOf u0 p1 p2) (fun z => True) := by
  unfold f_X4_blockOf
  try dsimp only [jn]
  refine cg_bn (t_X4_isPageOf p1 p2 ) (fun z_1 hz_1 => ?_)
  refine cg_eq2 (Eq.refl ((z_1) : Int32).toInt) (by decide : (0 : Int32).toInt = 0) (fun h_1 => ?_) (fun h_1 => ?_)
  · exact cg_some trivial
  · refine cg_chk (inb_e (add_e (mul_e (Eq.refl (p1).toInt) (by decide : (16 : Int32).toInt = 16) (by omega) (by omega)) (Eq.refl (p2).toInt) (by omega) (by omega)) (by omega) (by omega)) ?_
    exact cg_some trivial
theorem t_X4_hasBlock (u0 : S1) (p1 : Int32) : cg_O (f_X4_hasBlock u0 p1) (fun z => True) := by
  unfold f_X4_hasBlock
  try dsimp only [jn]
  refine cg_lt2 (Eq.refl ((p1) : Int32).toInt) (by decide : (0 : Int32).toInt = 0) (fun h_1 => ?_) (fun h_1 => ?_)
  · exact cg_some trivial
  · refine cg_le2 (by decide : (64 : Int32).toInt = 64) (Eq.refl ((p1) : Int32).toInt) (fun h_2 => ?_) (fun h_2 => ?_)
    · exact cg_some trivial
    · refine cg_chk (inb_e (Eq.refl (p1).toInt) (by omega) (by omega)) ?_
      refine cg_le2 (Eq.refl ((u0 11 (p1).toNatClampNeg) : Int32).toInt) (by decide : (0 : Int32).toInt = 0) (fun h_3 => ?_) (fun h_3 => ?_)
      · exact cg_some trivial
      · exact cg_some trivial
theorem t_X4_filledOf (u0 : S1) (p1 : Int32) : cg_O (f_X4_filledOf u0 p1) (fun z => True) := by
  unfold f_X4_filledOf
  try dsimp only [jn]
  refine cg_bn (t_X4_isInRange p1 ) (fun z_1 hz_1 => ?_)
  refine cg_eq2 (Eq.refl ((z_1) : Int32).toInt) (by decide : (0 : Int32).toInt = 0) (fun h_1 => ?_) (fun h_1 => ?_)
  · exact cg_some trivial
  · refine cg_chk (inb_e (Eq.refl (p1).toInt) (by omega) (by omega)) ?_
    exact cg_some trivial
theorem t_X4_holesOf (u0 : S1) (p1 : Int32) (p2 : Int32) (p3 : Int32) (h0 : 0 ≤ p2.toInt) : cg_O (f_X4_holesOf u0 p1 p2 p3) (fun z => True) := by
  unfold f_X4_holesOf
  try dsimp only [jn]
  refine cg_q2 (cg_l2 (fun dr6_1 y6_1_4 y6_1_5 => 0 ≤ y6_1_5.toInt ∧ 16 - y6_1_5.toInt ≤ (dr6_1 : Int)) (fun dr6_1 r6_1 ihr6_1 y6_1_4 y6_1_5 hh => ?_) 16 4096 (by decide) 0 p2 ⟨(by first | omega | decide), (by first | omega | decide)⟩)
  obtain ⟨i_1, i_2⟩ := hh
  refine cg_lt2 (Eq.refl ((p3) : Int32).toInt) (Eq.refl ((y6_1_5) : Int32).toInt) (fun h_3 => ?_) (fun h_3 => ?_)
  · exact cg_some trivial
  · refine cg_le2 (by decide : (16 : Int32).toInt = 16) (Eq.refl ((y6_1_5) : Int32).toInt) (fun h_4 => ?_) (fun h_4 => ?_)
    · exact cg_some trivial
    · refine cg_bn (t_X4_pageKindOf u0 p1 y6_1_5 ) (fun z_5 hz_5 => ?_)
      refine cg_eq2 (Eq.refl ((z_5) : Int32).toInt) (by decide : (0 : Int32).toInt = 0) (fun h_5 => ?_) (fun h_5 => ?_)
      · have e_6 := (add_e (Eq.refl (y6_1_5).toInt) (by decide : (1 : Int32).toInt = 1) (by omega) (by omega))
        exact ihr6_1 (dr6_1 - 1) (y6_1_4 + 1) (y6_1_5 + 1) (by omega) ⟨(by omega), (by omega)⟩
      · have e_7 := (add_e (Eq.refl (y6_1_5).toInt) (by decide : (1 : Int32).toInt = 1) (by omega) (by omega))
        exact ihr6_1 (dr6_1 - 1) y6_1_4 (y6_1_5 + 1) (by omega) ⟨(by omega), (by omega)⟩
theorem t_X4_blocksOf (u0 : S1) (p1 : Int32) : cg_O (f_X4_blocksOf u0 p1) (fun z => True) := by
  unfold f_X4_blocksOf
  try dsimp only [jn]
  refine cg_q2 (cg_l2 (fun dr4_1 y4_1_2 y4_1_3 => 0 ≤ y4_1_3.toInt ∧ 32 - y4_1_3.toInt ≤ (dr4_1 : Int)) (fun dr4_1 r4_1 ihr4_1 y4_1_2 y4_1_3 hh => ?_) 32 4096 (by decide) 0 0 ⟨(by decide), (by decide)⟩)
  obtain ⟨i_1, i_2⟩ := hh
  refine cg_le2 (by decide : (32 : Int32).toInt = 32) (Eq.refl ((y4_1_3) : Int32).toInt) (fun h_3 => ?_) (fun h_3 => ?_)
  · exact cg_some trivial
  · refine cg_bn (t_X4_isOfKind u0 y4_1_3 0 ) (fun z_3 hz_3 => ?_)
    refine cg_eq2 (Eq.refl ((z_3) : Int32).toInt) (by decide : (0 : Int32).toInt = 0) (fun h_4 => ?_) (fun h_4 => ?_)
    · have e_5 := (add_e (Eq.refl (y4_1_3).toInt) (by decide : (1 : Int32).toInt = 1) (by omega) (by omega))
      exact ihr4_1 (dr4_1 - 1) y4_1_2 (y4_1_3 + 1) (by omega) ⟨(by omega), (by omega)⟩
    · refine cg_chk (inb_e (Eq.refl (y4_1_3).toInt) (by omega) (by omega)) ?_
      refine cg_eq2 (Eq.refl ((u0 1 (y4_1_3).toNatClampNeg) : Int32).toInt) (Eq.refl ((p1) : Int32).toInt) (fun h_6 => ?_) (fun h_6 => ?_)
      · refine cg_chk (inb_e (Eq.refl (y4_1_3).toInt) (by omega) (by omega)) ?_
        have e_7 := (add_e (Eq.refl (y4_1_3).toInt) (by decide : (1 : Int32).toInt = 1) (by omega) (by omega))
        exact ihr4_1 (dr4_1 - 1) (y4_1_2 + (u0 10 (y4_1_3).toNatClampNeg)) (y4_1_3 + 1) (by omega) ⟨(by omega), (by omega)⟩
      · have e_8 := (add_e (Eq.refl (y4_1_3).toInt) (by decide : (1 : Int32).toInt = 1) (by omega) (by omega))
        exact ihr4_1 (dr4_1 - 1) y4_1_2 (y4_1_3 + 1) (by omega) ⟨(by omega), (by omega)⟩
