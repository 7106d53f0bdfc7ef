theorem t_X0_isPageOf (p0 : Int32) (p1 : Int32) : cg_O (f_X0_isPageOf p0 p1) (fun z => (z.toInt = 0 ∨ (0 ≤ p0.toInt ∧ p0.toInt < 32 ∧ 0 ≤ p1.toInt ∧ p1.toInt < 16))) := by
  unfold f_X0_isPageOf
  try dsimp only [jn]
  refine cg_lt2 (Eq.refl ((p0) : Int32).toInt) (by decide : (0 : Int32).toInt = 0) (fun h_1 => ?_) (fun h_1 => ?_)
  · exact cg_some (show ((vp_nar .boolean 0).toInt = 0 ∨ (0 ≤ p0.toInt ∧ p0.toInt < 32 ∧ 0 ≤ p1.toInt ∧ p1.toInt < 16)) from (by first | omega | decide | exact Or.inl (by decide) | exact Or.inr (by omega)))
  · refine cg_le2 (by decide : (32 : Int32).toInt = 32) (Eq.refl ((p0) : Int32).toInt) (fun h_2 => ?_) (fun h_2 => ?_)
    · exact cg_some (show ((vp_nar .boolean 0).toInt = 0 ∨ (0 ≤ p0.toInt ∧ p0.toInt < 32 ∧ 0 ≤ p1.toInt ∧ p1.toInt < 16)) from (by first | omega | decide | exact Or.inl (by decide) | exact Or.inr (by omega)))
    · refine cg_lt2 (Eq.refl ((p1) : Int32).toInt) (by decide : (0 : Int32).toInt = 0) (fun h_3 => ?_) (fun h_3 => ?_)
      · exact cg_some (show ((vp_nar .boolean 0).toInt = 0 ∨ (0 ≤ p0.toInt ∧ p0.toInt < 32 ∧ 0 ≤ p1.toInt ∧ p1.toInt < 16)) from (by first | omega | decide | exact Or.inl (by decide) | exact Or.inr (by omega)))
      · refine cg_le2 (by decide : (16 : Int32).toInt = 16) (Eq.refl ((p1) : Int32).toInt) (fun h_4 => ?_) (fun h_4 => ?_)
        · exact cg_some (show ((vp_nar .boolean 0).toInt = 0 ∨ (0 ≤ p0.toInt ∧ p0.toInt < 32 ∧ 0 ≤ p1.toInt ∧ p1.toInt < 16)) from (by first | omega | decide | exact Or.inl (by decide) | exact Or.inr (by omega)))
        · exact cg_some (show ((vp_nar .boolean 1).toInt = 0 ∨ (0 ≤ p0.toInt ∧ p0.toInt < 32 ∧ 0 ≤ p1.toInt ∧ p1.toInt < 16)) from (by first | omega | decide | exact Or.inl (by decide) | exact Or.inr (by omega)))
theorem t_X0_count (u0 : S1) : cg_O (f_X0_count u0) (fun z => True) := by
  unfold f_X0_count
  try dsimp only [jn]
  exact cg_some trivial
theorem t_X0_numberOf (u0 : S1) (p1 : Int32) (p2 : Int32) : cg_O (f_X0_numberOf u0 p1 p2) (fun z => True) := by
  unfold f_X0_numberOf
  try dsimp only [jn]
  refine cg_bn (t_X0_isPageOf p1 p2 ) (fun z_1 hz_1 => ?_)
  refine cg_eq2 (Eq.refl ((z_1) : Int32).toInt) (by decide : (0 : Int32).toInt = 0) (fun h_1 => ?_) (fun h_1 => ?_)
  · exact cg_some trivial
  · refine cg_chk (inb_e (add_e (mul_e (Eq.refl (p1).toInt) (by decide : (16 : Int32).toInt = 16) (by omega) (by omega)) (Eq.refl (p2).toInt) (by omega) (by omega)) (by omega) (by omega)) ?_
    exact cg_some trivial
theorem t_X0_isDirty (u0 : S1) (p1 : Int32) (p2 : Int32) : cg_O (f_X0_isDirty u0 p1 p2) (fun z => True) := by
  unfold f_X0_isDirty
  try dsimp only [jn]
  refine cg_bn (t_X0_numberOf u0 p1 p2 ) (fun z_1 hz_1 => ?_)
  refine cg_eq2 (Eq.refl ((z_1) : Int32).toInt) (by decide : (-1 : Int32).toInt = -1) (fun h_1 => ?_) (fun h_1 => ?_)
  · exact cg_some trivial
  · exact cg_some trivial
theorem t_X0_letGo (u0 : S1) (p1 : Int32) (p2 : Int32) : cg_O (f_X0_letGo u0 p1 p2) (fun z => True) := by
  unfold f_X0_letGo
  try dsimp only [jn]
  refine cg_bn (t_X0_isPageOf p1 p2 ) (fun z_1 hz_1 => ?_)
  refine cg_eq2 (Eq.refl ((z_1) : Int32).toInt) (by decide : (0 : Int32).toInt = 0) (fun h_1 => ?_) (fun h_1 => ?_)
  · exact cg_some trivial
  · refine cg_chk (inb_e (add_e (mul_e (Eq.refl (p1).toInt) (by decide : (16 : Int32).toInt = 16) (by omega) (by omega)) (Eq.refl (p2).toInt) (by omega) (by omega)) (by omega) (by omega)) ?_
    refine cg_eq2 (Eq.refl ((u0 0 ((p1 * 16) + p2).toNatClampNeg) : Int32).toInt) (by decide : (-1 : Int32).toInt = -1) (fun h_2 => ?_) (fun h_2 => ?_)
    · exact cg_some trivial
    · refine cg_chk (inb_e (add_e (mul_e (Eq.refl (p1).toInt) (by decide : (16 : Int32).toInt = 16) (by omega) (by omega)) (Eq.refl (p2).toInt) (by omega) (by omega)) (by omega) (by omega)) ?_
      refine cg_bv (fun u_5 eu_5 => ?_)
      refine cg_bv (fun u_6 eu_6 => ?_)
      exact cg_some trivial
theorem t_X0_put (u0 : S1) (p1 : Int32) (p2 : Int32) (p3 : Int32) : cg_O (f_X0_put u0 p1 p2 p3) (fun z => True) := by
  unfold f_X0_put
  try dsimp only [jn]
  refine cg_bn (t_X0_isPageOf p1 p2 ) (fun z_1 hz_1 => ?_)
  refine cg_eq2 (Eq.refl ((z_1) : Int32).toInt) (by decide : (0 : Int32).toInt = 0) (fun h_1 => ?_) (fun h_1 => ?_)
  · exact cg_some trivial
  · refine cg_bn (t_X0_letGo u0 p1 p2 ) (fun z_4 hz_4 => ?_)
    refine cg_chk (inb_e (add_e (mul_e (Eq.refl (p1).toInt) (by decide : (16 : Int32).toInt = 16) (by omega) (by omega)) (Eq.refl (p2).toInt) (by omega) (by omega)) (by omega) (by omega)) ?_
    refine cg_bv (fun u_5 eu_5 => ?_)
    refine cg_bv (fun u_6 eu_6 => ?_)
    exact cg_some trivial
theorem t_X0_hasError (u0 : S1) (p1 : Int32) : cg_O (f_X0_hasError u0 p1) (fun z => (z.toInt = 0 ∨ (0 ≤ p1.toInt ∧ p1.toInt < 32))) := by
  unfold f_X0_hasError
  try dsimp only [jn]
  refine cg_lt2 (Eq.refl ((p1) : Int32).toInt) (by decide : (0 : Int32).toInt = 0) (fun h_1 => ?_) (fun h_1 => ?_)
  · exact cg_some (show ((vp_nar .boolean 0).toInt = 0 ∨ (0 ≤ p1.toInt ∧ p1.toInt < 32)) from (by first | omega | decide | exact Or.inl (by decide) | exact Or.inr (by omega)))
  · refine cg_le2 (by decide : (32 : Int32).toInt = 32) (Eq.refl ((p1) : Int32).toInt) (fun h_2 => ?_) (fun h_2 => ?_)
    · exact cg_some (show ((vp_nar .boolean 0).toInt = 0 ∨ (0 ≤ p1.toInt ∧ p1.toInt < 32)) from (by first | omega | decide | exact Or.inl (by decide) | exact Or.inr (by omega)))
    · refine cg_chk (inb_e (Eq.refl (p1).toInt) (by omega) (by omega)) ?_
      refine cg_eq2 (Eq.refl ((u0 1 (p1).toNatClampNeg) : Int32).toInt) (by decide : (0 : Int32).toInt = 0) (fun h_3 => ?_) (fun h_3 => ?_)
      · exact cg_some (show ((vp_nar .boolean 0).toInt = 0 ∨ (0 ≤ p1.toInt ∧ p1.toInt < 32)) from (by first | omega | decide | exact Or.inl (by decide) | exact Or.inr (by omega)))
      · exact cg_some (show ((vp_nar .boolean 1).toInt = 0 ∨ (0 ≤ p1.toInt ∧ p1.toInt < 32)) from (by first | omega | decide | exact Or.inl (by decide) | exact Or.inr (by omega)))
theorem t_X0_setError (u0 : S1) (p1 : Int32) : cg_O (f_X0_setError u0 p1) (fun z => True) := by
  unfold f_X0_setError
  try dsimp only [jn]
  refine cg_lt2 (Eq.refl ((p1) : Int32).toInt) (by decide : (0 : Int32).toInt = 0) (fun h_1 => ?_) (fun h_1 => ?_)
  · exact cg_some trivial
  · refine cg_le2 (by decide : (32 : Int32).toInt = 32) (Eq.refl ((p1) : Int32).toInt) (fun h_2 => ?_) (fun h_2 => ?_)
    · exact cg_some trivial
    · refine cg_chk (inb_e (Eq.refl (p1).toInt) (by omega) (by omega)) ?_
      refine cg_bv (fun u_4 eu_4 => ?_)
      exact cg_some trivial
theorem t_X0_tellError (u0 : S1) (p1 : Int32) : cg_O (f_X0_tellError u0 p1) (fun z => True) := by
  unfold f_X0_tellError
  try dsimp only [jn]
  refine cg_bn (t_X0_hasError u0 p1 ) (fun z_1 hz_1 => ?_)
  refine cg_eq2 (Eq.refl ((z_1) : Int32).toInt) (by decide : (0 : Int32).toInt = 0) (fun h_1 => ?_) (fun h_1 => ?_)
  · exact cg_some trivial
  · refine cg_chk (inb_e (Eq.refl (p1).toInt) (by omega) (by omega)) ?_
    refine cg_bv (fun u_4 eu_4 => ?_)
    exact cg_some trivial
theorem t_X0_forgetThing (u0 : S1) (p1 : Int32) : cg_O (f_X0_forgetThing u0 p1) (fun z => True) := by
  unfold f_X0_forgetThing
  try dsimp only [jn]
  refine cg_q2 (cg_l2 (fun dr2_1 y2_1_2 u2_1_0 => 0 ≤ y2_1_2.toInt ∧ 16 - y2_1_2.toInt ≤ (dr2_1 : Int)) (fun dr2_1 r2_1 ihr2_1 y2_1_2 u2_1_0 hh => ?_) 16 4096 (by decide) 0 u0 ⟨(by decide), (by decide)⟩)
  obtain ⟨i_1, i_2⟩ := hh
  refine cg_le2 (by decide : (16 : Int32).toInt = 16) (Eq.refl ((y2_1_2) : Int32).toInt) (fun h_3 => ?_) (fun h_3 => ?_)
  · refine cg_bn (t_X0_tellError u2_1_0 p1 ) (fun z_3 hz_3 => ?_)
    exact cg_some trivial
  · refine cg_bn (t_X0_letGo u2_1_0 p1 y2_1_2 ) (fun z_4 hz_4 => ?_)
    have e_4 := (add_e (Eq.refl (y2_1_2).toInt) (by decide : (1 : Int32).toInt = 1) (by omega) (by omega))
    exact ihr2_1 (dr2_1 - 1) (y2_1_2 + 1) z_4 (by omega) ⟨(by omega), (by omega)⟩
theorem t_X0_forgetAll (u0 : S1) : cg_O (f_X0_forgetAll u0) (fun z => True) := by
  unfold f_X0_forgetAll
  try dsimp only [jn]
  refine cg_q2 (cg_l2 (fun dr2_1 y2_1_1 u2_1_0 => 0 ≤ y2_1_1.toInt ∧ 32 - y2_1_1.toInt ≤ (dr2_1 : Int)) (fun dr2_1 r2_1 ihr2_1 y2_1_1 u2_1_0 hh => ?_) 32 4096 (by decide) 0 u0 ⟨(by decide), (by decide)⟩)
  obtain ⟨i_1, i_2⟩ := hh
  refine cg_le2 (by decide : (32 : Int32).toInt = 32) (Eq.refl ((y2_1_1) : Int32).toInt) (fun h_3 => ?_) (fun h_3 => ?_)
  · exact cg_some trivial
  · refine cg_bn (t_X0_forgetThing u2_1_0 y2_1_1 ) (fun z_3 hz_3 => ?_)
    have e_4 := (add_e (Eq.refl (y2_1_1).toInt) (by decide : (1 : Int32).toInt = 1) (by omega) (by omega))
    exact ihr2_1 (dr2_1 - 1) (y2_1_1 + 1) z_3 (by omega) ⟨(by omega), (by omega)⟩
theorem t_X2_isBlock (p0 : Int32) : cg_O (f_X2_isBlock p0) (fun z => (z.toInt = 0 ∨ (0 ≤ p0.toInt ∧ p0.toInt < 64))) := by
  unfold f_X2_isBlock
  try dsimp only [jn]
  refine cg_lt2 (Eq.refl ((p0) : Int32).toInt) (by decide : (0 : Int32).toInt = 0) (fun h_1 => ?_) (fun h_1 => ?_)
  · exact cg_some (show ((vp_nar .boolean 0).toInt = 0 ∨ (0 ≤ p0.toInt ∧ p0.toInt < 64)) from (by first | omega | decide | exact Or.inl (by decide) | exact Or.inr (by omega)))
  · refine cg_le2 (by decide : (64 : Int32).toInt = 64) (Eq.refl ((p0) : Int32).toInt) (fun h_2 => ?_) (fun h_2 => ?_)
    · exact cg_some (show ((vp_nar .boolean 0).toInt = 0 ∨ (0 ≤ p0.toInt ∧ p0.toInt < 64)) from (by first | omega | decide | exact Or.inl (by decide) | exact Or.inr (by omega)))
    · exact cg_some (show ((vp_nar .boolean 1).toInt = 0 ∨ (0 ≤ p0.toInt ∧ p0.toInt < 64)) from (by first | omega | decide | exact Or.inl (by decide) | exact Or.inr (by omega)))
theorem t_X2_numberOf (u0 : S1) (p1 : Int32) : cg_O (f_X2_numberOf u0 p1) (fun z => True) := by
  unfold f_X2_numberOf
  try dsimp only [jn]
  refine cg_bn (t_X2_isBlock p1 ) (fun z_1 hz_1 => ?_)
  refine cg_eq2 (Eq.refl ((z_1) : Int32).toInt) (by decide : (0 : Int32).toInt = 0) (fun h_1 => ?_) (fun h_1 => ?_)
  · exact cg_some trivial
  · refine cg_chk (inb_e (Eq.refl (p1).toInt) (by omega) (by omega)) ?_
    exact cg_some trivial
theorem t_X2_setNumber (u0 : S1) (p1 : Int32) (p2 : Int32) : cg_O (f_X2_setNumber u0 p1 p2) (fun z => (z 1 = u0 1)) := by
  unfold f_X2_setNumber
  try dsimp only [jn]
  refine cg_bn (t_X2_isBlock p1 ) (fun z_1 hz_1 => ?_)
  refine cg_eq2 (Eq.refl ((z_1) : Int32).toInt) (by decide : (0 : Int32).toInt = 0) (fun h_1 => ?_) (fun h_1 => ?_)
  · exact cg_some (show (u0 1 = u0 1) from rfl)
  · refine cg_chk (inb_e (Eq.refl (p1).toInt) (by omega) (by omega)) ?_
    refine cg_bv (fun u_4 eu_4 => ?_)
    exact cg_some (show (u_4 1 = u0 1) from (by rw [eu_4]; rfl))
theorem t_X2_isBad (u0 : S1) (p1 : Int32) : cg_O (f_X2_isBad u0 p1) (fun z => True) := by
  unfold f_X2_isBad
  try dsimp only [jn]
  refine cg_bn (t_X2_isBlock p1 ) (fun z_1 hz_1 => ?_)
  refine cg_eq2 (Eq.refl ((z_1) : Int32).toInt) (by decide : (0 : Int32).toInt = 0) (fun h_1 => ?_) (fun h_1 => ?_)
  · exact cg_some trivial
  · refine cg_chk (inb_e (Eq.refl (p1).toInt) (by omega) (by omega)) ?_
    refine cg_eq2 (Eq.refl ((u0 1 (p1).toNatClampNeg) : Int32).toInt) (by decide : (0 : Int32).toInt = 0) (fun h_2 => ?_) (fun h_2 => ?_)
    · exact cg_some trivial
    · exact cg_some trivial
theorem t_X2_setBad (u0 : S1) (p1 : Int32) (p2 : Int32) : cg_O (f_X2_setBad u0 p1 p2) (fun z => True) := by
  unfold f_X2_setBad
  try dsimp only [jn]
  refine cg_bn (t_X2_isBlock p1 ) (fun z_1 hz_1 => ?_)
  refine cg_eq2 (Eq.refl ((z_1) : Int32).toInt) (by decide : (0 : Int32).toInt = 0) (fun h_1 => ?_) (fun h_1 => ?_)
  · exact cg_some trivial
  · refine cg_chk (inb_e (Eq.refl (p1).toInt) (by omega) (by omega)) ?_
    refine cg_bv (fun u_4 eu_4 => ?_)
    exact cg_some trivial
