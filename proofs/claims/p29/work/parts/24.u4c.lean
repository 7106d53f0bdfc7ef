theorem t_X7_has (u0 : S1) (p1 : Int32) (p2 : Int32) (h0 : 0 ≤ p1.toInt) (h1 : p1.toInt ≤ 4) : cg_O (f_X7_has u0 p1 p2) (fun z => True) := by
  have lit0 : (0 : Int32).toInt = 0 := by decide
  unfold f_X7_has
  refine cg_q2 (cg_l2 (fun dr5_1 y5_1_3 y5_1_4 => 0 ≤ y5_1_4.toInt ∧ 32 - y5_1_4.toInt ≤ (dr5_1 : Int)) (fun dr5_1 r5_1 ihr5_1 y5_1_3 y5_1_4 hh => ?_) 32 4096 (by decide) 0 0 ⟨(by first | omega | decide | exact fun q => absurd (by decide) q | (intro _; omega)), (by first | omega | decide | exact fun q => absurd (by decide) q | (intro _; omega))⟩)
  obtain ⟨i_1, i_2⟩ := hh
  refine cg_jn ?_
  refine cg_le2 (by decide : (32 : Int32).toInt = 32) (Eq.refl ((y5_1_4) : Int32).toInt) (fun h_3 => ?_) (fun h_3 => ?_)
  · exact cg_some trivial
  · refine cg_chk (inb_e (Eq.refl (p1).toInt) (by omega) (by omega)) ?_
    refine cg_eq2 (Eq.refl ((u0 1 (p1).toNatClampNeg) : Int32).toInt) (by decide : (0 : Int32).toInt = 0) (fun h_4 => ?_) (fun h_4 => ?_)
    · exact cg_some trivial
    · refine cg_eq2 (Eq.refl ((y5_1_3) : Int32).toInt) (by decide : (0 : Int32).toInt = 0) (fun h_5 => ?_) (fun h_5 => ?_)
      · refine cg_bn (t_X7_at p1 y5_1_4 (by first | omega | decide) (by first | omega | decide) (by first | omega | decide) (by first | omega | decide)) (fun z_6 hz_6 => ?_)
        refine cg_q4 (cg_l4 (fun dr36_7 y36_7_3 y36_7_4 y36_7_5 y36_7_6 => y5_1_4 = y36_7_4 ∧ z_6 = y36_7_5 ∧ 0 ≤ y36_7_6.toInt ∧ 16 - y36_7_6.toInt ≤ (dr36_7 : Int)) (fun dr36_7 r36_7 ihr36_7 y36_7_3 y36_7_4 y36_7_5 y36_7_6 hh => ?_) 16 4096 (by decide) y5_1_3 y5_1_4 z_6 0 ⟨rfl, rfl, (by first | omega | decide | exact fun q => absurd (by decide) q | (intro _; omega)), (by first | omega | decide | exact fun q => absurd (by decide) q | (intro _; omega))⟩)
        obtain ⟨rfl, rfl, i_6, i_7⟩ := hh
        refine cg_jn ?_
        refine cg_le2 (by decide : (16 : Int32).toInt = 16) (Eq.refl ((y36_7_6) : Int32).toInt) (fun h_8 => ?_) (fun h_8 => ?_)
        · have e_9 := (add_e (Eq.refl (y5_1_4).toInt) (by decide : (1 : Int32).toInt = 1) (by omega) (by omega))
          exact ihr5_1 (dr5_1 - 1) y36_7_3 (y5_1_4 + 1) (by omega) ⟨(by omega), (by omega)⟩
        · refine cg_chk (inb_e hz_6 (by omega) (by omega)) ?_
          refine cg_eq2 (Eq.refl ((u0 0 (z_6).toNatClampNeg) : Int32).toInt) (by decide : (0 : Int32).toInt = 0) (fun h_10 => ?_) (fun h_10 => ?_)
          · refine cg_jn ?_
            refine cg_jn ?_
            refine cg_eq2 (Eq.refl ((y36_7_3) : Int32).toInt) (by decide : (0 : Int32).toInt = 0) (fun h_11 => ?_) (fun h_11 => ?_)
            · refine cg_chk (inb_e (add_e (add_e hz_6 (by decide : (21 : Int32).toInt = 21) (by omega) (by omega)) (Eq.refl (y36_7_6).toInt) (by omega) (by omega)) (by omega) (by omega)) ?_
              refine cg_eq2 (Eq.refl ((u0 0 ((z_6 + 21) + y36_7_6).toNatClampNeg) : Int32).toInt) (Eq.refl ((p2) : Int32).toInt) (fun h_12 => ?_) (fun h_12 => ?_)
              · have e_13 := (add_e (Eq.refl (y36_7_6).toInt) (by decide : (1 : Int32).toInt = 1) (by omega) (by omega))
                exact ihr36_7 (dr36_7 - 1) 1 y5_1_4 z_6 (y36_7_6 + 1) (by omega) ⟨rfl, rfl, (by omega), (by omega)⟩
              · have e_14 := (add_e (Eq.refl (y36_7_6).toInt) (by decide : (1 : Int32).toInt = 1) (by omega) (by omega))
                exact ihr36_7 (dr36_7 - 1) 0 y5_1_4 z_6 (y36_7_6 + 1) (by omega) ⟨rfl, rfl, (by omega), (by omega)⟩
            · have e_15 := (add_e (Eq.refl (y36_7_6).toInt) (by decide : (1 : Int32).toInt = 1) (by omega) (by omega))
              exact ihr36_7 (dr36_7 - 1) 1 y5_1_4 z_6 (y36_7_6 + 1) (by omega) ⟨rfl, rfl, (by omega), (by omega)⟩
          · have e_16 := (add_e (Eq.refl (y5_1_4).toInt) (by decide : (1 : Int32).toInt = 1) (by omega) (by omega))
            exact ihr5_1 (dr5_1 - 1) y36_7_3 (y5_1_4 + 1) (by omega) ⟨(by omega), (by omega)⟩
      · exact cg_some trivial
theorem t_X7_frees (u0 : S1) (p1 : Int32) : cg_O (f_X7_frees u0 p1) (fun z => True) := by
  have lit0 : (0 : Int32).toInt = 0 := by decide
  unfold f_X7_frees
  refine cg_bn (t_X7_has u0 0 p1 (by first | omega | decide) (by first | omega | decide)) (fun z_1 hz_1 => ?_)
  refine cg_jn ?_
  refine cg_jn ?_
  refine cg_eq2 (Eq.refl ((z_1) : Int32).toInt) (by decide : (0 : Int32).toInt = 0) (fun h_1 => ?_) (fun h_1 => ?_)
  · refine cg_bn (t_X7_has u0 1 p1 (by first | omega | decide) (by first | omega | decide)) (fun z_5 hz_5 => ?_)
    refine cg_eq2 (Eq.refl ((z_5) : Int32).toInt) (by decide : (0 : Int32).toInt = 0) (fun h_2 => ?_) (fun h_2 => ?_)
    · refine cg_bn (t_X7_has u0 2 p1 (by first | omega | decide) (by first | omega | decide)) (fun z_7 hz_7 => ?_)
      refine cg_eq2 (Eq.refl ((z_7) : Int32).toInt) (by decide : (0 : Int32).toInt = 0) (fun h_3 => ?_) (fun h_3 => ?_)
      · refine cg_bn (t_X7_has u0 3 p1 (by first | omega | decide) (by first | omega | decide)) (fun z_9 hz_9 => ?_)
        refine cg_eq2 (Eq.refl ((z_9) : Int32).toInt) (by decide : (0 : Int32).toInt = 0) (fun h_4 => ?_) (fun h_4 => ?_)
        · refine cg_bn (t_X7_has u0 4 p1 (by first | omega | decide) (by first | omega | decide)) (fun z_11 hz_11 => ?_)
          refine cg_eq2 (Eq.refl ((z_11) : Int32).toInt) (by decide : (0 : Int32).toInt = 0) (fun h_5 => ?_) (fun h_5 => ?_)
          · exact cg_some trivial
          · exact cg_some trivial
        · exact cg_some trivial
      · exact cg_some trivial
    · exact cg_some trivial
  · exact cg_some trivial
theorem t_X7_isOld (u0 : S1) (p1 : Int32) : cg_O (f_X7_isOld u0 p1) (fun z => True) := by
  have lit0 : (0 : Int32).toInt = 0 := by decide
  unfold f_X7_isOld
  refine cg_bn (t_X7_has u0 2 p1 (by first | omega | decide) (by first | omega | decide)) (fun z_1 hz_1 => ?_)
  refine cg_jn ?_
  refine cg_jn ?_
  refine cg_eq2 (Eq.refl ((z_1) : Int32).toInt) (by decide : (0 : Int32).toInt = 0) (fun h_1 => ?_) (fun h_1 => ?_)
  · refine cg_bn (t_X7_has u0 3 p1 (by first | omega | decide) (by first | omega | decide)) (fun z_5 hz_5 => ?_)
    refine cg_eq2 (Eq.refl ((z_5) : Int32).toInt) (by decide : (0 : Int32).toInt = 0) (fun h_2 => ?_) (fun h_2 => ?_)
    · refine cg_bn (t_X7_has u0 4 p1 (by first | omega | decide) (by first | omega | decide)) (fun z_7 hz_7 => ?_)
      refine cg_eq2 (Eq.refl ((z_7) : Int32).toInt) (by decide : (0 : Int32).toInt = 0) (fun h_3 => ?_) (fun h_3 => ?_)
      · exact cg_some trivial
      · exact cg_some trivial
    · exact cg_some trivial
  · exact cg_some trivial
theorem t_X7_pagesOf (u0 : S1) (p1 : Int32) (h0 : mg_J u0) (h1 : 0 ≤ p1.toInt) (h2 : p1.toInt ≤ 31) : cg_O (f_X7_pagesOf u0 p1) (fun z => True) := by
  have lit0 : (0 : Int32).toInt = 0 := by decide
  unfold f_X7_pagesOf
  refine cg_q2 (cg_l2 (fun dr4_1 y4_1_2 y4_1_3 => 0 ≤ y4_1_3.toInt ∧ 16 - y4_1_3.toInt ≤ (dr4_1 : Int)) (fun dr4_1 r4_1 ihr4_1 y4_1_2 y4_1_3 hh => ?_) 16 4096 (by decide) 0 0 ⟨(by first | omega | decide | exact fun q => absurd (by decide) q | (intro _; omega)), (by first | omega | decide | exact fun q => absurd (by decide) q | (intro _; omega))⟩)
  obtain ⟨i_1, i_2⟩ := hh
  refine cg_le2 (by decide : (16 : Int32).toInt = 16) (Eq.refl ((y4_1_3) : Int32).toInt) (fun h_3 => ?_) (fun h_3 => ?_)
  · exact cg_some trivial
  · refine cg_bn (t_X7_blockOf u0 p1 y4_1_3 ((mg_refl h0)).1 (by first | omega | decide) (by first | omega | decide) (by first | omega | decide) (by first | omega | decide)) (fun z_3 hz_3 => ?_)
    refine cg_jn ?_
    refine cg_eq2 (Eq.refl ((z_3) : Int32).toInt) (by decide : (-1 : Int32).toInt = -1) (fun h_4 => ?_) (fun h_4 => ?_)
    · have e_5 := (add_e (Eq.refl (y4_1_3).toInt) (by decide : (1 : Int32).toInt = 1) (by omega) (by omega))
      exact ihr4_1 (dr4_1 - 1) (y4_1_2 + 0) (y4_1_3 + 1) (by omega) ⟨(by omega), (by omega)⟩
    · have e_6 := (add_e (Eq.refl (y4_1_3).toInt) (by decide : (1 : Int32).toInt = 1) (by omega) (by omega))
      exact ihr4_1 (dr4_1 - 1) (y4_1_2 + 1) (y4_1_3 + 1) (by omega) ⟨(by omega), (by omega)⟩
theorem t_X7_blocksOf (u0 : S1) (p1 : Int32) (h0 : mg_J u0) : cg_O (f_X7_blocksOf u0 p1) (fun z => True) := by
  have lit0 : (0 : Int32).toInt = 0 := by decide
  unfold f_X7_blocksOf
  refine cg_q2 (cg_l2 (fun dr4_1 y4_1_2 y4_1_3 => 0 ≤ y4_1_3.toInt ∧ 32 - y4_1_3.toInt ≤ (dr4_1 : Int)) (fun dr4_1 r4_1 ihr4_1 y4_1_2 y4_1_3 hh => ?_) 32 4096 (by decide) 0 0 ⟨(by first | omega | decide | exact fun q => absurd (by decide) q | (intro _; omega)), (by first | omega | decide | exact fun q => absurd (by decide) q | (intro _; omega))⟩)
  obtain ⟨i_1, i_2⟩ := hh
  refine cg_le2 (by decide : (32 : Int32).toInt = 32) (Eq.refl ((y4_1_3) : Int32).toInt) (fun h_3 => ?_) (fun h_3 => ?_)
  · exact cg_some trivial
  · refine cg_bn (t_X7_at 0 y4_1_3 (by first | omega | decide) (by first | omega | decide) (by first | omega | decide) (by first | omega | decide)) (fun z_3 hz_3 => ?_)
    rw [show (0 : Int32).toInt = 0 by decide] at hz_3
    refine cg_chk (inb_e hz_3 (by omega) (by omega)) ?_
    refine cg_jn ?_
    refine cg_jn ?_
    refine cg_eq2 (Eq.refl ((u0 0 (z_3).toNatClampNeg) : Int32).toInt) (by decide : (0 : Int32).toInt = 0) (fun h_4 => ?_) (fun h_4 => ?_)
    · refine cg_bn (t_X7_at 0 y4_1_3 (by first | omega | decide) (by first | omega | decide) (by first | omega | decide) (by first | omega | decide)) (fun z_7 hz_7 => ?_)
      rw [show (0 : Int32).toInt = 0 by decide] at hz_7
      refine cg_chk (inb_e (add_e hz_7 (by decide : (1 : Int32).toInt = 1) (by omega) (by omega)) (by omega) (by omega)) ?_
      refine cg_eq2 (Eq.refl ((u0 0 (z_7 + 1).toNatClampNeg) : Int32).toInt) (Eq.refl ((p1) : Int32).toInt) (fun h_5 => ?_) (fun h_5 => ?_)
      · refine cg_bn (t_X7_pagesOf u0 y4_1_3 ((mg_refl h0)).1 (by first | omega | decide) (by first | omega | decide)) (fun z_9 hz_9 => ?_)
        have e_6 := (add_e (Eq.refl (y4_1_3).toInt) (by decide : (1 : Int32).toInt = 1) (by omega) (by omega))
        exact ihr4_1 (dr4_1 - 1) (y4_1_2 + z_9) (y4_1_3 + 1) (by omega) ⟨(by omega), (by omega)⟩
      · have e_7 := (add_e (Eq.refl (y4_1_3).toInt) (by decide : (1 : Int32).toInt = 1) (by omega) (by omega))
        exact ihr4_1 (dr4_1 - 1) (y4_1_2 + 0) (y4_1_3 + 1) (by omega) ⟨(by omega), (by omega)⟩
    · have e_8 := (add_e (Eq.refl (y4_1_3).toInt) (by decide : (1 : Int32).toInt = 1) (by omega) (by omega))
      exact ihr4_1 (dr4_1 - 1) (y4_1_2 + 0) (y4_1_3 + 1) (by omega) ⟨(by omega), (by omega)⟩
theorem t_X7_tells (u0 : S1) (p1 : Int32) (h0 : mg_J u0) (h1 : 0 ≤ p1.toInt) (h2 : p1.toInt ≤ 31) : cg_O (f_X7_tells u0 p1) (fun z => (mg_G u0 z.2)) := by
  have lit0 : (0 : Int32).toInt = 0 := by decide
  unfold f_X7_tells
  refine cg_chk (inb_e (Eq.refl (p1).toInt) (by omega) (by omega)) ?_
  refine cg_chk (inb_e (Eq.refl (p1).toInt) (by omega) (by omega)) ?_
  refine cg_bv (fun u_1 eu_1 => ?_)
  have gu_1 : mg_G u0 u_1 := by rw [eu_1]; exact (mg_up' (mg_refl h0) (by decide))
  exact cg_some (show (mg_G u0 u_1) from gu_1)
theorem t_X7_shuts (u0 : S1) (p1 : Int32) (h0 : mg_J u0) (h1 : 0 ≤ p1.toInt) (h2 : p1.toInt ≤ 29) : cg_O (f_X7_shuts u0 p1) (fun z => (mg_G u0 z)) := by
  have lit0 : (0 : Int32).toInt = 0 := by decide
  unfold f_X7_shuts
  refine cg_chk (inb_e (Eq.refl (p1).toInt) (by omega) (by omega)) ?_
  refine cg_bv (fun u_1 eu_1 => ?_)
  have gu_1 : mg_G u0 u_1 := by rw [eu_1]; exact (mg_shut (mg_refl h0))
  refine cg_q2 (cg_l2 (fun dr9_2 y9_2_2 u9_2_0 => mg_G u0 u9_2_0 ∧ 0 ≤ y9_2_2.toInt ∧ 16 - y9_2_2.toInt ≤ (dr9_2 : Int)) (fun dr9_2 r9_2 ihr9_2 y9_2_2 u9_2_0 hh => ?_) 16 4096 (by decide) 0 u_1 ⟨gu_1, (by first | omega | decide | exact fun q => absurd (by decide) q | (intro _; omega)), (by first | omega | decide | exact fun q => absurd (by decide) q | (intro _; omega))⟩)
  obtain ⟨su9_2_0, i_1, i_2⟩ := hh
  refine cg_le2 (by decide : (16 : Int32).toInt = 16) (Eq.refl ((y9_2_2) : Int32).toInt) (fun h_3 => ?_) (fun h_3 => ?_)
  · exact cg_some (show (mg_G u0 u9_2_0) from su9_2_0)
  · refine cg_chk (inb_e (add_e (cmul (by decide : (16 : Int32).toInt = 16) (by omega) (by omega)) (Eq.refl (y9_2_2).toInt) (by omega) (by omega)) (by omega) (by omega)) ?_
    refine cg_bv (fun u_4 eu_4 => ?_)
    have gu_4 : mg_G u0 u_4 := by rw [eu_4]; exact (mg_up' su9_2_0 (by decide))
    have e_4 := (add_e (Eq.refl (y9_2_2).toInt) (by decide : (1 : Int32).toInt = 1) (by omega) (by omega))
    exact ihr9_2 (dr9_2 - 1) (y9_2_2 + 1) u_4 (by omega) ⟨gu_4, (by omega), (by omega)⟩
theorem t_X7_canLock (u0 : S1) (p1 : Int32) (p2 : Int32) (p3 : Int32) (h0 : mg_J u0) (h1 : 0 ≤ p1.toInt) (h2 : p1.toInt ≤ 29) (h3 : 0 ≤ p2.toInt) (h4 : p2.toInt ≤ 15) : cg_O (f_X7_canLock u0 p1 p2 p3) (fun z => True) := by
  have lit0 : (0 : Int32).toInt = 0 := by decide
  unfold f_X7_canLock
  refine cg_q2 (cg_l2 (fun dr6_1 y6_1_4 y6_1_5 => 0 ≤ y6_1_5.toInt ∧ 30 - y6_1_5.toInt ≤ (dr6_1 : Int)) (fun dr6_1 r6_1 ihr6_1 y6_1_4 y6_1_5 hh => ?_) 30 4096 (by decide) 1 0 ⟨(by first | omega | decide | exact fun q => absurd (by decide) q | (intro _; omega)), (by first | omega | decide | exact fun q => absurd (by decide) q | (intro _; omega))⟩)
  obtain ⟨i_1, i_2⟩ := hh
  have b_4 := mg_jn u0 ((mg_refl h0)).1
  refine cg_le2 (Eq.refl ((u0 9 0) : Int32).toInt) (Eq.refl ((y6_1_5) : Int32).toInt) (fun h_3 => ?_) (fun h_3 => ?_)
  · exact cg_some trivial
  · refine cg_jn ?_
    refine cg_jn ?_
    refine cg_eq2 (Eq.refl ((y6_1_5) : Int32).toInt) (Eq.refl ((p1) : Int32).toInt) (fun h_5 => ?_) (fun h_5 => ?_)
    · refine cg_jn ?_
      refine cg_jn ?_
      refine cg_eq2 (Eq.refl ((y6_1_4) : Int32).toInt) (by decide : (0 : Int32).toInt = 0) (fun h_6 => ?_) (fun h_6 => ?_)
      · have e_7 := (add_e (Eq.refl (y6_1_5).toInt) (by decide : (1 : Int32).toInt = 1) (by omega) (by omega))
        exact ihr6_1 (dr6_1 - 1) 0 (y6_1_5 + 1) (by omega) ⟨(by omega), (by omega)⟩
      · refine cg_neg (by decide) ?_
        refine cg_jn ?_
        refine cg_pos (by decide) ?_
        have e_8 := (add_e (Eq.refl (y6_1_5).toInt) (by decide : (1 : Int32).toInt = 1) (by omega) (by omega))
        exact ihr6_1 (dr6_1 - 1) 1 (y6_1_5 + 1) (by omega) ⟨(by omega), (by omega)⟩
    · refine cg_chk (inb_e (Eq.refl (y6_1_5).toInt) (by omega) (by omega)) ?_
      refine cg_eq2 (Eq.refl ((u0 12 (y6_1_5).toNatClampNeg) : Int32).toInt) (by decide : (0 : Int32).toInt = 0) (fun h_9 => ?_) (fun h_9 => ?_)
      · refine cg_jn ?_
        refine cg_jn ?_
        refine cg_eq2 (Eq.refl ((y6_1_4) : Int32).toInt) (by decide : (0 : Int32).toInt = 0) (fun h_10 => ?_) (fun h_10 => ?_)
        · have e_11 := (add_e (Eq.refl (y6_1_5).toInt) (by decide : (1 : Int32).toInt = 1) (by omega) (by omega))
          exact ihr6_1 (dr6_1 - 1) 0 (y6_1_5 + 1) (by omega) ⟨(by omega), (by omega)⟩
        · refine cg_neg (by decide) ?_
          refine cg_jn ?_
          refine cg_pos (by decide) ?_
          have e_12 := (add_e (Eq.refl (y6_1_5).toInt) (by decide : (1 : Int32).toInt = 1) (by omega) (by omega))
          exact ihr6_1 (dr6_1 - 1) 1 (y6_1_5 + 1) (by omega) ⟨(by omega), (by omega)⟩
      · refine cg_chk (inb_e (Eq.refl (y6_1_5).toInt) (by omega) (by omega)) ?_
        refine cg_chk (inb_e (Eq.refl (p1).toInt) (by omega) (by omega)) ?_
        have b_14 := mg_jh u0 ((mg_refl h0)).1 y6_1_5 (by omega) (by omega)
        have b_15 := mg_jh u0 ((mg_refl h0)).1 p1 (by omega) (by omega)
        refine cg_eq2 (Eq.refl ((u0 10 (y6_1_5).toNatClampNeg) : Int32).toInt) (Eq.refl ((u0 10 (p1).toNatClampNeg) : Int32).toInt) (fun h_13 => ?_) (fun h_13 => ?_)
        · refine cg_chk (inb_e (add_e (cmul (by decide : (16 : Int32).toInt = 16) (by omega) (by omega)) (Eq.refl (p2).toInt) (by omega) (by omega)) (by omega) (by omega)) ?_
          refine cg_jn ?_
          refine cg_jn ?_
          refine cg_eq2 (Eq.refl ((y6_1_4) : Int32).toInt) (by decide : (0 : Int32).toInt = 0) (fun h_16 => ?_) (fun h_16 => ?_)
          · have e_17 := (add_e (Eq.refl (y6_1_5).toInt) (by decide : (1 : Int32).toInt = 1) (by omega) (by omega))
            exact ihr6_1 (dr6_1 - 1) 0 (y6_1_5 + 1) (by omega) ⟨(by omega), (by omega)⟩
          · refine cg_eq2 (Eq.refl ((u0 13 ((16 * y6_1_5) + p2).toNatClampNeg) : Int32).toInt) (by decide : (2 : Int32).toInt = 2) (fun h_18 => ?_) (fun h_18 => ?_)
            · have e_19 := (add_e (Eq.refl (y6_1_5).toInt) (by decide : (1 : Int32).toInt = 1) (by omega) (by omega))
              exact ihr6_1 (dr6_1 - 1) 0 (y6_1_5 + 1) (by omega) ⟨(by omega), (by omega)⟩
            · refine cg_jn ?_
              refine cg_eq2 (Eq.refl ((u0 13 ((16 * y6_1_5) + p2).toNatClampNeg) : Int32).toInt) (by decide : (0 : Int32).toInt = 0) (fun h_20 => ?_) (fun h_20 => ?_)
              · have e_21 := (add_e (Eq.refl (y6_1_5).toInt) (by decide : (1 : Int32).toInt = 1) (by omega) (by omega))
                exact ihr6_1 (dr6_1 - 1) 1 (y6_1_5 + 1) (by omega) ⟨(by omega), (by omega)⟩
              · refine cg_eq2 (Eq.refl ((p3) : Int32).toInt) (by decide : (1 : Int32).toInt = 1) (fun h_22 => ?_) (fun h_22 => ?_)
                · have e_23 := (add_e (Eq.refl (y6_1_5).toInt) (by decide : (1 : Int32).toInt = 1) (by omega) (by omega))
                  exact ihr6_1 (dr6_1 - 1) 1 (y6_1_5 + 1) (by omega) ⟨(by omega), (by omega)⟩
                · have e_24 := (add_e (Eq.refl (y6_1_5).toInt) (by decide : (1 : Int32).toInt = 1) (by omega) (by omega))
                  exact ihr6_1 (dr6_1 - 1) 0 (y6_1_5 + 1) (by omega) ⟨(by omega), (by omega)⟩
        · refine cg_jn ?_
          refine cg_jn ?_
          refine cg_eq2 (Eq.refl ((y6_1_4) : Int32).toInt) (by decide : (0 : Int32).toInt = 0) (fun h_25 => ?_) (fun h_25 => ?_)
          · have e_26 := (add_e (Eq.refl (y6_1_5).toInt) (by decide : (1 : Int32).toInt = 1) (by omega) (by omega))
            exact ihr6_1 (dr6_1 - 1) 0 (y6_1_5 + 1) (by omega) ⟨(by omega), (by omega)⟩
          · refine cg_neg (by decide) ?_
            refine cg_jn ?_
            refine cg_pos (by decide) ?_
            have e_27 := (add_e (Eq.refl (y6_1_5).toInt) (by decide : (1 : Int32).toInt = 1) (by omega) (by omega))
            exact ihr6_1 (dr6_1 - 1) 1 (y6_1_5 + 1) (by omega) ⟨(by omega), (by omega)⟩
theorem t_X7_dirties (u0 : S1) : cg_O (f_X7_dirties u0) (fun z => True) := by
  have lit0 : (0 : Int32).toInt = 0 := by decide
  unfold f_X7_dirties
  refine cg_q2 (cg_l2 (fun dr4_1 y4_1_1 y4_1_2 => 0 ≤ y4_1_2.toInt ∧ 512 - y4_1_2.toInt ≤ (dr4_1 : Int)) (fun dr4_1 r4_1 ihr4_1 y4_1_1 y4_1_2 hh => ?_) 512 4096 (by decide) 0 0 ⟨(by first | omega | decide | exact fun q => absurd (by decide) q | (intro _; omega)), (by first | omega | decide | exact fun q => absurd (by decide) q | (intro _; omega))⟩)
  obtain ⟨i_1, i_2⟩ := hh
  refine cg_le2 (by decide : (512 : Int32).toInt = 512) (Eq.refl ((y4_1_2) : Int32).toInt) (fun h_3 => ?_) (fun h_3 => ?_)
  · exact cg_some trivial
  · refine cg_chk (inb_e (Eq.refl (y4_1_2).toInt) (by omega) (by omega)) ?_
    refine cg_jn ?_
    refine cg_eq2 (Eq.refl ((u0 4 (y4_1_2).toNatClampNeg) : Int32).toInt) (by decide : (0 : Int32).toInt = 0) (fun h_4 => ?_) (fun h_4 => ?_)
    · have e_5 := (add_e (Eq.refl (y4_1_2).toInt) (by decide : (1 : Int32).toInt = 1) (by omega) (by omega))
      exact ihr4_1 (dr4_1 - 1) (y4_1_1 + 0) (y4_1_2 + 1) (by omega) ⟨(by omega), (by omega)⟩
    · have e_6 := (add_e (Eq.refl (y4_1_2).toInt) (by decide : (1 : Int32).toInt = 1) (by omega) (by omega))
      exact ihr4_1 (dr4_1 - 1) (y4_1_1 + 1) (y4_1_2 + 1) (by omega) ⟨(by omega), (by omega)⟩
theorem t_X7_isSnapshot (u0 : S1) (p1 : Int32) : cg_O (f_X7_isSnapshot u0 p1) (fun z => (z.toInt = 0 ∨ (0 ≤ p1.toInt ∧ p1.toInt ≤ 2))) := by
  have lit0 : (0 : Int32).toInt = 0 := by decide
  unfold f_X7_isSnapshot
  refine cg_bn (t_X7_isIn p1 0 2 ) (fun z_1 hz_1 => ?_)
  rw [show (0 : Int32).toInt = 0 by decide] at hz_1
  rw [show (2 : Int32).toInt = 2 by decide] at hz_1
  refine cg_jn ?_
  refine cg_jn ?_
  refine cg_eq2 (Eq.refl ((z_1) : Int32).toInt) (by decide : (0 : Int32).toInt = 0) (fun h_1 => ?_) (fun h_1 => ?_)
  · exact cg_some (show ((vp_nar .boolean 0).toInt = 0 ∨ (0 ≤ p1.toInt ∧ p1.toInt ≤ 2)) from (by first | omega | decide | exact Or.inl (by decide) | exact Or.inr (by omega)))
  · refine cg_chk (inb_e (add_e (by decide : (2 : Int32).toInt = 2) (Eq.refl (p1).toInt) (by omega) (by omega)) (by omega) (by omega)) ?_
    refine cg_eq2 (Eq.refl ((u0 1 (2 + p1).toNatClampNeg) : Int32).toInt) (by decide : (0 : Int32).toInt = 0) (fun h_2 => ?_) (fun h_2 => ?_)
    · exact cg_some (show ((vp_nar .boolean 0).toInt = 0 ∨ (0 ≤ p1.toInt ∧ p1.toInt ≤ 2)) from (by first | omega | decide | exact Or.inl (by decide) | exact Or.inr (by omega)))
    · exact cg_some (show ((vp_nar .boolean 1).toInt = 0 ∨ (0 ≤ p1.toInt ∧ p1.toInt ≤ 2)) from (by first | omega | decide | exact Or.inl (by decide) | exact Or.inr (by omega)))
theorem t_X7_freeBlocks (u0 : S1) : cg_O (f_X7_freeBlocks u0) (fun z => True) := by
  have lit0 : (0 : Int32).toInt = 0 := by decide
  unfold f_X7_freeBlocks
  refine cg_q2 (cg_l2 (fun dr4_1 y4_1_1 y4_1_2 => 0 ≤ y4_1_2.toInt ∧ 64 - y4_1_2.toInt ≤ (dr4_1 : Int)) (fun dr4_1 r4_1 ihr4_1 y4_1_1 y4_1_2 hh => ?_) 64 4096 (by decide) 0 0 ⟨(by first | omega | decide | exact fun q => absurd (by decide) q | (intro _; omega)), (by first | omega | decide | exact fun q => absurd (by decide) q | (intro _; omega))⟩)
  obtain ⟨i_1, i_2⟩ := hh
  refine cg_le2 (by decide : (64 : Int32).toInt = 64) (Eq.refl ((y4_1_2) : Int32).toInt) (fun h_3 => ?_) (fun h_3 => ?_)
  · exact cg_some trivial
  · refine cg_bn (t_X7_frees u0 y4_1_2 ) (fun z_3 hz_3 => ?_)
    refine cg_jn ?_
    refine cg_eq2 (Eq.refl ((z_3) : Int32).toInt) (by decide : (0 : Int32).toInt = 0) (fun h_4 => ?_) (fun h_4 => ?_)
    · have e_5 := (add_e (Eq.refl (y4_1_2).toInt) (by decide : (1 : Int32).toInt = 1) (by omega) (by omega))
      exact ihr4_1 (dr4_1 - 1) (y4_1_1 + 0) (y4_1_2 + 1) (by omega) ⟨(by omega), (by omega)⟩
    · have e_6 := (add_e (Eq.refl (y4_1_2).toInt) (by decide : (1 : Int32).toInt = 1) (by omega) (by omega))
      exact ihr4_1 (dr4_1 - 1) (y4_1_1 + 1) (y4_1_2 + 1) (by omega) ⟨(by omega), (by omega)⟩
theorem t_X7_namesOf (u0 : S1) (p1 : Int32) : cg_O (f_X7_namesOf u0 p1) (fun z => True) := by
  have lit0 : (0 : Int32).toInt = 0 := by decide
  unfold f_X7_namesOf
  refine cg_q2 (cg_l2 (fun dr4_1 y4_1_2 y4_1_3 => 0 ≤ y4_1_3.toInt ∧ 32 - y4_1_3.toInt ≤ (dr4_1 : Int)) (fun dr4_1 r4_1 ihr4_1 y4_1_2 y4_1_3 hh => ?_) 32 4096 (by decide) 0 0 ⟨(by first | omega | decide | exact fun q => absurd (by decide) q | (intro _; omega)), (by first | omega | decide | exact fun q => absurd (by decide) q | (intro _; omega))⟩)
  obtain ⟨i_1, i_2⟩ := hh
  refine cg_le2 (by decide : (32 : Int32).toInt = 32) (Eq.refl ((y4_1_3) : Int32).toInt) (fun h_3 => ?_) (fun h_3 => ?_)
  · exact cg_some trivial
  · refine cg_q3 (cg_l3 (fun dr13_3 y13_3_2 y13_3_3 y13_3_4 => y4_1_3 = y13_3_3 ∧ 0 ≤ y13_3_4.toInt ∧ 16 - y13_3_4.toInt ≤ (dr13_3 : Int)) (fun dr13_3 r13_3 ihr13_3 y13_3_2 y13_3_3 y13_3_4 hh => ?_) 16 4096 (by decide) y4_1_2 y4_1_3 0 ⟨rfl, (by first | omega | decide | exact fun q => absurd (by decide) q | (intro _; omega)), (by first | omega | decide | exact fun q => absurd (by decide) q | (intro _; omega))⟩)
    obtain ⟨rfl, i_4, i_5⟩ := hh
    refine cg_bn (t_X7_kindOf u0 y4_1_3 (by first | omega | decide) (by first | omega | decide)) (fun z_4 hz_4 => ?_)
    refine cg_jn ?_
    refine cg_eq2 (Eq.refl ((z_4) : Int32).toInt) (by decide : (1 : Int32).toInt = 1) (fun h_6 => ?_) (fun h_6 => ?_)
    · refine cg_bn (t_X7_entries u0 0 y4_1_3 (by first | omega | decide) (by first | omega | decide) (by first | omega | decide) (by first | omega | decide)) (fun z_7 hz_7 => ?_)
      refine cg_le2 (Eq.refl ((z_7) : Int32).toInt) (Eq.refl ((y13_3_4) : Int32).toInt) (fun h_7 => ?_) (fun h_7 => ?_)
      · have e_8 := (add_e (Eq.refl (y4_1_3).toInt) (by decide : (1 : Int32).toInt = 1) (by omega) (by omega))
        exact ihr4_1 (dr4_1 - 1) y13_3_2 (y4_1_3 + 1) (by omega) ⟨(by omega), (by omega)⟩
      · refine cg_bn (t_X7_at 0 y4_1_3 (by first | omega | decide) (by first | omega | decide) (by first | omega | decide) (by first | omega | decide)) (fun z_9 hz_9 => ?_)
        rw [show (0 : Int32).toInt = 0 by decide] at hz_9
        refine cg_chk (inb_e (add_e (add_e hz_9 (by decide : (13 : Int32).toInt = 13) (by omega) (by omega)) (Eq.refl (y13_3_4).toInt) (by omega) (by omega)) (by omega) (by omega)) ?_
        refine cg_jn ?_
        refine cg_eq2 (Eq.refl ((u0 0 ((z_9 + 13) + y13_3_4).toNatClampNeg) : Int32).toInt) (Eq.refl ((p1) : Int32).toInt) (fun h_9 => ?_) (fun h_9 => ?_)
        · have e_10 := (add_e (Eq.refl (y13_3_4).toInt) (by decide : (1 : Int32).toInt = 1) (by omega) (by omega))
          exact ihr13_3 (dr13_3 - 1) (y13_3_2 + 1) y4_1_3 (y13_3_4 + 1) (by omega) ⟨rfl, (by omega), (by omega)⟩
        · have e_11 := (add_e (Eq.refl (y13_3_4).toInt) (by decide : (1 : Int32).toInt = 1) (by omega) (by omega))
          exact ihr13_3 (dr13_3 - 1) (y13_3_2 + 0) y4_1_3 (y13_3_4 + 1) (by omega) ⟨rfl, (by omega), (by omega)⟩
    · have e_12 := (add_e (Eq.refl (y4_1_3).toInt) (by decide : (1 : Int32).toInt = 1) (by omega) (by omega))
      exact ihr4_1 (dr4_1 - 1) y13_3_2 (y4_1_3 + 1) (by omega) ⟨(by omega), (by omega)⟩
