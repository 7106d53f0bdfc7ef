theorem t_X7_rights (u0 : S1) (p1 : Int32) (p2 : Int32) (h0 : mg_J u0) : cg_O (f_X7_rights u0 p1 p2) (fun z => (mg_G u0 z.2)) := by
  have lit0 : (0 : Int32).toInt = 0 := by decide
  unfold f_X7_rights
  refine cg_bn (t_X7_isIn p1 0 99999999 ) (fun z_1 hz_1 => ?_)
  rw [show (0 : Int32).toInt = 0 by decide] at hz_1
  rw [show (99999999 : Int32).toInt = 99999999 by decide] at hz_1
  refine cg_jn ?_
  refine cg_jn ?_
  refine cg_eq2 (Eq.refl ((z_1) : Int32).toInt) (by decide : (0 : Int32).toInt = 0) (fun h_1 => ?_) (fun h_1 => ?_)
  · refine cg_jn ?_
    refine cg_pos (by decide) ?_
    refine cg_jn ?_
    refine cg_pos (by decide) ?_
    refine can1_ok (by decide : ¬ (1 : Int32) = 0) (fun W_2 eW_2 => ?_)
    try dsimp only
    have gW_2 := mg_18 (mg_refl h0) eW_2
    refine cg_pos (by decide) ?_
    exact cg_some (show (mg_G u0 W_2) from gW_2.1)
  · refine cg_bn (t_X7_areRights p2 ) (fun z_20 hz_20 => ?_)
    refine cg_eq2 (Eq.refl ((z_20) : Int32).toInt) (by decide : (0 : Int32).toInt = 0) (fun h_3 => ?_) (fun h_3 => ?_)
    · refine cg_jn ?_
      refine cg_pos (by decide) ?_
      refine cg_jn ?_
      refine cg_pos (by decide) ?_
      refine can1_ok (by decide : ¬ (1 : Int32) = 0) (fun W_4 eW_4 => ?_)
      try dsimp only
      have gW_4 := mg_18 (mg_refl h0) eW_4
      refine cg_pos (by decide) ?_
      exact cg_some (show (mg_G u0 W_4) from gW_4.1)
    · refine cg_jn ?_
      refine cg_neg (by decide) ?_
      refine cg_bn (t_X7_walks u0 0 p1 1 ((mg_refl h0)).1 (by first | omega | decide) (by first | omega | decide)) (fun z_17 hz_17 => ?_)
      have hz_17n := hz_17.2
      refine cg_jn ?_
      refine cg_neg (by decide) ?_
      refine cg_eq2 (Eq.refl ((z_17.1) : Int32).toInt) (by decide : (-1 : Int32).toInt = -1) (fun h_5 => ?_) (fun h_5 => ?_)
      · refine can1_ok (by decide : ¬ (2 : Int32) = 0) (fun W_6 eW_6 => ?_)
        try dsimp only
        have gW_6 := mg_18 (mg_smg (mg_refl h0) hz_17.1) eW_6
        refine cg_pos (by decide) ?_
        exact cg_some (show (mg_G u0 W_6) from gW_6.1)
      · refine cg_jn ?_
        refine cg_eq2 (Eq.refl ((z_17.2 7 0) : Int32).toInt) (by decide : (0 : Int32).toInt = 0) (fun h_7 => ?_) (fun h_7 => ?_)
        · refine can0_ok (fun W_8 eW_8 => ?_)
          try dsimp only
          have gW_8 := mg_18 (mg_smg (mg_refl h0) hz_17.1) eW_8
          refine cg_neg (by decide) ?_
          refine cg_bn (t_X7_at 0 z_17.1 (by first | omega | decide) (by first | omega | decide) (by first | omega | decide) (by first | omega | decide)) (fun z_7 hz_7 => ?_)
          rw [show (0 : Int32).toInt = 0 by decide] at hz_7
          refine cg_chk (inb_e (add_e hz_7 (by decide : (2 : Int32).toInt = 2) (by omega) (by omega)) (by omega) (by omega)) ?_
          refine cg_bn (t_X7_at 0 z_17.1 (by first | omega | decide) (by first | omega | decide) (by first | omega | decide) (by first | omega | decide)) (fun z_8 hz_8 => ?_)
          rw [show (0 : Int32).toInt = 0 by decide] at hz_8
          refine cg_chk (inb_e (add_e hz_8 (by decide : (2 : Int32).toInt = 2) (by omega) (by omega)) (by omega) (by omega)) ?_
          refine cg_bv (fun u_9 eu_9 => ?_)
          have gu_9 : mg_G u0 u_9 := by rw [eu_9]; exact (mg_free (r0 := z_17.1.toInt.toNat) (c0 := 2) gW_8.1 ((add_e hz_8 (by decide : (2 : Int32).toInt = 2) (by omega) (by omega)).trans (by omega)) (by decide) (by decide))
          exact cg_some (show (mg_G u0 u_9) from gu_9)
        · refine cg_bn (t_X7_at 0 z_17.1 (by first | omega | decide) (by first | omega | decide) (by first | omega | decide) (by first | omega | decide)) (fun z_14 hz_14 => ?_)
          rw [show (0 : Int32).toInt = 0 by decide] at hz_14
          refine cg_chk (inb_e (add_e hz_14 (by decide : (1 : Int32).toInt = 1) (by omega) (by omega)) (by omega) (by omega)) ?_
          refine cg_eq2 (Eq.refl ((z_17.2 0 (z_14 + 1).toNatClampNeg) : Int32).toInt) (Eq.refl ((z_17.2 7 0) : Int32).toInt) (fun h_9 => ?_) (fun h_9 => ?_)
          · refine can0_ok (fun W_10 eW_10 => ?_)
            try dsimp only
            have gW_10 := mg_18 (mg_smg (mg_refl h0) hz_17.1) eW_10
            refine cg_neg (by decide) ?_
            refine cg_bn (t_X7_at 0 z_17.1 (by first | omega | decide) (by first | omega | decide) (by first | omega | decide) (by first | omega | decide)) (fun z_7 hz_7 => ?_)
            rw [show (0 : Int32).toInt = 0 by decide] at hz_7
            refine cg_chk (inb_e (add_e hz_7 (by decide : (2 : Int32).toInt = 2) (by omega) (by omega)) (by omega) (by omega)) ?_
            refine cg_bn (t_X7_at 0 z_17.1 (by first | omega | decide) (by first | omega | decide) (by first | omega | decide) (by first | omega | decide)) (fun z_8 hz_8 => ?_)
            rw [show (0 : Int32).toInt = 0 by decide] at hz_8
            refine cg_chk (inb_e (add_e hz_8 (by decide : (2 : Int32).toInt = 2) (by omega) (by omega)) (by omega) (by omega)) ?_
            refine cg_bv (fun u_9 eu_9 => ?_)
            have gu_9 : mg_G u0 u_9 := by rw [eu_9]; exact (mg_free (r0 := z_17.1.toInt.toNat) (c0 := 2) gW_10.1 ((add_e hz_8 (by decide : (2 : Int32).toInt = 2) (by omega) (by omega)).trans (by omega)) (by decide) (by decide))
            exact cg_some (show (mg_G u0 u_9) from gu_9)
          · refine can1_ok (by decide : ¬ (3 : Int32) = 0) (fun W_11 eW_11 => ?_)
            try dsimp only
            have gW_11 := mg_18 (mg_smg (mg_refl h0) hz_17.1) eW_11
            refine cg_pos (by decide) ?_
            exact cg_some (show (mg_G u0 W_11) from gW_11.1)
theorem t_X7_own (u0 : S1) (p1 : Int32) (p2 : Int32) (h0 : mg_J u0) : cg_O (f_X7_own u0 p1 p2) (fun z => (mg_G u0 z.2)) := by
  have lit0 : (0 : Int32).toInt = 0 := by decide
  unfold f_X7_own
  refine cg_bn (t_X7_isIn p1 0 99999999 ) (fun z_1 hz_1 => ?_)
  rw [show (0 : Int32).toInt = 0 by decide] at hz_1
  rw [show (99999999 : Int32).toInt = 99999999 by decide] at hz_1
  refine cg_jn ?_
  refine cg_eq2 (Eq.refl ((z_1) : Int32).toInt) (by decide : (0 : Int32).toInt = 0) (fun h_1 => ?_) (fun h_1 => ?_)
  · refine cg_jn ?_
    refine cg_eq2 (Eq.refl ((z_1) : Int32).toInt) (by decide : (0 : Int32).toInt = 0) (fun h_2 => ?_) (fun h_2 => ?_)
    · refine can1_ok (by decide : ¬ (1 : Int32) = 0) (fun W_3 eW_3 => ?_)
      try dsimp only
      have gW_3 := mg_18 (mg_refl h0) eW_3
      refine cg_pos (by decide) ?_
      exact cg_some (show (mg_G u0 W_3) from gW_3.1)
    · exfalso
      omega
  · refine cg_bn (t_X7_walks u0 0 p1 1 ((mg_refl h0)).1 (by first | omega | decide) (by first | omega | decide)) (fun z_16 hz_16 => ?_)
    have hz_16n := hz_16.2
    refine cg_jn ?_
    refine cg_eq2 (Eq.refl ((z_1) : Int32).toInt) (by decide : (0 : Int32).toInt = 0) (fun h_4 => ?_) (fun h_4 => ?_)
    · exfalso
      omega
    · refine cg_jn ?_
      refine cg_eq2 (Eq.refl ((z_16.1) : Int32).toInt) (by decide : (-1 : Int32).toInt = -1) (fun h_5 => ?_) (fun h_5 => ?_)
      · refine can1_ok (by decide : ¬ (2 : Int32) = 0) (fun W_6 eW_6 => ?_)
        try dsimp only
        have gW_6 := mg_18 (mg_smg (mg_refl h0) hz_16.1) eW_6
        refine cg_pos (by decide) ?_
        exact cg_some (show (mg_G u0 W_6) from gW_6.1)
      · refine cg_bn (t_X7_isUser p2 ) (fun z_12 hz_12 => ?_)
        refine cg_eq2 (Eq.refl ((z_12) : Int32).toInt) (by decide : (0 : Int32).toInt = 0) (fun h_7 => ?_) (fun h_7 => ?_)
        · refine can1_ok (by decide : ¬ (2 : Int32) = 0) (fun W_8 eW_8 => ?_)
          try dsimp only
          have gW_8 := mg_18 (mg_smg (mg_refl h0) hz_16.1) eW_8
          refine cg_pos (by decide) ?_
          exact cg_some (show (mg_G u0 W_8) from gW_8.1)
        · refine cg_eq2 (Eq.refl ((z_16.2 7 0) : Int32).toInt) (by decide : (0 : Int32).toInt = 0) (fun h_9 => ?_) (fun h_9 => ?_)
          · refine can0_ok (fun W_10 eW_10 => ?_)
            try dsimp only
            have gW_10 := mg_18 (mg_smg (mg_refl h0) hz_16.1) eW_10
            refine cg_neg (by decide) ?_
            refine cg_bn (t_X7_at 0 z_16.1 (by first | omega | decide) (by first | omega | decide) (by first | omega | decide) (by first | omega | decide)) (fun z_6 hz_6 => ?_)
            rw [show (0 : Int32).toInt = 0 by decide] at hz_6
            refine cg_chk (inb_e (add_e hz_6 (by decide : (1 : Int32).toInt = 1) (by omega) (by omega)) (by omega) (by omega)) ?_
            refine cg_bn (t_X7_at 0 z_16.1 (by first | omega | decide) (by first | omega | decide) (by first | omega | decide) (by first | omega | decide)) (fun z_7 hz_7 => ?_)
            rw [show (0 : Int32).toInt = 0 by decide] at hz_7
            refine cg_chk (inb_e (add_e hz_7 (by decide : (1 : Int32).toInt = 1) (by omega) (by omega)) (by omega) (by omega)) ?_
            refine cg_bv (fun u_8 eu_8 => ?_)
            have gu_8 : mg_G u0 u_8 := by rw [eu_8]; exact (mg_owner (r0 := z_16.1.toInt.toNat) gW_10.1 ((add_e hz_7 (by decide : (1 : Int32).toInt = 1) (by omega) (by omega)).trans (by omega)) (by omega) (by omega))
            exact cg_some (show (mg_G u0 u_8) from gu_8)
          · refine can1_ok (by decide : ¬ (3 : Int32) = 0) (fun W_11 eW_11 => ?_)
            try dsimp only
            have gW_11 := mg_18 (mg_smg (mg_refl h0) hz_16.1) eW_11
            refine cg_pos (by decide) ?_
            exact cg_some (show (mg_G u0 W_11) from gW_11.1)
theorem t_X7_look (u0 : S1) (p1 : Int32) (p2 : Int32) (h0 : mg_J u0) : cg_O (f_X7_look u0 p1 p2) (fun z => (mg_G u0 z.2)) := by
  have lit0 : (0 : Int32).toInt = 0 := by decide
  unfold f_X7_look
  refine cg_bn (t_X7_isIn p1 0 99999999 ) (fun z_1 hz_1 => ?_)
  rw [show (0 : Int32).toInt = 0 by decide] at hz_1
  rw [show (99999999 : Int32).toInt = 99999999 by decide] at hz_1
  refine cg_jn ?_
  refine cg_eq2 (Eq.refl ((z_1) : Int32).toInt) (by decide : (0 : Int32).toInt = 0) (fun h_1 => ?_) (fun h_1 => ?_)
  · refine cg_jn ?_
    refine cg_eq2 (Eq.refl ((z_1) : Int32).toInt) (by decide : (0 : Int32).toInt = 0) (fun h_2 => ?_) (fun h_2 => ?_)
    · refine can1_ok (by decide : ¬ (1 : Int32) = 0) (fun W_3 eW_3 => ?_)
      try dsimp only
      have gW_3 := mg_18 (mg_refl h0) eW_3
      refine cg_jn ?_
      refine cg_pos (by decide) ?_
      exact cg_some (show (mg_G u0 W_3) from gW_3.1)
    · exfalso
      omega
  · refine cg_bn (t_X7_walks u0 0 p1 p2 ((mg_refl h0)).1 (by first | omega | decide) (by first | omega | decide)) (fun z_10 hz_10 => ?_)
    have hz_10n := hz_10.2
    refine cg_jn ?_
    refine cg_eq2 (Eq.refl ((z_1) : Int32).toInt) (by decide : (0 : Int32).toInt = 0) (fun h_4 => ?_) (fun h_4 => ?_)
    · exfalso
      omega
    · refine cg_eq2 (Eq.refl ((z_10.1) : Int32).toInt) (by decide : (-1 : Int32).toInt = -1) (fun h_5 => ?_) (fun h_5 => ?_)
      · refine can1_ok (by decide : ¬ (2 : Int32) = 0) (fun W_6 eW_6 => ?_)
        try dsimp only
        have gW_6 := mg_18 (mg_smg (mg_refl h0) hz_10.1) eW_6
        refine cg_jn ?_
        refine cg_pos (by decide) ?_
        exact cg_some (show (mg_G u0 W_6) from gW_6.1)
      · refine can0_ok (fun W_7 eW_7 => ?_)
        try dsimp only
        have gW_7 := mg_18 (mg_smg (mg_refl h0) hz_10.1) eW_7
        refine cg_jn ?_
        refine cg_neg (by decide) ?_
        exact cg_some (show (mg_G u0 W_7) from gW_7.1)
theorem t_X7_lock (u0 : S1) (p1 : Int32) (p2 : Int32) (p3 : Int32) (p4 : Int32) (h0 : mg_J u0) : cg_O (f_X7_lock u0 p1 p2 p3 p4) (fun z => (mg_G u0 z.2)) := by
  have lit0 : (0 : Int32).toInt = 0 := by decide
  unfold f_X7_lock
  refine cg_bn (t_X7_isHandle u0 p1 ((mg_refl h0)).1) (fun z_1 hz_1 => ?_)
  refine cg_jn ?_
  refine cg_jn ?_
  refine cg_eq2 (Eq.refl ((z_1) : Int32).toInt) (by decide : (0 : Int32).toInt = 0) (fun h_1 => ?_) (fun h_1 => ?_)
  · refine cg_jn ?_
    refine cg_jn ?_
    refine cg_pos (by decide) ?_
    refine cg_jn ?_
    refine cg_eq2 (Eq.refl ((p4) : Int32).toInt) (by decide : (0 : Int32).toInt = 0) (fun h_2 => ?_) (fun h_2 => ?_)
    · refine cg_q3 (cg_l3 (fun dr68_5 y68_5_6 y68_5_8 y68_5_9 => (y68_5_6.toInt ≠ 0 → (0 ≤ y68_5_9.toInt ∧ 16 - y68_5_9.toInt ≤ (dr68_5 : Int) ∧ p3.toInt ≤ 15 ∧ 0 ≤ p1.toInt ∧ p1.toInt ≤ 29))) (fun dr68_5 r68_5 ihr68_5 y68_5_6 y68_5_8 y68_5_9 hh => ?_) 16 4096 (by decide) 0 0 p2 (by first | omega | decide | exact fun q => absurd (by decide) q | (intro _; omega)))
      obtain i_3 := hh
      refine cg_jn ?_
      refine cg_eq2 (Eq.refl ((y68_5_6) : Int32).toInt) (by decide : (0 : Int32).toInt = 0) (fun h_4 => ?_) (fun h_4 => ?_)
      · refine cg_jn ?_
        refine cg_pos (by decide) ?_
        refine can1_ok (by decide : ¬ (1 : Int32) = 0) (fun W_5 eW_5 => ?_)
        try dsimp only
        have gW_5 := mg_18 (mg_refl h0) eW_5
        refine cg_pos (by decide) ?_
        exact cg_some (show (mg_G u0 W_5) from gW_5.1)
      · refine cg_lt2 (Eq.refl ((p3) : Int32).toInt) (Eq.refl ((y68_5_9) : Int32).toInt) (fun h_6 => ?_) (fun h_6 => ?_)
        · refine cg_jn ?_
          refine cg_pos (by decide) ?_
          refine can1_ok (by decide : ¬ (1 : Int32) = 0) (fun W_7 eW_7 => ?_)
          try dsimp only
          have gW_7 := mg_18 (mg_refl h0) eW_7
          refine cg_pos (by decide) ?_
          exact cg_some (show (mg_G u0 W_7) from gW_7.1)
        · refine cg_bn (t_X7_canLock u0 p1 y68_5_9 1 ((mg_refl h0)).1 (by first | omega | decide) (by first | omega | decide) (by first | omega | decide) (by first | omega | decide)) (fun z_18 hz_18 => ?_)
          refine cg_chk (inb_e (add_e (cmul (by decide : (16 : Int32).toInt = 16) (by omega) (by omega)) (Eq.refl (y68_5_9).toInt) (by omega) (by omega)) (by omega) (by omega)) ?_
          refine cg_jn ?_
          refine cg_eq2 (Eq.refl ((u0 13 ((16 * p1) + y68_5_9).toNatClampNeg) : Int32).toInt) (by decide : (1 : Int32).toInt = 1) (fun h_8 => ?_) (fun h_8 => ?_)
          · have e_9 := (add_e (Eq.refl (y68_5_9).toInt) (by decide : (1 : Int32).toInt = 1) (by omega) (by omega))
            exact ihr68_5 (dr68_5 - 1) z_18 (y68_5_8 + 0) (y68_5_9 + 1) (by omega) (by first | omega | (intro _; omega))
          · have e_10 := (add_e (Eq.refl (y68_5_9).toInt) (by decide : (1 : Int32).toInt = 1) (by omega) (by omega))
            exact ihr68_5 (dr68_5 - 1) z_18 (y68_5_8 + 1) (y68_5_9 + 1) (by omega) (by first | omega | (intro _; omega))
    · refine cg_q3 (cg_l3 (fun dr68_5 y68_5_6 y68_5_8 y68_5_9 => (y68_5_6.toInt ≠ 0 → (0 ≤ y68_5_9.toInt ∧ 16 - y68_5_9.toInt ≤ (dr68_5 : Int) ∧ p3.toInt ≤ 15 ∧ 0 ≤ p1.toInt ∧ p1.toInt ≤ 29))) (fun dr68_5 r68_5 ihr68_5 y68_5_6 y68_5_8 y68_5_9 hh => ?_) 16 4096 (by decide) 0 0 p2 (by first | omega | decide | exact fun q => absurd (by decide) q | (intro _; omega)))
      obtain i_11 := hh
      refine cg_jn ?_
      refine cg_eq2 (Eq.refl ((y68_5_6) : Int32).toInt) (by decide : (0 : Int32).toInt = 0) (fun h_12 => ?_) (fun h_12 => ?_)
      · refine cg_jn ?_
        refine cg_pos (by decide) ?_
        refine can1_ok (by decide : ¬ (1 : Int32) = 0) (fun W_13 eW_13 => ?_)
        try dsimp only
        have gW_13 := mg_18 (mg_refl h0) eW_13
        refine cg_pos (by decide) ?_
        exact cg_some (show (mg_G u0 W_13) from gW_13.1)
      · refine cg_lt2 (Eq.refl ((p3) : Int32).toInt) (Eq.refl ((y68_5_9) : Int32).toInt) (fun h_14 => ?_) (fun h_14 => ?_)
        · refine cg_jn ?_
          refine cg_pos (by decide) ?_
          refine can1_ok (by decide : ¬ (1 : Int32) = 0) (fun W_15 eW_15 => ?_)
          try dsimp only
          have gW_15 := mg_18 (mg_refl h0) eW_15
          refine cg_pos (by decide) ?_
          exact cg_some (show (mg_G u0 W_15) from gW_15.1)
        · refine cg_bn (t_X7_canLock u0 p1 y68_5_9 2 ((mg_refl h0)).1 (by first | omega | decide) (by first | omega | decide) (by first | omega | decide) (by first | omega | decide)) (fun z_18 hz_18 => ?_)
          refine cg_chk (inb_e (add_e (cmul (by decide : (16 : Int32).toInt = 16) (by omega) (by omega)) (Eq.refl (y68_5_9).toInt) (by omega) (by omega)) (by omega) (by omega)) ?_
          refine cg_jn ?_
          refine cg_eq2 (Eq.refl ((u0 13 ((16 * p1) + y68_5_9).toNatClampNeg) : Int32).toInt) (by decide : (2 : Int32).toInt = 2) (fun h_16 => ?_) (fun h_16 => ?_)
          · have e_17 := (add_e (Eq.refl (y68_5_9).toInt) (by decide : (1 : Int32).toInt = 1) (by omega) (by omega))
            exact ihr68_5 (dr68_5 - 1) z_18 (y68_5_8 + 0) (y68_5_9 + 1) (by omega) (by first | omega | (intro _; omega))
          · have e_18 := (add_e (Eq.refl (y68_5_9).toInt) (by decide : (1 : Int32).toInt = 1) (by omega) (by omega))
            exact ihr68_5 (dr68_5 - 1) z_18 (y68_5_8 + 1) (y68_5_9 + 1) (by omega) (by first | omega | (intro _; omega))
  · refine cg_bn (t_X7_isPage p2 ) (fun z_27 hz_27 => ?_)
    refine cg_eq2 (Eq.refl ((z_27) : Int32).toInt) (by decide : (0 : Int32).toInt = 0) (fun h_19 => ?_) (fun h_19 => ?_)
    · refine cg_jn ?_
      refine cg_jn ?_
      refine cg_pos (by decide) ?_
      refine cg_jn ?_
      refine cg_eq2 (Eq.refl ((p4) : Int32).toInt) (by decide : (0 : Int32).toInt = 0) (fun h_20 => ?_) (fun h_20 => ?_)
      · refine cg_q3 (cg_l3 (fun dr68_5 y68_5_6 y68_5_8 y68_5_9 => (y68_5_6.toInt ≠ 0 → (0 ≤ y68_5_9.toInt ∧ 16 - y68_5_9.toInt ≤ (dr68_5 : Int) ∧ p3.toInt ≤ 15 ∧ 0 ≤ p1.toInt ∧ p1.toInt ≤ 29))) (fun dr68_5 r68_5 ihr68_5 y68_5_6 y68_5_8 y68_5_9 hh => ?_) 16 4096 (by decide) 0 0 p2 (by first | omega | decide | exact fun q => absurd (by decide) q | (intro _; omega)))
        obtain i_21 := hh
        refine cg_jn ?_
        refine cg_eq2 (Eq.refl ((y68_5_6) : Int32).toInt) (by decide : (0 : Int32).toInt = 0) (fun h_22 => ?_) (fun h_22 => ?_)
        · refine cg_jn ?_
          refine cg_pos (by decide) ?_
          refine can1_ok (by decide : ¬ (1 : Int32) = 0) (fun W_23 eW_23 => ?_)
          try dsimp only
          have gW_23 := mg_18 (mg_refl h0) eW_23
          refine cg_pos (by decide) ?_
          exact cg_some (show (mg_G u0 W_23) from gW_23.1)
        · refine cg_lt2 (Eq.refl ((p3) : Int32).toInt) (Eq.refl ((y68_5_9) : Int32).toInt) (fun h_24 => ?_) (fun h_24 => ?_)
          · refine cg_jn ?_
            refine cg_pos (by decide) ?_
            refine can1_ok (by decide : ¬ (1 : Int32) = 0) (fun W_25 eW_25 => ?_)
            try dsimp only
            have gW_25 := mg_18 (mg_refl h0) eW_25
            refine cg_pos (by decide) ?_
            exact cg_some (show (mg_G u0 W_25) from gW_25.1)
          · refine cg_bn (t_X7_canLock u0 p1 y68_5_9 1 ((mg_refl h0)).1 (by first | omega | decide) (by first | omega | decide) (by first | omega | decide) (by first | omega | decide)) (fun z_18 hz_18 => ?_)
            refine cg_chk (inb_e (add_e (cmul (by decide : (16 : Int32).toInt = 16) (by omega) (by omega)) (Eq.refl (y68_5_9).toInt) (by omega) (by omega)) (by omega) (by omega)) ?_
            refine cg_jn ?_
            refine cg_eq2 (Eq.refl ((u0 13 ((16 * p1) + y68_5_9).toNatClampNeg) : Int32).toInt) (by decide : (1 : Int32).toInt = 1) (fun h_26 => ?_) (fun h_26 => ?_)
            · have e_27 := (add_e (Eq.refl (y68_5_9).toInt) (by decide : (1 : Int32).toInt = 1) (by omega) (by omega))
              exact ihr68_5 (dr68_5 - 1) z_18 (y68_5_8 + 0) (y68_5_9 + 1) (by omega) (by first | omega | (intro _; omega))
            · have e_28 := (add_e (Eq.refl (y68_5_9).toInt) (by decide : (1 : Int32).toInt = 1) (by omega) (by omega))
              exact ihr68_5 (dr68_5 - 1) z_18 (y68_5_8 + 1) (y68_5_9 + 1) (by omega) (by first | omega | (intro _; omega))
      · refine cg_q3 (cg_l3 (fun dr68_5 y68_5_6 y68_5_8 y68_5_9 => (y68_5_6.toInt ≠ 0 → (0 ≤ y68_5_9.toInt ∧ 16 - y68_5_9.toInt ≤ (dr68_5 : Int) ∧ p3.toInt ≤ 15 ∧ 0 ≤ p1.toInt ∧ p1.toInt ≤ 29))) (fun dr68_5 r68_5 ihr68_5 y68_5_6 y68_5_8 y68_5_9 hh => ?_) 16 4096 (by decide) 0 0 p2 (by first | omega | decide | exact fun q => absurd (by decide) q | (intro _; omega)))
        obtain i_29 := hh
        refine cg_jn ?_
        refine cg_eq2 (Eq.refl ((y68_5_6) : Int32).toInt) (by decide : (0 : Int32).toInt = 0) (fun h_30 => ?_) (fun h_30 => ?_)
        · refine cg_jn ?_
          refine cg_pos (by decide) ?_
          refine can1_ok (by decide : ¬ (1 : Int32) = 0) (fun W_31 eW_31 => ?_)
          try dsimp only
          have gW_31 := mg_18 (mg_refl h0) eW_31
          refine cg_pos (by decide) ?_
          exact cg_some (show (mg_G u0 W_31) from gW_31.1)
        · refine cg_lt2 (Eq.refl ((p3) : Int32).toInt) (Eq.refl ((y68_5_9) : Int32).toInt) (fun h_32 => ?_) (fun h_32 => ?_)
          · refine cg_jn ?_
            refine cg_pos (by decide) ?_
            refine can1_ok (by decide : ¬ (1 : Int32) = 0) (fun W_33 eW_33 => ?_)
            try dsimp only
            have gW_33 := mg_18 (mg_refl h0) eW_33
            refine cg_pos (by decide) ?_
            exact cg_some (show (mg_G u0 W_33) from gW_33.1)
          · refine cg_bn (t_X7_canLock u0 p1 y68_5_9 2 ((mg_refl h0)).1 (by first | omega | decide) (by first | omega | decide) (by first | omega | decide) (by first | omega | decide)) (fun z_18 hz_18 => ?_)
            refine cg_chk (inb_e (add_e (cmul (by decide : (16 : Int32).toInt = 16) (by omega) (by omega)) (Eq.refl (y68_5_9).toInt) (by omega) (by omega)) (by omega) (by omega)) ?_
            refine cg_jn ?_
            refine cg_eq2 (Eq.refl ((u0 13 ((16 * p1) + y68_5_9).toNatClampNeg) : Int32).toInt) (by decide : (2 : Int32).toInt = 2) (fun h_34 => ?_) (fun h_34 => ?_)
            · have e_35 := (add_e (Eq.refl (y68_5_9).toInt) (by decide : (1 : Int32).toInt = 1) (by omega) (by omega))
              exact ihr68_5 (dr68_5 - 1) z_18 (y68_5_8 + 0) (y68_5_9 + 1) (by omega) (by first | omega | (intro _; omega))
            · have e_36 := (add_e (Eq.refl (y68_5_9).toInt) (by decide : (1 : Int32).toInt = 1) (by omega) (by omega))
              exact ihr68_5 (dr68_5 - 1) z_18 (y68_5_8 + 1) (y68_5_9 + 1) (by omega) (by first | omega | (intro _; omega))
    · refine cg_bn (t_X7_isPage p3 ) (fun z_29 hz_29 => ?_)
      refine cg_eq2 (Eq.refl ((z_29) : Int32).toInt) (by decide : (0 : Int32).toInt = 0) (fun h_37 => ?_) (fun h_37 => ?_)
      · refine cg_jn ?_
        refine cg_jn ?_
        refine cg_pos (by decide) ?_
        refine cg_jn ?_
        refine cg_eq2 (Eq.refl ((p4) : Int32).toInt) (by decide : (0 : Int32).toInt = 0) (fun h_38 => ?_) (fun h_38 => ?_)
        · refine cg_q3 (cg_l3 (fun dr68_5 y68_5_6 y68_5_8 y68_5_9 => (y68_5_6.toInt ≠ 0 → (0 ≤ y68_5_9.toInt ∧ 16 - y68_5_9.toInt ≤ (dr68_5 : Int) ∧ p3.toInt ≤ 15 ∧ 0 ≤ p1.toInt ∧ p1.toInt ≤ 29))) (fun dr68_5 r68_5 ihr68_5 y68_5_6 y68_5_8 y68_5_9 hh => ?_) 16 4096 (by decide) 0 0 p2 (by first | omega | decide | exact fun q => absurd (by decide) q | (intro _; omega)))
          obtain i_39 := hh
          refine cg_jn ?_
          refine cg_eq2 (Eq.refl ((y68_5_6) : Int32).toInt) (by decide : (0 : Int32).toInt = 0) (fun h_40 => ?_) (fun h_40 => ?_)
          · refine cg_jn ?_
            refine cg_pos (by decide) ?_
            refine can1_ok (by decide : ¬ (1 : Int32) = 0) (fun W_41 eW_41 => ?_)
            try dsimp only
            have gW_41 := mg_18 (mg_refl h0) eW_41
            refine cg_pos (by decide) ?_
            exact cg_some (show (mg_G u0 W_41) from gW_41.1)
          · refine cg_lt2 (Eq.refl ((p3) : Int32).toInt) (Eq.refl ((y68_5_9) : Int32).toInt) (fun h_42 => ?_) (fun h_42 => ?_)
            · refine cg_jn ?_
              refine cg_pos (by decide) ?_
              refine can1_ok (by decide : ¬ (1 : Int32) = 0) (fun W_43 eW_43 => ?_)
              try dsimp only
              have gW_43 := mg_18 (mg_refl h0) eW_43
              refine cg_pos (by decide) ?_
              exact cg_some (show (mg_G u0 W_43) from gW_43.1)
            · refine cg_bn (t_X7_canLock u0 p1 y68_5_9 1 ((mg_refl h0)).1 (by first | omega | decide) (by first | omega | decide) (by first | omega | decide) (by first | omega | decide)) (fun z_18 hz_18 => ?_)
              refine cg_chk (inb_e (add_e (cmul (by decide : (16 : Int32).toInt = 16) (by omega) (by omega)) (Eq.refl (y68_5_9).toInt) (by omega) (by omega)) (by omega) (by omega)) ?_
              refine cg_jn ?_
              refine cg_eq2 (Eq.refl ((u0 13 ((16 * p1) + y68_5_9).toNatClampNeg) : Int32).toInt) (by decide : (1 : Int32).toInt = 1) (fun h_44 => ?_) (fun h_44 => ?_)
              · have e_45 := (add_e (Eq.refl (y68_5_9).toInt) (by decide : (1 : Int32).toInt = 1) (by omega) (by omega))
                exact ihr68_5 (dr68_5 - 1) z_18 (y68_5_8 + 0) (y68_5_9 + 1) (by omega) (by first | omega | (intro _; omega))
              · have e_46 := (add_e (Eq.refl (y68_5_9).toInt) (by decide : (1 : Int32).toInt = 1) (by omega) (by omega))
                exact ihr68_5 (dr68_5 - 1) z_18 (y68_5_8 + 1) (y68_5_9 + 1) (by omega) (by first | omega | (intro _; omega))
        · refine cg_q3 (cg_l3 (fun dr68_5 y68_5_6 y68_5_8 y68_5_9 => (y68_5_6.toInt ≠ 0 → (0 ≤ y68_5_9.toInt ∧ 16 - y68_5_9.toInt ≤ (dr68_5 : Int) ∧ p3.toInt ≤ 15 ∧ 0 ≤ p1.toInt ∧ p1.toInt ≤ 29))) (fun dr68_5 r68_5 ihr68_5 y68_5_6 y68_5_8 y68_5_9 hh => ?_) 16 4096 (by decide) 0 0 p2 (by first | omega | decide | exact fun q => absurd (by decide) q | (intro _; omega)))
          obtain i_47 := hh
          refine cg_jn ?_
          refine cg_eq2 (Eq.refl ((y68_5_6) : Int32).toInt) (by decide : (0 : Int32).toInt = 0) (fun h_48 => ?_) (fun h_48 => ?_)
          · refine cg_jn ?_
            refine cg_pos (by decide) ?_
            refine can1_ok (by decide : ¬ (1 : Int32) = 0) (fun W_49 eW_49 => ?_)
            try dsimp only
            have gW_49 := mg_18 (mg_refl h0) eW_49
            refine cg_pos (by decide) ?_
            exact cg_some (show (mg_G u0 W_49) from gW_49.1)
          · refine cg_lt2 (Eq.refl ((p3) : Int32).toInt) (Eq.refl ((y68_5_9) : Int32).toInt) (fun h_50 => ?_) (fun h_50 => ?_)
            · refine cg_jn ?_
              refine cg_pos (by decide) ?_
              refine can1_ok (by decide : ¬ (1 : Int32) = 0) (fun W_51 eW_51 => ?_)
              try dsimp only
              have gW_51 := mg_18 (mg_refl h0) eW_51
              refine cg_pos (by decide) ?_
              exact cg_some (show (mg_G u0 W_51) from gW_51.1)
            · refine cg_bn (t_X7_canLock u0 p1 y68_5_9 2 ((mg_refl h0)).1 (by first | omega | decide) (by first | omega | decide) (by first | omega | decide) (by first | omega | decide)) (fun z_18 hz_18 => ?_)
              refine cg_chk (inb_e (add_e (cmul (by decide : (16 : Int32).toInt = 16) (by omega) (by omega)) (Eq.refl (y68_5_9).toInt) (by omega) (by omega)) (by omega) (by omega)) ?_
              refine cg_jn ?_
              refine cg_eq2 (Eq.refl ((u0 13 ((16 * p1) + y68_5_9).toNatClampNeg) : Int32).toInt) (by decide : (2 : Int32).toInt = 2) (fun h_52 => ?_) (fun h_52 => ?_)
              · have e_53 := (add_e (Eq.refl (y68_5_9).toInt) (by decide : (1 : Int32).toInt = 1) (by omega) (by omega))
                exact ihr68_5 (dr68_5 - 1) z_18 (y68_5_8 + 0) (y68_5_9 + 1) (by omega) (by first | omega | (intro _; omega))
              · have e_54 := (add_e (Eq.refl (y68_5_9).toInt) (by decide : (1 : Int32).toInt = 1) (by omega) (by omega))
                exact ihr68_5 (dr68_5 - 1) z_18 (y68_5_8 + 1) (y68_5_9 + 1) (by omega) (by first | omega | (intro _; omega))
      · refine cg_jn ?_
        refine cg_jn ?_
        refine cg_neg (by decide) ?_
        refine cg_chk (inb_e (Eq.refl (p1).toInt) (by omega) (by omega)) ?_
        refine cg_eq2 (Eq.refl ((u0 12 (p1).toNatClampNeg) : Int32).toInt) (by decide : (0 : Int32).toInt = 0) (fun h_55 => ?_) (fun h_55 => ?_)
        · refine cg_jn ?_
          refine cg_eq2 (Eq.refl ((p4) : Int32).toInt) (by decide : (0 : Int32).toInt = 0) (fun h_56 => ?_) (fun h_56 => ?_)
          · refine cg_q3 (cg_l3 (fun dr68_5 y68_5_6 y68_5_8 y68_5_9 => (y68_5_6.toInt ≠ 0 → (0 ≤ y68_5_9.toInt ∧ 16 - y68_5_9.toInt ≤ (dr68_5 : Int) ∧ p3.toInt ≤ 15 ∧ 0 ≤ p1.toInt ∧ p1.toInt ≤ 29))) (fun dr68_5 r68_5 ihr68_5 y68_5_6 y68_5_8 y68_5_9 hh => ?_) 16 4096 (by decide) 0 0 p2 (by first | omega | decide | exact fun q => absurd (by decide) q | (intro _; omega)))
            obtain i_57 := hh
            refine cg_jn ?_
            refine cg_eq2 (Eq.refl ((y68_5_6) : Int32).toInt) (by decide : (0 : Int32).toInt = 0) (fun h_58 => ?_) (fun h_58 => ?_)
            · refine cg_jn ?_
              refine cg_neg (by decide) ?_
              refine cg_le2 (Eq.refl ((p2) : Int32).toInt) (Eq.refl ((p3) : Int32).toInt) (fun h_59 => ?_) (fun h_59 => ?_)
              · refine cg_eq2 (Eq.refl ((y68_5_6) : Int32).toInt) (by decide : (0 : Int32).toInt = 0) (fun h_60 => ?_) (fun h_60 => ?_)
                · refine can1_ok (by decide : ¬ (3 : Int32) = 0) (fun W_61 eW_61 => ?_)
                  try dsimp only
                  have gW_61 := mg_18 (mg_refl h0) eW_61
                  refine cg_pos (by decide) ?_
                  exact cg_some (show (mg_G u0 W_61) from gW_61.1)
                · exfalso
                  omega
              · refine can1_ok (by decide : ¬ (2 : Int32) = 0) (fun W_62 eW_62 => ?_)
                try dsimp only
                have gW_62 := mg_18 (mg_refl h0) eW_62
                refine cg_pos (by decide) ?_
                exact cg_some (show (mg_G u0 W_62) from gW_62.1)
            · refine cg_lt2 (Eq.refl ((p3) : Int32).toInt) (Eq.refl ((y68_5_9) : Int32).toInt) (fun h_63 => ?_) (fun h_63 => ?_)
              · refine cg_jn ?_
                refine cg_neg (by decide) ?_
                refine cg_le2 (Eq.refl ((p2) : Int32).toInt) (Eq.refl ((p3) : Int32).toInt) (fun h_64 => ?_) (fun h_64 => ?_)
                · refine cg_eq2 (Eq.refl ((y68_5_6) : Int32).toInt) (by decide : (0 : Int32).toInt = 0) (fun h_65 => ?_) (fun h_65 => ?_)
                  · exfalso
                    omega
                  · refine can0_ok (fun W_66 eW_66 => ?_)
                    try dsimp only
                    have gW_66 := mg_18 (mg_refl h0) eW_66
                    refine cg_neg (by decide) ?_
                    refine cg_q2 (cg_l2 (fun dr163_10 y163_10_9 u163_10_0 => mg_G u0 u163_10_0 ∧ 0 ≤ y163_10_9.toInt ∧ 16 - y163_10_9.toInt ≤ (dr163_10 : Int)) (fun dr163_10 r163_10 ihr163_10 y163_10_9 u163_10_0 hh => ?_) 16 4096 (by decide) p2 W_66 ⟨gW_66.1, (by first | omega | decide | exact fun q => absurd (by decide) q | (intro _; omega)), (by first | omega | decide | exact fun q => absurd (by decide) q | (intro _; omega))⟩)
                    obtain ⟨su163_10_0, i_67, i_68⟩ := hh
                    refine cg_lt2 (Eq.refl ((p3) : Int32).toInt) (Eq.refl ((y163_10_9) : Int32).toInt) (fun h_69 => ?_) (fun h_69 => ?_)
                    · exact cg_some (show (mg_G u0 u163_10_0) from su163_10_0)
                    · refine cg_chk (inb_e (add_e (cmul (by decide : (16 : Int32).toInt = 16) (by omega) (by omega)) (Eq.refl (y163_10_9).toInt) (by omega) (by omega)) (by omega) (by omega)) ?_
                      refine cg_bv (fun u_12 eu_12 => ?_)
                      have gu_12 : mg_G u0 u_12 := by rw [eu_12]; exact (mg_up' su163_10_0 (by decide))
                      have e_70 := (add_e (Eq.refl (y163_10_9).toInt) (by decide : (1 : Int32).toInt = 1) (by omega) (by omega))
                      exact ihr163_10 (dr163_10 - 1) (y163_10_9 + 1) u_12 (by omega) ⟨gu_12, (by omega), (by omega)⟩
                · refine can1_ok (by decide : ¬ (2 : Int32) = 0) (fun W_71 eW_71 => ?_)
                  try dsimp only
                  have gW_71 := mg_18 (mg_refl h0) eW_71
                  refine cg_pos (by decide) ?_
                  exact cg_some (show (mg_G u0 W_71) from gW_71.1)
              · refine cg_bn (t_X7_canLock u0 p1 y68_5_9 1 ((mg_refl h0)).1 (by first | omega | decide) (by first | omega | decide) (by first | omega | decide) (by first | omega | decide)) (fun z_18 hz_18 => ?_)
                refine cg_chk (inb_e (add_e (cmul (by decide : (16 : Int32).toInt = 16) (by omega) (by omega)) (Eq.refl (y68_5_9).toInt) (by omega) (by omega)) (by omega) (by omega)) ?_
                refine cg_jn ?_
                refine cg_eq2 (Eq.refl ((u0 13 ((16 * p1) + y68_5_9).toNatClampNeg) : Int32).toInt) (by decide : (1 : Int32).toInt = 1) (fun h_72 => ?_) (fun h_72 => ?_)
                · have e_73 := (add_e (Eq.refl (y68_5_9).toInt) (by decide : (1 : Int32).toInt = 1) (by omega) (by omega))
                  exact ihr68_5 (dr68_5 - 1) z_18 (y68_5_8 + 0) (y68_5_9 + 1) (by omega) (by first | omega | (intro _; omega))
                · have e_74 := (add_e (Eq.refl (y68_5_9).toInt) (by decide : (1 : Int32).toInt = 1) (by omega) (by omega))
                  exact ihr68_5 (dr68_5 - 1) z_18 (y68_5_8 + 1) (y68_5_9 + 1) (by omega) (by first | omega | (intro _; omega))
          · refine cg_q3 (cg_l3 (fun dr68_5 y68_5_6 y68_5_8 y68_5_9 => (y68_5_6.toInt ≠ 0 → (0 ≤ y68_5_9.toInt ∧ 16 - y68_5_9.toInt ≤ (dr68_5 : Int) ∧ p3.toInt ≤ 15 ∧ 0 ≤ p1.toInt ∧ p1.toInt ≤ 29))) (fun dr68_5 r68_5 ihr68_5 y68_5_6 y68_5_8 y68_5_9 hh => ?_) 16 4096 (by decide) 0 0 p2 (by first | omega | decide | exact fun q => absurd (by decide) q | (intro _; omega)))
            obtain i_75 := hh
            refine cg_jn ?_
            refine cg_eq2 (Eq.refl ((y68_5_6) : Int32).toInt) (by decide : (0 : Int32).toInt = 0) (fun h_76 => ?_) (fun h_76 => ?_)
            · refine cg_jn ?_
              refine cg_neg (by decide) ?_
              refine cg_le2 (Eq.refl ((p2) : Int32).toInt) (Eq.refl ((p3) : Int32).toInt) (fun h_77 => ?_) (fun h_77 => ?_)
              · refine cg_eq2 (Eq.refl ((y68_5_6) : Int32).toInt) (by decide : (0 : Int32).toInt = 0) (fun h_78 => ?_) (fun h_78 => ?_)
                · refine can1_ok (by decide : ¬ (3 : Int32) = 0) (fun W_79 eW_79 => ?_)
                  try dsimp only
                  have gW_79 := mg_18 (mg_refl h0) eW_79
                  refine cg_pos (by decide) ?_
                  exact cg_some (show (mg_G u0 W_79) from gW_79.1)
                · exfalso
                  omega
              · refine can1_ok (by decide : ¬ (2 : Int32) = 0) (fun W_80 eW_80 => ?_)
                try dsimp only
                have gW_80 := mg_18 (mg_refl h0) eW_80
                refine cg_pos (by decide) ?_
                exact cg_some (show (mg_G u0 W_80) from gW_80.1)
            · refine cg_lt2 (Eq.refl ((p3) : Int32).toInt) (Eq.refl ((y68_5_9) : Int32).toInt) (fun h_81 => ?_) (fun h_81 => ?_)
              · refine cg_jn ?_
                refine cg_neg (by decide) ?_
                refine cg_le2 (Eq.refl ((p2) : Int32).toInt) (Eq.refl ((p3) : Int32).toInt) (fun h_82 => ?_) (fun h_82 => ?_)
                · refine cg_eq2 (Eq.refl ((y68_5_6) : Int32).toInt) (by decide : (0 : Int32).toInt = 0) (fun h_83 => ?_) (fun h_83 => ?_)
                  · exfalso
                    omega
                  · refine can0_ok (fun W_84 eW_84 => ?_)
                    try dsimp only
                    have gW_84 := mg_18 (mg_refl h0) eW_84
                    refine cg_neg (by decide) ?_
                    refine cg_q2 (cg_l2 (fun dr163_10 y163_10_9 u163_10_0 => mg_G u0 u163_10_0 ∧ 0 ≤ y163_10_9.toInt ∧ 16 - y163_10_9.toInt ≤ (dr163_10 : Int)) (fun dr163_10 r163_10 ihr163_10 y163_10_9 u163_10_0 hh => ?_) 16 4096 (by decide) p2 W_84 ⟨gW_84.1, (by first | omega | decide | exact fun q => absurd (by decide) q | (intro _; omega)), (by first | omega | decide | exact fun q => absurd (by decide) q | (intro _; omega))⟩)
                    obtain ⟨su163_10_0, i_85, i_86⟩ := hh
                    refine cg_lt2 (Eq.refl ((p3) : Int32).toInt) (Eq.refl ((y163_10_9) : Int32).toInt) (fun h_87 => ?_) (fun h_87 => ?_)
                    · exact cg_some (show (mg_G u0 u163_10_0) from su163_10_0)
                    · refine cg_chk (inb_e (add_e (cmul (by decide : (16 : Int32).toInt = 16) (by omega) (by omega)) (Eq.refl (y163_10_9).toInt) (by omega) (by omega)) (by omega) (by omega)) ?_
                      refine cg_bv (fun u_12 eu_12 => ?_)
                      have gu_12 : mg_G u0 u_12 := by rw [eu_12]; exact (mg_up' su163_10_0 (by decide))
                      have e_88 := (add_e (Eq.refl (y163_10_9).toInt) (by decide : (1 : Int32).toInt = 1) (by omega) (by omega))
                      exact ihr163_10 (dr163_10 - 1) (y163_10_9 + 1) u_12 (by omega) ⟨gu_12, (by omega), (by omega)⟩
                · refine can1_ok (by decide : ¬ (2 : Int32) = 0) (fun W_89 eW_89 => ?_)
                  try dsimp only
                  have gW_89 := mg_18 (mg_refl h0) eW_89
                  refine cg_pos (by decide) ?_
                  exact cg_some (show (mg_G u0 W_89) from gW_89.1)
              · refine cg_bn (t_X7_canLock u0 p1 y68_5_9 2 ((mg_refl h0)).1 (by first | omega | decide) (by first | omega | decide) (by first | omega | decide) (by first | omega | decide)) (fun z_18 hz_18 => ?_)
                refine cg_chk (inb_e (add_e (cmul (by decide : (16 : Int32).toInt = 16) (by omega) (by omega)) (Eq.refl (y68_5_9).toInt) (by omega) (by omega)) (by omega) (by omega)) ?_
                refine cg_jn ?_
                refine cg_eq2 (Eq.refl ((u0 13 ((16 * p1) + y68_5_9).toNatClampNeg) : Int32).toInt) (by decide : (2 : Int32).toInt = 2) (fun h_90 => ?_) (fun h_90 => ?_)
                · have e_91 := (add_e (Eq.refl (y68_5_9).toInt) (by decide : (1 : Int32).toInt = 1) (by omega) (by omega))
                  exact ihr68_5 (dr68_5 - 1) z_18 (y68_5_8 + 0) (y68_5_9 + 1) (by omega) (by first | omega | (intro _; omega))
                · have e_92 := (add_e (Eq.refl (y68_5_9).toInt) (by decide : (1 : Int32).toInt = 1) (by omega) (by omega))
                  exact ihr68_5 (dr68_5 - 1) z_18 (y68_5_8 + 1) (y68_5_9 + 1) (by omega) (by first | omega | (intro _; omega))
        · refine cg_jn ?_
          refine cg_eq2 (Eq.refl ((p4) : Int32).toInt) (by decide : (0 : Int32).toInt = 0) (fun h_93 => ?_) (fun h_93 => ?_)
          · refine cg_q3 (cg_l3 (fun dr68_5 y68_5_6 y68_5_8 y68_5_9 => (y68_5_6.toInt ≠ 0 → (0 ≤ y68_5_9.toInt ∧ 16 - y68_5_9.toInt ≤ (dr68_5 : Int) ∧ p3.toInt ≤ 15 ∧ 0 ≤ p1.toInt ∧ p1.toInt ≤ 29))) (fun dr68_5 r68_5 ihr68_5 y68_5_6 y68_5_8 y68_5_9 hh => ?_) 16 4096 (by decide) 1 0 p2 (by first | omega | decide | exact fun q => absurd (by decide) q | (intro _; omega)))
            obtain i_94 := hh
            refine cg_jn ?_
            refine cg_eq2 (Eq.refl ((y68_5_6) : Int32).toInt) (by decide : (0 : Int32).toInt = 0) (fun h_95 => ?_) (fun h_95 => ?_)
            · refine cg_jn ?_
              refine cg_neg (by decide) ?_
              refine cg_le2 (Eq.refl ((p2) : Int32).toInt) (Eq.refl ((p3) : Int32).toInt) (fun h_96 => ?_) (fun h_96 => ?_)
              · refine cg_eq2 (Eq.refl ((y68_5_6) : Int32).toInt) (by decide : (0 : Int32).toInt = 0) (fun h_97 => ?_) (fun h_97 => ?_)
                · refine can1_ok (by decide : ¬ (3 : Int32) = 0) (fun W_98 eW_98 => ?_)
                  try dsimp only
                  have gW_98 := mg_18 (mg_refl h0) eW_98
                  refine cg_pos (by decide) ?_
                  exact cg_some (show (mg_G u0 W_98) from gW_98.1)
                · exfalso
                  omega
              · refine can1_ok (by decide : ¬ (2 : Int32) = 0) (fun W_99 eW_99 => ?_)
                try dsimp only
                have gW_99 := mg_18 (mg_refl h0) eW_99
                refine cg_pos (by decide) ?_
                exact cg_some (show (mg_G u0 W_99) from gW_99.1)
            · refine cg_lt2 (Eq.refl ((p3) : Int32).toInt) (Eq.refl ((y68_5_9) : Int32).toInt) (fun h_100 => ?_) (fun h_100 => ?_)
              · refine cg_jn ?_
                refine cg_neg (by decide) ?_
                refine cg_le2 (Eq.refl ((p2) : Int32).toInt) (Eq.refl ((p3) : Int32).toInt) (fun h_101 => ?_) (fun h_101 => ?_)
                · refine cg_eq2 (Eq.refl ((y68_5_6) : Int32).toInt) (by decide : (0 : Int32).toInt = 0) (fun h_102 => ?_) (fun h_102 => ?_)
                  · exfalso
                    omega
                  · refine can0_ok (fun W_103 eW_103 => ?_)
                    try dsimp only
                    have gW_103 := mg_18 (mg_refl h0) eW_103
                    refine cg_neg (by decide) ?_
                    refine cg_q2 (cg_l2 (fun dr163_10 y163_10_9 u163_10_0 => mg_G u0 u163_10_0 ∧ 0 ≤ y163_10_9.toInt ∧ 16 - y163_10_9.toInt ≤ (dr163_10 : Int)) (fun dr163_10 r163_10 ihr163_10 y163_10_9 u163_10_0 hh => ?_) 16 4096 (by decide) p2 W_103 ⟨gW_103.1, (by first | omega | decide | exact fun q => absurd (by decide) q | (intro _; omega)), (by first | omega | decide | exact fun q => absurd (by decide) q | (intro _; omega))⟩)
                    obtain ⟨su163_10_0, i_104, i_105⟩ := hh
                    refine cg_lt2 (Eq.refl ((p3) : Int32).toInt) (Eq.refl ((y163_10_9) : Int32).toInt) (fun h_106 => ?_) (fun h_106 => ?_)
                    · exact cg_some (show (mg_G u0 u163_10_0) from su163_10_0)
                    · refine cg_chk (inb_e (add_e (cmul (by decide : (16 : Int32).toInt = 16) (by omega) (by omega)) (Eq.refl (y163_10_9).toInt) (by omega) (by omega)) (by omega) (by omega)) ?_
                      refine cg_bv (fun u_12 eu_12 => ?_)
                      have gu_12 : mg_G u0 u_12 := by rw [eu_12]; exact (mg_up' su163_10_0 (by decide))
                      have e_107 := (add_e (Eq.refl (y163_10_9).toInt) (by decide : (1 : Int32).toInt = 1) (by omega) (by omega))
                      exact ihr163_10 (dr163_10 - 1) (y163_10_9 + 1) u_12 (by omega) ⟨gu_12, (by omega), (by omega)⟩
                · refine can1_ok (by decide : ¬ (2 : Int32) = 0) (fun W_108 eW_108 => ?_)
                  try dsimp only
                  have gW_108 := mg_18 (mg_refl h0) eW_108
                  refine cg_pos (by decide) ?_
                  exact cg_some (show (mg_G u0 W_108) from gW_108.1)
              · refine cg_bn (t_X7_canLock u0 p1 y68_5_9 1 ((mg_refl h0)).1 (by first | omega | decide) (by first | omega | decide) (by first | omega | decide) (by first | omega | decide)) (fun z_18 hz_18 => ?_)
                refine cg_chk (inb_e (add_e (cmul (by decide : (16 : Int32).toInt = 16) (by omega) (by omega)) (Eq.refl (y68_5_9).toInt) (by omega) (by omega)) (by omega) (by omega)) ?_
                refine cg_jn ?_
                refine cg_eq2 (Eq.refl ((u0 13 ((16 * p1) + y68_5_9).toNatClampNeg) : Int32).toInt) (by decide : (1 : Int32).toInt = 1) (fun h_109 => ?_) (fun h_109 => ?_)
                · have e_110 := (add_e (Eq.refl (y68_5_9).toInt) (by decide : (1 : Int32).toInt = 1) (by omega) (by omega))
                  exact ihr68_5 (dr68_5 - 1) z_18 (y68_5_8 + 0) (y68_5_9 + 1) (by omega) (by first | omega | (intro _; omega))
                · have e_111 := (add_e (Eq.refl (y68_5_9).toInt) (by decide : (1 : Int32).toInt = 1) (by omega) (by omega))
                  exact ihr68_5 (dr68_5 - 1) z_18 (y68_5_8 + 1) (y68_5_9 + 1) (by omega) (by first | omega | (intro _; omega))
          · refine cg_q3 (cg_l3 (fun dr68_5 y68_5_6 y68_5_8 y68_5_9 => (y68_5_6.toInt ≠ 0 → (0 ≤ y68_5_9.toInt ∧ 16 - y68_5_9.toInt ≤ (dr68_5 : Int) ∧ p3.toInt ≤ 15 ∧ 0 ≤ p1.toInt ∧ p1.toInt ≤ 29))) (fun dr68_5 r68_5 ihr68_5 y68_5_6 y68_5_8 y68_5_9 hh => ?_) 16 4096 (by decide) 1 0 p2 (by first | omega | decide | exact fun q => absurd (by decide) q | (intro _; omega)))
            obtain i_112 := hh
            refine cg_jn ?_
            refine cg_eq2 (Eq.refl ((y68_5_6) : Int32).toInt) (by decide : (0 : Int32).toInt = 0) (fun h_113 => ?_) (fun h_113 => ?_)
            · refine cg_jn ?_
              refine cg_neg (by decide) ?_
              refine cg_le2 (Eq.refl ((p2) : Int32).toInt) (Eq.refl ((p3) : Int32).toInt) (fun h_114 => ?_) (fun h_114 => ?_)
              · refine cg_eq2 (Eq.refl ((y68_5_6) : Int32).toInt) (by decide : (0 : Int32).toInt = 0) (fun h_115 => ?_) (fun h_115 => ?_)
                · refine can1_ok (by decide : ¬ (3 : Int32) = 0) (fun W_116 eW_116 => ?_)
                  try dsimp only
                  have gW_116 := mg_18 (mg_refl h0) eW_116
                  refine cg_pos (by decide) ?_
                  exact cg_some (show (mg_G u0 W_116) from gW_116.1)
                · exfalso
                  omega
              · refine can1_ok (by decide : ¬ (2 : Int32) = 0) (fun W_117 eW_117 => ?_)
                try dsimp only
                have gW_117 := mg_18 (mg_refl h0) eW_117
                refine cg_pos (by decide) ?_
                exact cg_some (show (mg_G u0 W_117) from gW_117.1)
            · refine cg_lt2 (Eq.refl ((p3) : Int32).toInt) (Eq.refl ((y68_5_9) : Int32).toInt) (fun h_118 => ?_) (fun h_118 => ?_)
              · refine cg_jn ?_
                refine cg_neg (by decide) ?_
                refine cg_le2 (Eq.refl ((p2) : Int32).toInt) (Eq.refl ((p3) : Int32).toInt) (fun h_119 => ?_) (fun h_119 => ?_)
                · refine cg_eq2 (Eq.refl ((y68_5_6) : Int32).toInt) (by decide : (0 : Int32).toInt = 0) (fun h_120 => ?_) (fun h_120 => ?_)
                  · exfalso
                    omega
                  · refine can0_ok (fun W_121 eW_121 => ?_)
                    try dsimp only
                    have gW_121 := mg_18 (mg_refl h0) eW_121
                    refine cg_neg (by decide) ?_
                    refine cg_q2 (cg_l2 (fun dr163_10 y163_10_9 u163_10_0 => mg_G u0 u163_10_0 ∧ 0 ≤ y163_10_9.toInt ∧ 16 - y163_10_9.toInt ≤ (dr163_10 : Int)) (fun dr163_10 r163_10 ihr163_10 y163_10_9 u163_10_0 hh => ?_) 16 4096 (by decide) p2 W_121 ⟨gW_121.1, (by first | omega | decide | exact fun q => absurd (by decide) q | (intro _; omega)), (by first | omega | decide | exact fun q => absurd (by decide) q | (intro _; omega))⟩)
                    obtain ⟨su163_10_0, i_122, i_123⟩ := hh
                    refine cg_lt2 (Eq.refl ((p3) : Int32).toInt) (Eq.refl ((y163_10_9) : Int32).toInt) (fun h_124 => ?_) (fun h_124 => ?_)
                    · exact cg_some (show (mg_G u0 u163_10_0) from su163_10_0)
                    · refine cg_chk (inb_e (add_e (cmul (by decide : (16 : Int32).toInt = 16) (by omega) (by omega)) (Eq.refl (y163_10_9).toInt) (by omega) (by omega)) (by omega) (by omega)) ?_
                      refine cg_bv (fun u_12 eu_12 => ?_)
                      have gu_12 : mg_G u0 u_12 := by rw [eu_12]; exact (mg_up' su163_10_0 (by decide))
                      have e_125 := (add_e (Eq.refl (y163_10_9).toInt) (by decide : (1 : Int32).toInt = 1) (by omega) (by omega))
                      exact ihr163_10 (dr163_10 - 1) (y163_10_9 + 1) u_12 (by omega) ⟨gu_12, (by omega), (by omega)⟩
                · refine can1_ok (by decide : ¬ (2 : Int32) = 0) (fun W_126 eW_126 => ?_)
                  try dsimp only
                  have gW_126 := mg_18 (mg_refl h0) eW_126
                  refine cg_pos (by decide) ?_
                  exact cg_some (show (mg_G u0 W_126) from gW_126.1)
              · refine cg_bn (t_X7_canLock u0 p1 y68_5_9 2 ((mg_refl h0)).1 (by first | omega | decide) (by first | omega | decide) (by first | omega | decide) (by first | omega | decide)) (fun z_18 hz_18 => ?_)
                refine cg_chk (inb_e (add_e (cmul (by decide : (16 : Int32).toInt = 16) (by omega) (by omega)) (Eq.refl (y68_5_9).toInt) (by omega) (by omega)) (by omega) (by omega)) ?_
                refine cg_jn ?_
                refine cg_eq2 (Eq.refl ((u0 13 ((16 * p1) + y68_5_9).toNatClampNeg) : Int32).toInt) (by decide : (2 : Int32).toInt = 2) (fun h_127 => ?_) (fun h_127 => ?_)
                · have e_128 := (add_e (Eq.refl (y68_5_9).toInt) (by decide : (1 : Int32).toInt = 1) (by omega) (by omega))
                  exact ihr68_5 (dr68_5 - 1) z_18 (y68_5_8 + 0) (y68_5_9 + 1) (by omega) (by first | omega | (intro _; omega))
                · have e_129 := (add_e (Eq.refl (y68_5_9).toInt) (by decide : (1 : Int32).toInt = 1) (by omega) (by omega))
                  exact ihr68_5 (dr68_5 - 1) z_18 (y68_5_8 + 1) (y68_5_9 + 1) (by omega) (by first | omega | (intro _; omega))
theorem t_X7_unlock (u0 : S1) (p1 : Int32) (p2 : Int32) (p3 : Int32) (h0 : mg_J u0) : cg_O (f_X7_unlock u0 p1 p2 p3) (fun z => (mg_G u0 z.2)) := by
  have lit0 : (0 : Int32).toInt = 0 := by decide
  unfold f_X7_unlock
  refine cg_bn (t_X7_isHandle u0 p1 ((mg_refl h0)).1) (fun z_1 hz_1 => ?_)
  refine cg_jn ?_
  refine cg_jn ?_
  refine cg_eq2 (Eq.refl ((z_1) : Int32).toInt) (by decide : (0 : Int32).toInt = 0) (fun h_1 => ?_) (fun h_1 => ?_)
  · refine cg_jn ?_
    refine cg_pos (by decide) ?_
    refine can1_ok (by decide : ¬ (1 : Int32) = 0) (fun W_2 eW_2 => ?_)
    try dsimp only
    have gW_2 := mg_18 (mg_refl h0) eW_2
    refine cg_pos (by decide) ?_
    exact cg_some (show (mg_G u0 W_2) from gW_2.1)
  · refine cg_bn (t_X7_isPage p2 ) (fun z_16 hz_16 => ?_)
    refine cg_eq2 (Eq.refl ((z_16) : Int32).toInt) (by decide : (0 : Int32).toInt = 0) (fun h_3 => ?_) (fun h_3 => ?_)
    · refine cg_jn ?_
      refine cg_pos (by decide) ?_
      refine can1_ok (by decide : ¬ (1 : Int32) = 0) (fun W_4 eW_4 => ?_)
      try dsimp only
      have gW_4 := mg_18 (mg_refl h0) eW_4
      refine cg_pos (by decide) ?_
      exact cg_some (show (mg_G u0 W_4) from gW_4.1)
    · refine cg_bn (t_X7_isPage p3 ) (fun z_18 hz_18 => ?_)
      refine cg_eq2 (Eq.refl ((z_18) : Int32).toInt) (by decide : (0 : Int32).toInt = 0) (fun h_5 => ?_) (fun h_5 => ?_)
      · refine cg_jn ?_
        refine cg_pos (by decide) ?_
        refine can1_ok (by decide : ¬ (1 : Int32) = 0) (fun W_6 eW_6 => ?_)
        try dsimp only
        have gW_6 := mg_18 (mg_refl h0) eW_6
        refine cg_pos (by decide) ?_
        exact cg_some (show (mg_G u0 W_6) from gW_6.1)
      · refine cg_jn ?_
        refine cg_neg (by decide) ?_
        refine cg_le2 (Eq.refl ((p2) : Int32).toInt) (Eq.refl ((p3) : Int32).toInt) (fun h_7 => ?_) (fun h_7 => ?_)
        · refine cg_chk (inb_e (Eq.refl (p1).toInt) (by omega) (by omega)) ?_
          refine cg_eq2 (Eq.refl ((u0 12 (p1).toNatClampNeg) : Int32).toInt) (by decide : (0 : Int32).toInt = 0) (fun h_8 => ?_) (fun h_8 => ?_)
          · refine can1_ok (by decide : ¬ (3 : Int32) = 0) (fun W_9 eW_9 => ?_)
            try dsimp only
            have gW_9 := mg_18 (mg_refl h0) eW_9
            refine cg_pos (by decide) ?_
            exact cg_some (show (mg_G u0 W_9) from gW_9.1)
          · refine can0_ok (fun W_10 eW_10 => ?_)
            try dsimp only
            have gW_10 := mg_18 (mg_refl h0) eW_10
            refine cg_neg (by decide) ?_
            refine cg_q3 (cg_l3 (fun dr76_6 y76_6_5 y76_6_6 u76_6_0 => mg_G u0 u76_6_0 ∧ 0 ≤ y76_6_6.toInt ∧ 16 - y76_6_6.toInt ≤ (dr76_6 : Int)) (fun dr76_6 r76_6 ihr76_6 y76_6_5 y76_6_6 u76_6_0 hh => ?_) 16 4096 (by decide) 0 p2 W_10 ⟨gW_10.1, (by first | omega | decide | exact fun q => absurd (by decide) q | (intro _; omega)), (by first | omega | decide | exact fun q => absurd (by decide) q | (intro _; omega))⟩)
            obtain ⟨su76_6_0, i_11, i_12⟩ := hh
            refine cg_lt2 (Eq.refl ((p3) : Int32).toInt) (Eq.refl ((y76_6_6) : Int32).toInt) (fun h_13 => ?_) (fun h_13 => ?_)
            · exact cg_some (show (mg_G u0 u76_6_0) from su76_6_0)
            · refine cg_chk (inb_e (add_e (cmul (by decide : (16 : Int32).toInt = 16) (by omega) (by omega)) (Eq.refl (y76_6_6).toInt) (by omega) (by omega)) (by omega) (by omega)) ?_
              refine cg_jn ?_
              refine cg_le2 (Eq.refl ((u76_6_0 13 ((16 * p1) + y76_6_6).toNatClampNeg) : Int32).toInt) (by decide : (0 : Int32).toInt = 0) (fun h_14 => ?_) (fun h_14 => ?_)
              · refine cg_chk (inb_e (add_e (cmul (by decide : (16 : Int32).toInt = 16) (by omega) (by omega)) (Eq.refl (y76_6_6).toInt) (by omega) (by omega)) (by omega) (by omega)) ?_
                refine cg_bv (fun u_9 eu_9 => ?_)
                have gu_9 : mg_G u0 u_9 := by rw [eu_9]; exact (mg_up' su76_6_0 (by decide))
                have e_15 := (add_e (Eq.refl (y76_6_6).toInt) (by decide : (1 : Int32).toInt = 1) (by omega) (by omega))
                exact ihr76_6 (dr76_6 - 1) (y76_6_5 + 0) (y76_6_6 + 1) u_9 (by omega) ⟨gu_9, (by omega), (by omega)⟩
              · refine cg_chk (inb_e (add_e (cmul (by decide : (16 : Int32).toInt = 16) (by omega) (by omega)) (Eq.refl (y76_6_6).toInt) (by omega) (by omega)) (by omega) (by omega)) ?_
                refine cg_bv (fun u_9 eu_9 => ?_)
                have gu_9 : mg_G u0 u_9 := by rw [eu_9]; exact (mg_up' su76_6_0 (by decide))
                have e_16 := (add_e (Eq.refl (y76_6_6).toInt) (by decide : (1 : Int32).toInt = 1) (by omega) (by omega))
                exact ihr76_6 (dr76_6 - 1) (y76_6_5 + 1) (y76_6_6 + 1) u_9 (by omega) ⟨gu_9, (by omega), (by omega)⟩
        · refine can1_ok (by decide : ¬ (2 : Int32) = 0) (fun W_17 eW_17 => ?_)
          try dsimp only
          have gW_17 := mg_18 (mg_refl h0) eW_17
          refine cg_pos (by decide) ?_
          exact cg_some (show (mg_G u0 W_17) from gW_17.1)
theorem t_X7_lockOf (u0 : S1) (p1 : Int32) (p2 : Int32) (h0 : mg_J u0) : cg_O (f_X7_lockOf u0 p1 p2) (fun z => (mg_G u0 z.2)) := by
  have lit0 : (0 : Int32).toInt = 0 := by decide
  unfold f_X7_lockOf
  refine cg_bn (t_X7_isHandle u0 p1 ((mg_refl h0)).1) (fun z_1 hz_1 => ?_)
  refine cg_jn ?_
  refine cg_jn ?_
  refine cg_eq2 (Eq.refl ((z_1) : Int32).toInt) (by decide : (0 : Int32).toInt = 0) (fun h_1 => ?_) (fun h_1 => ?_)
  · refine can1_ok (by decide : ¬ (1 : Int32) = 0) (fun W_2 eW_2 => ?_)
    try dsimp only
    have gW_2 := mg_18 (mg_refl h0) eW_2
    refine cg_jn ?_
    refine cg_pos (by decide) ?_
    exact cg_some (show (mg_G u0 W_2) from gW_2.1)
  · refine cg_bn (t_X7_isPage p2 ) (fun z_8 hz_8 => ?_)
    refine cg_eq2 (Eq.refl ((z_8) : Int32).toInt) (by decide : (0 : Int32).toInt = 0) (fun h_3 => ?_) (fun h_3 => ?_)
    · refine can1_ok (by decide : ¬ (1 : Int32) = 0) (fun W_4 eW_4 => ?_)
      try dsimp only
      have gW_4 := mg_18 (mg_refl h0) eW_4
      refine cg_jn ?_
      refine cg_pos (by decide) ?_
      exact cg_some (show (mg_G u0 W_4) from gW_4.1)
    · refine can0_ok (fun W_5 eW_5 => ?_)
      try dsimp only
      have gW_5 := mg_18 (mg_refl h0) eW_5
      refine cg_jn ?_
      refine cg_neg (by decide) ?_
      refine cg_chk (inb_e (add_e (cmul (by decide : (16 : Int32).toInt = 16) (by omega) (by omega)) (Eq.refl (p2).toInt) (by omega) (by omega)) (by omega) (by omega)) ?_
      exact cg_some (show (mg_G u0 W_5) from gW_5.1)
theorem t_X7_read (u0 : S1) (p1 : Int32) (p2 : Int32) (h0 : mg_J u0) : cg_O (f_X7_read u0 p1 p2) (fun z => (mg_G u0 z.2)) := by
  have lit0 : (0 : Int32).toInt = 0 := by decide
  unfold f_X7_read
  refine cg_bn (t_X7_isHandle u0 p1 ((mg_refl h0)).1) (fun z_1 hz_1 => ?_)
  refine cg_jn ?_
  refine cg_jn ?_
  refine cg_eq2 (Eq.refl ((z_1) : Int32).toInt) (by decide : (0 : Int32).toInt = 0) (fun h_1 => ?_) (fun h_1 => ?_)
  · refine cg_jn ?_
    refine cg_pos (by decide) ?_
    refine can1_ok (by decide : ¬ (1 : Int32) = 0) (fun W_2 eW_2 => ?_)
    try dsimp only
    have gW_2 := mg_18 (mg_refl h0) eW_2
    refine cg_pos (by decide) ?_
    exact cg_some (show (mg_G u0 W_2) from gW_2.1)
  · refine cg_bn (t_X7_isPage p2 ) (fun z_15 hz_15 => ?_)
    refine cg_eq2 (Eq.refl ((z_15) : Int32).toInt) (by decide : (0 : Int32).toInt = 0) (fun h_3 => ?_) (fun h_3 => ?_)
    · refine cg_jn ?_
      refine cg_pos (by decide) ?_
      refine can1_ok (by decide : ¬ (1 : Int32) = 0) (fun W_4 eW_4 => ?_)
      try dsimp only
      have gW_4 := mg_18 (mg_refl h0) eW_4
      refine cg_pos (by decide) ?_
      exact cg_some (show (mg_G u0 W_4) from gW_4.1)
    · refine cg_jn ?_
      refine cg_neg (by decide) ?_
      refine cg_chk (inb_e (Eq.refl (p1).toInt) (by omega) (by omega)) ?_
      refine cg_eq2 (Eq.refl ((u0 12 (p1).toNatClampNeg) : Int32).toInt) (by decide : (0 : Int32).toInt = 0) (fun h_5 => ?_) (fun h_5 => ?_)
      · refine can1_ok (by decide : ¬ (2 : Int32) = 0) (fun W_6 eW_6 => ?_)
        try dsimp only
        have gW_6 := mg_18 (mg_refl h0) eW_6
        refine cg_pos (by decide) ?_
        exact cg_some (show (mg_G u0 W_6) from gW_6.1)
      · refine can0_ok (fun W_7 eW_7 => ?_)
        try dsimp only
        have gW_7 := mg_18 (mg_refl h0) eW_7
        refine cg_neg (by decide) ?_
        refine cg_chk (inb_e (Eq.refl (p1).toInt) (by omega) (by omega)) ?_
        have b_8 := mg_jh W_7 (gW_7.1).1 p1 (by omega) (by omega)
        refine cg_chk (inb_e (add_e (mul_e (by decide : (16 : Int32).toInt = 16) (Eq.refl (W_7 10 (p1).toNatClampNeg).toInt) (by omega) (by omega)) (Eq.refl (p2).toInt) (by omega) (by omega)) (by omega) (by omega)) ?_
        refine cg_jn ?_
        have b_10 := mg_jh W_7 (gW_7.1).1 p1 (by omega) (by omega)
        refine cg_eq2 (Eq.refl ((W_7 4 ((16 * (W_7 10 (p1).toNatClampNeg)) + p2).toNatClampNeg) : Int32).toInt) (by decide : (0 : Int32).toInt = 0) (fun h_9 => ?_) (fun h_9 => ?_)
        · refine cg_chk (inb_e (Eq.refl (p1).toInt) (by omega) (by omega)) ?_
          have b_11 := mg_jh W_7 (gW_7.1).1 p1 (by omega) (by omega)
          refine cg_bn (t_X7_at 0 (W_7 10 (p1).toNatClampNeg) (by first | omega | decide) (by first | omega | decide) (by first | omega | decide) (by first | omega | decide)) (fun z_8 hz_8 => ?_)
          rw [show (0 : Int32).toInt = 0 by decide] at hz_8
          refine cg_chk (inb_e (add_e (add_e hz_8 (by decide : (37 : Int32).toInt = 37) (by omega) (by omega)) (Eq.refl (p2).toInt) (by omega) (by omega)) (by omega) (by omega)) ?_
          refine cg_eq2 (Eq.refl ((W_7 0 ((z_8 + 37) + p2).toNatClampNeg) : Int32).toInt) (by decide : (2 : Int32).toInt = 2) (fun h_12 => ?_) (fun h_12 => ?_)
          · refine cg_chk (inb_e (Eq.refl (p1).toInt) (by omega) (by omega)) ?_
            have b_13 := mg_jh W_7 (gW_7.1).1 p1 (by omega) (by omega)
            refine cg_bn (t_X7_blockOf W_7 (W_7 10 (p1).toNatClampNeg) p2 (gW_7.1).1 (by first | omega | decide) (by first | omega | decide) (by first | omega | decide) (by first | omega | decide)) (fun z_10 hz_10 => ?_)
            have qa := mg_a (V := W_7) ((add_e (add_e hz_8 (by decide : (37 : Int32).toInt = 37) (by omega) (by omega)) (Eq.refl (p2).toInt) (by omega) (by omega)).trans (by omega) : ((z_8 + 37) + p2).toInt = ((53 * (W_7 10 (p1).toNatClampNeg).toInt.toNat + (37 + p2.toInt.toNat) : Nat) : Int))
            have qb := ((gW_7.1).1.1.2.2 (W_7 10 (p1).toNatClampNeg).toInt.toNat p2.toInt.toNat (by omega) (by omega)).2.2 (by omega)
            refine cg_chk (inb_e (Eq.refl (z_10).toInt) (by omega) (by omega)) ?_
            exact cg_some (show (mg_G u0 W_7) from gW_7.1)
          · exact cg_some (show (mg_G u0 W_7) from gW_7.1)
        · have b_14 := mg_jh W_7 (gW_7.1).1 p1 (by omega) (by omega)
          refine cg_chk (inb_e (add_e (mul_e (by decide : (16 : Int32).toInt = 16) (Eq.refl (W_7 10 (p1).toNatClampNeg).toInt) (by omega) (by omega)) (Eq.refl (p2).toInt) (by omega) (by omega)) (by omega) (by omega)) ?_
          have b_15 := mg_jh W_7 (gW_7.1).1 p1 (by omega) (by omega)
          exact cg_some (show (mg_G u0 W_7) from gW_7.1)
theorem t_X7_cut (u0 : S1) (p1 : Int32) (p2 : Int32) (h0 : mg_J u0) : cg_O (f_X7_cut u0 p1 p2) (fun z => (mg_G u0 z.2)) := by
  have lit0 : (0 : Int32).toInt = 0 := by decide
  unfold f_X7_cut
  refine cg_bn (t_X7_isHandle u0 p1 ((mg_refl h0)).1) (fun z_1 hz_1 => ?_)
  refine cg_jn ?_
  refine cg_jn ?_
  refine cg_eq2 (Eq.refl ((z_1) : Int32).toInt) (by decide : (0 : Int32).toInt = 0) (fun h_1 => ?_) (fun h_1 => ?_)
  · refine cg_jn ?_
    refine cg_pos (by decide) ?_
    refine can1_ok (by decide : ¬ (1 : Int32) = 0) (fun W_2 eW_2 => ?_)
    try dsimp only
    have gW_2 := mg_18 (mg_refl h0) eW_2
    refine cg_pos (by decide) ?_
    exact cg_some (show (mg_G u0 W_2) from gW_2.1)
  · refine cg_bn (t_X7_isPage p2 ) (fun z_17 hz_17 => ?_)
    refine cg_eq2 (Eq.refl ((z_17) : Int32).toInt) (by decide : (0 : Int32).toInt = 0) (fun h_3 => ?_) (fun h_3 => ?_)
    · refine cg_jn ?_
      refine cg_pos (by decide) ?_
      refine can1_ok (by decide : ¬ (1 : Int32) = 0) (fun W_4 eW_4 => ?_)
      try dsimp only
      have gW_4 := mg_18 (mg_refl h0) eW_4
      refine cg_pos (by decide) ?_
      exact cg_some (show (mg_G u0 W_4) from gW_4.1)
    · refine cg_jn ?_
      refine cg_neg (by decide) ?_
      refine cg_chk (inb_e (Eq.refl (p1).toInt) (by omega) (by omega)) ?_
      refine cg_jn ?_
      refine cg_eq2 (Eq.refl ((u0 12 (p1).toNatClampNeg) : Int32).toInt) (by decide : (0 : Int32).toInt = 0) (fun h_5 => ?_) (fun h_5 => ?_)
      · refine can1_ok (by decide : ¬ (2 : Int32) = 0) (fun W_6 eW_6 => ?_)
        try dsimp only
        have gW_6 := mg_18 (mg_refl h0) eW_6
        refine cg_pos (by decide) ?_
        exact cg_some (show (mg_G u0 W_6) from gW_6.1)
      · refine cg_chk (inb_e (Eq.refl (p1).toInt) (by omega) (by omega)) ?_
        refine cg_eq2 (Eq.refl ((u0 11 (p1).toNatClampNeg) : Int32).toInt) (by decide : (0 : Int32).toInt = 0) (fun h_7 => ?_) (fun h_7 => ?_)
        · refine can1_ok (by decide : ¬ (2 : Int32) = 0) (fun W_8 eW_8 => ?_)
          try dsimp only
          have gW_8 := mg_18 (mg_refl h0) eW_8
          refine cg_pos (by decide) ?_
          exact cg_some (show (mg_G u0 W_8) from gW_8.1)
        · refine can0_ok (fun W_9 eW_9 => ?_)
          try dsimp only
          have gW_9 := mg_18 (mg_refl h0) eW_9
          refine cg_neg (by decide) ?_
          refine cg_chk (inb_e (Eq.refl (p1).toInt) (by omega) (by omega)) ?_
          have b_10 := mg_jh W_9 (gW_9.1).1 p1 (by omega) (by omega)
          refine cg_bn (t_X7_pagesOf W_9 (W_9 10 (p1).toNatClampNeg) (gW_9.1).1 (by first | omega | decide) (by first | omega | decide)) (fun z_6 hz_6 => ?_)
          refine cg_q2 (cg_l2 (fun dr76_7 y76_7_5 u76_7_0 => mg_G u0 u76_7_0 ∧ 0 ≤ y76_7_5.toInt ∧ 16 - y76_7_5.toInt ≤ (dr76_7 : Int)) (fun dr76_7 r76_7 ihr76_7 y76_7_5 u76_7_0 hh => ?_) 16 4096 (by decide) p2 W_9 ⟨gW_9.1, (by first | omega | decide | exact fun q => absurd (by decide) q | (intro _; omega)), (by first | omega | decide | exact fun q => absurd (by decide) q | (intro _; omega))⟩)
          obtain ⟨su76_7_0, i_11, i_12⟩ := hh
          refine cg_le2 (by decide : (16 : Int32).toInt = 16) (Eq.refl ((y76_7_5) : Int32).toInt) (fun h_13 => ?_) (fun h_13 => ?_)
          · refine cg_chk (inb_e (Eq.refl (p1).toInt) (by omega) (by omega)) ?_
            have b_14 := mg_jh u76_7_0 (su76_7_0).1 p1 (by omega) (by omega)
            refine cg_bn (t_X7_pagesOf u76_7_0 (u76_7_0 10 (p1).toNatClampNeg) (su76_7_0).1 (by first | omega | decide) (by first | omega | decide)) (fun z_9 hz_9 => ?_)
            exact cg_some (show (mg_G u0 u76_7_0) from su76_7_0)
          · refine cg_chk (inb_e (Eq.refl (p1).toInt) (by omega) (by omega)) ?_
            have b_15 := mg_jh u76_7_0 (su76_7_0).1 p1 (by omega) (by omega)
            refine cg_bn (t_X7_digs u0 u76_7_0 (u76_7_0 10 (p1).toNatClampNeg) y76_7_5 su76_7_0 (by omega) (by omega) (by first | omega | decide) (by first | omega | decide)) (fun z_10 hz_10 => ?_)
            have e_16 := (add_e (Eq.refl (y76_7_5).toInt) (by decide : (1 : Int32).toInt = 1) (by omega) (by omega))
            exact ihr76_7 (dr76_7 - 1) (y76_7_5 + 1) z_10 (by omega) ⟨hz_10.1, (by omega), (by omega)⟩
theorem t_X7_flush (u0 : S1) (p1 : Int32) (h0 : mg_J u0) : cg_O (f_X7_flush u0 p1) (fun z => (mg_G u0 z.2)) := by
  have lit0 : (0 : Int32).toInt = 0 := by decide
  unfold f_X7_flush
  refine cg_bn (t_X7_isIn p1 1 512 ) (fun z_1 hz_1 => ?_)
  rw [show (1 : Int32).toInt = 1 by decide] at hz_1
  rw [show (512 : Int32).toInt = 512 by decide] at hz_1
  refine cg_jn ?_
  refine cg_eq2 (Eq.refl ((z_1) : Int32).toInt) (by decide : (0 : Int32).toInt = 0) (fun h_1 => ?_) (fun h_1 => ?_)
  · refine can1_ok (by decide : ¬ (1 : Int32) = 0) (fun W_2 eW_2 => ?_)
    try dsimp only
    have gW_2 := mg_18 (mg_refl h0) eW_2
    refine cg_jn ?_
    refine cg_pos (by decide) ?_
    exact cg_some (show (mg_G u0 W_2) from gW_2.1)
  · refine can0_ok (fun W_3 eW_3 => ?_)
    try dsimp only
    have gW_3 := mg_18 (mg_refl h0) eW_3
    refine cg_jn ?_
    refine cg_neg (by decide) ?_
    refine cg_bn (t_X7_flushesAll W_3 0 512 p1 (gW_3.1).1 (by first | omega | decide) (by first | omega | decide)) (fun z_6 hz_6 => ?_)
    exact cg_some (show (mg_G u0 z_6.2) from (mg_trans gW_3.1 hz_6.1))
theorem t_X7_sync (u0 : S1) (p1 : Int32) (h0 : mg_J u0) : cg_O (f_X7_sync u0 p1) (fun z => (mg_G u0 z.2)) := by
  have lit0 : (0 : Int32).toInt = 0 := by decide
  unfold f_X7_sync
  refine cg_bn (t_X7_isHandle u0 p1 ((mg_refl h0)).1) (fun z_1 hz_1 => ?_)
  refine cg_jn ?_
  refine cg_eq2 (Eq.refl ((z_1) : Int32).toInt) (by decide : (0 : Int32).toInt = 0) (fun h_1 => ?_) (fun h_1 => ?_)
  · refine can1_ok (by decide : ¬ (1 : Int32) = 0) (fun W_2 eW_2 => ?_)
    try dsimp only
    have gW_2 := mg_18 (mg_refl h0) eW_2
    refine cg_pos (by decide) ?_
    exact cg_some (show (mg_G u0 W_2) from gW_2.1)
  · refine cg_chk (inb_e (Eq.refl (p1).toInt) (by omega) (by omega)) ?_
    refine cg_eq2 (Eq.refl ((u0 12 (p1).toNatClampNeg) : Int32).toInt) (by decide : (0 : Int32).toInt = 0) (fun h_3 => ?_) (fun h_3 => ?_)
    · refine can1_ok (by decide : ¬ (2 : Int32) = 0) (fun W_4 eW_4 => ?_)
      try dsimp only
      have gW_4 := mg_18 (mg_refl h0) eW_4
      refine cg_pos (by decide) ?_
      exact cg_some (show (mg_G u0 W_4) from gW_4.1)
    · refine can0_ok (fun W_5 eW_5 => ?_)
      try dsimp only
      have gW_5 := mg_18 (mg_refl h0) eW_5
      refine cg_neg (by decide) ?_
      refine cg_chk (inb_e (Eq.refl (p1).toInt) (by omega) (by omega)) ?_
      have b_6 := mg_jh W_5 (gW_5.1).1 p1 (by omega) (by omega)
      have b_7 := mg_jh W_5 (gW_5.1).1 p1 (by omega) (by omega)
      have a_8 := (mul_e (by decide : (16 : Int32).toInt = 16) (Eq.refl (W_5 10 (p1).toNatClampNeg).toInt) (by omega) (by omega))
      have a_9 := (add_e (mul_e (by decide : (16 : Int32).toInt = 16) (Eq.refl (W_5 10 (p1).toNatClampNeg).toInt) (by omega) (by omega)) (by decide : (16 : Int32).toInt = 16) (by omega) (by omega))
      refine cg_bn (t_X7_flushesAll W_5 (16 * (W_5 10 (p1).toNatClampNeg)) ((16 * (W_5 10 (p1).toNatClampNeg)) + 16) 16 (gW_5.1).1 (by first | omega | decide) (by first | omega | decide)) (fun z_5 hz_5 => ?_)
      refine cg_bn (t_X7_commits z_5.2 ((mg_trans gW_5.1 hz_5.1)).1) (fun z_6 hz_6 => ?_)
      have b_10 := mg_jh W_5 (gW_5.1).1 p1 (by omega) (by omega)
      refine cg_bn (t_X7_tells z_6.2 (W_5 10 (p1).toNatClampNeg) ((mg_trans (mg_trans gW_5.1 hz_5.1) hz_6.1)).1 (by first | omega | decide) (by first | omega | decide)) (fun z_7 hz_7 => ?_)
      exact cg_some (show (mg_G u0 z_7.2) from (mg_trans (mg_trans (mg_trans gW_5.1 hz_5.1) hz_6.1) hz_7))
theorem t_X7_commit (u0 : S1) (h0 : mg_J u0) : cg_O (f_X7_commit u0) (fun z => (mg_G u0 z.2)) := by
  have lit0 : (0 : Int32).toInt = 0 := by decide
  unfold f_X7_commit
  refine cg_bv (fun u_1 eu_1 => ?_)
  have gu_1 : mg_G u0 u_1 := by rw [eu_1]; exact (mg_up' (mg_refl h0) (by decide))
  refine cg_bn (t_X7_commits u_1 (gu_1).1) (fun z_2 hz_2 => ?_)
  exact cg_some (show (mg_G u0 z_2.2) from (mg_trans gu_1 hz_2.1))
theorem t_X7_about (u0 : S1) (p1 : Int32) (p2 : Int32) (h0 : mg_J u0) : cg_O (f_X7_about u0 p1 p2) (fun z => (mg_G u0 z.2)) := by
  have lit0 : (0 : Int32).toInt = 0 := by decide
  unfold f_X7_about
  refine cg_bn (t_X7_isThing u0 p1 ) (fun z_1 hz_1 => ?_)
  refine cg_jn ?_
  refine cg_eq2 (Eq.refl ((z_1) : Int32).toInt) (by decide : (0 : Int32).toInt = 0) (fun h_1 => ?_) (fun h_1 => ?_)
  · refine can1_ok (by decide : ¬ (1 : Int32) = 0) (fun W_2 eW_2 => ?_)
    try dsimp only
    have gW_2 := mg_18 (mg_refl h0) eW_2
    refine cg_pos (by decide) ?_
    exact cg_some (show (mg_G u0 W_2) from gW_2.1)
  · refine cg_bn (t_X7_isIn p2 0 6 ) (fun z_23 hz_23 => ?_)
    rw [show (0 : Int32).toInt = 0 by decide] at hz_23
    rw [show (6 : Int32).toInt = 6 by decide] at hz_23
    refine cg_eq2 (Eq.refl ((z_23) : Int32).toInt) (by decide : (0 : Int32).toInt = 0) (fun h_3 => ?_) (fun h_3 => ?_)
    · refine can1_ok (by decide : ¬ (2 : Int32) = 0) (fun W_4 eW_4 => ?_)
      try dsimp only
      have gW_4 := mg_18 (mg_refl h0) eW_4
      refine cg_pos (by decide) ?_
      exact cg_some (show (mg_G u0 W_4) from gW_4.1)
    · refine can0_ok (fun W_5 eW_5 => ?_)
      try dsimp only
      have gW_5 := mg_18 (mg_refl h0) eW_5
      refine cg_neg (by decide) ?_
      refine cg_bn (t_X7_at 0 p1 (by first | omega | decide) (by first | omega | decide) (by first | omega | decide) (by first | omega | decide)) (fun z_5 hz_5 => ?_)
      rw [show (0 : Int32).toInt = 0 by decide] at hz_5
      refine cg_jn ?_
      refine cg_i (fun h_6 => ?_) (fun h_6 => ?_)
      · refine cg_chk (inb_e (add_e hz_5 (Eq.refl (p2).toInt) (by omega) (by omega)) (by omega) (by omega)) ?_
        exact cg_some (show (mg_G u0 W_5) from gW_5.1)
      · refine cg_eq2 (Eq.refl ((p2) : Int32).toInt) (by decide : (0 : Int32).toInt = 0) (fun h_7 => ?_) (fun h_7 => ?_)
        · refine cg_chk (inb_e hz_5 (by omega) (by omega)) ?_
          exact cg_some (show (mg_G u0 W_5) from gW_5.1)
        · refine cg_eq2 (Eq.refl ((p2) : Int32).toInt) (by decide : (1 : Int32).toInt = 1) (fun h_8 => ?_) (fun h_8 => ?_)
          · refine cg_chk (inb_e (add_e hz_5 (Eq.refl (p2).toInt) (by omega) (by omega)) (by omega) (by omega)) ?_
            exact cg_some (show (mg_G u0 W_5) from gW_5.1)
          · refine cg_eq2 (Eq.refl ((p2) : Int32).toInt) (by decide : (2 : Int32).toInt = 2) (fun h_9 => ?_) (fun h_9 => ?_)
            · refine cg_chk (inb_e (add_e hz_5 (Eq.refl (p2).toInt) (by omega) (by omega)) (by omega) (by omega)) ?_
              exact cg_some (show (mg_G u0 W_5) from gW_5.1)
            · refine cg_eq2 (Eq.refl ((p2) : Int32).toInt) (by decide : (3 : Int32).toInt = 3) (fun h_10 => ?_) (fun h_10 => ?_)
              · refine cg_chk (inb_e (add_e hz_5 (Eq.refl (p2).toInt) (by omega) (by omega)) (by omega) (by omega)) ?_
                exact cg_some (show (mg_G u0 W_5) from gW_5.1)
              · refine cg_eq2 (Eq.refl ((p2) : Int32).toInt) (by decide : (4 : Int32).toInt = 4) (fun h_11 => ?_) (fun h_11 => ?_)
                · refine cg_chk (inb_e hz_5 (by omega) (by omega)) ?_
                  refine cg_jn ?_
                  refine cg_eq2 (Eq.refl ((W_5 0 (z_5).toNatClampNeg) : Int32).toInt) (by decide : (1 : Int32).toInt = 1) (fun h_12 => ?_) (fun h_12 => ?_)
                  · refine cg_bn (t_X7_entries W_5 0 p1 (by first | omega | decide) (by first | omega | decide) (by first | omega | decide) (by first | omega | decide)) (fun z_16 hz_16 => ?_)
                    exact cg_some (show (mg_G u0 W_5) from gW_5.1)
                  · refine cg_bn (t_X7_pagesOf W_5 p1 (gW_5.1).1 (by first | omega | decide) (by first | omega | decide)) (fun z_15 hz_15 => ?_)
                    exact cg_some (show (mg_G u0 W_5) from gW_5.1)
                · refine cg_eq2 (Eq.refl ((p2) : Int32).toInt) (by decide : (5 : Int32).toInt = 5) (fun h_13 => ?_) (fun h_13 => ?_)
                  · refine cg_bn (t_X7_handlesOf W_5 p1 (gW_5.1).1) (fun z_18 hz_18 => ?_)
                    exact cg_some (show (mg_G u0 W_5) from gW_5.1)
                  · refine cg_eq2 (Eq.refl ((p2) : Int32).toInt) (by decide : (6 : Int32).toInt = 6) (fun h_14 => ?_) (fun h_14 => ?_)
                    · refine cg_chk (inb_e (Eq.refl (p1).toInt) (by omega) (by omega)) ?_
                      refine cg_jn ?_
                      refine cg_eq2 (Eq.refl ((W_5 6 (p1).toNatClampNeg) : Int32).toInt) (by decide : (0 : Int32).toInt = 0) (fun h_15 => ?_) (fun h_15 => ?_)
                      · exact cg_some (show (mg_G u0 W_5) from gW_5.1)
                      · exact cg_some (show (mg_G u0 W_5) from gW_5.1)
                    · exfalso
                      omega
theorem t_X7_entry (u0 : S1) (p1 : Int32) (p2 : Int32) (h0 : mg_J u0) : cg_O (f_X7_entry u0 p1 p2) (fun z => (mg_G u0 z.2)) := by
  have lit0 : (0 : Int32).toInt = 0 := by decide
  unfold f_X7_entry
  refine cg_bn (t_X7_isThing u0 p1 ) (fun z_1 hz_1 => ?_)
  refine cg_jn ?_
  refine cg_jn ?_
  refine cg_eq2 (Eq.refl ((z_1) : Int32).toInt) (by decide : (0 : Int32).toInt = 0) (fun h_1 => ?_) (fun h_1 => ?_)
  · refine cg_jn ?_
    refine cg_pos (by decide) ?_
    refine can1_ok (by decide : ¬ (1 : Int32) = 0) (fun W_2 eW_2 => ?_)
    try dsimp only
    have gW_2 := mg_18 (mg_refl h0) eW_2
    refine cg_jn ?_
    refine cg_pos (by decide) ?_
    exact cg_some (show (mg_G u0 W_2) from gW_2.1)
  · refine cg_bn (t_X7_kindOf u0 p1 (by first | omega | decide) (by first | omega | decide)) (fun z_12 hz_12 => ?_)
    refine cg_eq2 (Eq.refl ((z_12) : Int32).toInt) (by decide : (1 : Int32).toInt = 1) (fun h_3 => ?_) (fun h_3 => ?_)
    · refine cg_bn (t_X7_entries u0 0 p1 (by first | omega | decide) (by first | omega | decide) (by first | omega | decide) (by first | omega | decide)) (fun z_14 hz_14 => ?_)
      have a_4 := (sub_e (Eq.refl (z_14).toInt) (by decide : (1 : Int32).toInt = 1) (by omega) (by omega))
      refine cg_bn (t_X7_isIn p2 0 (z_14 - 1) ) (fun z_15 hz_15 => ?_)
      rw [show (0 : Int32).toInt = 0 by decide] at hz_15
      refine cg_eq2 (Eq.refl ((z_15) : Int32).toInt) (by decide : (0 : Int32).toInt = 0) (fun h_5 => ?_) (fun h_5 => ?_)
      · refine cg_jn ?_
        refine cg_pos (by decide) ?_
        refine can1_ok (by decide : ¬ (1 : Int32) = 0) (fun W_6 eW_6 => ?_)
        try dsimp only
        have gW_6 := mg_18 (mg_refl h0) eW_6
        refine cg_jn ?_
        refine cg_pos (by decide) ?_
        exact cg_some (show (mg_G u0 W_6) from gW_6.1)
      · refine cg_jn ?_
        refine cg_neg (by decide) ?_
        refine can0_ok (fun W_7 eW_7 => ?_)
        try dsimp only
        have gW_7 := mg_18 (mg_refl h0) eW_7
        refine cg_jn ?_
        refine cg_neg (by decide) ?_
        refine cg_bn (t_X7_at 0 p1 (by first | omega | decide) (by first | omega | decide) (by first | omega | decide) (by first | omega | decide)) (fun z_7 hz_7 => ?_)
        rw [show (0 : Int32).toInt = 0 by decide] at hz_7
        refine cg_chk (inb_e (add_e (add_e hz_7 (by decide : (13 : Int32).toInt = 13) (by omega) (by omega)) (Eq.refl (p2).toInt) (by omega) (by omega)) (by omega) (by omega)) ?_
        refine cg_bn (t_X7_at 0 p1 (by first | omega | decide) (by first | omega | decide) (by first | omega | decide) (by first | omega | decide)) (fun z_8 hz_8 => ?_)
        rw [show (0 : Int32).toInt = 0 by decide] at hz_8
        refine cg_chk (inb_e (add_e (add_e hz_8 (by decide : (5 : Int32).toInt = 5) (by omega) (by omega)) (Eq.refl (p2).toInt) (by omega) (by omega)) (by omega) (by omega)) ?_
        exact cg_some (show (mg_G u0 W_7) from gW_7.1)
    · refine cg_jn ?_
      refine cg_pos (by decide) ?_
      refine can1_ok (by decide : ¬ (1 : Int32) = 0) (fun W_8 eW_8 => ?_)
      try dsimp only
      have gW_8 := mg_18 (mg_refl h0) eW_8
      refine cg_jn ?_
      refine cg_pos (by decide) ?_
      exact cg_some (show (mg_G u0 W_8) from gW_8.1)
theorem t_X7_target (u0 : S1) (p1 : Int32) (h0 : mg_J u0) : cg_O (f_X7_target u0 p1) (fun z => (mg_G u0 z.2)) := by
  have lit0 : (0 : Int32).toInt = 0 := by decide
  unfold f_X7_target
  refine cg_bn (t_X7_isThing u0 p1 ) (fun z_1 hz_1 => ?_)
  refine cg_jn ?_
  refine cg_eq2 (Eq.refl ((z_1) : Int32).toInt) (by decide : (0 : Int32).toInt = 0) (fun h_1 => ?_) (fun h_1 => ?_)
  · refine can1_ok (by decide : ¬ (1 : Int32) = 0) (fun W_2 eW_2 => ?_)
    try dsimp only
    have gW_2 := mg_18 (mg_refl h0) eW_2
    refine cg_jn ?_
    refine cg_pos (by decide) ?_
    exact cg_some (show (mg_G u0 W_2) from gW_2.1)
  · refine can0_ok (fun W_3 eW_3 => ?_)
    try dsimp only
    have gW_3 := mg_18 (mg_refl h0) eW_3
    refine cg_jn ?_
    refine cg_neg (by decide) ?_
    refine cg_bn (t_X7_at 0 p1 (by first | omega | decide) (by first | omega | decide) (by first | omega | decide) (by first | omega | decide)) (fun z_6 hz_6 => ?_)
    rw [show (0 : Int32).toInt = 0 by decide] at hz_6
    refine cg_chk (inb_e (add_e hz_6 (by decide : (4 : Int32).toInt = 4) (by omega) (by omega)) (by omega) (by omega)) ?_
    exact cg_some (show (mg_G u0 W_3) from gW_3.1)
theorem t_X7_page (u0 : S1) (p1 : Int32) (p2 : Int32) (p3 : Int32) (h0 : mg_J u0) : cg_O (f_X7_page u0 p1 p2 p3) (fun z => (mg_G u0 z.2)) := by
  have lit0 : (0 : Int32).toInt = 0 := by decide
  unfold f_X7_page
  refine cg_bn (t_X7_isThing u0 p1 ) (fun z_1 hz_1 => ?_)
  refine cg_jn ?_
  refine cg_jn ?_
  refine cg_eq2 (Eq.refl ((z_1) : Int32).toInt) (by decide : (0 : Int32).toInt = 0) (fun h_1 => ?_) (fun h_1 => ?_)
  · refine can1_ok (by decide : ¬ (1 : Int32) = 0) (fun W_2 eW_2 => ?_)
    try dsimp only
    have gW_2 := mg_18 (mg_refl h0) eW_2
    refine cg_pos (by decide) ?_
    exact cg_some (show (mg_G u0 W_2) from gW_2.1)
  · refine cg_bn (t_X7_isPage p2 ) (fun z_13 hz_13 => ?_)
    refine cg_eq2 (Eq.refl ((z_13) : Int32).toInt) (by decide : (0 : Int32).toInt = 0) (fun h_3 => ?_) (fun h_3 => ?_)
    · refine can1_ok (by decide : ¬ (1 : Int32) = 0) (fun W_4 eW_4 => ?_)
      try dsimp only
      have gW_4 := mg_18 (mg_refl h0) eW_4
      refine cg_pos (by decide) ?_
      exact cg_some (show (mg_G u0 W_4) from gW_4.1)
    · refine cg_bn (t_X7_isIn p3 0 2 ) (fun z_15 hz_15 => ?_)
      rw [show (0 : Int32).toInt = 0 by decide] at hz_15
      rw [show (2 : Int32).toInt = 2 by decide] at hz_15
      refine cg_eq2 (Eq.refl ((z_15) : Int32).toInt) (by decide : (0 : Int32).toInt = 0) (fun h_5 => ?_) (fun h_5 => ?_)
      · refine can1_ok (by decide : ¬ (2 : Int32) = 0) (fun W_6 eW_6 => ?_)
        try dsimp only
        have gW_6 := mg_18 (mg_refl h0) eW_6
        refine cg_pos (by decide) ?_
        exact cg_some (show (mg_G u0 W_6) from gW_6.1)
      · refine can0_ok (fun W_7 eW_7 => ?_)
        try dsimp only
        have gW_7 := mg_18 (mg_refl h0) eW_7
        refine cg_neg (by decide) ?_
        refine cg_jn ?_
        refine cg_eq2 (Eq.refl ((p3) : Int32).toInt) (by decide : (0 : Int32).toInt = 0) (fun h_8 => ?_) (fun h_8 => ?_)
        · refine cg_bn (t_X7_at 0 p1 (by first | omega | decide) (by first | omega | decide) (by first | omega | decide) (by first | omega | decide)) (fun z_10 hz_10 => ?_)
          rw [show (0 : Int32).toInt = 0 by decide] at hz_10
          refine cg_chk (inb_e (add_e (add_e hz_10 (by decide : (37 : Int32).toInt = 37) (by omega) (by omega)) (Eq.refl (p2).toInt) (by omega) (by omega)) (by omega) (by omega)) ?_
          exact cg_some (show (mg_G u0 W_7) from gW_7.1)
        · refine cg_eq2 (Eq.refl ((p3) : Int32).toInt) (by decide : (1 : Int32).toInt = 1) (fun h_9 => ?_) (fun h_9 => ?_)
          · refine cg_bn (t_X7_blockOf W_7 p1 p2 (gW_7.1).1 (by first | omega | decide) (by first | omega | decide) (by first | omega | decide) (by first | omega | decide)) (fun z_9 hz_9 => ?_)
            exact cg_some (show (mg_G u0 W_7) from gW_7.1)
          · refine cg_chk (inb_e (add_e (cmul (by decide : (16 : Int32).toInt = 16) (by omega) (by omega)) (Eq.refl (p2).toInt) (by omega) (by omega)) (by omega) (by omega)) ?_
            refine cg_eq2 (Eq.refl ((W_7 4 ((16 * p1) + p2).toNatClampNeg) : Int32).toInt) (by decide : (0 : Int32).toInt = 0) (fun h_10 => ?_) (fun h_10 => ?_)
            · exact cg_some (show (mg_G u0 W_7) from gW_7.1)
            · exact cg_some (show (mg_G u0 W_7) from gW_7.1)
theorem t_X7_number (u0 : S1) (p1 : Int32) (h0 : mg_J u0) : cg_O (f_X7_number u0 p1) (fun z => (mg_G u0 z.2)) := by
  have lit0 : (0 : Int32).toInt = 0 := by decide
  unfold f_X7_number
  refine cg_bn (t_X7_isBlock p1 ) (fun z_1 hz_1 => ?_)
  refine cg_jn ?_
  refine cg_eq2 (Eq.refl ((z_1) : Int32).toInt) (by decide : (0 : Int32).toInt = 0) (fun h_1 => ?_) (fun h_1 => ?_)
  · refine can1_ok (by decide : ¬ (1 : Int32) = 0) (fun W_2 eW_2 => ?_)
    try dsimp only
    have gW_2 := mg_18 (mg_refl h0) eW_2
    refine cg_jn ?_
    refine cg_pos (by decide) ?_
    exact cg_some (show (mg_G u0 W_2) from gW_2.1)
  · refine can0_ok (fun W_3 eW_3 => ?_)
    try dsimp only
    have gW_3 := mg_18 (mg_refl h0) eW_3
    refine cg_jn ?_
    refine cg_neg (by decide) ?_
    refine cg_chk (inb_e (Eq.refl (p1).toInt) (by omega) (by omega)) ?_
    exact cg_some (show (mg_G u0 W_3) from gW_3.1)
theorem t_X7_isFree (u0 : S1) (p1 : Int32) (h0 : mg_J u0) : cg_O (f_X7_isFree u0 p1) (fun z => (mg_G u0 z.2)) := by
  have lit0 : (0 : Int32).toInt = 0 := by decide
  unfold f_X7_isFree
  refine cg_bn (t_X7_isBlock p1 ) (fun z_1 hz_1 => ?_)
  refine cg_jn ?_
  refine cg_eq2 (Eq.refl ((z_1) : Int32).toInt) (by decide : (0 : Int32).toInt = 0) (fun h_1 => ?_) (fun h_1 => ?_)
  · refine can1_ok (by decide : ¬ (1 : Int32) = 0) (fun W_2 eW_2 => ?_)
    try dsimp only
    have gW_2 := mg_18 (mg_refl h0) eW_2
    refine cg_jn ?_
    refine cg_jn ?_
    refine cg_pos (by decide) ?_
    exact cg_some (show (mg_G u0 W_2) from gW_2.1)
  · refine can0_ok (fun W_3 eW_3 => ?_)
    try dsimp only
    have gW_3 := mg_18 (mg_refl h0) eW_3
    refine cg_jn ?_
    refine cg_jn ?_
    refine cg_neg (by decide) ?_
    refine cg_bn (t_X7_frees W_3 p1 ) (fun z_7 hz_7 => ?_)
    refine cg_eq2 (Eq.refl ((z_7) : Int32).toInt) (by decide : (0 : Int32).toInt = 0) (fun h_4 => ?_) (fun h_4 => ?_)
    · exact cg_some (show (mg_G u0 W_3) from gW_3.1)
    · exact cg_some (show (mg_G u0 W_3) from gW_3.1)
theorem t_X7_used (u0 : S1) (p1 : Int32) (h0 : mg_J u0) : cg_O (f_X7_used u0 p1) (fun z => (mg_G u0 z.2)) := by
  have lit0 : (0 : Int32).toInt = 0 := by decide
  unfold f_X7_used
  refine cg_bn (t_X7_isUser p1 ) (fun z_1 hz_1 => ?_)
  refine cg_jn ?_
  refine cg_eq2 (Eq.refl ((z_1) : Int32).toInt) (by decide : (0 : Int32).toInt = 0) (fun h_1 => ?_) (fun h_1 => ?_)
  · refine can1_ok (by decide : ¬ (1 : Int32) = 0) (fun W_2 eW_2 => ?_)
    try dsimp only
    have gW_2 := mg_18 (mg_refl h0) eW_2
    refine cg_jn ?_
    refine cg_pos (by decide) ?_
    exact cg_some (show (mg_G u0 W_2) from gW_2.1)
  · refine can0_ok (fun W_3 eW_3 => ?_)
    try dsimp only
    have gW_3 := mg_18 (mg_refl h0) eW_3
    refine cg_jn ?_
    refine cg_neg (by decide) ?_
    refine cg_bn (t_X7_blocksOf W_3 p1 (gW_3.1).1) (fun z_6 hz_6 => ?_)
    exact cg_some (show (mg_G u0 W_3) from gW_3.1)
theorem t_X7_dirty (u0 : S1) (h0 : mg_J u0) : cg_O (f_X7_dirty u0) (fun z => (mg_G u0 z.2)) := by
  have lit0 : (0 : Int32).toInt = 0 := by decide
  unfold f_X7_dirty
  refine cg_bv (fun u_1 eu_1 => ?_)
  have gu_1 : mg_G u0 u_1 := by rw [eu_1]; exact (mg_up' (mg_refl h0) (by decide))
  refine cg_bn (t_X7_dirties u_1 ) (fun z_2 hz_2 => ?_)
  exact cg_some (show (mg_G u0 u_1) from gu_1)
