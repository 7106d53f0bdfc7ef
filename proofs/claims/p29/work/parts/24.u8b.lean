theorem t_X7_close (u0 : S1) (p1 : Int32) (h0 : mg_J u0) : cg_O (f_X7_close u0 p1) (fun z => (mg_G u0 z.2)) := by
  have lit0 : (0 : Int32).toInt = 0 := by decide
  unfold f_X7_close
  refine cg_bn (t_X7_isHandle u0 p1 ((mg_refl h0)).1) (fun z_1 hz_1 => ?_)
  refine cg_jn ?_
  refine cg_eq2 (Eq.refl ((z_1) : Int32).toInt) (by decide : (0 : Int32).toInt = 0) (fun h_1 => ?_) (fun h_1 => ?_)
  · refine can1_ok (by decide : ¬ (1 : Int32) = 0) (fun W_2 eW_2 => ?_)
    try dsimp only
    have gW_2 := mg_18 (mg_refl h0) eW_2
    refine cg_pos (by decide) ?_
    exact cg_some (show (mg_G u0 W_2) from gW_2.1)
  · refine cg_chk (inb_e (Eq.refl (p1).toInt) (by omega) (by omega)) ?_
    refine cg_eq2 (Eq.refl ((u0 12 (p1).toNatClampNeg) : Int32).toInt) (by decide : (0 : Int32).toInt = 0) (fun h_3 => ?_) (fun h_3 => ?_)
    · refine can1_ok (by decide : ¬ (2 : Int32) = 0) (fun W_4 eW_4 => ?_)
      try dsimp only
      have gW_4 := mg_18 (mg_refl h0) eW_4
      refine cg_pos (by decide) ?_
      exact cg_some (show (mg_G u0 W_4) from gW_4.1)
    · refine can0_ok (fun W_5 eW_5 => ?_)
      try dsimp only
      have gW_5 := mg_18 (mg_refl h0) eW_5
      refine cg_neg (by decide) ?_
      refine cg_chk (inb_e (Eq.refl (p1).toInt) (by omega) (by omega)) ?_
      have b_6 := mg_jh W_5 (gW_5.1).1 p1 (by omega) (by omega)
      refine cg_bn (t_X7_tells W_5 (W_5 10 (p1).toNatClampNeg) (gW_5.1).1 (by first | omega | decide) (by first | omega | decide)) (fun z_5 hz_5 => ?_)
      refine cg_bn (t_X7_shuts z_5.2 p1 ((mg_trans gW_5.1 hz_5)).1 (by first | omega | decide) (by first | omega | decide)) (fun z_6 hz_6 => ?_)
      have b_7 := mg_jh W_5 (gW_5.1).1 p1 (by omega) (by omega)
      refine cg_bn (t_X7_at 0 (W_5 10 (p1).toNatClampNeg) (by first | omega | decide) (by first | omega | decide) (by first | omega | decide) (by first | omega | decide)) (fun z_7 hz_7 => ?_)
      rw [show (0 : Int32).toInt = 0 by decide] at hz_7
      refine cg_chk (inb_e (add_e hz_7 (by decide : (3 : Int32).toInt = 3) (by omega) (by omega)) (by omega) (by omega)) ?_
      refine cg_jn ?_
      refine cg_eq2 (Eq.refl ((z_6 0 (z_7 + 3).toNatClampNeg) : Int32).toInt) (by decide : (0 : Int32).toInt = 0) (fun h_8 => ?_) (fun h_8 => ?_)
      · have b_9 := mg_jh W_5 (gW_5.1).1 p1 (by omega) (by omega)
        refine cg_bn (t_X7_isHeld z_6 (W_5 10 (p1).toNatClampNeg) ((mg_trans (mg_trans gW_5.1 hz_5) hz_6)).1) (fun z_10 hz_10 => ?_)
        refine cg_eq2 (Eq.refl ((z_10) : Int32).toInt) (by decide : (0 : Int32).toInt = 0) (fun h_10 => ?_) (fun h_10 => ?_)
        · have b_11 := mg_jh W_5 (gW_5.1).1 p1 (by omega) (by omega)
          refine cg_bn (t_X7_goes u0 z_6 (W_5 10 (p1).toNatClampNeg) (mg_trans (mg_trans gW_5.1 hz_5) hz_6) (by omega) (by omega) (hz_10 (by omega))) (fun z_12 hz_12 => ?_)
          exact cg_some (show (mg_G u0 z_12) from hz_12.1)
        · exact cg_some (show (mg_G u0 z_6) from (mg_trans (mg_trans gW_5.1 hz_5) hz_6))
      · exact cg_some (show (mg_G u0 z_6) from (mg_trans (mg_trans gW_5.1 hz_5) hz_6))
theorem t_X7_write (u0 : S1) (p1 : Int32) (p2 : Int32) (p3 : Int32) (h0 : mg_J u0) : cg_O (f_X7_write u0 p1 p2 p3) (fun z => (mg_G u0 z.2)) := by
  have lit0 : (0 : Int32).toInt = 0 := by decide
  unfold f_X7_write
  refine cg_bn (t_X7_isHandle u0 p1 ((mg_refl h0)).1) (fun z_1 hz_1 => ?_)
  refine cg_jn ?_
  refine cg_jn ?_
  refine cg_eq2 (Eq.refl ((z_1) : Int32).toInt) (by decide : (0 : Int32).toInt = 0) (fun h_1 => ?_) (fun h_1 => ?_)
  · refine cg_bn (t_X7_isIn p3 0 255 ) (fun z_3 hz_3 => ?_)
    rw [show (0 : Int32).toInt = 0 by decide] at hz_3
    rw [show (255 : Int32).toInt = 255 by decide] at hz_3
    refine cg_jn ?_
    refine cg_jn ?_
    refine cg_pos (by decide) ?_
    refine cg_jn ?_
    refine cg_pos (by decide) ?_
    refine cg_jn ?_
    refine cg_pos (by decide) ?_
    refine cg_jn ?_
    refine cg_jn ?_
    refine cg_pos (by decide) ?_
    refine cg_pos (by decide) ?_
    refine cg_jn ?_
    refine cg_pos (by decide) ?_
    refine can1_ok (by decide : ¬ (1 : Int32) = 0) (fun W_2 eW_2 => ?_)
    try dsimp only
    have gW_2 := mg_18 (mg_refl h0) eW_2
    refine cg_pos (by decide) ?_
    exact cg_some (show (mg_G u0 W_2) from gW_2.1)
  · refine cg_bn (t_X7_isPage p2 ) (fun z_44 hz_44 => ?_)
    refine cg_eq2 (Eq.refl ((z_44) : Int32).toInt) (by decide : (0 : Int32).toInt = 0) (fun h_3 => ?_) (fun h_3 => ?_)
    · refine cg_bn (t_X7_isIn p3 0 255 ) (fun z_3 hz_3 => ?_)
      rw [show (0 : Int32).toInt = 0 by decide] at hz_3
      rw [show (255 : Int32).toInt = 255 by decide] at hz_3
      refine cg_jn ?_
      refine cg_jn ?_
      refine cg_pos (by decide) ?_
      refine cg_jn ?_
      refine cg_pos (by decide) ?_
      refine cg_jn ?_
      refine cg_pos (by decide) ?_
      refine cg_jn ?_
      refine cg_jn ?_
      refine cg_pos (by decide) ?_
      refine cg_pos (by decide) ?_
      refine cg_jn ?_
      refine cg_pos (by decide) ?_
      refine can1_ok (by decide : ¬ (1 : Int32) = 0) (fun W_4 eW_4 => ?_)
      try dsimp only
      have gW_4 := mg_18 (mg_refl h0) eW_4
      refine cg_pos (by decide) ?_
      exact cg_some (show (mg_G u0 W_4) from gW_4.1)
    · refine cg_bn (t_X7_isIn p3 0 255 ) (fun z_3 hz_3 => ?_)
      rw [show (0 : Int32).toInt = 0 by decide] at hz_3
      rw [show (255 : Int32).toInt = 255 by decide] at hz_3
      refine cg_jn ?_
      refine cg_jn ?_
      refine cg_neg (by decide) ?_
      refine cg_chk (inb_e (Eq.refl (p1).toInt) (by omega) (by omega)) ?_
      refine cg_eq2 (Eq.refl ((u0 12 (p1).toNatClampNeg) : Int32).toInt) (by decide : (0 : Int32).toInt = 0) (fun h_5 => ?_) (fun h_5 => ?_)
      · refine cg_jn ?_
        refine cg_neg (by decide) ?_
        refine cg_chk (inb_e (Eq.refl (p1).toInt) (by omega) (by omega)) ?_
        refine cg_jn ?_
        refine cg_pos (by decide) ?_
        refine cg_jn ?_
        refine cg_jn ?_
        refine cg_pos (by decide) ?_
        refine cg_pos (by decide) ?_
        refine cg_jn ?_
        refine cg_neg (by decide) ?_
        refine cg_eq2 (Eq.refl ((z_3) : Int32).toInt) (by decide : (0 : Int32).toInt = 0) (fun h_6 => ?_) (fun h_6 => ?_)
        · refine can1_ok (by decide : ¬ (2 : Int32) = 0) (fun W_7 eW_7 => ?_)
          try dsimp only
          have gW_7 := mg_18 (mg_refl h0) eW_7
          refine cg_pos (by decide) ?_
          exact cg_some (show (mg_G u0 W_7) from gW_7.1)
        · refine cg_jn ?_
          refine cg_pos (by decide) ?_
          refine can1_ok (by decide : ¬ (3 : Int32) = 0) (fun W_8 eW_8 => ?_)
          try dsimp only
          have gW_8 := mg_18 (mg_refl h0) eW_8
          refine cg_pos (by decide) ?_
          exact cg_some (show (mg_G u0 W_8) from gW_8.1)
      · refine cg_chk (inb_e (Eq.refl (p1).toInt) (by omega) (by omega)) ?_
        refine cg_eq2 (Eq.refl ((u0 11 (p1).toNatClampNeg) : Int32).toInt) (by decide : (0 : Int32).toInt = 0) (fun h_9 => ?_) (fun h_9 => ?_)
        · refine cg_jn ?_
          refine cg_neg (by decide) ?_
          refine cg_chk (inb_e (Eq.refl (p1).toInt) (by omega) (by omega)) ?_
          refine cg_jn ?_
          refine cg_pos (by decide) ?_
          refine cg_jn ?_
          refine cg_jn ?_
          refine cg_pos (by decide) ?_
          refine cg_pos (by decide) ?_
          refine cg_jn ?_
          refine cg_neg (by decide) ?_
          refine cg_eq2 (Eq.refl ((z_3) : Int32).toInt) (by decide : (0 : Int32).toInt = 0) (fun h_10 => ?_) (fun h_10 => ?_)
          · refine can1_ok (by decide : ¬ (2 : Int32) = 0) (fun W_11 eW_11 => ?_)
            try dsimp only
            have gW_11 := mg_18 (mg_refl h0) eW_11
            refine cg_pos (by decide) ?_
            exact cg_some (show (mg_G u0 W_11) from gW_11.1)
          · refine cg_jn ?_
            refine cg_pos (by decide) ?_
            refine can1_ok (by decide : ¬ (3 : Int32) = 0) (fun W_12 eW_12 => ?_)
            try dsimp only
            have gW_12 := mg_18 (mg_refl h0) eW_12
            refine cg_pos (by decide) ?_
            exact cg_some (show (mg_G u0 W_12) from gW_12.1)
        · refine cg_jn ?_
          refine cg_neg (by decide) ?_
          refine cg_chk (inb_e (Eq.refl (p1).toInt) (by omega) (by omega)) ?_
          refine cg_jn ?_
          refine cg_neg (by decide) ?_
          have b_13 := mg_jh u0 ((mg_refl h0)).1 p1 (by omega) (by omega)
          refine cg_bn (t_X7_blockOf u0 (u0 10 (p1).toNatClampNeg) p2 ((mg_refl h0)).1 (by first | omega | decide) (by first | omega | decide) (by first | omega | decide) (by first | omega | decide)) (fun z_36 hz_36 => ?_)
          refine cg_jn ?_
          refine cg_jn ?_
          refine cg_neg (by decide) ?_
          refine cg_eq2 (Eq.refl ((z_3) : Int32).toInt) (by decide : (0 : Int32).toInt = 0) (fun h_14 => ?_) (fun h_14 => ?_)
          · refine cg_neg (by decide) ?_
            refine cg_eq2 (Eq.refl ((z_3) : Int32).toInt) (by decide : (0 : Int32).toInt = 0) (fun h_15 => ?_) (fun h_15 => ?_)
            · refine cg_jn ?_
              refine cg_neg (by decide) ?_
              refine cg_eq2 (Eq.refl ((z_3) : Int32).toInt) (by decide : (0 : Int32).toInt = 0) (fun h_16 => ?_) (fun h_16 => ?_)
              · refine can1_ok (by decide : ¬ (2 : Int32) = 0) (fun W_17 eW_17 => ?_)
                try dsimp only
                have gW_17 := mg_18 (mg_refl h0) eW_17
                refine cg_pos (by decide) ?_
                exact cg_some (show (mg_G u0 W_17) from gW_17.1)
              · exfalso
                omega
            · exfalso
              omega
          · refine cg_eq2 (Eq.refl ((z_36) : Int32).toInt) (by decide : (-1 : Int32).toInt = -1) (fun h_18 => ?_) (fun h_18 => ?_)
            · have b_19 := mg_jh u0 ((mg_refl h0)).1 p1 (by omega) (by omega)
              refine cg_bn (t_X7_isShort u0 (u0 10 (p1).toNatClampNeg) ((mg_refl h0)).1 (by first | omega | decide) (by first | omega | decide)) (fun z_31 hz_31 => ?_)
              refine cg_jn ?_
              refine cg_eq2 (Eq.refl ((z_31) : Int32).toInt) (by decide : (0 : Int32).toInt = 0) (fun h_20 => ?_) (fun h_20 => ?_)
              · have b_21 := mg_jh u0 ((mg_refl h0)).1 p1 (by omega) (by omega)
                refine cg_bn (t_X7_blockFor u0 (u0 10 (p1).toNatClampNeg) p2 ((mg_refl h0)).1 (by first | omega | decide) (by first | omega | decide) (by first | omega | decide) (by first | omega | decide)) (fun z_34 hz_34 => ?_)
                refine cg_jn ?_
                refine cg_neg (by decide) ?_
                refine cg_eq2 (Eq.refl ((z_3) : Int32).toInt) (by decide : (0 : Int32).toInt = 0) (fun h_22 => ?_) (fun h_22 => ?_)
                · exfalso
                  omega
                · refine cg_jn ?_
                  refine cg_neg (by decide) ?_
                  refine cg_eq2 (Eq.refl ((z_34) : Int32).toInt) (by decide : (-1 : Int32).toInt = -1) (fun h_23 => ?_) (fun h_23 => ?_)
                  · refine can1_ok (by decide : ¬ (3 : Int32) = 0) (fun W_24 eW_24 => ?_)
                    try dsimp only
                    have gW_24 := mg_18 (mg_refl h0) eW_24
                    refine cg_pos (by decide) ?_
                    exact cg_some (show (mg_G u0 W_24) from gW_24.1)
                  · refine can0_ok (fun W_25 eW_25 => ?_)
                    try dsimp only
                    have gW_25 := mg_18 (mg_refl h0) eW_25
                    refine cg_neg (by decide) ?_
                    have b_26 := mg_jh u0 ((mg_refl h0)).1 p1 (by omega) (by omega)
                    refine cg_bn (t_X7_at 0 (u0 10 (p1).toNatClampNeg) (by first | omega | decide) (by first | omega | decide) (by first | omega | decide) (by first | omega | decide)) (fun z_11 hz_11 => ?_)
                    rw [show (0 : Int32).toInt = 0 by decide] at hz_11
                    refine cg_chk (inb_e (add_e (add_e hz_11 (by decide : (21 : Int32).toInt = 21) (by omega) (by omega)) (Eq.refl (p2).toInt) (by omega) (by omega)) (by omega) (by omega)) ?_
                    have hk := mg_jh u0 h0 p1 (by omega) (by omega)
                    exact mg_write (v := (u0 10 (p1).toNatClampNeg)) (p2 := p2) (b := z_34) gW_25.1 (by rw [gW_25.2]; exact mg_openk h0 (by omega) (by omega) (by omega)) hk.1 hk.2 (by omega) (by omega) (by omega) (by omega) hz_11
              · refine cg_jn ?_
                refine cg_neg (by decide) ?_
                refine cg_eq2 (Eq.refl ((z_3) : Int32).toInt) (by decide : (0 : Int32).toInt = 0) (fun h_27 => ?_) (fun h_27 => ?_)
                · exfalso
                  omega
                · refine cg_jn ?_
                  refine cg_neg (by decide) ?_
                  refine cg_pos (by decide) ?_
                  refine can1_ok (by decide : ¬ (3 : Int32) = 0) (fun W_28 eW_28 => ?_)
                  try dsimp only
                  have gW_28 := mg_18 (mg_refl h0) eW_28
                  refine cg_pos (by decide) ?_
                  exact cg_some (show (mg_G u0 W_28) from gW_28.1)
            · refine cg_neg (by decide) ?_
              refine cg_eq2 (Eq.refl ((z_3) : Int32).toInt) (by decide : (0 : Int32).toInt = 0) (fun h_29 => ?_) (fun h_29 => ?_)
              · exfalso
                omega
              · refine cg_bn (t_X7_isOld u0 z_36 ) (fun z_25 hz_25 => ?_)
                refine cg_eq2 (Eq.refl ((z_25) : Int32).toInt) (by decide : (0 : Int32).toInt = 0) (fun h_30 => ?_) (fun h_30 => ?_)
                · refine cg_jn ?_
                  refine cg_neg (by decide) ?_
                  refine cg_eq2 (Eq.refl ((z_3) : Int32).toInt) (by decide : (0 : Int32).toInt = 0) (fun h_31 => ?_) (fun h_31 => ?_)
                  · exfalso
                    omega
                  · refine cg_jn ?_
                    refine cg_neg (by decide) ?_
                    refine cg_eq2 (Eq.refl ((z_36) : Int32).toInt) (by decide : (-1 : Int32).toInt = -1) (fun h_32 => ?_) (fun h_32 => ?_)
                    · exfalso
                      omega
                    · refine can0_ok (fun W_33 eW_33 => ?_)
                      try dsimp only
                      have gW_33 := mg_18 (mg_refl h0) eW_33
                      refine cg_neg (by decide) ?_
                      have b_34 := mg_jh u0 ((mg_refl h0)).1 p1 (by omega) (by omega)
                      refine cg_bn (t_X7_at 0 (u0 10 (p1).toNatClampNeg) (by first | omega | decide) (by first | omega | decide) (by first | omega | decide) (by first | omega | decide)) (fun z_11 hz_11 => ?_)
                      rw [show (0 : Int32).toInt = 0 by decide] at hz_11
                      refine cg_chk (inb_e (add_e (add_e hz_11 (by decide : (21 : Int32).toInt = 21) (by omega) (by omega)) (Eq.refl (p2).toInt) (by omega) (by omega)) (by omega) (by omega)) ?_
                      have hk := mg_jh u0 h0 p1 (by omega) (by omega)
                      exact mg_write (v := (u0 10 (p1).toNatClampNeg)) (p2 := p2) (b := z_36) gW_33.1 (by rw [gW_33.2]; exact mg_openk h0 (by omega) (by omega) (by omega)) hk.1 hk.2 (by omega) (by omega) (by omega) (by omega) hz_11
                · have b_35 := mg_jh u0 ((mg_refl h0)).1 p1 (by omega) (by omega)
                  refine cg_bn (t_X7_blockFor u0 (u0 10 (p1).toNatClampNeg) p2 ((mg_refl h0)).1 (by first | omega | decide) (by first | omega | decide) (by first | omega | decide) (by first | omega | decide)) (fun z_27 hz_27 => ?_)
                  refine cg_jn ?_
                  refine cg_neg (by decide) ?_
                  refine cg_eq2 (Eq.refl ((z_3) : Int32).toInt) (by decide : (0 : Int32).toInt = 0) (fun h_36 => ?_) (fun h_36 => ?_)
                  · exfalso
                    omega
                  · refine cg_jn ?_
                    refine cg_neg (by decide) ?_
                    refine cg_eq2 (Eq.refl ((z_27) : Int32).toInt) (by decide : (-1 : Int32).toInt = -1) (fun h_37 => ?_) (fun h_37 => ?_)
                    · refine can1_ok (by decide : ¬ (3 : Int32) = 0) (fun W_38 eW_38 => ?_)
                      try dsimp only
                      have gW_38 := mg_18 (mg_refl h0) eW_38
                      refine cg_pos (by decide) ?_
                      exact cg_some (show (mg_G u0 W_38) from gW_38.1)
                    · refine can0_ok (fun W_39 eW_39 => ?_)
                      try dsimp only
                      have gW_39 := mg_18 (mg_refl h0) eW_39
                      refine cg_neg (by decide) ?_
                      have b_40 := mg_jh u0 ((mg_refl h0)).1 p1 (by omega) (by omega)
                      refine cg_bn (t_X7_at 0 (u0 10 (p1).toNatClampNeg) (by first | omega | decide) (by first | omega | decide) (by first | omega | decide) (by first | omega | decide)) (fun z_11 hz_11 => ?_)
                      rw [show (0 : Int32).toInt = 0 by decide] at hz_11
                      refine cg_chk (inb_e (add_e (add_e hz_11 (by decide : (21 : Int32).toInt = 21) (by omega) (by omega)) (Eq.refl (p2).toInt) (by omega) (by omega)) (by omega) (by omega)) ?_
                      have hk := mg_jh u0 h0 p1 (by omega) (by omega)
                      exact mg_write (v := (u0 10 (p1).toNatClampNeg)) (p2 := p2) (b := z_27) gW_39.1 (by rw [gW_39.2]; exact mg_openk h0 (by omega) (by omega) (by omega)) hk.1 hk.2 (by omega) (by omega) (by omega) (by omega) hz_11
theorem t_X7_ahead (u0 : S1) (p1 : Int32) (p2 : Int32) (p3 : Int32) (h0 : mg_J u0) : cg_O (f_X7_ahead u0 p1 p2 p3) (fun z => (mg_G u0 z.2)) := by
  have lit0 : (0 : Int32).toInt = 0 := by decide
  unfold f_X7_ahead
  refine cg_bn (t_X7_isHandle u0 p1 ((mg_refl h0)).1) (fun z_1 hz_1 => ?_)
  refine cg_jn ?_
  refine cg_jn ?_
  refine cg_eq2 (Eq.refl ((z_1) : Int32).toInt) (by decide : (0 : Int32).toInt = 0) (fun h_1 => ?_) (fun h_1 => ?_)
  · refine cg_jn ?_
    refine cg_jn ?_
    refine cg_pos (by decide) ?_
    refine cg_jn ?_
    refine cg_pos (by decide) ?_
    refine cg_q4 (cg_l4 (fun dr87_5 y87_5_5 y87_5_7 y87_5_8 u87_5_0 => mg_G u0 u87_5_0 ∧ (y87_5_5.toInt ≠ 0 → (0 ≤ y87_5_8.toInt ∧ 16 - y87_5_8.toInt ≤ (dr87_5 : Int) ∧ p3.toInt ≤ 15))) (fun dr87_5 r87_5 ihr87_5 y87_5_5 y87_5_7 y87_5_8 u87_5_0 hh => ?_) 16 4096 (by decide) 0 0 p2 u0 ⟨(mg_refl h0), (by first | omega | decide | exact fun q => absurd (by decide) q | (intro _; omega))⟩)
    obtain ⟨su87_5_0, i_2⟩ := hh
    refine cg_jn ?_
    refine cg_eq2 (Eq.refl ((y87_5_5) : Int32).toInt) (by decide : (0 : Int32).toInt = 0) (fun h_3 => ?_) (fun h_3 => ?_)
    · refine cg_q3 (cg_l3 (fun dr222_7 y222_7_8 y222_7_9 u222_7_0 => mg_G u0 u222_7_0 ∧ 0 ≤ y222_7_9.toInt ∧ 16 - y222_7_9.toInt ≤ (dr222_7 : Int)) (fun dr222_7 r222_7 ihr222_7 y222_7_8 y222_7_9 u222_7_0 hh => ?_) 16 4096 (by decide) 0 0 u87_5_0 ⟨su87_5_0, (by first | omega | decide | exact fun q => absurd (by decide) q | (intro _; omega)), (by first | omega | decide | exact fun q => absurd (by decide) q | (intro _; omega))⟩)
      obtain ⟨su222_7_0, i_4, i_5⟩ := hh
      refine cg_le2 (by decide : (16 : Int32).toInt = 16) (Eq.refl ((y222_7_9) : Int32).toInt) (fun h_6 => ?_) (fun h_6 => ?_)
      · refine cg_jn ?_
        refine cg_pos (by decide) ?_
        refine can1_ok (by decide : ¬ (1 : Int32) = 0) (fun W_7 eW_7 => ?_)
        try dsimp only
        have gW_7 := mg_18 su222_7_0 eW_7
        refine cg_jn ?_
        refine cg_pos (by decide) ?_
        exact cg_some (show (mg_G u0 W_7) from gW_7.1)
      · refine cg_jn ?_
        refine cg_eq2 (Eq.refl ((y87_5_5) : Int32).toInt) (by decide : (0 : Int32).toInt = 0) (fun h_8 => ?_) (fun h_8 => ?_)
        · refine cg_eq2 (Eq.refl (((y87_5_7 >>> (y222_7_9 &&& 31)) &&& 1) : Int32).toInt) (by decide : (1 : Int32).toInt = 1) (fun h_9 => ?_) (fun h_9 => ?_)
          · refine cg_bn (t_X7_digs u0 u222_7_0 0 y222_7_9 su222_7_0 (by omega) (by omega) (by first | omega | decide) (by first | omega | decide)) (fun z_19 hz_19 => ?_)
            have e_10 := (add_e (Eq.refl (y222_7_9).toInt) (by decide : (1 : Int32).toInt = 1) (by omega) (by omega))
            exact ihr222_7 (dr222_7 - 1) (y222_7_8 + ((y87_5_7 >>> (y222_7_9 &&& 31)) &&& 1)) (y222_7_9 + 1) z_19 (by omega) ⟨hz_19.1, (by omega), (by omega)⟩
          · have e_11 := (add_e (Eq.refl (y222_7_9).toInt) (by decide : (1 : Int32).toInt = 1) (by omega) (by omega))
            exact ihr222_7 (dr222_7 - 1) (y222_7_8 + ((y87_5_7 >>> (y222_7_9 &&& 31)) &&& 1)) (y222_7_9 + 1) u222_7_0 (by omega) ⟨su222_7_0, (by omega), (by omega)⟩
        · exfalso
          omega
    · refine cg_lt2 (Eq.refl ((p3) : Int32).toInt) (Eq.refl ((y87_5_8) : Int32).toInt) (fun h_12 => ?_) (fun h_12 => ?_)
      · refine cg_q3 (cg_l3 (fun dr222_7 y222_7_8 y222_7_9 u222_7_0 => mg_G u0 u222_7_0 ∧ 0 ≤ y222_7_9.toInt ∧ 16 - y222_7_9.toInt ≤ (dr222_7 : Int)) (fun dr222_7 r222_7 ihr222_7 y222_7_8 y222_7_9 u222_7_0 hh => ?_) 16 4096 (by decide) 0 0 u87_5_0 ⟨su87_5_0, (by first | omega | decide | exact fun q => absurd (by decide) q | (intro _; omega)), (by first | omega | decide | exact fun q => absurd (by decide) q | (intro _; omega))⟩)
        obtain ⟨su222_7_0, i_13, i_14⟩ := hh
        refine cg_le2 (by decide : (16 : Int32).toInt = 16) (Eq.refl ((y222_7_9) : Int32).toInt) (fun h_15 => ?_) (fun h_15 => ?_)
        · refine cg_jn ?_
          refine cg_pos (by decide) ?_
          refine can1_ok (by decide : ¬ (1 : Int32) = 0) (fun W_16 eW_16 => ?_)
          try dsimp only
          have gW_16 := mg_18 su222_7_0 eW_16
          refine cg_jn ?_
          refine cg_pos (by decide) ?_
          exact cg_some (show (mg_G u0 W_16) from gW_16.1)
        · refine cg_jn ?_
          refine cg_eq2 (Eq.refl ((y87_5_5) : Int32).toInt) (by decide : (0 : Int32).toInt = 0) (fun h_17 => ?_) (fun h_17 => ?_)
          · exfalso
            omega
          · have e_18 := (add_e (Eq.refl (y222_7_9).toInt) (by decide : (1 : Int32).toInt = 1) (by omega) (by omega))
            exact ihr222_7 (dr222_7 - 1) (y222_7_8 + ((y87_5_7 >>> (y222_7_9 &&& 31)) &&& 1)) (y222_7_9 + 1) u222_7_0 (by omega) ⟨su222_7_0, (by omega), (by omega)⟩
      · refine cg_bn (t_X7_blockOf u87_5_0 0 y87_5_8 (su87_5_0).1 (by first | omega | decide) (by first | omega | decide) (by first | omega | decide) (by first | omega | decide)) (fun z_22 hz_22 => ?_)
        refine cg_jn ?_
        refine cg_eq2 (Eq.refl ((z_22) : Int32).toInt) (by decide : (-1 : Int32).toInt = -1) (fun h_19 => ?_) (fun h_19 => ?_)
        · refine cg_bn (t_X7_isShort u87_5_0 0 (su87_5_0).1 (by first | omega | decide) (by first | omega | decide)) (fun z_25 hz_25 => ?_)
          refine cg_jn ?_
          refine cg_eq2 (Eq.refl ((z_25) : Int32).toInt) (by decide : (0 : Int32).toInt = 0) (fun h_20 => ?_) (fun h_20 => ?_)
          · refine cg_bn (t_X7_blockFor u87_5_0 0 y87_5_8 (su87_5_0).1 (by first | omega | decide) (by first | omega | decide) (by first | omega | decide) (by first | omega | decide)) (fun z_38 hz_38 => ?_)
            refine cg_jn ?_
            refine cg_eq2 (Eq.refl ((z_38) : Int32).toInt) (by decide : (-1 : Int32).toInt = -1) (fun h_21 => ?_) (fun h_21 => ?_)
            · refine cg_jn ?_
              refine cg_pos (by decide) ?_
              refine cg_bn (t_X7_at 0 0 (by first | omega | decide) (by first | omega | decide) (by first | omega | decide) (by first | omega | decide)) (fun z_29 hz_29 => ?_)
              rw [show (0 : Int32).toInt = 0 by decide] at hz_29
              refine cg_chk (inb_e (add_e (add_e hz_29 (by decide : (21 : Int32).toInt = 21) (by omega) (by omega)) (Eq.refl (y87_5_8).toInt) (by omega) (by omega)) (by omega) (by omega)) ?_
              refine cg_bv (fun u_30 eu_30 => ?_)
              have gu_30 : mg_G u0 u_30 := by rw [eu_30]; exact (mg_ablock (r0 := (0 : Int32).toInt.toNat) (p0 := y87_5_8.toInt.toNat) su87_5_0 ((add_e (add_e hz_29 (by decide : (21 : Int32).toInt = 21) (by omega) (by omega)) (Eq.refl (y87_5_8).toInt) (by omega) (by omega)).trans (by omega)) (by omega) (by omega) (hz_22.2.symm.trans (by omega)) (by first | omega | decide) (by first | omega | decide))
              refine cg_bn (t_X7_at 0 0 (by first | omega | decide) (by first | omega | decide) (by first | omega | decide) (by first | omega | decide)) (fun z_31 hz_31 => ?_)
              rw [show (0 : Int32).toInt = 0 by decide] at hz_31
              refine cg_jn ?_
              refine cg_pos (by decide) ?_
              refine cg_chk (inb_e (add_e (add_e hz_31 (by decide : (37 : Int32).toInt = 37) (by omega) (by omega)) (Eq.refl (y87_5_8).toInt) (by omega) (by omega)) (by omega) (by omega)) ?_
              refine cg_bv (fun u_33 eu_33 => ?_)
              have gu_33 : mg_G u0 u_33 := by rw [eu_33]; exact (mg_is (r0 := (0 : Int32).toInt.toNat) (p0 := y87_5_8.toInt.toNat) gu_30 ((add_e (add_e hz_31 (by decide : (37 : Int32).toInt = 37) (by omega) (by omega)) (Eq.refl (y87_5_8).toInt) (by omega) (by omega)).trans (by omega)) (by omega) (Or.inl (by decide)))
              have e_22 := (add_e (Eq.refl (y87_5_8).toInt) (by decide : (1 : Int32).toInt = 1) (by omega) (by omega))
              exact ihr87_5 (dr87_5 - 1) 0 (y87_5_7 ||| 0) (y87_5_8 + 1) u_33 (by omega) ⟨gu_33, (by first | omega | (intro _; omega))⟩
            · refine cg_jn ?_
              refine cg_neg (by decide) ?_
              refine cg_bn (t_X7_at 0 0 (by first | omega | decide) (by first | omega | decide) (by first | omega | decide) (by first | omega | decide)) (fun z_29 hz_29 => ?_)
              rw [show (0 : Int32).toInt = 0 by decide] at hz_29
              refine cg_chk (inb_e (add_e (add_e hz_29 (by decide : (21 : Int32).toInt = 21) (by omega) (by omega)) (Eq.refl (y87_5_8).toInt) (by omega) (by omega)) (by omega) (by omega)) ?_
              refine cg_bv (fun u_30 eu_30 => ?_)
              have gu_30 : mg_G u0 u_30 := by rw [eu_30]; exact (mg_ablock (r0 := (0 : Int32).toInt.toNat) (p0 := y87_5_8.toInt.toNat) su87_5_0 ((add_e (add_e hz_29 (by decide : (21 : Int32).toInt = 21) (by omega) (by omega)) (Eq.refl (y87_5_8).toInt) (by omega) (by omega)).trans (by omega)) (by omega) (by omega) (hz_22.2.symm.trans (by omega)) (by first | omega | decide) (by first | omega | decide))
              refine cg_bn (t_X7_at 0 0 (by first | omega | decide) (by first | omega | decide) (by first | omega | decide) (by first | omega | decide)) (fun z_31 hz_31 => ?_)
              rw [show (0 : Int32).toInt = 0 by decide] at hz_31
              refine cg_jn ?_
              refine cg_neg (by decide) ?_
              refine cg_chk (inb_e (add_e (add_e hz_31 (by decide : (37 : Int32).toInt = 37) (by omega) (by omega)) (Eq.refl (y87_5_8).toInt) (by omega) (by omega)) (by omega) (by omega)) ?_
              refine cg_bv (fun u_33 eu_33 => ?_)
              have gu_33 : mg_G u0 u_33 := by rw [eu_33]; exact (mg_is (r0 := (0 : Int32).toInt.toNat) (p0 := y87_5_8.toInt.toNat) gu_30 ((add_e (add_e hz_31 (by decide : (37 : Int32).toInt = 37) (by omega) (by omega)) (Eq.refl (y87_5_8).toInt) (by omega) (by omega)).trans (by omega)) (by omega) (Or.inl (by decide)))
              have e_23 := (add_e (Eq.refl (y87_5_8).toInt) (by decide : (1 : Int32).toInt = 1) (by omega) (by omega))
              exact ihr87_5 (dr87_5 - 1) 1 (y87_5_7 ||| (1 <<< (y87_5_8 &&& 31))) (y87_5_8 + 1) u_33 (by omega) ⟨gu_33, (by first | omega | (intro _; omega))⟩
          · refine cg_jn ?_
            refine cg_pos (by decide) ?_
            refine cg_jn ?_
            refine cg_pos (by decide) ?_
            refine cg_bn (t_X7_at 0 0 (by first | omega | decide) (by first | omega | decide) (by first | omega | decide) (by first | omega | decide)) (fun z_29 hz_29 => ?_)
            rw [show (0 : Int32).toInt = 0 by decide] at hz_29
            refine cg_chk (inb_e (add_e (add_e hz_29 (by decide : (21 : Int32).toInt = 21) (by omega) (by omega)) (Eq.refl (y87_5_8).toInt) (by omega) (by omega)) (by omega) (by omega)) ?_
            refine cg_bv (fun u_30 eu_30 => ?_)
            have gu_30 : mg_G u0 u_30 := by rw [eu_30]; exact (mg_ablock (r0 := (0 : Int32).toInt.toNat) (p0 := y87_5_8.toInt.toNat) su87_5_0 ((add_e (add_e hz_29 (by decide : (21 : Int32).toInt = 21) (by omega) (by omega)) (Eq.refl (y87_5_8).toInt) (by omega) (by omega)).trans (by omega)) (by omega) (by omega) (hz_22.2.symm.trans (by omega)) (by first | omega | decide) (by first | omega | decide))
            refine cg_bn (t_X7_at 0 0 (by first | omega | decide) (by first | omega | decide) (by first | omega | decide) (by first | omega | decide)) (fun z_31 hz_31 => ?_)
            rw [show (0 : Int32).toInt = 0 by decide] at hz_31
            refine cg_jn ?_
            refine cg_pos (by decide) ?_
            refine cg_chk (inb_e (add_e (add_e hz_31 (by decide : (37 : Int32).toInt = 37) (by omega) (by omega)) (Eq.refl (y87_5_8).toInt) (by omega) (by omega)) (by omega) (by omega)) ?_
            refine cg_bv (fun u_33 eu_33 => ?_)
            have gu_33 : mg_G u0 u_33 := by rw [eu_33]; exact (mg_is (r0 := (0 : Int32).toInt.toNat) (p0 := y87_5_8.toInt.toNat) gu_30 ((add_e (add_e hz_31 (by decide : (37 : Int32).toInt = 37) (by omega) (by omega)) (Eq.refl (y87_5_8).toInt) (by omega) (by omega)).trans (by omega)) (by omega) (Or.inl (by decide)))
            have e_24 := (add_e (Eq.refl (y87_5_8).toInt) (by decide : (1 : Int32).toInt = 1) (by omega) (by omega))
            exact ihr87_5 (dr87_5 - 1) 0 (y87_5_7 ||| 0) (y87_5_8 + 1) u_33 (by omega) ⟨gu_33, (by first | omega | (intro _; omega))⟩
        · have e_25 := (add_e (Eq.refl (y87_5_8).toInt) (by decide : (1 : Int32).toInt = 1) (by omega) (by omega))
          exact ihr87_5 (dr87_5 - 1) y87_5_5 y87_5_7 (y87_5_8 + 1) u87_5_0 (by omega) ⟨su87_5_0, (by first | omega | (intro _; omega))⟩
  · refine cg_bn (t_X7_isPage p2 ) (fun z_47 hz_47 => ?_)
    refine cg_eq2 (Eq.refl ((z_47) : Int32).toInt) (by decide : (0 : Int32).toInt = 0) (fun h_26 => ?_) (fun h_26 => ?_)
    · refine cg_jn ?_
      refine cg_jn ?_
      refine cg_pos (by decide) ?_
      refine cg_jn ?_
      refine cg_pos (by decide) ?_
      refine cg_q4 (cg_l4 (fun dr87_5 y87_5_5 y87_5_7 y87_5_8 u87_5_0 => mg_G u0 u87_5_0 ∧ (y87_5_5.toInt ≠ 0 → (0 ≤ y87_5_8.toInt ∧ 16 - y87_5_8.toInt ≤ (dr87_5 : Int) ∧ p3.toInt ≤ 15))) (fun dr87_5 r87_5 ihr87_5 y87_5_5 y87_5_7 y87_5_8 u87_5_0 hh => ?_) 16 4096 (by decide) 0 0 p2 u0 ⟨(mg_refl h0), (by first | omega | decide | exact fun q => absurd (by decide) q | (intro _; omega))⟩)
      obtain ⟨su87_5_0, i_27⟩ := hh
      refine cg_jn ?_
      refine cg_eq2 (Eq.refl ((y87_5_5) : Int32).toInt) (by decide : (0 : Int32).toInt = 0) (fun h_28 => ?_) (fun h_28 => ?_)
      · refine cg_q3 (cg_l3 (fun dr222_7 y222_7_8 y222_7_9 u222_7_0 => mg_G u0 u222_7_0 ∧ 0 ≤ y222_7_9.toInt ∧ 16 - y222_7_9.toInt ≤ (dr222_7 : Int)) (fun dr222_7 r222_7 ihr222_7 y222_7_8 y222_7_9 u222_7_0 hh => ?_) 16 4096 (by decide) 0 0 u87_5_0 ⟨su87_5_0, (by first | omega | decide | exact fun q => absurd (by decide) q | (intro _; omega)), (by first | omega | decide | exact fun q => absurd (by decide) q | (intro _; omega))⟩)
        obtain ⟨su222_7_0, i_29, i_30⟩ := hh
        refine cg_le2 (by decide : (16 : Int32).toInt = 16) (Eq.refl ((y222_7_9) : Int32).toInt) (fun h_31 => ?_) (fun h_31 => ?_)
        · refine cg_jn ?_
          refine cg_pos (by decide) ?_
          refine can1_ok (by decide : ¬ (1 : Int32) = 0) (fun W_32 eW_32 => ?_)
          try dsimp only
          have gW_32 := mg_18 su222_7_0 eW_32
          refine cg_jn ?_
          refine cg_pos (by decide) ?_
          exact cg_some (show (mg_G u0 W_32) from gW_32.1)
        · refine cg_jn ?_
          refine cg_eq2 (Eq.refl ((y87_5_5) : Int32).toInt) (by decide : (0 : Int32).toInt = 0) (fun h_33 => ?_) (fun h_33 => ?_)
          · refine cg_eq2 (Eq.refl (((y87_5_7 >>> (y222_7_9 &&& 31)) &&& 1) : Int32).toInt) (by decide : (1 : Int32).toInt = 1) (fun h_34 => ?_) (fun h_34 => ?_)
            · refine cg_bn (t_X7_digs u0 u222_7_0 0 y222_7_9 su222_7_0 (by omega) (by omega) (by first | omega | decide) (by first | omega | decide)) (fun z_19 hz_19 => ?_)
              have e_35 := (add_e (Eq.refl (y222_7_9).toInt) (by decide : (1 : Int32).toInt = 1) (by omega) (by omega))
              exact ihr222_7 (dr222_7 - 1) (y222_7_8 + ((y87_5_7 >>> (y222_7_9 &&& 31)) &&& 1)) (y222_7_9 + 1) z_19 (by omega) ⟨hz_19.1, (by omega), (by omega)⟩
            · have e_36 := (add_e (Eq.refl (y222_7_9).toInt) (by decide : (1 : Int32).toInt = 1) (by omega) (by omega))
              exact ihr222_7 (dr222_7 - 1) (y222_7_8 + ((y87_5_7 >>> (y222_7_9 &&& 31)) &&& 1)) (y222_7_9 + 1) u222_7_0 (by omega) ⟨su222_7_0, (by omega), (by omega)⟩
          · exfalso
            omega
      · refine cg_lt2 (Eq.refl ((p3) : Int32).toInt) (Eq.refl ((y87_5_8) : Int32).toInt) (fun h_37 => ?_) (fun h_37 => ?_)
        · refine cg_q3 (cg_l3 (fun dr222_7 y222_7_8 y222_7_9 u222_7_0 => mg_G u0 u222_7_0 ∧ 0 ≤ y222_7_9.toInt ∧ 16 - y222_7_9.toInt ≤ (dr222_7 : Int)) (fun dr222_7 r222_7 ihr222_7 y222_7_8 y222_7_9 u222_7_0 hh => ?_) 16 4096 (by decide) 0 0 u87_5_0 ⟨su87_5_0, (by first | omega | decide | exact fun q => absurd (by decide) q | (intro _; omega)), (by first | omega | decide | exact fun q => absurd (by decide) q | (intro _; omega))⟩)
          obtain ⟨su222_7_0, i_38, i_39⟩ := hh
          refine cg_le2 (by decide : (16 : Int32).toInt = 16) (Eq.refl ((y222_7_9) : Int32).toInt) (fun h_40 => ?_) (fun h_40 => ?_)
          · refine cg_jn ?_
            refine cg_pos (by decide) ?_
            refine can1_ok (by decide : ¬ (1 : Int32) = 0) (fun W_41 eW_41 => ?_)
            try dsimp only
            have gW_41 := mg_18 su222_7_0 eW_41
            refine cg_jn ?_
            refine cg_pos (by decide) ?_
            exact cg_some (show (mg_G u0 W_41) from gW_41.1)
          · refine cg_jn ?_
            refine cg_eq2 (Eq.refl ((y87_5_5) : Int32).toInt) (by decide : (0 : Int32).toInt = 0) (fun h_42 => ?_) (fun h_42 => ?_)
            · exfalso
              omega
            · have e_43 := (add_e (Eq.refl (y222_7_9).toInt) (by decide : (1 : Int32).toInt = 1) (by omega) (by omega))
              exact ihr222_7 (dr222_7 - 1) (y222_7_8 + ((y87_5_7 >>> (y222_7_9 &&& 31)) &&& 1)) (y222_7_9 + 1) u222_7_0 (by omega) ⟨su222_7_0, (by omega), (by omega)⟩
        · refine cg_bn (t_X7_blockOf u87_5_0 0 y87_5_8 (su87_5_0).1 (by first | omega | decide) (by first | omega | decide) (by first | omega | decide) (by first | omega | decide)) (fun z_22 hz_22 => ?_)
          refine cg_jn ?_
          refine cg_eq2 (Eq.refl ((z_22) : Int32).toInt) (by decide : (-1 : Int32).toInt = -1) (fun h_44 => ?_) (fun h_44 => ?_)
          · refine cg_bn (t_X7_isShort u87_5_0 0 (su87_5_0).1 (by first | omega | decide) (by first | omega | decide)) (fun z_25 hz_25 => ?_)
            refine cg_jn ?_
            refine cg_eq2 (Eq.refl ((z_25) : Int32).toInt) (by decide : (0 : Int32).toInt = 0) (fun h_45 => ?_) (fun h_45 => ?_)
            · refine cg_bn (t_X7_blockFor u87_5_0 0 y87_5_8 (su87_5_0).1 (by first | omega | decide) (by first | omega | decide) (by first | omega | decide) (by first | omega | decide)) (fun z_38 hz_38 => ?_)
              refine cg_jn ?_
              refine cg_eq2 (Eq.refl ((z_38) : Int32).toInt) (by decide : (-1 : Int32).toInt = -1) (fun h_46 => ?_) (fun h_46 => ?_)
              · refine cg_jn ?_
                refine cg_pos (by decide) ?_
                refine cg_bn (t_X7_at 0 0 (by first | omega | decide) (by first | omega | decide) (by first | omega | decide) (by first | omega | decide)) (fun z_29 hz_29 => ?_)
                rw [show (0 : Int32).toInt = 0 by decide] at hz_29
                refine cg_chk (inb_e (add_e (add_e hz_29 (by decide : (21 : Int32).toInt = 21) (by omega) (by omega)) (Eq.refl (y87_5_8).toInt) (by omega) (by omega)) (by omega) (by omega)) ?_
                refine cg_bv (fun u_30 eu_30 => ?_)
                have gu_30 : mg_G u0 u_30 := by rw [eu_30]; exact (mg_ablock (r0 := (0 : Int32).toInt.toNat) (p0 := y87_5_8.toInt.toNat) su87_5_0 ((add_e (add_e hz_29 (by decide : (21 : Int32).toInt = 21) (by omega) (by omega)) (Eq.refl (y87_5_8).toInt) (by omega) (by omega)).trans (by omega)) (by omega) (by omega) (hz_22.2.symm.trans (by omega)) (by first | omega | decide) (by first | omega | decide))
                refine cg_bn (t_X7_at 0 0 (by first | omega | decide) (by first | omega | decide) (by first | omega | decide) (by first | omega | decide)) (fun z_31 hz_31 => ?_)
                rw [show (0 : Int32).toInt = 0 by decide] at hz_31
                refine cg_jn ?_
                refine cg_pos (by decide) ?_
                refine cg_chk (inb_e (add_e (add_e hz_31 (by decide : (37 : Int32).toInt = 37) (by omega) (by omega)) (Eq.refl (y87_5_8).toInt) (by omega) (by omega)) (by omega) (by omega)) ?_
                refine cg_bv (fun u_33 eu_33 => ?_)
                have gu_33 : mg_G u0 u_33 := by rw [eu_33]; exact (mg_is (r0 := (0 : Int32).toInt.toNat) (p0 := y87_5_8.toInt.toNat) gu_30 ((add_e (add_e hz_31 (by decide : (37 : Int32).toInt = 37) (by omega) (by omega)) (Eq.refl (y87_5_8).toInt) (by omega) (by omega)).trans (by omega)) (by omega) (Or.inl (by decide)))
                have e_47 := (add_e (Eq.refl (y87_5_8).toInt) (by decide : (1 : Int32).toInt = 1) (by omega) (by omega))
                exact ihr87_5 (dr87_5 - 1) 0 (y87_5_7 ||| 0) (y87_5_8 + 1) u_33 (by omega) ⟨gu_33, (by first | omega | (intro _; omega))⟩
              · refine cg_jn ?_
                refine cg_neg (by decide) ?_
                refine cg_bn (t_X7_at 0 0 (by first | omega | decide) (by first | omega | decide) (by first | omega | decide) (by first | omega | decide)) (fun z_29 hz_29 => ?_)
                rw [show (0 : Int32).toInt = 0 by decide] at hz_29
                refine cg_chk (inb_e (add_e (add_e hz_29 (by decide : (21 : Int32).toInt = 21) (by omega) (by omega)) (Eq.refl (y87_5_8).toInt) (by omega) (by omega)) (by omega) (by omega)) ?_
                refine cg_bv (fun u_30 eu_30 => ?_)
                have gu_30 : mg_G u0 u_30 := by rw [eu_30]; exact (mg_ablock (r0 := (0 : Int32).toInt.toNat) (p0 := y87_5_8.toInt.toNat) su87_5_0 ((add_e (add_e hz_29 (by decide : (21 : Int32).toInt = 21) (by omega) (by omega)) (Eq.refl (y87_5_8).toInt) (by omega) (by omega)).trans (by omega)) (by omega) (by omega) (hz_22.2.symm.trans (by omega)) (by first | omega | decide) (by first | omega | decide))
                refine cg_bn (t_X7_at 0 0 (by first | omega | decide) (by first | omega | decide) (by first | omega | decide) (by first | omega | decide)) (fun z_31 hz_31 => ?_)
                rw [show (0 : Int32).toInt = 0 by decide] at hz_31
                refine cg_jn ?_
                refine cg_neg (by decide) ?_
                refine cg_chk (inb_e (add_e (add_e hz_31 (by decide : (37 : Int32).toInt = 37) (by omega) (by omega)) (Eq.refl (y87_5_8).toInt) (by omega) (by omega)) (by omega) (by omega)) ?_
                refine cg_bv (fun u_33 eu_33 => ?_)
                have gu_33 : mg_G u0 u_33 := by rw [eu_33]; exact (mg_is (r0 := (0 : Int32).toInt.toNat) (p0 := y87_5_8.toInt.toNat) gu_30 ((add_e (add_e hz_31 (by decide : (37 : Int32).toInt = 37) (by omega) (by omega)) (Eq.refl (y87_5_8).toInt) (by omega) (by omega)).trans (by omega)) (by omega) (Or.inl (by decide)))
                have e_48 := (add_e (Eq.refl (y87_5_8).toInt) (by decide : (1 : Int32).toInt = 1) (by omega) (by omega))
                exact ihr87_5 (dr87_5 - 1) 1 (y87_5_7 ||| (1 <<< (y87_5_8 &&& 31))) (y87_5_8 + 1) u_33 (by omega) ⟨gu_33, (by first | omega | (intro _; omega))⟩
            · refine cg_jn ?_
              refine cg_pos (by decide) ?_
              refine cg_jn ?_
              refine cg_pos (by decide) ?_
              refine cg_bn (t_X7_at 0 0 (by first | omega | decide) (by first | omega | decide) (by first | omega | decide) (by first | omega | decide)) (fun z_29 hz_29 => ?_)
              rw [show (0 : Int32).toInt = 0 by decide] at hz_29
              refine cg_chk (inb_e (add_e (add_e hz_29 (by decide : (21 : Int32).toInt = 21) (by omega) (by omega)) (Eq.refl (y87_5_8).toInt) (by omega) (by omega)) (by omega) (by omega)) ?_
              refine cg_bv (fun u_30 eu_30 => ?_)
              have gu_30 : mg_G u0 u_30 := by rw [eu_30]; exact (mg_ablock (r0 := (0 : Int32).toInt.toNat) (p0 := y87_5_8.toInt.toNat) su87_5_0 ((add_e (add_e hz_29 (by decide : (21 : Int32).toInt = 21) (by omega) (by omega)) (Eq.refl (y87_5_8).toInt) (by omega) (by omega)).trans (by omega)) (by omega) (by omega) (hz_22.2.symm.trans (by omega)) (by first | omega | decide) (by first | omega | decide))
              refine cg_bn (t_X7_at 0 0 (by first | omega | decide) (by first | omega | decide) (by first | omega | decide) (by first | omega | decide)) (fun z_31 hz_31 => ?_)
              rw [show (0 : Int32).toInt = 0 by decide] at hz_31
              refine cg_jn ?_
              refine cg_pos (by decide) ?_
              refine cg_chk (inb_e (add_e (add_e hz_31 (by decide : (37 : Int32).toInt = 37) (by omega) (by omega)) (Eq.refl (y87_5_8).toInt) (by omega) (by omega)) (by omega) (by omega)) ?_
              refine cg_bv (fun u_33 eu_33 => ?_)
              have gu_33 : mg_G u0 u_33 := by rw [eu_33]; exact (mg_is (r0 := (0 : Int32).toInt.toNat) (p0 := y87_5_8.toInt.toNat) gu_30 ((add_e (add_e hz_31 (by decide : (37 : Int32).toInt = 37) (by omega) (by omega)) (Eq.refl (y87_5_8).toInt) (by omega) (by omega)).trans (by omega)) (by omega) (Or.inl (by decide)))
              have e_49 := (add_e (Eq.refl (y87_5_8).toInt) (by decide : (1 : Int32).toInt = 1) (by omega) (by omega))
              exact ihr87_5 (dr87_5 - 1) 0 (y87_5_7 ||| 0) (y87_5_8 + 1) u_33 (by omega) ⟨gu_33, (by first | omega | (intro _; omega))⟩
          · have e_50 := (add_e (Eq.refl (y87_5_8).toInt) (by decide : (1 : Int32).toInt = 1) (by omega) (by omega))
            exact ihr87_5 (dr87_5 - 1) y87_5_5 y87_5_7 (y87_5_8 + 1) u87_5_0 (by omega) ⟨su87_5_0, (by first | omega | (intro _; omega))⟩
    · refine cg_bn (t_X7_isPage p3 ) (fun z_49 hz_49 => ?_)
      refine cg_eq2 (Eq.refl ((z_49) : Int32).toInt) (by decide : (0 : Int32).toInt = 0) (fun h_51 => ?_) (fun h_51 => ?_)
      · refine cg_jn ?_
        refine cg_jn ?_
        refine cg_pos (by decide) ?_
        refine cg_jn ?_
        refine cg_pos (by decide) ?_
        refine cg_q4 (cg_l4 (fun dr87_5 y87_5_5 y87_5_7 y87_5_8 u87_5_0 => mg_G u0 u87_5_0 ∧ (y87_5_5.toInt ≠ 0 → (0 ≤ y87_5_8.toInt ∧ 16 - y87_5_8.toInt ≤ (dr87_5 : Int) ∧ p3.toInt ≤ 15))) (fun dr87_5 r87_5 ihr87_5 y87_5_5 y87_5_7 y87_5_8 u87_5_0 hh => ?_) 16 4096 (by decide) 0 0 p2 u0 ⟨(mg_refl h0), (by first | omega | decide | exact fun q => absurd (by decide) q | (intro _; omega))⟩)
        obtain ⟨su87_5_0, i_52⟩ := hh
        refine cg_jn ?_
        refine cg_eq2 (Eq.refl ((y87_5_5) : Int32).toInt) (by decide : (0 : Int32).toInt = 0) (fun h_53 => ?_) (fun h_53 => ?_)
        · refine cg_q3 (cg_l3 (fun dr222_7 y222_7_8 y222_7_9 u222_7_0 => mg_G u0 u222_7_0 ∧ 0 ≤ y222_7_9.toInt ∧ 16 - y222_7_9.toInt ≤ (dr222_7 : Int)) (fun dr222_7 r222_7 ihr222_7 y222_7_8 y222_7_9 u222_7_0 hh => ?_) 16 4096 (by decide) 0 0 u87_5_0 ⟨su87_5_0, (by first | omega | decide | exact fun q => absurd (by decide) q | (intro _; omega)), (by first | omega | decide | exact fun q => absurd (by decide) q | (intro _; omega))⟩)
          obtain ⟨su222_7_0, i_54, i_55⟩ := hh
          refine cg_le2 (by decide : (16 : Int32).toInt = 16) (Eq.refl ((y222_7_9) : Int32).toInt) (fun h_56 => ?_) (fun h_56 => ?_)
          · refine cg_jn ?_
            refine cg_pos (by decide) ?_
            refine can1_ok (by decide : ¬ (1 : Int32) = 0) (fun W_57 eW_57 => ?_)
            try dsimp only
            have gW_57 := mg_18 su222_7_0 eW_57
            refine cg_jn ?_
            refine cg_pos (by decide) ?_
            exact cg_some (show (mg_G u0 W_57) from gW_57.1)
          · refine cg_jn ?_
            refine cg_eq2 (Eq.refl ((y87_5_5) : Int32).toInt) (by decide : (0 : Int32).toInt = 0) (fun h_58 => ?_) (fun h_58 => ?_)
            · refine cg_eq2 (Eq.refl (((y87_5_7 >>> (y222_7_9 &&& 31)) &&& 1) : Int32).toInt) (by decide : (1 : Int32).toInt = 1) (fun h_59 => ?_) (fun h_59 => ?_)
              · refine cg_bn (t_X7_digs u0 u222_7_0 0 y222_7_9 su222_7_0 (by omega) (by omega) (by first | omega | decide) (by first | omega | decide)) (fun z_19 hz_19 => ?_)
                have e_60 := (add_e (Eq.refl (y222_7_9).toInt) (by decide : (1 : Int32).toInt = 1) (by omega) (by omega))
                exact ihr222_7 (dr222_7 - 1) (y222_7_8 + ((y87_5_7 >>> (y222_7_9 &&& 31)) &&& 1)) (y222_7_9 + 1) z_19 (by omega) ⟨hz_19.1, (by omega), (by omega)⟩
              · have e_61 := (add_e (Eq.refl (y222_7_9).toInt) (by decide : (1 : Int32).toInt = 1) (by omega) (by omega))
                exact ihr222_7 (dr222_7 - 1) (y222_7_8 + ((y87_5_7 >>> (y222_7_9 &&& 31)) &&& 1)) (y222_7_9 + 1) u222_7_0 (by omega) ⟨su222_7_0, (by omega), (by omega)⟩
            · exfalso
              omega
        · refine cg_lt2 (Eq.refl ((p3) : Int32).toInt) (Eq.refl ((y87_5_8) : Int32).toInt) (fun h_62 => ?_) (fun h_62 => ?_)
          · refine cg_q3 (cg_l3 (fun dr222_7 y222_7_8 y222_7_9 u222_7_0 => mg_G u0 u222_7_0 ∧ 0 ≤ y222_7_9.toInt ∧ 16 - y222_7_9.toInt ≤ (dr222_7 : Int)) (fun dr222_7 r222_7 ihr222_7 y222_7_8 y222_7_9 u222_7_0 hh => ?_) 16 4096 (by decide) 0 0 u87_5_0 ⟨su87_5_0, (by first | omega | decide | exact fun q => absurd (by decide) q | (intro _; omega)), (by first | omega | decide | exact fun q => absurd (by decide) q | (intro _; omega))⟩)
            obtain ⟨su222_7_0, i_63, i_64⟩ := hh
            refine cg_le2 (by decide : (16 : Int32).toInt = 16) (Eq.refl ((y222_7_9) : Int32).toInt) (fun h_65 => ?_) (fun h_65 => ?_)
            · refine cg_jn ?_
              refine cg_pos (by decide) ?_
              refine can1_ok (by decide : ¬ (1 : Int32) = 0) (fun W_66 eW_66 => ?_)
              try dsimp only
              have gW_66 := mg_18 su222_7_0 eW_66
              refine cg_jn ?_
              refine cg_pos (by decide) ?_
              exact cg_some (show (mg_G u0 W_66) from gW_66.1)
            · refine cg_jn ?_
              refine cg_eq2 (Eq.refl ((y87_5_5) : Int32).toInt) (by decide : (0 : Int32).toInt = 0) (fun h_67 => ?_) (fun h_67 => ?_)
              · exfalso
                omega
              · have e_68 := (add_e (Eq.refl (y222_7_9).toInt) (by decide : (1 : Int32).toInt = 1) (by omega) (by omega))
                exact ihr222_7 (dr222_7 - 1) (y222_7_8 + ((y87_5_7 >>> (y222_7_9 &&& 31)) &&& 1)) (y222_7_9 + 1) u222_7_0 (by omega) ⟨su222_7_0, (by omega), (by omega)⟩
          · refine cg_bn (t_X7_blockOf u87_5_0 0 y87_5_8 (su87_5_0).1 (by first | omega | decide) (by first | omega | decide) (by first | omega | decide) (by first | omega | decide)) (fun z_22 hz_22 => ?_)
            refine cg_jn ?_
            refine cg_eq2 (Eq.refl ((z_22) : Int32).toInt) (by decide : (-1 : Int32).toInt = -1) (fun h_69 => ?_) (fun h_69 => ?_)
            · refine cg_bn (t_X7_isShort u87_5_0 0 (su87_5_0).1 (by first | omega | decide) (by first | omega | decide)) (fun z_25 hz_25 => ?_)
              refine cg_jn ?_
              refine cg_eq2 (Eq.refl ((z_25) : Int32).toInt) (by decide : (0 : Int32).toInt = 0) (fun h_70 => ?_) (fun h_70 => ?_)
              · refine cg_bn (t_X7_blockFor u87_5_0 0 y87_5_8 (su87_5_0).1 (by first | omega | decide) (by first | omega | decide) (by first | omega | decide) (by first | omega | decide)) (fun z_38 hz_38 => ?_)
                refine cg_jn ?_
                refine cg_eq2 (Eq.refl ((z_38) : Int32).toInt) (by decide : (-1 : Int32).toInt = -1) (fun h_71 => ?_) (fun h_71 => ?_)
                · refine cg_jn ?_
                  refine cg_pos (by decide) ?_
                  refine cg_bn (t_X7_at 0 0 (by first | omega | decide) (by first | omega | decide) (by first | omega | decide) (by first | omega | decide)) (fun z_29 hz_29 => ?_)
                  rw [show (0 : Int32).toInt = 0 by decide] at hz_29
                  refine cg_chk (inb_e (add_e (add_e hz_29 (by decide : (21 : Int32).toInt = 21) (by omega) (by omega)) (Eq.refl (y87_5_8).toInt) (by omega) (by omega)) (by omega) (by omega)) ?_
                  refine cg_bv (fun u_30 eu_30 => ?_)
                  have gu_30 : mg_G u0 u_30 := by rw [eu_30]; exact (mg_ablock (r0 := (0 : Int32).toInt.toNat) (p0 := y87_5_8.toInt.toNat) su87_5_0 ((add_e (add_e hz_29 (by decide : (21 : Int32).toInt = 21) (by omega) (by omega)) (Eq.refl (y87_5_8).toInt) (by omega) (by omega)).trans (by omega)) (by omega) (by omega) (hz_22.2.symm.trans (by omega)) (by first | omega | decide) (by first | omega | decide))
                  refine cg_bn (t_X7_at 0 0 (by first | omega | decide) (by first | omega | decide) (by first | omega | decide) (by first | omega | decide)) (fun z_31 hz_31 => ?_)
                  rw [show (0 : Int32).toInt = 0 by decide] at hz_31
                  refine cg_jn ?_
                  refine cg_pos (by decide) ?_
                  refine cg_chk (inb_e (add_e (add_e hz_31 (by decide : (37 : Int32).toInt = 37) (by omega) (by omega)) (Eq.refl (y87_5_8).toInt) (by omega) (by omega)) (by omega) (by omega)) ?_
                  refine cg_bv (fun u_33 eu_33 => ?_)
                  have gu_33 : mg_G u0 u_33 := by rw [eu_33]; exact (mg_is (r0 := (0 : Int32).toInt.toNat) (p0 := y87_5_8.toInt.toNat) gu_30 ((add_e (add_e hz_31 (by decide : (37 : Int32).toInt = 37) (by omega) (by omega)) (Eq.refl (y87_5_8).toInt) (by omega) (by omega)).trans (by omega)) (by omega) (Or.inl (by decide)))
                  have e_72 := (add_e (Eq.refl (y87_5_8).toInt) (by decide : (1 : Int32).toInt = 1) (by omega) (by omega))
                  exact ihr87_5 (dr87_5 - 1) 0 (y87_5_7 ||| 0) (y87_5_8 + 1) u_33 (by omega) ⟨gu_33, (by first | omega | (intro _; omega))⟩
                · refine cg_jn ?_
                  refine cg_neg (by decide) ?_
                  refine cg_bn (t_X7_at 0 0 (by first | omega | decide) (by first | omega | decide) (by first | omega | decide) (by first | omega | decide)) (fun z_29 hz_29 => ?_)
                  rw [show (0 : Int32).toInt = 0 by decide] at hz_29
                  refine cg_chk (inb_e (add_e (add_e hz_29 (by decide : (21 : Int32).toInt = 21) (by omega) (by omega)) (Eq.refl (y87_5_8).toInt) (by omega) (by omega)) (by omega) (by omega)) ?_
                  refine cg_bv (fun u_30 eu_30 => ?_)
                  have gu_30 : mg_G u0 u_30 := by rw [eu_30]; exact (mg_ablock (r0 := (0 : Int32).toInt.toNat) (p0 := y87_5_8.toInt.toNat) su87_5_0 ((add_e (add_e hz_29 (by decide : (21 : Int32).toInt = 21) (by omega) (by omega)) (Eq.refl (y87_5_8).toInt) (by omega) (by omega)).trans (by omega)) (by omega) (by omega) (hz_22.2.symm.trans (by omega)) (by first | omega | decide) (by first | omega | decide))
                  refine cg_bn (t_X7_at 0 0 (by first | omega | decide) (by first | omega | decide) (by first | omega | decide) (by first | omega | decide)) (fun z_31 hz_31 => ?_)
                  rw [show (0 : Int32).toInt = 0 by decide] at hz_31
                  refine cg_jn ?_
                  refine cg_neg (by decide) ?_
                  refine cg_chk (inb_e (add_e (add_e hz_31 (by decide : (37 : Int32).toInt = 37) (by omega) (by omega)) (Eq.refl (y87_5_8).toInt) (by omega) (by omega)) (by omega) (by omega)) ?_
                  refine cg_bv (fun u_33 eu_33 => ?_)
                  have gu_33 : mg_G u0 u_33 := by rw [eu_33]; exact (mg_is (r0 := (0 : Int32).toInt.toNat) (p0 := y87_5_8.toInt.toNat) gu_30 ((add_e (add_e hz_31 (by decide : (37 : Int32).toInt = 37) (by omega) (by omega)) (Eq.refl (y87_5_8).toInt) (by omega) (by omega)).trans (by omega)) (by omega) (Or.inl (by decide)))
                  have e_73 := (add_e (Eq.refl (y87_5_8).toInt) (by decide : (1 : Int32).toInt = 1) (by omega) (by omega))
                  exact ihr87_5 (dr87_5 - 1) 1 (y87_5_7 ||| (1 <<< (y87_5_8 &&& 31))) (y87_5_8 + 1) u_33 (by omega) ⟨gu_33, (by first | omega | (intro _; omega))⟩
              · refine cg_jn ?_
                refine cg_pos (by decide) ?_
                refine cg_jn ?_
                refine cg_pos (by decide) ?_
                refine cg_bn (t_X7_at 0 0 (by first | omega | decide) (by first | omega | decide) (by first | omega | decide) (by first | omega | decide)) (fun z_29 hz_29 => ?_)
                rw [show (0 : Int32).toInt = 0 by decide] at hz_29
                refine cg_chk (inb_e (add_e (add_e hz_29 (by decide : (21 : Int32).toInt = 21) (by omega) (by omega)) (Eq.refl (y87_5_8).toInt) (by omega) (by omega)) (by omega) (by omega)) ?_
                refine cg_bv (fun u_30 eu_30 => ?_)
                have gu_30 : mg_G u0 u_30 := by rw [eu_30]; exact (mg_ablock (r0 := (0 : Int32).toInt.toNat) (p0 := y87_5_8.toInt.toNat) su87_5_0 ((add_e (add_e hz_29 (by decide : (21 : Int32).toInt = 21) (by omega) (by omega)) (Eq.refl (y87_5_8).toInt) (by omega) (by omega)).trans (by omega)) (by omega) (by omega) (hz_22.2.symm.trans (by omega)) (by first | omega | decide) (by first | omega | decide))
                refine cg_bn (t_X7_at 0 0 (by first | omega | decide) (by first | omega | decide) (by first | omega | decide) (by first | omega | decide)) (fun z_31 hz_31 => ?_)
                rw [show (0 : Int32).toInt = 0 by decide] at hz_31
                refine cg_jn ?_
                refine cg_pos (by decide) ?_
                refine cg_chk (inb_e (add_e (add_e hz_31 (by decide : (37 : Int32).toInt = 37) (by omega) (by omega)) (Eq.refl (y87_5_8).toInt) (by omega) (by omega)) (by omega) (by omega)) ?_
                refine cg_bv (fun u_33 eu_33 => ?_)
                have gu_33 : mg_G u0 u_33 := by rw [eu_33]; exact (mg_is (r0 := (0 : Int32).toInt.toNat) (p0 := y87_5_8.toInt.toNat) gu_30 ((add_e (add_e hz_31 (by decide : (37 : Int32).toInt = 37) (by omega) (by omega)) (Eq.refl (y87_5_8).toInt) (by omega) (by omega)).trans (by omega)) (by omega) (Or.inl (by decide)))
                have e_74 := (add_e (Eq.refl (y87_5_8).toInt) (by decide : (1 : Int32).toInt = 1) (by omega) (by omega))
                exact ihr87_5 (dr87_5 - 1) 0 (y87_5_7 ||| 0) (y87_5_8 + 1) u_33 (by omega) ⟨gu_33, (by first | omega | (intro _; omega))⟩
            · have e_75 := (add_e (Eq.refl (y87_5_8).toInt) (by decide : (1 : Int32).toInt = 1) (by omega) (by omega))
              exact ihr87_5 (dr87_5 - 1) y87_5_5 y87_5_7 (y87_5_8 + 1) u87_5_0 (by omega) ⟨su87_5_0, (by first | omega | (intro _; omega))⟩
      · refine cg_jn ?_
        refine cg_jn ?_
        refine cg_neg (by decide) ?_
        refine cg_lt2 (Eq.refl ((p3) : Int32).toInt) (Eq.refl ((p2) : Int32).toInt) (fun h_76 => ?_) (fun h_76 => ?_)
        · refine cg_jn ?_
          refine cg_neg (by decide) ?_
          refine cg_chk (inb_e (Eq.refl (p1).toInt) (by omega) (by omega)) ?_
          refine cg_q4 (cg_l4 (fun dr87_5 y87_5_5 y87_5_7 y87_5_8 u87_5_0 => mg_G u0 u87_5_0 ∧ (y87_5_5.toInt ≠ 0 → (0 ≤ y87_5_8.toInt ∧ 16 - y87_5_8.toInt ≤ (dr87_5 : Int) ∧ p3.toInt ≤ 15))) (fun dr87_5 r87_5 ihr87_5 y87_5_5 y87_5_7 y87_5_8 u87_5_0 hh => ?_) 16 4096 (by decide) 0 0 p2 u0 ⟨(mg_refl h0), (by first | omega | decide | exact fun q => absurd (by decide) q | (intro _; omega))⟩)
          obtain ⟨su87_5_0, i_77⟩ := hh
          refine cg_jn ?_
          refine cg_eq2 (Eq.refl ((y87_5_5) : Int32).toInt) (by decide : (0 : Int32).toInt = 0) (fun h_78 => ?_) (fun h_78 => ?_)
          · refine cg_q3 (cg_l3 (fun dr222_7 y222_7_8 y222_7_9 u222_7_0 => mg_G u0 u222_7_0 ∧ 0 ≤ y222_7_9.toInt ∧ 16 - y222_7_9.toInt ≤ (dr222_7 : Int)) (fun dr222_7 r222_7 ihr222_7 y222_7_8 y222_7_9 u222_7_0 hh => ?_) 16 4096 (by decide) 0 0 u87_5_0 ⟨su87_5_0, (by first | omega | decide | exact fun q => absurd (by decide) q | (intro _; omega)), (by first | omega | decide | exact fun q => absurd (by decide) q | (intro _; omega))⟩)
            obtain ⟨su222_7_0, i_79, i_80⟩ := hh
            refine cg_le2 (by decide : (16 : Int32).toInt = 16) (Eq.refl ((y222_7_9) : Int32).toInt) (fun h_81 => ?_) (fun h_81 => ?_)
            · refine cg_jn ?_
              refine cg_neg (by decide) ?_
              refine cg_le2 (Eq.refl ((p2) : Int32).toInt) (Eq.refl ((p3) : Int32).toInt) (fun h_82 => ?_) (fun h_82 => ?_)
              · refine cg_eq2 (Eq.refl ((y87_5_5) : Int32).toInt) (by decide : (0 : Int32).toInt = 0) (fun h_83 => ?_) (fun h_83 => ?_)
                · refine can1_ok (by decide : ¬ (3 : Int32) = 0) (fun W_84 eW_84 => ?_)
                  try dsimp only
                  have gW_84 := mg_18 su222_7_0 eW_84
                  refine cg_jn ?_
                  refine cg_pos (by decide) ?_
                  exact cg_some (show (mg_G u0 W_84) from gW_84.1)
                · exfalso
                  omega
              · refine can1_ok (by decide : ¬ (2 : Int32) = 0) (fun W_85 eW_85 => ?_)
                try dsimp only
                have gW_85 := mg_18 su222_7_0 eW_85
                refine cg_jn ?_
                refine cg_pos (by decide) ?_
                exact cg_some (show (mg_G u0 W_85) from gW_85.1)
            · refine cg_jn ?_
              refine cg_eq2 (Eq.refl ((y87_5_5) : Int32).toInt) (by decide : (0 : Int32).toInt = 0) (fun h_86 => ?_) (fun h_86 => ?_)
              · refine cg_eq2 (Eq.refl (((y87_5_7 >>> (y222_7_9 &&& 31)) &&& 1) : Int32).toInt) (by decide : (1 : Int32).toInt = 1) (fun h_87 => ?_) (fun h_87 => ?_)
                · have b_88 := mg_jh u0 ((mg_refl h0)).1 p1 (by omega) (by omega)
                  refine cg_bn (t_X7_digs u0 u222_7_0 (u0 10 (p1).toNatClampNeg) y222_7_9 su222_7_0 (by omega) (by omega) (by first | omega | decide) (by first | omega | decide)) (fun z_19 hz_19 => ?_)
                  have e_89 := (add_e (Eq.refl (y222_7_9).toInt) (by decide : (1 : Int32).toInt = 1) (by omega) (by omega))
                  exact ihr222_7 (dr222_7 - 1) (y222_7_8 + ((y87_5_7 >>> (y222_7_9 &&& 31)) &&& 1)) (y222_7_9 + 1) z_19 (by omega) ⟨hz_19.1, (by omega), (by omega)⟩
                · have e_90 := (add_e (Eq.refl (y222_7_9).toInt) (by decide : (1 : Int32).toInt = 1) (by omega) (by omega))
                  exact ihr222_7 (dr222_7 - 1) (y222_7_8 + ((y87_5_7 >>> (y222_7_9 &&& 31)) &&& 1)) (y222_7_9 + 1) u222_7_0 (by omega) ⟨su222_7_0, (by omega), (by omega)⟩
              · exfalso
                omega
          · refine cg_lt2 (Eq.refl ((p3) : Int32).toInt) (Eq.refl ((y87_5_8) : Int32).toInt) (fun h_91 => ?_) (fun h_91 => ?_)
            · refine cg_q3 (cg_l3 (fun dr222_7 y222_7_8 y222_7_9 u222_7_0 => mg_G u0 u222_7_0 ∧ 0 ≤ y222_7_9.toInt ∧ 16 - y222_7_9.toInt ≤ (dr222_7 : Int)) (fun dr222_7 r222_7 ihr222_7 y222_7_8 y222_7_9 u222_7_0 hh => ?_) 16 4096 (by decide) 0 0 u87_5_0 ⟨su87_5_0, (by first | omega | decide | exact fun q => absurd (by decide) q | (intro _; omega)), (by first | omega | decide | exact fun q => absurd (by decide) q | (intro _; omega))⟩)
              obtain ⟨su222_7_0, i_92, i_93⟩ := hh
              refine cg_le2 (by decide : (16 : Int32).toInt = 16) (Eq.refl ((y222_7_9) : Int32).toInt) (fun h_94 => ?_) (fun h_94 => ?_)
              · refine cg_jn ?_
                refine cg_neg (by decide) ?_
                refine cg_le2 (Eq.refl ((p2) : Int32).toInt) (Eq.refl ((p3) : Int32).toInt) (fun h_95 => ?_) (fun h_95 => ?_)
                · refine cg_eq2 (Eq.refl ((y87_5_5) : Int32).toInt) (by decide : (0 : Int32).toInt = 0) (fun h_96 => ?_) (fun h_96 => ?_)
                  · exfalso
                    omega
                  · refine can0_ok (fun W_97 eW_97 => ?_)
                    try dsimp only
                    have gW_97 := mg_18 su222_7_0 eW_97
                    refine cg_jn ?_
                    refine cg_neg (by decide) ?_
                    exact cg_some (show (mg_G u0 W_97) from gW_97.1)
                · refine can1_ok (by decide : ¬ (2 : Int32) = 0) (fun W_98 eW_98 => ?_)
                  try dsimp only
                  have gW_98 := mg_18 su222_7_0 eW_98
                  refine cg_jn ?_
                  refine cg_pos (by decide) ?_
                  exact cg_some (show (mg_G u0 W_98) from gW_98.1)
              · refine cg_jn ?_
                refine cg_eq2 (Eq.refl ((y87_5_5) : Int32).toInt) (by decide : (0 : Int32).toInt = 0) (fun h_99 => ?_) (fun h_99 => ?_)
                · exfalso
                  omega
                · have e_100 := (add_e (Eq.refl (y222_7_9).toInt) (by decide : (1 : Int32).toInt = 1) (by omega) (by omega))
                  exact ihr222_7 (dr222_7 - 1) (y222_7_8 + ((y87_5_7 >>> (y222_7_9 &&& 31)) &&& 1)) (y222_7_9 + 1) u222_7_0 (by omega) ⟨su222_7_0, (by omega), (by omega)⟩
            · have b_101 := mg_jh u0 ((mg_refl h0)).1 p1 (by omega) (by omega)
              refine cg_bn (t_X7_blockOf u87_5_0 (u0 10 (p1).toNatClampNeg) y87_5_8 (su87_5_0).1 (by first | omega | decide) (by first | omega | decide) (by first | omega | decide) (by first | omega | decide)) (fun z_22 hz_22 => ?_)
              refine cg_jn ?_
              refine cg_eq2 (Eq.refl ((z_22) : Int32).toInt) (by decide : (-1 : Int32).toInt = -1) (fun h_102 => ?_) (fun h_102 => ?_)
              · have b_103 := mg_jh u0 ((mg_refl h0)).1 p1 (by omega) (by omega)
                refine cg_bn (t_X7_isShort u87_5_0 (u0 10 (p1).toNatClampNeg) (su87_5_0).1 (by first | omega | decide) (by first | omega | decide)) (fun z_25 hz_25 => ?_)
                refine cg_jn ?_
                refine cg_eq2 (Eq.refl ((z_25) : Int32).toInt) (by decide : (0 : Int32).toInt = 0) (fun h_104 => ?_) (fun h_104 => ?_)
                · have b_105 := mg_jh u0 ((mg_refl h0)).1 p1 (by omega) (by omega)
                  refine cg_bn (t_X7_blockFor u87_5_0 (u0 10 (p1).toNatClampNeg) y87_5_8 (su87_5_0).1 (by first | omega | decide) (by first | omega | decide) (by first | omega | decide) (by first | omega | decide)) (fun z_38 hz_38 => ?_)
                  refine cg_jn ?_
                  refine cg_eq2 (Eq.refl ((z_38) : Int32).toInt) (by decide : (-1 : Int32).toInt = -1) (fun h_106 => ?_) (fun h_106 => ?_)
                  · refine cg_jn ?_
                    refine cg_pos (by decide) ?_
                    have b_107 := mg_jh u0 ((mg_refl h0)).1 p1 (by omega) (by omega)
                    refine cg_bn (t_X7_at 0 (u0 10 (p1).toNatClampNeg) (by first | omega | decide) (by first | omega | decide) (by first | omega | decide) (by first | omega | decide)) (fun z_29 hz_29 => ?_)
                    rw [show (0 : Int32).toInt = 0 by decide] at hz_29
                    refine cg_chk (inb_e (add_e (add_e hz_29 (by decide : (21 : Int32).toInt = 21) (by omega) (by omega)) (Eq.refl (y87_5_8).toInt) (by omega) (by omega)) (by omega) (by omega)) ?_
                    refine cg_bv (fun u_30 eu_30 => ?_)
                    have gu_30 : mg_G u0 u_30 := by rw [eu_30]; exact (mg_ablock (r0 := (u0 10 (p1).toNatClampNeg).toInt.toNat) (p0 := y87_5_8.toInt.toNat) su87_5_0 ((add_e (add_e hz_29 (by decide : (21 : Int32).toInt = 21) (by omega) (by omega)) (Eq.refl (y87_5_8).toInt) (by omega) (by omega)).trans (by omega)) (by omega) (by omega) (hz_22.2.symm.trans (by omega)) (by first | omega | decide) (by first | omega | decide))
                    have b_108 := mg_jh u0 ((mg_refl h0)).1 p1 (by omega) (by omega)
                    refine cg_bn (t_X7_at 0 (u0 10 (p1).toNatClampNeg) (by first | omega | decide) (by first | omega | decide) (by first | omega | decide) (by first | omega | decide)) (fun z_31 hz_31 => ?_)
                    rw [show (0 : Int32).toInt = 0 by decide] at hz_31
                    refine cg_jn ?_
                    refine cg_pos (by decide) ?_
                    refine cg_chk (inb_e (add_e (add_e hz_31 (by decide : (37 : Int32).toInt = 37) (by omega) (by omega)) (Eq.refl (y87_5_8).toInt) (by omega) (by omega)) (by omega) (by omega)) ?_
                    refine cg_bv (fun u_33 eu_33 => ?_)
                    have gu_33 : mg_G u0 u_33 := by rw [eu_33]; exact (mg_is (r0 := (u0 10 (p1).toNatClampNeg).toInt.toNat) (p0 := y87_5_8.toInt.toNat) gu_30 ((add_e (add_e hz_31 (by decide : (37 : Int32).toInt = 37) (by omega) (by omega)) (Eq.refl (y87_5_8).toInt) (by omega) (by omega)).trans (by omega)) (by omega) (Or.inl (by decide)))
                    have e_109 := (add_e (Eq.refl (y87_5_8).toInt) (by decide : (1 : Int32).toInt = 1) (by omega) (by omega))
                    exact ihr87_5 (dr87_5 - 1) 0 (y87_5_7 ||| 0) (y87_5_8 + 1) u_33 (by omega) ⟨gu_33, (by first | omega | (intro _; omega))⟩
                  · refine cg_jn ?_
                    refine cg_neg (by decide) ?_
                    have b_110 := mg_jh u0 ((mg_refl h0)).1 p1 (by omega) (by omega)
                    refine cg_bn (t_X7_at 0 (u0 10 (p1).toNatClampNeg) (by first | omega | decide) (by first | omega | decide) (by first | omega | decide) (by first | omega | decide)) (fun z_29 hz_29 => ?_)
                    rw [show (0 : Int32).toInt = 0 by decide] at hz_29
                    refine cg_chk (inb_e (add_e (add_e hz_29 (by decide : (21 : Int32).toInt = 21) (by omega) (by omega)) (Eq.refl (y87_5_8).toInt) (by omega) (by omega)) (by omega) (by omega)) ?_
                    refine cg_bv (fun u_30 eu_30 => ?_)
                    have gu_30 : mg_G u0 u_30 := by rw [eu_30]; exact (mg_ablock (r0 := (u0 10 (p1).toNatClampNeg).toInt.toNat) (p0 := y87_5_8.toInt.toNat) su87_5_0 ((add_e (add_e hz_29 (by decide : (21 : Int32).toInt = 21) (by omega) (by omega)) (Eq.refl (y87_5_8).toInt) (by omega) (by omega)).trans (by omega)) (by omega) (by omega) (hz_22.2.symm.trans (by omega)) (by first | omega | decide) (by first | omega | decide))
                    have b_111 := mg_jh u0 ((mg_refl h0)).1 p1 (by omega) (by omega)
                    refine cg_bn (t_X7_at 0 (u0 10 (p1).toNatClampNeg) (by first | omega | decide) (by first | omega | decide) (by first | omega | decide) (by first | omega | decide)) (fun z_31 hz_31 => ?_)
                    rw [show (0 : Int32).toInt = 0 by decide] at hz_31
                    refine cg_jn ?_
                    refine cg_neg (by decide) ?_
                    refine cg_chk (inb_e (add_e (add_e hz_31 (by decide : (37 : Int32).toInt = 37) (by omega) (by omega)) (Eq.refl (y87_5_8).toInt) (by omega) (by omega)) (by omega) (by omega)) ?_
                    refine cg_bv (fun u_33 eu_33 => ?_)
                    have gu_33 : mg_G u0 u_33 := by rw [eu_33]; exact (mg_is (r0 := (u0 10 (p1).toNatClampNeg).toInt.toNat) (p0 := y87_5_8.toInt.toNat) gu_30 ((add_e (add_e hz_31 (by decide : (37 : Int32).toInt = 37) (by omega) (by omega)) (Eq.refl (y87_5_8).toInt) (by omega) (by omega)).trans (by omega)) (by omega) (Or.inl (by decide)))
                    have e_112 := (add_e (Eq.refl (y87_5_8).toInt) (by decide : (1 : Int32).toInt = 1) (by omega) (by omega))
                    exact ihr87_5 (dr87_5 - 1) 1 (y87_5_7 ||| (1 <<< (y87_5_8 &&& 31))) (y87_5_8 + 1) u_33 (by omega) ⟨gu_33, (by first | omega | (intro _; omega))⟩
                · refine cg_jn ?_
                  refine cg_pos (by decide) ?_
                  refine cg_jn ?_
                  refine cg_pos (by decide) ?_
                  have b_113 := mg_jh u0 ((mg_refl h0)).1 p1 (by omega) (by omega)
                  refine cg_bn (t_X7_at 0 (u0 10 (p1).toNatClampNeg) (by first | omega | decide) (by first | omega | decide) (by first | omega | decide) (by first | omega | decide)) (fun z_29 hz_29 => ?_)
                  rw [show (0 : Int32).toInt = 0 by decide] at hz_29
                  refine cg_chk (inb_e (add_e (add_e hz_29 (by decide : (21 : Int32).toInt = 21) (by omega) (by omega)) (Eq.refl (y87_5_8).toInt) (by omega) (by omega)) (by omega) (by omega)) ?_
                  refine cg_bv (fun u_30 eu_30 => ?_)
                  have gu_30 : mg_G u0 u_30 := by rw [eu_30]; exact (mg_ablock (r0 := (u0 10 (p1).toNatClampNeg).toInt.toNat) (p0 := y87_5_8.toInt.toNat) su87_5_0 ((add_e (add_e hz_29 (by decide : (21 : Int32).toInt = 21) (by omega) (by omega)) (Eq.refl (y87_5_8).toInt) (by omega) (by omega)).trans (by omega)) (by omega) (by omega) (hz_22.2.symm.trans (by omega)) (by first | omega | decide) (by first | omega | decide))
                  have b_114 := mg_jh u0 ((mg_refl h0)).1 p1 (by omega) (by omega)
                  refine cg_bn (t_X7_at 0 (u0 10 (p1).toNatClampNeg) (by first | omega | decide) (by first | omega | decide) (by first | omega | decide) (by first | omega | decide)) (fun z_31 hz_31 => ?_)
                  rw [show (0 : Int32).toInt = 0 by decide] at hz_31
                  refine cg_jn ?_
                  refine cg_pos (by decide) ?_
                  refine cg_chk (inb_e (add_e (add_e hz_31 (by decide : (37 : Int32).toInt = 37) (by omega) (by omega)) (Eq.refl (y87_5_8).toInt) (by omega) (by omega)) (by omega) (by omega)) ?_
                  refine cg_bv (fun u_33 eu_33 => ?_)
                  have gu_33 : mg_G u0 u_33 := by rw [eu_33]; exact (mg_is (r0 := (u0 10 (p1).toNatClampNeg).toInt.toNat) (p0 := y87_5_8.toInt.toNat) gu_30 ((add_e (add_e hz_31 (by decide : (37 : Int32).toInt = 37) (by omega) (by omega)) (Eq.refl (y87_5_8).toInt) (by omega) (by omega)).trans (by omega)) (by omega) (Or.inl (by decide)))
                  have e_115 := (add_e (Eq.refl (y87_5_8).toInt) (by decide : (1 : Int32).toInt = 1) (by omega) (by omega))
                  exact ihr87_5 (dr87_5 - 1) 0 (y87_5_7 ||| 0) (y87_5_8 + 1) u_33 (by omega) ⟨gu_33, (by first | omega | (intro _; omega))⟩
              · have e_116 := (add_e (Eq.refl (y87_5_8).toInt) (by decide : (1 : Int32).toInt = 1) (by omega) (by omega))
                exact ihr87_5 (dr87_5 - 1) y87_5_5 y87_5_7 (y87_5_8 + 1) u87_5_0 (by omega) ⟨su87_5_0, (by first | omega | (intro _; omega))⟩
        · refine cg_chk (inb_e (Eq.refl (p1).toInt) (by omega) (by omega)) ?_
          refine cg_eq2 (Eq.refl ((u0 12 (p1).toNatClampNeg) : Int32).toInt) (by decide : (0 : Int32).toInt = 0) (fun h_117 => ?_) (fun h_117 => ?_)
          · refine cg_jn ?_
            refine cg_neg (by decide) ?_
            refine cg_chk (inb_e (Eq.refl (p1).toInt) (by omega) (by omega)) ?_
            refine cg_q4 (cg_l4 (fun dr87_5 y87_5_5 y87_5_7 y87_5_8 u87_5_0 => mg_G u0 u87_5_0 ∧ (y87_5_5.toInt ≠ 0 → (0 ≤ y87_5_8.toInt ∧ 16 - y87_5_8.toInt ≤ (dr87_5 : Int) ∧ p3.toInt ≤ 15))) (fun dr87_5 r87_5 ihr87_5 y87_5_5 y87_5_7 y87_5_8 u87_5_0 hh => ?_) 16 4096 (by decide) 0 0 p2 u0 ⟨(mg_refl h0), (by first | omega | decide | exact fun q => absurd (by decide) q | (intro _; omega))⟩)
            obtain ⟨su87_5_0, i_118⟩ := hh
            refine cg_jn ?_
            refine cg_eq2 (Eq.refl ((y87_5_5) : Int32).toInt) (by decide : (0 : Int32).toInt = 0) (fun h_119 => ?_) (fun h_119 => ?_)
            · refine cg_q3 (cg_l3 (fun dr222_7 y222_7_8 y222_7_9 u222_7_0 => mg_G u0 u222_7_0 ∧ 0 ≤ y222_7_9.toInt ∧ 16 - y222_7_9.toInt ≤ (dr222_7 : Int)) (fun dr222_7 r222_7 ihr222_7 y222_7_8 y222_7_9 u222_7_0 hh => ?_) 16 4096 (by decide) 0 0 u87_5_0 ⟨su87_5_0, (by first | omega | decide | exact fun q => absurd (by decide) q | (intro _; omega)), (by first | omega | decide | exact fun q => absurd (by decide) q | (intro _; omega))⟩)
              obtain ⟨su222_7_0, i_120, i_121⟩ := hh
              refine cg_le2 (by decide : (16 : Int32).toInt = 16) (Eq.refl ((y222_7_9) : Int32).toInt) (fun h_122 => ?_) (fun h_122 => ?_)
              · refine cg_jn ?_
                refine cg_neg (by decide) ?_
                refine cg_le2 (Eq.refl ((p2) : Int32).toInt) (Eq.refl ((p3) : Int32).toInt) (fun h_123 => ?_) (fun h_123 => ?_)
                · refine cg_eq2 (Eq.refl ((y87_5_5) : Int32).toInt) (by decide : (0 : Int32).toInt = 0) (fun h_124 => ?_) (fun h_124 => ?_)
                  · refine can1_ok (by decide : ¬ (3 : Int32) = 0) (fun W_125 eW_125 => ?_)
                    try dsimp only
                    have gW_125 := mg_18 su222_7_0 eW_125
                    refine cg_jn ?_
                    refine cg_pos (by decide) ?_
                    exact cg_some (show (mg_G u0 W_125) from gW_125.1)
                  · exfalso
                    omega
                · refine can1_ok (by decide : ¬ (2 : Int32) = 0) (fun W_126 eW_126 => ?_)
                  try dsimp only
                  have gW_126 := mg_18 su222_7_0 eW_126
                  refine cg_jn ?_
                  refine cg_pos (by decide) ?_
                  exact cg_some (show (mg_G u0 W_126) from gW_126.1)
              · refine cg_jn ?_
                refine cg_eq2 (Eq.refl ((y87_5_5) : Int32).toInt) (by decide : (0 : Int32).toInt = 0) (fun h_127 => ?_) (fun h_127 => ?_)
                · refine cg_eq2 (Eq.refl (((y87_5_7 >>> (y222_7_9 &&& 31)) &&& 1) : Int32).toInt) (by decide : (1 : Int32).toInt = 1) (fun h_128 => ?_) (fun h_128 => ?_)
                  · have b_129 := mg_jh u0 ((mg_refl h0)).1 p1 (by omega) (by omega)
                    refine cg_bn (t_X7_digs u0 u222_7_0 (u0 10 (p1).toNatClampNeg) y222_7_9 su222_7_0 (by omega) (by omega) (by first | omega | decide) (by first | omega | decide)) (fun z_19 hz_19 => ?_)
                    have e_130 := (add_e (Eq.refl (y222_7_9).toInt) (by decide : (1 : Int32).toInt = 1) (by omega) (by omega))
                    exact ihr222_7 (dr222_7 - 1) (y222_7_8 + ((y87_5_7 >>> (y222_7_9 &&& 31)) &&& 1)) (y222_7_9 + 1) z_19 (by omega) ⟨hz_19.1, (by omega), (by omega)⟩
                  · have e_131 := (add_e (Eq.refl (y222_7_9).toInt) (by decide : (1 : Int32).toInt = 1) (by omega) (by omega))
                    exact ihr222_7 (dr222_7 - 1) (y222_7_8 + ((y87_5_7 >>> (y222_7_9 &&& 31)) &&& 1)) (y222_7_9 + 1) u222_7_0 (by omega) ⟨su222_7_0, (by omega), (by omega)⟩
                · exfalso
                  omega
            · refine cg_lt2 (Eq.refl ((p3) : Int32).toInt) (Eq.refl ((y87_5_8) : Int32).toInt) (fun h_132 => ?_) (fun h_132 => ?_)
              · refine cg_q3 (cg_l3 (fun dr222_7 y222_7_8 y222_7_9 u222_7_0 => mg_G u0 u222_7_0 ∧ 0 ≤ y222_7_9.toInt ∧ 16 - y222_7_9.toInt ≤ (dr222_7 : Int)) (fun dr222_7 r222_7 ihr222_7 y222_7_8 y222_7_9 u222_7_0 hh => ?_) 16 4096 (by decide) 0 0 u87_5_0 ⟨su87_5_0, (by first | omega | decide | exact fun q => absurd (by decide) q | (intro _; omega)), (by first | omega | decide | exact fun q => absurd (by decide) q | (intro _; omega))⟩)
                obtain ⟨su222_7_0, i_133, i_134⟩ := hh
                refine cg_le2 (by decide : (16 : Int32).toInt = 16) (Eq.refl ((y222_7_9) : Int32).toInt) (fun h_135 => ?_) (fun h_135 => ?_)
                · refine cg_jn ?_
                  refine cg_neg (by decide) ?_
                  refine cg_le2 (Eq.refl ((p2) : Int32).toInt) (Eq.refl ((p3) : Int32).toInt) (fun h_136 => ?_) (fun h_136 => ?_)
                  · refine cg_eq2 (Eq.refl ((y87_5_5) : Int32).toInt) (by decide : (0 : Int32).toInt = 0) (fun h_137 => ?_) (fun h_137 => ?_)
                    · exfalso
                      omega
                    · refine can0_ok (fun W_138 eW_138 => ?_)
                      try dsimp only
                      have gW_138 := mg_18 su222_7_0 eW_138
                      refine cg_jn ?_
                      refine cg_neg (by decide) ?_
                      exact cg_some (show (mg_G u0 W_138) from gW_138.1)
                  · refine can1_ok (by decide : ¬ (2 : Int32) = 0) (fun W_139 eW_139 => ?_)
                    try dsimp only
                    have gW_139 := mg_18 su222_7_0 eW_139
                    refine cg_jn ?_
                    refine cg_pos (by decide) ?_
                    exact cg_some (show (mg_G u0 W_139) from gW_139.1)
                · refine cg_jn ?_
                  refine cg_eq2 (Eq.refl ((y87_5_5) : Int32).toInt) (by decide : (0 : Int32).toInt = 0) (fun h_140 => ?_) (fun h_140 => ?_)
                  · exfalso
                    omega
                  · have e_141 := (add_e (Eq.refl (y222_7_9).toInt) (by decide : (1 : Int32).toInt = 1) (by omega) (by omega))
                    exact ihr222_7 (dr222_7 - 1) (y222_7_8 + ((y87_5_7 >>> (y222_7_9 &&& 31)) &&& 1)) (y222_7_9 + 1) u222_7_0 (by omega) ⟨su222_7_0, (by omega), (by omega)⟩
              · have b_142 := mg_jh u0 ((mg_refl h0)).1 p1 (by omega) (by omega)
                refine cg_bn (t_X7_blockOf u87_5_0 (u0 10 (p1).toNatClampNeg) y87_5_8 (su87_5_0).1 (by first | omega | decide) (by first | omega | decide) (by first | omega | decide) (by first | omega | decide)) (fun z_22 hz_22 => ?_)
                refine cg_jn ?_
                refine cg_eq2 (Eq.refl ((z_22) : Int32).toInt) (by decide : (-1 : Int32).toInt = -1) (fun h_143 => ?_) (fun h_143 => ?_)
                · have b_144 := mg_jh u0 ((mg_refl h0)).1 p1 (by omega) (by omega)
                  refine cg_bn (t_X7_isShort u87_5_0 (u0 10 (p1).toNatClampNeg) (su87_5_0).1 (by first | omega | decide) (by first | omega | decide)) (fun z_25 hz_25 => ?_)
                  refine cg_jn ?_
                  refine cg_eq2 (Eq.refl ((z_25) : Int32).toInt) (by decide : (0 : Int32).toInt = 0) (fun h_145 => ?_) (fun h_145 => ?_)
                  · have b_146 := mg_jh u0 ((mg_refl h0)).1 p1 (by omega) (by omega)
                    refine cg_bn (t_X7_blockFor u87_5_0 (u0 10 (p1).toNatClampNeg) y87_5_8 (su87_5_0).1 (by first | omega | decide) (by first | omega | decide) (by first | omega | decide) (by first | omega | decide)) (fun z_38 hz_38 => ?_)
                    refine cg_jn ?_
                    refine cg_eq2 (Eq.refl ((z_38) : Int32).toInt) (by decide : (-1 : Int32).toInt = -1) (fun h_147 => ?_) (fun h_147 => ?_)
                    · refine cg_jn ?_
                      refine cg_pos (by decide) ?_
                      have b_148 := mg_jh u0 ((mg_refl h0)).1 p1 (by omega) (by omega)
                      refine cg_bn (t_X7_at 0 (u0 10 (p1).toNatClampNeg) (by first | omega | decide) (by first | omega | decide) (by first | omega | decide) (by first | omega | decide)) (fun z_29 hz_29 => ?_)
                      rw [show (0 : Int32).toInt = 0 by decide] at hz_29
                      refine cg_chk (inb_e (add_e (add_e hz_29 (by decide : (21 : Int32).toInt = 21) (by omega) (by omega)) (Eq.refl (y87_5_8).toInt) (by omega) (by omega)) (by omega) (by omega)) ?_
                      refine cg_bv (fun u_30 eu_30 => ?_)
                      have gu_30 : mg_G u0 u_30 := by rw [eu_30]; exact (mg_ablock (r0 := (u0 10 (p1).toNatClampNeg).toInt.toNat) (p0 := y87_5_8.toInt.toNat) su87_5_0 ((add_e (add_e hz_29 (by decide : (21 : Int32).toInt = 21) (by omega) (by omega)) (Eq.refl (y87_5_8).toInt) (by omega) (by omega)).trans (by omega)) (by omega) (by omega) (hz_22.2.symm.trans (by omega)) (by first | omega | decide) (by first | omega | decide))
                      have b_149 := mg_jh u0 ((mg_refl h0)).1 p1 (by omega) (by omega)
                      refine cg_bn (t_X7_at 0 (u0 10 (p1).toNatClampNeg) (by first | omega | decide) (by first | omega | decide) (by first | omega | decide) (by first | omega | decide)) (fun z_31 hz_31 => ?_)
                      rw [show (0 : Int32).toInt = 0 by decide] at hz_31
                      refine cg_jn ?_
                      refine cg_pos (by decide) ?_
                      refine cg_chk (inb_e (add_e (add_e hz_31 (by decide : (37 : Int32).toInt = 37) (by omega) (by omega)) (Eq.refl (y87_5_8).toInt) (by omega) (by omega)) (by omega) (by omega)) ?_
                      refine cg_bv (fun u_33 eu_33 => ?_)
                      have gu_33 : mg_G u0 u_33 := by rw [eu_33]; exact (mg_is (r0 := (u0 10 (p1).toNatClampNeg).toInt.toNat) (p0 := y87_5_8.toInt.toNat) gu_30 ((add_e (add_e hz_31 (by decide : (37 : Int32).toInt = 37) (by omega) (by omega)) (Eq.refl (y87_5_8).toInt) (by omega) (by omega)).trans (by omega)) (by omega) (Or.inl (by decide)))
                      have e_150 := (add_e (Eq.refl (y87_5_8).toInt) (by decide : (1 : Int32).toInt = 1) (by omega) (by omega))
                      exact ihr87_5 (dr87_5 - 1) 0 (y87_5_7 ||| 0) (y87_5_8 + 1) u_33 (by omega) ⟨gu_33, (by first | omega | (intro _; omega))⟩
                    · refine cg_jn ?_
                      refine cg_neg (by decide) ?_
                      have b_151 := mg_jh u0 ((mg_refl h0)).1 p1 (by omega) (by omega)
                      refine cg_bn (t_X7_at 0 (u0 10 (p1).toNatClampNeg) (by first | omega | decide) (by first | omega | decide) (by first | omega | decide) (by first | omega | decide)) (fun z_29 hz_29 => ?_)
                      rw [show (0 : Int32).toInt = 0 by decide] at hz_29
                      refine cg_chk (inb_e (add_e (add_e hz_29 (by decide : (21 : Int32).toInt = 21) (by omega) (by omega)) (Eq.refl (y87_5_8).toInt) (by omega) (by omega)) (by omega) (by omega)) ?_
                      refine cg_bv (fun u_30 eu_30 => ?_)
                      have gu_30 : mg_G u0 u_30 := by rw [eu_30]; exact (mg_ablock (r0 := (u0 10 (p1).toNatClampNeg).toInt.toNat) (p0 := y87_5_8.toInt.toNat) su87_5_0 ((add_e (add_e hz_29 (by decide : (21 : Int32).toInt = 21) (by omega) (by omega)) (Eq.refl (y87_5_8).toInt) (by omega) (by omega)).trans (by omega)) (by omega) (by omega) (hz_22.2.symm.trans (by omega)) (by first | omega | decide) (by first | omega | decide))
                      have b_152 := mg_jh u0 ((mg_refl h0)).1 p1 (by omega) (by omega)
                      refine cg_bn (t_X7_at 0 (u0 10 (p1).toNatClampNeg) (by first | omega | decide) (by first | omega | decide) (by first | omega | decide) (by first | omega | decide)) (fun z_31 hz_31 => ?_)
                      rw [show (0 : Int32).toInt = 0 by decide] at hz_31
                      refine cg_jn ?_
                      refine cg_neg (by decide) ?_
                      refine cg_chk (inb_e (add_e (add_e hz_31 (by decide : (37 : Int32).toInt = 37) (by omega) (by omega)) (Eq.refl (y87_5_8).toInt) (by omega) (by omega)) (by omega) (by omega)) ?_
                      refine cg_bv (fun u_33 eu_33 => ?_)
                      have gu_33 : mg_G u0 u_33 := by rw [eu_33]; exact (mg_is (r0 := (u0 10 (p1).toNatClampNeg).toInt.toNat) (p0 := y87_5_8.toInt.toNat) gu_30 ((add_e (add_e hz_31 (by decide : (37 : Int32).toInt = 37) (by omega) (by omega)) (Eq.refl (y87_5_8).toInt) (by omega) (by omega)).trans (by omega)) (by omega) (Or.inl (by decide)))
                      have e_153 := (add_e (Eq.refl (y87_5_8).toInt) (by decide : (1 : Int32).toInt = 1) (by omega) (by omega))
                      exact ihr87_5 (dr87_5 - 1) 1 (y87_5_7 ||| (1 <<< (y87_5_8 &&& 31))) (y87_5_8 + 1) u_33 (by omega) ⟨gu_33, (by first | omega | (intro _; omega))⟩
                  · refine cg_jn ?_
                    refine cg_pos (by decide) ?_
                    refine cg_jn ?_
                    refine cg_pos (by decide) ?_
                    have b_154 := mg_jh u0 ((mg_refl h0)).1 p1 (by omega) (by omega)
                    refine cg_bn (t_X7_at 0 (u0 10 (p1).toNatClampNeg) (by first | omega | decide) (by first | omega | decide) (by first | omega | decide) (by first | omega | decide)) (fun z_29 hz_29 => ?_)
                    rw [show (0 : Int32).toInt = 0 by decide] at hz_29
                    refine cg_chk (inb_e (add_e (add_e hz_29 (by decide : (21 : Int32).toInt = 21) (by omega) (by omega)) (Eq.refl (y87_5_8).toInt) (by omega) (by omega)) (by omega) (by omega)) ?_
                    refine cg_bv (fun u_30 eu_30 => ?_)
                    have gu_30 : mg_G u0 u_30 := by rw [eu_30]; exact (mg_ablock (r0 := (u0 10 (p1).toNatClampNeg).toInt.toNat) (p0 := y87_5_8.toInt.toNat) su87_5_0 ((add_e (add_e hz_29 (by decide : (21 : Int32).toInt = 21) (by omega) (by omega)) (Eq.refl (y87_5_8).toInt) (by omega) (by omega)).trans (by omega)) (by omega) (by omega) (hz_22.2.symm.trans (by omega)) (by first | omega | decide) (by first | omega | decide))
                    have b_155 := mg_jh u0 ((mg_refl h0)).1 p1 (by omega) (by omega)
                    refine cg_bn (t_X7_at 0 (u0 10 (p1).toNatClampNeg) (by first | omega | decide) (by first | omega | decide) (by first | omega | decide) (by first | omega | decide)) (fun z_31 hz_31 => ?_)
                    rw [show (0 : Int32).toInt = 0 by decide] at hz_31
                    refine cg_jn ?_
                    refine cg_pos (by decide) ?_
                    refine cg_chk (inb_e (add_e (add_e hz_31 (by decide : (37 : Int32).toInt = 37) (by omega) (by omega)) (Eq.refl (y87_5_8).toInt) (by omega) (by omega)) (by omega) (by omega)) ?_
                    refine cg_bv (fun u_33 eu_33 => ?_)
                    have gu_33 : mg_G u0 u_33 := by rw [eu_33]; exact (mg_is (r0 := (u0 10 (p1).toNatClampNeg).toInt.toNat) (p0 := y87_5_8.toInt.toNat) gu_30 ((add_e (add_e hz_31 (by decide : (37 : Int32).toInt = 37) (by omega) (by omega)) (Eq.refl (y87_5_8).toInt) (by omega) (by omega)).trans (by omega)) (by omega) (Or.inl (by decide)))
                    have e_156 := (add_e (Eq.refl (y87_5_8).toInt) (by decide : (1 : Int32).toInt = 1) (by omega) (by omega))
                    exact ihr87_5 (dr87_5 - 1) 0 (y87_5_7 ||| 0) (y87_5_8 + 1) u_33 (by omega) ⟨gu_33, (by first | omega | (intro _; omega))⟩
                · have e_157 := (add_e (Eq.refl (y87_5_8).toInt) (by decide : (1 : Int32).toInt = 1) (by omega) (by omega))
                  exact ihr87_5 (dr87_5 - 1) y87_5_5 y87_5_7 (y87_5_8 + 1) u87_5_0 (by omega) ⟨su87_5_0, (by first | omega | (intro _; omega))⟩
          · refine cg_chk (inb_e (Eq.refl (p1).toInt) (by omega) (by omega)) ?_
            refine cg_eq2 (Eq.refl ((u0 11 (p1).toNatClampNeg) : Int32).toInt) (by decide : (0 : Int32).toInt = 0) (fun h_158 => ?_) (fun h_158 => ?_)
            · refine cg_jn ?_
              refine cg_neg (by decide) ?_
              refine cg_chk (inb_e (Eq.refl (p1).toInt) (by omega) (by omega)) ?_
              refine cg_q4 (cg_l4 (fun dr87_5 y87_5_5 y87_5_7 y87_5_8 u87_5_0 => mg_G u0 u87_5_0 ∧ (y87_5_5.toInt ≠ 0 → (0 ≤ y87_5_8.toInt ∧ 16 - y87_5_8.toInt ≤ (dr87_5 : Int) ∧ p3.toInt ≤ 15))) (fun dr87_5 r87_5 ihr87_5 y87_5_5 y87_5_7 y87_5_8 u87_5_0 hh => ?_) 16 4096 (by decide) 0 0 p2 u0 ⟨(mg_refl h0), (by first | omega | decide | exact fun q => absurd (by decide) q | (intro _; omega))⟩)
              obtain ⟨su87_5_0, i_159⟩ := hh
              refine cg_jn ?_
              refine cg_eq2 (Eq.refl ((y87_5_5) : Int32).toInt) (by decide : (0 : Int32).toInt = 0) (fun h_160 => ?_) (fun h_160 => ?_)
              · refine cg_q3 (cg_l3 (fun dr222_7 y222_7_8 y222_7_9 u222_7_0 => mg_G u0 u222_7_0 ∧ 0 ≤ y222_7_9.toInt ∧ 16 - y222_7_9.toInt ≤ (dr222_7 : Int)) (fun dr222_7 r222_7 ihr222_7 y222_7_8 y222_7_9 u222_7_0 hh => ?_) 16 4096 (by decide) 0 0 u87_5_0 ⟨su87_5_0, (by first | omega | decide | exact fun q => absurd (by decide) q | (intro _; omega)), (by first | omega | decide | exact fun q => absurd (by decide) q | (intro _; omega))⟩)
                obtain ⟨su222_7_0, i_161, i_162⟩ := hh
                refine cg_le2 (by decide : (16 : Int32).toInt = 16) (Eq.refl ((y222_7_9) : Int32).toInt) (fun h_163 => ?_) (fun h_163 => ?_)
                · refine cg_jn ?_
                  refine cg_neg (by decide) ?_
                  refine cg_le2 (Eq.refl ((p2) : Int32).toInt) (Eq.refl ((p3) : Int32).toInt) (fun h_164 => ?_) (fun h_164 => ?_)
                  · refine cg_eq2 (Eq.refl ((y87_5_5) : Int32).toInt) (by decide : (0 : Int32).toInt = 0) (fun h_165 => ?_) (fun h_165 => ?_)
                    · refine can1_ok (by decide : ¬ (3 : Int32) = 0) (fun W_166 eW_166 => ?_)
                      try dsimp only
                      have gW_166 := mg_18 su222_7_0 eW_166
                      refine cg_jn ?_
                      refine cg_pos (by decide) ?_
                      exact cg_some (show (mg_G u0 W_166) from gW_166.1)
                    · exfalso
                      omega
                  · refine can1_ok (by decide : ¬ (2 : Int32) = 0) (fun W_167 eW_167 => ?_)
                    try dsimp only
                    have gW_167 := mg_18 su222_7_0 eW_167
                    refine cg_jn ?_
                    refine cg_pos (by decide) ?_
                    exact cg_some (show (mg_G u0 W_167) from gW_167.1)
                · refine cg_jn ?_
                  refine cg_eq2 (Eq.refl ((y87_5_5) : Int32).toInt) (by decide : (0 : Int32).toInt = 0) (fun h_168 => ?_) (fun h_168 => ?_)
                  · refine cg_eq2 (Eq.refl (((y87_5_7 >>> (y222_7_9 &&& 31)) &&& 1) : Int32).toInt) (by decide : (1 : Int32).toInt = 1) (fun h_169 => ?_) (fun h_169 => ?_)
                    · have b_170 := mg_jh u0 ((mg_refl h0)).1 p1 (by omega) (by omega)
                      refine cg_bn (t_X7_digs u0 u222_7_0 (u0 10 (p1).toNatClampNeg) y222_7_9 su222_7_0 (by omega) (by omega) (by first | omega | decide) (by first | omega | decide)) (fun z_19 hz_19 => ?_)
                      have e_171 := (add_e (Eq.refl (y222_7_9).toInt) (by decide : (1 : Int32).toInt = 1) (by omega) (by omega))
                      exact ihr222_7 (dr222_7 - 1) (y222_7_8 + ((y87_5_7 >>> (y222_7_9 &&& 31)) &&& 1)) (y222_7_9 + 1) z_19 (by omega) ⟨hz_19.1, (by omega), (by omega)⟩
                    · have e_172 := (add_e (Eq.refl (y222_7_9).toInt) (by decide : (1 : Int32).toInt = 1) (by omega) (by omega))
                      exact ihr222_7 (dr222_7 - 1) (y222_7_8 + ((y87_5_7 >>> (y222_7_9 &&& 31)) &&& 1)) (y222_7_9 + 1) u222_7_0 (by omega) ⟨su222_7_0, (by omega), (by omega)⟩
                  · exfalso
                    omega
              · refine cg_lt2 (Eq.refl ((p3) : Int32).toInt) (Eq.refl ((y87_5_8) : Int32).toInt) (fun h_173 => ?_) (fun h_173 => ?_)
                · refine cg_q3 (cg_l3 (fun dr222_7 y222_7_8 y222_7_9 u222_7_0 => mg_G u0 u222_7_0 ∧ 0 ≤ y222_7_9.toInt ∧ 16 - y222_7_9.toInt ≤ (dr222_7 : Int)) (fun dr222_7 r222_7 ihr222_7 y222_7_8 y222_7_9 u222_7_0 hh => ?_) 16 4096 (by decide) 0 0 u87_5_0 ⟨su87_5_0, (by first | omega | decide | exact fun q => absurd (by decide) q | (intro _; omega)), (by first | omega | decide | exact fun q => absurd (by decide) q | (intro _; omega))⟩)
                  obtain ⟨su222_7_0, i_174, i_175⟩ := hh
                  refine cg_le2 (by decide : (16 : Int32).toInt = 16) (Eq.refl ((y222_7_9) : Int32).toInt) (fun h_176 => ?_) (fun h_176 => ?_)
                  · refine cg_jn ?_
                    refine cg_neg (by decide) ?_
                    refine cg_le2 (Eq.refl ((p2) : Int32).toInt) (Eq.refl ((p3) : Int32).toInt) (fun h_177 => ?_) (fun h_177 => ?_)
                    · refine cg_eq2 (Eq.refl ((y87_5_5) : Int32).toInt) (by decide : (0 : Int32).toInt = 0) (fun h_178 => ?_) (fun h_178 => ?_)
                      · exfalso
                        omega
                      · refine can0_ok (fun W_179 eW_179 => ?_)
                        try dsimp only
                        have gW_179 := mg_18 su222_7_0 eW_179
                        refine cg_jn ?_
                        refine cg_neg (by decide) ?_
                        exact cg_some (show (mg_G u0 W_179) from gW_179.1)
                    · refine can1_ok (by decide : ¬ (2 : Int32) = 0) (fun W_180 eW_180 => ?_)
                      try dsimp only
                      have gW_180 := mg_18 su222_7_0 eW_180
                      refine cg_jn ?_
                      refine cg_pos (by decide) ?_
                      exact cg_some (show (mg_G u0 W_180) from gW_180.1)
                  · refine cg_jn ?_
                    refine cg_eq2 (Eq.refl ((y87_5_5) : Int32).toInt) (by decide : (0 : Int32).toInt = 0) (fun h_181 => ?_) (fun h_181 => ?_)
                    · exfalso
                      omega
                    · have e_182 := (add_e (Eq.refl (y222_7_9).toInt) (by decide : (1 : Int32).toInt = 1) (by omega) (by omega))
                      exact ihr222_7 (dr222_7 - 1) (y222_7_8 + ((y87_5_7 >>> (y222_7_9 &&& 31)) &&& 1)) (y222_7_9 + 1) u222_7_0 (by omega) ⟨su222_7_0, (by omega), (by omega)⟩
                · have b_183 := mg_jh u0 ((mg_refl h0)).1 p1 (by omega) (by omega)
                  refine cg_bn (t_X7_blockOf u87_5_0 (u0 10 (p1).toNatClampNeg) y87_5_8 (su87_5_0).1 (by first | omega | decide) (by first | omega | decide) (by first | omega | decide) (by first | omega | decide)) (fun z_22 hz_22 => ?_)
                  refine cg_jn ?_
                  refine cg_eq2 (Eq.refl ((z_22) : Int32).toInt) (by decide : (-1 : Int32).toInt = -1) (fun h_184 => ?_) (fun h_184 => ?_)
                  · have b_185 := mg_jh u0 ((mg_refl h0)).1 p1 (by omega) (by omega)
                    refine cg_bn (t_X7_isShort u87_5_0 (u0 10 (p1).toNatClampNeg) (su87_5_0).1 (by first | omega | decide) (by first | omega | decide)) (fun z_25 hz_25 => ?_)
                    refine cg_jn ?_
                    refine cg_eq2 (Eq.refl ((z_25) : Int32).toInt) (by decide : (0 : Int32).toInt = 0) (fun h_186 => ?_) (fun h_186 => ?_)
                    · have b_187 := mg_jh u0 ((mg_refl h0)).1 p1 (by omega) (by omega)
                      refine cg_bn (t_X7_blockFor u87_5_0 (u0 10 (p1).toNatClampNeg) y87_5_8 (su87_5_0).1 (by first | omega | decide) (by first | omega | decide) (by first | omega | decide) (by first | omega | decide)) (fun z_38 hz_38 => ?_)
                      refine cg_jn ?_
                      refine cg_eq2 (Eq.refl ((z_38) : Int32).toInt) (by decide : (-1 : Int32).toInt = -1) (fun h_188 => ?_) (fun h_188 => ?_)
                      · refine cg_jn ?_
                        refine cg_pos (by decide) ?_
                        have b_189 := mg_jh u0 ((mg_refl h0)).1 p1 (by omega) (by omega)
                        refine cg_bn (t_X7_at 0 (u0 10 (p1).toNatClampNeg) (by first | omega | decide) (by first | omega | decide) (by first | omega | decide) (by first | omega | decide)) (fun z_29 hz_29 => ?_)
                        rw [show (0 : Int32).toInt = 0 by decide] at hz_29
                        refine cg_chk (inb_e (add_e (add_e hz_29 (by decide : (21 : Int32).toInt = 21) (by omega) (by omega)) (Eq.refl (y87_5_8).toInt) (by omega) (by omega)) (by omega) (by omega)) ?_
                        refine cg_bv (fun u_30 eu_30 => ?_)
                        have gu_30 : mg_G u0 u_30 := by rw [eu_30]; exact (mg_ablock (r0 := (u0 10 (p1).toNatClampNeg).toInt.toNat) (p0 := y87_5_8.toInt.toNat) su87_5_0 ((add_e (add_e hz_29 (by decide : (21 : Int32).toInt = 21) (by omega) (by omega)) (Eq.refl (y87_5_8).toInt) (by omega) (by omega)).trans (by omega)) (by omega) (by omega) (hz_22.2.symm.trans (by omega)) (by first | omega | decide) (by first | omega | decide))
                        have b_190 := mg_jh u0 ((mg_refl h0)).1 p1 (by omega) (by omega)
                        refine cg_bn (t_X7_at 0 (u0 10 (p1).toNatClampNeg) (by first | omega | decide) (by first | omega | decide) (by first | omega | decide) (by first | omega | decide)) (fun z_31 hz_31 => ?_)
                        rw [show (0 : Int32).toInt = 0 by decide] at hz_31
                        refine cg_jn ?_
                        refine cg_pos (by decide) ?_
                        refine cg_chk (inb_e (add_e (add_e hz_31 (by decide : (37 : Int32).toInt = 37) (by omega) (by omega)) (Eq.refl (y87_5_8).toInt) (by omega) (by omega)) (by omega) (by omega)) ?_
                        refine cg_bv (fun u_33 eu_33 => ?_)
                        have gu_33 : mg_G u0 u_33 := by rw [eu_33]; exact (mg_is (r0 := (u0 10 (p1).toNatClampNeg).toInt.toNat) (p0 := y87_5_8.toInt.toNat) gu_30 ((add_e (add_e hz_31 (by decide : (37 : Int32).toInt = 37) (by omega) (by omega)) (Eq.refl (y87_5_8).toInt) (by omega) (by omega)).trans (by omega)) (by omega) (Or.inl (by decide)))
                        have e_191 := (add_e (Eq.refl (y87_5_8).toInt) (by decide : (1 : Int32).toInt = 1) (by omega) (by omega))
                        exact ihr87_5 (dr87_5 - 1) 0 (y87_5_7 ||| 0) (y87_5_8 + 1) u_33 (by omega) ⟨gu_33, (by first | omega | (intro _; omega))⟩
                      · refine cg_jn ?_
                        refine cg_neg (by decide) ?_
                        have b_192 := mg_jh u0 ((mg_refl h0)).1 p1 (by omega) (by omega)
                        refine cg_bn (t_X7_at 0 (u0 10 (p1).toNatClampNeg) (by first | omega | decide) (by first | omega | decide) (by first | omega | decide) (by first | omega | decide)) (fun z_29 hz_29 => ?_)
                        rw [show (0 : Int32).toInt = 0 by decide] at hz_29
                        refine cg_chk (inb_e (add_e (add_e hz_29 (by decide : (21 : Int32).toInt = 21) (by omega) (by omega)) (Eq.refl (y87_5_8).toInt) (by omega) (by omega)) (by omega) (by omega)) ?_
                        refine cg_bv (fun u_30 eu_30 => ?_)
                        have gu_30 : mg_G u0 u_30 := by rw [eu_30]; exact (mg_ablock (r0 := (u0 10 (p1).toNatClampNeg).toInt.toNat) (p0 := y87_5_8.toInt.toNat) su87_5_0 ((add_e (add_e hz_29 (by decide : (21 : Int32).toInt = 21) (by omega) (by omega)) (Eq.refl (y87_5_8).toInt) (by omega) (by omega)).trans (by omega)) (by omega) (by omega) (hz_22.2.symm.trans (by omega)) (by first | omega | decide) (by first | omega | decide))
                        have b_193 := mg_jh u0 ((mg_refl h0)).1 p1 (by omega) (by omega)
                        refine cg_bn (t_X7_at 0 (u0 10 (p1).toNatClampNeg) (by first | omega | decide) (by first | omega | decide) (by first | omega | decide) (by first | omega | decide)) (fun z_31 hz_31 => ?_)
                        rw [show (0 : Int32).toInt = 0 by decide] at hz_31
                        refine cg_jn ?_
                        refine cg_neg (by decide) ?_
                        refine cg_chk (inb_e (add_e (add_e hz_31 (by decide : (37 : Int32).toInt = 37) (by omega) (by omega)) (Eq.refl (y87_5_8).toInt) (by omega) (by omega)) (by omega) (by omega)) ?_
                        refine cg_bv (fun u_33 eu_33 => ?_)
                        have gu_33 : mg_G u0 u_33 := by rw [eu_33]; exact (mg_is (r0 := (u0 10 (p1).toNatClampNeg).toInt.toNat) (p0 := y87_5_8.toInt.toNat) gu_30 ((add_e (add_e hz_31 (by decide : (37 : Int32).toInt = 37) (by omega) (by omega)) (Eq.refl (y87_5_8).toInt) (by omega) (by omega)).trans (by omega)) (by omega) (Or.inl (by decide)))
                        have e_194 := (add_e (Eq.refl (y87_5_8).toInt) (by decide : (1 : Int32).toInt = 1) (by omega) (by omega))
                        exact ihr87_5 (dr87_5 - 1) 1 (y87_5_7 ||| (1 <<< (y87_5_8 &&& 31))) (y87_5_8 + 1) u_33 (by omega) ⟨gu_33, (by first | omega | (intro _; omega))⟩
                    · refine cg_jn ?_
                      refine cg_pos (by decide) ?_
                      refine cg_jn ?_
                      refine cg_pos (by decide) ?_
                      have b_195 := mg_jh u0 ((mg_refl h0)).1 p1 (by omega) (by omega)
                      refine cg_bn (t_X7_at 0 (u0 10 (p1).toNatClampNeg) (by first | omega | decide) (by first | omega | decide) (by first | omega | decide) (by first | omega | decide)) (fun z_29 hz_29 => ?_)
                      rw [show (0 : Int32).toInt = 0 by decide] at hz_29
                      refine cg_chk (inb_e (add_e (add_e hz_29 (by decide : (21 : Int32).toInt = 21) (by omega) (by omega)) (Eq.refl (y87_5_8).toInt) (by omega) (by omega)) (by omega) (by omega)) ?_
                      refine cg_bv (fun u_30 eu_30 => ?_)
                      have gu_30 : mg_G u0 u_30 := by rw [eu_30]; exact (mg_ablock (r0 := (u0 10 (p1).toNatClampNeg).toInt.toNat) (p0 := y87_5_8.toInt.toNat) su87_5_0 ((add_e (add_e hz_29 (by decide : (21 : Int32).toInt = 21) (by omega) (by omega)) (Eq.refl (y87_5_8).toInt) (by omega) (by omega)).trans (by omega)) (by omega) (by omega) (hz_22.2.symm.trans (by omega)) (by first | omega | decide) (by first | omega | decide))
                      have b_196 := mg_jh u0 ((mg_refl h0)).1 p1 (by omega) (by omega)
                      refine cg_bn (t_X7_at 0 (u0 10 (p1).toNatClampNeg) (by first | omega | decide) (by first | omega | decide) (by first | omega | decide) (by first | omega | decide)) (fun z_31 hz_31 => ?_)
                      rw [show (0 : Int32).toInt = 0 by decide] at hz_31
                      refine cg_jn ?_
                      refine cg_pos (by decide) ?_
                      refine cg_chk (inb_e (add_e (add_e hz_31 (by decide : (37 : Int32).toInt = 37) (by omega) (by omega)) (Eq.refl (y87_5_8).toInt) (by omega) (by omega)) (by omega) (by omega)) ?_
                      refine cg_bv (fun u_33 eu_33 => ?_)
                      have gu_33 : mg_G u0 u_33 := by rw [eu_33]; exact (mg_is (r0 := (u0 10 (p1).toNatClampNeg).toInt.toNat) (p0 := y87_5_8.toInt.toNat) gu_30 ((add_e (add_e hz_31 (by decide : (37 : Int32).toInt = 37) (by omega) (by omega)) (Eq.refl (y87_5_8).toInt) (by omega) (by omega)).trans (by omega)) (by omega) (Or.inl (by decide)))
                      have e_197 := (add_e (Eq.refl (y87_5_8).toInt) (by decide : (1 : Int32).toInt = 1) (by omega) (by omega))
                      exact ihr87_5 (dr87_5 - 1) 0 (y87_5_7 ||| 0) (y87_5_8 + 1) u_33 (by omega) ⟨gu_33, (by first | omega | (intro _; omega))⟩
                  · have e_198 := (add_e (Eq.refl (y87_5_8).toInt) (by decide : (1 : Int32).toInt = 1) (by omega) (by omega))
                    exact ihr87_5 (dr87_5 - 1) y87_5_5 y87_5_7 (y87_5_8 + 1) u87_5_0 (by omega) ⟨su87_5_0, (by first | omega | (intro _; omega))⟩
            · refine cg_jn ?_
              refine cg_neg (by decide) ?_
              refine cg_chk (inb_e (Eq.refl (p1).toInt) (by omega) (by omega)) ?_
              refine cg_q4 (cg_l4 (fun dr87_5 y87_5_5 y87_5_7 y87_5_8 u87_5_0 => mg_G u0 u87_5_0 ∧ (y87_5_5.toInt ≠ 0 → (0 ≤ y87_5_8.toInt ∧ 16 - y87_5_8.toInt ≤ (dr87_5 : Int) ∧ p3.toInt ≤ 15))) (fun dr87_5 r87_5 ihr87_5 y87_5_5 y87_5_7 y87_5_8 u87_5_0 hh => ?_) 16 4096 (by decide) 1 0 p2 u0 ⟨(mg_refl h0), (by first | omega | decide | exact fun q => absurd (by decide) q | (intro _; omega))⟩)
              obtain ⟨su87_5_0, i_199⟩ := hh
              refine cg_jn ?_
              refine cg_eq2 (Eq.refl ((y87_5_5) : Int32).toInt) (by decide : (0 : Int32).toInt = 0) (fun h_200 => ?_) (fun h_200 => ?_)
              · refine cg_q3 (cg_l3 (fun dr222_7 y222_7_8 y222_7_9 u222_7_0 => mg_G u0 u222_7_0 ∧ 0 ≤ y222_7_9.toInt ∧ 16 - y222_7_9.toInt ≤ (dr222_7 : Int)) (fun dr222_7 r222_7 ihr222_7 y222_7_8 y222_7_9 u222_7_0 hh => ?_) 16 4096 (by decide) 0 0 u87_5_0 ⟨su87_5_0, (by first | omega | decide | exact fun q => absurd (by decide) q | (intro _; omega)), (by first | omega | decide | exact fun q => absurd (by decide) q | (intro _; omega))⟩)
                obtain ⟨su222_7_0, i_201, i_202⟩ := hh
                refine cg_le2 (by decide : (16 : Int32).toInt = 16) (Eq.refl ((y222_7_9) : Int32).toInt) (fun h_203 => ?_) (fun h_203 => ?_)
                · refine cg_jn ?_
                  refine cg_neg (by decide) ?_
                  refine cg_le2 (Eq.refl ((p2) : Int32).toInt) (Eq.refl ((p3) : Int32).toInt) (fun h_204 => ?_) (fun h_204 => ?_)
                  · refine cg_eq2 (Eq.refl ((y87_5_5) : Int32).toInt) (by decide : (0 : Int32).toInt = 0) (fun h_205 => ?_) (fun h_205 => ?_)
                    · refine can1_ok (by decide : ¬ (3 : Int32) = 0) (fun W_206 eW_206 => ?_)
                      try dsimp only
                      have gW_206 := mg_18 su222_7_0 eW_206
                      refine cg_jn ?_
                      refine cg_pos (by decide) ?_
                      exact cg_some (show (mg_G u0 W_206) from gW_206.1)
                    · exfalso
                      omega
                  · refine can1_ok (by decide : ¬ (2 : Int32) = 0) (fun W_207 eW_207 => ?_)
                    try dsimp only
                    have gW_207 := mg_18 su222_7_0 eW_207
                    refine cg_jn ?_
                    refine cg_pos (by decide) ?_
                    exact cg_some (show (mg_G u0 W_207) from gW_207.1)
                · refine cg_jn ?_
                  refine cg_eq2 (Eq.refl ((y87_5_5) : Int32).toInt) (by decide : (0 : Int32).toInt = 0) (fun h_208 => ?_) (fun h_208 => ?_)
                  · refine cg_eq2 (Eq.refl (((y87_5_7 >>> (y222_7_9 &&& 31)) &&& 1) : Int32).toInt) (by decide : (1 : Int32).toInt = 1) (fun h_209 => ?_) (fun h_209 => ?_)
                    · have b_210 := mg_jh u0 ((mg_refl h0)).1 p1 (by omega) (by omega)
                      refine cg_bn (t_X7_digs u0 u222_7_0 (u0 10 (p1).toNatClampNeg) y222_7_9 su222_7_0 (by omega) (by omega) (by first | omega | decide) (by first | omega | decide)) (fun z_19 hz_19 => ?_)
                      have e_211 := (add_e (Eq.refl (y222_7_9).toInt) (by decide : (1 : Int32).toInt = 1) (by omega) (by omega))
                      exact ihr222_7 (dr222_7 - 1) (y222_7_8 + ((y87_5_7 >>> (y222_7_9 &&& 31)) &&& 1)) (y222_7_9 + 1) z_19 (by omega) ⟨hz_19.1, (by omega), (by omega)⟩
                    · have e_212 := (add_e (Eq.refl (y222_7_9).toInt) (by decide : (1 : Int32).toInt = 1) (by omega) (by omega))
                      exact ihr222_7 (dr222_7 - 1) (y222_7_8 + ((y87_5_7 >>> (y222_7_9 &&& 31)) &&& 1)) (y222_7_9 + 1) u222_7_0 (by omega) ⟨su222_7_0, (by omega), (by omega)⟩
                  · exfalso
                    omega
              · refine cg_lt2 (Eq.refl ((p3) : Int32).toInt) (Eq.refl ((y87_5_8) : Int32).toInt) (fun h_213 => ?_) (fun h_213 => ?_)
                · refine cg_q3 (cg_l3 (fun dr222_7 y222_7_8 y222_7_9 u222_7_0 => mg_G u0 u222_7_0 ∧ 0 ≤ y222_7_9.toInt ∧ 16 - y222_7_9.toInt ≤ (dr222_7 : Int)) (fun dr222_7 r222_7 ihr222_7 y222_7_8 y222_7_9 u222_7_0 hh => ?_) 16 4096 (by decide) 0 0 u87_5_0 ⟨su87_5_0, (by first | omega | decide | exact fun q => absurd (by decide) q | (intro _; omega)), (by first | omega | decide | exact fun q => absurd (by decide) q | (intro _; omega))⟩)
                  obtain ⟨su222_7_0, i_214, i_215⟩ := hh
                  refine cg_le2 (by decide : (16 : Int32).toInt = 16) (Eq.refl ((y222_7_9) : Int32).toInt) (fun h_216 => ?_) (fun h_216 => ?_)
                  · refine cg_jn ?_
                    refine cg_neg (by decide) ?_
                    refine cg_le2 (Eq.refl ((p2) : Int32).toInt) (Eq.refl ((p3) : Int32).toInt) (fun h_217 => ?_) (fun h_217 => ?_)
                    · refine cg_eq2 (Eq.refl ((y87_5_5) : Int32).toInt) (by decide : (0 : Int32).toInt = 0) (fun h_218 => ?_) (fun h_218 => ?_)
                      · exfalso
                        omega
                      · refine can0_ok (fun W_219 eW_219 => ?_)
                        try dsimp only
                        have gW_219 := mg_18 su222_7_0 eW_219
                        refine cg_jn ?_
                        refine cg_neg (by decide) ?_
                        exact cg_some (show (mg_G u0 W_219) from gW_219.1)
                    · refine can1_ok (by decide : ¬ (2 : Int32) = 0) (fun W_220 eW_220 => ?_)
                      try dsimp only
                      have gW_220 := mg_18 su222_7_0 eW_220
                      refine cg_jn ?_
                      refine cg_pos (by decide) ?_
                      exact cg_some (show (mg_G u0 W_220) from gW_220.1)
                  · refine cg_jn ?_
                    refine cg_eq2 (Eq.refl ((y87_5_5) : Int32).toInt) (by decide : (0 : Int32).toInt = 0) (fun h_221 => ?_) (fun h_221 => ?_)
                    · exfalso
                      omega
                    · have e_222 := (add_e (Eq.refl (y222_7_9).toInt) (by decide : (1 : Int32).toInt = 1) (by omega) (by omega))
                      exact ihr222_7 (dr222_7 - 1) (y222_7_8 + ((y87_5_7 >>> (y222_7_9 &&& 31)) &&& 1)) (y222_7_9 + 1) u222_7_0 (by omega) ⟨su222_7_0, (by omega), (by omega)⟩
                · have b_223 := mg_jh u0 ((mg_refl h0)).1 p1 (by omega) (by omega)
                  refine cg_bn (t_X7_blockOf u87_5_0 (u0 10 (p1).toNatClampNeg) y87_5_8 (su87_5_0).1 (by first | omega | decide) (by first | omega | decide) (by first | omega | decide) (by first | omega | decide)) (fun z_22 hz_22 => ?_)
                  refine cg_jn ?_
                  refine cg_eq2 (Eq.refl ((z_22) : Int32).toInt) (by decide : (-1 : Int32).toInt = -1) (fun h_224 => ?_) (fun h_224 => ?_)
                  · have b_225 := mg_jh u0 ((mg_refl h0)).1 p1 (by omega) (by omega)
                    refine cg_bn (t_X7_isShort u87_5_0 (u0 10 (p1).toNatClampNeg) (su87_5_0).1 (by first | omega | decide) (by first | omega | decide)) (fun z_25 hz_25 => ?_)
                    refine cg_jn ?_
                    refine cg_eq2 (Eq.refl ((z_25) : Int32).toInt) (by decide : (0 : Int32).toInt = 0) (fun h_226 => ?_) (fun h_226 => ?_)
                    · have b_227 := mg_jh u0 ((mg_refl h0)).1 p1 (by omega) (by omega)
                      refine cg_bn (t_X7_blockFor u87_5_0 (u0 10 (p1).toNatClampNeg) y87_5_8 (su87_5_0).1 (by first | omega | decide) (by first | omega | decide) (by first | omega | decide) (by first | omega | decide)) (fun z_38 hz_38 => ?_)
                      refine cg_jn ?_
                      refine cg_eq2 (Eq.refl ((z_38) : Int32).toInt) (by decide : (-1 : Int32).toInt = -1) (fun h_228 => ?_) (fun h_228 => ?_)
                      · refine cg_jn ?_
                        refine cg_pos (by decide) ?_
                        have b_229 := mg_jh u0 ((mg_refl h0)).1 p1 (by omega) (by omega)
                        refine cg_bn (t_X7_at 0 (u0 10 (p1).toNatClampNeg) (by first | omega | decide) (by first | omega | decide) (by first | omega | decide) (by first | omega | decide)) (fun z_29 hz_29 => ?_)
                        rw [show (0 : Int32).toInt = 0 by decide] at hz_29
                        refine cg_chk (inb_e (add_e (add_e hz_29 (by decide : (21 : Int32).toInt = 21) (by omega) (by omega)) (Eq.refl (y87_5_8).toInt) (by omega) (by omega)) (by omega) (by omega)) ?_
                        refine cg_bv (fun u_30 eu_30 => ?_)
                        have gu_30 : mg_G u0 u_30 := by rw [eu_30]; exact (mg_ablock (r0 := (u0 10 (p1).toNatClampNeg).toInt.toNat) (p0 := y87_5_8.toInt.toNat) su87_5_0 ((add_e (add_e hz_29 (by decide : (21 : Int32).toInt = 21) (by omega) (by omega)) (Eq.refl (y87_5_8).toInt) (by omega) (by omega)).trans (by omega)) (by omega) (by omega) (hz_22.2.symm.trans (by omega)) (by first | omega | decide) (by first | omega | decide))
                        have b_230 := mg_jh u0 ((mg_refl h0)).1 p1 (by omega) (by omega)
                        refine cg_bn (t_X7_at 0 (u0 10 (p1).toNatClampNeg) (by first | omega | decide) (by first | omega | decide) (by first | omega | decide) (by first | omega | decide)) (fun z_31 hz_31 => ?_)
                        rw [show (0 : Int32).toInt = 0 by decide] at hz_31
                        refine cg_jn ?_
                        refine cg_pos (by decide) ?_
                        refine cg_chk (inb_e (add_e (add_e hz_31 (by decide : (37 : Int32).toInt = 37) (by omega) (by omega)) (Eq.refl (y87_5_8).toInt) (by omega) (by omega)) (by omega) (by omega)) ?_
                        refine cg_bv (fun u_33 eu_33 => ?_)
                        have gu_33 : mg_G u0 u_33 := by rw [eu_33]; exact (mg_is (r0 := (u0 10 (p1).toNatClampNeg).toInt.toNat) (p0 := y87_5_8.toInt.toNat) gu_30 ((add_e (add_e hz_31 (by decide : (37 : Int32).toInt = 37) (by omega) (by omega)) (Eq.refl (y87_5_8).toInt) (by omega) (by omega)).trans (by omega)) (by omega) (Or.inl (by decide)))
                        have e_231 := (add_e (Eq.refl (y87_5_8).toInt) (by decide : (1 : Int32).toInt = 1) (by omega) (by omega))
                        exact ihr87_5 (dr87_5 - 1) 0 (y87_5_7 ||| 0) (y87_5_8 + 1) u_33 (by omega) ⟨gu_33, (by first | omega | (intro _; omega))⟩
                      · refine cg_jn ?_
                        refine cg_neg (by decide) ?_
                        have b_232 := mg_jh u0 ((mg_refl h0)).1 p1 (by omega) (by omega)
                        refine cg_bn (t_X7_at 0 (u0 10 (p1).toNatClampNeg) (by first | omega | decide) (by first | omega | decide) (by first | omega | decide) (by first | omega | decide)) (fun z_29 hz_29 => ?_)
                        rw [show (0 : Int32).toInt = 0 by decide] at hz_29
                        refine cg_chk (inb_e (add_e (add_e hz_29 (by decide : (21 : Int32).toInt = 21) (by omega) (by omega)) (Eq.refl (y87_5_8).toInt) (by omega) (by omega)) (by omega) (by omega)) ?_
                        refine cg_bv (fun u_30 eu_30 => ?_)
                        have gu_30 : mg_G u0 u_30 := by rw [eu_30]; exact (mg_ablock (r0 := (u0 10 (p1).toNatClampNeg).toInt.toNat) (p0 := y87_5_8.toInt.toNat) su87_5_0 ((add_e (add_e hz_29 (by decide : (21 : Int32).toInt = 21) (by omega) (by omega)) (Eq.refl (y87_5_8).toInt) (by omega) (by omega)).trans (by omega)) (by omega) (by omega) (hz_22.2.symm.trans (by omega)) (by first | omega | decide) (by first | omega | decide))
                        have b_233 := mg_jh u0 ((mg_refl h0)).1 p1 (by omega) (by omega)
                        refine cg_bn (t_X7_at 0 (u0 10 (p1).toNatClampNeg) (by first | omega | decide) (by first | omega | decide) (by first | omega | decide) (by first | omega | decide)) (fun z_31 hz_31 => ?_)
                        rw [show (0 : Int32).toInt = 0 by decide] at hz_31
                        refine cg_jn ?_
                        refine cg_neg (by decide) ?_
                        refine cg_chk (inb_e (add_e (add_e hz_31 (by decide : (37 : Int32).toInt = 37) (by omega) (by omega)) (Eq.refl (y87_5_8).toInt) (by omega) (by omega)) (by omega) (by omega)) ?_
                        refine cg_bv (fun u_33 eu_33 => ?_)
                        have gu_33 : mg_G u0 u_33 := by rw [eu_33]; exact (mg_is (r0 := (u0 10 (p1).toNatClampNeg).toInt.toNat) (p0 := y87_5_8.toInt.toNat) gu_30 ((add_e (add_e hz_31 (by decide : (37 : Int32).toInt = 37) (by omega) (by omega)) (Eq.refl (y87_5_8).toInt) (by omega) (by omega)).trans (by omega)) (by omega) (Or.inl (by decide)))
                        have e_234 := (add_e (Eq.refl (y87_5_8).toInt) (by decide : (1 : Int32).toInt = 1) (by omega) (by omega))
                        exact ihr87_5 (dr87_5 - 1) 1 (y87_5_7 ||| (1 <<< (y87_5_8 &&& 31))) (y87_5_8 + 1) u_33 (by omega) ⟨gu_33, (by first | omega | (intro _; omega))⟩
                    · refine cg_jn ?_
                      refine cg_pos (by decide) ?_
                      refine cg_jn ?_
                      refine cg_pos (by decide) ?_
                      have b_235 := mg_jh u0 ((mg_refl h0)).1 p1 (by omega) (by omega)
                      refine cg_bn (t_X7_at 0 (u0 10 (p1).toNatClampNeg) (by first | omega | decide) (by first | omega | decide) (by first | omega | decide) (by first | omega | decide)) (fun z_29 hz_29 => ?_)
                      rw [show (0 : Int32).toInt = 0 by decide] at hz_29
                      refine cg_chk (inb_e (add_e (add_e hz_29 (by decide : (21 : Int32).toInt = 21) (by omega) (by omega)) (Eq.refl (y87_5_8).toInt) (by omega) (by omega)) (by omega) (by omega)) ?_
                      refine cg_bv (fun u_30 eu_30 => ?_)
                      have gu_30 : mg_G u0 u_30 := by rw [eu_30]; exact (mg_ablock (r0 := (u0 10 (p1).toNatClampNeg).toInt.toNat) (p0 := y87_5_8.toInt.toNat) su87_5_0 ((add_e (add_e hz_29 (by decide : (21 : Int32).toInt = 21) (by omega) (by omega)) (Eq.refl (y87_5_8).toInt) (by omega) (by omega)).trans (by omega)) (by omega) (by omega) (hz_22.2.symm.trans (by omega)) (by first | omega | decide) (by first | omega | decide))
                      have b_236 := mg_jh u0 ((mg_refl h0)).1 p1 (by omega) (by omega)
                      refine cg_bn (t_X7_at 0 (u0 10 (p1).toNatClampNeg) (by first | omega | decide) (by first | omega | decide) (by first | omega | decide) (by first | omega | decide)) (fun z_31 hz_31 => ?_)
                      rw [show (0 : Int32).toInt = 0 by decide] at hz_31
                      refine cg_jn ?_
                      refine cg_pos (by decide) ?_
                      refine cg_chk (inb_e (add_e (add_e hz_31 (by decide : (37 : Int32).toInt = 37) (by omega) (by omega)) (Eq.refl (y87_5_8).toInt) (by omega) (by omega)) (by omega) (by omega)) ?_
                      refine cg_bv (fun u_33 eu_33 => ?_)
                      have gu_33 : mg_G u0 u_33 := by rw [eu_33]; exact (mg_is (r0 := (u0 10 (p1).toNatClampNeg).toInt.toNat) (p0 := y87_5_8.toInt.toNat) gu_30 ((add_e (add_e hz_31 (by decide : (37 : Int32).toInt = 37) (by omega) (by omega)) (Eq.refl (y87_5_8).toInt) (by omega) (by omega)).trans (by omega)) (by omega) (Or.inl (by decide)))
                      have e_237 := (add_e (Eq.refl (y87_5_8).toInt) (by decide : (1 : Int32).toInt = 1) (by omega) (by omega))
                      exact ihr87_5 (dr87_5 - 1) 0 (y87_5_7 ||| 0) (y87_5_8 + 1) u_33 (by omega) ⟨gu_33, (by first | omega | (intro _; omega))⟩
                  · have e_238 := (add_e (Eq.refl (y87_5_8).toInt) (by decide : (1 : Int32).toInt = 1) (by omega) (by omega))
                    exact ihr87_5 (dr87_5 - 1) y87_5_5 y87_5_7 (y87_5_8 + 1) u87_5_0 (by omega) ⟨su87_5_0, (by first | omega | (intro _; omega))⟩
theorem t_X7_damage (u0 : S1) (p1 : Int32) (p2 : Int32) (p3 : Int32) (h0 : mg_J u0) : cg_O (f_X7_damage u0 p1 p2 p3) (fun z => (mg_G u0 z)) := by
  have lit0 : (0 : Int32).toInt = 0 := by decide
  unfold f_X7_damage
  refine cg_bn (t_X7_isThing u0 p2 ) (fun z_1 hz_1 => ?_)
  refine cg_jn ?_
  refine cg_jn ?_
  refine cg_eq2 (Eq.refl ((z_1) : Int32).toInt) (by decide : (0 : Int32).toInt = 0) (fun h_1 => ?_) (fun h_1 => ?_)
  · refine cg_jn ?_
    refine cg_jn ?_
    refine cg_pos (by decide) ?_
    refine cg_bn (t_X7_isIn p1 0 2 ) (fun z_4 hz_4 => ?_)
    rw [show (0 : Int32).toInt = 0 by decide] at hz_4
    rw [show (2 : Int32).toInt = 2 by decide] at hz_4
    refine cg_jn ?_
    refine cg_eq2 (Eq.refl ((z_4) : Int32).toInt) (by decide : (0 : Int32).toInt = 0) (fun h_2 => ?_) (fun h_2 => ?_)
    · refine can1_ok (by decide : ¬ (1 : Int32) = 0) (fun W_3 eW_3 => ?_)
      try dsimp only
      have gW_3 := mg_18 (mg_refl h0) eW_3
      refine cg_pos (by decide) ?_
      exact cg_some (show (mg_G u0 W_3) from gW_3.1)
    · refine cg_pos (by decide) ?_
      refine can1_ok (by decide : ¬ (2 : Int32) = 0) (fun W_4 eW_4 => ?_)
      try dsimp only
      have gW_4 := mg_18 (mg_refl h0) eW_4
      refine cg_pos (by decide) ?_
      exact cg_some (show (mg_G u0 W_4) from gW_4.1)
  · refine cg_jn ?_
    refine cg_eq2 (Eq.refl ((p1) : Int32).toInt) (by decide : (1 : Int32).toInt = 1) (fun h_5 => ?_) (fun h_5 => ?_)
    · refine cg_bn (t_X7_isThing u0 p3 ) (fun z_41 hz_41 => ?_)
      refine cg_eq2 (Eq.refl ((z_41) : Int32).toInt) (by decide : (0 : Int32).toInt = 0) (fun h_6 => ?_) (fun h_6 => ?_)
      · refine cg_jn ?_
        refine cg_jn ?_
        refine cg_pos (by decide) ?_
        refine cg_bn (t_X7_isIn p1 0 2 ) (fun z_4 hz_4 => ?_)
        rw [show (0 : Int32).toInt = 0 by decide] at hz_4
        rw [show (2 : Int32).toInt = 2 by decide] at hz_4
        refine cg_jn ?_
        refine cg_eq2 (Eq.refl ((z_4) : Int32).toInt) (by decide : (0 : Int32).toInt = 0) (fun h_7 => ?_) (fun h_7 => ?_)
        · refine can1_ok (by decide : ¬ (1 : Int32) = 0) (fun W_8 eW_8 => ?_)
          try dsimp only
          have gW_8 := mg_18 (mg_refl h0) eW_8
          refine cg_pos (by decide) ?_
          exact cg_some (show (mg_G u0 W_8) from gW_8.1)
        · refine cg_pos (by decide) ?_
          refine can1_ok (by decide : ¬ (2 : Int32) = 0) (fun W_9 eW_9 => ?_)
          try dsimp only
          have gW_9 := mg_18 (mg_refl h0) eW_9
          refine cg_pos (by decide) ?_
          exact cg_some (show (mg_G u0 W_9) from gW_9.1)
      · refine cg_jn ?_
        refine cg_jn ?_
        refine cg_neg (by decide) ?_
        refine cg_jn ?_
        refine cg_eq2 (Eq.refl ((p1) : Int32).toInt) (by decide : (0 : Int32).toInt = 0) (fun h_10 => ?_) (fun h_10 => ?_)
        · refine cg_bn (t_X7_isIn p1 0 2 ) (fun z_4 hz_4 => ?_)
          rw [show (0 : Int32).toInt = 0 by decide] at hz_4
          rw [show (2 : Int32).toInt = 2 by decide] at hz_4
          refine cg_jn ?_
          refine cg_eq2 (Eq.refl ((z_4) : Int32).toInt) (by decide : (0 : Int32).toInt = 0) (fun h_11 => ?_) (fun h_11 => ?_)
          · refine can1_ok (by decide : ¬ (1 : Int32) = 0) (fun W_12 eW_12 => ?_)
            try dsimp only
            have gW_12 := mg_18 (mg_refl h0) eW_12
            refine cg_pos (by decide) ?_
            exact cg_some (show (mg_G u0 W_12) from gW_12.1)
          · refine cg_neg (by decide) ?_
            refine cg_neg (by decide) ?_
            refine can0_ok (fun W_13 eW_13 => ?_)
            try dsimp only
            have gW_13 := mg_18 (mg_refl h0) eW_13
            refine cg_neg (by decide) ?_
            refine cg_bn (t_X7_at 0 p2 (by first | omega | decide) (by first | omega | decide) (by first | omega | decide) (by first | omega | decide)) (fun z_8 hz_8 => ?_)
            rw [show (0 : Int32).toInt = 0 by decide] at hz_8
            refine cg_jn ?_
            refine cg_eq2 (Eq.refl ((p1) : Int32).toInt) (by decide : (0 : Int32).toInt = 0) (fun h_14 => ?_) (fun h_14 => ?_)
            · refine cg_chk (inb_e (add_e hz_8 (by decide : (3 : Int32).toInt = 3) (by omega) (by omega)) (by omega) (by omega)) ?_
              refine cg_chk (inb_e (add_e hz_8 (by decide : (3 : Int32).toInt = 3) (by omega) (by omega)) (by omega) (by omega)) ?_
              refine cg_bv (fun u_17 eu_17 => ?_)
              have gu_17 : mg_G u0 u_17 := by rw [eu_17]; exact (mg_free (r0 := p2.toInt.toNat) (c0 := 3) gW_13.1 ((add_e hz_8 (by decide : (3 : Int32).toInt = 3) (by omega) (by omega)).trans (by omega)) (by decide) (by decide))
              exact cg_some (show (mg_G u0 u_17) from gu_17)
            · exfalso
              omega
        · refine cg_eq2 (Eq.refl ((p1) : Int32).toInt) (by decide : (1 : Int32).toInt = 1) (fun h_15 => ?_) (fun h_15 => ?_)
          · refine cg_bn (t_X7_kindOf u0 p2 (by first | omega | decide) (by first | omega | decide)) (fun z_30 hz_30 => ?_)
            refine cg_eq2 (Eq.refl ((z_30) : Int32).toInt) (by decide : (0 : Int32).toInt = 0) (fun h_16 => ?_) (fun h_16 => ?_)
            · refine cg_bn (t_X7_kindOf u0 p3 (by first | omega | decide) (by first | omega | decide)) (fun z_32 hz_32 => ?_)
              refine cg_eq2 (Eq.refl ((z_32) : Int32).toInt) (by decide : (0 : Int32).toInt = 0) (fun h_17 => ?_) (fun h_17 => ?_)
              · refine cg_eq2 (Eq.refl ((p2) : Int32).toInt) (Eq.refl ((p3) : Int32).toInt) (fun h_18 => ?_) (fun h_18 => ?_)
                · refine cg_bn (t_X7_isIn p1 0 2 ) (fun z_4 hz_4 => ?_)
                  rw [show (0 : Int32).toInt = 0 by decide] at hz_4
                  rw [show (2 : Int32).toInt = 2 by decide] at hz_4
                  refine cg_jn ?_
                  refine cg_eq2 (Eq.refl ((z_4) : Int32).toInt) (by decide : (0 : Int32).toInt = 0) (fun h_19 => ?_) (fun h_19 => ?_)
                  · refine can1_ok (by decide : ¬ (1 : Int32) = 0) (fun W_20 eW_20 => ?_)
                    try dsimp only
                    have gW_20 := mg_18 (mg_refl h0) eW_20
                    refine cg_pos (by decide) ?_
                    exact cg_some (show (mg_G u0 W_20) from gW_20.1)
                  · refine cg_neg (by decide) ?_
                    refine cg_pos (by decide) ?_
                    refine can1_ok (by decide : ¬ (3 : Int32) = 0) (fun W_21 eW_21 => ?_)
                    try dsimp only
                    have gW_21 := mg_18 (mg_refl h0) eW_21
                    refine cg_pos (by decide) ?_
                    exact cg_some (show (mg_G u0 W_21) from gW_21.1)
                · refine cg_bn (t_X7_blockOf u0 p3 0 ((mg_refl h0)).1 (by first | omega | decide) (by first | omega | decide) (by first | omega | decide) (by first | omega | decide)) (fun z_35 hz_35 => ?_)
                  refine cg_eq2 (Eq.refl ((z_35) : Int32).toInt) (by decide : (-1 : Int32).toInt = -1) (fun h_22 => ?_) (fun h_22 => ?_)
                  · refine cg_bn (t_X7_isIn p1 0 2 ) (fun z_4 hz_4 => ?_)
                    rw [show (0 : Int32).toInt = 0 by decide] at hz_4
                    rw [show (2 : Int32).toInt = 2 by decide] at hz_4
                    refine cg_jn ?_
                    refine cg_eq2 (Eq.refl ((z_4) : Int32).toInt) (by decide : (0 : Int32).toInt = 0) (fun h_23 => ?_) (fun h_23 => ?_)
                    · refine can1_ok (by decide : ¬ (1 : Int32) = 0) (fun W_24 eW_24 => ?_)
                      try dsimp only
                      have gW_24 := mg_18 (mg_refl h0) eW_24
                      refine cg_pos (by decide) ?_
                      exact cg_some (show (mg_G u0 W_24) from gW_24.1)
                    · refine cg_neg (by decide) ?_
                      refine cg_pos (by decide) ?_
                      refine can1_ok (by decide : ¬ (3 : Int32) = 0) (fun W_25 eW_25 => ?_)
                      try dsimp only
                      have gW_25 := mg_18 (mg_refl h0) eW_25
                      refine cg_pos (by decide) ?_
                      exact cg_some (show (mg_G u0 W_25) from gW_25.1)
                  · refine cg_bn (t_X7_isIn p1 0 2 ) (fun z_4 hz_4 => ?_)
                    rw [show (0 : Int32).toInt = 0 by decide] at hz_4
                    rw [show (2 : Int32).toInt = 2 by decide] at hz_4
                    refine cg_jn ?_
                    refine cg_eq2 (Eq.refl ((z_4) : Int32).toInt) (by decide : (0 : Int32).toInt = 0) (fun h_26 => ?_) (fun h_26 => ?_)
                    · refine can1_ok (by decide : ¬ (1 : Int32) = 0) (fun W_27 eW_27 => ?_)
                      try dsimp only
                      have gW_27 := mg_18 (mg_refl h0) eW_27
                      refine cg_pos (by decide) ?_
                      exact cg_some (show (mg_G u0 W_27) from gW_27.1)
                    · refine cg_neg (by decide) ?_
                      refine cg_neg (by decide) ?_
                      refine can0_ok (fun W_28 eW_28 => ?_)
                      try dsimp only
                      have gW_28 := mg_18 (mg_refl h0) eW_28
                      refine cg_neg (by decide) ?_
                      refine cg_bn (t_X7_at 0 p2 (by first | omega | decide) (by first | omega | decide) (by first | omega | decide) (by first | omega | decide)) (fun z_8 hz_8 => ?_)
                      rw [show (0 : Int32).toInt = 0 by decide] at hz_8
                      refine cg_jn ?_
                      refine cg_eq2 (Eq.refl ((p1) : Int32).toInt) (by decide : (0 : Int32).toInt = 0) (fun h_29 => ?_) (fun h_29 => ?_)
                      · exfalso
                        omega
                      · refine cg_eq2 (Eq.refl ((p1) : Int32).toInt) (by decide : (1 : Int32).toInt = 1) (fun h_30 => ?_) (fun h_30 => ?_)
                        · refine cg_bn (t_X7_digs u0 W_28 p2 0 gW_28.1 (by omega) (by omega) (by first | omega | decide) (by first | omega | decide)) (fun z_13 hz_13 => ?_)
                          refine cg_bn (t_X7_blockOf z_13 p3 0 (hz_13.1).1 (by first | omega | decide) (by first | omega | decide) (by first | omega | decide) (by first | omega | decide)) (fun z_14 hz_14 => ?_)
                          refine cg_chk (inb_e (add_e hz_8 (by decide : (21 : Int32).toInt = 21) (by omega) (by omega)) (by omega) (by omega)) ?_
                          have q14 : 0 ≤ z_14.toInt := by
                            have e := hz_14.2
                            rw [hz_13.2.2.1 _ _ (by omega) (by rw [show (0 : Int32).toInt = 0 by decide]; decide), gW_28.2, ← hz_35.2] at e
                            omega
                          refine cg_bv (fun u_15 eu_15 => ?_)
                          have gu_15 : mg_G u0 u_15 := by rw [eu_15]; exact (mg_block (r0 := p2.toInt.toNat) (p0 := 0) hz_13.1 ((add_e hz_8 (by decide : (21 : Int32).toInt = 21) (by omega) (by omega)).trans (by omega)) (by decide) (by omega) (by omega) (Or.inl q14))
                          refine cg_chk (inb_e (add_e hz_8 (by decide : (37 : Int32).toInt = 37) (by omega) (by omega)) (by omega) (by omega)) ?_
                          have q16 : 0 ≤ mg_A u_15 p2.toInt.toNat (21 + 0) := by
                            rw [eu_15, mg_st _ _ ((add_e hz_8 (by decide : (21 : Int32).toInt = 21) (by omega) (by omega)).trans (by omega) : (z_8 + 21).toInt = ((53 * p2.toInt.toNat + (21 + 0) : Nat) : Int)), if_pos rfl]
                            exact q14
                          refine cg_bv (fun u_16 eu_16 => ?_)
                          have gu_16 : mg_G u0 u_16 := by rw [eu_16]; exact (mg_is (r0 := p2.toInt.toNat) (p0 := 0) gu_15 ((add_e hz_8 (by decide : (37 : Int32).toInt = 37) (by omega) (by omega)).trans (by omega)) (by decide) (Or.inr q16))
                          exact cg_some (show (mg_G u0 u_16) from gu_16)
                        · exfalso
                          omega
              · refine cg_bn (t_X7_isIn p1 0 2 ) (fun z_4 hz_4 => ?_)
                rw [show (0 : Int32).toInt = 0 by decide] at hz_4
                rw [show (2 : Int32).toInt = 2 by decide] at hz_4
                refine cg_jn ?_
                refine cg_eq2 (Eq.refl ((z_4) : Int32).toInt) (by decide : (0 : Int32).toInt = 0) (fun h_31 => ?_) (fun h_31 => ?_)
                · refine can1_ok (by decide : ¬ (1 : Int32) = 0) (fun W_32 eW_32 => ?_)
                  try dsimp only
                  have gW_32 := mg_18 (mg_refl h0) eW_32
                  refine cg_pos (by decide) ?_
                  exact cg_some (show (mg_G u0 W_32) from gW_32.1)
                · refine cg_neg (by decide) ?_
                  refine cg_pos (by decide) ?_
                  refine can1_ok (by decide : ¬ (3 : Int32) = 0) (fun W_33 eW_33 => ?_)
                  try dsimp only
                  have gW_33 := mg_18 (mg_refl h0) eW_33
                  refine cg_pos (by decide) ?_
                  exact cg_some (show (mg_G u0 W_33) from gW_33.1)
            · refine cg_bn (t_X7_isIn p1 0 2 ) (fun z_4 hz_4 => ?_)
              rw [show (0 : Int32).toInt = 0 by decide] at hz_4
              rw [show (2 : Int32).toInt = 2 by decide] at hz_4
              refine cg_jn ?_
              refine cg_eq2 (Eq.refl ((z_4) : Int32).toInt) (by decide : (0 : Int32).toInt = 0) (fun h_34 => ?_) (fun h_34 => ?_)
              · refine can1_ok (by decide : ¬ (1 : Int32) = 0) (fun W_35 eW_35 => ?_)
                try dsimp only
                have gW_35 := mg_18 (mg_refl h0) eW_35
                refine cg_pos (by decide) ?_
                exact cg_some (show (mg_G u0 W_35) from gW_35.1)
              · refine cg_neg (by decide) ?_
                refine cg_pos (by decide) ?_
                refine can1_ok (by decide : ¬ (3 : Int32) = 0) (fun W_36 eW_36 => ?_)
                try dsimp only
                have gW_36 := mg_18 (mg_refl h0) eW_36
                refine cg_pos (by decide) ?_
                exact cg_some (show (mg_G u0 W_36) from gW_36.1)
          · exfalso
            omega
    · refine cg_jn ?_
      refine cg_jn ?_
      refine cg_neg (by decide) ?_
      refine cg_jn ?_
      refine cg_eq2 (Eq.refl ((p1) : Int32).toInt) (by decide : (0 : Int32).toInt = 0) (fun h_37 => ?_) (fun h_37 => ?_)
      · refine cg_bn (t_X7_isIn p1 0 2 ) (fun z_4 hz_4 => ?_)
        rw [show (0 : Int32).toInt = 0 by decide] at hz_4
        rw [show (2 : Int32).toInt = 2 by decide] at hz_4
        refine cg_jn ?_
        refine cg_eq2 (Eq.refl ((z_4) : Int32).toInt) (by decide : (0 : Int32).toInt = 0) (fun h_38 => ?_) (fun h_38 => ?_)
        · refine can1_ok (by decide : ¬ (1 : Int32) = 0) (fun W_39 eW_39 => ?_)
          try dsimp only
          have gW_39 := mg_18 (mg_refl h0) eW_39
          refine cg_pos (by decide) ?_
          exact cg_some (show (mg_G u0 W_39) from gW_39.1)
        · refine cg_neg (by decide) ?_
          refine cg_neg (by decide) ?_
          refine can0_ok (fun W_40 eW_40 => ?_)
          try dsimp only
          have gW_40 := mg_18 (mg_refl h0) eW_40
          refine cg_neg (by decide) ?_
          refine cg_bn (t_X7_at 0 p2 (by first | omega | decide) (by first | omega | decide) (by first | omega | decide) (by first | omega | decide)) (fun z_8 hz_8 => ?_)
          rw [show (0 : Int32).toInt = 0 by decide] at hz_8
          refine cg_jn ?_
          refine cg_eq2 (Eq.refl ((p1) : Int32).toInt) (by decide : (0 : Int32).toInt = 0) (fun h_41 => ?_) (fun h_41 => ?_)
          · refine cg_chk (inb_e (add_e hz_8 (by decide : (3 : Int32).toInt = 3) (by omega) (by omega)) (by omega) (by omega)) ?_
            refine cg_chk (inb_e (add_e hz_8 (by decide : (3 : Int32).toInt = 3) (by omega) (by omega)) (by omega) (by omega)) ?_
            refine cg_bv (fun u_17 eu_17 => ?_)
            have gu_17 : mg_G u0 u_17 := by rw [eu_17]; exact (mg_free (r0 := p2.toInt.toNat) (c0 := 3) gW_40.1 ((add_e hz_8 (by decide : (3 : Int32).toInt = 3) (by omega) (by omega)).trans (by omega)) (by decide) (by decide))
            exact cg_some (show (mg_G u0 u_17) from gu_17)
          · exfalso
            omega
      · refine cg_eq2 (Eq.refl ((p1) : Int32).toInt) (by decide : (1 : Int32).toInt = 1) (fun h_42 => ?_) (fun h_42 => ?_)
        · exfalso
          omega
        · refine cg_bn (t_X7_kindOf u0 p2 (by first | omega | decide) (by first | omega | decide)) (fun z_26 hz_26 => ?_)
          refine cg_eq2 (Eq.refl ((z_26) : Int32).toInt) (by decide : (1 : Int32).toInt = 1) (fun h_43 => ?_) (fun h_43 => ?_)
          · refine cg_bn (t_X7_entries u0 0 p2 (by first | omega | decide) (by first | omega | decide) (by first | omega | decide) (by first | omega | decide)) (fun z_28 hz_28 => ?_)
            refine cg_le2 (Eq.refl ((z_28) : Int32).toInt) (by decide : (0 : Int32).toInt = 0) (fun h_44 => ?_) (fun h_44 => ?_)
            · refine cg_bn (t_X7_isIn p1 0 2 ) (fun z_4 hz_4 => ?_)
              rw [show (0 : Int32).toInt = 0 by decide] at hz_4
              rw [show (2 : Int32).toInt = 2 by decide] at hz_4
              refine cg_jn ?_
              refine cg_eq2 (Eq.refl ((z_4) : Int32).toInt) (by decide : (0 : Int32).toInt = 0) (fun h_45 => ?_) (fun h_45 => ?_)
              · refine can1_ok (by decide : ¬ (1 : Int32) = 0) (fun W_46 eW_46 => ?_)
                try dsimp only
                have gW_46 := mg_18 (mg_refl h0) eW_46
                refine cg_pos (by decide) ?_
                exact cg_some (show (mg_G u0 W_46) from gW_46.1)
              · refine cg_neg (by decide) ?_
                refine cg_pos (by decide) ?_
                refine can1_ok (by decide : ¬ (3 : Int32) = 0) (fun W_47 eW_47 => ?_)
                try dsimp only
                have gW_47 := mg_18 (mg_refl h0) eW_47
                refine cg_pos (by decide) ?_
                exact cg_some (show (mg_G u0 W_47) from gW_47.1)
            · refine cg_bn (t_X7_isIn p1 0 2 ) (fun z_4 hz_4 => ?_)
              rw [show (0 : Int32).toInt = 0 by decide] at hz_4
              rw [show (2 : Int32).toInt = 2 by decide] at hz_4
              refine cg_jn ?_
              refine cg_eq2 (Eq.refl ((z_4) : Int32).toInt) (by decide : (0 : Int32).toInt = 0) (fun h_48 => ?_) (fun h_48 => ?_)
              · refine can1_ok (by decide : ¬ (1 : Int32) = 0) (fun W_49 eW_49 => ?_)
                try dsimp only
                have gW_49 := mg_18 (mg_refl h0) eW_49
                refine cg_pos (by decide) ?_
                exact cg_some (show (mg_G u0 W_49) from gW_49.1)
              · refine cg_neg (by decide) ?_
                refine cg_neg (by decide) ?_
                refine can0_ok (fun W_50 eW_50 => ?_)
                try dsimp only
                have gW_50 := mg_18 (mg_refl h0) eW_50
                refine cg_neg (by decide) ?_
                refine cg_bn (t_X7_at 0 p2 (by first | omega | decide) (by first | omega | decide) (by first | omega | decide) (by first | omega | decide)) (fun z_8 hz_8 => ?_)
                rw [show (0 : Int32).toInt = 0 by decide] at hz_8
                refine cg_jn ?_
                refine cg_eq2 (Eq.refl ((p1) : Int32).toInt) (by decide : (0 : Int32).toInt = 0) (fun h_51 => ?_) (fun h_51 => ?_)
                · exfalso
                  omega
                · refine cg_eq2 (Eq.refl ((p1) : Int32).toInt) (by decide : (1 : Int32).toInt = 1) (fun h_52 => ?_) (fun h_52 => ?_)
                  · exfalso
                    omega
                  · refine cg_chk (inb_e (add_e hz_8 (by decide : (5 : Int32).toInt = 5) (by omega) (by omega)) (by omega) (by omega)) ?_
                    refine cg_bn (t_X7_leaves u0 W_50 p2 (W_50 0 (z_8 + 5).toNatClampNeg) gW_50.1 (by omega) (by omega)) (fun z_12 hz_12 => ?_)
                    exact cg_some (show (mg_G u0 z_12) from hz_12.1)
          · refine cg_bn (t_X7_isIn p1 0 2 ) (fun z_4 hz_4 => ?_)
            rw [show (0 : Int32).toInt = 0 by decide] at hz_4
            rw [show (2 : Int32).toInt = 2 by decide] at hz_4
            refine cg_jn ?_
            refine cg_eq2 (Eq.refl ((z_4) : Int32).toInt) (by decide : (0 : Int32).toInt = 0) (fun h_53 => ?_) (fun h_53 => ?_)
            · refine can1_ok (by decide : ¬ (1 : Int32) = 0) (fun W_54 eW_54 => ?_)
              try dsimp only
              have gW_54 := mg_18 (mg_refl h0) eW_54
              refine cg_pos (by decide) ?_
              exact cg_some (show (mg_G u0 W_54) from gW_54.1)
            · refine cg_neg (by decide) ?_
              refine cg_pos (by decide) ?_
              refine can1_ok (by decide : ¬ (3 : Int32) = 0) (fun W_55 eW_55 => ?_)
              try dsimp only
              have gW_55 := mg_18 (mg_refl h0) eW_55
              refine cg_pos (by decide) ?_
              exact cg_some (show (mg_G u0 W_55) from gW_55.1)
theorem t_X7_readOld (u0 : S1) (p1 : Int32) (p2 : Int32) (p3 : Int32) (h0 : mg_J u0) : cg_O (f_X7_readOld u0 p1 p2 p3) (fun z => (mg_G u0 z.2)) := by
  have lit0 : (0 : Int32).toInt = 0 := by decide
  unfold f_X7_readOld
  refine cg_bn (t_X7_isIn p2 0 99999999 ) (fun z_1 hz_1 => ?_)
  rw [show (0 : Int32).toInt = 0 by decide] at hz_1
  rw [show (99999999 : Int32).toInt = 99999999 by decide] at hz_1
  refine cg_jn ?_
  refine cg_jn ?_
  refine cg_eq2 (Eq.refl ((z_1) : Int32).toInt) (by decide : (0 : Int32).toInt = 0) (fun h_1 => ?_) (fun h_1 => ?_)
  · refine cg_jn ?_
    refine cg_eq2 (Eq.refl ((z_1) : Int32).toInt) (by decide : (0 : Int32).toInt = 0) (fun h_2 => ?_) (fun h_2 => ?_)
    · refine can1_ok (by decide : ¬ (1 : Int32) = 0) (fun W_3 eW_3 => ?_)
      try dsimp only
      have gW_3 := mg_18 (mg_refl h0) eW_3
      refine cg_pos (by decide) ?_
      exact cg_some (show (mg_G u0 W_3) from gW_3.1)
    · exfalso
      omega
  · refine cg_bn (t_X7_isSnapshot u0 p1 ) (fun z_15 hz_15 => ?_)
    refine cg_eq2 (Eq.refl ((z_15) : Int32).toInt) (by decide : (0 : Int32).toInt = 0) (fun h_4 => ?_) (fun h_4 => ?_)
    · refine cg_jn ?_
      refine cg_eq2 (Eq.refl ((z_1) : Int32).toInt) (by decide : (0 : Int32).toInt = 0) (fun h_5 => ?_) (fun h_5 => ?_)
      · exfalso
        omega
      · refine cg_pos (by decide) ?_
        refine can1_ok (by decide : ¬ (2 : Int32) = 0) (fun W_6 eW_6 => ?_)
        try dsimp only
        have gW_6 := mg_18 (mg_refl h0) eW_6
        refine cg_pos (by decide) ?_
        exact cg_some (show (mg_G u0 W_6) from gW_6.1)
    · refine cg_bn (t_X7_isPage p3 ) (fun z_17 hz_17 => ?_)
      refine cg_eq2 (Eq.refl ((z_17) : Int32).toInt) (by decide : (0 : Int32).toInt = 0) (fun h_7 => ?_) (fun h_7 => ?_)
      · refine cg_jn ?_
        refine cg_eq2 (Eq.refl ((z_1) : Int32).toInt) (by decide : (0 : Int32).toInt = 0) (fun h_8 => ?_) (fun h_8 => ?_)
        · exfalso
          omega
        · refine cg_pos (by decide) ?_
          refine can1_ok (by decide : ¬ (2 : Int32) = 0) (fun W_9 eW_9 => ?_)
          try dsimp only
          have gW_9 := mg_18 (mg_refl h0) eW_9
          refine cg_pos (by decide) ?_
          exact cg_some (show (mg_G u0 W_9) from gW_9.1)
      · have a_10 := (add_e (by decide : (2 : Int32).toInt = 2) (Eq.refl (p1).toInt) (by omega) (by omega))
        refine cg_bn (t_X7_walks u0 (2 + p1) p2 1 ((mg_refl h0)).1 (by first | omega | decide) (by first | omega | decide)) (fun z_19 hz_19 => ?_)
        have hz_19n := hz_19.2
        refine cg_jn ?_
        refine cg_eq2 (Eq.refl ((z_1) : Int32).toInt) (by decide : (0 : Int32).toInt = 0) (fun h_11 => ?_) (fun h_11 => ?_)
        · exfalso
          omega
        · refine cg_eq2 (Eq.refl ((z_19.1) : Int32).toInt) (by decide : (-1 : Int32).toInt = -1) (fun h_12 => ?_) (fun h_12 => ?_)
          · refine can1_ok (by decide : ¬ (2 : Int32) = 0) (fun W_13 eW_13 => ?_)
            try dsimp only
            have gW_13 := mg_18 (mg_smg (mg_refl h0) hz_19.1) eW_13
            refine cg_pos (by decide) ?_
            exact cg_some (show (mg_G u0 W_13) from gW_13.1)
          · have a_14 := (add_e (by decide : (2 : Int32).toInt = 2) (Eq.refl (p1).toInt) (by omega) (by omega))
            refine cg_bn (t_X7_at (2 + p1) z_19.1 (by first | omega | decide) (by first | omega | decide) (by first | omega | decide) (by first | omega | decide)) (fun z_11 hz_11 => ?_)
            refine cg_chk (inb_e hz_11 (by omega) (by omega)) ?_
            refine cg_eq2 (Eq.refl ((z_19.2 0 (z_11).toNatClampNeg) : Int32).toInt) (by decide : (0 : Int32).toInt = 0) (fun h_15 => ?_) (fun h_15 => ?_)
            · refine can0_ok (fun W_16 eW_16 => ?_)
              try dsimp only
              have gW_16 := mg_18 (mg_smg (mg_refl h0) hz_19.1) eW_16
              refine cg_neg (by decide) ?_
              have a_17 := (add_e (by decide : (2 : Int32).toInt = 2) (Eq.refl (p1).toInt) (by omega) (by omega))
              refine cg_bn (t_X7_at (2 + p1) z_19.1 (by first | omega | decide) (by first | omega | decide) (by first | omega | decide) (by first | omega | decide)) (fun z_6 hz_6 => ?_)
              refine cg_chk (inb_e (add_e (add_e hz_6 (by decide : (37 : Int32).toInt = 37) (by omega) (by omega)) (Eq.refl (p3).toInt) (by omega) (by omega)) (by omega) (by omega)) ?_
              refine cg_jn ?_
              refine cg_eq2 (Eq.refl ((W_16 0 ((z_6 + 37) + p3).toNatClampNeg) : Int32).toInt) (by decide : (2 : Int32).toInt = 2) (fun h_18 => ?_) (fun h_18 => ?_)
              · refine cg_chk (inb_e (add_e (add_e hz_6 (by decide : (21 : Int32).toInt = 21) (by omega) (by omega)) (Eq.refl (p3).toInt) (by omega) (by omega)) (by omega) (by omega)) ?_
                have q6 := mg_jw W_16 (gW_16.1).1 ((add_e (add_e hz_6 (by decide : (37 : Int32).toInt = 37) (by omega) (by omega)) (Eq.refl (p3).toInt) (by omega) (by omega)).trans (by omega) : ((z_6 + 37) + p3).toInt = ((53 * (32 * (2 + p1).toInt.toNat + z_19.1.toInt.toNat) + (37 + p3.toInt.toNat) : Nat) : Int)) ((add_e (add_e hz_6 (by decide : (21 : Int32).toInt = 21) (by omega) (by omega)) (Eq.refl (p3).toInt) (by omega) (by omega)).trans (by omega) : ((z_6 + 21) + p3).toInt = ((53 * (32 * (2 + p1).toInt.toNat + z_19.1.toInt.toNat) + (21 + p3.toInt.toNat) : Nat) : Int)) (by omega) (by omega) (by omega)
                refine cg_chk (inb_e (Eq.refl (W_16 0 ((z_6 + 21) + p3).toNatClampNeg).toInt) (by omega) (by omega)) ?_
                exact cg_some (show (mg_G u0 W_16) from gW_16.1)
              · exact cg_some (show (mg_G u0 W_16) from gW_16.1)
            · refine can1_ok (by decide : ¬ (3 : Int32) = 0) (fun W_19 eW_19 => ?_)
              try dsimp only
              have gW_19 := mg_18 (mg_smg (mg_refl h0) hz_19.1) eW_19
              refine cg_pos (by decide) ?_
              exact cg_some (show (mg_G u0 W_19) from gW_19.1)
