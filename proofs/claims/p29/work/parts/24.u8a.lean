theorem t_X7_canTake (u0 : S1) (p1 : Int32) (p2 : Int32) (p3 : Int32) (p4 : Int32) (h0 : mg_J u0) (h1 : 0 ≤ p1.toInt) (h2 : p1.toInt ≤ 31) (h3 : 0 ≤ p2.toInt) (h4 : p2.toInt ≤ 31) (h5 : 0 ≤ p4.toInt) (h6 : p4.toInt ≤ 31) : cg_O (f_X7_canTake u0 p1 p2 p3 p4) (fun z => (z.toInt = 0 ∨ (f_X7_entryOf u0 0 p2 p3 = some (-1) → p2 = p4 ∨ mg_room u0 p2.toInt.toNat))) := by
  have lit0 : (0 : Int32).toInt = 0 := by decide
  unfold f_X7_canTake
  refine cg_bne (t_X7_entryOf u0 0 p2 p3 ((mg_refl h0)).1 (by first | omega | decide) (by first | omega | decide) (by first | omega | decide) (by first | omega | decide)) (fun z_1 hez_1 hz_1 => ?_)
  refine cg_bn (t_X7_kindOf u0 p1 (by first | omega | decide) (by first | omega | decide)) (fun z_2 hz_2 => ?_)
  refine cg_jn ?_
  refine cg_eq2 (Eq.refl ((z_2) : Int32).toInt) (by decide : (1 : Int32).toInt = 1) (fun h_1 => ?_) (fun h_1 => ?_)
  · refine cg_jn ?_
    refine cg_neg (by decide) ?_
    refine cg_bn (t_X7_below u0 p1 ) (fun z_28 hz_28 => ?_)
    refine cg_eq2 (Eq.refl (((z_28 >>> (p2 &&& 31)) &&& 1) : Int32).toInt) (by decide : (1 : Int32).toInt = 1) (fun h_2 => ?_) (fun h_2 => ?_)
    · exact cg_some (show ((0 : Int32).toInt = 0 ∨ (f_X7_entryOf u0 0 p2 p3 = some (-1) → p2 = p4 ∨ mg_room u0 p2.toInt.toNat)) from (by first | omega | decide | exact Or.inl (by decide) | exact Or.inr (by omega) | exact Or.inr (fun _ => Or.inl (Int32.toInt_inj.mp (by omega))) | exact Or.inr (fun _ => Or.inr (mg_roomn hz_25 (by omega))) | exact Or.inr (fun q => absurd (congrArg Int32.toInt (Option.some.inj (hez_1.symm.trans q))) (by rw [show (-1 : Int32).toInt = -1 by decide]; omega))))
    · refine cg_jn ?_
      refine cg_eq2 (Eq.refl ((z_1) : Int32).toInt) (by decide : (-1 : Int32).toInt = -1) (fun h_3 => ?_) (fun h_3 => ?_)
      · refine cg_jn ?_
        refine cg_eq2 (Eq.refl ((p2) : Int32).toInt) (Eq.refl ((p4) : Int32).toInt) (fun h_4 => ?_) (fun h_4 => ?_)
        · refine cg_jn ?_
          refine cg_jn ?_
          refine cg_neg (by decide) ?_
          refine cg_bn (t_X7_mayChange u0 p2 (by first | omega | decide) (by first | omega | decide)) (fun z_9 hz_9 => ?_)
          refine cg_eq2 (Eq.refl ((z_9) : Int32).toInt) (by decide : (0 : Int32).toInt = 0) (fun h_5 => ?_) (fun h_5 => ?_)
          · exact cg_some (show ((vp_nar .boolean 0).toInt = 0 ∨ (f_X7_entryOf u0 0 p2 p3 = some (-1) → p2 = p4 ∨ mg_room u0 p2.toInt.toNat)) from (by first | omega | decide | exact Or.inl (by decide) | exact Or.inr (by omega) | exact Or.inr (fun _ => Or.inl (Int32.toInt_inj.mp (by omega))) | exact Or.inr (fun _ => Or.inr (mg_roomn hz_25 (by omega))) | exact Or.inr (fun q => absurd (congrArg Int32.toInt (Option.some.inj (hez_1.symm.trans q))) (by rw [show (-1 : Int32).toInt = -1 by decide]; omega))))
          · refine cg_bn (t_X7_mayChange u0 p4 (by first | omega | decide) (by first | omega | decide)) (fun z_11 hz_11 => ?_)
            refine cg_eq2 (Eq.refl ((z_11) : Int32).toInt) (by decide : (0 : Int32).toInt = 0) (fun h_6 => ?_) (fun h_6 => ?_)
            · exact cg_some (show ((vp_nar .boolean 0).toInt = 0 ∨ (f_X7_entryOf u0 0 p2 p3 = some (-1) → p2 = p4 ∨ mg_room u0 p2.toInt.toNat)) from (by first | omega | decide | exact Or.inl (by decide) | exact Or.inr (by omega) | exact Or.inr (fun _ => Or.inl (Int32.toInt_inj.mp (by omega))) | exact Or.inr (fun _ => Or.inr (mg_roomn hz_25 (by omega))) | exact Or.inr (fun q => absurd (congrArg Int32.toInt (Option.some.inj (hez_1.symm.trans q))) (by rw [show (-1 : Int32).toInt = -1 by decide]; omega))))
            · exact cg_some (show ((vp_nar .boolean 1).toInt = 0 ∨ (f_X7_entryOf u0 0 p2 p3 = some (-1) → p2 = p4 ∨ mg_room u0 p2.toInt.toNat)) from (by first | omega | decide | exact Or.inl (by decide) | exact Or.inr (by omega) | exact Or.inr (fun _ => Or.inl (Int32.toInt_inj.mp (by omega))) | exact Or.inr (fun _ => Or.inr (mg_roomn hz_25 (by omega))) | exact Or.inr (fun q => absurd (congrArg Int32.toInt (Option.some.inj (hez_1.symm.trans q))) (by rw [show (-1 : Int32).toInt = -1 by decide]; omega))))
        · refine cg_bn (t_X7_entries u0 0 p2 (by first | omega | decide) (by first | omega | decide) (by first | omega | decide) (by first | omega | decide)) (fun z_25 hz_25 => ?_)
          refine cg_le2 (by decide : (8 : Int32).toInt = 8) (Eq.refl ((z_25) : Int32).toInt) (fun h_7 => ?_) (fun h_7 => ?_)
          · refine cg_jn ?_
            refine cg_jn ?_
            refine cg_pos (by decide) ?_
            exact cg_some (show ((vp_nar .boolean 0).toInt = 0 ∨ (f_X7_entryOf u0 0 p2 p3 = some (-1) → p2 = p4 ∨ mg_room u0 p2.toInt.toNat)) from (by first | omega | decide | exact Or.inl (by decide) | exact Or.inr (by omega) | exact Or.inr (fun _ => Or.inl (Int32.toInt_inj.mp (by omega))) | exact Or.inr (fun _ => Or.inr (mg_roomn hz_25 (by omega))) | exact Or.inr (fun q => absurd (congrArg Int32.toInt (Option.some.inj (hez_1.symm.trans q))) (by rw [show (-1 : Int32).toInt = -1 by decide]; omega))))
          · refine cg_jn ?_
            refine cg_jn ?_
            refine cg_neg (by decide) ?_
            refine cg_bn (t_X7_mayChange u0 p2 (by first | omega | decide) (by first | omega | decide)) (fun z_9 hz_9 => ?_)
            refine cg_eq2 (Eq.refl ((z_9) : Int32).toInt) (by decide : (0 : Int32).toInt = 0) (fun h_8 => ?_) (fun h_8 => ?_)
            · exact cg_some (show ((vp_nar .boolean 0).toInt = 0 ∨ (f_X7_entryOf u0 0 p2 p3 = some (-1) → p2 = p4 ∨ mg_room u0 p2.toInt.toNat)) from (by first | omega | decide | exact Or.inl (by decide) | exact Or.inr (by omega) | exact Or.inr (fun _ => Or.inl (Int32.toInt_inj.mp (by omega))) | exact Or.inr (fun _ => Or.inr (mg_roomn hz_25 (by omega))) | exact Or.inr (fun q => absurd (congrArg Int32.toInt (Option.some.inj (hez_1.symm.trans q))) (by rw [show (-1 : Int32).toInt = -1 by decide]; omega))))
            · refine cg_bn (t_X7_mayChange u0 p4 (by first | omega | decide) (by first | omega | decide)) (fun z_11 hz_11 => ?_)
              refine cg_eq2 (Eq.refl ((z_11) : Int32).toInt) (by decide : (0 : Int32).toInt = 0) (fun h_9 => ?_) (fun h_9 => ?_)
              · exact cg_some (show ((vp_nar .boolean 0).toInt = 0 ∨ (f_X7_entryOf u0 0 p2 p3 = some (-1) → p2 = p4 ∨ mg_room u0 p2.toInt.toNat)) from (by first | omega | decide | exact Or.inl (by decide) | exact Or.inr (by omega) | exact Or.inr (fun _ => Or.inl (Int32.toInt_inj.mp (by omega))) | exact Or.inr (fun _ => Or.inr (mg_roomn hz_25 (by omega))) | exact Or.inr (fun q => absurd (congrArg Int32.toInt (Option.some.inj (hez_1.symm.trans q))) (by rw [show (-1 : Int32).toInt = -1 by decide]; omega))))
              · exact cg_some (show ((vp_nar .boolean 1).toInt = 0 ∨ (f_X7_entryOf u0 0 p2 p3 = some (-1) → p2 = p4 ∨ mg_room u0 p2.toInt.toNat)) from (by first | omega | decide | exact Or.inl (by decide) | exact Or.inr (by omega) | exact Or.inr (fun _ => Or.inl (Int32.toInt_inj.mp (by omega))) | exact Or.inr (fun _ => Or.inr (mg_roomn hz_25 (by omega))) | exact Or.inr (fun q => absurd (congrArg Int32.toInt (Option.some.inj (hez_1.symm.trans q))) (by rw [show (-1 : Int32).toInt = -1 by decide]; omega))))
      · refine cg_bn (t_X7_kindOf u0 z_1 (by first | omega | decide) (by first | omega | decide)) (fun z_14 hz_14 => ?_)
        refine cg_jn ?_
        refine cg_eq2 (Eq.refl ((z_14) : Int32).toInt) (by decide : (1 : Int32).toInt = 1) (fun h_10 => ?_) (fun h_10 => ?_)
        · refine cg_jn ?_
          refine cg_pos (by decide) ?_
          refine cg_jn ?_
          refine cg_neg (by decide) ?_
          refine cg_bn (t_X7_entries u0 0 z_1 (by first | omega | decide) (by first | omega | decide) (by first | omega | decide) (by first | omega | decide)) (fun z_20 hz_20 => ?_)
          refine cg_eq2 (Eq.refl ((z_20) : Int32).toInt) (by decide : (0 : Int32).toInt = 0) (fun h_11 => ?_) (fun h_11 => ?_)
          · refine cg_jn ?_
            refine cg_jn ?_
            refine cg_neg (by decide) ?_
            refine cg_bn (t_X7_mayChange u0 p2 (by first | omega | decide) (by first | omega | decide)) (fun z_9 hz_9 => ?_)
            refine cg_eq2 (Eq.refl ((z_9) : Int32).toInt) (by decide : (0 : Int32).toInt = 0) (fun h_12 => ?_) (fun h_12 => ?_)
            · exact cg_some (show ((vp_nar .boolean 0).toInt = 0 ∨ (f_X7_entryOf u0 0 p2 p3 = some (-1) → p2 = p4 ∨ mg_room u0 p2.toInt.toNat)) from (by first | omega | decide | exact Or.inl (by decide) | exact Or.inr (by omega) | exact Or.inr (fun _ => Or.inl (Int32.toInt_inj.mp (by omega))) | exact Or.inr (fun _ => Or.inr (mg_roomn hz_25 (by omega))) | exact Or.inr (fun q => absurd (congrArg Int32.toInt (Option.some.inj (hez_1.symm.trans q))) (by rw [show (-1 : Int32).toInt = -1 by decide]; omega))))
            · refine cg_bn (t_X7_mayChange u0 p4 (by first | omega | decide) (by first | omega | decide)) (fun z_11 hz_11 => ?_)
              refine cg_eq2 (Eq.refl ((z_11) : Int32).toInt) (by decide : (0 : Int32).toInt = 0) (fun h_13 => ?_) (fun h_13 => ?_)
              · exact cg_some (show ((vp_nar .boolean 0).toInt = 0 ∨ (f_X7_entryOf u0 0 p2 p3 = some (-1) → p2 = p4 ∨ mg_room u0 p2.toInt.toNat)) from (by first | omega | decide | exact Or.inl (by decide) | exact Or.inr (by omega) | exact Or.inr (fun _ => Or.inl (Int32.toInt_inj.mp (by omega))) | exact Or.inr (fun _ => Or.inr (mg_roomn hz_25 (by omega))) | exact Or.inr (fun q => absurd (congrArg Int32.toInt (Option.some.inj (hez_1.symm.trans q))) (by rw [show (-1 : Int32).toInt = -1 by decide]; omega))))
              · exact cg_some (show ((vp_nar .boolean 1).toInt = 0 ∨ (f_X7_entryOf u0 0 p2 p3 = some (-1) → p2 = p4 ∨ mg_room u0 p2.toInt.toNat)) from (by first | omega | decide | exact Or.inl (by decide) | exact Or.inr (by omega) | exact Or.inr (fun _ => Or.inl (Int32.toInt_inj.mp (by omega))) | exact Or.inr (fun _ => Or.inr (mg_roomn hz_25 (by omega))) | exact Or.inr (fun q => absurd (congrArg Int32.toInt (Option.some.inj (hez_1.symm.trans q))) (by rw [show (-1 : Int32).toInt = -1 by decide]; omega))))
          · refine cg_jn ?_
            refine cg_jn ?_
            refine cg_pos (by decide) ?_
            exact cg_some (show ((vp_nar .boolean 0).toInt = 0 ∨ (f_X7_entryOf u0 0 p2 p3 = some (-1) → p2 = p4 ∨ mg_room u0 p2.toInt.toNat)) from (by first | omega | decide | exact Or.inl (by decide) | exact Or.inr (by omega) | exact Or.inr (fun _ => Or.inl (Int32.toInt_inj.mp (by omega))) | exact Or.inr (fun _ => Or.inr (mg_roomn hz_25 (by omega))) | exact Or.inr (fun q => absurd (congrArg Int32.toInt (Option.some.inj (hez_1.symm.trans q))) (by rw [show (-1 : Int32).toInt = -1 by decide]; omega))))
        · refine cg_jn ?_
          refine cg_neg (by decide) ?_
          refine cg_jn ?_
          refine cg_jn ?_
          refine cg_pos (by decide) ?_
          exact cg_some (show ((vp_nar .boolean 0).toInt = 0 ∨ (f_X7_entryOf u0 0 p2 p3 = some (-1) → p2 = p4 ∨ mg_room u0 p2.toInt.toNat)) from (by first | omega | decide | exact Or.inl (by decide) | exact Or.inr (by omega) | exact Or.inr (fun _ => Or.inl (Int32.toInt_inj.mp (by omega))) | exact Or.inr (fun _ => Or.inr (mg_roomn hz_25 (by omega))) | exact Or.inr (fun q => absurd (congrArg Int32.toInt (Option.some.inj (hez_1.symm.trans q))) (by rw [show (-1 : Int32).toInt = -1 by decide]; omega))))
  · refine cg_jn ?_
    refine cg_pos (by decide) ?_
    refine cg_jn ?_
    refine cg_eq2 (Eq.refl ((z_1) : Int32).toInt) (by decide : (-1 : Int32).toInt = -1) (fun h_14 => ?_) (fun h_14 => ?_)
    · refine cg_jn ?_
      refine cg_eq2 (Eq.refl ((p2) : Int32).toInt) (Eq.refl ((p4) : Int32).toInt) (fun h_15 => ?_) (fun h_15 => ?_)
      · refine cg_jn ?_
        refine cg_jn ?_
        refine cg_neg (by decide) ?_
        refine cg_bn (t_X7_mayChange u0 p2 (by first | omega | decide) (by first | omega | decide)) (fun z_9 hz_9 => ?_)
        refine cg_eq2 (Eq.refl ((z_9) : Int32).toInt) (by decide : (0 : Int32).toInt = 0) (fun h_16 => ?_) (fun h_16 => ?_)
        · exact cg_some (show ((vp_nar .boolean 0).toInt = 0 ∨ (f_X7_entryOf u0 0 p2 p3 = some (-1) → p2 = p4 ∨ mg_room u0 p2.toInt.toNat)) from (by first | omega | decide | exact Or.inl (by decide) | exact Or.inr (by omega) | exact Or.inr (fun _ => Or.inl (Int32.toInt_inj.mp (by omega))) | exact Or.inr (fun _ => Or.inr (mg_roomn hz_25 (by omega))) | exact Or.inr (fun q => absurd (congrArg Int32.toInt (Option.some.inj (hez_1.symm.trans q))) (by rw [show (-1 : Int32).toInt = -1 by decide]; omega))))
        · refine cg_bn (t_X7_mayChange u0 p4 (by first | omega | decide) (by first | omega | decide)) (fun z_11 hz_11 => ?_)
          refine cg_eq2 (Eq.refl ((z_11) : Int32).toInt) (by decide : (0 : Int32).toInt = 0) (fun h_17 => ?_) (fun h_17 => ?_)
          · exact cg_some (show ((vp_nar .boolean 0).toInt = 0 ∨ (f_X7_entryOf u0 0 p2 p3 = some (-1) → p2 = p4 ∨ mg_room u0 p2.toInt.toNat)) from (by first | omega | decide | exact Or.inl (by decide) | exact Or.inr (by omega) | exact Or.inr (fun _ => Or.inl (Int32.toInt_inj.mp (by omega))) | exact Or.inr (fun _ => Or.inr (mg_roomn hz_25 (by omega))) | exact Or.inr (fun q => absurd (congrArg Int32.toInt (Option.some.inj (hez_1.symm.trans q))) (by rw [show (-1 : Int32).toInt = -1 by decide]; omega))))
          · exact cg_some (show ((vp_nar .boolean 1).toInt = 0 ∨ (f_X7_entryOf u0 0 p2 p3 = some (-1) → p2 = p4 ∨ mg_room u0 p2.toInt.toNat)) from (by first | omega | decide | exact Or.inl (by decide) | exact Or.inr (by omega) | exact Or.inr (fun _ => Or.inl (Int32.toInt_inj.mp (by omega))) | exact Or.inr (fun _ => Or.inr (mg_roomn hz_25 (by omega))) | exact Or.inr (fun q => absurd (congrArg Int32.toInt (Option.some.inj (hez_1.symm.trans q))) (by rw [show (-1 : Int32).toInt = -1 by decide]; omega))))
      · refine cg_bn (t_X7_entries u0 0 p2 (by first | omega | decide) (by first | omega | decide) (by first | omega | decide) (by first | omega | decide)) (fun z_25 hz_25 => ?_)
        refine cg_le2 (by decide : (8 : Int32).toInt = 8) (Eq.refl ((z_25) : Int32).toInt) (fun h_18 => ?_) (fun h_18 => ?_)
        · refine cg_jn ?_
          refine cg_jn ?_
          refine cg_pos (by decide) ?_
          exact cg_some (show ((vp_nar .boolean 0).toInt = 0 ∨ (f_X7_entryOf u0 0 p2 p3 = some (-1) → p2 = p4 ∨ mg_room u0 p2.toInt.toNat)) from (by first | omega | decide | exact Or.inl (by decide) | exact Or.inr (by omega) | exact Or.inr (fun _ => Or.inl (Int32.toInt_inj.mp (by omega))) | exact Or.inr (fun _ => Or.inr (mg_roomn hz_25 (by omega))) | exact Or.inr (fun q => absurd (congrArg Int32.toInt (Option.some.inj (hez_1.symm.trans q))) (by rw [show (-1 : Int32).toInt = -1 by decide]; omega))))
        · refine cg_jn ?_
          refine cg_jn ?_
          refine cg_neg (by decide) ?_
          refine cg_bn (t_X7_mayChange u0 p2 (by first | omega | decide) (by first | omega | decide)) (fun z_9 hz_9 => ?_)
          refine cg_eq2 (Eq.refl ((z_9) : Int32).toInt) (by decide : (0 : Int32).toInt = 0) (fun h_19 => ?_) (fun h_19 => ?_)
          · exact cg_some (show ((vp_nar .boolean 0).toInt = 0 ∨ (f_X7_entryOf u0 0 p2 p3 = some (-1) → p2 = p4 ∨ mg_room u0 p2.toInt.toNat)) from (by first | omega | decide | exact Or.inl (by decide) | exact Or.inr (by omega) | exact Or.inr (fun _ => Or.inl (Int32.toInt_inj.mp (by omega))) | exact Or.inr (fun _ => Or.inr (mg_roomn hz_25 (by omega))) | exact Or.inr (fun q => absurd (congrArg Int32.toInt (Option.some.inj (hez_1.symm.trans q))) (by rw [show (-1 : Int32).toInt = -1 by decide]; omega))))
          · refine cg_bn (t_X7_mayChange u0 p4 (by first | omega | decide) (by first | omega | decide)) (fun z_11 hz_11 => ?_)
            refine cg_eq2 (Eq.refl ((z_11) : Int32).toInt) (by decide : (0 : Int32).toInt = 0) (fun h_20 => ?_) (fun h_20 => ?_)
            · exact cg_some (show ((vp_nar .boolean 0).toInt = 0 ∨ (f_X7_entryOf u0 0 p2 p3 = some (-1) → p2 = p4 ∨ mg_room u0 p2.toInt.toNat)) from (by first | omega | decide | exact Or.inl (by decide) | exact Or.inr (by omega) | exact Or.inr (fun _ => Or.inl (Int32.toInt_inj.mp (by omega))) | exact Or.inr (fun _ => Or.inr (mg_roomn hz_25 (by omega))) | exact Or.inr (fun q => absurd (congrArg Int32.toInt (Option.some.inj (hez_1.symm.trans q))) (by rw [show (-1 : Int32).toInt = -1 by decide]; omega))))
            · exact cg_some (show ((vp_nar .boolean 1).toInt = 0 ∨ (f_X7_entryOf u0 0 p2 p3 = some (-1) → p2 = p4 ∨ mg_room u0 p2.toInt.toNat)) from (by first | omega | decide | exact Or.inl (by decide) | exact Or.inr (by omega) | exact Or.inr (fun _ => Or.inl (Int32.toInt_inj.mp (by omega))) | exact Or.inr (fun _ => Or.inr (mg_roomn hz_25 (by omega))) | exact Or.inr (fun q => absurd (congrArg Int32.toInt (Option.some.inj (hez_1.symm.trans q))) (by rw [show (-1 : Int32).toInt = -1 by decide]; omega))))
    · refine cg_bn (t_X7_kindOf u0 z_1 (by first | omega | decide) (by first | omega | decide)) (fun z_14 hz_14 => ?_)
      refine cg_jn ?_
      refine cg_eq2 (Eq.refl ((z_14) : Int32).toInt) (by decide : (1 : Int32).toInt = 1) (fun h_21 => ?_) (fun h_21 => ?_)
      · refine cg_jn ?_
        refine cg_neg (by decide) ?_
        refine cg_jn ?_
        refine cg_jn ?_
        refine cg_pos (by decide) ?_
        exact cg_some (show ((vp_nar .boolean 0).toInt = 0 ∨ (f_X7_entryOf u0 0 p2 p3 = some (-1) → p2 = p4 ∨ mg_room u0 p2.toInt.toNat)) from (by first | omega | decide | exact Or.inl (by decide) | exact Or.inr (by omega) | exact Or.inr (fun _ => Or.inl (Int32.toInt_inj.mp (by omega))) | exact Or.inr (fun _ => Or.inr (mg_roomn hz_25 (by omega))) | exact Or.inr (fun q => absurd (congrArg Int32.toInt (Option.some.inj (hez_1.symm.trans q))) (by rw [show (-1 : Int32).toInt = -1 by decide]; omega))))
      · refine cg_jn ?_
        refine cg_pos (by decide) ?_
        refine cg_jn ?_
        refine cg_pos (by decide) ?_
        refine cg_jn ?_
        refine cg_jn ?_
        refine cg_neg (by decide) ?_
        refine cg_bn (t_X7_mayChange u0 p2 (by first | omega | decide) (by first | omega | decide)) (fun z_9 hz_9 => ?_)
        refine cg_eq2 (Eq.refl ((z_9) : Int32).toInt) (by decide : (0 : Int32).toInt = 0) (fun h_22 => ?_) (fun h_22 => ?_)
        · exact cg_some (show ((vp_nar .boolean 0).toInt = 0 ∨ (f_X7_entryOf u0 0 p2 p3 = some (-1) → p2 = p4 ∨ mg_room u0 p2.toInt.toNat)) from (by first | omega | decide | exact Or.inl (by decide) | exact Or.inr (by omega) | exact Or.inr (fun _ => Or.inl (Int32.toInt_inj.mp (by omega))) | exact Or.inr (fun _ => Or.inr (mg_roomn hz_25 (by omega))) | exact Or.inr (fun q => absurd (congrArg Int32.toInt (Option.some.inj (hez_1.symm.trans q))) (by rw [show (-1 : Int32).toInt = -1 by decide]; omega))))
        · refine cg_bn (t_X7_mayChange u0 p4 (by first | omega | decide) (by first | omega | decide)) (fun z_11 hz_11 => ?_)
          refine cg_eq2 (Eq.refl ((z_11) : Int32).toInt) (by decide : (0 : Int32).toInt = 0) (fun h_23 => ?_) (fun h_23 => ?_)
          · exact cg_some (show ((vp_nar .boolean 0).toInt = 0 ∨ (f_X7_entryOf u0 0 p2 p3 = some (-1) → p2 = p4 ∨ mg_room u0 p2.toInt.toNat)) from (by first | omega | decide | exact Or.inl (by decide) | exact Or.inr (by omega) | exact Or.inr (fun _ => Or.inl (Int32.toInt_inj.mp (by omega))) | exact Or.inr (fun _ => Or.inr (mg_roomn hz_25 (by omega))) | exact Or.inr (fun q => absurd (congrArg Int32.toInt (Option.some.inj (hez_1.symm.trans q))) (by rw [show (-1 : Int32).toInt = -1 by decide]; omega))))
          · exact cg_some (show ((vp_nar .boolean 1).toInt = 0 ∨ (f_X7_entryOf u0 0 p2 p3 = some (-1) → p2 = p4 ∨ mg_room u0 p2.toInt.toNat)) from (by first | omega | decide | exact Or.inl (by decide) | exact Or.inr (by omega) | exact Or.inr (fun _ => Or.inl (Int32.toInt_inj.mp (by omega))) | exact Or.inr (fun _ => Or.inr (mg_roomn hz_25 (by omega))) | exact Or.inr (fun q => absurd (congrArg Int32.toInt (Option.some.inj (hez_1.symm.trans q))) (by rw [show (-1 : Int32).toInt = -1 by decide]; omega))))
theorem t_X7_hard (u0 : S1) (p1 : Int32) (p2 : Int32) (h0 : mg_J u0) : cg_O (f_X7_hard u0 p1 p2) (fun z => (mg_G u0 z.2)) := by
  have lit0 : (0 : Int32).toInt = 0 := by decide
  unfold f_X7_hard
  refine cg_bn (t_X7_isPath p1 ) (fun z_1 hz_1 => ?_)
  refine cg_jn ?_
  refine cg_jn ?_
  refine cg_eq2 (Eq.refl ((z_1) : Int32).toInt) (by decide : (0 : Int32).toInt = 0) (fun h_1 => ?_) (fun h_1 => ?_)
  · refine cg_jn ?_
    refine cg_pos (by decide) ?_
    refine cg_jn ?_
    refine cg_pos (by decide) ?_
    refine cg_jn ?_
    refine cg_jn ?_
    refine cg_pos (by decide) ?_
    refine cg_jn ?_
    refine cg_pos (by decide) ?_
    refine can1_ok (by decide : ¬ (1 : Int32) = 0) (fun W_2 eW_2 => ?_)
    try dsimp only
    have gW_2 := mg_18 (mg_refl h0) eW_2
    refine cg_pos (by decide) ?_
    exact cg_some (show (mg_G u0 W_2) from gW_2.1)
  · refine cg_bn (t_X7_isPath p2 ) (fun z_29 hz_29 => ?_)
    refine cg_eq2 (Eq.refl ((z_29) : Int32).toInt) (by decide : (0 : Int32).toInt = 0) (fun h_3 => ?_) (fun h_3 => ?_)
    · refine cg_jn ?_
      refine cg_pos (by decide) ?_
      refine cg_jn ?_
      refine cg_pos (by decide) ?_
      refine cg_jn ?_
      refine cg_jn ?_
      refine cg_pos (by decide) ?_
      refine cg_jn ?_
      refine cg_pos (by decide) ?_
      refine can1_ok (by decide : ¬ (1 : Int32) = 0) (fun W_4 eW_4 => ?_)
      try dsimp only
      have gW_4 := mg_18 (mg_refl h0) eW_4
      refine cg_pos (by decide) ?_
      exact cg_some (show (mg_G u0 W_4) from gW_4.1)
    · refine cg_jn ?_
      refine cg_neg (by decide) ?_
      refine cg_bn (t_X7_walks u0 0 p1 0 ((mg_refl h0)).1 (by first | omega | decide) (by first | omega | decide)) (fun z_26 hz_26 => ?_)
      have hz_26n := hz_26.2
      refine cg_jn ?_
      refine cg_neg (by decide) ?_
      refine cg_bn (t_X7_folderOf z_26.2 p2 ((mg_smg (mg_refl h0) hz_26.1)).1) (fun z_24 hz_24 => ?_)
      have hz_24n := hz_24.2
      refine cg_jn ?_
      refine cg_jn ?_
      refine cg_eq2 (Eq.refl ((z_26.1) : Int32).toInt) (by decide : (-1 : Int32).toInt = -1) (fun h_5 => ?_) (fun h_5 => ?_)
      · refine cg_jn ?_
        refine cg_neg (by decide) ?_
        refine cg_pos (by decide) ?_
        refine can1_ok (by decide : ¬ (2 : Int32) = 0) (fun W_6 eW_6 => ?_)
        try dsimp only
        have gW_6 := mg_18 (mg_smg (mg_smg (mg_refl h0) hz_26.1) hz_24.1) eW_6
        refine cg_pos (by decide) ?_
        exact cg_some (show (mg_G u0 W_6) from gW_6.1)
      · refine cg_eq2 (Eq.refl ((z_24.1) : Int32).toInt) (by decide : (-1 : Int32).toInt = -1) (fun h_7 => ?_) (fun h_7 => ?_)
        · refine cg_jn ?_
          refine cg_neg (by decide) ?_
          refine cg_pos (by decide) ?_
          refine can1_ok (by decide : ¬ (2 : Int32) = 0) (fun W_8 eW_8 => ?_)
          try dsimp only
          have gW_8 := mg_18 (mg_smg (mg_smg (mg_refl h0) hz_26.1) hz_24.1) eW_8
          refine cg_pos (by decide) ?_
          exact cg_some (show (mg_G u0 W_8) from gW_8.1)
        · refine cg_jn ?_
          refine cg_neg (by decide) ?_
          refine cg_neg (by decide) ?_
          refine cg_bn (t_X7_kindOf z_24.2 z_26.1 (by first | omega | decide) (by first | omega | decide)) (fun z_15 hz_15 => ?_)
          refine cg_jn ?_
          refine cg_eq2 (Eq.refl ((z_15) : Int32).toInt) (by decide : (1 : Int32).toInt = 1) (fun h_9 => ?_) (fun h_9 => ?_)
          · refine can1_ok (by decide : ¬ (3 : Int32) = 0) (fun W_10 eW_10 => ?_)
            try dsimp only
            have gW_10 := mg_18 (mg_smg (mg_smg (mg_refl h0) hz_26.1) hz_24.1) eW_10
            refine cg_pos (by decide) ?_
            exact cg_some (show (mg_G u0 W_10) from gW_10.1)
          · refine cg_bn (t_X7_canEnter z_24.2 z_24.1 (p2 - p2 / 100 * 100) (by first | omega | decide) (by first | omega | decide)) (fun z_18 hz_18 => ?_)
            refine cg_eq2 (Eq.refl ((z_18) : Int32).toInt) (by decide : (0 : Int32).toInt = 0) (fun h_11 => ?_) (fun h_11 => ?_)
            · refine can1_ok (by decide : ¬ (3 : Int32) = 0) (fun W_12 eW_12 => ?_)
              try dsimp only
              have gW_12 := mg_18 (mg_smg (mg_smg (mg_refl h0) hz_26.1) hz_24.1) eW_12
              refine cg_pos (by decide) ?_
              exact cg_some (show (mg_G u0 W_12) from gW_12.1)
            · refine can0_ok (fun W_13 eW_13 => ?_)
              try dsimp only
              have gW_13 := mg_18 (mg_smg (mg_smg (mg_refl h0) hz_26.1) hz_24.1) eW_13
              refine cg_neg (by decide) ?_
              refine cg_bn (t_X7_enters u0 W_13 z_24.1 (p2 - p2 / 100 * 100) z_26.1 gW_13.1 (by omega) (by omega) (by omega) (by omega) (mg_roomA (hz_18.resolve_left (by omega)) (fun _ _ _ => gW_13.2 _ _))) (fun z_9 hz_9 => ?_)
              refine cg_bn (t_X7_at 0 z_26.1 (by first | omega | decide) (by first | omega | decide) (by first | omega | decide) (by first | omega | decide)) (fun z_10 hz_10 => ?_)
              rw [show (0 : Int32).toInt = 0 by decide] at hz_10
              refine cg_chk (inb_e (add_e hz_10 (by decide : (3 : Int32).toInt = 3) (by omega) (by omega)) (by omega) (by omega)) ?_
              refine cg_chk (inb_e (add_e hz_10 (by decide : (3 : Int32).toInt = 3) (by omega) (by omega)) (by omega) (by omega)) ?_
              refine cg_bv (fun u_11 eu_11 => ?_)
              have gu_11 : mg_G u0 u_11 := by rw [eu_11]; exact (mg_free (r0 := z_26.1.toInt.toNat) (c0 := 3) hz_9 ((add_e hz_10 (by decide : (3 : Int32).toInt = 3) (by omega) (by omega)).trans (by omega)) (by decide) (by decide))
              refine cg_bn (t_X7_at 0 z_26.1 (by first | omega | decide) (by first | omega | decide) (by first | omega | decide) (by first | omega | decide)) (fun z_12 hz_12 => ?_)
              rw [show (0 : Int32).toInt = 0 by decide] at hz_12
              refine cg_chk (inb_e (add_e hz_12 (by decide : (3 : Int32).toInt = 3) (by omega) (by omega)) (by omega) (by omega)) ?_
              exact cg_some (show (mg_G u0 u_11) from gu_11)
theorem t_X7_remove (u0 : S1) (p1 : Int32) (h0 : mg_J u0) : cg_O (f_X7_remove u0 p1) (fun z => (mg_G u0 z.2)) := by
  have lit0 : (0 : Int32).toInt = 0 := by decide
  unfold f_X7_remove
  refine cg_bn (t_X7_isPath p1 ) (fun z_1 hz_1 => ?_)
  refine cg_jn ?_
  refine cg_eq2 (Eq.refl ((z_1) : Int32).toInt) (by decide : (0 : Int32).toInt = 0) (fun h_1 => ?_) (fun h_1 => ?_)
  · refine cg_jn ?_
    refine cg_jn ?_
    refine cg_pos (by decide) ?_
    refine cg_jn ?_
    refine cg_eq2 (Eq.refl ((z_1) : Int32).toInt) (by decide : (0 : Int32).toInt = 0) (fun h_2 => ?_) (fun h_2 => ?_)
    · refine can1_ok (by decide : ¬ (1 : Int32) = 0) (fun W_3 eW_3 => ?_)
      try dsimp only
      have gW_3 := mg_18 (mg_refl h0) eW_3
      refine cg_pos (by decide) ?_
      exact cg_some (show (mg_G u0 W_3) from gW_3.1)
    · exfalso
      omega
  · refine cg_bn (t_X7_walks u0 0 p1 0 ((mg_refl h0)).1 (by first | omega | decide) (by first | omega | decide)) (fun z_22 hz_22 => ?_)
    have hz_22n := hz_22.2
    refine cg_jn ?_
    refine cg_jn ?_
    refine cg_eq2 (Eq.refl ((z_22.1) : Int32).toInt) (by decide : (-1 : Int32).toInt = -1) (fun h_4 => ?_) (fun h_4 => ?_)
    · refine cg_jn ?_
      refine cg_eq2 (Eq.refl ((z_1) : Int32).toInt) (by decide : (0 : Int32).toInt = 0) (fun h_5 => ?_) (fun h_5 => ?_)
      · exfalso
        omega
      · refine cg_eq2 (Eq.refl ((z_22.1) : Int32).toInt) (by decide : (-1 : Int32).toInt = -1) (fun h_6 => ?_) (fun h_6 => ?_)
        · refine can1_ok (by decide : ¬ (2 : Int32) = 0) (fun W_7 eW_7 => ?_)
          try dsimp only
          have gW_7 := mg_18 (mg_smg (mg_refl h0) hz_22.1) eW_7
          refine cg_pos (by decide) ?_
          exact cg_some (show (mg_G u0 W_7) from gW_7.1)
        · exfalso
          omega
    · refine cg_bn (t_X7_kindOf z_22.2 z_22.1 (by first | omega | decide) (by first | omega | decide)) (fun z_14 hz_14 => ?_)
      refine cg_jn ?_
      refine cg_eq2 (Eq.refl ((z_14) : Int32).toInt) (by decide : (1 : Int32).toInt = 1) (fun h_8 => ?_) (fun h_8 => ?_)
      · refine cg_bn (t_X7_entries z_22.2 0 z_22.1 (by first | omega | decide) (by first | omega | decide) (by first | omega | decide) (by first | omega | decide)) (fun z_19 hz_19 => ?_)
        refine cg_eq2 (Eq.refl ((z_19) : Int32).toInt) (by decide : (0 : Int32).toInt = 0) (fun h_9 => ?_) (fun h_9 => ?_)
        · refine cg_bn (t_X7_mayChange z_22.2 (z_22.2 16 0) (by first | omega | decide) (by first | omega | decide)) (fun z_16 hz_16 => ?_)
          refine cg_eq2 (Eq.refl ((z_16) : Int32).toInt) (by decide : (0 : Int32).toInt = 0) (fun h_10 => ?_) (fun h_10 => ?_)
          · refine cg_jn ?_
            refine cg_eq2 (Eq.refl ((z_1) : Int32).toInt) (by decide : (0 : Int32).toInt = 0) (fun h_11 => ?_) (fun h_11 => ?_)
            · exfalso
              omega
            · refine cg_eq2 (Eq.refl ((z_22.1) : Int32).toInt) (by decide : (-1 : Int32).toInt = -1) (fun h_12 => ?_) (fun h_12 => ?_)
              · exfalso
                omega
              · refine cg_pos (by decide) ?_
                refine can1_ok (by decide : ¬ (3 : Int32) = 0) (fun W_13 eW_13 => ?_)
                try dsimp only
                have gW_13 := mg_18 (mg_smg (mg_refl h0) hz_22.1) eW_13
                refine cg_pos (by decide) ?_
                exact cg_some (show (mg_G u0 W_13) from gW_13.1)
          · refine cg_jn ?_
            refine cg_eq2 (Eq.refl ((z_1) : Int32).toInt) (by decide : (0 : Int32).toInt = 0) (fun h_14 => ?_) (fun h_14 => ?_)
            · exfalso
              omega
            · refine cg_eq2 (Eq.refl ((z_22.1) : Int32).toInt) (by decide : (-1 : Int32).toInt = -1) (fun h_15 => ?_) (fun h_15 => ?_)
              · exfalso
                omega
              · refine cg_neg (by decide) ?_
                refine can0_ok (fun W_16 eW_16 => ?_)
                try dsimp only
                have gW_16 := mg_18 (mg_smg (mg_refl h0) hz_22.1) eW_16
                refine cg_neg (by decide) ?_
                refine cg_bn (t_X7_leaves u0 W_16 (z_22.2 16 0) (W_16 17 0) gW_16.1 (by omega) (by omega)) (fun z_7 hz_7 => ?_)
                refine cg_bn (t_X7_loses u0 z_7 z_22.1 hz_7.1 (by omega) (by omega)) (fun z_8 hz_8 => ?_)
                exact cg_some (show (mg_G u0 z_8.2) from hz_8.1)
        · refine cg_jn ?_
          refine cg_eq2 (Eq.refl ((z_1) : Int32).toInt) (by decide : (0 : Int32).toInt = 0) (fun h_17 => ?_) (fun h_17 => ?_)
          · exfalso
            omega
          · refine cg_eq2 (Eq.refl ((z_22.1) : Int32).toInt) (by decide : (-1 : Int32).toInt = -1) (fun h_18 => ?_) (fun h_18 => ?_)
            · exfalso
              omega
            · refine cg_pos (by decide) ?_
              refine can1_ok (by decide : ¬ (3 : Int32) = 0) (fun W_19 eW_19 => ?_)
              try dsimp only
              have gW_19 := mg_18 (mg_smg (mg_refl h0) hz_22.1) eW_19
              refine cg_pos (by decide) ?_
              exact cg_some (show (mg_G u0 W_19) from gW_19.1)
      · refine cg_bn (t_X7_mayChange z_22.2 (z_22.2 16 0) (by first | omega | decide) (by first | omega | decide)) (fun z_16 hz_16 => ?_)
        refine cg_eq2 (Eq.refl ((z_16) : Int32).toInt) (by decide : (0 : Int32).toInt = 0) (fun h_20 => ?_) (fun h_20 => ?_)
        · refine cg_jn ?_
          refine cg_eq2 (Eq.refl ((z_1) : Int32).toInt) (by decide : (0 : Int32).toInt = 0) (fun h_21 => ?_) (fun h_21 => ?_)
          · exfalso
            omega
          · refine cg_eq2 (Eq.refl ((z_22.1) : Int32).toInt) (by decide : (-1 : Int32).toInt = -1) (fun h_22 => ?_) (fun h_22 => ?_)
            · exfalso
              omega
            · refine cg_pos (by decide) ?_
              refine can1_ok (by decide : ¬ (3 : Int32) = 0) (fun W_23 eW_23 => ?_)
              try dsimp only
              have gW_23 := mg_18 (mg_smg (mg_refl h0) hz_22.1) eW_23
              refine cg_pos (by decide) ?_
              exact cg_some (show (mg_G u0 W_23) from gW_23.1)
        · refine cg_jn ?_
          refine cg_eq2 (Eq.refl ((z_1) : Int32).toInt) (by decide : (0 : Int32).toInt = 0) (fun h_24 => ?_) (fun h_24 => ?_)
          · exfalso
            omega
          · refine cg_eq2 (Eq.refl ((z_22.1) : Int32).toInt) (by decide : (-1 : Int32).toInt = -1) (fun h_25 => ?_) (fun h_25 => ?_)
            · exfalso
              omega
            · refine cg_neg (by decide) ?_
              refine can0_ok (fun W_26 eW_26 => ?_)
              try dsimp only
              have gW_26 := mg_18 (mg_smg (mg_refl h0) hz_22.1) eW_26
              refine cg_neg (by decide) ?_
              refine cg_bn (t_X7_leaves u0 W_26 (z_22.2 16 0) (W_26 17 0) gW_26.1 (by omega) (by omega)) (fun z_7 hz_7 => ?_)
              refine cg_bn (t_X7_loses u0 z_7 z_22.1 hz_7.1 (by omega) (by omega)) (fun z_8 hz_8 => ?_)
              exact cg_some (show (mg_G u0 z_8.2) from hz_8.1)
theorem t_X7_rename (u0 : S1) (p1 : Int32) (p2 : Int32) (h0 : mg_J u0) : cg_O (f_X7_rename u0 p1 p2) (fun z => (mg_G u0 z.2)) := by
  have lit0 : (0 : Int32).toInt = 0 := by decide
  unfold f_X7_rename
  refine cg_bn (t_X7_isPath p1 ) (fun z_1 hz_1 => ?_)
  refine cg_jn ?_
  refine cg_jn ?_
  refine cg_eq2 (Eq.refl ((z_1) : Int32).toInt) (by decide : (0 : Int32).toInt = 0) (fun h_1 => ?_) (fun h_1 => ?_)
  · refine cg_jn ?_
    refine cg_pos (by decide) ?_
    refine cg_jn ?_
    refine cg_pos (by decide) ?_
    refine cg_jn ?_
    refine cg_jn ?_
    refine cg_pos (by decide) ?_
    refine cg_jn ?_
    refine cg_pos (by decide) ?_
    refine cg_jn ?_
    refine cg_pos (by decide) ?_
    refine can1_ok (by decide : ¬ (1 : Int32) = 0) (fun W_2 eW_2 => ?_)
    try dsimp only
    have gW_2 := mg_18 (mg_refl h0) eW_2
    refine cg_pos (by decide) ?_
    exact cg_some (show (mg_G u0 W_2) from gW_2.1)
  · refine cg_bn (t_X7_isPath p2 ) (fun z_35 hz_35 => ?_)
    refine cg_eq2 (Eq.refl ((z_35) : Int32).toInt) (by decide : (0 : Int32).toInt = 0) (fun h_3 => ?_) (fun h_3 => ?_)
    · refine cg_jn ?_
      refine cg_pos (by decide) ?_
      refine cg_jn ?_
      refine cg_pos (by decide) ?_
      refine cg_jn ?_
      refine cg_jn ?_
      refine cg_pos (by decide) ?_
      refine cg_jn ?_
      refine cg_pos (by decide) ?_
      refine cg_jn ?_
      refine cg_pos (by decide) ?_
      refine can1_ok (by decide : ¬ (1 : Int32) = 0) (fun W_4 eW_4 => ?_)
      try dsimp only
      have gW_4 := mg_18 (mg_refl h0) eW_4
      refine cg_pos (by decide) ?_
      exact cg_some (show (mg_G u0 W_4) from gW_4.1)
    · refine cg_jn ?_
      refine cg_neg (by decide) ?_
      refine cg_bn (t_X7_walks u0 0 p1 0 ((mg_refl h0)).1 (by first | omega | decide) (by first | omega | decide)) (fun z_32 hz_32 => ?_)
      have hz_32n := hz_32.2
      refine cg_jn ?_
      refine cg_neg (by decide) ?_
      refine cg_bn (t_X7_folderOf z_32.2 p2 ((mg_smg (mg_refl h0) hz_32.1)).1) (fun z_30 hz_30 => ?_)
      have hz_30n := hz_30.2
      refine cg_jn ?_
      refine cg_jn ?_
      refine cg_eq2 (Eq.refl ((z_32.1) : Int32).toInt) (by decide : (-1 : Int32).toInt = -1) (fun h_5 => ?_) (fun h_5 => ?_)
      · refine cg_jn ?_
        refine cg_pos (by decide) ?_
        refine cg_jn ?_
        refine cg_neg (by decide) ?_
        refine cg_pos (by decide) ?_
        refine can1_ok (by decide : ¬ (2 : Int32) = 0) (fun W_6 eW_6 => ?_)
        try dsimp only
        have gW_6 := mg_18 (mg_smg (mg_smg (mg_refl h0) hz_32.1) hz_30.1) eW_6
        refine cg_pos (by decide) ?_
        exact cg_some (show (mg_G u0 W_6) from gW_6.1)
      · refine cg_eq2 (Eq.refl ((z_30.1) : Int32).toInt) (by decide : (-1 : Int32).toInt = -1) (fun h_7 => ?_) (fun h_7 => ?_)
        · refine cg_jn ?_
          refine cg_pos (by decide) ?_
          refine cg_jn ?_
          refine cg_neg (by decide) ?_
          refine cg_pos (by decide) ?_
          refine can1_ok (by decide : ¬ (2 : Int32) = 0) (fun W_8 eW_8 => ?_)
          try dsimp only
          have gW_8 := mg_18 (mg_smg (mg_smg (mg_refl h0) hz_32.1) hz_30.1) eW_8
          refine cg_pos (by decide) ?_
          exact cg_some (show (mg_G u0 W_8) from gW_8.1)
        · refine cg_jn ?_
          refine cg_neg (by decide) ?_
          refine cg_bne (t_X7_entryOf z_30.2 0 z_30.1 (p2 - p2 / 100 * 100) ((mg_smg (mg_smg (mg_refl h0) hz_32.1) hz_30.1)).1 (by first | omega | decide) (by first | omega | decide) (by first | omega | decide) (by first | omega | decide)) (fun z_25 hez_25 hz_25 => ?_)
          refine cg_jn ?_
          refine cg_neg (by decide) ?_
          refine cg_neg (by decide) ?_
          refine cg_jn ?_
          refine cg_eq2 (Eq.refl ((z_25) : Int32).toInt) (Eq.refl ((z_32.1) : Int32).toInt) (fun h_9 => ?_) (fun h_9 => ?_)
          · refine can0_ok (fun W_10 eW_10 => ?_)
            try dsimp only
            have gW_10 := mg_18 (mg_smg (mg_smg (mg_refl h0) hz_32.1) hz_30.1) eW_10
            refine cg_neg (by decide) ?_
            refine cg_jn ?_
            refine cg_eq2 (Eq.refl ((z_25) : Int32).toInt) (Eq.refl ((z_32.1) : Int32).toInt) (fun h_11 => ?_) (fun h_11 => ?_)
            · exact cg_some (show (mg_G u0 W_10) from gW_10.1)
            · exfalso
              omega
          · refine cg_bn (t_X7_canTake z_30.2 z_32.1 z_30.1 (p2 - p2 / 100 * 100) (z_32.2 16 0) ((mg_smg (mg_smg (mg_refl h0) hz_32.1) hz_30.1)).1 (by first | omega | decide) (by first | omega | decide) (by first | omega | decide) (by first | omega | decide) (by first | omega | decide) (by first | omega | decide)) (fun z_22 hz_22 => ?_)
            refine cg_eq2 (Eq.refl ((z_22) : Int32).toInt) (by decide : (0 : Int32).toInt = 0) (fun h_12 => ?_) (fun h_12 => ?_)
            · refine can1_ok (by decide : ¬ (3 : Int32) = 0) (fun W_13 eW_13 => ?_)
              try dsimp only
              have gW_13 := mg_18 (mg_smg (mg_smg (mg_refl h0) hz_32.1) hz_30.1) eW_13
              refine cg_pos (by decide) ?_
              exact cg_some (show (mg_G u0 W_13) from gW_13.1)
            · refine can0_ok (fun W_14 eW_14 => ?_)
              try dsimp only
              have gW_14 := mg_18 (mg_smg (mg_smg (mg_refl h0) hz_32.1) hz_30.1) eW_14
              refine cg_neg (by decide) ?_
              refine cg_jn ?_
              refine cg_eq2 (Eq.refl ((z_25) : Int32).toInt) (Eq.refl ((z_32.1) : Int32).toInt) (fun h_15 => ?_) (fun h_15 => ?_)
              · exfalso
                omega
              · refine cg_bn (t_X7_leaves u0 W_14 (z_32.2 16 0) (z_32.2 17 0) gW_14.1 (by omega) (by omega)) (fun z_12 hz_12 => ?_)
                refine cg_jn ?_
                refine cg_eq2 (Eq.refl ((z_25) : Int32).toInt) (by decide : (-1 : Int32).toInt = -1) (fun h_16 => ?_) (fun h_16 => ?_)
                · refine cg_bn (t_X7_enters u0 z_12 z_30.1 (p2 - p2 / 100 * 100) z_32.1 hz_12.1 (by omega) (by omega) (by omega) (by omega) (mg_rroom gW_14.2 hz_12.2 ((hz_22.resolve_left (by omega)) (by rw [hez_25, show z_25 = -1 from Int32.toInt_inj.mp (by rw [mg_n1]; omega)])) (by omega) (by omega))) (fun z_14 hz_14 => ?_)
                  exact cg_some (show (mg_G u0 z_14) from hz_14)
                · refine cg_bn (t_X7_leaves u0 z_12 z_30.1 (p2 - p2 / 100 * 100) hz_12.1 (by omega) (by omega)) (fun z_16 hz_16 => ?_)
                  refine cg_bn (t_X7_loses u0 z_16 z_25 hz_16.1 (by omega) (by omega)) (fun z_17 hz_17 => ?_)
                  refine cg_bn (t_X7_enters u0 z_17.2 z_30.1 (p2 - p2 / 100 * 100) z_32.1 hz_17.1 (by omega) (by omega) (by omega) (by omega) (mg_roomA hz_16.2.1 (fun c q1 q2 => hz_17.2 _ c (by omega) (by omega)))) (fun z_14 hz_14 => ?_)
                  exact cg_some (show (mg_G u0 z_14) from hz_14)
theorem t_X7_open (u0 : S1) (p1 : Int32) (p2 : Int32) (h0 : mg_J u0) : cg_O (f_X7_open u0 p1 p2) (fun z => (mg_G u0 z.2)) := by
  have lit0 : (0 : Int32).toInt = 0 := by decide
  unfold f_X7_open
  refine cg_bn (t_X7_isIn p1 0 99999999 ) (fun z_1 hz_1 => ?_)
  rw [show (0 : Int32).toInt = 0 by decide] at hz_1
  rw [show (99999999 : Int32).toInt = 99999999 by decide] at hz_1
  refine cg_jn ?_
  refine cg_eq2 (Eq.refl ((z_1) : Int32).toInt) (by decide : (0 : Int32).toInt = 0) (fun h_1 => ?_) (fun h_1 => ?_)
  · refine cg_jn ?_
    refine cg_jn ?_
    refine cg_pos (by decide) ?_
    refine cg_jn ?_
    refine cg_eq2 (Eq.refl ((z_1) : Int32).toInt) (by decide : (0 : Int32).toInt = 0) (fun h_2 => ?_) (fun h_2 => ?_)
    · refine can1_ok (by decide : ¬ (1 : Int32) = 0) (fun W_3 eW_3 => ?_)
      try dsimp only
      have gW_3 := mg_18 (mg_refl h0) eW_3
      have nW_3 : (W_3 9 0).toInt = (u0 9 0).toInt := by rw [eW_3]; rfl
      refine cg_pos (by decide) ?_
      exact cg_some (show (mg_G u0 W_3) from gW_3.1)
    · exfalso
      omega
  · refine cg_bn (t_X7_walks u0 0 p1 1 ((mg_refl h0)).1 (by first | omega | decide) (by first | omega | decide)) (fun z_24 hz_24 => ?_)
    have hz_24n := hz_24.2
    refine cg_jn ?_
    refine cg_jn ?_
    refine cg_eq2 (Eq.refl ((z_24.1) : Int32).toInt) (by decide : (-1 : Int32).toInt = -1) (fun h_4 => ?_) (fun h_4 => ?_)
    · refine cg_jn ?_
      refine cg_eq2 (Eq.refl ((z_1) : Int32).toInt) (by decide : (0 : Int32).toInt = 0) (fun h_5 => ?_) (fun h_5 => ?_)
      · exfalso
        omega
      · refine cg_eq2 (Eq.refl ((z_24.1) : Int32).toInt) (by decide : (-1 : Int32).toInt = -1) (fun h_6 => ?_) (fun h_6 => ?_)
        · refine can1_ok (by decide : ¬ (2 : Int32) = 0) (fun W_7 eW_7 => ?_)
          try dsimp only
          have gW_7 := mg_18 (mg_smg (mg_refl h0) hz_24.1) eW_7
          have nW_7 : (W_7 9 0).toInt = (z_24.2 9 0).toInt := by rw [eW_7]; rfl
          refine cg_pos (by decide) ?_
          exact cg_some (show (mg_G u0 W_7) from gW_7.1)
        · exfalso
          omega
    · refine cg_bn (t_X7_kindOf z_24.2 z_24.1 (by first | omega | decide) (by first | omega | decide)) (fun z_16 hz_16 => ?_)
      refine cg_eq2 (Eq.refl ((z_16) : Int32).toInt) (by decide : (0 : Int32).toInt = 0) (fun h_8 => ?_) (fun h_8 => ?_)
      · refine cg_jn ?_
        refine cg_eq2 (Eq.refl ((p2) : Int32).toInt) (by decide : (0 : Int32).toInt = 0) (fun h_9 => ?_) (fun h_9 => ?_)
        · refine cg_bn (t_X7_may z_24.2 z_24.1 2 (by first | omega | decide) (by first | omega | decide)) (fun z_19 hz_19 => ?_)
          refine cg_eq2 (Eq.refl ((z_19) : Int32).toInt) (by decide : (0 : Int32).toInt = 0) (fun h_10 => ?_) (fun h_10 => ?_)
          · refine cg_jn ?_
            refine cg_eq2 (Eq.refl ((z_1) : Int32).toInt) (by decide : (0 : Int32).toInt = 0) (fun h_11 => ?_) (fun h_11 => ?_)
            · exfalso
              omega
            · refine cg_eq2 (Eq.refl ((z_24.1) : Int32).toInt) (by decide : (-1 : Int32).toInt = -1) (fun h_12 => ?_) (fun h_12 => ?_)
              · exfalso
                omega
              · refine cg_pos (by decide) ?_
                refine can1_ok (by decide : ¬ (3 : Int32) = 0) (fun W_13 eW_13 => ?_)
                try dsimp only
                have gW_13 := mg_18 (mg_smg (mg_refl h0) hz_24.1) eW_13
                have nW_13 : (W_13 9 0).toInt = (z_24.2 9 0).toInt := by rw [eW_13]; rfl
                refine cg_pos (by decide) ?_
                exact cg_some (show (mg_G u0 W_13) from gW_13.1)
          · have b_15 := mg_jn z_24.2 ((mg_smg (mg_refl h0) hz_24.1)).1
            refine cg_le2 (by decide : (30 : Int32).toInt = 30) (Eq.refl ((z_24.2 9 0) : Int32).toInt) (fun h_14 => ?_) (fun h_14 => ?_)
            · refine cg_jn ?_
              refine cg_eq2 (Eq.refl ((z_1) : Int32).toInt) (by decide : (0 : Int32).toInt = 0) (fun h_16 => ?_) (fun h_16 => ?_)
              · exfalso
                omega
              · refine cg_eq2 (Eq.refl ((z_24.1) : Int32).toInt) (by decide : (-1 : Int32).toInt = -1) (fun h_17 => ?_) (fun h_17 => ?_)
                · exfalso
                  omega
                · refine cg_pos (by decide) ?_
                  refine can1_ok (by decide : ¬ (3 : Int32) = 0) (fun W_18 eW_18 => ?_)
                  try dsimp only
                  have gW_18 := mg_18 (mg_smg (mg_refl h0) hz_24.1) eW_18
                  have nW_18 : (W_18 9 0).toInt = (z_24.2 9 0).toInt := by rw [eW_18]; rfl
                  refine cg_pos (by decide) ?_
                  exact cg_some (show (mg_G u0 W_18) from gW_18.1)
            · refine cg_jn ?_
              refine cg_eq2 (Eq.refl ((z_1) : Int32).toInt) (by decide : (0 : Int32).toInt = 0) (fun h_19 => ?_) (fun h_19 => ?_)
              · exfalso
                omega
              · refine cg_eq2 (Eq.refl ((z_24.1) : Int32).toInt) (by decide : (-1 : Int32).toInt = -1) (fun h_20 => ?_) (fun h_20 => ?_)
                · exfalso
                  omega
                · refine cg_neg (by decide) ?_
                  refine can0_ok (fun W_21 eW_21 => ?_)
                  try dsimp only
                  have gW_21 := mg_18 (mg_smg (mg_refl h0) hz_24.1) eW_21
                  have nW_21 : (W_21 9 0).toInt = (z_24.2 9 0).toInt := by rw [eW_21]; rfl
                  refine cg_neg (by decide) ?_
                  have b_22 := mg_jn W_21 (gW_21.1).1
                  refine cg_chk (inb_e (Eq.refl (W_21 9 0).toInt) (by omega) (by omega)) ?_
                  exact mg_open gW_21.1 (by omega) (by omega) (by omega) (by rw [gW_21.2]; omega)
        · refine cg_bn (t_X7_may z_24.2 z_24.1 3 (by first | omega | decide) (by first | omega | decide)) (fun z_19 hz_19 => ?_)
          refine cg_eq2 (Eq.refl ((z_19) : Int32).toInt) (by decide : (0 : Int32).toInt = 0) (fun h_23 => ?_) (fun h_23 => ?_)
          · refine cg_jn ?_
            refine cg_eq2 (Eq.refl ((z_1) : Int32).toInt) (by decide : (0 : Int32).toInt = 0) (fun h_24 => ?_) (fun h_24 => ?_)
            · exfalso
              omega
            · refine cg_eq2 (Eq.refl ((z_24.1) : Int32).toInt) (by decide : (-1 : Int32).toInt = -1) (fun h_25 => ?_) (fun h_25 => ?_)
              · exfalso
                omega
              · refine cg_pos (by decide) ?_
                refine can1_ok (by decide : ¬ (3 : Int32) = 0) (fun W_26 eW_26 => ?_)
                try dsimp only
                have gW_26 := mg_18 (mg_smg (mg_refl h0) hz_24.1) eW_26
                have nW_26 : (W_26 9 0).toInt = (z_24.2 9 0).toInt := by rw [eW_26]; rfl
                refine cg_pos (by decide) ?_
                exact cg_some (show (mg_G u0 W_26) from gW_26.1)
          · have b_28 := mg_jn z_24.2 ((mg_smg (mg_refl h0) hz_24.1)).1
            refine cg_le2 (by decide : (30 : Int32).toInt = 30) (Eq.refl ((z_24.2 9 0) : Int32).toInt) (fun h_27 => ?_) (fun h_27 => ?_)
            · refine cg_jn ?_
              refine cg_eq2 (Eq.refl ((z_1) : Int32).toInt) (by decide : (0 : Int32).toInt = 0) (fun h_29 => ?_) (fun h_29 => ?_)
              · exfalso
                omega
              · refine cg_eq2 (Eq.refl ((z_24.1) : Int32).toInt) (by decide : (-1 : Int32).toInt = -1) (fun h_30 => ?_) (fun h_30 => ?_)
                · exfalso
                  omega
                · refine cg_pos (by decide) ?_
                  refine can1_ok (by decide : ¬ (3 : Int32) = 0) (fun W_31 eW_31 => ?_)
                  try dsimp only
                  have gW_31 := mg_18 (mg_smg (mg_refl h0) hz_24.1) eW_31
                  have nW_31 : (W_31 9 0).toInt = (z_24.2 9 0).toInt := by rw [eW_31]; rfl
                  refine cg_pos (by decide) ?_
                  exact cg_some (show (mg_G u0 W_31) from gW_31.1)
            · refine cg_jn ?_
              refine cg_eq2 (Eq.refl ((z_1) : Int32).toInt) (by decide : (0 : Int32).toInt = 0) (fun h_32 => ?_) (fun h_32 => ?_)
              · exfalso
                omega
              · refine cg_eq2 (Eq.refl ((z_24.1) : Int32).toInt) (by decide : (-1 : Int32).toInt = -1) (fun h_33 => ?_) (fun h_33 => ?_)
                · exfalso
                  omega
                · refine cg_neg (by decide) ?_
                  refine can0_ok (fun W_34 eW_34 => ?_)
                  try dsimp only
                  have gW_34 := mg_18 (mg_smg (mg_refl h0) hz_24.1) eW_34
                  have nW_34 : (W_34 9 0).toInt = (z_24.2 9 0).toInt := by rw [eW_34]; rfl
                  refine cg_neg (by decide) ?_
                  have b_35 := mg_jn W_34 (gW_34.1).1
                  refine cg_chk (inb_e (Eq.refl (W_34 9 0).toInt) (by omega) (by omega)) ?_
                  exact mg_open gW_34.1 (by omega) (by omega) (by omega) (by rw [gW_34.2]; omega)
      · refine cg_jn ?_
        refine cg_eq2 (Eq.refl ((z_1) : Int32).toInt) (by decide : (0 : Int32).toInt = 0) (fun h_36 => ?_) (fun h_36 => ?_)
        · exfalso
          omega
        · refine cg_eq2 (Eq.refl ((z_24.1) : Int32).toInt) (by decide : (-1 : Int32).toInt = -1) (fun h_37 => ?_) (fun h_37 => ?_)
          · exfalso
            omega
          · refine cg_pos (by decide) ?_
            refine can1_ok (by decide : ¬ (3 : Int32) = 0) (fun W_38 eW_38 => ?_)
            try dsimp only
            have gW_38 := mg_18 (mg_smg (mg_refl h0) hz_24.1) eW_38
            have nW_38 : (W_38 9 0).toInt = (z_24.2 9 0).toInt := by rw [eW_38]; rfl
            refine cg_pos (by decide) ?_
            exact cg_some (show (mg_G u0 W_38) from gW_38.1)
