theorem S0_ok {L : Nat} (hL : L ≤ 2560) (xs : Nat → Int32) (r23 : Int32 → S2 → S1 → (Nat → Int64) → Option Int32) (y : Int32) (hy0 : 0 ≤ y.toInt) (hy : y.toInt + 5 ≤ (L : Int)) {U : S2} {V : S1} (h : mg_R U V) (g : Nat → Int64) (hrec : ∀ U V g, mg_R U V → cg_O (r23 (y + 5) U V g) (fun z => z = 1)) : cg_O (law_B0 L xs r23 y U V g) (fun z => z = 1) := by
  unfold law_B0
  have e1 : (y + 1).toInt = y.toInt + 1 := add_e (Eq.refl _) (by decide : (1 : Int32).toInt = 1) (by omega) (by omega)
  have e2 : (y + 2).toInt = y.toInt + 2 := add_e (Eq.refl _) (by decide : (2 : Int32).toInt = 2) (by omega) (by omega)
  have e3 : (y + 3).toInt = y.toInt + 3 := add_e (Eq.refl _) (by decide : (3 : Int32).toInt = 3) (by omega) (by omega)
  have e4 : (y + 4).toInt = y.toInt + 4 := add_e (Eq.refl _) (by decide : (4 : Int32).toInt = 4) (by omega) (by omega)
  refine cg_chk (inb_e e1 (by omega) (by omega)) ?_
  obtain ⟨zl, zm, el, em, hR, hk, hl⟩ := sp_user h g (xs (y + 1).toNatClampNeg)
  refine cg_eqn el ?_
  refine cg_chk (inb_e e1 (by omega) (by omega)) ?_
  refine cg_eqn em ?_
  exact hrec _ _ _ hR
theorem S1_ok {L : Nat} (hL : L ≤ 2560) (xs : Nat → Int32) (r23 : Int32 → S2 → S1 → (Nat → Int64) → Option Int32) (y : Int32) (hy0 : 0 ≤ y.toInt) (hy : y.toInt + 5 ≤ (L : Int)) {U : S2} {V : S1} (h : mg_R U V) (g : Nat → Int64) (hrec : ∀ U V g, mg_R U V → cg_O (r23 (y + 5) U V g) (fun z => z = 1)) : cg_O (law_B1 L xs r23 y U V g) (fun z => z = 1) := by
  unfold law_B1
  have e1 : (y + 1).toInt = y.toInt + 1 := add_e (Eq.refl _) (by decide : (1 : Int32).toInt = 1) (by omega) (by omega)
  have e2 : (y + 2).toInt = y.toInt + 2 := add_e (Eq.refl _) (by decide : (2 : Int32).toInt = 2) (by omega) (by omega)
  have e3 : (y + 3).toInt = y.toInt + 3 := add_e (Eq.refl _) (by decide : (3 : Int32).toInt = 3) (by omega) (by omega)
  have e4 : (y + 4).toInt = y.toInt + 4 := add_e (Eq.refl _) (by decide : (4 : Int32).toInt = 4) (by omega) (by omega)
  refine cg_chk (inb_e e1 (by omega) (by omega)) ?_
  refine cg_chk (inb_e e2 (by omega) (by omega)) ?_
  refine cg_bn (t_L_file U g (xs (y + 1).toNatClampNeg) (xs (y + 2).toNatClampNeg) h.1) (fun z_43 hz_43 => ?_)
  refine cg_chk (inb_e e1 (by omega) (by omega)) ?_
  refine cg_chk (inb_e e2 (by omega) (by omega)) ?_
  refine cg_bn (t_X7_file V (xs (y + 1).toNatClampNeg) (xs (y + 2).toNatClampNeg) h.2.1) (fun z_44 hz_44 => ?_)
  exact hrec _ _ _ (mg_keep h hz_43 hz_44)
theorem S2_ok {L : Nat} (hL : L ≤ 2560) (xs : Nat → Int32) (r23 : Int32 → S2 → S1 → (Nat → Int64) → Option Int32) (y : Int32) (hy0 : 0 ≤ y.toInt) (hy : y.toInt + 5 ≤ (L : Int)) {U : S2} {V : S1} (h : mg_R U V) (g : Nat → Int64) (hrec : ∀ U V g, mg_R U V → cg_O (r23 (y + 5) U V g) (fun z => z = 1)) : cg_O (law_B2 L xs r23 y U V g) (fun z => z = 1) := by
  unfold law_B2
  have e1 : (y + 1).toInt = y.toInt + 1 := add_e (Eq.refl _) (by decide : (1 : Int32).toInt = 1) (by omega) (by omega)
  have e2 : (y + 2).toInt = y.toInt + 2 := add_e (Eq.refl _) (by decide : (2 : Int32).toInt = 2) (by omega) (by omega)
  have e3 : (y + 3).toInt = y.toInt + 3 := add_e (Eq.refl _) (by decide : (3 : Int32).toInt = 3) (by omega) (by omega)
  have e4 : (y + 4).toInt = y.toInt + 4 := add_e (Eq.refl _) (by decide : (4 : Int32).toInt = 4) (by omega) (by omega)
  refine cg_chk (inb_e e1 (by omega) (by omega)) ?_
  refine cg_chk (inb_e e2 (by omega) (by omega)) ?_
  refine cg_bn (t_L_folder U g (xs (y + 1).toNatClampNeg) (xs (y + 2).toNatClampNeg) h.1) (fun z_45 hz_45 => ?_)
  refine cg_chk (inb_e e1 (by omega) (by omega)) ?_
  refine cg_chk (inb_e e2 (by omega) (by omega)) ?_
  refine cg_bn (t_X7_folder V (xs (y + 1).toNatClampNeg) (xs (y + 2).toNatClampNeg) h.2.1) (fun z_46 hz_46 => ?_)
  exact hrec _ _ _ (mg_keep h hz_45 hz_46)
theorem S3_ok {L : Nat} (hL : L ≤ 2560) (xs : Nat → Int32) (r23 : Int32 → S2 → S1 → (Nat → Int64) → Option Int32) (y : Int32) (hy0 : 0 ≤ y.toInt) (hy : y.toInt + 5 ≤ (L : Int)) {U : S2} {V : S1} (h : mg_R U V) (g : Nat → Int64) (hrec : ∀ U V g, mg_R U V → cg_O (r23 (y + 5) U V g) (fun z => z = 1)) : cg_O (law_B3 L xs r23 y U V g) (fun z => z = 1) := by
  unfold law_B3
  have e1 : (y + 1).toInt = y.toInt + 1 := add_e (Eq.refl _) (by decide : (1 : Int32).toInt = 1) (by omega) (by omega)
  have e2 : (y + 2).toInt = y.toInt + 2 := add_e (Eq.refl _) (by decide : (2 : Int32).toInt = 2) (by omega) (by omega)
  have e3 : (y + 3).toInt = y.toInt + 3 := add_e (Eq.refl _) (by decide : (3 : Int32).toInt = 3) (by omega) (by omega)
  have e4 : (y + 4).toInt = y.toInt + 4 := add_e (Eq.refl _) (by decide : (4 : Int32).toInt = 4) (by omega) (by omega)
  refine cg_chk (inb_e e1 (by omega) (by omega)) ?_
  refine cg_chk (inb_e e2 (by omega) (by omega)) ?_
  refine cg_bn (t_L_link U g (xs (y + 1).toNatClampNeg) (xs (y + 2).toNatClampNeg) h.1) (fun z_47 hz_47 => ?_)
  refine cg_chk (inb_e e1 (by omega) (by omega)) ?_
  refine cg_chk (inb_e e2 (by omega) (by omega)) ?_
  refine cg_bn (t_X7_link V (xs (y + 1).toNatClampNeg) (xs (y + 2).toNatClampNeg) h.2.1) (fun z_48 hz_48 => ?_)
  exact hrec _ _ _ (mg_keep h hz_47 hz_48)
theorem S4_ok {L : Nat} (hL : L ≤ 2560) (xs : Nat → Int32) (r23 : Int32 → S2 → S1 → (Nat → Int64) → Option Int32) (y : Int32) (hy0 : 0 ≤ y.toInt) (hy : y.toInt + 5 ≤ (L : Int)) {U : S2} {V : S1} (h : mg_R U V) (g : Nat → Int64) (hrec : ∀ U V g, mg_R U V → cg_O (r23 (y + 5) U V g) (fun z => z = 1)) : cg_O (law_B4 L xs r23 y U V g) (fun z => z = 1) := by
  unfold law_B4
  have e1 : (y + 1).toInt = y.toInt + 1 := add_e (Eq.refl _) (by decide : (1 : Int32).toInt = 1) (by omega) (by omega)
  have e2 : (y + 2).toInt = y.toInt + 2 := add_e (Eq.refl _) (by decide : (2 : Int32).toInt = 2) (by omega) (by omega)
  have e3 : (y + 3).toInt = y.toInt + 3 := add_e (Eq.refl _) (by decide : (3 : Int32).toInt = 3) (by omega) (by omega)
  have e4 : (y + 4).toInt = y.toInt + 4 := add_e (Eq.refl _) (by decide : (4 : Int32).toInt = 4) (by omega) (by omega)
  refine cg_chk (inb_e e1 (by omega) (by omega)) ?_
  refine cg_chk (inb_e e2 (by omega) (by omega)) ?_
  refine cg_bn (t_L_hard U g (xs (y + 1).toNatClampNeg) (xs (y + 2).toNatClampNeg) h.1) (fun z_49 hz_49 => ?_)
  refine cg_chk (inb_e e1 (by omega) (by omega)) ?_
  refine cg_chk (inb_e e2 (by omega) (by omega)) ?_
  refine cg_bn (t_X7_hard V (xs (y + 1).toNatClampNeg) (xs (y + 2).toNatClampNeg) h.2.1) (fun z_50 hz_50 => ?_)
  exact hrec _ _ _ (mg_keep h hz_49 hz_50)
theorem S5_ok {L : Nat} (hL : L ≤ 2560) (xs : Nat → Int32) (r23 : Int32 → S2 → S1 → (Nat → Int64) → Option Int32) (y : Int32) (hy0 : 0 ≤ y.toInt) (hy : y.toInt + 5 ≤ (L : Int)) {U : S2} {V : S1} (h : mg_R U V) (g : Nat → Int64) (hrec : ∀ U V g, mg_R U V → cg_O (r23 (y + 5) U V g) (fun z => z = 1)) : cg_O (law_B5 L xs r23 y U V g) (fun z => z = 1) := by
  unfold law_B5
  have e1 : (y + 1).toInt = y.toInt + 1 := add_e (Eq.refl _) (by decide : (1 : Int32).toInt = 1) (by omega) (by omega)
  have e2 : (y + 2).toInt = y.toInt + 2 := add_e (Eq.refl _) (by decide : (2 : Int32).toInt = 2) (by omega) (by omega)
  have e3 : (y + 3).toInt = y.toInt + 3 := add_e (Eq.refl _) (by decide : (3 : Int32).toInt = 3) (by omega) (by omega)
  have e4 : (y + 4).toInt = y.toInt + 4 := add_e (Eq.refl _) (by decide : (4 : Int32).toInt = 4) (by omega) (by omega)
  refine cg_chk (inb_e e1 (by omega) (by omega)) ?_
  refine cg_chk (inb_e e2 (by omega) (by omega)) ?_
  refine cg_bn (t_L_rename U g (xs (y + 1).toNatClampNeg) (xs (y + 2).toNatClampNeg) h.1) (fun z_51 hz_51 => ?_)
  refine cg_chk (inb_e e1 (by omega) (by omega)) ?_
  refine cg_chk (inb_e e2 (by omega) (by omega)) ?_
  refine cg_bn (t_X7_rename V (xs (y + 1).toNatClampNeg) (xs (y + 2).toNatClampNeg) h.2.1) (fun z_52 hz_52 => ?_)
  exact hrec _ _ _ (mg_keep h hz_51 hz_52)
theorem S6_ok {L : Nat} (hL : L ≤ 2560) (xs : Nat → Int32) (r23 : Int32 → S2 → S1 → (Nat → Int64) → Option Int32) (y : Int32) (hy0 : 0 ≤ y.toInt) (hy : y.toInt + 5 ≤ (L : Int)) {U : S2} {V : S1} (h : mg_R U V) (g : Nat → Int64) (hrec : ∀ U V g, mg_R U V → cg_O (r23 (y + 5) U V g) (fun z => z = 1)) : cg_O (law_B6 L xs r23 y U V g) (fun z => z = 1) := by
  unfold law_B6
  have e1 : (y + 1).toInt = y.toInt + 1 := add_e (Eq.refl _) (by decide : (1 : Int32).toInt = 1) (by omega) (by omega)
  have e2 : (y + 2).toInt = y.toInt + 2 := add_e (Eq.refl _) (by decide : (2 : Int32).toInt = 2) (by omega) (by omega)
  have e3 : (y + 3).toInt = y.toInt + 3 := add_e (Eq.refl _) (by decide : (3 : Int32).toInt = 3) (by omega) (by omega)
  have e4 : (y + 4).toInt = y.toInt + 4 := add_e (Eq.refl _) (by decide : (4 : Int32).toInt = 4) (by omega) (by omega)
  refine cg_chk (inb_e e1 (by omega) (by omega)) ?_
  refine cg_bn (t_L_remove U g (xs (y + 1).toNatClampNeg) h.1) (fun z_53 hz_53 => ?_)
  refine cg_chk (inb_e e1 (by omega) (by omega)) ?_
  refine cg_bn (t_X7_remove V (xs (y + 1).toNatClampNeg) h.2.1) (fun z_54 hz_54 => ?_)
  exact hrec _ _ _ (mg_keep h hz_53 hz_54)
theorem S7_ok {L : Nat} (hL : L ≤ 2560) (xs : Nat → Int32) (r23 : Int32 → S2 → S1 → (Nat → Int64) → Option Int32) (y : Int32) (hy0 : 0 ≤ y.toInt) (hy : y.toInt + 5 ≤ (L : Int)) {U : S2} {V : S1} (h : mg_R U V) (g : Nat → Int64) (hrec : ∀ U V g, mg_R U V → cg_O (r23 (y + 5) U V g) (fun z => z = 1)) : cg_O (law_B7 L xs r23 y U V g) (fun z => z = 1) := by
  unfold law_B7
  have e1 : (y + 1).toInt = y.toInt + 1 := add_e (Eq.refl _) (by decide : (1 : Int32).toInt = 1) (by omega) (by omega)
  have e2 : (y + 2).toInt = y.toInt + 2 := add_e (Eq.refl _) (by decide : (2 : Int32).toInt = 2) (by omega) (by omega)
  have e3 : (y + 3).toInt = y.toInt + 3 := add_e (Eq.refl _) (by decide : (3 : Int32).toInt = 3) (by omega) (by omega)
  have e4 : (y + 4).toInt = y.toInt + 4 := add_e (Eq.refl _) (by decide : (4 : Int32).toInt = 4) (by omega) (by omega)
  refine cg_chk (inb_e e1 (by omega) (by omega)) ?_
  refine cg_chk (inb_e e2 (by omega) (by omega)) ?_
  refine cg_bn (t_L_rights U g (xs (y + 1).toNatClampNeg) (xs (y + 2).toNatClampNeg) h.1) (fun z_55 hz_55 => ?_)
  refine cg_chk (inb_e e1 (by omega) (by omega)) ?_
  refine cg_chk (inb_e e2 (by omega) (by omega)) ?_
  refine cg_bn (t_X7_rights V (xs (y + 1).toNatClampNeg) (xs (y + 2).toNatClampNeg) h.2.1) (fun z_56 hz_56 => ?_)
  exact hrec _ _ _ (mg_keep h hz_55 hz_56)
theorem S8_ok {L : Nat} (hL : L ≤ 2560) (xs : Nat → Int32) (r23 : Int32 → S2 → S1 → (Nat → Int64) → Option Int32) (y : Int32) (hy0 : 0 ≤ y.toInt) (hy : y.toInt + 5 ≤ (L : Int)) {U : S2} {V : S1} (h : mg_R U V) (g : Nat → Int64) (hrec : ∀ U V g, mg_R U V → cg_O (r23 (y + 5) U V g) (fun z => z = 1)) : cg_O (law_B8 L xs r23 y U V g) (fun z => z = 1) := by
  unfold law_B8
  have e1 : (y + 1).toInt = y.toInt + 1 := add_e (Eq.refl _) (by decide : (1 : Int32).toInt = 1) (by omega) (by omega)
  have e2 : (y + 2).toInt = y.toInt + 2 := add_e (Eq.refl _) (by decide : (2 : Int32).toInt = 2) (by omega) (by omega)
  have e3 : (y + 3).toInt = y.toInt + 3 := add_e (Eq.refl _) (by decide : (3 : Int32).toInt = 3) (by omega) (by omega)
  have e4 : (y + 4).toInt = y.toInt + 4 := add_e (Eq.refl _) (by decide : (4 : Int32).toInt = 4) (by omega) (by omega)
  refine cg_chk (inb_e e1 (by omega) (by omega)) ?_
  refine cg_chk (inb_e e2 (by omega) (by omega)) ?_
  refine cg_bn (t_L_own U g (xs (y + 1).toNatClampNeg) (xs (y + 2).toNatClampNeg) h.1) (fun z_57 hz_57 => ?_)
  refine cg_chk (inb_e e1 (by omega) (by omega)) ?_
  refine cg_chk (inb_e e2 (by omega) (by omega)) ?_
  refine cg_bn (t_X7_own V (xs (y + 1).toNatClampNeg) (xs (y + 2).toNatClampNeg) h.2.1) (fun z_58 hz_58 => ?_)
  exact hrec _ _ _ (mg_keep h hz_57 hz_58)
theorem S9_ok {L : Nat} (hL : L ≤ 2560) (xs : Nat → Int32) (r23 : Int32 → S2 → S1 → (Nat → Int64) → Option Int32) (y : Int32) (hy0 : 0 ≤ y.toInt) (hy : y.toInt + 5 ≤ (L : Int)) {U : S2} {V : S1} (h : mg_R U V) (g : Nat → Int64) (hrec : ∀ U V g, mg_R U V → cg_O (r23 (y + 5) U V g) (fun z => z = 1)) : cg_O (law_B9 L xs r23 y U V g) (fun z => z = 1) := by
  unfold law_B9
  have e1 : (y + 1).toInt = y.toInt + 1 := add_e (Eq.refl _) (by decide : (1 : Int32).toInt = 1) (by omega) (by omega)
  have e2 : (y + 2).toInt = y.toInt + 2 := add_e (Eq.refl _) (by decide : (2 : Int32).toInt = 2) (by omega) (by omega)
  have e3 : (y + 3).toInt = y.toInt + 3 := add_e (Eq.refl _) (by decide : (3 : Int32).toInt = 3) (by omega) (by omega)
  have e4 : (y + 4).toInt = y.toInt + 4 := add_e (Eq.refl _) (by decide : (4 : Int32).toInt = 4) (by omega) (by omega)
  refine cg_chk (inb_e e1 (by omega) (by omega)) ?_
  refine cg_chk (inb_e e2 (by omega) (by omega)) ?_
  refine cg_i (fun hb => ?_) (fun hb => ?_)
  · refine cg_bn (t_L_look U g (xs (y + 1).toNatClampNeg) 0 h.1) (fun z_60 hz_60 => ?_)
    refine cg_chk (inb_e e1 (by omega) (by omega)) ?_
    refine cg_chk (inb_e e2 (by omega) (by omega)) ?_
    refine cg_pos hb ?_
    refine cg_bn (t_X7_look V (xs (y + 1).toNatClampNeg) 0 h.2.1) (fun z_62 hz_62 => ?_)
    exact hrec _ _ _ (mg_keep h hz_60 hz_62)
  · refine cg_bn (t_L_look U g (xs (y + 1).toNatClampNeg) 1 h.1) (fun z_64 hz_64 => ?_)
    refine cg_chk (inb_e e1 (by omega) (by omega)) ?_
    refine cg_chk (inb_e e2 (by omega) (by omega)) ?_
    refine cg_neg hb ?_
    refine cg_bn (t_X7_look V (xs (y + 1).toNatClampNeg) 1 h.2.1) (fun z_67 hz_67 => ?_)
    exact hrec _ _ _ (mg_keep h hz_64 hz_67)
theorem S10_ok {L : Nat} (hL : L ≤ 2560) (xs : Nat → Int32) (r23 : Int32 → S2 → S1 → (Nat → Int64) → Option Int32) (y : Int32) (hy0 : 0 ≤ y.toInt) (hy : y.toInt + 5 ≤ (L : Int)) {U : S2} {V : S1} (h : mg_R U V) (g : Nat → Int64) (hrec : ∀ U V g, mg_R U V → cg_O (r23 (y + 5) U V g) (fun z => z = 1)) : cg_O (law_B10 L xs r23 y U V g) (fun z => z = 1) := by
  unfold law_B10
  have e1 : (y + 1).toInt = y.toInt + 1 := add_e (Eq.refl _) (by decide : (1 : Int32).toInt = 1) (by omega) (by omega)
  have e2 : (y + 2).toInt = y.toInt + 2 := add_e (Eq.refl _) (by decide : (2 : Int32).toInt = 2) (by omega) (by omega)
  have e3 : (y + 3).toInt = y.toInt + 3 := add_e (Eq.refl _) (by decide : (3 : Int32).toInt = 3) (by omega) (by omega)
  have e4 : (y + 4).toInt = y.toInt + 4 := add_e (Eq.refl _) (by decide : (4 : Int32).toInt = 4) (by omega) (by omega)
  refine cg_chk (inb_e e1 (by omega) (by omega)) ?_
  refine cg_chk (inb_e e2 (by omega) (by omega)) ?_
  refine cg_i (fun hb => ?_) (fun hb => ?_)
  · refine cg_bn (t_L_open U g (xs (y + 1).toNatClampNeg) 0 h.1) (fun z_69 hz_69 => ?_)
    refine cg_chk (inb_e e1 (by omega) (by omega)) ?_
    refine cg_chk (inb_e e2 (by omega) (by omega)) ?_
    refine cg_pos hb ?_
    refine cg_bn (t_X7_open V (xs (y + 1).toNatClampNeg) 0 h.2.1) (fun z_71 hz_71 => ?_)
    exact hrec _ _ _ (mg_keep h hz_69 hz_71)
  · refine cg_bn (t_L_open U g (xs (y + 1).toNatClampNeg) 1 h.1) (fun z_73 hz_73 => ?_)
    refine cg_chk (inb_e e1 (by omega) (by omega)) ?_
    refine cg_chk (inb_e e2 (by omega) (by omega)) ?_
    refine cg_neg hb ?_
    refine cg_bn (t_X7_open V (xs (y + 1).toNatClampNeg) 1 h.2.1) (fun z_76 hz_76 => ?_)
    exact hrec _ _ _ (mg_keep h hz_73 hz_76)
theorem S11_ok {L : Nat} (hL : L ≤ 2560) (xs : Nat → Int32) (r23 : Int32 → S2 → S1 → (Nat → Int64) → Option Int32) (y : Int32) (hy0 : 0 ≤ y.toInt) (hy : y.toInt + 5 ≤ (L : Int)) {U : S2} {V : S1} (h : mg_R U V) (g : Nat → Int64) (hrec : ∀ U V g, mg_R U V → cg_O (r23 (y + 5) U V g) (fun z => z = 1)) : cg_O (law_B11 L xs r23 y U V g) (fun z => z = 1) := by
  unfold law_B11
  have e1 : (y + 1).toInt = y.toInt + 1 := add_e (Eq.refl _) (by decide : (1 : Int32).toInt = 1) (by omega) (by omega)
  have e2 : (y + 2).toInt = y.toInt + 2 := add_e (Eq.refl _) (by decide : (2 : Int32).toInt = 2) (by omega) (by omega)
  have e3 : (y + 3).toInt = y.toInt + 3 := add_e (Eq.refl _) (by decide : (3 : Int32).toInt = 3) (by omega) (by omega)
  have e4 : (y + 4).toInt = y.toInt + 4 := add_e (Eq.refl _) (by decide : (4 : Int32).toInt = 4) (by omega) (by omega)
  refine cg_chk (inb_e e1 (by omega) (by omega)) ?_
  refine cg_bn (t_L_close U g (xs (y + 1).toNatClampNeg) h.1) (fun z_77 hz_77 => ?_)
  refine cg_chk (inb_e e1 (by omega) (by omega)) ?_
  refine cg_bn (t_X7_close V (xs (y + 1).toNatClampNeg) h.2.1) (fun z_78 hz_78 => ?_)
  exact hrec _ _ _ (mg_keep h hz_77 hz_78)
theorem S12_ok {L : Nat} (hL : L ≤ 2560) (xs : Nat → Int32) (r23 : Int32 → S2 → S1 → (Nat → Int64) → Option Int32) (y : Int32) (hy0 : 0 ≤ y.toInt) (hy : y.toInt + 5 ≤ (L : Int)) {U : S2} {V : S1} (h : mg_R U V) (g : Nat → Int64) (hrec : ∀ U V g, mg_R U V → cg_O (r23 (y + 5) U V g) (fun z => z = 1)) : cg_O (law_B12 L xs r23 y U V g) (fun z => z = 1) := by
  unfold law_B12
  have e1 : (y + 1).toInt = y.toInt + 1 := add_e (Eq.refl _) (by decide : (1 : Int32).toInt = 1) (by omega) (by omega)
  have e2 : (y + 2).toInt = y.toInt + 2 := add_e (Eq.refl _) (by decide : (2 : Int32).toInt = 2) (by omega) (by omega)
  have e3 : (y + 3).toInt = y.toInt + 3 := add_e (Eq.refl _) (by decide : (3 : Int32).toInt = 3) (by omega) (by omega)
  have e4 : (y + 4).toInt = y.toInt + 4 := add_e (Eq.refl _) (by decide : (4 : Int32).toInt = 4) (by omega) (by omega)
  refine cg_chk (inb_e e1 (by omega) (by omega)) ?_
  refine cg_chk (inb_e e2 (by omega) (by omega)) ?_
  refine cg_chk (inb_e e3 (by omega) (by omega)) ?_
  refine cg_bn (t_L_write U g (xs (y + 1).toNatClampNeg) (xs (y + 2).toNatClampNeg) (xs (y + 3).toNatClampNeg) h.1) (fun z_79 hz_79 => ?_)
  refine cg_chk (inb_e e1 (by omega) (by omega)) ?_
  refine cg_chk (inb_e e2 (by omega) (by omega)) ?_
  refine cg_chk (inb_e e3 (by omega) (by omega)) ?_
  refine cg_bn (t_X7_write V (xs (y + 1).toNatClampNeg) (xs (y + 2).toNatClampNeg) (xs (y + 3).toNatClampNeg) h.2.1) (fun z_80 hz_80 => ?_)
  exact hrec _ _ _ (mg_keep h hz_79 hz_80)
theorem S13_ok {L : Nat} (hL : L ≤ 2560) (xs : Nat → Int32) (r23 : Int32 → S2 → S1 → (Nat → Int64) → Option Int32) (y : Int32) (hy0 : 0 ≤ y.toInt) (hy : y.toInt + 5 ≤ (L : Int)) {U : S2} {V : S1} (h : mg_R U V) (g : Nat → Int64) (hrec : ∀ U V g, mg_R U V → cg_O (r23 (y + 5) U V g) (fun z => z = 1)) : cg_O (law_B13 L xs r23 y U V g) (fun z => z = 1) := by
  unfold law_B13
  have e1 : (y + 1).toInt = y.toInt + 1 := add_e (Eq.refl _) (by decide : (1 : Int32).toInt = 1) (by omega) (by omega)
  have e2 : (y + 2).toInt = y.toInt + 2 := add_e (Eq.refl _) (by decide : (2 : Int32).toInt = 2) (by omega) (by omega)
  have e3 : (y + 3).toInt = y.toInt + 3 := add_e (Eq.refl _) (by decide : (3 : Int32).toInt = 3) (by omega) (by omega)
  have e4 : (y + 4).toInt = y.toInt + 4 := add_e (Eq.refl _) (by decide : (4 : Int32).toInt = 4) (by omega) (by omega)
  refine cg_chk (inb_e e1 (by omega) (by omega)) ?_
  refine cg_chk (inb_e e2 (by omega) (by omega)) ?_
  refine cg_bn (t_L_read U g (xs (y + 1).toNatClampNeg) (xs (y + 2).toNatClampNeg) h.1) (fun z_81 hz_81 => ?_)
  refine cg_chk (inb_e e1 (by omega) (by omega)) ?_
  refine cg_chk (inb_e e2 (by omega) (by omega)) ?_
  refine cg_bn (t_X7_read V (xs (y + 1).toNatClampNeg) (xs (y + 2).toNatClampNeg) h.2.1) (fun z_82 hz_82 => ?_)
  exact hrec _ _ _ (mg_keep h hz_81 hz_82)
theorem S14_ok {L : Nat} (hL : L ≤ 2560) (xs : Nat → Int32) (r23 : Int32 → S2 → S1 → (Nat → Int64) → Option Int32) (y : Int32) (hy0 : 0 ≤ y.toInt) (hy : y.toInt + 5 ≤ (L : Int)) {U : S2} {V : S1} (h : mg_R U V) (g : Nat → Int64) (hrec : ∀ U V g, mg_R U V → cg_O (r23 (y + 5) U V g) (fun z => z = 1)) : cg_O (law_B14 L xs r23 y U V g) (fun z => z = 1) := by
  unfold law_B14
  have e1 : (y + 1).toInt = y.toInt + 1 := add_e (Eq.refl _) (by decide : (1 : Int32).toInt = 1) (by omega) (by omega)
  have e2 : (y + 2).toInt = y.toInt + 2 := add_e (Eq.refl _) (by decide : (2 : Int32).toInt = 2) (by omega) (by omega)
  have e3 : (y + 3).toInt = y.toInt + 3 := add_e (Eq.refl _) (by decide : (3 : Int32).toInt = 3) (by omega) (by omega)
  have e4 : (y + 4).toInt = y.toInt + 4 := add_e (Eq.refl _) (by decide : (4 : Int32).toInt = 4) (by omega) (by omega)
  refine cg_chk (inb_e e1 (by omega) (by omega)) ?_
  refine cg_chk (inb_e e2 (by omega) (by omega)) ?_
  refine cg_chk (inb_e e3 (by omega) (by omega)) ?_
  refine cg_bn (t_L_ahead U g (xs (y + 1).toNatClampNeg) (xs (y + 2).toNatClampNeg) (xs (y + 3).toNatClampNeg) h.1) (fun z_83 hz_83 => ?_)
  refine cg_chk (inb_e e1 (by omega) (by omega)) ?_
  refine cg_chk (inb_e e2 (by omega) (by omega)) ?_
  refine cg_chk (inb_e e3 (by omega) (by omega)) ?_
  refine cg_bn (t_X7_ahead V (xs (y + 1).toNatClampNeg) (xs (y + 2).toNatClampNeg) (xs (y + 3).toNatClampNeg) h.2.1) (fun z_84 hz_84 => ?_)
  exact hrec _ _ _ (mg_keep h hz_83 hz_84)
theorem S15_ok {L : Nat} (hL : L ≤ 2560) (xs : Nat → Int32) (r23 : Int32 → S2 → S1 → (Nat → Int64) → Option Int32) (y : Int32) (hy0 : 0 ≤ y.toInt) (hy : y.toInt + 5 ≤ (L : Int)) {U : S2} {V : S1} (h : mg_R U V) (g : Nat → Int64) (hrec : ∀ U V g, mg_R U V → cg_O (r23 (y + 5) U V g) (fun z => z = 1)) : cg_O (law_B15 L xs r23 y U V g) (fun z => z = 1) := by
  unfold law_B15
  have e1 : (y + 1).toInt = y.toInt + 1 := add_e (Eq.refl _) (by decide : (1 : Int32).toInt = 1) (by omega) (by omega)
  have e2 : (y + 2).toInt = y.toInt + 2 := add_e (Eq.refl _) (by decide : (2 : Int32).toInt = 2) (by omega) (by omega)
  have e3 : (y + 3).toInt = y.toInt + 3 := add_e (Eq.refl _) (by decide : (3 : Int32).toInt = 3) (by omega) (by omega)
  have e4 : (y + 4).toInt = y.toInt + 4 := add_e (Eq.refl _) (by decide : (4 : Int32).toInt = 4) (by omega) (by omega)
  refine cg_chk (inb_e e1 (by omega) (by omega)) ?_
  refine cg_chk (inb_e e2 (by omega) (by omega)) ?_
  refine cg_bn (t_L_cut U g (xs (y + 1).toNatClampNeg) (xs (y + 2).toNatClampNeg) h.1) (fun z_85 hz_85 => ?_)
  refine cg_chk (inb_e e1 (by omega) (by omega)) ?_
  refine cg_chk (inb_e e2 (by omega) (by omega)) ?_
  refine cg_bn (t_X7_cut V (xs (y + 1).toNatClampNeg) (xs (y + 2).toNatClampNeg) h.2.1) (fun z_86 hz_86 => ?_)
  exact hrec _ _ _ (mg_keep h hz_85 hz_86)
theorem S16_ok {L : Nat} (hL : L ≤ 2560) (xs : Nat → Int32) (r23 : Int32 → S2 → S1 → (Nat → Int64) → Option Int32) (y : Int32) (hy0 : 0 ≤ y.toInt) (hy : y.toInt + 5 ≤ (L : Int)) {U : S2} {V : S1} (h : mg_R U V) (g : Nat → Int64) (hrec : ∀ U V g, mg_R U V → cg_O (r23 (y + 5) U V g) (fun z => z = 1)) : cg_O (law_B16 L xs r23 y U V g) (fun z => z = 1) := by
  unfold law_B16
  have e1 : (y + 1).toInt = y.toInt + 1 := add_e (Eq.refl _) (by decide : (1 : Int32).toInt = 1) (by omega) (by omega)
  have e2 : (y + 2).toInt = y.toInt + 2 := add_e (Eq.refl _) (by decide : (2 : Int32).toInt = 2) (by omega) (by omega)
  have e3 : (y + 3).toInt = y.toInt + 3 := add_e (Eq.refl _) (by decide : (3 : Int32).toInt = 3) (by omega) (by omega)
  have e4 : (y + 4).toInt = y.toInt + 4 := add_e (Eq.refl _) (by decide : (4 : Int32).toInt = 4) (by omega) (by omega)
  refine cg_chk (inb_e e1 (by omega) (by omega)) ?_
  refine cg_chk (inb_e e2 (by omega) (by omega)) ?_
  refine cg_chk (inb_e e3 (by omega) (by omega)) ?_
  refine cg_chk (inb_e e4 (by omega) (by omega)) ?_
  refine cg_i (fun hb => ?_) (fun hb => ?_)
  · refine cg_bn (t_L_lock U g (xs (y + 1).toNatClampNeg) (xs (y + 2).toNatClampNeg) (xs (y + 3).toNatClampNeg) 0 h.1) (fun z_88 hz_88 => ?_)
    refine cg_chk (inb_e e1 (by omega) (by omega)) ?_
    refine cg_chk (inb_e e2 (by omega) (by omega)) ?_
    refine cg_chk (inb_e e3 (by omega) (by omega)) ?_
    refine cg_chk (inb_e e4 (by omega) (by omega)) ?_
    refine cg_pos hb ?_
    refine cg_bn (t_X7_lock V (xs (y + 1).toNatClampNeg) (xs (y + 2).toNatClampNeg) (xs (y + 3).toNatClampNeg) 0 h.2.1) (fun z_90 hz_90 => ?_)
    exact hrec _ _ _ (mg_keep h hz_88 hz_90)
  · refine cg_bn (t_L_lock U g (xs (y + 1).toNatClampNeg) (xs (y + 2).toNatClampNeg) (xs (y + 3).toNatClampNeg) 1 h.1) (fun z_92 hz_92 => ?_)
    refine cg_chk (inb_e e1 (by omega) (by omega)) ?_
    refine cg_chk (inb_e e2 (by omega) (by omega)) ?_
    refine cg_chk (inb_e e3 (by omega) (by omega)) ?_
    refine cg_chk (inb_e e4 (by omega) (by omega)) ?_
    refine cg_neg hb ?_
    refine cg_bn (t_X7_lock V (xs (y + 1).toNatClampNeg) (xs (y + 2).toNatClampNeg) (xs (y + 3).toNatClampNeg) 1 h.2.1) (fun z_95 hz_95 => ?_)
    exact hrec _ _ _ (mg_keep h hz_92 hz_95)
theorem S17_ok {L : Nat} (hL : L ≤ 2560) (xs : Nat → Int32) (r23 : Int32 → S2 → S1 → (Nat → Int64) → Option Int32) (y : Int32) (hy0 : 0 ≤ y.toInt) (hy : y.toInt + 5 ≤ (L : Int)) {U : S2} {V : S1} (h : mg_R U V) (g : Nat → Int64) (hrec : ∀ U V g, mg_R U V → cg_O (r23 (y + 5) U V g) (fun z => z = 1)) : cg_O (law_B17 L xs r23 y U V g) (fun z => z = 1) := by
  unfold law_B17
  have e1 : (y + 1).toInt = y.toInt + 1 := add_e (Eq.refl _) (by decide : (1 : Int32).toInt = 1) (by omega) (by omega)
  have e2 : (y + 2).toInt = y.toInt + 2 := add_e (Eq.refl _) (by decide : (2 : Int32).toInt = 2) (by omega) (by omega)
  have e3 : (y + 3).toInt = y.toInt + 3 := add_e (Eq.refl _) (by decide : (3 : Int32).toInt = 3) (by omega) (by omega)
  have e4 : (y + 4).toInt = y.toInt + 4 := add_e (Eq.refl _) (by decide : (4 : Int32).toInt = 4) (by omega) (by omega)
  refine cg_chk (inb_e e1 (by omega) (by omega)) ?_
  refine cg_chk (inb_e e2 (by omega) (by omega)) ?_
  refine cg_chk (inb_e e3 (by omega) (by omega)) ?_
  refine cg_bn (t_L_unlock U g (xs (y + 1).toNatClampNeg) (xs (y + 2).toNatClampNeg) (xs (y + 3).toNatClampNeg) h.1) (fun z_96 hz_96 => ?_)
  refine cg_chk (inb_e e1 (by omega) (by omega)) ?_
  refine cg_chk (inb_e e2 (by omega) (by omega)) ?_
  refine cg_chk (inb_e e3 (by omega) (by omega)) ?_
  refine cg_bn (t_X7_unlock V (xs (y + 1).toNatClampNeg) (xs (y + 2).toNatClampNeg) (xs (y + 3).toNatClampNeg) h.2.1) (fun z_97 hz_97 => ?_)
  exact hrec _ _ _ (mg_keep h hz_96 hz_97)
theorem S18_ok {L : Nat} (hL : L ≤ 2560) (xs : Nat → Int32) (r23 : Int32 → S2 → S1 → (Nat → Int64) → Option Int32) (y : Int32) (hy0 : 0 ≤ y.toInt) (hy : y.toInt + 5 ≤ (L : Int)) {U : S2} {V : S1} (h : mg_R U V) (g : Nat → Int64) (hrec : ∀ U V g, mg_R U V → cg_O (r23 (y + 5) U V g) (fun z => z = 1)) : cg_O (law_B18 L xs r23 y U V g) (fun z => z = 1) := by
  unfold law_B18
  have e1 : (y + 1).toInt = y.toInt + 1 := add_e (Eq.refl _) (by decide : (1 : Int32).toInt = 1) (by omega) (by omega)
  have e2 : (y + 2).toInt = y.toInt + 2 := add_e (Eq.refl _) (by decide : (2 : Int32).toInt = 2) (by omega) (by omega)
  have e3 : (y + 3).toInt = y.toInt + 3 := add_e (Eq.refl _) (by decide : (3 : Int32).toInt = 3) (by omega) (by omega)
  have e4 : (y + 4).toInt = y.toInt + 4 := add_e (Eq.refl _) (by decide : (4 : Int32).toInt = 4) (by omega) (by omega)
  refine cg_chk (inb_e e1 (by omega) (by omega)) ?_
  refine cg_chk (inb_e e2 (by omega) (by omega)) ?_
  refine cg_bn (t_L_lockOf U g (xs (y + 1).toNatClampNeg) (xs (y + 2).toNatClampNeg) h.1) (fun z_98 hz_98 => ?_)
  refine cg_chk (inb_e e1 (by omega) (by omega)) ?_
  refine cg_chk (inb_e e2 (by omega) (by omega)) ?_
  refine cg_bn (t_X7_lockOf V (xs (y + 1).toNatClampNeg) (xs (y + 2).toNatClampNeg) h.2.1) (fun z_99 hz_99 => ?_)
  exact hrec _ _ _ (mg_keep h hz_98 hz_99)
theorem S19_ok {L : Nat} (hL : L ≤ 2560) (xs : Nat → Int32) (r23 : Int32 → S2 → S1 → (Nat → Int64) → Option Int32) (y : Int32) (hy0 : 0 ≤ y.toInt) (hy : y.toInt + 5 ≤ (L : Int)) {U : S2} {V : S1} (h : mg_R U V) (g : Nat → Int64) (hrec : ∀ U V g, mg_R U V → cg_O (r23 (y + 5) U V g) (fun z => z = 1)) : cg_O (law_B19 L xs r23 y U V g) (fun z => z = 1) := by
  unfold law_B19
  have e1 : (y + 1).toInt = y.toInt + 1 := add_e (Eq.refl _) (by decide : (1 : Int32).toInt = 1) (by omega) (by omega)
  have e2 : (y + 2).toInt = y.toInt + 2 := add_e (Eq.refl _) (by decide : (2 : Int32).toInt = 2) (by omega) (by omega)
  have e3 : (y + 3).toInt = y.toInt + 3 := add_e (Eq.refl _) (by decide : (3 : Int32).toInt = 3) (by omega) (by omega)
  have e4 : (y + 4).toInt = y.toInt + 4 := add_e (Eq.refl _) (by decide : (4 : Int32).toInt = 4) (by omega) (by omega)
  refine cg_chk (inb_e e1 (by omega) (by omega)) ?_
  refine cg_bn (t_L_flush U g (xs (y + 1).toNatClampNeg) h.1) (fun z_100 hz_100 => ?_)
  refine cg_chk (inb_e e1 (by omega) (by omega)) ?_
  refine cg_bn (t_X7_flush V (xs (y + 1).toNatClampNeg) h.2.1) (fun z_101 hz_101 => ?_)
  exact hrec _ _ _ (mg_keep h hz_100 hz_101)
theorem S20_ok {L : Nat} (hL : L ≤ 2560) (xs : Nat → Int32) (r23 : Int32 → S2 → S1 → (Nat → Int64) → Option Int32) (y : Int32) (hy0 : 0 ≤ y.toInt) (hy : y.toInt + 5 ≤ (L : Int)) {U : S2} {V : S1} (h : mg_R U V) (g : Nat → Int64) (hrec : ∀ U V g, mg_R U V → cg_O (r23 (y + 5) U V g) (fun z => z = 1)) : cg_O (law_B20 L xs r23 y U V g) (fun z => z = 1) := by
  unfold law_B20
  have e1 : (y + 1).toInt = y.toInt + 1 := add_e (Eq.refl _) (by decide : (1 : Int32).toInt = 1) (by omega) (by omega)
  have e2 : (y + 2).toInt = y.toInt + 2 := add_e (Eq.refl _) (by decide : (2 : Int32).toInt = 2) (by omega) (by omega)
  have e3 : (y + 3).toInt = y.toInt + 3 := add_e (Eq.refl _) (by decide : (3 : Int32).toInt = 3) (by omega) (by omega)
  have e4 : (y + 4).toInt = y.toInt + 4 := add_e (Eq.refl _) (by decide : (4 : Int32).toInt = 4) (by omega) (by omega)
  refine cg_chk (inb_e e1 (by omega) (by omega)) ?_
  refine cg_bn (t_L_sync U g (xs (y + 1).toNatClampNeg) h.1) (fun z_102 hz_102 => ?_)
  refine cg_chk (inb_e e1 (by omega) (by omega)) ?_
  refine cg_bn (t_X7_sync V (xs (y + 1).toNatClampNeg) h.2.1) (fun z_103 hz_103 => ?_)
  exact hrec _ _ _ (mg_keep h hz_102 hz_103)
theorem S21_ok {L : Nat} (hL : L ≤ 2560) (xs : Nat → Int32) (r23 : Int32 → S2 → S1 → (Nat → Int64) → Option Int32) (y : Int32) (hy0 : 0 ≤ y.toInt) (hy : y.toInt + 5 ≤ (L : Int)) {U : S2} {V : S1} (h : mg_R U V) (g : Nat → Int64) (hrec : ∀ U V g, mg_R U V → cg_O (r23 (y + 5) U V g) (fun z => z = 1)) : cg_O (law_B21 L xs r23 y U V g) (fun z => z = 1) := by
  unfold law_B21
  have e1 : (y + 1).toInt = y.toInt + 1 := add_e (Eq.refl _) (by decide : (1 : Int32).toInt = 1) (by omega) (by omega)
  have e2 : (y + 2).toInt = y.toInt + 2 := add_e (Eq.refl _) (by decide : (2 : Int32).toInt = 2) (by omega) (by omega)
  have e3 : (y + 3).toInt = y.toInt + 3 := add_e (Eq.refl _) (by decide : (3 : Int32).toInt = 3) (by omega) (by omega)
  have e4 : (y + 4).toInt = y.toInt + 4 := add_e (Eq.refl _) (by decide : (4 : Int32).toInt = 4) (by omega) (by omega)
  refine cg_bn (t_X6_commit U h.1) (fun z_104 hz_104 => ?_)
  refine cg_bn (t_X7_commit V h.2.1) (fun z_105 hz_105 => ?_)
  exact hrec _ _ _ (mg_keep h hz_104 hz_105)
theorem S22_ok {L : Nat} (hL : L ≤ 2560) (xs : Nat → Int32) (r23 : Int32 → S2 → S1 → (Nat → Int64) → Option Int32) (y : Int32) (hy0 : 0 ≤ y.toInt) (hy : y.toInt + 5 ≤ (L : Int)) {U : S2} {V : S1} (h : mg_R U V) (g : Nat → Int64) (hrec : ∀ U V g, mg_R U V → cg_O (r23 (y + 5) U V g) (fun z => z = 1)) : cg_O (law_B22 L xs r23 y U V g) (fun z => z = 1) := by
  unfold law_B22
  have e1 : (y + 1).toInt = y.toInt + 1 := add_e (Eq.refl _) (by decide : (1 : Int32).toInt = 1) (by omega) (by omega)
  have e2 : (y + 2).toInt = y.toInt + 2 := add_e (Eq.refl _) (by decide : (2 : Int32).toInt = 2) (by omega) (by omega)
  have e3 : (y + 3).toInt = y.toInt + 3 := add_e (Eq.refl _) (by decide : (3 : Int32).toInt = 3) (by omega) (by omega)
  have e4 : (y + 4).toInt = y.toInt + 4 := add_e (Eq.refl _) (by decide : (4 : Int32).toInt = 4) (by omega) (by omega)
  refine cg_bn (t_X6_crash U h.1) (fun z_106 hz_106 => ?_)
  refine cg_bn (t_X7_crash V h.2.1) (fun z_107 hz_107 => ?_)
  exact hrec _ _ _ (mg_keep h hz_106 hz_107)
theorem S23_ok {L : Nat} (hL : L ≤ 2560) (xs : Nat → Int32) (r23 : Int32 → S2 → S1 → (Nat → Int64) → Option Int32) (y : Int32) (hy0 : 0 ≤ y.toInt) (hy : y.toInt + 5 ≤ (L : Int)) {U : S2} {V : S1} (h : mg_R U V) (g : Nat → Int64) (hrec : ∀ U V g, mg_R U V → cg_O (r23 (y + 5) U V g) (fun z => z = 1)) : cg_O (law_B23 L xs r23 y U V g) (fun z => z = 1) := by
  unfold law_B23
  have e1 : (y + 1).toInt = y.toInt + 1 := add_e (Eq.refl _) (by decide : (1 : Int32).toInt = 1) (by omega) (by omega)
  have e2 : (y + 2).toInt = y.toInt + 2 := add_e (Eq.refl _) (by decide : (2 : Int32).toInt = 2) (by omega) (by omega)
  have e3 : (y + 3).toInt = y.toInt + 3 := add_e (Eq.refl _) (by decide : (3 : Int32).toInt = 3) (by omega) (by omega)
  have e4 : (y + 4).toInt = y.toInt + 4 := add_e (Eq.refl _) (by decide : (4 : Int32).toInt = 4) (by omega) (by omega)
  obtain ⟨zl, zm, el, em, hR, hk, hl⟩ := sp_snapshot h g
  refine cg_eqn el ?_
  refine cg_eqn em ?_
  exact hrec _ _ _ hR
theorem S24_ok {L : Nat} (hL : L ≤ 2560) (xs : Nat → Int32) (r23 : Int32 → S2 → S1 → (Nat → Int64) → Option Int32) (y : Int32) (hy0 : 0 ≤ y.toInt) (hy : y.toInt + 5 ≤ (L : Int)) {U : S2} {V : S1} (h : mg_R U V) (g : Nat → Int64) (hrec : ∀ U V g, mg_R U V → cg_O (r23 (y + 5) U V g) (fun z => z = 1)) : cg_O (law_B24 L xs r23 y U V g) (fun z => z = 1) := by
  unfold law_B24
  have e1 : (y + 1).toInt = y.toInt + 1 := add_e (Eq.refl _) (by decide : (1 : Int32).toInt = 1) (by omega) (by omega)
  have e2 : (y + 2).toInt = y.toInt + 2 := add_e (Eq.refl _) (by decide : (2 : Int32).toInt = 2) (by omega) (by omega)
  have e3 : (y + 3).toInt = y.toInt + 3 := add_e (Eq.refl _) (by decide : (3 : Int32).toInt = 3) (by omega) (by omega)
  have e4 : (y + 4).toInt = y.toInt + 4 := add_e (Eq.refl _) (by decide : (4 : Int32).toInt = 4) (by omega) (by omega)
  refine cg_chk (inb_e e1 (by omega) (by omega)) ?_
  obtain ⟨zl, zm, el, em, hR⟩ := sp_drop h g (xs (y + 1).toNatClampNeg)
  refine cg_eqn el ?_
  refine cg_chk (inb_e e1 (by omega) (by omega)) ?_
  refine cg_eqn em ?_
  exact hrec _ _ _ hR
theorem S25_ok {L : Nat} (hL : L ≤ 2560) (xs : Nat → Int32) (r23 : Int32 → S2 → S1 → (Nat → Int64) → Option Int32) (y : Int32) (hy0 : 0 ≤ y.toInt) (hy : y.toInt + 5 ≤ (L : Int)) {U : S2} {V : S1} (h : mg_R U V) (g : Nat → Int64) (hrec : ∀ U V g, mg_R U V → cg_O (r23 (y + 5) U V g) (fun z => z = 1)) : cg_O (law_B25 L xs r23 y U V g) (fun z => z = 1) := by
  unfold law_B25
  have e1 : (y + 1).toInt = y.toInt + 1 := add_e (Eq.refl _) (by decide : (1 : Int32).toInt = 1) (by omega) (by omega)
  have e2 : (y + 2).toInt = y.toInt + 2 := add_e (Eq.refl _) (by decide : (2 : Int32).toInt = 2) (by omega) (by omega)
  have e3 : (y + 3).toInt = y.toInt + 3 := add_e (Eq.refl _) (by decide : (3 : Int32).toInt = 3) (by omega) (by omega)
  have e4 : (y + 4).toInt = y.toInt + 4 := add_e (Eq.refl _) (by decide : (4 : Int32).toInt = 4) (by omega) (by omega)
  refine cg_chk (inb_e e1 (by omega) (by omega)) ?_
  refine cg_chk (inb_e e2 (by omega) (by omega)) ?_
  refine cg_chk (inb_e e3 (by omega) (by omega)) ?_
  refine cg_bn (t_L_readOld U g (xs (y + 1).toNatClampNeg) (xs (y + 2).toNatClampNeg) (xs (y + 3).toNatClampNeg) h.1) (fun z_112 hz_112 => ?_)
  refine cg_chk (inb_e e1 (by omega) (by omega)) ?_
  refine cg_chk (inb_e e2 (by omega) (by omega)) ?_
  refine cg_chk (inb_e e3 (by omega) (by omega)) ?_
  refine cg_bn (t_X7_readOld V (xs (y + 1).toNatClampNeg) (xs (y + 2).toNatClampNeg) (xs (y + 3).toNatClampNeg) h.2.1) (fun z_113 hz_113 => ?_)
  exact hrec _ _ _ (mg_keep h hz_112 hz_113)
theorem S26_ok {L : Nat} (hL : L ≤ 2560) (xs : Nat → Int32) (r23 : Int32 → S2 → S1 → (Nat → Int64) → Option Int32) (y : Int32) (hy0 : 0 ≤ y.toInt) (hy : y.toInt + 5 ≤ (L : Int)) {U : S2} {V : S1} (h : mg_R U V) (g : Nat → Int64) (hrec : ∀ U V g, mg_R U V → cg_O (r23 (y + 5) U V g) (fun z => z = 1)) : cg_O (law_B26 L xs r23 y U V g) (fun z => z = 1) := by
  unfold law_B26
  have e1 : (y + 1).toInt = y.toInt + 1 := add_e (Eq.refl _) (by decide : (1 : Int32).toInt = 1) (by omega) (by omega)
  have e2 : (y + 2).toInt = y.toInt + 2 := add_e (Eq.refl _) (by decide : (2 : Int32).toInt = 2) (by omega) (by omega)
  have e3 : (y + 3).toInt = y.toInt + 3 := add_e (Eq.refl _) (by decide : (3 : Int32).toInt = 3) (by omega) (by omega)
  have e4 : (y + 4).toInt = y.toInt + 4 := add_e (Eq.refl _) (by decide : (4 : Int32).toInt = 4) (by omega) (by omega)
  refine cg_chk (inb_e e1 (by omega) (by omega)) ?_
  refine cg_chk (inb_e e2 (by omega) (by omega)) ?_
  obtain ⟨zl, zm, el, em, hR, hk, hl⟩ := sp_quota h g (xs (y + 1).toNatClampNeg) (xs (y + 2).toNatClampNeg)
  refine cg_eqn el ?_
  refine cg_chk (inb_e e1 (by omega) (by omega)) ?_
  refine cg_chk (inb_e e2 (by omega) (by omega)) ?_
  refine cg_eqn em ?_
  exact hrec _ _ _ hR
theorem S27_ok {L : Nat} (hL : L ≤ 2560) (xs : Nat → Int32) (r23 : Int32 → S2 → S1 → (Nat → Int64) → Option Int32) (y : Int32) (hy0 : 0 ≤ y.toInt) (hy : y.toInt + 5 ≤ (L : Int)) {U : S2} {V : S1} (h : mg_R U V) (g : Nat → Int64) (hrec : ∀ U V g, mg_R U V → cg_O (r23 (y + 5) U V g) (fun z => z = 1)) : cg_O (law_B27 L xs r23 y U V g) (fun z => z = 1) := by
  unfold law_B27
  have e1 : (y + 1).toInt = y.toInt + 1 := add_e (Eq.refl _) (by decide : (1 : Int32).toInt = 1) (by omega) (by omega)
  have e2 : (y + 2).toInt = y.toInt + 2 := add_e (Eq.refl _) (by decide : (2 : Int32).toInt = 2) (by omega) (by omega)
  have e3 : (y + 3).toInt = y.toInt + 3 := add_e (Eq.refl _) (by decide : (3 : Int32).toInt = 3) (by omega) (by omega)
  have e4 : (y + 4).toInt = y.toInt + 4 := add_e (Eq.refl _) (by decide : (4 : Int32).toInt = 4) (by omega) (by omega)
  refine cg_chk (inb_e e1 (by omega) (by omega)) ?_
  refine cg_chk (inb_e e2 (by omega) (by omega)) ?_
  refine cg_i (fun hb => ?_) (fun hb => ?_)
  · obtain ⟨zl, zm, el, em, hR, hk, hl⟩ := sp_bad h g (xs (y + 1).toNatClampNeg) 0 (Or.inl rfl)
    refine cg_eqn el ?_
    refine cg_chk (inb_e e1 (by omega) (by omega)) ?_
    refine cg_chk (inb_e e2 (by omega) (by omega)) ?_
    refine cg_pos hb ?_
    refine cg_eqn em ?_
    refine cg_eqn (show f_X7_thrown zm.2 = some (zm.2 18 0) from rfl) ?_
    refine cg_pos hk ?_
    refine cg_i (fun h0 => ?_) (fun _ => ?_)
    · refine cg_i (fun hq => ?_) (fun hq => ?_)
      · refine cg_pos ((hl h0).1 hq) ?_
        exact hrec _ _ _ hR
      · refine cg_pos ((hl h0).2 hq) ?_
        exact hrec _ _ _ hR
    · exact hrec _ _ _ hR
  · obtain ⟨zl, zm, el, em, hR, hk, hl⟩ := sp_bad h g (xs (y + 1).toNatClampNeg) 1 (Or.inr rfl)
    refine cg_eqn el ?_
    refine cg_chk (inb_e e1 (by omega) (by omega)) ?_
    refine cg_chk (inb_e e2 (by omega) (by omega)) ?_
    refine cg_neg hb ?_
    refine cg_eqn em ?_
    refine cg_eqn (show f_X7_thrown zm.2 = some (zm.2 18 0) from rfl) ?_
    refine cg_pos hk ?_
    refine cg_i (fun h0 => ?_) (fun _ => ?_)
    · refine cg_i (fun hq => ?_) (fun hq => ?_)
      · refine cg_pos ((hl h0).1 hq) ?_
        exact hrec _ _ _ hR
      · refine cg_pos ((hl h0).2 hq) ?_
        exact hrec _ _ _ hR
    · exact hrec _ _ _ hR
theorem S28_ok {L : Nat} (hL : L ≤ 2560) (xs : Nat → Int32) (r23 : Int32 → S2 → S1 → (Nat → Int64) → Option Int32) (y : Int32) (hy0 : 0 ≤ y.toInt) (hy : y.toInt + 5 ≤ (L : Int)) {U : S2} {V : S1} (h : mg_R U V) (g : Nat → Int64) (hrec : ∀ U V g, mg_R U V → cg_O (r23 (y + 5) U V g) (fun z => z = 1)) : cg_O (law_B28 L xs r23 y U V g) (fun z => z = 1) := by
  unfold law_B28
  have e1 : (y + 1).toInt = y.toInt + 1 := add_e (Eq.refl _) (by decide : (1 : Int32).toInt = 1) (by omega) (by omega)
  have e2 : (y + 2).toInt = y.toInt + 2 := add_e (Eq.refl _) (by decide : (2 : Int32).toInt = 2) (by omega) (by omega)
  have e3 : (y + 3).toInt = y.toInt + 3 := add_e (Eq.refl _) (by decide : (3 : Int32).toInt = 3) (by omega) (by omega)
  have e4 : (y + 4).toInt = y.toInt + 4 := add_e (Eq.refl _) (by decide : (4 : Int32).toInt = 4) (by omega) (by omega)
  refine cg_chk (inb_e e1 (by omega) (by omega)) ?_
  refine cg_chk (inb_e e2 (by omega) (by omega)) ?_
  refine cg_chk (inb_e e3 (by omega) (by omega)) ?_
  refine cg_bn (t_L_damage U (xs (y + 1).toNatClampNeg) (xs (y + 2).toNatClampNeg) (xs (y + 3).toNatClampNeg) h.1) (fun z_149 hz_149 => ?_)
  refine cg_chk (inb_e e1 (by omega) (by omega)) ?_
  refine cg_chk (inb_e e2 (by omega) (by omega)) ?_
  refine cg_chk (inb_e e3 (by omega) (by omega)) ?_
  refine cg_bn (t_X7_damage V (xs (y + 1).toNatClampNeg) (xs (y + 2).toNatClampNeg) (xs (y + 3).toNatClampNeg) h.2.1) (fun z_150 hz_150 => ?_)
  exact hrec _ _ _ (mg_keep h hz_149 hz_150)
theorem S29_ok {L : Nat} (hL : L ≤ 2560) (xs : Nat → Int32) (r23 : Int32 → S2 → S1 → (Nat → Int64) → Option Int32) (y : Int32) (hy0 : 0 ≤ y.toInt) (hy : y.toInt + 5 ≤ (L : Int)) {U : S2} {V : S1} (h : mg_R U V) (g : Nat → Int64) (hrec : ∀ U V g, mg_R U V → cg_O (r23 (y + 5) U V g) (fun z => z = 1)) : cg_O (law_B29 L xs r23 y U V g) (fun z => z = 1) := by
  unfold law_B29
  have e1 : (y + 1).toInt = y.toInt + 1 := add_e (Eq.refl _) (by decide : (1 : Int32).toInt = 1) (by omega) (by omega)
  have e2 : (y + 2).toInt = y.toInt + 2 := add_e (Eq.refl _) (by decide : (2 : Int32).toInt = 2) (by omega) (by omega)
  have e3 : (y + 3).toInt = y.toInt + 3 := add_e (Eq.refl _) (by decide : (3 : Int32).toInt = 3) (by omega) (by omega)
  have e4 : (y + 4).toInt = y.toInt + 4 := add_e (Eq.refl _) (by decide : (4 : Int32).toInt = 4) (by omega) (by omega)
  refine cg_bn (t_L_check U g h.1) (fun z_151 hz_151 => ?_)
  refine cg_bn (t_X7_check V h.2.1) (fun z_152 hz_152 => ?_)
  exact hrec _ _ _ (mg_keep h hz_151 hz_152)
theorem S30_ok {L : Nat} (hL : L ≤ 2560) (xs : Nat → Int32) (r23 : Int32 → S2 → S1 → (Nat → Int64) → Option Int32) (y : Int32) (hy0 : 0 ≤ y.toInt) (hy : y.toInt + 5 ≤ (L : Int)) {U : S2} {V : S1} (h : mg_R U V) (g : Nat → Int64) (hrec : ∀ U V g, mg_R U V → cg_O (r23 (y + 5) U V g) (fun z => z = 1)) : cg_O (law_B30 L xs r23 y U V g) (fun z => z = 1) := by
  unfold law_B30
  have e1 : (y + 1).toInt = y.toInt + 1 := add_e (Eq.refl _) (by decide : (1 : Int32).toInt = 1) (by omega) (by omega)
  have e2 : (y + 2).toInt = y.toInt + 2 := add_e (Eq.refl _) (by decide : (2 : Int32).toInt = 2) (by omega) (by omega)
  have e3 : (y + 3).toInt = y.toInt + 3 := add_e (Eq.refl _) (by decide : (3 : Int32).toInt = 3) (by omega) (by omega)
  have e4 : (y + 4).toInt = y.toInt + 4 := add_e (Eq.refl _) (by decide : (4 : Int32).toInt = 4) (by omega) (by omega)
  refine cg_chk (inb_e e1 (by omega) (by omega)) ?_
  refine cg_chk (inb_e e2 (by omega) (by omega)) ?_
  refine cg_bn (t_L_about U g (xs (y + 1).toNatClampNeg) (xs (y + 2).toNatClampNeg) h.1) (fun z_153 hz_153 => ?_)
  refine cg_chk (inb_e e1 (by omega) (by omega)) ?_
  refine cg_chk (inb_e e2 (by omega) (by omega)) ?_
  refine cg_bn (t_X7_about V (xs (y + 1).toNatClampNeg) (xs (y + 2).toNatClampNeg) h.2.1) (fun z_154 hz_154 => ?_)
  exact hrec _ _ _ (mg_keep h hz_153 hz_154)
theorem S31_ok {L : Nat} (hL : L ≤ 2560) (xs : Nat → Int32) (r23 : Int32 → S2 → S1 → (Nat → Int64) → Option Int32) (y : Int32) (hy0 : 0 ≤ y.toInt) (hy : y.toInt + 5 ≤ (L : Int)) {U : S2} {V : S1} (h : mg_R U V) (g : Nat → Int64) (hrec : ∀ U V g, mg_R U V → cg_O (r23 (y + 5) U V g) (fun z => z = 1)) : cg_O (law_B31 L xs r23 y U V g) (fun z => z = 1) := by
  unfold law_B31
  have e1 : (y + 1).toInt = y.toInt + 1 := add_e (Eq.refl _) (by decide : (1 : Int32).toInt = 1) (by omega) (by omega)
  have e2 : (y + 2).toInt = y.toInt + 2 := add_e (Eq.refl _) (by decide : (2 : Int32).toInt = 2) (by omega) (by omega)
  have e3 : (y + 3).toInt = y.toInt + 3 := add_e (Eq.refl _) (by decide : (3 : Int32).toInt = 3) (by omega) (by omega)
  have e4 : (y + 4).toInt = y.toInt + 4 := add_e (Eq.refl _) (by decide : (4 : Int32).toInt = 4) (by omega) (by omega)
  refine cg_chk (inb_e e1 (by omega) (by omega)) ?_
  refine cg_chk (inb_e e2 (by omega) (by omega)) ?_
  refine cg_bn (t_L_entry U g (xs (y + 1).toNatClampNeg) (xs (y + 2).toNatClampNeg) h.1) (fun z_155 hz_155 => ?_)
  refine cg_chk (inb_e e1 (by omega) (by omega)) ?_
  refine cg_chk (inb_e e2 (by omega) (by omega)) ?_
  refine cg_bn (t_X7_entry V (xs (y + 1).toNatClampNeg) (xs (y + 2).toNatClampNeg) h.2.1) (fun z_156 hz_156 => ?_)
  exact hrec _ _ _ (mg_keep h hz_155 hz_156)
theorem S32_ok {L : Nat} (hL : L ≤ 2560) (xs : Nat → Int32) (r23 : Int32 → S2 → S1 → (Nat → Int64) → Option Int32) (y : Int32) (hy0 : 0 ≤ y.toInt) (hy : y.toInt + 5 ≤ (L : Int)) {U : S2} {V : S1} (h : mg_R U V) (g : Nat → Int64) (hrec : ∀ U V g, mg_R U V → cg_O (r23 (y + 5) U V g) (fun z => z = 1)) : cg_O (law_B32 L xs r23 y U V g) (fun z => z = 1) := by
  unfold law_B32
  have e1 : (y + 1).toInt = y.toInt + 1 := add_e (Eq.refl _) (by decide : (1 : Int32).toInt = 1) (by omega) (by omega)
  have e2 : (y + 2).toInt = y.toInt + 2 := add_e (Eq.refl _) (by decide : (2 : Int32).toInt = 2) (by omega) (by omega)
  have e3 : (y + 3).toInt = y.toInt + 3 := add_e (Eq.refl _) (by decide : (3 : Int32).toInt = 3) (by omega) (by omega)
  have e4 : (y + 4).toInt = y.toInt + 4 := add_e (Eq.refl _) (by decide : (4 : Int32).toInt = 4) (by omega) (by omega)
  refine cg_chk (inb_e e1 (by omega) (by omega)) ?_
  refine cg_bn (t_L_target U g (xs (y + 1).toNatClampNeg) h.1) (fun z_157 hz_157 => ?_)
  refine cg_chk (inb_e e1 (by omega) (by omega)) ?_
  refine cg_bn (t_X7_target V (xs (y + 1).toNatClampNeg) h.2.1) (fun z_158 hz_158 => ?_)
  exact hrec _ _ _ (mg_keep h hz_157 hz_158)
theorem S33_ok {L : Nat} (hL : L ≤ 2560) (xs : Nat → Int32) (r23 : Int32 → S2 → S1 → (Nat → Int64) → Option Int32) (y : Int32) (hy0 : 0 ≤ y.toInt) (hy : y.toInt + 5 ≤ (L : Int)) {U : S2} {V : S1} (h : mg_R U V) (g : Nat → Int64) (hrec : ∀ U V g, mg_R U V → cg_O (r23 (y + 5) U V g) (fun z => z = 1)) : cg_O (law_B33 L xs r23 y U V g) (fun z => z = 1) := by
  unfold law_B33
  have e1 : (y + 1).toInt = y.toInt + 1 := add_e (Eq.refl _) (by decide : (1 : Int32).toInt = 1) (by omega) (by omega)
  have e2 : (y + 2).toInt = y.toInt + 2 := add_e (Eq.refl _) (by decide : (2 : Int32).toInt = 2) (by omega) (by omega)
  have e3 : (y + 3).toInt = y.toInt + 3 := add_e (Eq.refl _) (by decide : (3 : Int32).toInt = 3) (by omega) (by omega)
  have e4 : (y + 4).toInt = y.toInt + 4 := add_e (Eq.refl _) (by decide : (4 : Int32).toInt = 4) (by omega) (by omega)
  refine cg_chk (inb_e e1 (by omega) (by omega)) ?_
  refine cg_chk (inb_e e2 (by omega) (by omega)) ?_
  refine cg_chk (inb_e e3 (by omega) (by omega)) ?_
  refine cg_bn (t_L_page U g (xs (y + 1).toNatClampNeg) (xs (y + 2).toNatClampNeg) (xs (y + 3).toNatClampNeg) h.1) (fun z_159 hz_159 => ?_)
  refine cg_chk (inb_e e1 (by omega) (by omega)) ?_
  refine cg_chk (inb_e e2 (by omega) (by omega)) ?_
  refine cg_chk (inb_e e3 (by omega) (by omega)) ?_
  refine cg_bn (t_X7_page V (xs (y + 1).toNatClampNeg) (xs (y + 2).toNatClampNeg) (xs (y + 3).toNatClampNeg) h.2.1) (fun z_160 hz_160 => ?_)
  exact hrec _ _ _ (mg_keep h hz_159 hz_160)
theorem S34_ok {L : Nat} (hL : L ≤ 2560) (xs : Nat → Int32) (r23 : Int32 → S2 → S1 → (Nat → Int64) → Option Int32) (y : Int32) (hy0 : 0 ≤ y.toInt) (hy : y.toInt + 5 ≤ (L : Int)) {U : S2} {V : S1} (h : mg_R U V) (g : Nat → Int64) (hrec : ∀ U V g, mg_R U V → cg_O (r23 (y + 5) U V g) (fun z => z = 1)) : cg_O (law_B34 L xs r23 y U V g) (fun z => z = 1) := by
  unfold law_B34
  have e1 : (y + 1).toInt = y.toInt + 1 := add_e (Eq.refl _) (by decide : (1 : Int32).toInt = 1) (by omega) (by omega)
  have e2 : (y + 2).toInt = y.toInt + 2 := add_e (Eq.refl _) (by decide : (2 : Int32).toInt = 2) (by omega) (by omega)
  have e3 : (y + 3).toInt = y.toInt + 3 := add_e (Eq.refl _) (by decide : (3 : Int32).toInt = 3) (by omega) (by omega)
  have e4 : (y + 4).toInt = y.toInt + 4 := add_e (Eq.refl _) (by decide : (4 : Int32).toInt = 4) (by omega) (by omega)
  refine cg_chk (inb_e e1 (by omega) (by omega)) ?_
  refine cg_bn (t_L_number U g (xs (y + 1).toNatClampNeg) h.1) (fun z_161 hz_161 => ?_)
  refine cg_chk (inb_e e1 (by omega) (by omega)) ?_
  refine cg_bn (t_X7_number V (xs (y + 1).toNatClampNeg) h.2.1) (fun z_162 hz_162 => ?_)
  exact hrec _ _ _ (mg_keep h hz_161 hz_162)
theorem S35_ok {L : Nat} (hL : L ≤ 2560) (xs : Nat → Int32) (r23 : Int32 → S2 → S1 → (Nat → Int64) → Option Int32) (y : Int32) (hy0 : 0 ≤ y.toInt) (hy : y.toInt + 5 ≤ (L : Int)) {U : S2} {V : S1} (h : mg_R U V) (g : Nat → Int64) (hrec : ∀ U V g, mg_R U V → cg_O (r23 (y + 5) U V g) (fun z => z = 1)) : cg_O (law_B35 L xs r23 y U V g) (fun z => z = 1) := by
  unfold law_B35
  have e1 : (y + 1).toInt = y.toInt + 1 := add_e (Eq.refl _) (by decide : (1 : Int32).toInt = 1) (by omega) (by omega)
  have e2 : (y + 2).toInt = y.toInt + 2 := add_e (Eq.refl _) (by decide : (2 : Int32).toInt = 2) (by omega) (by omega)
  have e3 : (y + 3).toInt = y.toInt + 3 := add_e (Eq.refl _) (by decide : (3 : Int32).toInt = 3) (by omega) (by omega)
  have e4 : (y + 4).toInt = y.toInt + 4 := add_e (Eq.refl _) (by decide : (4 : Int32).toInt = 4) (by omega) (by omega)
  refine cg_chk (inb_e e1 (by omega) (by omega)) ?_
  refine cg_bn (t_L_isFree U g (xs (y + 1).toNatClampNeg) h.1) (fun z_163 hz_163 => ?_)
  refine cg_chk (inb_e e1 (by omega) (by omega)) ?_
  refine cg_bn (t_X7_isFree V (xs (y + 1).toNatClampNeg) h.2.1) (fun z_164 hz_164 => ?_)
  exact hrec _ _ _ (mg_keep h hz_163 hz_164)
theorem S36_ok {L : Nat} (hL : L ≤ 2560) (xs : Nat → Int32) (r23 : Int32 → S2 → S1 → (Nat → Int64) → Option Int32) (y : Int32) (hy0 : 0 ≤ y.toInt) (hy : y.toInt + 5 ≤ (L : Int)) {U : S2} {V : S1} (h : mg_R U V) (g : Nat → Int64) (hrec : ∀ U V g, mg_R U V → cg_O (r23 (y + 5) U V g) (fun z => z = 1)) : cg_O (law_B36 L xs r23 y U V g) (fun z => z = 1) := by
  unfold law_B36
  have e1 : (y + 1).toInt = y.toInt + 1 := add_e (Eq.refl _) (by decide : (1 : Int32).toInt = 1) (by omega) (by omega)
  have e2 : (y + 2).toInt = y.toInt + 2 := add_e (Eq.refl _) (by decide : (2 : Int32).toInt = 2) (by omega) (by omega)
  have e3 : (y + 3).toInt = y.toInt + 3 := add_e (Eq.refl _) (by decide : (3 : Int32).toInt = 3) (by omega) (by omega)
  have e4 : (y + 4).toInt = y.toInt + 4 := add_e (Eq.refl _) (by decide : (4 : Int32).toInt = 4) (by omega) (by omega)
  refine cg_chk (inb_e e1 (by omega) (by omega)) ?_
  refine cg_bn (t_L_used U g (xs (y + 1).toNatClampNeg) h.1) (fun z_165 hz_165 => ?_)
  refine cg_chk (inb_e e1 (by omega) (by omega)) ?_
  refine cg_bn (t_X7_used V (xs (y + 1).toNatClampNeg) h.2.1) (fun z_166 hz_166 => ?_)
  exact hrec _ _ _ (mg_keep h hz_165 hz_166)
theorem S37_ok {L : Nat} (hL : L ≤ 2560) (xs : Nat → Int32) (r23 : Int32 → S2 → S1 → (Nat → Int64) → Option Int32) (y : Int32) (hy0 : 0 ≤ y.toInt) (hy : y.toInt + 5 ≤ (L : Int)) {U : S2} {V : S1} (h : mg_R U V) (g : Nat → Int64) (hrec : ∀ U V g, mg_R U V → cg_O (r23 (y + 5) U V g) (fun z => z = 1)) : cg_O (law_B37 L xs r23 y U V g) (fun z => z = 1) := by
  unfold law_B37
  have e1 : (y + 1).toInt = y.toInt + 1 := add_e (Eq.refl _) (by decide : (1 : Int32).toInt = 1) (by omega) (by omega)
  have e2 : (y + 2).toInt = y.toInt + 2 := add_e (Eq.refl _) (by decide : (2 : Int32).toInt = 2) (by omega) (by omega)
  have e3 : (y + 3).toInt = y.toInt + 3 := add_e (Eq.refl _) (by decide : (3 : Int32).toInt = 3) (by omega) (by omega)
  have e4 : (y + 4).toInt = y.toInt + 4 := add_e (Eq.refl _) (by decide : (4 : Int32).toInt = 4) (by omega) (by omega)
  refine cg_bn (t_X6_dirty U h.1) (fun z_167 hz_167 => ?_)
  refine cg_bn (t_X7_dirty V h.2.1) (fun z_168 hz_168 => ?_)
  exact hrec _ _ _ (mg_keep h (g_refl h.1) hz_168)
theorem last_ops (j : Nat) (hj : j < 38) (e0 : ¬ nI j = 0) (e1 : ¬ nI j = 1) (e2 : ¬ nI j = 2) (e3 : ¬ nI j = 3) (e4 : ¬ nI j = 4) (e5 : ¬ nI j = 5) (e6 : ¬ nI j = 6) (e7 : ¬ nI j = 7) (e8 : ¬ nI j = 8) (e9 : ¬ nI j = 9) (e10 : ¬ nI j = 10) (e11 : ¬ nI j = 11) (e12 : ¬ nI j = 12) (e13 : ¬ nI j = 13) (e14 : ¬ nI j = 14) (e15 : ¬ nI j = 15) (e16 : ¬ nI j = 16) (e17 : ¬ nI j = 17) (e18 : ¬ nI j = 18) (e19 : ¬ nI j = 19) (e20 : ¬ nI j = 20) (e21 : ¬ nI j = 21) (e22 : ¬ nI j = 22) (e23 : ¬ nI j = 23) (e24 : ¬ nI j = 24) (e25 : ¬ nI j = 25) (e26 : ¬ nI j = 26) (e27 : ¬ nI j = 27) (e28 : ¬ nI j = 28) (e29 : ¬ nI j = 29) (e30 : ¬ nI j = 30) (e31 : ¬ nI j = 31) (e32 : ¬ nI j = 32) (e33 : ¬ nI j = 33) (e34 : ¬ nI j = 34) (e35 : ¬ nI j = 35) (e36 : ¬ nI j = 36) (e37 : ¬ nI j = 37) : False := by
  have h0 : j ≠ 0 := fun h => e0 (by rw [h]; decide)
  have h1 : j ≠ 1 := fun h => e1 (by rw [h]; decide)
  have h2 : j ≠ 2 := fun h => e2 (by rw [h]; decide)
  have h3 : j ≠ 3 := fun h => e3 (by rw [h]; decide)
  have h4 : j ≠ 4 := fun h => e4 (by rw [h]; decide)
  have h5 : j ≠ 5 := fun h => e5 (by rw [h]; decide)
  have h6 : j ≠ 6 := fun h => e6 (by rw [h]; decide)
  have h7 : j ≠ 7 := fun h => e7 (by rw [h]; decide)
  have h8 : j ≠ 8 := fun h => e8 (by rw [h]; decide)
  have h9 : j ≠ 9 := fun h => e9 (by rw [h]; decide)
  have h10 : j ≠ 10 := fun h => e10 (by rw [h]; decide)
  have h11 : j ≠ 11 := fun h => e11 (by rw [h]; decide)
  have h12 : j ≠ 12 := fun h => e12 (by rw [h]; decide)
  have h13 : j ≠ 13 := fun h => e13 (by rw [h]; decide)
  have h14 : j ≠ 14 := fun h => e14 (by rw [h]; decide)
  have h15 : j ≠ 15 := fun h => e15 (by rw [h]; decide)
  have h16 : j ≠ 16 := fun h => e16 (by rw [h]; decide)
  have h17 : j ≠ 17 := fun h => e17 (by rw [h]; decide)
  have h18 : j ≠ 18 := fun h => e18 (by rw [h]; decide)
  have h19 : j ≠ 19 := fun h => e19 (by rw [h]; decide)
  have h20 : j ≠ 20 := fun h => e20 (by rw [h]; decide)
  have h21 : j ≠ 21 := fun h => e21 (by rw [h]; decide)
  have h22 : j ≠ 22 := fun h => e22 (by rw [h]; decide)
  have h23 : j ≠ 23 := fun h => e23 (by rw [h]; decide)
  have h24 : j ≠ 24 := fun h => e24 (by rw [h]; decide)
  have h25 : j ≠ 25 := fun h => e25 (by rw [h]; decide)
  have h26 : j ≠ 26 := fun h => e26 (by rw [h]; decide)
  have h27 : j ≠ 27 := fun h => e27 (by rw [h]; decide)
  have h28 : j ≠ 28 := fun h => e28 (by rw [h]; decide)
  have h29 : j ≠ 29 := fun h => e29 (by rw [h]; decide)
  have h30 : j ≠ 30 := fun h => e30 (by rw [h]; decide)
  have h31 : j ≠ 31 := fun h => e31 (by rw [h]; decide)
  have h32 : j ≠ 32 := fun h => e32 (by rw [h]; decide)
  have h33 : j ≠ 33 := fun h => e33 (by rw [h]; decide)
  have h34 : j ≠ 34 := fun h => e34 (by rw [h]; decide)
  have h35 : j ≠ 35 := fun h => e35 (by rw [h]; decide)
  have h36 : j ≠ 36 := fun h => e36 (by rw [h]; decide)
  have h37 : j ≠ 37 := fun h => e37 (by rw [h]; decide)
  omega
theorem steps_pure {L : Nat} (hL : L ≤ 2560) (xs : Nat → Int32) : ql4 (law_F L xs) 4096 0 U0 V0 g0 = some 1 := by
  have eL : (Int32.ofNat L).toInt = (L : Int) := nI_toInt (n := L) (by omega)
  have e5 : ((Int32.ofNat L) - 5).toInt = (L : Int) - 5 := sub_e eL (by decide : (5 : Int32).toInt = 5) (by omega) (by omega)
  have key : cg_O (ql4 (law_F L xs) 4096 0 U0 V0 g0) (fun z => z = 1) := by
    refine cg_l4 (fun d y U V _ => mg_R U V ∧ 0 ≤ y.toInt ∧ (L : Int) - y.toInt ≤ (d : Int) ∧ y.toInt ≤ (L : Int) + 5) (fun d r ih y U V g hh => ?_) 2560 4096 (by decide) 0 U0 V0 g0 ⟨r_fresh, by decide, by rw [show (0 : Int32).toInt = 0 by decide]; omega, by rw [show (0 : Int32).toInt = 0 by decide]; omega⟩
    obtain ⟨h, i1, i2, i3⟩ := hh
    unfold law_F
    refine cg_lt2 e5 (Eq.refl _) (fun _ => cg_some rfl) (fun hy => ?_)
    have ey : (y + 5).toInt = y.toInt + 5 := add_e (Eq.refl _) (by decide : (5 : Int32).toInt = 5) (by omega) (by omega)
    have hrec : ∀ U V g, mg_R U V → cg_O (r (y + 5) U V g) (fun z => z = 1) := fun U V g hR => ih (d - 5) (y + 5) U V g (by omega) ⟨hR, by omega, by omega, by omega⟩
    refine cg_chk (inb_e (Eq.refl _) (by omega) (by omega)) ?_
    generalize (xs y.toNatClampNeg &&& 63) = x
    refine cg_i (fun _ => hrec U V g h) (fun hr => ?_)
    refine cg_i (fun _ => S0_ok hL xs r y i1 (by omega) h g hrec) (fun n0 => ?_)
    refine cg_i (fun _ => S1_ok hL xs r y i1 (by omega) h g hrec) (fun n1 => ?_)
    refine cg_i (fun _ => S2_ok hL xs r y i1 (by omega) h g hrec) (fun n2 => ?_)
    refine cg_i (fun _ => S3_ok hL xs r y i1 (by omega) h g hrec) (fun n3 => ?_)
    refine cg_i (fun _ => S4_ok hL xs r y i1 (by omega) h g hrec) (fun n4 => ?_)
    refine cg_i (fun _ => S5_ok hL xs r y i1 (by omega) h g hrec) (fun n5 => ?_)
    refine cg_i (fun _ => S6_ok hL xs r y i1 (by omega) h g hrec) (fun n6 => ?_)
    refine cg_i (fun _ => S7_ok hL xs r y i1 (by omega) h g hrec) (fun n7 => ?_)
    refine cg_i (fun _ => S8_ok hL xs r y i1 (by omega) h g hrec) (fun n8 => ?_)
    refine cg_i (fun _ => S9_ok hL xs r y i1 (by omega) h g hrec) (fun n9 => ?_)
    refine cg_i (fun _ => S10_ok hL xs r y i1 (by omega) h g hrec) (fun n10 => ?_)
    refine cg_i (fun _ => S11_ok hL xs r y i1 (by omega) h g hrec) (fun n11 => ?_)
    refine cg_i (fun _ => S12_ok hL xs r y i1 (by omega) h g hrec) (fun n12 => ?_)
    refine cg_i (fun _ => S13_ok hL xs r y i1 (by omega) h g hrec) (fun n13 => ?_)
    refine cg_i (fun _ => S14_ok hL xs r y i1 (by omega) h g hrec) (fun n14 => ?_)
    refine cg_i (fun _ => S15_ok hL xs r y i1 (by omega) h g hrec) (fun n15 => ?_)
    refine cg_i (fun _ => S16_ok hL xs r y i1 (by omega) h g hrec) (fun n16 => ?_)
    refine cg_i (fun _ => S17_ok hL xs r y i1 (by omega) h g hrec) (fun n17 => ?_)
    refine cg_i (fun _ => S18_ok hL xs r y i1 (by omega) h g hrec) (fun n18 => ?_)
    refine cg_i (fun _ => S19_ok hL xs r y i1 (by omega) h g hrec) (fun n19 => ?_)
    refine cg_i (fun _ => S20_ok hL xs r y i1 (by omega) h g hrec) (fun n20 => ?_)
    refine cg_i (fun _ => S21_ok hL xs r y i1 (by omega) h g hrec) (fun n21 => ?_)
    refine cg_i (fun _ => S22_ok hL xs r y i1 (by omega) h g hrec) (fun n22 => ?_)
    refine cg_i (fun _ => S23_ok hL xs r y i1 (by omega) h g hrec) (fun n23 => ?_)
    refine cg_i (fun _ => S24_ok hL xs r y i1 (by omega) h g hrec) (fun n24 => ?_)
    refine cg_i (fun _ => S25_ok hL xs r y i1 (by omega) h g hrec) (fun n25 => ?_)
    refine cg_i (fun _ => S26_ok hL xs r y i1 (by omega) h g hrec) (fun n26 => ?_)
    refine cg_i (fun _ => S27_ok hL xs r y i1 (by omega) h g hrec) (fun n27 => ?_)
    refine cg_i (fun _ => S28_ok hL xs r y i1 (by omega) h g hrec) (fun n28 => ?_)
    refine cg_i (fun _ => S29_ok hL xs r y i1 (by omega) h g hrec) (fun n29 => ?_)
    refine cg_i (fun _ => S30_ok hL xs r y i1 (by omega) h g hrec) (fun n30 => ?_)
    refine cg_i (fun _ => S31_ok hL xs r y i1 (by omega) h g hrec) (fun n31 => ?_)
    refine cg_i (fun _ => S32_ok hL xs r y i1 (by omega) h g hrec) (fun n32 => ?_)
    refine cg_i (fun _ => S33_ok hL xs r y i1 (by omega) h g hrec) (fun n33 => ?_)
    refine cg_i (fun _ => S34_ok hL xs r y i1 (by omega) h g hrec) (fun n34 => ?_)
    refine cg_i (fun _ => S35_ok hL xs r y i1 (by omega) h g hrec) (fun n35 => ?_)
    refine cg_i (fun _ => S36_ok hL xs r y i1 (by omega) h g hrec) (fun n36 => ?_)
    refine cg_i (fun _ => S37_ok hL xs r y i1 (by omega) h g hrec) (fun n37 => ?_)
    exfalso
    have h0 : ¬ x < 0 := fun q => hr (Or.inl (Int32.lt_iff_toInt_lt.mp q))
    obtain ⟨j, hj, rfl⟩ := nI_of2 (M := 37) (n := 37) (by decide) h0 (Int32.not_lt.mp (fun q => hr (Or.inr (Int32.lt_iff_toInt_lt.mp q))))
    exact last_ops j (by omega) n0 n1 n2 n3 n4 n5 n6 n7 n8 n9 n10 n11 n12 n13 n14 n15 n16 n17 n18 n19 n20 n21 n22 n23 n24 n25 n26 n27 n28 n29 n30 n31 n32 n33 n34 n35 n36 n37
  obtain ⟨z, hz, e⟩ := key
  rw [hz, e]
