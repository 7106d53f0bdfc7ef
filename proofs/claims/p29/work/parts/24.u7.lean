-- THE REFERENCE: the checker
theorem t_X7_doublePages (u0 : S1) (hJ : mg_J u0) : cg_O (f_X7_doublePages u0) (fun z => mg_G u0 z.2 ∧ z.2 12 = u0 12) := by
  unfold f_X7_doublePages
  refine cg_q3 (cg_l3 (fun d n k u => 0 ≤ k.toInt ∧ k.toInt ≤ 512 ∧ 512 - k.toInt ≤ (d : Int) ∧ mg_G u0 u ∧ u 12 = u0 12) (fun d r ih n k u hh => ?_) 512 4096 (by decide) 0 0 u0 ⟨by decide, by decide, by decide, mg_refl hJ, rfl⟩)
  obtain ⟨i1, i2, i3, g, i4⟩ := hh
  refine cg_le2 (by decide : (512 : Int32).toInt = 512) (Eq.refl _) (fun _ => cg_some ⟨g, i4⟩) (fun h => ?_)
  have eq_ : (k / 16).toInt = k.toInt / 16 := div_e (Eq.refl _) (by decide) i1 (by decide)
  have er : (k - k / 16 * 16).toInt = k.toInt % 16 := rem_e (Eq.refl _) (by decide) i1 (by decide) (by decide)
  have ek : (k + 1).toInt = k.toInt + 1 := add_e (Eq.refl _) (by decide) (by omega) (by omega)
  refine cg_bn (t_X7_isThing u (k / 16)) (fun z3 _ => ?_)
  refine cg_jn ?_
  have key : ∀ v : Int32, cg_O (qj6 (fun (r45_5 : Int32 → Int32 → Int32 → Int32 → Int32 → S1 → Option (Int32 × S1)) (y45_5_1 : Int32) (y45_5_2 : Int32) (y45_5_3 : Int32) (y45_5_4 : Int32) (y45_5_5 : Int32) (u45_5_0 : S1) => jn (jn (fun (y124_7_1 : Int32) (u124_7_0 : S1) => r y124_7_1 (y45_5_2 + 1) u124_7_0) (fun k124_7 => if y45_5_4 = 0 then k124_7 y45_5_1 u45_5_0 else bn (f_X7_digs u45_5_0 (y45_5_2 / 16) (y45_5_2 - y45_5_2 / 16 * 16)) (fun z_9 => k124_7 (y45_5_1 + 1) z_9))) (fun k104_6 => if y45_5_2 ≤ y45_5_5 then k104_6 else if y45_5_3 = (-1) then k104_6 else jn (fun (v96_12_0 : Int32) => r45_5 y45_5_1 y45_5_2 y45_5_3 v96_12_0 (y45_5_5 + 1) u45_5_0) (fun k96_12 => jn (k96_12 1) (fun k91_13 => if y45_5_4 = 0 then bn (f_X7_isThing u45_5_0 (y45_5_5 / 16)) (fun z_15 => jn (k96_12 0) (fun k95_16 => if z_15 = 0 then k95_16 else bn (f_X7_blockOf u45_5_0 (y45_5_5 / 16) (y45_5_5 - y45_5_5 / 16 * 16)) (fun z_18 => if z_18 = y45_5_3 then k91_13 else k95_16))) else k91_13)))) (fun k45_5 => k45_5 n k v 0 0 u)) (fun z => mg_G u0 z.2 ∧ z.2 12 = u0 12) := by
    intro v
    refine cg_q6 (cg_l6 (fun d2 a b c e j w => n = a ∧ k = b ∧ v = c ∧ u = w ∧ 0 ≤ j.toInt ∧ 512 - j.toInt ≤ (d2 : Int)) (fun d2 r2 ih2 a b c e j w hh => ?_) 512 4096 (by decide) n k v 0 0 u ⟨rfl, rfl, rfl, rfl, by decide, by decide⟩)
    obtain ⟨q1, q2, q3, q4, j1, j2⟩ := hh
    subst q1 q2 q3 q4
    refine cg_jn ?_
    have ej : ∀ x : Int32, j.toInt < k.toInt → cg_O (r2 n k v x (j + 1) u) (fun z => mg_G u0 z.2 ∧ z.2 12 = u0 12) := fun x hlt => by
      have ej1 : (j + 1).toInt = j.toInt + 1 := add_e (Eq.refl _) (by decide) (by omega) (by omega)
      exact ih2 (d2 - 1) n k v x (j + 1) u (by omega) ⟨rfl, rfl, rfl, rfl, by omega, by omega⟩
    have k104 : cg_O (jn (fun (y124_7_1 : Int32) (u124_7_0 : S1) => r y124_7_1 (k + 1) u124_7_0) (fun k124_7 => if e = 0 then k124_7 n u else bn (f_X7_digs u (k / 16) (k - k / 16 * 16)) (fun z_9 => k124_7 (n + 1) z_9))) (fun z => mg_G u0 z.2 ∧ z.2 12 = u0 12) := by
      refine cg_jn ?_
      refine cg_i (fun _ => ih (d - 1) n (k + 1) u (by omega) ⟨by omega, by omega, by omega, g, i4⟩) (fun _ => ?_)
      refine cg_bn (t_X7_digs u0 u (k / 16) (k - k / 16 * 16) g (by omega) (by omega) (by omega) (by omega)) (fun z9 h9 => ?_)
      exact ih (d - 1) (n + 1) (k + 1) z9 (by omega) ⟨by omega, by omega, by omega, h9.1, h9.2.2.2.2.2.2.1.trans i4⟩
    refine cg_le2 (Eq.refl _) (Eq.refl _) (fun _ => k104) (fun hj => ?_)
    refine cg_i (fun _ => k104) (fun _ => ?_)
    refine cg_jn ?_
    refine cg_jn ?_
    refine cg_i (fun _ => ?_) (fun _ => ej 1 (by omega))
    have eq2 : (j / 16).toInt = j.toInt / 16 := div_e (Eq.refl _) (by decide) j1 (by decide)
    have er2 : (j - j / 16 * 16).toInt = j.toInt % 16 := rem_e (Eq.refl _) (by decide) j1 (by decide) (by decide)
    refine cg_bn (t_X7_isThing u (j / 16)) (fun z15 _ => ?_)
    refine cg_jn ?_
    refine cg_i (fun _ => ej 0 (by omega)) (fun _ => ?_)
    refine cg_bn (t_X7_blockOf u (j / 16) (j - j / 16 * 16) g.1 (by omega) (by omega) (by omega) (by omega)) (fun z18 _ => ?_)
    exact cg_i (fun _ => ej 1 (by omega)) (fun _ => ej 0 (by omega))
  refine cg_i (fun _ => key (-1)) (fun _ => ?_)
  refine cg_bn (t_X7_blockOf u (k / 16) (k - k / 16 * 16) g.1 (by omega) (by omega) (by omega) (by omega)) (fun z21 _ => key z21)
theorem t_X7_check (u0 : S1) (hJ : mg_J u0) : cg_O (f_X7_check u0) (fun z => mg_G u0 z.2) := by
  have hn := mg_jn u0 hJ
  unfold f_X7_check
  refine cg_q2 (cg_l2 (fun d f y => 0 ≤ y.toInt ∧ y.toInt ≤ 30 ∧ 30 - y.toInt ≤ (d : Int) ∧ (f.toInt = 0 → ∀ k : Nat, (k : Int) < y.toInt → u0 12 k = 0)) (fun d r ih f y hh => ?_) 30 4096 (by decide) 0 0 ⟨by decide, by decide, by decide, fun _ k hk => ?_⟩)
  · obtain ⟨i1, i2, i3, i4⟩ := hh
    refine cg_le2 (Eq.refl _) (Eq.refl _) (fun h => ?_) (fun h => ?_)
    · refine cg_jn ?_
      refine cg_eq2 (Eq.refl _) (by decide : (0 : Int32).toInt = 0) (fun h2 => ?_) (fun h2 => thr_ok (mg_refl hJ) (by decide))
      have hno : ∀ k, k < 30 → u0 12 k = 0 := fun k hk => Classical.byContradiction (fun q => by
        have := (hJ.2.2.2 k hk q).1
        exact q (i4 h2 k (by omega)))
      refine can0_ok (fun W hW => ?_)
      dsimp only
      rw [if_neg (show ¬ (1 : Int32) = 0 by decide)]
      have gW := mg_18 (mg_refl hJ) hW
      have oW : W 12 = u0 12 := by
        rw [hW]
        rfl
      refine cg_bn (t_X7_doublePages W gW.1.1) (fun z6 h6 => ?_)
      have g6 : mg_G u0 z6.2 := mg_trans gW.1 h6.1
      have o6 : z6.2 12 = u0 12 := h6.2.trans oW
      refine cg_bn (t_X7_below z6.2 0) (fun z7 _ => ?_)
      refine cg_q3 (cg_l3 (fun d n t u => 0 ≤ t.toInt ∧ t.toInt ≤ 32 ∧ 32 - t.toInt ≤ (d : Int) ∧ mg_G u0 u ∧ u 12 = u0 12) (fun d r ih n t u hh => ?_) 32 4096 (by decide) (10000 * z6.1) 1 z6.2 ⟨by decide, by decide, by decide, g6, o6⟩)
      obtain ⟨j1, j2, j3, g, o⟩ := hh
      refine cg_le2 (by decide : (32 : Int32).toInt = 32) (Eq.refl _) (fun _ => ?_) (fun h9 => ?_)
      · refine cg_q3 (cg_l3 (fun d n t u => 0 ≤ t.toInt ∧ t.toInt ≤ 32 ∧ 32 - t.toInt ≤ (d : Int) ∧ mg_G u0 u) (fun d r ih n t u hh => ?_) 32 4096 (by decide) n 0 u ⟨by decide, by decide, by decide, g⟩)
        obtain ⟨j1, j2, j3, g⟩ := hh
        refine cg_le2 (by decide : (32 : Int32).toInt = 32) (Eq.refl _) (fun _ => cg_some g) (fun h9 => ?_)
        have et : (t + 1).toInt = t.toInt + 1 := add_e (Eq.refl _) (by decide) (by omega) (by omega)
        have nx : ∀ m, cg_O (r m (t + 1) u) (fun z => mg_G u0 z.2) := fun m => ih (d - 1) m (t + 1) u (by omega) ⟨by omega, by omega, by omega, g⟩
        refine cg_bn (t_X7_isThing u t) (fun z12 _ => ?_)
        refine cg_jn ?_
        refine cg_i (fun _ => nx n) (fun _ => ?_)
        refine cg_bn (t_X7_at 0 t (by decide) (by decide) j1 (by omega)) (fun z15 h15 => ?_)
        rw [show (0 : Int32).toInt = 0 by decide] at h15
        refine cg_chk (inb_e (add_e h15 (by decide : (3 : Int32).toInt = 3) (by omega) (by omega)) (by omega) (by omega)) ?_
        refine cg_bn (t_X7_namesOf u t) (fun z16 _ => ?_)
        refine cg_i (fun _ => nx n) (fun _ => ?_)
        refine cg_bn (t_X7_at 0 t (by decide) (by decide) j1 (by omega)) (fun z18 h18 => ?_)
        rw [show (0 : Int32).toInt = 0 by decide] at h18
        refine cg_bn (t_X7_namesOf u t) (fun z19 _ => ?_)
        have e18 : (z18 + 3).toInt = ((53 * t.toInt.toNat + 3 : Nat) : Int) := (add_e h18 (by decide : (3 : Int32).toInt = 3) (by omega) (by omega)).trans (by omega)
        refine cg_chk (inb_e e18 (by omega) (by omega)) ?_
        refine cg_bv (fun u20 e20 => ?_)
        refine ih (d - 1) (n + 1) (t + 1) u20 (by omega) ⟨by omega, by omega, by omega, ?_⟩
        rw [e20]
        exact mg_free g e18 (by decide) (by decide)
      · have et : (t + 1).toInt = t.toInt + 1 := add_e (Eq.refl _) (by decide) (by omega) (by omega)
        refine cg_bn (t_X7_isThing u t) (fun z21 _ => ?_)
        refine cg_jn ?_
        have nx : cg_O (r n (t + 1) u) (fun z => mg_G u0 z.2) := ih (d - 1) n (t + 1) u (by omega) ⟨by omega, by omega, by omega, g, o⟩
        refine cg_i (fun _ => nx) (fun _ => ?_)
        refine cg_i (fun _ => ?_) (fun _ => nx)
        refine cg_bn (t_X7_goes u0 u t g j1 (by omega) (fun k hk ho => absurd (by rw [o]; exact hno k hk) ho)) (fun z25 h25 => ?_)
        exact ih (d - 1) (n + 100) (t + 1) z25 (by omega) ⟨by omega, by omega, by omega, h25.1, h25.2.2.2.2.2.trans o⟩
    · refine cg_jn ?_
      refine cg_jn ?_
      have ey : (y + 1).toInt = y.toInt + 1 := add_e (Eq.refl _) (by decide) (by omega) (by omega)
      have n1 : cg_O (r 1 (y + 1)) (fun z => mg_G u0 z.2) := ih (d - 1) 1 (y + 1) (by omega) ⟨by omega, by omega, by omega, fun q => absurd q (by decide)⟩
      refine cg_eq2 (Eq.refl _) (by decide : (0 : Int32).toInt = 0) (fun h2 => ?_) (fun _ => n1)
      refine cg_chk (inb_e (Eq.refl _) (by omega) (by omega)) ?_
      refine cg_i (fun h3 => ?_) (fun _ => n1)
      refine ih (d - 1) 0 (y + 1) (by omega) ⟨by omega, by omega, by omega, fun _ k hk => ?_⟩
      have hcl : y.toNatClampNeg = y.toInt.toNat := rfl
      by_cases e : (k : Int) < y.toInt
      · exact i4 h2 k e
      · rw [show k = y.toNatClampNeg by omega]
        exact h3
  · rw [show (0 : Int32).toInt = 0 by decide] at hk
    omega
