-- THE FRESH OBJECT KEEPS IT
theorem t_X4_init : cg_O f_X4_init (fun z => cg_S z) := by
  unfold f_X4_init
  refine cg_q2 (cg_l2 (fun d y u => 0 ≤ y.toInt ∧ 32 - y.toInt ≤ (d : Int) ∧ cg_S u) (fun d r ih y u hh => ?_) 32 4096 (by decide) 0 z0 ⟨by decide, by decide, fun _ => (by decide : 0 ≤ (0 : Int32).toInt ∧ (0 : Int32).toInt ≤ 8)⟩)
  obtain ⟨i1, i2, i3⟩ := hh
  refine cg_le2 (by decide : (32 : Int32).toInt = 32) (Eq.refl _) (fun h => ?_) (fun h => ?_)
  · refine cg_q2 (cg_l2 (fun d y u => 0 ≤ y.toInt ∧ 512 - y.toInt ≤ (d : Int) ∧ cg_S u) (fun d r ih y u hh => ?_) 512 4096 (by decide) 0 u ⟨by decide, by decide, i3⟩)
    obtain ⟨j1, j2, j3⟩ := hh
    refine cg_le2 (by decide : (512 : Int32).toInt = 512) (Eq.refl _) (fun h => ?_) (fun h => ?_)
    · refine cg_chk (by decide) (cg_bv (fun u5 e5 => cg_chk (by decide) (cg_bv (fun u6 e6 => cg_some ?_))))
      rw [e6, e5]
      exact sz_st (sz_st j3 (by decide)) (by decide)
    · refine cg_chk (inb_e (Eq.refl _) (by omega) (by omega)) ?_
      refine cg_bv (fun u7 e7 => ?_)
      have ey : (y + 1).toInt = y.toInt + 1 := add_e (Eq.refl _) (by decide) (by omega) (by omega)
      exact ih (d - 1) (y + 1) u7 (by omega) ⟨by omega, by omega, by rw [e7]; exact sz_st j3 (by decide)⟩
  · refine cg_chk (inb_e (Eq.refl _) (by omega) (by omega)) ?_
    refine cg_bv (fun u8 e8 => ?_)
    have ey : (y + 1).toInt = y.toInt + 1 := add_e (Eq.refl _) (by decide) (by omega) (by omega)
    exact ih (d - 1) (y + 1) u8 (by omega) ⟨by omega, by omega, by rw [e8]; exact sz_st i3 (by decide)⟩
theorem j_z0 : mg_J z0 := by
  have a0 : ∀ r c, mg_A z0 r c = 0 := fun _ _ => (by decide : (0 : Int32).toInt = 0)
  refine ⟨⟨fun r hr => ?_, fun r k hr hk => ?_, fun r p hr hp => ?_⟩, ⟨(by decide : 0 ≤ (0 : Int32).toInt ∧ (0 : Int32).toInt ≤ 3), (by decide : 0 ≤ (0 : Int32).toInt ∧ (0 : Int32).toInt ≤ 30), fun _ _ => (by decide : 0 ≤ (0 : Int32).toInt ∧ (0 : Int32).toInt ≤ 31)⟩, fun t p ht hp hd => absurd rfl hd, fun k hk ho => absurd rfl ho⟩
  · rw [a0]
    decide
  · rw [a0]
    decide
  · rw [a0, a0]
    decide
theorem t_X7_init : cg_O f_X7_init (fun z => mg_J z) := by
  unfold f_X7_init
  refine cg_q2 (cg_l2 (fun d y u => 0 ≤ y.toInt ∧ y.toInt ≤ 160 ∧ 160 - y.toInt ≤ (d : Int) ∧ mg_G z0 u ∧ u 4 = z0 4 ∧ u 12 = z0 12 ∧ ∀ r : Nat, (r : Int) < y.toInt → mg_A u r 0 = -1) (fun d r ih y u hh => ?_) 160 4096 (by decide) 0 z0 ⟨by decide, by decide, by decide, mg_refl j_z0, rfl, rfl, fun r hr => ?_⟩)
  · obtain ⟨i1, i2, i3, g, i4, i5, i6⟩ := hh
    refine cg_le2 (by decide : (160 : Int32).toInt = 160) (Eq.refl _) (fun h => ?_) (fun h => ?_)
    · refine cg_bn (t_X7_makes z0 u 0 1 15 (-1) g (by decide) (by decide) ?_ (by decide)) (fun z3 h3 => ?_)
      · rw [show (0 : Int32).toInt.toNat = 0 by decide]
        exact i6 0 (by omega)
      refine cg_chk (by decide) (cg_bv (fun u4 e4 => ?_))
      have g4 : mg_G z0 u4 := by
        rw [e4]
        exact mg_free (r0 := 0) (c0 := 3) h3.1 (by decide) (by decide) (by decide)
      refine cg_chk (by decide) (cg_bv (fun u5 e5 => ?_))
      have j5 : mg_J u5 := by
        rw [e5]
        exact mg_jup g4.1 (by decide) (by decide) (by decide) (by decide) (by decide) (by decide)
      refine cg_chk (by decide) (cg_bv (fun u6 e6 => ?_))
      have j6 : mg_J u6 := by
        rw [e6]
        exact mg_jup j5 (by decide) (by decide) (by decide) (by decide) (by decide) (by decide)
      refine cg_bn (t_X7_copies u6 0 1 (by decide) (by decide) (by decide) (by decide) (by decide)) (fun z7 h7 => ?_)
      have j7 : mg_J z7 := (mg_copy (mg_refl j6) (by decide) (by decide) (by decide) (by decide) h7.1 h7.2).1
      refine cg_q2 (cg_l2 (fun d y u => 0 ≤ y.toInt ∧ 4 - y.toInt ≤ (d : Int) ∧ mg_J u) (fun d r ih y u hh => ?_) 4 4096 (by decide) 0 z7 ⟨by decide, by decide, j7⟩)
      obtain ⟨k1, k2, k3⟩ := hh
      refine cg_le2 (by decide : (4 : Int32).toInt = 4) (Eq.refl _) (fun _ => cg_some k3) (fun h9 => ?_)
      refine cg_chk (inb_e (Eq.refl _) (by omega) (by omega)) (cg_bv (fun u10 e10 => ?_))
      have ey : (y + 1).toInt = y.toInt + 1 := add_e (Eq.refl _) (by decide) (by omega) (by omega)
      refine ih (d - 1) (y + 1) u10 (by omega) ⟨by omega, by omega, ?_⟩
      rw [e10]
      exact mg_jup k3 (by decide) (by decide) (by decide) (by decide) (by decide) (by decide)
    · have e1 : (53 * y).toInt = ((53 * y.toInt.toNat + 0 : Nat) : Int) := (cmul (by decide : (53 : Int32).toInt = 53) (by omega) (by omega)).trans (by omega)
      refine cg_chk (inb_e e1 (by omega) (by omega)) (cg_bv (fun u11 e11 => ?_))
      have ey : (y + 1).toInt = y.toInt + 1 := add_e (Eq.refl _) (by decide) (by omega) (by omega)
      refine ih (d - 1) (y + 1) u11 (by omega) ⟨by omega, by omega, by omega, ?_, ?_, ?_, fun r hr => ?_⟩
      · rw [e11]
        exact mg_kind g e1 (Or.inr ⟨fun p hp => by rw [i4]; rfl, fun k hk ho => absurd (by rw [i5]; rfl) ho⟩)
      · rw [e11]
        exact i4
      · rw [e11]
        exact i5
      · rw [e11, mg_st _ _ e1]
        by_cases e : 53 * r + 0 = 53 * y.toInt.toNat + 0
        · rw [if_pos e]
          decide
        · rw [if_neg e]
          exact i6 r (by omega)
  · rw [show (0 : Int32).toInt = 0 by decide] at hr
    omega
theorem r_fresh : mg_R U0 V0 := by
  refine ⟨?_, ?_, by decide +kernel, by decide +kernel, by decide +kernel, by decide +kernel⟩
  · have h := h6
    unfold f_X6_init at h
    obtain ⟨z, hz, hs⟩ := t_X4_init
    rw [hz, bn_q] at h
    obtain ⟨ow, _, h⟩ := bn_some h
    obtain ⟨ok, _, h⟩ := bn_some h
    obtain ⟨oc, _, h⟩ := bn_some h
    obtain ⟨oh, _, h⟩ := bn_some h
    obtain ⟨oe, _, h⟩ := bn_some h
    have h9 := Option.some.inj h
    intro c h1 h2
    rw [← h9]
    obtain rfl | rfl | rfl | rfl | rfl : c = 1 ∨ c = 2 ∨ c = 3 ∨ c = 4 ∨ c = 5 := by omega
    all_goals exact hs
  · obtain ⟨z, hz, hs⟩ := t_X7_init
    have h := h7
    rw [hz] at h
    rw [← Option.some.inj h]
    exact hs
