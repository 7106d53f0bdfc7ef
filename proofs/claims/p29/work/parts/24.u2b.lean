theorem t_X7_enters (V u0 : S1) (p1 p2 p3 : Int32) (g : mg_G V u0) (h2 : 0 ≤ p1.toInt) (h3 : p1.toInt ≤ 31) (h4 : 0 ≤ p3.toInt) (h5 : p3.toInt ≤ 31) (hr : mg_room u0 p1.toInt.toNat) : cg_O (f_X7_enters u0 p1 p2 p3) (fun z => mg_G V z) := by
  unfold f_X7_enters
  dsimp only [jn]
  refine cg_bn (t_X7_at 0 p1 (by decide) (by decide) h2 h3) (fun z hz => ?_)
  refine cg_bn (t_X7_entries u0 0 p1 (by decide) (by decide) h2 h3) (fun n hn => ?_)
  rw [show (0 : Int32).toInt = 0 by decide] at hz hn
  have hn8 : n.toInt ≤ 7 := by
    obtain ⟨k, hk, hk2⟩ := hr
    by_cases h8 : n.toInt = 8
    · have := hn.2.2.2 h8 k hk
      rw [show 32 * (0 : Int).toNat + p1.toInt.toNat = p1.toInt.toNat by omega] at this
      exact absurd hk2 this
    · omega
  refine cg_q2 (cg_l2 (fun d y u => 0 ≤ y.toInt ∧ y.toInt ≤ 7 ∧ y.toInt ≤ (d : Int) ∧ mg_G V u) (fun d r ih y u hh => ?_) 8 4096 (by decide) n u0 ⟨hn.1, hn8, by omega, g⟩)
  obtain ⟨i1, i2, i3, gu⟩ := hh
  have e1 : ((z + 5) + y).toInt = ((53 * p1.toInt.toNat + (5 + y.toInt.toNat) : Nat) : Int) := (add_e (add_e hz (by decide : (5 : Int32).toInt = 5) (by omega) (by omega)) (Eq.refl _) (by omega) (by omega)).trans (by omega)
  have e2 : ((z + 13) + y).toInt = ((53 * p1.toInt.toNat + (13 + y.toInt.toNat) : Nat) : Int) := (add_e (add_e hz (by decide : (13 : Int32).toInt = 13) (by omega) (by omega)) (Eq.refl _) (by omega) (by omega)).trans (by omega)
  have k0 : cg_O (chk (inb ((z + 5) + y) 8480) (bv (st u 0 ((z + 5) + y) p2) (fun u_5 => chk (inb ((z + 13) + y) 8480) (bv (st u_5 0 ((z + 13) + y) p3) (fun u_6 => some (u_6)))))) (fun z => mg_G V z) := by
    refine cg_chk (inb_e e1 (by omega) (by omega)) ?_
    refine cg_bv (fun u5 e5 => ?_)
    refine cg_chk (inb_e e2 (by omega) (by omega)) ?_
    refine cg_bv (fun u6 e6 => cg_some ?_)
    subst e5 e6
    exact mg_thing (mg_free gu e1 (by omega) (by omega)) e2 (by omega) (by omega) h5
  refine cg_le2 (Eq.refl _) (by decide : (0 : Int32).toInt = 0) (fun h => k0) (fun h => ?_)
  have e3 : (((z + 5) + y) - 1).toInt = ((53 * p1.toInt.toNat + (5 + (y.toInt.toNat - 1)) : Nat) : Int) := (sub_e e1 (by decide : (1 : Int32).toInt = 1) (by omega) (by omega)).trans (by omega)
  have e4 : (((z + 13) + y) - 1).toInt = ((53 * p1.toInt.toNat + (13 + (y.toInt.toNat - 1)) : Nat) : Int) := (sub_e e2 (by decide : (1 : Int32).toInt = 1) (by omega) (by omega)).trans (by omega)
  refine cg_chk (inb_e e3 (by omega) (by omega)) ?_
  refine cg_i (fun h6 => k0) (fun h6 => ?_)
  refine cg_chk (inb_e e3 (by omega) (by omega)) ?_
  refine cg_chk (inb_e e1 (by omega) (by omega)) ?_
  refine cg_bv (fun u9 e9 => ?_)
  have g9 : mg_G V u9 := by
    rw [e9]
    exact mg_free gu e1 (by omega) (by omega)
  refine cg_chk (inb_e e4 (by omega) (by omega)) ?_
  refine cg_chk (inb_e e2 (by omega) (by omega)) ?_
  refine cg_bv (fun u10 e10 => ?_)
  have hv := mg_jt u9 g9.1 e4 (by omega) (by omega)
  have g10 : mg_G V u10 := by
    rw [e10]
    exact mg_thing g9 e2 (by omega) hv.1 hv.2
  have e7 : (y + (-1)).toInt = y.toInt + -1 := add_e (Eq.refl _) (by decide : (-1 : Int32).toInt = -1) (by omega) (by omega)
  clear k0 e1 e2 e3 e4 hv hz hn hr e9 e10 g9
  exact ih (d - 1) (y + (-1)) u10 (by omega) ⟨by omega, by omega, by omega, g10⟩
