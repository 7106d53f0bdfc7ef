-- THE REFERENCE: what changes a thing
/-- some place of a folder has no name -/
def mg_room (V : S1) (r : Nat) : Prop := ∃ k, k < 8 ∧ mg_A V r (5 + k) = -1
theorem t_X7_digs (V u0 : S1) (p1 p2 : Int32) (g : mg_G V u0) (h2 : 0 ≤ p1.toInt) (h3 : p1.toInt ≤ 31) (h4 : 0 ≤ p2.toInt) (h5 : p2.toInt ≤ 15) : cg_O (f_X7_digs u0 p1 p2) (fun z => mg_G V z ∧ (∀ r c, c < 21 → mg_A z r c = mg_A u0 r c) ∧ (∀ r c, r ≠ p1.toInt.toNat → c < 53 → mg_A z r c = mg_A u0 r c) ∧ (∀ n, z 4 n = if n = 16 * p1.toInt.toNat + p2.toInt.toNat then 0 else u0 4 n) ∧ z 9 = u0 9 ∧ z 10 = u0 10 ∧ z 12 = u0 12 ∧ z 11 = u0 11 ∧ z 18 = u0 18) := by
  unfold f_X7_digs
  refine cg_bn (t_X7_at 0 p1 (by decide) (by decide) h2 h3) (fun z hz => ?_)
  rw [show (0 : Int32).toInt = 0 by decide] at hz
  have e : ((z + 21) + p2).toInt = ((53 * p1.toInt.toNat + (21 + p2.toInt.toNat) : Nat) : Int) := (add_e (add_e hz (by decide : (21 : Int32).toInt = 21) (by omega) (by omega)) (Eq.refl _) (by omega) (by omega)).trans (by omega)
  refine cg_chk (inb_e e (by omega) (by omega)) ?_
  refine cg_bv (fun u2 e2 => ?_)
  refine cg_bn (t_X7_at 0 p1 (by decide) (by decide) h2 h3) (fun z3 hz3 => ?_)
  rw [show (0 : Int32).toInt = 0 by decide] at hz3
  have e3 : ((z3 + 37) + p2).toInt = ((53 * p1.toInt.toNat + (37 + p2.toInt.toNat) : Nat) : Int) := (add_e (add_e hz3 (by decide : (37 : Int32).toInt = 37) (by omega) (by omega)) (Eq.refl _) (by omega) (by omega)).trans (by omega)
  refine cg_chk (inb_e e3 (by omega) (by omega)) ?_
  refine cg_bv (fun u4 e4 => ?_)
  have e5 : ((16 * p1) + p2).toInt = ((16 * p1.toInt.toNat + p2.toInt.toNat : Nat) : Int) := (add_e (cmul (by decide : (16 : Int32).toInt = 16) (by omega) (by omega)) (Eq.refl _) (by omega) (by omega)).trans (by omega)
  refine cg_chk (inb_e e5 (by omega) (by omega)) ?_
  refine cg_bv (fun u5 e6 => ?_)
  subst e2 e4 e6
  refine cg_some ⟨mg_dig g e e3 e5 (by omega), fun r c hc => ?_, fun r c hr hc => ?_, fun n => ?_, rfl, rfl, rfl, rfl, rfl⟩
  · unfold stz
    rw [mg_up _ _ (by decide), mg_st _ 0 e3, mg_st _ (-1) e, if_neg (by omega), if_neg (by omega)]
  · unfold stz
    rw [mg_up _ _ (by decide), mg_st _ 0 e3, mg_st _ (-1) e, if_neg (by omega), if_neg (by omega)]
  · unfold stz
    rw [up_s]
    unfold upd
    rw [mg_ix e5]
    by_cases h : n = 16 * p1.toInt.toNat + p2.toInt.toNat
    · rw [if_pos h, if_pos h]
      decide
    · rw [if_neg h, if_neg h]
      rfl
theorem t_X7_goes (V u0 : S1) (p1 : Int32) (g : mg_G V u0) (h2 : 0 ≤ p1.toInt) (h3 : p1.toInt ≤ 31) (hh : ∀ k, k < 30 → u0 12 k ≠ 0 → u0 10 k ≠ p1) : cg_O (f_X7_goes u0 p1) (fun z => mg_G V z ∧ (∀ r c, 1 ≤ c → c < 21 → mg_A z r c = mg_A u0 r c) ∧ (∀ r c, r ≠ p1.toInt.toNat → c < 53 → mg_A z r c = mg_A u0 r c) ∧ z 9 = u0 9 ∧ z 10 = u0 10 ∧ z 12 = u0 12) := by
  unfold f_X7_goes
  refine cg_q2 (cg_l2 (fun d y u => 0 ≤ y.toInt ∧ y.toInt ≤ 16 ∧ 16 - y.toInt ≤ (d : Int) ∧ mg_G V u ∧ (∀ r c, c < 21 → mg_A u r c = mg_A u0 r c) ∧ (∀ r c, r ≠ p1.toInt.toNat → c < 53 → mg_A u r c = mg_A u0 r c) ∧ (∀ p : Nat, (p : Int) < y.toInt → u 4 (16 * p1.toInt.toNat + p) = 0) ∧ u 9 = u0 9 ∧ u 10 = u0 10 ∧ u 12 = u0 12) (fun d r ih y u hh2 => ?_) 16 4096 (by decide) 0 u0 ⟨by decide, by decide, by decide, g, fun _ _ _ => rfl, fun _ _ _ _ => rfl, fun p hp => ?_, rfl, rfl, rfl⟩)
  · obtain ⟨i1, i2, i3, i4, i5, i6, i7, i8, i9, i10⟩ := hh2
    refine cg_le2 (by decide : (16 : Int32).toInt = 16) (Eq.refl _) (fun h => ?_) (fun h => ?_)
    · refine cg_bn (t_X7_at 0 p1 (by decide) (by decide) h2 h3) (fun z hz => ?_)
      rw [show (0 : Int32).toInt = 0 by decide] at hz
      have e : z.toInt = ((53 * p1.toInt.toNat + 0 : Nat) : Int) := by omega
      refine cg_chk (inb_e e (by omega) (by omega)) ?_
      refine cg_bv (fun u4 e4 => ?_)
      refine cg_chk (inb_e (Eq.refl _) (by omega) (by omega)) ?_
      refine cg_bv (fun u5 e5 => ?_)
      subst e4 e5
      have g4 : mg_G V (st u 0 z (-1)) := mg_kind i4 e (Or.inr ⟨fun p hp => i7 p (by omega), fun k hk ho => by
        rw [i10] at ho
        rw [i9]
        have h9 := hh k hk ho
        have h10 := g.1.2.1.2.2 k hk
        intro h11
        refine h9 (Int32.toInt_inj.mp ?_)
        have : (u0 10 k).toNatClampNeg = (u0 10 k).toInt.toNat := rfl
        omega⟩)
      refine cg_some ⟨mg_up' g4 (by decide), fun r c hc hc2 => ?_, fun r c hr hc => ?_, i8, i9, i10⟩
      · unfold stz
        rw [mg_up _ _ (by decide), mg_st _ (-1) e, if_neg (by omega)]
        exact i5 r c hc2
      · unfold stz
        rw [mg_up _ _ (by decide), mg_st _ (-1) e, if_neg (by omega)]
        exact i6 r c hr hc
    · refine cg_bn (t_X7_digs V u p1 y i4 h2 h3 i1 (by omega)) (fun z hz => ?_)
      obtain ⟨z1, z2, z3, z4, z5, z6, z7, z8, z9⟩ := hz
      have e2 : (y + 1).toInt = y.toInt + 1 := add_e (Eq.refl _) (by decide) (by omega) (by omega)
      refine ih (d - 1) (y + 1) z (by omega) ⟨by omega, by omega, by omega, z1, fun r c hc => (z2 r c hc).trans (i5 r c hc), fun r c hr hc => (z3 r c hr hc).trans (i6 r c hr hc), fun p hp => ?_, z5.trans i8, z6.trans i9, z7.trans i10⟩
      rw [z4]
      by_cases h9 : p = y.toInt.toNat
      · rw [if_pos (by omega)]
      · rw [if_neg (by omega)]
        exact i7 p (by omega)
  · rw [show (0 : Int32).toInt = 0 by decide] at hp
    omega
theorem t_X7_loses (V u0 : S1) (p1 : Int32) (g : mg_G V u0) (h2 : 0 ≤ p1.toInt) (h3 : p1.toInt ≤ 31) : cg_O (f_X7_loses u0 p1) (fun z => mg_G V z.2 ∧ (∀ r c, 4 ≤ c → c < 21 → mg_A z.2 r c = mg_A u0 r c)) := by
  unfold f_X7_loses
  dsimp only [jn]
  refine cg_bn (t_X7_at 0 p1 (by decide) (by decide) h2 h3) (fun z hz => ?_)
  rw [show (0 : Int32).toInt = 0 by decide] at hz
  have e : (z + 3).toInt = ((53 * p1.toInt.toNat + 3 : Nat) : Int) := (add_e hz (by decide : (3 : Int32).toInt = 3) (by omega) (by omega)).trans (by omega)
  refine cg_chk (inb_e e (by omega) (by omega)) ?_
  refine cg_chk (inb_e e (by omega) (by omega)) ?_
  refine cg_bv (fun u2 e2 => ?_)
  have g2 : mg_G V u2 := by
    rw [e2]
    exact mg_free g e (by decide) (by decide)
  have a2 : ∀ r c, 4 ≤ c → c < 21 → mg_A u2 r c = mg_A u0 r c := fun r c hc hc2 => by rw [e2, mg_st _ _ e, if_neg (by omega)]
  refine cg_bn (t_X7_at 0 p1 (by decide) (by decide) h2 h3) (fun z3 hz3 => ?_)
  rw [show (0 : Int32).toInt = 0 by decide] at hz3
  have e3 : (z3 + 3).toInt = ((53 * p1.toInt.toNat + 3 : Nat) : Int) := (add_e hz3 (by decide : (3 : Int32).toInt = 3) (by omega) (by omega)).trans (by omega)
  refine cg_chk (inb_e e3 (by omega) (by omega)) ?_
  have k0 : cg_O (if (0 : Int32) = 0 then some (vp_nar .boolean 0, u2) else bn (f_X7_goes u2 p1) (fun z_7 => some (vp_nar .boolean 0, z_7))) (fun z => mg_G V z.2 ∧ (∀ r c, 4 ≤ c → c < 21 → mg_A z.2 r c = mg_A u0 r c)) := by
    rw [if_pos rfl]
    exact cg_some ⟨g2, a2⟩
  refine cg_i (fun h => ?_) (fun h => k0)
  refine cg_bn (t_X7_isHeld u2 p1 g2.1) (fun z10 h10 => ?_)
  refine cg_eq2 (Eq.refl _) (by decide : (0 : Int32).toInt = 0) (fun h5 => ?_) (fun h5 => k0)
  rw [if_neg (show ¬ (1 : Int32) = 0 by decide)]
  refine cg_bn (t_X7_goes V u2 p1 g2 h2 h3 (h10 h5)) (fun z7 h7 => ?_)
  exact cg_some ⟨h7.1, fun r c hc hc2 => (h7.2.1 r c (by omega) hc2).trans (a2 r c hc hc2)⟩
