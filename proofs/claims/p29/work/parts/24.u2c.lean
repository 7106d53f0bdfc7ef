theorem t_X7_leaves (V u0 : S1) (p1 p2 : Int32) (g : mg_G V u0) (h2 : 0 ≤ p1.toInt) (h3 : p1.toInt ≤ 31) : cg_O (f_X7_leaves u0 p1 p2) (fun z => mg_G V z ∧ mg_room z p1.toInt.toNat ∧ (∀ r c, r ≠ p1.toInt.toNat → c < 53 → mg_A z r c = mg_A u0 r c)) := by
  unfold f_X7_leaves
  refine cg_bn (t_X7_at 0 p1 (by decide) (by decide) h2 h3) (fun z hz => ?_)
  refine cg_bn (t_X7_entries u0 0 p1 (by decide) (by decide) h2 h3) (fun n hn => ?_)
  refine cg_bn (t_X7_placeOf u0 0 p1 p2 (by decide) (by decide) h2 h3) (fun k hk => ?_)
  rw [show (0 : Int32).toInt = 0 by decide] at hz hn
  rw [show 32 * (0 : Int).toNat + p1.toInt.toNat = p1.toInt.toNat by omega] at hn
  have el : (n - 1).toInt = n.toInt - 1 := sub_e (Eq.refl _) (by decide : (1 : Int32).toInt = 1) (by omega) (by omega)
  refine cg_q2 (cg_l2 (fun d y u => -1 ≤ y.toInt ∧ y.toInt ≤ 7 ∧ 7 - y.toInt ≤ (d : Int) ∧ mg_G V u ∧ (∀ r c, r ≠ p1.toInt.toNat → c < 53 → mg_A u r c = mg_A u0 r c) ∧ (n.toInt = 0 → mg_A u p1.toInt.toNat 5 = -1)) (fun d r ih y u hh => ?_) 8 4096 (by decide) k u0 ⟨hk.1, hk.2, by omega, g, fun _ _ _ _ => rfl, fun h => ?_⟩)
  · obtain ⟨i1, i2, i3, gu, i4, i5⟩ := hh
    have a1 : (((z + 5) + (n - 1))).toInt = ((53 * p1.toInt.toNat + (n.toInt.toNat + 4) : Nat) : Int) := (add_e (add_e hz (by decide : (5 : Int32).toInt = 5) (by omega) (by omega)) el (by omega) (by omega)).trans (by omega)
    have a2 : (((z + 13) + (n - 1))).toInt = ((53 * p1.toInt.toNat + (n.toInt.toNat + 12) : Nat) : Int) := (add_e (add_e hz (by decide : (13 : Int32).toInt = 13) (by omega) (by omega)) el (by omega) (by omega)).trans (by omega)
    have b1 : ((z + 5) + y).toInt = ((53 * p1.toInt.toNat + (y.toInt + 5).toNat : Nat) : Int) := (add_e (add_e hz (by decide : (5 : Int32).toInt = 5) (by omega) (by omega)) (Eq.refl _) (by omega) (by omega)).trans (by omega)
    have b2 : ((z + 13) + y).toInt = ((53 * p1.toInt.toNat + (y.toInt + 13).toNat : Nat) : Int) := (add_e (add_e hz (by decide : (13 : Int32).toInt = 13) (by omega) (by omega)) (Eq.refl _) (by omega) (by omega)).trans (by omega)
    refine cg_le2 el (Eq.refl _) (fun h => ?_) (fun h => ?_)
    · refine cg_chk (inb_e a1 (by omega) (by omega)) ?_
      refine cg_bv (fun u6 e6 => ?_)
      have g6 : mg_G V u6 := by
        rw [e6]
        exact mg_free gu a1 (by omega) (by omega)
      refine cg_chk (inb_e a2 (by omega) (by omega)) ?_
      refine cg_bv (fun u7 e7 => cg_some ?_)
      have g7 : mg_G V u7 := by
        rw [e7]
        by_cases hn0 : n.toInt = 0
        · exact mg_free (r0 := p1.toInt.toNat) (c0 := 12) g6 (a2.trans (by omega)) (by decide) (by decide)
        · exact mg_thing (r0 := p1.toInt.toNat) (k0 := n.toInt.toNat - 1) g6 (a2.trans (by omega)) (by omega) (by decide) (by decide)
      refine ⟨g7, ?_, fun r c hr hc => ?_⟩
      · by_cases hn0 : n.toInt = 0
        · refine ⟨0, by decide, ?_⟩
          rw [e7, mg_st _ _ a2, if_neg (by omega), e6, mg_st _ _ a1, if_neg (by omega)]
          exact i5 hn0
        · refine ⟨n.toInt.toNat - 1, by omega, ?_⟩
          rw [e7, mg_st _ _ a2, if_neg (by omega), e6, mg_st _ _ a1, if_pos (by omega)]
          decide
      · rw [e7, mg_st _ _ a2, if_neg (by omega), e6, mg_st _ _ a1, if_neg (by omega)]
        exact i4 r c hr hc
    · have c1 : (((z + 5) + y) + 1).toInt = ((53 * p1.toInt.toNat + (y.toInt + 6).toNat : Nat) : Int) := (add_e b1 (by decide : (1 : Int32).toInt = 1) (by omega) (by omega)).trans (by omega)
      have c2 : (((z + 13) + y) + 1).toInt = ((53 * p1.toInt.toNat + (13 + (y.toInt + 1).toNat) : Nat) : Int) := (add_e b2 (by decide : (1 : Int32).toInt = 1) (by omega) (by omega)).trans (by omega)
      refine cg_chk (inb_e c1 (by omega) (by omega)) ?_
      refine cg_chk (inb_e b1 (by omega) (by omega)) ?_
      refine cg_bv (fun u8 e8 => ?_)
      have g8 : mg_G V u8 := by
        rw [e8]
        exact mg_free gu b1 (by omega) (by omega)
      refine cg_chk (inb_e c2 (by omega) (by omega)) ?_
      refine cg_chk (inb_e b2 (by omega) (by omega)) ?_
      refine cg_bv (fun u9 e9 => ?_)
      have hv := mg_jt u8 g8.1 c2 (by omega) (by omega)
      have g9 : mg_G V u9 := by
        rw [e9]
        by_cases hy : y.toInt = -1
        · exact mg_free (r0 := p1.toInt.toNat) (c0 := 12) g8 (b2.trans (by omega)) (by decide) (by decide)
        · exact mg_thing (r0 := p1.toInt.toNat) (k0 := y.toInt.toNat) g8 (b2.trans (by omega)) (by omega) hv.1 hv.2
      have e2 : (y + 1).toInt = y.toInt + 1 := add_e (Eq.refl _) (by decide) (by omega) (by omega)
      have f1 : d - 1 < d ∧ -1 ≤ (y + 1).toInt ∧ (y + 1).toInt ≤ 7 ∧ 7 - (y + 1).toInt ≤ ((d - 1 : Nat) : Int) := by
        clear a1 a2 b1 b2 c1 c2 hv
        omega
      refine ih (d - 1) (y + 1) u9 f1.1 ⟨f1.2.1, f1.2.2.1, f1.2.2.2, g9, fun r c hr hc => ?_, fun h0 => by clear a1 a2 b1 b2 c1 c2 hv; omega⟩
      rw [e9, mg_st _ _ b2, if_neg (by omega), e8, mg_st _ _ b1, if_neg (by omega)]
      exact i4 r c hr hc
  · have := hn.2.2.1 (by omega)
    rw [h] at this
    exact this
