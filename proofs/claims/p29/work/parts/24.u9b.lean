/-- drop -/
theorem iss_eq {U : S2} {V : S1} (h : mg_R U V) (p : Int32) : (f_X6_isSnapshot U p = some 0 ∧ f_X7_isSnapshot V p = some 0) ∨ (f_X6_isSnapshot U p = some 1 ∧ f_X7_isSnapshot V p = some 1 ∧ 0 ≤ p.toInt ∧ p.toInt < 3) := by
  obtain ⟨c, hc, hq⟩ := t_X7_isIn p 0 2
  rw [show (0 : Int32).toInt = 0 by decide, show (2 : Int32).toInt = 2 by decide] at hq
  have e0 : some (vp_nar .boolean 0) = some (0 : Int32) := congrArg some (by decide)
  have e1 : some (vp_nar .boolean 1) = some (1 : Int32) := congrArg some (by decide)
  rcases hq with ⟨hc0, hq⟩ | ⟨hc1, hq1, hq2⟩
  · have hc0' : c = 0 := Int32.toInt_inj.mp (by rw [show (0 : Int32).toInt = 0 by decide]; exact hc0)
    subst hc0'
    refine Or.inl ⟨?_, ?_⟩
    · unfold f_X6_isSnapshot
      dsimp only [jn]
      by_cases h1 : p < 0
      · rw [if_pos h1]
        exact e0
      · rw [if_neg h1, if_pos (show (3 : Int32) ≤ p from Int32.le_iff_toInt_le.mpr (by
          have q2 := Int32.le_iff_toInt_le.mp (Int32.not_lt.mp h1)
          rw [show (0 : Int32).toInt = 0 by decide] at q2
          rw [show (3 : Int32).toInt = 3 by decide]
          omega))]
        exact e0
    · unfold f_X7_isSnapshot
      rw [hc, bn_q]
      dsimp only [jn]
      rw [if_pos rfl]
      exact e0
  · have hc1' : c = 1 := Int32.toInt_inj.mp (by rw [show (1 : Int32).toInt = 1 by decide]; exact hc1)
    subst hc1'
    have n1 : ¬ p < 0 := fun q => by
      have q1 := Int32.lt_iff_toInt_lt.mp q
      rw [show (0 : Int32).toInt = 0 by decide] at q1
      omega
    have n2 : ¬ (3 : Int32) ≤ p := fun q => by
      have q1 := Int32.le_iff_toInt_le.mp q
      rw [show (3 : Int32).toInt = 3 by decide] at q1
      omega
    have e2 : (2 + p).toInt = 2 + p.toInt := add_e (by decide) (Eq.refl _) (by omega) (by omega)
    have hi : inb p 3 = true := inb_t hq1 (by omega)
    have hi2 : inb (2 + p) 5 = true := inb_e e2 (by omega) (by omega)
    have hcl : (2 + p).toNatClampNeg = 2 + p.toNatClampNeg := by
      show (2 + p).toInt.toNat = 2 + p.toInt.toNat
      omega
    have hk := h.2.2.2.1 p.toNatClampNeg (show p.toInt.toNat < 3 by omega)
    have hA : f_X6_isSnapshot U p = some (if U 0 3 p.toNatClampNeg = 0 then 0 else 1) := by
      unfold f_X6_isSnapshot
      dsimp only [jn]
      rw [if_neg n1, if_neg n2, hi]
      show (if U 0 3 p.toNatClampNeg = 0 then _ else _) = _
      by_cases e : U 0 3 p.toNatClampNeg = 0
      · rw [if_pos e, if_pos e]
        exact e0
      · rw [if_neg e, if_neg e]
        exact e1
    have hB : f_X7_isSnapshot V p = some (if U 0 3 p.toNatClampNeg = 0 then 0 else 1) := by
      unfold f_X7_isSnapshot
      rw [hc, bn_q]
      dsimp only [jn]
      rw [if_neg (by decide), hi2, hcl, ← hk]
      show (if U 0 3 p.toNatClampNeg = 0 then _ else _) = _
      by_cases e : U 0 3 p.toNatClampNeg = 0
      · rw [if_pos e, if_pos e]
        exact e0
      · rw [if_neg e, if_neg e]
        exact e1
    by_cases e : U 0 3 p.toNatClampNeg = 0
    · rw [if_pos e] at hA hB
      exact Or.inl ⟨hA, hB⟩
    · rw [if_neg e] at hA hB
      exact Or.inr ⟨hA, hB, hq1, by omega⟩
theorem sp_drop {U : S2} {V : S1} (h : mg_R U V) (g : Nat → Int64) (p : Int32) : ∃ z1 z2, f_L_drop U g p = some z1 ∧ f_X7_drop V p = some z2 ∧ mg_R z1.2.1 z2.2 := by
  rcases iss_eq h p with ⟨ha, hb⟩ | ⟨ha, hb, hp1, hp2⟩
  · refine ⟨(1, U, g), (0, up V 18 (fun _ => 1)), ?_, ?_, mg_keep h (g_refl h.1) (mg_18 (mg_refl h.2.1) rfl).1⟩
    · unfold f_L_drop f_X6_drop
      rw [ha, bn_q, if_pos rfl, bn_q]
      dsimp only
      rw [if_neg (by decide), if_pos rfl]
    · unfold f_X7_drop
      rw [hb, bn_q]
      dsimp only [jn]
      rw [if_pos rfl, can_eq V 1, if_neg (by decide), bn_q]
      dsimp only
      rw [if_pos rfl]
  · have e2 : (2 + p).toInt = 2 + p.toInt := add_e (by decide) (Eq.refl _) (by omega) (by omega)
    have hi : inb p 3 = true := inb_t hp1 hp2
    have hi2 : inb (2 + p) 5 = true := inb_e e2 (by omega) (by omega)
    have hcl : (2 + p).toNatClampNeg = 2 + p.toNatClampNeg := by
      show (2 + p).toInt.toNat = 2 + p.toInt.toNat
      omega
    obtain ⟨h1, h2, h3, h4, h5, h6⟩ := h
    obtain ⟨a, ha2, _⟩ := t_X6_countOfUnused U h1
    have hu : cg_U (upc U 0 (stz (U 0) 3 p 0)) := mg_iu h1 (Or.inl rfl)
    obtain ⟨b, hb2, _⟩ := t_X6_countOfUnused (upc U 0 (stz (U 0) 3 p 0)) hu
    obtain ⟨c, hc2, _⟩ := t_X7_freeBlocks (up V 18 (fun _ => 0))
    obtain ⟨d, hd2, _⟩ := t_X7_freeBlocks (stz (up V 18 (fun _ => 0)) 1 (2 + p) 0)
    refine ⟨(0, upc U 0 (stz (U 0) 3 p 0), setL g (b - a).toInt64), (d - c, stz (up V 18 (fun _ => 0)) 1 (2 + p) 0), ?_, ?_, ?_⟩
    · unfold f_L_drop f_X6_drop
      rw [ha, bn_q, if_neg (by decide), ha2, bn_q, hi]
      show bn (bn (f_X6_countOfUnused (upc U 0 (stz (U 0) 3 p 0))) _) _ = _
      rw [hb2, bn_q, bn_q]
      dsimp only
      rw [if_pos rfl]
    · unfold f_X7_drop
      rw [hb, bn_q]
      dsimp only [jn]
      rw [if_neg (by decide), can_eq V 0, if_pos rfl, bn_q]
      dsimp only
      rw [if_neg (by decide), hc2, bn_q, hi2]
      show bn (f_X7_freeBlocks (stz (up V 18 (fun _ => 0)) 1 (2 + p) 0)) _ = _
      rw [hd2, bn_q]
    · show mg_R (upc U 0 (stz (U 0) 3 p 0)) (stz (up V 18 (fun _ => 0)) 1 (2 + p) 0)
      refine ⟨hu, mg_jup (mg_18 (f := fun _ => (0 : Int32)) (mg_refl h2) rfl).1.1 (by decide) (by decide) (by decide) (by decide) (by decide) (by decide), ?_, fun k hk => ?_, fun k hk => ?_, fun k hk => ?_⟩
      · rw [upc_s]
        unfold stz
        rw [up_o _ _ (show 10 ≠ 3 by decide), up_o _ _ (show 7 ≠ 1 by decide), up_o _ _ (show 7 ≠ 18 by decide)]
        exact h3
      · rw [upc_s]
        unfold stz
        rw [up_s, up_s]
        unfold upd
        rw [hcl]
        by_cases e : k = p.toNatClampNeg
        · rw [if_pos e, if_pos (by omega)]
        · rw [if_neg e, if_neg (by omega), up_o _ _ (show 1 ≠ 18 by decide)]
          exact h4 k hk
      · rw [upc_s]
        unfold stz
        rw [up_o _ _ (show 9 ≠ 3 by decide), up_o _ _ (show 8 ≠ 1 by decide), up_o _ _ (show 8 ≠ 18 by decide)]
        exact h5 k hk
      · rw [upc_o _ _ (show 7 ≠ 0 by decide)]
        unfold stz
        rw [up_o _ _ (show 3 ≠ 1 by decide), up_o _ _ (show 3 ≠ 18 by decide)]
        exact h6 k hk
/-- bad -/
theorem sp_bad {U : S2} {V : S1} (h : mg_R U V) (g : Nat → Int64) (p x : Int32) (hx : x = 0 ∨ x = 1) : ∃ z1 z2, f_L_bad U g p x = some z1 ∧ f_X7_bad V p x = some z2 ∧ mg_R z1.2.1 z2.2 ∧ z2.2 18 0 = z1.1 ∧ (z1.1 = 0 → (z2.1 = 0 → lg_cmp (z1.2.2 (0 : Int32).toNatClampNeg) 0 = 0) ∧ (¬ z2.1 = 0 → lg_cmp (z1.2.2 (0 : Int32).toNatClampNeg) 1 = 0)) := by
  obtain ⟨c, hc, hq⟩ := t_X7_isBlock p
  rcases hq with ⟨hc0, hq⟩ | ⟨hc1, hq1, hq2⟩
  · have hc0' : c = 0 := Int32.toInt_inj.mp (by rw [show (0 : Int32).toInt = 0 by decide]; exact hc0)
    subst hc0'
    have hd : f_X6_demandBlock U p = some (2, 0, U) := by
      unfold f_X6_demandBlock
      dsimp only [jn]
      by_cases h1 : p < 0
      · rw [if_pos h1]
      · rw [if_neg h1, if_neg (show ¬ p < 64 from fun q => by
          have q1 := Int32.lt_iff_toInt_lt.mp q
          have q2 := Int32.le_iff_toInt_le.mp (Int32.not_lt.mp h1)
          rw [show (64 : Int32).toInt = 64 by decide] at q1
          rw [show (0 : Int32).toInt = 0 by decide] at q2
          omega)]
    have e1 : f_L_bad U g p x = some (1, U, g) := by
      unfold f_L_bad f_X6_bad
      rw [hd, bn_q]
      dsimp only
      rw [if_neg (by decide), bn_q]
      dsimp only
      rw [if_neg (by decide), if_pos rfl]
    have e2 : f_X7_bad V p x = some (0, up V 18 (fun _ => 1)) := by
      unfold f_X7_bad
      rw [hc, bn_q]
      dsimp only [jn]
      rw [if_pos rfl, can_eq V 1, if_neg (by decide), bn_q]
      dsimp only
      rw [if_pos rfl]
    exact ⟨(1, U, g), (0, up V 18 (fun _ => 1)), e1, e2, mg_keep h (g_refl h.1) (mg_18 (mg_refl h.2.1) rfl).1, (by show up V 18 (fun _ => (1 : Int32)) 18 0 = 1; rw [up_s]), fun q => absurd (show (1 : Int32) = 0 from q) (by decide)⟩
  · have hc1' : c = 1 := Int32.toInt_inj.mp (by rw [show (1 : Int32).toInt = 1 by decide]; exact hc1)
    subst hc1'
    have n1 : ¬ p < 0 := fun q => by
      have q1 := Int32.lt_iff_toInt_lt.mp q
      rw [show (0 : Int32).toInt = 0 by decide] at q1
      omega
    have n2 : p < 64 := Int32.lt_iff_toInt_lt.mpr (by rw [show (64 : Int32).toInt = 64 by decide]; exact hq2)
    have n3 : ¬ (64 : Int32) ≤ p := Int32.not_le.mpr n2
    have hi : inb p 64 = true := inb_t hq1 hq2
    have hb : f_X2_isBlock p = some 1 := by
      unfold f_X2_isBlock
      dsimp only [jn]
      rw [if_neg n1, if_neg n3]
      exact congrArg some (by decide)
    obtain ⟨h1, h2, h3, h4, h5, h6⟩ := h
    have hk := h6 p.toNatClampNeg (show p.toInt.toNat < 64 by omega)
    have hd : f_X6_demandBlock U p = some (0, 0, U) := by
      unfold f_X6_demandBlock
      dsimp only [jn]
      rw [if_neg n1, if_pos n2]
    have e3 : f_X2_isBad (U 7) p = some (V 3 p.toNatClampNeg) := by
      unfold f_X2_isBad
      rw [hb, bn_q]
      dsimp only [jn]
      rw [if_neg (by decide), hi, hk.1]
      show (if V 3 p.toNatClampNeg = 0 then _ else _) = _
      rcases hk.2 with e | e
      · rw [if_pos e, e]
        exact congrArg some (by decide)
      · rw [if_neg (by rw [e]; decide), e]
        exact congrArg some (by decide)
    have e4 : f_X2_setBad (U 7) p x = some (stz (U 7) 1 p x) := by
      unfold f_X2_setBad
      rw [hb, bn_q]
      dsimp only [jn]
      rw [if_neg (by decide), hi]
      rfl
    have hv : vp_nar .boolean (V 3 p.toNatClampNeg) = V 3 p.toNatClampNeg := by
      rcases hk.2 with e | e <;> rw [e] <;> decide
    have hnx : vp_nar .boolean x = 0 ∨ vp_nar .boolean x = 1 := by
      rcases hx with rfl | rfl
      · exact Or.inl (by decide)
      · exact Or.inr (by decide)
    have e1 : f_L_bad U g p x = some (0, upc U 7 (stz (U 7) 1 p x), setL g (if V 3 p.toNatClampNeg = 0 then 0 else 1)) := by
      unfold f_L_bad f_X6_bad
      rw [hd, bn_q]
      dsimp only
      rw [if_pos rfl, e3, bn_q, e4, bn_q, hv]
      show bn (some ((0 : Nat), V 3 p.toNatClampNeg, upc U 7 (stz (U 7) 1 p x))) _ = _
      rw [bn_q]
      dsimp only
      rw [if_pos rfl]
      by_cases e : V 3 p.toNatClampNeg = 0
      · rw [if_pos e, if_pos e]
      · rw [if_neg e, if_neg e]
    have e2 : f_X7_bad V p x = some (V 3 p.toNatClampNeg, stz (up V 18 (fun _ => 0)) 3 p x) := by
      unfold f_X7_bad
      rw [hc, bn_q]
      dsimp only [jn]
      rw [if_neg (by decide), can_eq V 0, if_pos rfl, bn_q]
      dsimp only
      rw [if_neg (by decide), hi]
      show some (vp_nar .boolean ((up V 18 (fun _ => (0 : Int32))) 3 p.toNatClampNeg), _) = _
      rw [up_o V _ (show 3 ≠ 18 by decide), hv]
    refine ⟨_, _, e1, e2, ?_, ?_, fun _ => ⟨fun q => ?_, fun q => ?_⟩⟩
    · show mg_R (upc U 7 (stz (U 7) 1 p x)) (stz (up V 18 (fun _ => 0)) 3 p x)
      refine ⟨mg_iu h1 (Or.inr (by decide)), mg_jup (mg_18 (f := fun _ => (0 : Int32)) (mg_refl h2) rfl).1.1 (by decide) (by decide) (by decide) (by decide) (by decide) (by decide), ?_, fun k hk => ?_, fun k hk => ?_, fun k hk2 => ?_⟩
      · rw [upc_o _ _ (show 0 ≠ 7 by decide)]
        unfold stz
        rw [up_o _ _ (show 7 ≠ 3 by decide), up_o _ _ (show 7 ≠ 18 by decide)]
        exact h3
      · rw [upc_o _ _ (show 0 ≠ 7 by decide)]
        unfold stz
        rw [up_o _ _ (show 1 ≠ 3 by decide), up_o _ _ (show 1 ≠ 18 by decide)]
        exact h4 k hk
      · rw [upc_o _ _ (show 0 ≠ 7 by decide)]
        unfold stz
        rw [up_o _ _ (show 8 ≠ 3 by decide), up_o _ _ (show 8 ≠ 18 by decide)]
        exact h5 k hk
      · rw [upc_s]
        unfold stz
        rw [up_s, up_s]
        unfold upd
        by_cases e : k = p.toNatClampNeg
        · rw [if_pos e, if_pos e]
          exact ⟨rfl, hnx⟩
        · rw [if_neg e, if_neg e, up_o _ _ (show 3 ≠ 18 by decide)]
          exact h6 k hk2
    · show (stz (up V 18 (fun _ => 0)) 3 p x) 18 0 = 0
      unfold stz
      rw [up_o _ _ (show 18 ≠ 3 by decide), up_s]
    · dsimp only at q ⊢
      rw [setL_0, if_pos q]
      exact lg_self 0
    · dsimp only at q ⊢
      rw [setL_0, if_neg q]
      exact lg_self 1
