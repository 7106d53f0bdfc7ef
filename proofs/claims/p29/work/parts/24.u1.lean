-- THE REFERENCE: reading
theorem mg_jo (V : S1) (h : mg_J V) {i : Int32} {r : Nat} (hi : i.toInt = ((53 * r + 1 : Nat) : Int)) (hr : r < 160) : 0 ≤ (V 0 i.toNatClampNeg).toInt ∧ (V 0 i.toNatClampNeg).toInt ≤ 3 := by
  rw [mg_ix hi]
  exact h.1.1 r hr
theorem mg_jt (V : S1) (h : mg_J V) {i : Int32} {r k : Nat} (hi : i.toInt = ((53 * r + (13 + k) : Nat) : Int)) (hr : r < 160) (hk : k < 8) : -1 ≤ (V 0 i.toNatClampNeg).toInt ∧ (V 0 i.toNatClampNeg).toInt ≤ 31 := by
  rw [mg_ix hi]
  exact h.1.2.1 r k hr hk
theorem mg_jb (V : S1) (h : mg_J V) {i : Int32} {r p : Nat} (hi : i.toInt = ((53 * r + (21 + p) : Nat) : Int)) (hr : r < 160) (hp : p < 16) : -1 ≤ (V 0 i.toNatClampNeg).toInt ∧ (V 0 i.toNatClampNeg).toInt ≤ 63 := by
  rw [mg_ix hi]
  exact ⟨(h.1.2.2 r p hr hp).1, (h.1.2.2 r p hr hp).2.1⟩
theorem mg_a {V : S1} {i : Int32} {r c : Nat} (hi : i.toInt = ((53 * r + c : Nat) : Int)) : (V 0 i.toNatClampNeg).toInt = mg_A V r c := by
  unfold mg_A
  rw [mg_ix hi]
theorem mg_jw (V : S1) (h : mg_J V) {i j : Int32} {r p : Nat} (hi : i.toInt = ((53 * r + (37 + p) : Nat) : Int)) (hj : j.toInt = ((53 * r + (21 + p) : Nat) : Int)) (hr : r < 160) (hp : p < 16) (hw : (V 0 i.toNatClampNeg).toInt = 2) : 0 ≤ (V 0 j.toNatClampNeg).toInt ∧ (V 0 j.toNatClampNeg).toInt ≤ 63 := by
  rw [mg_a hi] at hw
  rw [mg_a hj]
  exact ⟨(h.1.2.2 r p hr hp).2.2 hw, (h.1.2.2 r p hr hp).2.1⟩
theorem mg_jh (V : S1) (h : mg_J V) (i : Int32) (h0 : 0 ≤ i.toInt) (h1 : i.toInt < 30) : 0 ≤ (V 10 i.toNatClampNeg).toInt ∧ (V 10 i.toNatClampNeg).toInt ≤ 31 := h.2.1.2.2 _ (show i.toInt.toNat < 30 by omega)
theorem mg_jn (V : S1) (h : mg_J V) : 0 ≤ (V 9 0).toInt ∧ (V 9 0).toInt ≤ 30 := h.2.1.2.1
theorem mg_ju (V : S1) (h : mg_J V) : 0 ≤ (V 7 0).toInt ∧ (V 7 0).toInt ≤ 3 := h.2.1.1
theorem t_X7_thrown (u0 : S1) : cg_O (f_X7_thrown u0) (fun z => z = u0 18 0) := ⟨_, rfl, rfl⟩
theorem t_X7_can (u0 : S1) (p1 : Int32) : cg_O (f_X7_can u0 p1) (fun z => z.2 = up u0 18 (fun _ => p1) ∧ ((z.1.toInt = 0 ∧ p1.toInt ≠ 0) ∨ (z.1.toInt = 1 ∧ p1.toInt = 0))) := by
  unfold f_X7_can
  dsimp only [jn]
  refine cg_bv (fun u e => ?_)
  refine cg_eq2 (Eq.refl _) (by decide : (0 : Int32).toInt = 0) (fun h => ?_) (fun h => ?_)
  · exact cg_some ⟨e, Or.inr ⟨(by decide : (vp_nar .boolean 1).toInt = 1), h⟩⟩
  · exact cg_some ⟨e, Or.inl ⟨(by decide : (vp_nar .boolean 0).toInt = 0), h⟩⟩
theorem t_X7_isIn (p0 p1 p2 : Int32) : cg_O (f_X7_isIn p0 p1 p2) (fun z => (z.toInt = 0 ∧ (p0.toInt < p1.toInt ∨ p2.toInt < p0.toInt)) ∨ (z.toInt = 1 ∧ p1.toInt ≤ p0.toInt ∧ p0.toInt ≤ p2.toInt)) := by
  unfold f_X7_isIn
  dsimp only [jn]
  refine cg_lt2 (Eq.refl _) (Eq.refl _) (fun h => ?_) (fun h => ?_)
  · exact cg_some (Or.inl ⟨(by decide : (vp_nar .boolean 0).toInt = 0), Or.inl h⟩)
  · refine cg_lt2 (Eq.refl _) (Eq.refl _) (fun h2 => ?_) (fun h2 => ?_)
    · exact cg_some (Or.inl ⟨(by decide : (vp_nar .boolean 0).toInt = 0), Or.inr h2⟩)
    · exact cg_some (Or.inr ⟨(by decide : (vp_nar .boolean 1).toInt = 1), h, h2⟩)
theorem mg_vb {z : Int32} (h : z.toInt = 0 ∨ z.toInt = 1) : (vp_nar .boolean z).toInt = z.toInt := by
  rcases h with h | h
  · have : z = 0 := Int32.toInt_inj.mp h
    subst this
    decide
  · have : z = 1 := Int32.toInt_inj.mp h
    subst this
    decide
theorem t_X7_at (p0 p1 : Int32) (h0 : 0 ≤ p0.toInt) (h1 : p0.toInt ≤ 4) (h2 : 0 ≤ p1.toInt) (h3 : p1.toInt ≤ 31) : cg_O (f_X7_at p0 p1) (fun z => z.toInt = 1696 * p0.toInt + 53 * p1.toInt) := by
  unfold f_X7_at
  exact cg_some (add_e (cmul (by decide : (1696 : Int32).toInt = 1696) (by omega) (by omega)) (cmul (by decide : (53 : Int32).toInt = 53) (by omega) (by omega)) (by omega) (by omega))
theorem t_X7_isPage (p0 : Int32) : cg_O (f_X7_isPage p0) (fun z => z.toInt = 0 ∨ (0 ≤ p0.toInt ∧ p0.toInt < 16)) := by
  unfold f_X7_isPage
  refine cg_bn (t_X7_isIn p0 0 15) (fun z hz => ?_)
  rw [show (0 : Int32).toInt = 0 by decide, show (15 : Int32).toInt = 15 by decide] at hz
  exact cg_some (show (vp_nar .boolean z).toInt = 0 ∨ (0 ≤ p0.toInt ∧ p0.toInt < 16) by rw [mg_vb (by omega)]; omega)
theorem t_X7_isUser (p0 : Int32) : cg_O (f_X7_isUser p0) (fun z => (z.toInt = 0 ∧ (p0.toInt < 0 ∨ 3 < p0.toInt)) ∨ (z.toInt = 1 ∧ 0 ≤ p0.toInt ∧ p0.toInt < 4)) := by
  unfold f_X7_isUser
  refine cg_bn (t_X7_isIn p0 0 3) (fun z hz => ?_)
  rw [show (0 : Int32).toInt = 0 by decide, show (3 : Int32).toInt = 3 by decide] at hz
  exact cg_some (show ((vp_nar .boolean z).toInt = 0 ∧ (p0.toInt < 0 ∨ 3 < p0.toInt)) ∨ ((vp_nar .boolean z).toInt = 1 ∧ 0 ≤ p0.toInt ∧ p0.toInt < 4) by rw [mg_vb (by omega)]; omega)
theorem t_X7_isPath (p0 : Int32) : cg_O (f_X7_isPath p0) (fun z => z.toInt = 0 ∨ (1 ≤ p0.toInt ∧ p0.toInt ≤ 99999999)) := by
  unfold f_X7_isPath
  refine cg_bn (t_X7_isIn p0 1 99999999) (fun z hz => ?_)
  rw [show (1 : Int32).toInt = 1 by decide, show (99999999 : Int32).toInt = 99999999 by decide] at hz
  exact cg_some (show (vp_nar .boolean z).toInt = 0 ∨ (1 ≤ p0.toInt ∧ p0.toInt ≤ 99999999) by rw [mg_vb (by omega)]; omega)
theorem t_X7_areRights (p0 : Int32) : cg_O (f_X7_areRights p0) (fun _ => True) := by
  unfold f_X7_areRights
  exact cg_bn (t_X7_isIn p0 0 15) (fun z _ => cg_some trivial)
theorem t_X7_isBlock (p0 : Int32) : cg_O (f_X7_isBlock p0) (fun z => (z.toInt = 0 ∧ (p0.toInt < 0 ∨ 63 < p0.toInt)) ∨ (z.toInt = 1 ∧ 0 ≤ p0.toInt ∧ p0.toInt < 64)) := by
  unfold f_X7_isBlock
  refine cg_bn (t_X7_isIn p0 0 63) (fun z hz => ?_)
  rw [show (0 : Int32).toInt = 0 by decide, show (63 : Int32).toInt = 63 by decide] at hz
  exact cg_some (show ((vp_nar .boolean z).toInt = 0 ∧ (p0.toInt < 0 ∨ 63 < p0.toInt)) ∨ ((vp_nar .boolean z).toInt = 1 ∧ 0 ≤ p0.toInt ∧ p0.toInt < 64) by rw [mg_vb (by omega)]; omega)
theorem t_X7_isHandle (u0 : S1) (p1 : Int32) (hJ : mg_J u0) : cg_O (f_X7_isHandle u0 p1) (fun z => z.toInt = 0 ∨ (0 ≤ p1.toInt ∧ p1.toInt < (u0 9 0).toInt ∧ p1.toInt < 30)) := by
  unfold f_X7_isHandle
  have hn := mg_jn u0 hJ
  refine cg_bn (t_X7_isIn p1 0 (u0 9 0 - 1)) (fun z hz => ?_)
  rw [show (0 : Int32).toInt = 0 by decide, (sub_e (Eq.refl _) (by decide : (1 : Int32).toInt = 1) (by omega) (by omega) : (u0 9 0 - 1).toInt = (u0 9 0).toInt - 1)] at hz
  exact cg_some (show (vp_nar .boolean z).toInt = 0 ∨ (0 ≤ p1.toInt ∧ p1.toInt < (u0 9 0).toInt ∧ p1.toInt < 30) by rw [mg_vb (by omega)]; omega)
/-- the kind of a thing, over the integers -/
theorem t_X7_kindOf (u0 : S1) (p1 : Int32) (h2 : 0 ≤ p1.toInt) (h3 : p1.toInt ≤ 31) : cg_O (f_X7_kindOf u0 p1) (fun z => z.toInt = mg_A u0 p1.toInt.toNat 0) := by
  unfold f_X7_kindOf
  refine cg_bn (t_X7_at 0 p1 (by decide) (by decide) h2 h3) (fun z hz => ?_)
  rw [show (0 : Int32).toInt = 0 by decide] at hz
  exact cg_chk (inb_e (Eq.refl _) (by omega) (by omega)) (cg_some (mg_a (by omega)))
theorem t_X7_blockOf (u0 : S1) (p1 p2 : Int32) (hJ : mg_J u0) (h2 : 0 ≤ p1.toInt) (h3 : p1.toInt ≤ 31) (h4 : 0 ≤ p2.toInt) (h5 : p2.toInt ≤ 15) : cg_O (f_X7_blockOf u0 p1 p2) (fun z => (-1 ≤ z.toInt ∧ z.toInt ≤ 63) ∧ z.toInt = mg_A u0 p1.toInt.toNat (21 + p2.toInt.toNat)) := by
  unfold f_X7_blockOf
  refine cg_bn (t_X7_at 0 p1 (by decide) (by decide) h2 h3) (fun z hz => ?_)
  rw [show (0 : Int32).toInt = 0 by decide] at hz
  have e : ((z + 21) + p2).toInt = ((53 * p1.toInt.toNat + (21 + p2.toInt.toNat) : Nat) : Int) := (add_e (add_e hz (by decide : (21 : Int32).toInt = 21) (by omega) (by omega)) (Eq.refl _) (by omega) (by omega)).trans (by omega)
  exact cg_chk (inb_e e (by omega) (by omega)) (cg_some ⟨mg_jb u0 hJ e (by omega) (by omega), mg_a e⟩)
theorem t_X7_isThere (u0 : S1) (p1 p2 : Int32) (h0 : 0 ≤ p1.toInt) (h1 : p1.toInt ≤ 4) : cg_O (f_X7_isThere u0 p1 p2) (fun z => (z.toInt = 0 ∧ (0 ≤ p2.toInt → p2.toInt ≤ 31 → mg_A u0 (32 * p1.toInt.toNat + p2.toInt.toNat) 0 = -1)) ∨ (z.toInt = 1 ∧ 0 ≤ p2.toInt ∧ p2.toInt ≤ 31 ∧ mg_A u0 (32 * p1.toInt.toNat + p2.toInt.toNat) 0 ≠ -1)) := by
  unfold f_X7_isThere
  dsimp only [jn]
  refine cg_bn (t_X7_isIn p2 0 31) (fun z hz => ?_)
  rw [show (0 : Int32).toInt = 0 by decide, show (31 : Int32).toInt = 31 by decide] at hz
  refine cg_eq2 (Eq.refl _) (by decide : (0 : Int32).toInt = 0) (fun h => ?_) (fun h => ?_)
  · exact cg_some (Or.inl ⟨(by decide : (vp_nar .boolean 0).toInt = 0), fun _ _ => by omega⟩)
  · refine cg_bn (t_X7_at p1 p2 h0 h1 (by omega) (by omega)) (fun z5 h5 => ?_)
    have e : z5.toInt = ((53 * (32 * p1.toInt.toNat + p2.toInt.toNat) + 0 : Nat) : Int) := by omega
    refine cg_chk (inb_e e (by omega) (by omega)) ?_
    refine cg_eq2 (mg_a e) (by decide : (-1 : Int32).toInt = -1) (fun h6 => ?_) (fun h6 => ?_)
    · exact cg_some (Or.inl ⟨(by decide : (vp_nar .boolean 0).toInt = 0), fun _ _ => h6⟩)
    · exact cg_some (Or.inr ⟨(by decide : (vp_nar .boolean 1).toInt = 1), by omega, by omega, h6⟩)
theorem t_X7_isThing (u0 : S1) (p1 : Int32) : cg_O (f_X7_isThing u0 p1) (fun z => (z.toInt = 0 ∧ (0 ≤ p1.toInt → p1.toInt ≤ 31 → mg_A u0 p1.toInt.toNat 0 = -1)) ∨ (z.toInt = 1 ∧ 0 ≤ p1.toInt ∧ p1.toInt ≤ 31 ∧ mg_A u0 p1.toInt.toNat 0 ≠ -1)) := by
  unfold f_X7_isThing
  refine cg_bn (t_X7_isThere u0 0 p1 (by decide) (by decide)) (fun z hz => ?_)
  rw [show 32 * (0 : Int32).toInt.toNat + p1.toInt.toNat = p1.toInt.toNat by rw [show (0 : Int32).toInt = 0 by decide]; simp] at hz
  refine cg_some ?_
  show ((vp_nar .boolean z).toInt = 0 ∧ _) ∨ ((vp_nar .boolean z).toInt = 1 ∧ _)
  rw [mg_vb (hz.elim (fun h => Or.inl h.1) (fun h => Or.inr h.1))]
  exact hz
theorem t_X7_lowest (u0 : S1) : cg_O (f_X7_lowest u0) (fun z => 0 ≤ z.toInt ∧ z.toInt ≤ 32 ∧ (z.toInt < 32 → mg_A u0 z.toInt.toNat 0 = -1) ∧ (z.toInt = 32 → ∀ t, t < 32 → mg_A u0 t 0 ≠ -1)) := by
  unfold f_X7_lowest
  dsimp only [jn]
  refine cg_q1 (cg_l1 (fun d y => 0 ≤ y.toInt ∧ y.toInt ≤ 32 ∧ 32 - y.toInt ≤ (d : Int) ∧ ∀ t : Nat, (t : Int) < y.toInt → mg_A u0 t 0 ≠ -1) (fun d r ih y hh => ?_) 32 4096 (by decide) 0 ⟨by decide, by decide, by decide, fun t ht => ?_⟩)
  · obtain ⟨i1, i2, i3, i4⟩ := hh
    refine cg_le2 (by decide : (32 : Int32).toInt = 32) (Eq.refl _) (fun h => ?_) (fun h => ?_)
    · exact cg_some ⟨i1, i2, fun h5 => by omega, fun h5 t ht => i4 t (by omega)⟩
    · refine cg_bn (t_X7_isThing u0 y) (fun z hz => ?_)
      refine cg_eq2 (Eq.refl _) (by decide : (0 : Int32).toInt = 0) (fun h6 => ?_) (fun h6 => ?_)
      · exact cg_some ⟨i1, i2, fun h5 => (hz.resolve_right (fun q => by omega)).2 i1 (by omega), fun h5 => by omega⟩
      · have e : (y + 1).toInt = y.toInt + 1 := add_e (Eq.refl _) (by decide) (by omega) (by omega)
        have hk := hz.resolve_left (fun q => h6 q.1)
        refine ih (d - 1) (y + 1) (by omega) ⟨by omega, by omega, by omega, fun t ht => ?_⟩
        by_cases h7 : (t : Int) < y.toInt
        · exact i4 t h7
        · rw [show t = y.toInt.toNat by omega]
          exact hk.2.2.2
  · rw [show (0 : Int32).toInt = 0 by decide] at ht
    omega
theorem t_X7_entries (u0 : S1) (p1 p2 : Int32) (h0 : 0 ≤ p1.toInt) (h1 : p1.toInt ≤ 4) (h2 : 0 ≤ p2.toInt) (h3 : p2.toInt ≤ 31) : cg_O (f_X7_entries u0 p1 p2) (fun z => 0 ≤ z.toInt ∧ z.toInt ≤ 8 ∧ (z.toInt < 8 → mg_A u0 (32 * p1.toInt.toNat + p2.toInt.toNat) (5 + z.toInt.toNat) = -1) ∧ (z.toInt = 8 → ∀ k, k < 8 → mg_A u0 (32 * p1.toInt.toNat + p2.toInt.toNat) (5 + k) ≠ -1)) := by
  unfold f_X7_entries
  dsimp only [jn]
  refine cg_q1 (cg_l1 (fun d y => 0 ≤ y.toInt ∧ y.toInt ≤ 8 ∧ 8 - y.toInt ≤ (d : Int) ∧ ∀ t : Nat, (t : Int) < y.toInt → mg_A u0 (32 * p1.toInt.toNat + p2.toInt.toNat) (5 + t) ≠ -1) (fun d r ih y hh => ?_) 8 4096 (by decide) 0 ⟨by decide, by decide, by decide, fun t ht => ?_⟩)
  · obtain ⟨i1, i2, i3, i4⟩ := hh
    refine cg_le2 (by decide : (8 : Int32).toInt = 8) (Eq.refl _) (fun h => ?_) (fun h => ?_)
    · exact cg_some ⟨i1, i2, fun h5 => by omega, fun h5 t ht => i4 t (by omega)⟩
    · refine cg_bn (t_X7_at p1 p2 h0 h1 h2 h3) (fun z hz => ?_)
      have e : ((z + 5) + y).toInt = ((53 * (32 * p1.toInt.toNat + p2.toInt.toNat) + (5 + y.toInt.toNat) : Nat) : Int) := (add_e (add_e hz (by decide : (5 : Int32).toInt = 5) (by omega) (by omega)) (Eq.refl _) (by omega) (by omega)).trans (by omega)
      refine cg_chk (inb_e e (by omega) (by omega)) ?_
      refine cg_eq2 (mg_a e) (by decide : (-1 : Int32).toInt = -1) (fun h6 => ?_) (fun h6 => ?_)
      · exact cg_some ⟨i1, i2, fun h5 => h6, fun h5 => by omega⟩
      · have e2 : (y + 1).toInt = y.toInt + 1 := add_e (Eq.refl _) (by decide) (by omega) (by omega)
        refine ih (d - 1) (y + 1) (by omega) ⟨by omega, by omega, by omega, fun t ht => ?_⟩
        by_cases h7 : (t : Int) < y.toInt
        · exact i4 t h7
        · rw [show t = y.toInt.toNat by omega]
          exact h6
  · rw [show (0 : Int32).toInt = 0 by decide] at ht
    omega
theorem t_X7_placeOf (u0 : S1) (p1 p2 p3 : Int32) (h0 : 0 ≤ p1.toInt) (h1 : p1.toInt ≤ 4) (h2 : 0 ≤ p2.toInt) (h3 : p2.toInt ≤ 31) : cg_O (f_X7_placeOf u0 p1 p2 p3) (fun z => -1 ≤ z.toInt ∧ z.toInt ≤ 7) := by
  unfold f_X7_placeOf
  dsimp only [jn]
  refine cg_q2 (cg_l2 (fun d f y => 0 ≤ y.toInt ∧ y.toInt ≤ 8 ∧ 8 - y.toInt ≤ (d : Int) ∧ -1 ≤ f.toInt ∧ f.toInt ≤ 7) (fun d r ih f y hh => ?_) 8 4096 (by decide) (-1) 0 ⟨by decide, by decide, by decide, by decide, by decide⟩)
  obtain ⟨i1, i2, i3, i4, i5⟩ := hh
  refine cg_le2 (by decide : (8 : Int32).toInt = 8) (Eq.refl _) (fun h => cg_some ⟨i4, i5⟩) (fun h => ?_)
  have e2 : (y + 1).toInt = y.toInt + 1 := add_e (Eq.refl _) (by decide) (by omega) (by omega)
  refine cg_i (fun h6 => ih (d - 1) f (y + 1) (by omega) ⟨by omega, by omega, by omega, i4, i5⟩) (fun h6 => ?_)
  refine cg_bn (t_X7_at p1 p2 h0 h1 h2 h3) (fun z hz => ?_)
  have e : ((z + 5) + y).toInt = ((53 * (32 * p1.toInt.toNat + p2.toInt.toNat) + (5 + y.toInt.toNat) : Nat) : Int) := (add_e (add_e hz (by decide : (5 : Int32).toInt = 5) (by omega) (by omega)) (Eq.refl _) (by omega) (by omega)).trans (by omega)
  refine cg_chk (inb_e e (by omega) (by omega)) ?_
  exact cg_i (fun h7 => ih (d - 1) y (y + 1) (by omega) ⟨by omega, by omega, by omega, by omega, by omega⟩) (fun h7 => ih (d - 1) f (y + 1) (by omega) ⟨by omega, by omega, by omega, i4, i5⟩)
theorem t_X7_entryOf (u0 : S1) (p1 p2 p3 : Int32) (hJ : mg_J u0) (h0 : 0 ≤ p1.toInt) (h1 : p1.toInt ≤ 4) (h2 : 0 ≤ p2.toInt) (h3 : p2.toInt ≤ 31) : cg_O (f_X7_entryOf u0 p1 p2 p3) (fun z => -1 ≤ z.toInt ∧ z.toInt ≤ 31) := by
  unfold f_X7_entryOf
  dsimp only [jn]
  refine cg_bn (t_X7_placeOf u0 p1 p2 p3 h0 h1 h2 h3) (fun z hz => ?_)
  refine cg_eq2 (Eq.refl _) (by decide : (-1 : Int32).toInt = -1) (fun h => cg_some (by decide)) (fun h => ?_)
  refine cg_bn (t_X7_at p1 p2 h0 h1 h2 h3) (fun z4 h4 => ?_)
  have e : ((z4 + 13) + z).toInt = ((53 * (32 * p1.toInt.toNat + p2.toInt.toNat) + (13 + z.toInt.toNat) : Nat) : Int) := (add_e (add_e h4 (by decide : (13 : Int32).toInt = 13) (by omega) (by omega)) (Eq.refl _) (by omega) (by omega)).trans (by omega)
  exact cg_chk (inb_e e (by omega) (by omega)) (cg_some (mg_jt u0 hJ e (by omega) (by omega)))
theorem t_X7_handlesOf (u0 : S1) (p1 : Int32) (hJ : mg_J u0) : cg_O (f_X7_handlesOf u0 p1) (fun z => 0 ≤ z.toInt ∧ (z.toInt ≤ 0 → ∀ k, k < 30 → u0 12 k ≠ 0 → u0 10 k ≠ p1)) := by
  have hn := mg_jn u0 hJ
  unfold f_X7_handlesOf
  dsimp only [jn]
  refine cg_q2 (cg_l2 (fun d n y => 0 ≤ y.toInt ∧ y.toInt ≤ 30 ∧ 30 - y.toInt ≤ (d : Int) ∧ 0 ≤ n.toInt ∧ n.toInt ≤ y.toInt ∧ (n.toInt ≤ 0 → ∀ k : Nat, (k : Int) < y.toInt → u0 12 k ≠ 0 → u0 10 k ≠ p1)) (fun d r ih n y hh => ?_) 30 4096 (by decide) 0 0 ⟨by decide, by decide, by decide, by decide, by decide, fun _ t ht => ?_⟩)
  · obtain ⟨i1, i2, i3, i4, i5, i6⟩ := hh
    refine cg_le2 (Eq.refl _) (Eq.refl _) (fun h => cg_some ⟨i4, fun h5 k hk ho => ?_⟩) (fun h => ?_)
    · have := (hJ.2.2.2 k hk ho).1
      exact i6 h5 k (by omega) ho
    · have e2 : (y + 1).toInt = y.toInt + 1 := add_e (Eq.refl _) (by decide) (by omega) (by omega)
      have e3 : (n + 0).toInt = n.toInt := by rw [Int32.add_zero]
      have e4 : (n + 1).toInt = n.toInt + 1 := add_e (Eq.refl _) (by decide) (by omega) (by omega)
      have ey : y.toNatClampNeg = y.toInt.toNat := rfl
      refine cg_chk (inb_e (Eq.refl _) (by omega) (by omega)) ?_
      refine cg_i (fun h6 => ih (d - 1) (n + 0) (y + 1) (by omega) ⟨by omega, by omega, by omega, by omega, by omega, fun h5 k hk ho => ?_⟩) (fun h6 => ?_)
      · by_cases h7 : (k : Int) < y.toInt
        · exact i6 (by omega) k h7 ho
        · rw [ey, show y.toInt.toNat = k by omega] at h6
          exact absurd h6 ho
      · refine cg_chk (inb_e (Eq.refl _) (by omega) (by omega)) ?_
        refine cg_i (fun h8 => ih (d - 1) (n + 1) (y + 1) (by omega) ⟨by omega, by omega, by omega, by omega, by omega, fun h5 => by omega⟩) (fun h8 => ih (d - 1) (n + 0) (y + 1) (by omega) ⟨by omega, by omega, by omega, by omega, by omega, fun h5 k hk ho => ?_⟩)
        by_cases h7 : (k : Int) < y.toInt
        · exact i6 (by omega) k h7 ho
        · rw [ey, show y.toInt.toNat = k by omega] at h8
          exact h8
  · rw [show (0 : Int32).toInt = 0 by decide] at ht
    omega
theorem t_X7_isHeld (u0 : S1) (p1 : Int32) (hJ : mg_J u0) : cg_O (f_X7_isHeld u0 p1) (fun z => z.toInt = 0 → ∀ k, k < 30 → u0 12 k ≠ 0 → u0 10 k ≠ p1) := by
  unfold f_X7_isHeld
  dsimp only [jn]
  refine cg_bn (t_X7_handlesOf u0 p1 hJ) (fun z hz => ?_)
  refine cg_le2 (Eq.refl _) (by decide : (0 : Int32).toInt = 0) (fun h => cg_some (fun _ => hz.2 h)) (fun h => cg_some (fun h5 => ?_))
  exact absurd h5 (by decide)
