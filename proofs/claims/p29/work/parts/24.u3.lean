-- THE REFERENCE: walks
theorem mg_n1 : (-1 : Int32).toInt = -1 := by decide
theorem div_e {a b : Int32} {x k : Int} (ha : a.toInt = x) (hb : b.toInt = k) (h0 : 0 ≤ x) (hk : 1 < k) : (a / b).toInt = x / k := by
  subst ha hb
  have h1 := lim a
  rw [Int32.toInt_div, Int.tdiv_eq_ediv_of_nonneg h0]
  have h2 : 0 ≤ a.toInt / b.toInt := Int.ediv_nonneg h0 (by omega)
  have h3 : a.toInt / b.toInt ≤ a.toInt := Int.ediv_le_self _ h0
  show Int.bmod _ 4294967296 = _
  exact Int.bmod_eq_of_le_mul_two (by omega) (by omega)
def mg_sm (V W : S1) : Prop := ∀ c, c ≠ 14 → c ≠ 15 → c ≠ 16 → c ≠ 17 → W c = V c
theorem mg_smt {V W X : S1} (h : mg_sm V W) (h2 : mg_sm W X) : mg_sm V X := fun c a1 a2 a3 a4 => (h2 c a1 a2 a3 a4).trans (h c a1 a2 a3 a4)
theorem mg_smu {V W : S1} {k : Nat} {f : Nat → Int32} (h : mg_sm V W) (hk : k = 14 ∨ k = 15 ∨ k = 16 ∨ k = 17) : mg_sm V (up W k f) := fun c a1 a2 a3 a4 => by
  rw [up_o W f (show c ≠ k by omega)]
  exact h c a1 a2 a3 a4
theorem mg_smA {V W : S1} (h : mg_sm V W) (r c : Nat) : mg_A W r c = mg_A V r c := by
  unfold mg_A
  rw [h 0 (by decide) (by decide) (by decide) (by decide)]
theorem mg_smg {V U W : S1} (g : mg_G V U) (h : mg_sm U W) : mg_G V W :=
  ⟨mg_of g.1 (fun r c _ _ => mg_smA h r c) (h 4 (by decide) (by decide) (by decide) (by decide)) (h 7 (by decide) (by decide) (by decide) (by decide)) (h 9 (by decide) (by decide) (by decide) (by decide)) (h 10 (by decide) (by decide) (by decide) (by decide)) (h 12 (by decide) (by decide) (by decide) (by decide)), (h 1 (by decide) (by decide) (by decide) (by decide)).trans g.2.1, (h 3 (by decide) (by decide) (by decide) (by decide)).trans g.2.2.1, (h 7 (by decide) (by decide) (by decide) (by decide)).trans g.2.2.2.1, (h 8 (by decide) (by decide) (by decide) (by decide)).trans g.2.2.2.2⟩
theorem t_X7_lays (u0 : S1) (p1 : Int32) (h0 : 0 ≤ (u0 15 0).toInt) (h1 : (u0 15 0).toInt ≤ 35) : cg_O (f_X7_lays u0 p1) (fun z => mg_sm u0 z ∧ z 16 = u0 16 ∧ (u0 15 0).toInt ≤ (z 15 0).toInt ∧ (z 15 0).toInt ≤ (u0 15 0).toInt + 5 ∧ (1 ≤ p1.toInt → (u0 15 0).toInt + 1 ≤ (z 15 0).toInt)) := by
  have hp := lim p1
  unfold f_X7_lays
  refine cg_q2 (cg_l2 (fun d y u => ((d = 0 ∧ y.toInt ≤ 0) ∨ (d = 1 ∧ y.toInt ≤ 99) ∨ (d = 2 ∧ y.toInt ≤ 9999) ∨ (d = 3 ∧ y.toInt ≤ 999999) ∨ (d = 4 ∧ y.toInt ≤ 99999999) ∨ (d = 5 ∧ y.toInt ≤ 2147483647)) ∧ mg_sm u0 u ∧ u 16 = u0 16 ∧ (u0 15 0).toInt ≤ (u 15 0).toInt ∧ (u 15 0).toInt + d ≤ (u0 15 0).toInt + 5 ∧ (1 ≤ p1.toInt → 1 ≤ y.toInt ∨ (u0 15 0).toInt + 1 ≤ (u 15 0).toInt)) (fun d r ih y u hh => ?_) 5 4096 (by decide) p1 u0 ⟨by omega, fun _ _ _ _ _ => rfl, rfl, by omega, by omega, fun h => Or.inl h⟩)
  obtain ⟨i1, i2, i3, i4, i5, i6⟩ := hh
  refine cg_le2 (Eq.refl _) (by decide : (0 : Int32).toInt = 0) (fun h => cg_some ⟨i2, i3, i4, by omega, fun h9 => (i6 h9).resolve_left (by omega)⟩) (fun h => ?_)
  refine cg_chk (inb_e (Eq.refl _) (by omega) (by omega)) ?_
  refine cg_bv (fun u3 e3 => ?_)
  refine cg_bv (fun u4 e4 => ?_)
  have s3 : mg_sm u0 u3 := by
    rw [e3]
    exact mg_smu i2 (by decide)
  have s4 : mg_sm u0 u4 := by
    rw [e4]
    exact mg_smu s3 (by decide)
  have m4 : (u4 15 0).toInt = (u 15 0).toInt + 1 := by
    rw [e4, up_s, show u3 15 0 = u 15 0 by rw [e3]; rfl]
    exact add_e (Eq.refl _) (by decide) (by omega) (by omega)
  have p4 : u4 16 = u0 16 := by
    rw [e4, up_o _ _ (by decide), e3]
    exact i3
  have ed : (y / 100).toInt = y.toInt / 100 := div_e (Eq.refl _) (by decide) (by omega) (by decide)
  exact ih (d - 1) (y / 100) u4 (by omega) ⟨by omega, s4, p4, by omega, by omega, fun _ => Or.inr (by omega)⟩
theorem t_X7_walks (u0 : S1) (p1 p2 p3 : Int32) (hJ : mg_J u0) (h0 : 0 ≤ p1.toInt) (h1 : p1.toInt ≤ 4) : cg_O (f_X7_walks u0 p1 p2 p3) (fun z => mg_sm u0 z.2 ∧ (z.1.toInt = -1 ∨ (0 ≤ z.1.toInt ∧ z.1.toInt ≤ 31 ∧ (1 ≤ p2.toInt → 0 ≤ (z.2 16 0).toInt ∧ (z.2 16 0).toInt ≤ 31)))) := by
  have gJ : ∀ u, mg_sm u0 u → mg_J u := fun u hs => (mg_smg (mg_refl hJ) hs).1
  unfold f_X7_walks
  dsimp only [jn]
  refine cg_bv (fun u_1 e1 => ?_)
  have m1 : (u_1 15 0).toInt = 0 := by
    rw [e1, up_s]
    decide
  have s1 : mg_sm u0 u_1 := by
    rw [e1]
    exact mg_smu (fun _ _ _ _ _ => rfl) (by decide)
  refine cg_bn (t_X7_lays u_1 p2 (by omega) (by omega)) (fun z_2 hz_2 => ?_)
  refine cg_bv (fun u_3 e3 => ?_)
  have s3 : mg_sm u0 u_3 := by
    rw [e3]
    exact mg_smu (mg_smt s1 hz_2.1) (by decide)
  have m3 : (u_3 15 0).toInt = (z_2 15 0).toInt := by rw [e3, up_o _ _ (by decide)]
  refine cg_q3 (cg_l3 (fun d y4 y5 u => mg_sm u0 u ∧ 0 ≤ y4.toInt ∧ y4.toInt ≤ 4 ∧ 0 ≤ y5.toInt ∧ y5.toInt ≤ 31 ∧ 0 ≤ (u 15 0).toInt ∧ (u 15 0).toInt ≤ 5 * (y4.toInt + 1) ∧ (u 15 0).toInt + 6 * (4 - y4.toInt) ≤ (d : Int) ∧ (1 ≤ p2.toInt → 1 ≤ (u 15 0).toInt ∨ (0 ≤ (u 16 0).toInt ∧ (u 16 0).toInt ≤ 31))) (fun d r ih y4 y5 u hh => ?_) 29 4096 (by decide) 0 0 u_3 ⟨s3, by decide, by decide, by decide, by decide, by omega, by rw [show (0 : Int32).toInt = 0 by decide]; omega, by rw [show (0 : Int32).toInt = 0 by decide]; omega, fun h9 => Or.inl (by omega)⟩)
  obtain ⟨su, i1, i2, i3, i4, i5, i6, i7, i8⟩ := hh
  refine cg_le2 (Eq.refl _) (by decide : (0 : Int32).toInt = 0) (fun h => cg_some ⟨su, Or.inr ⟨i3, i4, fun h9 => (i8 h9).resolve_left (by omega)⟩⟩) (fun h => ?_)
  refine cg_bv (fun u_6 e6 => ?_)
  refine cg_bv (fun u_7 e7 => ?_)
  have m7 : u_7 15 0 = u 15 0 - 1 := by rw [e7, up_o _ _ (by decide), e6, up_s]
  have m7' : (u 15 0 - 1).toInt = (u 15 0).toInt - 1 := sub_e (Eq.refl _) (by decide) (by omega) (by omega)
  have s7 : mg_sm u0 u_7 := by
    rw [e7, e6]
    exact mg_smu (mg_smu su (by decide)) (by decide)
  rw [m7]
  refine cg_chk (inb_e m7' (by omega) (by omega)) ?_
  refine cg_bv (fun u_8 e8 => ?_)
  have s8 : mg_sm u0 u_8 := by
    rw [e8]
    exact mg_smu s7 (by decide)
  have m8 : (u_8 15 0).toInt = (u 15 0).toInt - 1 := by
    rw [e8, up_o _ _ (by decide), m7]
    exact m7'
  have q8 : u_8 16 0 = y5 := by rw [e8, up_o _ _ (by decide), e7, up_s]
  refine cg_bn (t_X7_at p1 y5 h0 h1 i3 i4) (fun z_9 h9 => ?_)
  refine cg_chk (inb_e (Eq.refl _) (by omega) (by omega)) ?_
  refine cg_i (fun h10 => ?_) (fun h10 => cg_i (fun _ => cg_some ⟨s8, Or.inl mg_n1⟩) (fun h11 => absurd rfl h11))
  refine cg_bn (t_X7_entryOf u_8 p1 y5 (u_8 17 0) (gJ u_8 s8) h0 h1 i3 i4) (fun z_21 h21 => ?_)
  refine cg_eq2 (Eq.refl _) (by decide : (-1 : Int32).toInt = -1) (fun _ => cg_some ⟨s8, Or.inl mg_n1⟩) (fun h11 => ?_)
  have hpar : 1 ≤ p2.toInt → 0 ≤ (u_8 16 0).toInt ∧ (u_8 16 0).toInt ≤ 31 := fun _ => by
    rw [q8]
    exact ⟨i3, i4⟩
  have go1 : cg_O (r y4 z_21 u_8) (fun z => mg_sm u0 z.2 ∧ (z.1.toInt = -1 ∨ (0 ≤ z.1.toInt ∧ z.1.toInt ≤ 31 ∧ (1 ≤ p2.toInt → 0 ≤ (z.2 16 0).toInt ∧ (z.2 16 0).toInt ≤ 31)))) := ih (d - 1) y4 z_21 u_8 (by omega) ⟨s8, i1, i2, by omega, by omega, by omega, by omega, by omega, fun h9 => Or.inr (hpar h9)⟩
  refine cg_bn (t_X7_at p1 z_21 h0 h1 (by omega) (by omega)) (fun z_12 h12 => ?_)
  refine cg_chk (inb_e (Eq.refl _) (by omega) (by omega)) ?_
  refine cg_i (fun h13 => ?_) (fun _ => go1)
  have e4 : (y4 + 1).toInt = y4.toInt + 1 := add_e (Eq.refl _) (by decide) (by omega) (by omega)
  refine cg_i (fun h14 => ?_) (fun h14 => cg_i (fun _ => go1) (fun _ => ?_))
  all_goals
    refine cg_le2 e4 (by decide : (4 : Int32).toInt = 4) (fun h15 => ?_) (fun h15 => cg_some ⟨s8, Or.inl mg_n1⟩)
    refine cg_bn (t_X7_at p1 z_21 h0 h1 (by omega) (by omega)) (fun z_16 h16 => ?_)
    have e16 : (z_16 + 4).toInt = z_16.toInt + 4 := add_e (Eq.refl _) (by decide) (by omega) (by omega)
    refine cg_chk (inb_e e16 (by omega) (by omega)) ?_
    refine cg_bn (t_X7_lays u_8 _ (by omega) (by omega)) (fun z_17 h17 => ?_)
    refine ih (d - 1) (y4 + 1) 0 z_17 (by omega) ⟨mg_smt s8 h17.1, by omega, by omega, by decide, by decide, by omega, by omega, by omega, fun h9 => Or.inr ?_⟩
    rw [h17.2.1]
    exact hpar h9
theorem t_X7_folderOf (u0 : S1) (p1 : Int32) (hJ : mg_J u0) : cg_O (f_X7_folderOf u0 p1) (fun z => mg_sm u0 z.2 ∧ (z.1.toInt = -1 ∨ (0 ≤ z.1.toInt ∧ z.1.toInt ≤ 31 ∧ mg_A u0 z.1.toInt.toNat 0 = 1))) := by
  unfold f_X7_folderOf
  dsimp only [jn]
  refine cg_bn (t_X7_walks u0 0 (p1 / 100) 1 hJ (by decide) (by decide)) (fun z_1 hz => ?_)
  obtain ⟨hs, hz⟩ := hz
  refine cg_eq2 (Eq.refl _) (by decide : (-1 : Int32).toInt = -1) (fun _ => cg_some ⟨hs, Or.inl mg_n1⟩) (fun h => ?_)
  have h2 := hz.resolve_left h
  refine cg_bn (t_X7_kindOf z_1.2 z_1.1 h2.1 h2.2.1) (fun z_5 h5 => ?_)
  refine cg_eq2 (Eq.refl _) (by decide : (1 : Int32).toInt = 1) (fun h6 => ?_) (fun _ => cg_some ⟨hs, Or.inl mg_n1⟩)
  refine cg_i (fun _ => cg_some ⟨hs, Or.inl mg_n1⟩) (fun _ => cg_some ⟨hs, Or.inr ⟨h2.1, h2.2.1, ?_⟩⟩)
  rw [← mg_smA hs]
  exact h5.symm.trans h6
