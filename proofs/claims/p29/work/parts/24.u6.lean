-- THE REFERENCE: the disk
theorem t_X7_flushes (u0 : S1) (p1 : Int32) (hJ : mg_J u0) (h1 : 0 ≤ p1.toInt) (h2 : p1.toInt ≤ 511) (hd : u0 4 p1.toNatClampNeg ≠ 0) : cg_O (f_X7_flushes u0 p1) (fun z => mg_G u0 z ∧ z 18 = u0 18) := by
  have eq_ : (p1 / 16).toInt = p1.toInt / 16 := div_e (Eq.refl _) (by decide) h1 (by decide)
  have er : (p1 - p1 / 16 * 16).toInt = p1.toInt % 16 := rem_e (Eq.refl _) (by decide) h1 (by decide) (by decide)
  unfold f_X7_flushes
  refine cg_bn (t_X7_blockOf u0 (p1 / 16) (p1 - p1 / 16 * 16) hJ (by omega) (by omega) (by omega) (by omega)) (fun z hz => ?_)
  have hcl : p1.toNatClampNeg = p1.toInt.toNat := rfl
  have hb := hJ.2.2.1 (p1.toInt.toNat / 16) (p1.toInt.toNat % 16) (by omega) (by omega) (by
    rw [show 16 * (p1.toInt.toNat / 16) + p1.toInt.toNat % 16 = p1.toInt.toNat by omega, ← hcl]
    exact hd)
  have hz0 : 0 ≤ z.toInt := by
    rw [hz.2, show (p1 / 16).toInt.toNat = p1.toInt.toNat / 16 by omega, show (p1 - p1 / 16 * 16).toInt.toNat = p1.toInt.toNat % 16 by omega]
    exact hb.1
  refine cg_chk (inb_e (Eq.refl _) (by omega) (by omega)) ?_
  refine cg_bv (fun u2 e2 => ?_)
  have g2 : mg_G u0 u2 := by
    rw [e2]
    exact mg_clean (mg_refl hJ)
  refine cg_chk (inb_e (Eq.refl _) (by omega) (by omega)) ?_
  refine cg_jn ?_
  refine cg_i (fun _ => ?_) (fun _ => ?_)
  · refine cg_chk (inb_e (Eq.refl _) (by omega) (by omega)) ?_
    refine cg_chk (inb_e (Eq.refl _) (by omega) (by omega)) ?_
    refine cg_bv (fun u5 e5 => cg_some ?_)
    subst e5 e2
    exact ⟨mg_up' g2 (by decide), rfl⟩
  · refine cg_chk (inb_e eq_ (by omega) (by omega)) ?_
    refine cg_bv (fun u6 e6 => cg_some ?_)
    subst e6 e2
    exact ⟨mg_up' g2 (by decide), rfl⟩
theorem t_X7_flushesAll (u0 : S1) (p1 p2 p3 : Int32) (hJ : mg_J u0) (h1 : 0 ≤ p1.toInt) (h2 : p2.toInt ≤ 512) : cg_O (f_X7_flushesAll u0 p1 p2 p3) (fun z => mg_G u0 z.2 ∧ z.2 18 = u0 18) := by
  unfold f_X7_flushesAll
  refine cg_q3 (cg_l3 (fun d n y u => 0 ≤ y.toInt ∧ 512 - y.toInt ≤ (d : Int) ∧ mg_G u0 u ∧ u 18 = u0 18) (fun d r ih n y u hh => ?_) 512 4096 (by decide) 0 p1 u0 ⟨h1, by omega, mg_refl hJ, rfl⟩)
  obtain ⟨i1, i2, g, g18⟩ := hh
  refine cg_jn ?_
  refine cg_le2 (Eq.refl _) (Eq.refl _) (fun _ => cg_some ⟨g, g18⟩) (fun h => ?_)
  refine cg_i (fun _ => cg_some ⟨g, g18⟩) (fun _ => ?_)
  refine cg_chk (inb_e (Eq.refl _) (by omega) (by omega)) ?_
  refine cg_jn ?_
  have e : (y + 1).toInt = y.toInt + 1 := add_e (Eq.refl _) (by decide) (by omega) (by omega)
  refine cg_i (fun _ => ih (d - 1) n (y + 1) u (by omega) ⟨by omega, by omega, g, g18⟩) (fun hd => ?_)
  refine cg_bn (t_X7_flushes u y g.1 i1 (by omega) hd) (fun z hz => ?_)
  exact ih (d - 1) (n + 1) (y + 1) z (by omega) ⟨by omega, by omega, mg_trans g hz.1, hz.2.trans g18⟩
theorem t_X7_commits (u0 : S1) (hJ : mg_J u0) : cg_O (f_X7_commits u0) (fun z => mg_G u0 z.2 ∧ z.2 18 = u0 18) := by
  unfold f_X7_commits
  refine cg_bn (t_X7_flushesAll u0 0 512 512 hJ (by decide) (by decide)) (fun z1 h1 => ?_)
  refine cg_bn (t_X7_copies z1.2 0 1 (by decide) (by decide) (by decide) (by decide) (by decide)) (fun z2 h2 => cg_some ?_)
  exact ⟨mg_copy h1.1 (by decide) (by decide) (by decide) (by decide) h2.1 h2.2, (h2.1 18 (by decide)).trans h1.2⟩
/-- all that is not of the state of now -/
def mg_C (V : S1) : Prop := mg_J1 V ∧ mg_J2 V
theorem t_X7_crash (u0 : S1) (hJ : mg_J u0) : cg_O (f_X7_crash u0) (fun z => mg_G u0 z.2) := by
  unfold f_X7_crash
  refine cg_bv (fun u1 e1 => ?_)
  have g1 : mg_G u0 u1 := by
    rw [e1]
    exact mg_up' (mg_refl hJ) (by decide)
  refine cg_bn (t_X7_dirties u1) (fun z2 _ => ?_)
  refine cg_bn (t_X7_copies u1 1 0 (by decide) (by decide) (by decide) (by decide) (by decide)) (fun z3 h3 => ?_)
  obtain ⟨hc, ha⟩ := h3
  rw [show (0 : Int32).toInt.toNat = 0 by decide, show (1 : Int32).toInt.toNat = 1 by decide] at ha
  have hrow : ∀ r, r < 160 → ∃ r', r' < 160 ∧ ∀ c, c < 53 → mg_A z3 r c = mg_A u1 r' c := fun r hr => by
    by_cases h : 32 * 0 ≤ r ∧ r < 32 * 0 + 32
    · exact ⟨r - 32 * 0 + 32 * 1, by omega, fun c hc => by rw [ha r c hc, if_pos h]⟩
    · exact ⟨r, hr, fun c hc => by rw [ha r c hc, if_neg h]⟩
  have j1 : mg_J1 z3 := by
    refine ⟨fun r hr => ?_, fun r k hr hk => ?_, fun r p hr hp => ?_⟩
    · obtain ⟨r', hr', e⟩ := hrow r hr
      rw [e 1 (by decide)]
      exact g1.1.1.1 r' hr'
    · obtain ⟨r', hr', e⟩ := hrow r hr
      rw [e (13 + k) (by omega)]
      exact g1.1.1.2.1 r' k hr' hk
    · obtain ⟨r', hr', e⟩ := hrow r hr
      rw [e (21 + p) (by omega), e (37 + p) (by omega)]
      exact g1.1.1.2.2 r' p hr' hp
  have j2 : mg_J2 z3 := by
    have := g1.1.2.1
    unfold mg_J2 at this ⊢
    rw [hc 7 (by decide), hc 9 (by decide), hc 10 (by decide)]
    exact this
  have f3 : mg_F u0 z3 := ⟨(hc 1 (by decide)).trans g1.2.1, (hc 3 (by decide)).trans g1.2.2.1, (hc 7 (by decide)).trans g1.2.2.2.1, (hc 8 (by decide)).trans g1.2.2.2.2⟩
  have o3 : ∀ k, k < 30 → z3 12 k ≠ 0 → (k : Int) < (z3 9 0).toInt := fun k hk ho => by
    rw [hc 12 (by decide)] at ho
    rw [hc 9 (by decide)]
    exact (g1.1.2.2.2 k hk ho).1
  have n3 := j2.2.1
  refine cg_q2 (cg_l2 (fun d y u => 0 ≤ y.toInt ∧ y.toInt ≤ 30 ∧ 30 - y.toInt ≤ (d : Int) ∧ u 0 = z3 0 ∧ u 4 = z3 4 ∧ u 9 = z3 9 ∧ mg_J2 u ∧ mg_F u0 u ∧ ∀ k, k < 30 → u 12 k ≠ 0 → y.toInt ≤ (k : Int) ∧ (k : Int) < (z3 9 0).toInt) (fun d r ih y u hh => ?_) 30 4096 (by decide) 0 z3 ⟨by decide, by decide, by decide, rfl, rfl, rfl, j2, f3, fun k hk ho => ⟨by rw [show (0 : Int32).toInt = 0 by decide]; omega, o3 k hk ho⟩⟩)
  obtain ⟨i1, i2, i3, i4, i5, i6, i7, i8, i9⟩ := hh
  refine cg_le2 (Eq.refl _) (Eq.refl _) (fun h => ?_) (fun h => ?_)
  · -- no handle is open now
    have hno : ∀ k, k < 30 → u 12 k = 0 := fun k hk => Classical.byContradiction (fun q => by
      have := i9 k hk q
      rw [i6] at h
      omega)
    refine cg_q2 (cg_l2 (fun d y v => 0 ≤ y.toInt ∧ y.toInt ≤ 512 ∧ 512 - y.toInt ≤ (d : Int) ∧ v 0 = z3 0 ∧ mg_J2 v ∧ mg_F u0 v ∧ v 12 = u 12 ∧ ∀ n : Nat, (n : Int) < y.toInt → v 4 n = 0) (fun d r ih y v hh => ?_) 512 4096 (by decide) 0 u ⟨by decide, by decide, by decide, i4, i7, i8, rfl, fun n hn => ?_⟩)
    · obtain ⟨k1, k2, k3, k4, k5, k6, k7, k8⟩ := hh
      refine cg_le2 (by decide : (512 : Int32).toInt = 512) (Eq.refl _) (fun h9 => ?_) (fun h9 => ?_)
      · have gv : mg_G u0 v := by
          refine ⟨⟨?_, k5, fun t p ht hp hd => absurd (k8 (16 * t + p) (by omega)) hd, fun k hk ho => ?_⟩, k6⟩
          · refine ⟨fun r hr => ?_, fun r k hr hk => ?_, fun r p hr hp => ?_⟩
            · have := j1.1 r hr
              unfold mg_A at this ⊢
              rw [k4]
              exact this
            · have := j1.2.1 r k hr hk
              unfold mg_A at this ⊢
              rw [k4]
              exact this
            · have := j1.2.2 r p hr hp
              unfold mg_A at this ⊢
              rw [k4]
              exact this
          · rw [k7] at ho
            exact absurd (hno k hk) ho
        refine cg_q2 (cg_l2 (fun d y w => 0 ≤ y.toInt ∧ y.toInt ≤ 32 ∧ 32 - y.toInt ≤ (d : Int) ∧ mg_G u0 w ∧ w 12 = u 12) (fun d r ih y w hh => ?_) 32 4096 (by decide) 0 v ⟨by decide, by decide, by decide, gv, k7⟩)
        obtain ⟨l1, l2, l3, gw, l4⟩ := hh
        refine cg_le2 (by decide : (32 : Int32).toInt = 32) (Eq.refl _) (fun _ => cg_some gw) (fun h10 => ?_)
        refine cg_chk (inb_e (Eq.refl _) (by omega) (by omega)) ?_
        refine cg_bv (fun u10 e10 => ?_)
        have g10 : mg_G u0 u10 := by
          rw [e10]
          exact mg_up' gw (by decide)
        have o10 : u10 12 = u 12 := by
          rw [e10]
          exact l4
        have ey : (y + 1).toInt = y.toInt + 1 := add_e (Eq.refl _) (by decide) (by omega) (by omega)
        have nx : cg_O (r (y + 1) u10) (fun z => mg_G u0 z.2) := ih (d - 1) (y + 1) u10 (by omega) ⟨by omega, by omega, by omega, g10, o10⟩
        refine cg_bn (t_X7_kindOf u10 y l1 (by omega)) (fun z11 _ => ?_)
        refine cg_jn ?_
        refine cg_i (fun _ => ?_) (fun _ => nx)
        refine cg_bn (t_X7_at 0 y (by decide) (by decide) l1 (by omega)) (fun z14 h14 => ?_)
        rw [show (0 : Int32).toInt = 0 by decide] at h14
        refine cg_chk (inb_e (add_e h14 (by decide : (3 : Int32).toInt = 3) (by omega) (by omega)) (by omega) (by omega)) ?_
        refine cg_i (fun _ => ?_) (fun _ => nx)
        refine cg_bn (t_X7_goes u0 u10 y g10 l1 (by omega) (fun k hk ho => ?_)) (fun z16 h16 => ?_)
        · rw [o10] at ho
          exact absurd (hno k hk) ho
        · exact ih (d - 1) (y + 1) z16 (by omega) ⟨by omega, by omega, by omega, h16.1, h16.2.2.2.2.2.trans o10⟩
      · refine cg_chk (inb_e (Eq.refl _) (by omega) (by omega)) ?_
        refine cg_bv (fun v17 e17 => ?_)
        have ey : (y + 1).toInt = y.toInt + 1 := add_e (Eq.refl _) (by decide) (by omega) (by omega)
        subst e17
        refine ih (d - 1) (y + 1) _ (by omega) ⟨by omega, by omega, by omega, k4, k5, mg_fup k6 (by decide) (by decide) (by decide) (by decide), k7, fun n hn => ?_⟩
        unfold stz
        rw [up_s]
        unfold upd
        have hcl : y.toNatClampNeg = y.toInt.toNat := rfl
        by_cases hq : n = y.toNatClampNeg
        · rw [if_pos hq]
          decide
        · rw [if_neg hq]
          exact k8 n (by omega)
    · rw [show (0 : Int32).toInt = 0 by decide] at hn
      omega
  · have hsh : cg_O (f_X7_shuts u y) (fun z => z 0 = u 0 ∧ z 4 = u 4 ∧ z 9 = u 9 ∧ z 7 = u 7 ∧ z 10 = u 10 ∧ z 1 = u 1 ∧ z 3 = u 3 ∧ z 8 = u 8 ∧ z 12 = (stz u 12 y 0) 12) := by
      rw [i6] at h
      unfold f_X7_shuts
      refine cg_chk (inb_e (Eq.refl _) (by omega) (by omega)) ?_
      refine cg_bv (fun v e => ?_)
      refine cg_q2 (cg_l2 (fun d x w => 0 ≤ x.toInt ∧ x.toInt ≤ 16 ∧ 16 - x.toInt ≤ (d : Int) ∧ ∀ c, c ≠ 13 → w c = (stz u 12 y 0) c) (fun d r ih x w hh => ?_) 16 4096 (by decide) 0 v ⟨by decide, by decide, by decide, fun c _ => by rw [e]⟩)
      obtain ⟨l1, l2, l3, l4⟩ := hh
      refine cg_le2 (by decide : (16 : Int32).toInt = 16) (Eq.refl _) (fun _ => cg_some ⟨l4 0 (by decide), l4 4 (by decide), l4 9 (by decide), l4 7 (by decide), l4 10 (by decide), l4 1 (by decide), l4 3 (by decide), l4 8 (by decide), l4 12 (by decide)⟩) (fun h10 => ?_)
      have e5 : ((16 * y) + x).toInt = 16 * y.toInt + x.toInt := add_e (cmul (by decide : (16 : Int32).toInt = 16) (by omega) (by omega)) (Eq.refl _) (by omega) (by omega)
      refine cg_chk (inb_e e5 (by omega) (by omega)) ?_
      refine cg_bv (fun w4 e4 => ?_)
      have ex : (x + 1).toInt = x.toInt + 1 := add_e (Eq.refl _) (by decide) (by omega) (by omega)
      refine ih (d - 1) (x + 1) w4 (by omega) ⟨by omega, by omega, by omega, fun c hc13 => ?_⟩
      rw [e4]
      unfold st
      rw [up_o _ _ hc13]
      exact l4 c hc13
    refine cg_bn hsh (fun z hz => ?_)
    obtain ⟨q0, q4, q9, q7, q10, q1, q3, q8, q12⟩ := hz
    have ey : (y + 1).toInt = y.toInt + 1 := add_e (Eq.refl _) (by decide) (by omega) (by omega)
    rw [i6] at h
    refine ih (d - 1) (y + 1) z (by omega) ⟨by omega, by omega, by omega, q0.trans i4, q4.trans i5, q9.trans i6, ?_, ⟨q1.trans i8.1, q3.trans i8.2.1, q7.trans i8.2.2.1, q8.trans i8.2.2.2⟩, fun k hk ho => ?_⟩
    · unfold mg_J2 at i7 ⊢
      rw [q7, q9, q10]
      exact i7
    · rw [q12] at ho
      unfold stz at ho
      rw [up_s] at ho
      unfold upd at ho
      have hcl : y.toNatClampNeg = y.toInt.toNat := rfl
      by_cases hq : k = y.toNatClampNeg
      · rw [if_pos hq] at ho
        exact absurd (by decide) ho
      · rw [if_neg hq] at ho
        have := i9 k hk ho
        exact ⟨by omega, this.2⟩
