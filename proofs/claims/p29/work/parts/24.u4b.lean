theorem cg_bne {α β : Type} {o : Option α} {k : α → Option β} {P : α → Prop} {Q : β → Prop} (h : cg_O o P) (hk : ∀ a, o = some a → P a → cg_O (k a) Q) : cg_O (bn o k) Q := by
  obtain ⟨a, ha, hp⟩ := h
  rw [ha]
  exact hk a ha hp
-- sets of things as bits
def mg_zc : Nat → BitVec 32 → Nat
  | 0, _ => 0
  | n + 1, x => mg_zc n x + (if x.getLsbD n = true then 0 else 1)
def mg_S (x y : Int32) : Prop := ∀ i, x.toBitVec.getLsbD i = true → y.toBitVec.getLsbD i = true
theorem mg_zle {x y : BitVec 32} (h : ∀ i, x.getLsbD i = true → y.getLsbD i = true) : ∀ n, mg_zc n y ≤ mg_zc n x := by
  intro n
  induction n with
  | zero => exact Nat.le_refl _
  | succ n ih =>
    show mg_zc n y + (if y.getLsbD n = true then 0 else 1) ≤ mg_zc n x + (if x.getLsbD n = true then 0 else 1)
    by_cases hx : x.getLsbD n = true
    · rw [if_pos hx, if_pos (h n hx)]
      omega
    · rw [if_neg hx]
      by_cases hy : y.getLsbD n = true
      · rw [if_pos hy]
        omega
      · rw [if_neg hy]
        omega
theorem mg_zlt0 {x y : BitVec 32} (h : ∀ i, x.getLsbD i = true → y.getLsbD i = true) : ∀ n, (∃ i, i < n ∧ y.getLsbD i = true ∧ ¬ x.getLsbD i = true) → mg_zc n y < mg_zc n x := by
  intro n
  induction n with
  | zero =>
    rintro ⟨i, hi, _⟩
    omega
  | succ n ih =>
    rintro ⟨i, hi, hy, hx⟩
    show mg_zc n y + (if y.getLsbD n = true then 0 else 1) < mg_zc n x + (if x.getLsbD n = true then 0 else 1)
    by_cases e : i = n
    · subst e
      have := mg_zle h i
      rw [if_pos hy, if_neg hx]
      omega
    · have := ih ⟨i, by omega, hy, hx⟩
      by_cases hx2 : x.getLsbD n = true
      · rw [if_pos hx2, if_pos (h n hx2)]
        omega
      · rw [if_neg hx2]
        by_cases hy2 : y.getLsbD n = true
        · rw [if_pos hy2]
          omega
        · rw [if_neg hy2]
          omega
theorem mg_zlt {x y : Int32} (h : mg_S x y) (hne : ¬ y = x) : mg_zc 32 y.toBitVec < mg_zc 32 x.toBitVec := by
  refine mg_zlt0 h 32 (Classical.byContradiction (fun q => hne (Int32.toBitVec_inj.mp (BitVec.eq_of_getLsbD_eq (fun i hi => ?_)))))
  cases hy : y.toBitVec.getLsbD i with
  | true =>
    cases hx : x.toBitVec.getLsbD i with
    | true => rfl
    | false => exact absurd ⟨i, hi, hy, by rw [hx]; decide⟩ q
  | false =>
    cases hx : x.toBitVec.getLsbD i with
    | true =>
      have := h i hx
      rw [hy] at this
      exact absurd this (by decide)
    | false => rfl
theorem mg_Sr (x : Int32) : mg_S x x := fun _ h => h
theorem mg_So {x y : Int32} (h : mg_S x y) (z : Int32) : mg_S x (y ||| z) := fun i hi => by
  rw [Int32.toBitVec_or, BitVec.getLsbD_or, h i hi]
  rfl
theorem mg_S0 (y : Int32) : mg_S 0 y := fun i hi => by
  rw [show (0 : Int32).toBitVec = 0#32 from rfl, BitVec.getLsbD_zero] at hi
  exact absurd hi (by decide)
theorem t_X7_below (u0 : S1) (p1 : Int32) : cg_O (f_X7_below u0 p1) (fun _ => True) := by
  unfold f_X7_below
  refine cg_q2 (cg_l2 (fun d s b => mg_S b s ∧ mg_zc 32 b.toBitVec ≤ d) (fun d r ih s b hh => ?_) 32 4096 (by decide) (1 <<< (p1 &&& 31)) 0 ⟨mg_S0 _, by decide⟩)
  obtain ⟨hs, hz⟩ := hh
  refine cg_i (fun _ => cg_some trivial) (fun hne => ?_)
  have hlt := mg_zlt hs hne
  refine cg_q3 (cg_l3 (fun d2 y2 y3 y4 => s = y3 ∧ mg_S s y2 ∧ 0 ≤ y4.toInt ∧ 32 - y4.toInt ≤ (d2 : Int)) (fun d2 r2 ih2 y2 y3 y4 hh => ?_) 32 4096 (by decide) s s 0 ⟨rfl, mg_Sr s, by decide, by decide⟩)
  obtain ⟨e3, hs2, i1, i2⟩ := hh
  subst e3
  refine cg_le2 (by decide : (32 : Int32).toInt = 32) (Eq.refl _) (fun h => ih (d - 1) y2 s (by omega) ⟨hs2, by omega⟩) (fun h => ?_)
  refine cg_q4 (cg_l4 (fun d3 z2 z3 z4 z5 => s = z3 ∧ y4 = z4 ∧ mg_S s z2 ∧ 0 ≤ z5.toInt ∧ 8 - z5.toInt ≤ (d3 : Int)) (fun d3 r3 ih3 z2 z3 z4 z5 hh => ?_) 8 4096 (by decide) y2 s y4 0 ⟨rfl, rfl, hs2, by decide, by decide⟩)
  obtain ⟨e3, e4, hs3, j1, j2⟩ := hh
  subst e3 e4
  refine cg_jn ?_
  have ey : (y4 + 1).toInt = y4.toInt + 1 := add_e (Eq.refl _) (by decide) (by omega) (by omega)
  have nx : cg_O (r2 z2 s (y4 + 1)) (fun _ => True) := ih2 (d2 - 1) z2 s (y4 + 1) (by omega) ⟨rfl, hs3, by omega, by omega⟩
  refine cg_i (fun _ => ?_) (fun _ => nx)
  refine cg_bn (t_X7_kindOf u0 y4 i1 (by omega)) (fun z8 _ => ?_)
  refine cg_i (fun _ => ?_) (fun _ => nx)
  refine cg_bn (t_X7_entries u0 0 y4 (by decide) (by decide) i1 (by omega)) (fun z10 h10 => ?_)
  refine cg_le2 (Eq.refl _) (Eq.refl _) (fun _ => nx) (fun h11 => ?_)
  refine cg_bn (t_X7_at 0 y4 (by decide) (by decide) i1 (by omega)) (fun z12 h12 => ?_)
  rw [show (0 : Int32).toInt = 0 by decide] at h12
  refine cg_chk (inb_e (add_e (add_e h12 (by decide : (13 : Int32).toInt = 13) (by omega) (by omega)) (Eq.refl _) (by omega) (by omega)) (by omega) (by omega)) ?_
  have e5 : (z5 + 1).toInt = z5.toInt + 1 := add_e (Eq.refl _) (by decide) (by omega) (by omega)
  exact ih3 (d3 - 1) _ s y4 (z5 + 1) (by omega) ⟨rfl, rfl, mg_So hs3 _, by omega, by omega⟩
-- more of what a change keeps
theorem mg_dirty {V W : S1} {i : Int32} {t0 p0 : Nat} (g : mg_G V W) (hi : i.toInt = ((16 * t0 + p0 : Nat) : Int)) (hp0 : p0 < 16) (hb : 0 ≤ mg_A W t0 (21 + p0)) (hk : mg_A W t0 0 ≠ -1) : mg_G V (stz W 4 i 1) := by
  obtain ⟨⟨a1, a4, a5, a6⟩, hf⟩ := g
  refine ⟨⟨a1, a4, fun t p ht hp hd => ?_, a6⟩, mg_fup hf (by decide) (by decide) (by decide) (by decide)⟩
  by_cases e : 16 * t + p = 16 * t0 + p0
  · have e1 : t = t0 := by omega
    have e2 : p = p0 := by omega
    subst e1 e2
    exact ⟨hb, hk⟩
  · refine a5 t p ht hp (fun q => hd ?_)
    unfold stz
    rw [up_s]
    unfold upd
    rw [mg_ix hi, if_neg e]
    exact q
theorem mg_openk {V : S1} (hJ : mg_J V) {p1 : Int32} (h0 : 0 ≤ p1.toInt) (h1 : p1.toInt < 30) (ho : (V 12 p1.toNatClampNeg).toInt ≠ 0) : mg_A V (V 10 p1.toNatClampNeg).toInt.toNat 0 ≠ -1 :=
  (hJ.2.2.2 p1.toNatClampNeg (show p1.toInt.toNat < 30 by omega) (fun q => ho (by rw [q]; decide))).2
theorem mg_write {V W : S1} {v p2 b p3 z : Int32} (g : mg_G V W) (hk : mg_A W v.toInt.toNat 0 ≠ -1) (h0 : 0 ≤ v.toInt) (h1 : v.toInt ≤ 31) (h2 : 0 ≤ p2.toInt) (h3 : p2.toInt ≤ 15) (h4 : 0 ≤ b.toInt) (h5 : b.toInt ≤ 63) (hz : z.toInt = 1696 * 0 + 53 * v.toInt) : cg_O (bv (st W 0 ((z + 21) + p2) b) (fun u_12 => bn (f_X7_at 0 v) (fun z_13 => chk (inb ((z_13 + 37) + p2) 8480) (bv (st u_12 0 ((z_13 + 37) + p2) 2) (fun u_14 => chk (inb ((16 * v) + p2) 512) (bv (stz u_14 4 ((16 * v) + p2) 1) (fun u_15 => chk (inb ((16 * v) + p2) 512) (bv (st u_15 5 ((16 * v) + p2) p3) (fun u_16 => some (b, u_16)))))))))) (fun z => mg_G V z.2) := by
  refine cg_bv (fun u12 e12 => ?_)
  have i1 : ((z + 21) + p2).toInt = ((53 * v.toInt.toNat + (21 + p2.toInt.toNat) : Nat) : Int) := (add_e (add_e hz (by decide : (21 : Int32).toInt = 21) (by omega) (by omega)) (Eq.refl _) (by omega) (by omega)).trans (by omega)
  have g12 : mg_G V u12 := by
    rw [e12]
    exact mg_block g i1 (by omega) (by omega) h5 (Or.inl h4)
  have a12 : mg_A u12 v.toInt.toNat (21 + p2.toInt.toNat) = b.toInt := by
    rw [e12, mg_st _ _ i1, if_pos rfl]
  have k12 : mg_A u12 v.toInt.toNat 0 ≠ -1 := by
    rw [e12, mg_st _ _ i1, if_neg (by omega)]
    exact hk
  refine cg_bn (t_X7_at 0 v (by decide) (by decide) h0 h1) (fun z13 h13 => ?_)
  rw [show (0 : Int32).toInt = 0 by decide] at h13
  have i2 : ((z13 + 37) + p2).toInt = ((53 * v.toInt.toNat + (37 + p2.toInt.toNat) : Nat) : Int) := (add_e (add_e h13 (by decide : (37 : Int32).toInt = 37) (by omega) (by omega)) (Eq.refl _) (by omega) (by omega)).trans (by omega)
  refine cg_chk (inb_e i2 (by omega) (by omega)) ?_
  refine cg_bv (fun u14 e14 => ?_)
  have g14 : mg_G V u14 := by
    rw [e14]
    exact mg_is g12 i2 (by omega) (Or.inr (by rw [a12]; exact h4))
  have a14 : mg_A u14 v.toInt.toNat (21 + p2.toInt.toNat) = b.toInt := by
    rw [e14, mg_st _ _ i2, if_neg (by omega)]
    exact a12
  have k14 : mg_A u14 v.toInt.toNat 0 ≠ -1 := by
    rw [e14, mg_st _ _ i2, if_neg (by omega)]
    exact k12
  have i3 : ((16 * v) + p2).toInt = ((16 * v.toInt.toNat + p2.toInt.toNat : Nat) : Int) := (add_e (cmul (by decide : (16 : Int32).toInt = 16) (by omega) (by omega)) (Eq.refl _) (by omega) (by omega)).trans (by omega)
  refine cg_chk (inb_e i3 (by omega) (by omega)) ?_
  refine cg_bv (fun u15 e15 => ?_)
  have g15 : mg_G V u15 := by
    rw [e15]
    exact mg_dirty g14 i3 (by omega) (by rw [a14]; exact h4) k14
  refine cg_chk (inb_e i3 (by omega) (by omega)) ?_
  refine cg_bv (fun u16 e16 => cg_some ?_)
  rw [e16]
  exact mg_up' g15 (by decide)
theorem mg_ablock {V W : S1} {i x : Int32} {r0 p0 : Nat} (g : mg_G V W) (hi : i.toInt = ((53 * r0 + (21 + p0) : Nat) : Int)) (hr : r0 < 32) (hp0 : p0 < 16) (ho : mg_A W r0 (21 + p0) = -1) (h1 : -1 ≤ x.toInt) (h2 : x.toInt ≤ 63) : mg_G V (st W 0 i x) := by
  refine mg_block g hi hp0 h1 h2 (Or.inr ⟨fun q => ?_, fun _ => Classical.byContradiction (fun q => ?_)⟩)
  · have := (g.1.1.2.2 r0 p0 (by omega) hp0).2.2 q
    omega
  · have := (g.1.2.2.1 r0 p0 hr hp0 q).1
    omega
theorem mg_open {V W : S1} {v w : Int32} (g : mg_G V W) (hn : (W 9 0).toInt < 30) (h0 : 0 ≤ v.toInt) (h1 : v.toInt ≤ 31) (hkv : mg_A W v.toInt.toNat 0 ≠ -1) : cg_O (bv (st W 10 (W 9 0) v) (fun u_7 => chk (inb (u_7 9 0) 30) (bv (stz u_7 11 (u_7 9 0) w) (fun u_8 => chk (inb (u_8 9 0) 30) (bv (stz u_8 12 (u_8 9 0) 1) (fun u_9 => bv (up u_9 9 (fun _ => (u_9 9 0) + 1)) (fun u_10 => some ((u_10 9 0) - 1, u_10)))))))) (fun z => mg_G V z.2) := by
  obtain ⟨⟨a1, ⟨b1, b2, b3⟩, a5, a6⟩, f1, f2, f3, f4⟩ := g
  have hcl : (W 9 0).toNatClampNeg = (W 9 0).toInt.toNat := rfl
  refine cg_bv (fun u7 e7 => ?_)
  have n7 : u7 9 0 = W 9 0 := by
    rw [e7]
    rfl
  rw [n7]
  refine cg_chk (inb_e (Eq.refl _) (by omega) (by omega)) ?_
  refine cg_bv (fun u8 e8 => ?_)
  have n8 : u8 9 0 = W 9 0 := by
    rw [e8]
    exact n7
  rw [n8]
  refine cg_chk (inb_e (Eq.refl _) (by omega) (by omega)) ?_
  refine cg_bv (fun u9 e9 => ?_)
  have n9 : u9 9 0 = W 9 0 := by
    rw [e9]
    exact n8
  rw [n9]
  refine cg_bv (fun u10 e10 => cg_some ?_)
  have c9 : u10 9 0 = W 9 0 + 1 := by
    rw [e10, up_s]
  have c9i : (u10 9 0).toInt = (W 9 0).toInt + 1 := by
    rw [c9]
    exact add_e (Eq.refl _) (by decide) (by omega) (by omega)
  have c10 : ∀ k, u10 10 k = if k = (W 9 0).toInt.toNat then v else W 10 k := fun k => by
    rw [e10, up_o _ _ (by decide), e9]
    show u8 10 k = _
    rw [e8]
    show u7 10 k = _
    rw [e7]
    unfold st
    rw [up_s]
    unfold upd
    rw [hcl]
  have c12 : ∀ k, k ≠ (W 9 0).toInt.toNat → u10 12 k = W 12 k := fun k hk => by
    rw [e10, up_o _ _ (by decide), e9]
    unfold stz
    rw [up_s]
    unfold upd
    rw [hcl, if_neg hk, e8]
    show u7 12 k = _
    rw [e7]
    rfl
  have cA : ∀ r c, mg_A u10 r c = mg_A W r c := fun r c => by
    rw [e10, mg_up _ _ (by decide), e9]
    unfold stz
    rw [mg_up _ _ (by decide), e8]
    unfold stz
    rw [mg_up _ _ (by decide), e7]
    unfold st
    rw [mg_up _ _ (by decide)]
  have c4 : u10 4 = W 4 := by
    rw [e10, e9, e8, e7]
    rfl
  have c7 : u10 7 = W 7 := by
    rw [e10, e9, e8, e7]
    rfl
  refine (show mg_G V u10 from ?_)
  refine ⟨⟨⟨fun r hr => ?_, fun r k hr hk => ?_, fun r p hr hp => ?_⟩, ⟨?_, ⟨by omega, by omega⟩, fun k hk => ?_⟩, fun t p ht hp hd => ?_, fun k hk ho => ?_⟩, ?_, ?_, c7.trans f3, ?_⟩
  · rw [cA]
    exact a1.1 r hr
  · rw [cA]
    exact a1.2.1 r k hr hk
  · rw [cA, cA]
    exact a1.2.2 r p hr hp
  · rw [c7]
    exact b1
  · rw [c10]
    by_cases e : k = (W 9 0).toInt.toNat
    · rw [if_pos e]
      exact ⟨h0, h1⟩
    · rw [if_neg e]
      exact b3 k hk
  · rw [c4] at hd
    rw [cA, cA]
    exact a5 t p ht hp hd
  · rw [cA, c10, c9i]
    by_cases e : k = (W 9 0).toInt.toNat
    · rw [if_pos e]
      exact ⟨by omega, hkv⟩
    · rw [if_neg e]
      rw [c12 k e] at ho
      have := a6 k hk ho
      exact ⟨by omega, this.2⟩
  · rw [e10, e9, e8, e7]
    exact f1
  · rw [e10, e9, e8, e7]
    exact f2
  · rw [e10, e9, e8, e7]
    exact f4
theorem mg_rroom {U W Z : S1} {old folder : Int32} (hA : ∀ r c, mg_A W r c = mg_A U r c) (hl : mg_room Z old.toInt.toNat ∧ ∀ r c, r ≠ old.toInt.toNat → c < 53 → mg_A Z r c = mg_A W r c) (h : folder = old ∨ mg_room U folder.toInt.toNat) (h0 : 0 ≤ folder.toInt) (h1 : 0 ≤ old.toInt) : mg_room Z folder.toInt.toNat := by
  rcases h with h | h
  · rw [h]
    exact hl.1
  · by_cases e : folder.toInt.toNat = old.toInt.toNat
    · rw [e]
      exact hl.1
    · exact mg_roomA h (fun c _ hc => (hl.2 _ c e (by omega)).trans (hA _ _))
