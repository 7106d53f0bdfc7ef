-- THE REFERENCE: blocks
theorem t_X7_isShort (u0 : S1) (p1 : Int32) (h0 : mg_J u0) (h1 : 0 ≤ p1.toInt) (h2 : p1.toInt ≤ 31) : cg_O (f_X7_isShort u0 p1) (fun _ => True) := by
  unfold f_X7_isShort
  refine cg_bn (t_X7_at 0 p1 (by decide) (by decide) h1 h2) (fun z hz => ?_)
  rw [show (0 : Int32).toInt = 0 by decide] at hz
  have e : (z + 1).toInt = ((53 * p1.toInt.toNat + 1 : Nat) : Int) := (add_e hz (by decide : (1 : Int32).toInt = 1) (by omega) (by omega)).trans (by omega)
  have ho := mg_jo u0 h0 e (by omega)
  refine cg_chk (inb_e e (by omega) (by omega)) ?_
  refine cg_bn (t_X7_blocksOf u0 _ h0) (fun z2 _ => ?_)
  refine cg_chk (inb_e (Eq.refl _) (by omega) (by omega)) ?_
  refine cg_jn ?_
  exact cg_i (fun _ => cg_some trivial) (fun _ => cg_some trivial)
theorem rem_e {a c : Int32} {x k : Int} (ha : a.toInt = x) (hc : c.toInt = k) (h0 : 0 ≤ x) (hk : 1 < k) (hk2 : k ≤ 1000) : (a - a / c * c).toInt = x % k := by
  have h1 := lim a
  have e1 : (a / c).toInt = x / k := div_e ha hc h0 hk
  have h2 : 0 ≤ x / k := Int.ediv_nonneg h0 (by omega)
  have h4 : x / k * k + x % k = x := Int.ediv_mul_add_emod x k
  have h5 : 0 ≤ x % k := Int.emod_nonneg x (by omega)
  have h6 : x % k < k := Int.emod_lt_of_pos x (by omega)
  have e2 : (a / c * c).toInt = x / k * k := mul_e e1 hc (by omega) (by omega)
  rw [sub_e ha e2 (by omega) (by omega)]
  omega
theorem t_X7_blockFor (u0 : S1) (p1 p2 : Int32) (h0 : mg_J u0) (h1 : 0 ≤ p1.toInt) (h2 : p1.toInt ≤ 31) (h3 : 0 ≤ p2.toInt) (h4 : p2.toInt ≤ 15) : cg_O (f_X7_blockFor u0 p1 p2) (fun z => -1 ≤ z.toInt ∧ z.toInt ≤ 63) := by
  have hrow : cg_O (qj1 (fun (r48_3 : Int32 → Option (Int32)) (y48_3_4 : Int32) => if 64 ≤ y48_3_4 then some (-1) else bn (f_X7_frees u0 (((16 * (p1 - p1 / 4 * 4)) + y48_3_4) - ((16 * (p1 - p1 / 4 * 4)) + y48_3_4) / 64 * 64)) (fun z_5 => if z_5 = 0 then r48_3 (y48_3_4 + 1) else some (((16 * (p1 - p1 / 4 * 4)) + y48_3_4) - ((16 * (p1 - p1 / 4 * 4)) + y48_3_4) / 64 * 64))) (fun k48_3 => k48_3 0)) (fun z => -1 ≤ z.toInt ∧ z.toInt ≤ 63) := by
    refine cg_q1 (cg_l1 (fun d y => 0 ≤ y.toInt ∧ 64 - y.toInt ≤ (d : Int)) (fun d r ih y hh => ?_) 64 4096 (by decide) 0 ⟨by decide, by decide⟩)
    obtain ⟨i1, i2⟩ := hh
    refine cg_le2 (by decide : (64 : Int32).toInt = 64) (Eq.refl _) (fun h => cg_some ⟨(by decide : -1 ≤ (-1 : Int32).toInt), (by decide : (-1 : Int32).toInt ≤ 63)⟩) (fun h => ?_)
    have e1 : (p1 - p1 / 4 * 4).toInt = p1.toInt % 4 := rem_e (Eq.refl _) (by decide) h1 (by decide) (by decide)
    have e2 : ((16 * (p1 - p1 / 4 * 4)) + y).toInt = 16 * (p1.toInt % 4) + y.toInt := add_e (mul_e (by decide : (16 : Int32).toInt = 16) e1 (by omega) (by omega)) (Eq.refl _) (by omega) (by omega)
    have e3 : (((16 * (p1 - p1 / 4 * 4)) + y) - ((16 * (p1 - p1 / 4 * 4)) + y) / 64 * 64).toInt = (16 * (p1.toInt % 4) + y.toInt) % 64 := rem_e e2 (by decide) (by omega) (by decide) (by decide)
    refine cg_bn (t_X7_frees u0 _) (fun z _ => ?_)
    have e4 : (y + 1).toInt = y.toInt + 1 := add_e (Eq.refl _) (by decide) (by omega) (by omega)
    exact cg_i (fun _ => ih (d - 1) (y + 1) (by omega) ⟨by omega, by omega⟩) (fun _ => cg_some ⟨by omega, by omega⟩)
  unfold f_X7_blockFor
  refine cg_jn ?_
  refine cg_i (fun _ => ?_) (fun hp => ?_)
  · refine cg_jn ?_
    exact cg_pos rfl hrow
  · have hp2 : p2.toInt ≠ 0 := fun q => hp (Int32.toInt_inj.mp q)
    have es : (p2 - 1).toInt = p2.toInt - 1 := sub_e (Eq.refl _) (by decide) (by omega) (by omega)
    refine cg_bn (t_X7_blockOf u0 p1 (p2 - 1) h0 h1 h2 (by omega) (by omega)) (fun z hz => ?_)
    refine cg_jn ?_
    refine cg_eq2 (Eq.refl _) (by decide : (-1 : Int32).toInt = -1) (fun _ => hrow) (fun h => ?_)
    have e1 : (z - z / 16 * 16).toInt = z.toInt % 16 := rem_e (Eq.refl _) (by decide) (by omega) (by decide) (by decide)
    refine cg_le2 (by decide : (15 : Int32).toInt = 15) e1 (fun _ => hrow) (fun h5 => ?_)
    have e2 : (z + 1).toInt = z.toInt + 1 := add_e (Eq.refl _) (by decide) (by omega) (by omega)
    refine cg_bn (t_X7_frees u0 (z + 1)) (fun z9 _ => ?_)
    exact cg_i (fun _ => hrow) (fun _ => cg_some ⟨by omega, by omega⟩)
/-- one state laid over another -/
theorem t_X7_copies (u0 : S1) (p1 p2 : Int32) (h0 : 0 ≤ p1.toInt) (h1 : p1.toInt ≤ 4) (h2 : 0 ≤ p2.toInt) (h3 : p2.toInt ≤ 4) (hne : p1.toInt ≠ p2.toInt) : cg_O (f_X7_copies u0 p1 p2) (fun z => (∀ c, c ≠ 0 → z c = u0 c) ∧ ∀ r c, c < 53 → mg_A z r c = if 32 * p2.toInt.toNat ≤ r ∧ r < 32 * p2.toInt.toNat + 32 then mg_A u0 (r - 32 * p2.toInt.toNat + 32 * p1.toInt.toNat) c else mg_A u0 r c) := by
  unfold f_X7_copies
  refine cg_q2 (cg_l2 (fun d y u => 0 ≤ y.toInt ∧ y.toInt ≤ 1696 ∧ 1696 - y.toInt ≤ (d : Int) ∧ (∀ c, c ≠ 0 → u c = u0 c) ∧ ∀ n : Nat, u 0 n = if 1696 * p2.toInt ≤ (n : Int) ∧ (n : Int) < 1696 * p2.toInt + y.toInt then u0 0 (n - 1696 * p2.toInt.toNat + 1696 * p1.toInt.toNat) else u0 0 n) (fun d r ih y u hh => ?_) 1696 4096 (by decide) 0 u0 ⟨by decide, by decide, by decide, fun _ _ => rfl, fun n => ?_⟩)
  · obtain ⟨i1, i2, i3, i4, i5⟩ := hh
    refine cg_le2 (by decide : (1696 : Int32).toInt = 1696) (Eq.refl _) (fun h => cg_some ⟨i4, fun r c hc => ?_⟩) (fun h => ?_)
    · unfold mg_A
      rw [i5]
      by_cases hr : 32 * p2.toInt.toNat ≤ r ∧ r < 32 * p2.toInt.toNat + 32
      · rw [if_pos hr, if_pos (by omega), show 53 * r + c - 1696 * p2.toInt.toNat + 1696 * p1.toInt.toNat = 53 * (r - 32 * p2.toInt.toNat + 32 * p1.toInt.toNat) + c by omega]
      · rw [if_neg hr, if_neg (by omega)]
    · have e1 : ((1696 * p1) + y).toInt = ((1696 * p1.toInt.toNat + y.toInt.toNat : Nat) : Int) := (add_e (cmul (by decide : (1696 : Int32).toInt = 1696) (by omega) (by omega)) (Eq.refl _) (by omega) (by omega)).trans (by omega)
      have e2 : ((1696 * p2) + y).toInt = ((1696 * p2.toInt.toNat + y.toInt.toNat : Nat) : Int) := (add_e (cmul (by decide : (1696 : Int32).toInt = 1696) (by omega) (by omega)) (Eq.refl _) (by omega) (by omega)).trans (by omega)
      refine cg_chk (inb_e e1 (by omega) (by omega)) ?_
      refine cg_chk (inb_e e2 (by omega) (by omega)) ?_
      refine cg_bv (fun u3 e3 => ?_)
      have ey : (y + 1).toInt = y.toInt + 1 := add_e (Eq.refl _) (by decide) (by omega) (by omega)
      refine ih (d - 1) (y + 1) u3 (by omega) ⟨by omega, by omega, by omega, fun c hc => ?_, fun n => ?_⟩
      · rw [e3]
        unfold st
        rw [up_o _ _ hc]
        exact i4 c hc
      · rw [e3]
        unfold st
        rw [up_s]
        unfold upd
        rw [mg_ix e2, mg_ix e1]
        by_cases hn : n = 1696 * p2.toInt.toNat + y.toInt.toNat
        · rw [if_pos hn, i5, if_neg (by omega), if_pos (by omega), show n - 1696 * p2.toInt.toNat + 1696 * p1.toInt.toNat = 1696 * p1.toInt.toNat + y.toInt.toNat by omega]
        · rw [if_neg hn, i5]
          by_cases hq : 1696 * p2.toInt ≤ (n : Int) ∧ (n : Int) < 1696 * p2.toInt + y.toInt
          · rw [if_pos hq, if_pos (by omega)]
          · rw [if_neg hq, if_neg (by omega)]
  · rw [if_neg (by rw [show (0 : Int32).toInt = 0 by decide]; omega)]
/-- ... that isn't the one of now -/
theorem mg_copy {V u z : S1} {p1 p2 : Int32} (g : mg_G V u) (h0 : 0 ≤ p1.toInt) (h1 : p1.toInt ≤ 4) (h2 : 1 ≤ p2.toInt) (h3 : p2.toInt ≤ 4) (hc : ∀ c, c ≠ 0 → z c = u c) (ha : ∀ r c, c < 53 → mg_A z r c = if 32 * p2.toInt.toNat ≤ r ∧ r < 32 * p2.toInt.toNat + 32 then mg_A u (r - 32 * p2.toInt.toNat + 32 * p1.toInt.toNat) c else mg_A u r c) : mg_G V z := by
  obtain ⟨⟨⟨a1, a2, a3⟩, a4, a5, a6⟩, f1, f2, f3, f4⟩ := g
  have hrow : ∀ r, r < 160 → ∃ r', r' < 160 ∧ ∀ c, c < 53 → mg_A z r c = mg_A u r' c := fun r hr => by
    by_cases h : 32 * p2.toInt.toNat ≤ r ∧ r < 32 * p2.toInt.toNat + 32
    · exact ⟨r - 32 * p2.toInt.toNat + 32 * p1.toInt.toNat, by omega, fun c hc => by rw [ha r c hc, if_pos h]⟩
    · exact ⟨r, hr, fun c hc => by rw [ha r c hc, if_neg h]⟩
  have hnow : ∀ r c, r < 32 → c < 53 → mg_A z r c = mg_A u r c := fun r c hr hc => by rw [ha r c hc, if_neg (by omega)]
  refine ⟨⟨⟨fun r hr => ?_, fun r k hr hk => ?_, fun r p hr hp => ?_⟩, ?_, fun t p ht hp hd => ?_, fun k hk ho => ?_⟩, (hc 1 (by decide)).trans f1, (hc 3 (by decide)).trans f2, (hc 7 (by decide)).trans f3, (hc 8 (by decide)).trans f4⟩
  · obtain ⟨r', hr', e⟩ := hrow r hr
    rw [e 1 (by decide)]
    exact a1 r' hr'
  · obtain ⟨r', hr', e⟩ := hrow r hr
    rw [e (13 + k) (by omega)]
    exact a2 r' k hr' hk
  · obtain ⟨r', hr', e⟩ := hrow r hr
    rw [e (21 + p) (by omega), e (37 + p) (by omega)]
    exact a3 r' p hr' hp
  · unfold mg_J2
    rw [hc 7 (by decide), hc 9 (by decide), hc 10 (by decide)]
    exact a4
  · rw [hc 4 (by decide)] at hd
    rw [hnow t (21 + p) ht (by omega), hnow t 0 ht (by decide)]
    exact a5 t p ht hp hd
  · rw [hc 12 (by decide)] at ho
    have hb := a4.2.2 k hk
    have hcl : (u 10 k).toNatClampNeg = (u 10 k).toInt.toNat := rfl
    rw [hc 9 (by decide), hc 10 (by decide), hnow _ 0 (by omega) (by decide)]
    exact a6 k hk ho
