-- THE REFERENCE: what its five states keep
def mg_A (V : S1) (r c : Nat) : Int := (V 0 (53 * r + c)).toInt
/-- owners, things of entries, blocks of pages -/
def mg_J1 (V : S1) : Prop := (∀ r, r < 160 → 0 ≤ mg_A V r 1 ∧ mg_A V r 1 ≤ 3) ∧ (∀ r k, r < 160 → k < 8 → -1 ≤ mg_A V r (13 + k) ∧ mg_A V r (13 + k) ≤ 31) ∧ (∀ r p, r < 160 → p < 16 → -1 ≤ mg_A V r (21 + p) ∧ mg_A V r (21 + p) ≤ 63 ∧ (mg_A V r (37 + p) = 2 → 0 ≤ mg_A V r (21 + p)))
def mg_J2 (V : S1) : Prop := (0 ≤ (V 7 0).toInt ∧ (V 7 0).toInt ≤ 3) ∧ (0 ≤ (V 9 0).toInt ∧ (V 9 0).toInt ≤ 30) ∧ (∀ h, h < 30 → 0 ≤ (V 10 h).toInt ∧ (V 10 h).toInt ≤ 31)
/-- a dirty page has a block, and its thing is there -/
def mg_J3 (V : S1) : Prop := ∀ t p, t < 32 → p < 16 → V 4 (16 * t + p) ≠ 0 → 0 ≤ mg_A V t (21 + p) ∧ mg_A V t 0 ≠ -1
/-- an open handle has been given, and its thing is there -/
def mg_J4 (V : S1) : Prop := ∀ h, h < 30 → V 12 h ≠ 0 → (h : Int) < (V 9 0).toInt ∧ mg_A V (V 10 h).toNatClampNeg 0 ≠ -1
def mg_J (V : S1) : Prop := mg_J1 V ∧ mg_J2 V ∧ mg_J3 V ∧ mg_J4 V
def mg_F (V W : S1) : Prop := W 1 = V 1 ∧ W 3 = V 3 ∧ W 7 = V 7 ∧ W 8 = V 8
def mg_G (V W : S1) : Prop := mg_J W ∧ mg_F V W
theorem mg_refl {V : S1} (h : mg_J V) : mg_G V V := ⟨h, rfl, rfl, rfl, rfl⟩
theorem mg_ftrans {V W X : S1} (h : mg_F V W) (h2 : mg_F W X) : mg_F V X := ⟨h2.1.trans h.1, h2.2.1.trans h.2.1, h2.2.2.1.trans h.2.2.1, h2.2.2.2.trans h.2.2.2⟩
theorem mg_trans {V W X : S1} (h : mg_G V W) (h2 : mg_G W X) : mg_G V X := ⟨h2.1, mg_ftrans h.2 h2.2⟩
theorem mg_fup {V W : S1} {c : Nat} {f : Nat → Int32} (h : mg_F V W) (h1 : 1 ≠ c) (h3 : 3 ≠ c) (h7 : 7 ≠ c) (h8 : 8 ≠ c) : mg_F V (up W c f) := by
  refine ⟨?_, ?_, ?_, ?_⟩
  · rw [up_o W f h1]
    exact h.1
  · rw [up_o W f h3]
    exact h.2.1
  · rw [up_o W f h7]
    exact h.2.2.1
  · rw [up_o W f h8]
    exact h.2.2.2
theorem mg_ix {i : Int32} {n : Nat} (h : i.toInt = (n : Int)) : i.toNatClampNeg = n := by
  show i.toInt.toNat = n
  omega
theorem mg_st (V : S1) {i : Int32} (x : Int32) {n : Nat} (hi : i.toInt = (n : Int)) (r c : Nat) : mg_A (st V 0 i x) r c = if 53 * r + c = n then x.toInt else mg_A V r c := by
  unfold mg_A st
  rw [up_s]
  unfold upd
  rw [mg_ix hi]
  by_cases h : 53 * r + c = n
  · rw [if_pos h, if_pos h]
  · rw [if_neg h, if_neg h]
theorem mg_up (V : S1) {k : Nat} (f : Nat → Int32) (hk : 0 ≠ k) (r c : Nat) : mg_A (up V k f) r c = mg_A V r c := by
  unfold mg_A
  rw [up_o V f hk]
/-- nothing of what is kept has changed -/
theorem mg_of {V W : S1} (h : mg_J V) (ha : ∀ r c, c < 53 → c ≤ 1 ∨ 13 ≤ c → mg_A W r c = mg_A V r c) (h4 : W 4 = V 4) (h7 : W 7 = V 7) (h9 : W 9 = V 9) (h10 : W 10 = V 10) (h12 : W 12 = V 12) : mg_J W := by
  obtain ⟨⟨a1, a2, a3⟩, a4, a5, a6⟩ := h
  refine ⟨⟨fun r hr => ?_, fun r k hr hk => ?_, fun r p hr hp => ?_⟩, ?_, fun t p ht hp hd => ?_, fun k hk ho => ?_⟩
  · rw [ha r 1 (by decide) (by decide)]
    exact a1 r hr
  · rw [ha r (13 + k) (by omega) (by omega)]
    exact a2 r k hr hk
  · rw [ha r (21 + p) (by omega) (by omega), ha r (37 + p) (by omega) (by omega)]
    exact a3 r p hr hp
  · unfold mg_J2
    rw [h7, h9, h10]
    exact a4
  · rw [h4] at hd
    rw [ha t (21 + p) (by omega) (by omega), ha t 0 (by decide) (by decide)]
    exact a5 t p ht hp hd
  · rw [h12] at ho
    rw [h9, h10, ha _ 0 (by decide) (by decide)]
    exact a6 k hk ho
theorem mg_jup {V : S1} {c : Nat} {f : Nat → Int32} (h : mg_J V) (h0 : 0 ≠ c) (h4 : 4 ≠ c) (h7 : 7 ≠ c) (h9 : 9 ≠ c) (h10 : 10 ≠ c) (h12 : 12 ≠ c) : mg_J (up V c f) := mg_of h (fun r k _ _ => mg_up V f h0 r k) (up_o V f h4) (up_o V f h7) (up_o V f h9) (up_o V f h10) (up_o V f h12)
theorem mg_up' {V W : S1} {c : Nat} {f : Nat → Int32} (h : mg_G V W) (hc : c = 2 ∨ c = 5 ∨ c = 6 ∨ c = 11 ∨ 13 ≤ c) : mg_G V (up W c f) := ⟨mg_jup h.1 (by omega) (by omega) (by omega) (by omega) (by omega) (by omega), mg_fup h.2 (by omega) (by omega) (by omega) (by omega)⟩
theorem mg_fst {V W : S1} {i x : Int32} (h : mg_F V W) : mg_F V (st W 0 i x) := mg_fup h (by decide) (by decide) (by decide) (by decide)
/-- a cell of a thing that nothing rests on -/
theorem mg_free {V W : S1} {i x : Int32} {r0 c0 : Nat} (h : mg_G V W) (hi : i.toInt = ((53 * r0 + c0 : Nat) : Int)) (h1 : 2 ≤ c0) (h2 : c0 ≤ 12) : mg_G V (st W 0 i x) := by
  refine ⟨mg_of h.1 (fun r c hc hc2 => ?_) (up_o W _ (by decide)) (up_o W _ (by decide)) (up_o W _ (by decide)) (up_o W _ (by decide)) (up_o W _ (by decide)), mg_fst h.2⟩
  rw [mg_st W x hi, if_neg (by omega)]
theorem mg_thing {V W : S1} {i x : Int32} {r0 k0 : Nat} (h : mg_G V W) (hi : i.toInt = ((53 * r0 + (13 + k0) : Nat) : Int)) (hk : k0 < 8) (h1 : -1 ≤ x.toInt) (h2 : x.toInt ≤ 31) : mg_G V (st W 0 i x) := by
  have ha : ∀ r c, c < 53 → c ≤ 1 ∨ 21 ≤ c → mg_A (st W 0 i x) r c = mg_A W r c := fun r c hc hc2 => by rw [mg_st W x hi, if_neg (by omega)]
  obtain ⟨⟨⟨a1, a2, a3⟩, a4, a5, a6⟩, hf⟩ := h
  refine ⟨⟨⟨fun r hr => ?_, fun r k hr hk => ?_, fun r p hr hp => ?_⟩, a4, fun t p ht hp hd => ?_, fun k hk ho => ?_⟩, mg_fst hf⟩
  · rw [ha r 1 (by decide) (by decide)]
    exact a1 r hr
  · rw [mg_st W x hi]
    by_cases e : 53 * r + (13 + k) = 53 * r0 + (13 + k0)
    · rw [if_pos e]
      exact ⟨h1, h2⟩
    · rw [if_neg e]
      exact a2 r k hr hk
  · rw [ha r (21 + p) (by omega) (by omega), ha r (37 + p) (by omega) (by omega)]
    exact a3 r p hr hp
  · rw [ha t (21 + p) (by omega) (by omega), ha t 0 (by decide) (by decide)]
    exact a5 t p ht hp hd
  · rw [ha _ 0 (by decide) (by decide)]
    exact a6 k hk ho
theorem mg_owner {V W : S1} {i x : Int32} {r0 : Nat} (h : mg_G V W) (hi : i.toInt = ((53 * r0 + 1 : Nat) : Int)) (h1 : 0 ≤ x.toInt) (h2 : x.toInt ≤ 3) : mg_G V (st W 0 i x) := by
  have ha : ∀ r c, c < 53 → c ≠ 1 → mg_A (st W 0 i x) r c = mg_A W r c := fun r c hc hc2 => by rw [mg_st W x hi, if_neg (by omega)]
  obtain ⟨⟨⟨a1, a2, a3⟩, a4, a5, a6⟩, hf⟩ := h
  refine ⟨⟨⟨fun r hr => ?_, fun r k hr hk => ?_, fun r p hr hp => ?_⟩, a4, fun t p ht hp hd => ?_, fun k hk ho => ?_⟩, mg_fst hf⟩
  · rw [mg_st W x hi]
    by_cases e : 53 * r + 1 = 53 * r0 + 1
    · rw [if_pos e]
      exact ⟨h1, h2⟩
    · rw [if_neg e]
      exact a1 r hr
  · rw [ha r (13 + k) (by omega) (by omega)]
    exact a2 r k hr hk
  · rw [ha r (21 + p) (by omega) (by omega), ha r (37 + p) (by omega) (by omega)]
    exact a3 r p hr hp
  · rw [ha t (21 + p) (by omega) (by omega), ha t 0 (by decide) (by decide)]
    exact a5 t p ht hp hd
  · rw [ha _ 0 (by decide) (by decide)]
    exact a6 k hk ho
/-- a block: given, or of a page that has none and isn't dirty -/
theorem mg_block {V W : S1} {i x : Int32} {r0 p0 : Nat} (h : mg_G V W) (hi : i.toInt = ((53 * r0 + (21 + p0) : Nat) : Int)) (hp0 : p0 < 16) (h1 : -1 ≤ x.toInt) (h2 : x.toInt ≤ 63) (h3 : 0 ≤ x.toInt ∨ (mg_A W r0 (37 + p0) ≠ 2 ∧ (r0 < 32 → W 4 (16 * r0 + p0) = 0))) : mg_G V (st W 0 i x) := by
  have ha : ∀ r c, c < 53 → c < 21 ∨ 37 ≤ c → mg_A (st W 0 i x) r c = mg_A W r c := fun r c hc hc2 => by rw [mg_st W x hi, if_neg (by omega)]
  obtain ⟨⟨⟨a1, a2, a3⟩, a4, a5, a6⟩, hf⟩ := h
  refine ⟨⟨⟨fun r hr => ?_, fun r k hr hk => ?_, fun r p hr hp => ?_⟩, a4, fun t p ht hp hd => ?_, fun k hk ho => ?_⟩, mg_fst hf⟩
  · rw [ha r 1 (by decide) (by decide)]
    exact a1 r hr
  · rw [ha r (13 + k) (by omega) (by omega)]
    exact a2 r k hr hk
  · rw [mg_st W x hi, ha r (37 + p) (by omega) (by omega)]
    by_cases e : 53 * r + (21 + p) = 53 * r0 + (21 + p0)
    · rw [if_pos e]
      refine ⟨h1, h2, fun h5 => ?_⟩
      have e1 : r = r0 := by omega
      have e2 : p = p0 := by omega
      subst e1 e2
      rcases h3 with h3 | h3
      · exact h3
      · exact absurd h5 h3.1
    · rw [if_neg e]
      exact a3 r p hr hp
  · rw [mg_st W x hi, ha t 0 (by decide) (by decide)]
    by_cases e : 53 * t + (21 + p) = 53 * r0 + (21 + p0)
    · rw [if_pos e]
      have e1 : t = r0 := by omega
      have e2 : p = p0 := by omega
      subst e1 e2
      rcases h3 with h3 | h3
      · exact ⟨h3, (a5 t p ht hp hd).2⟩
      · exact absurd (h3.2 ht) hd
    · rw [if_neg e]
      exact a5 t p ht hp hd
  · rw [ha _ 0 (by decide) (by decide)]
    exact a6 k hk ho
theorem mg_is {V W : S1} {i x : Int32} {r0 p0 : Nat} (h : mg_G V W) (hi : i.toInt = ((53 * r0 + (37 + p0) : Nat) : Int)) (hp0 : p0 < 16) (h3 : x.toInt ≠ 2 ∨ 0 ≤ mg_A W r0 (21 + p0)) : mg_G V (st W 0 i x) := by
  have ha : ∀ r c, c < 53 → c < 37 → mg_A (st W 0 i x) r c = mg_A W r c := fun r c hc hc2 => by rw [mg_st W x hi, if_neg (by omega)]
  obtain ⟨⟨⟨a1, a2, a3⟩, a4, a5, a6⟩, hf⟩ := h
  refine ⟨⟨⟨fun r hr => ?_, fun r k hr hk => ?_, fun r p hr hp => ?_⟩, a4, fun t p ht hp hd => ?_, fun k hk ho => ?_⟩, mg_fst hf⟩
  · rw [ha r 1 (by decide) (by decide)]
    exact a1 r hr
  · rw [ha r (13 + k) (by omega) (by omega)]
    exact a2 r k hr hk
  · rw [ha r (21 + p) (by omega) (by omega), mg_st W x hi]
    by_cases e : 53 * r + (37 + p) = 53 * r0 + (37 + p0)
    · rw [if_pos e]
      refine ⟨(a3 r p hr hp).1, (a3 r p hr hp).2.1, fun h5 => ?_⟩
      have e1 : r = r0 := by omega
      have e2 : p = p0 := by omega
      subst e1 e2
      rcases h3 with h3 | h3
      · exact absurd h5 h3
      · exact h3
    · rw [if_neg e]
      exact a3 r p hr hp
  · rw [ha t (21 + p) (by omega) (by omega), ha t 0 (by decide) (by decide)]
    exact a5 t p ht hp hd
  · rw [ha _ 0 (by decide) (by decide)]
    exact a6 k hk ho
theorem mg_kind {V W : S1} {i x : Int32} {r0 : Nat} (h : mg_G V W) (hi : i.toInt = ((53 * r0 + 0 : Nat) : Int)) (h3 : x.toInt ≠ -1 ∨ ((∀ p, p < 16 → W 4 (16 * r0 + p) = 0) ∧ (∀ k, k < 30 → W 12 k ≠ 0 → (W 10 k).toNatClampNeg ≠ r0))) : mg_G V (st W 0 i x) := by
  have ha : ∀ r c, c < 53 → 0 < c → mg_A (st W 0 i x) r c = mg_A W r c := fun r c hc hc2 => by rw [mg_st W x hi, if_neg (by omega)]
  obtain ⟨⟨⟨a1, a2, a3⟩, a4, a5, a6⟩, hf⟩ := h
  refine ⟨⟨⟨fun r hr => ?_, fun r k hr hk => ?_, fun r p hr hp => ?_⟩, a4, fun t p ht hp hd => ?_, fun k hk ho => ?_⟩, mg_fst hf⟩
  · rw [ha r 1 (by decide) (by decide)]
    exact a1 r hr
  · rw [ha r (13 + k) (by omega) (by omega)]
    exact a2 r k hr hk
  · rw [ha r (21 + p) (by omega) (by omega), ha r (37 + p) (by omega) (by omega)]
    exact a3 r p hr hp
  · rw [ha t (21 + p) (by omega) (by omega), mg_st W x hi]
    refine ⟨(a5 t p ht hp hd).1, ?_⟩
    by_cases e : 53 * t + 0 = 53 * r0 + 0
    · rw [if_pos e]
      have e1 : t = r0 := by omega
      subst e1
      rcases h3 with h3 | h3
      · exact h3
      · exact absurd (h3.1 p hp) hd
    · rw [if_neg e]
      exact (a5 t p ht hp hd).2
  · rw [mg_st W x hi]
    refine ⟨(a6 k hk ho).1, ?_⟩
    by_cases e : 53 * (W 10 k).toNatClampNeg + 0 = 53 * r0 + 0
    · rw [if_pos (show 53 * ((st W 0 i x) 10 k).toNatClampNeg + 0 = 53 * r0 + 0 from e)]
      rcases h3 with h3 | h3
      · exact h3
      · exact absurd (show (W 10 k).toNatClampNeg = r0 by omega) (h3.2 k hk ho)
    · rw [if_neg (show ¬ 53 * ((st W 0 i x) 10 k).toNatClampNeg + 0 = 53 * r0 + 0 from e)]
      exact (a6 k hk ho).2
theorem mg_hole {V W : S1} {i j : Int32} {r0 p0 : Nat} (h : mg_G V W) (hi : i.toInt = ((53 * r0 + (21 + p0) : Nat) : Int)) (hj : j.toInt = ((53 * r0 + (37 + p0) : Nat) : Int)) (hp0 : p0 < 16) (hd0 : W 4 (16 * r0 + p0) = 0) : mg_G V (st (st W 0 i (-1)) 0 j 0) := by
  have hx : ∀ r c, mg_A (st (st W 0 i (-1)) 0 j 0) r c = if 53 * r + c = 53 * r0 + (37 + p0) then 0 else if 53 * r + c = 53 * r0 + (21 + p0) then -1 else mg_A W r c := fun r c => by rw [mg_st _ 0 hj, mg_st W (-1) hi]; rfl
  obtain ⟨⟨⟨a1, a2, a3⟩, a4, a5, a6⟩, hf⟩ := h
  refine ⟨⟨⟨fun r hr => ?_, fun r k hr hk => ?_, fun r p hr hp => ?_⟩, a4, fun t p ht hp hd => ?_, fun k hk ho => ?_⟩, mg_fst (mg_fst hf)⟩
  · rw [hx, if_neg (by omega), if_neg (by omega)]
    exact a1 r hr
  · rw [hx, if_neg (by omega), if_neg (by omega)]
    exact a2 r k hr hk
  · rw [hx, hx, if_neg (show ¬ 53 * r + (21 + p) = 53 * r0 + (37 + p0) by omega), if_neg (show ¬ 53 * r + (37 + p) = 53 * r0 + (21 + p0) by omega)]
    by_cases e : 53 * r + (21 + p) = 53 * r0 + (21 + p0)
    · rw [if_pos e, if_pos (by omega)]
      exact ⟨by omega, by omega, fun h => absurd h (by decide)⟩
    · rw [if_neg e, if_neg (by omega)]
      exact a3 r p hr hp
  · have e : ¬ (t = r0 ∧ p = p0) := fun e => by
      rw [e.1, e.2] at hd
      exact hd hd0
    rw [hx, hx, if_neg (by omega), if_neg (by omega), if_neg (by omega), if_neg (by omega)]
    exact a5 t p ht hp hd
  · rw [hx, if_neg (by omega), if_neg (by omega)]
    exact a6 k hk ho
theorem mg_dig {V W : S1} {i j k0 : Int32} {r0 p0 : Nat} (h : mg_G V W) (hi : i.toInt = ((53 * r0 + (21 + p0) : Nat) : Int)) (hj : j.toInt = ((53 * r0 + (37 + p0) : Nat) : Int)) (hk0 : k0.toInt = ((16 * r0 + p0 : Nat) : Int)) (hp0 : p0 < 16) : mg_G V (stz (st (st W 0 i (-1)) 0 j 0) 4 k0 0) := by
  have hx : ∀ r c, mg_A (stz (st (st W 0 i (-1)) 0 j 0) 4 k0 0) r c = if 53 * r + c = 53 * r0 + (37 + p0) then 0 else if 53 * r + c = 53 * r0 + (21 + p0) then -1 else mg_A W r c := fun r c => by
    unfold stz
    rw [mg_up _ _ (by decide), mg_st _ 0 hj, mg_st W (-1) hi]
    rfl
  have h4 : ∀ n, (stz (st (st W 0 i (-1)) 0 j 0) 4 k0 0) 4 n = if n = 16 * r0 + p0 then 0 else W 4 n := fun n => by
    unfold stz
    rw [up_s]
    unfold upd
    rw [mg_ix hk0]
    by_cases e : n = 16 * r0 + p0
    · rw [if_pos e, if_pos e]
      decide
    · rw [if_neg e, if_neg e]
      rfl
  obtain ⟨⟨⟨a1, a2, a3⟩, a4, a5, a6⟩, hf⟩ := h
  refine ⟨⟨⟨fun r hr => ?_, fun r k hr hk => ?_, fun r p hr hp => ?_⟩, a4, fun t p ht hp hd => ?_, fun k hk ho => ?_⟩, mg_fup (mg_fst (mg_fst hf)) (by decide) (by decide) (by decide) (by decide)⟩
  · rw [hx, if_neg (by omega), if_neg (by omega)]
    exact a1 r hr
  · rw [hx, if_neg (by omega), if_neg (by omega)]
    exact a2 r k hr hk
  · rw [hx, hx, if_neg (show ¬ 53 * r + (21 + p) = 53 * r0 + (37 + p0) by omega), if_neg (show ¬ 53 * r + (37 + p) = 53 * r0 + (21 + p0) by omega)]
    by_cases e : 53 * r + (21 + p) = 53 * r0 + (21 + p0)
    · rw [if_pos e, if_pos (by omega)]
      exact ⟨by omega, by omega, fun h => absurd h (by decide)⟩
    · rw [if_neg e, if_neg (by omega)]
      exact a3 r p hr hp
  · rw [h4] at hd
    have e : ¬ 16 * t + p = 16 * r0 + p0 := fun e => hd (if_pos e)
    rw [if_neg e] at hd
    rw [hx, hx, if_neg (by omega), if_neg (by omega), if_neg (by omega), if_neg (by omega)]
    exact a5 t p ht hp hd
  · rw [hx, if_neg (by omega), if_neg (by omega)]
    exact a6 k hk ho
/-- a page is no longer dirty; a handle is no longer open -/
theorem mg_clean {V W : S1} {i : Int32} (h : mg_G V W) : mg_G V (stz W 4 i 0) := by
  obtain ⟨⟨a1, a4, a5, a6⟩, hf⟩ := h
  refine ⟨⟨a1, a4, fun t p ht hp hd => a5 t p ht hp (fun e => hd ?_), a6⟩, mg_fup hf (by decide) (by decide) (by decide) (by decide)⟩
  unfold stz
  rw [up_s]
  unfold upd
  by_cases h9 : 16 * t + p = i.toNatClampNeg
  · rw [if_pos h9]
    decide
  · rw [if_neg h9]
    exact e
theorem mg_shut {V W : S1} {i : Int32} (h : mg_G V W) : mg_G V (stz W 12 i 0) := by
  obtain ⟨⟨a1, a4, a5, a6⟩, hf⟩ := h
  refine ⟨⟨a1, a4, a5, fun k hk ho => a6 k hk (fun e => ho ?_)⟩, mg_fup hf (by decide) (by decide) (by decide) (by decide)⟩
  unfold stz
  rw [up_s]
  unfold upd
  by_cases h9 : k = i.toNatClampNeg
  · rw [if_pos h9]
    decide
  · rw [if_neg h9]
    exact e
