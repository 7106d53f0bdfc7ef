-- the reference
theorem at00 : f_X7_at 0 0 = some 0 := by decide +kernel
theorem noname0 : ∀ i, i < 8 → inb ((0 + 5) + nI i) 8480 = true ∧ V0 0 ((0 + 5) + nI i).toNatClampNeg = -1 := by decide +kernel
theorem root0 : V0 0 (0 : Int32).toNatClampNeg = 1 := by decide +kernel
theorem mplace {V : S1} (h0 : V 0 = V0 0) (x : Int32) : f_X7_placeOf V 0 0 x = some (-1) := by
  unfold f_X7_placeOf qj2
  refine ql2_ind (a := fun _ => (-1 : Int32)) (b := fun i => nI i) (N := 8) (fun i hi R => ?_) (fun R => ?_) 8 4096 0 rfl (by decide)
  · have h1 : ¬ (8 : Int32) ≤ nI i := nI_ge (b := 8) hi (by decide)
    dsimp only [jn]
    rw [if_neg h1, at00]
    simp only [bn_s, nI_1]
    by_cases hx : x ≤ 0
    · rw [if_pos hx]
    · have e : ¬ (-1 : Int32) = x := fun h => hx (by rw [← h]; decide)
      rw [if_neg hx, chk_t (noname0 i hi).1, h0, (noname0 i hi).2, if_neg e]
  · rw [if_pos (show (8 : Int32) ≤ nI 8 by decide)]
theorem mentry {V : S1} (h0 : V 0 = V0 0) (x : Int32) : f_X7_entryOf V 0 0 x = some (-1) := by
  unfold f_X7_entryOf
  rw [mplace h0]
  rfl
def sm (V V' : S1) : Prop := ∀ c, c ≠ 14 → c ≠ 15 → c ≠ 16 → c ≠ 17 → V' c = V c
theorem mlays {V : S1} (hV : V 15 0 = 0) {q : Nat} (hq : 0 < q) (hq2 : q < 100000000) : ∃ u', (∃ c : Nat, 1 ≤ c ∧ c ≤ 4 ∧ u' 15 0 = nI c ∧ sm V u') ∧ f_X7_lays V (nI q) = some u' := by
  unfold f_X7_lays qj2
  refine ql2_ex (Q := fun (u' : S1) => ∃ c : Nat, 1 ≤ c ∧ c ≤ 4 ∧ u' 15 0 = nI c ∧ sm V u') (P := fun (d : Nat) (y : Int32) (w : S1) => ∃ jm qn : Nat, y = nI qn ∧ qn < 100 ^ d ∧ qn < 2 ^ 31 ∧ jm + d = 4 ∧ w 15 0 = nI jm ∧ (jm = 0 → 0 < qn) ∧ sm V w) ?_ 4 4096 (nI q) V ⟨0, q, rfl, hq2, by omega, rfl, hV, fun _ => hq, fun _ _ _ _ _ => rfl⟩ (by decide)
  rintro d y w ⟨jm, qn, rfl, hqd, hqn, hd, hw, h0, hs⟩
  by_cases hz : qn = 0
  · subst hz
    exact Or.inl ⟨w, ⟨jm, by omega, by omega, hw, hs⟩, fun R => if_pos (show nI 0 ≤ 0 by decide)⟩
  · cases d with
    | zero => exact absurd (Nat.lt_one_iff.mp hqd) hz
    | succ d =>
      have h2 : ¬ nI qn ≤ 0 := nI_nle (by omega) hqn
      have h4 : inb (nI jm) 40 = true := inb_nI (by omega) (by decide)
      have h5 : 100 ^ (d + 1) = 100 * 100 ^ d := by rw [Nat.pow_succ, Nat.mul_comm]
      refine Or.inr ⟨d, nI qn / 100, up (st w 14 (nI jm) (nI qn - nI qn / 100 * 100)) 15 (fun _ => nI jm + 1), by omega, ⟨jm + 1, qn / 100, pk_div (d := 100) hqn (by decide) (by decide), Nat.div_lt_of_lt_mul (by rw [← h5]; exact hqd), by omega, by omega, nI_1 jm, fun h => by omega, fun c a1 a2 a3 a4 => ?_⟩, fun R => ?_⟩
      · rw [up_ne _ _ a2]
        unfold st
        rw [up_ne _ _ a1]
        exact hs c a1 a2 a3 a4
      · have e : (st w 14 (nI jm) (nI qn - nI qn / 100 * 100)) 15 0 = nI jm := hw
        dsimp only [bv]
        rw [if_neg h2, hw, chk_t h4, e]
theorem up_self (u : S1) (k : Nat) (f : Nat → Int32) : up u k f k = f := by
  unfold up
  rw [show Nat.beq k k = true from Nat.beq_refl k]
  rfl
theorem bv_n {α β : Type} {e : α} {k : α → Option β} : bv e k = k e := (Eq.refl (bv e k)).trans (Eq.refl (k e))
theorem jn_n {κ β : Type} {k : κ} {f : κ → Option β} : jn k f = f k := (Eq.refl (jn k f)).trans (Eq.refl (f k))
theorem bn_n {α β : Type} {a : α} {k : α → Option β} : bn (some a) k = k a := (Eq.refl (bn (some a) k)).trans (Eq.refl (k a))
theorem mwalk_no {V : S1} (h0 : V 0 = V0 0) {q : Nat} (hq : 0 < q) (hq2 : q < 100000000) (b : Int32) : ∃ V', f_X7_walks V 0 (nI q) b = some (-1, V') ∧ sm V V' := by
  obtain ⟨u', ⟨c, hc1, hc2, hc, hs⟩, hp⟩ := mlays (V := up V 15 (fun _ => 0)) rfl hq hq2
  have h1 : ¬ nI c ≤ 0 := nI_nle (by omega) (by omega)
  have h4 : inb (nI c - 1) 40 = true := by
    obtain ⟨c, rfl⟩ : ∃ k, c = k + 1 := ⟨c - 1, by omega⟩
    rw [nI_pred]
    exact inb_nI (by omega) (by decide)
  have e0 : u' 0 = V0 0 := (hs 0 (by decide) (by decide) (by decide) (by decide)).trans ((up_ne V _ (by decide)).trans h0)
  obtain ⟨W1, hW1⟩ : ∃ W, W = up u' 16 (fun _ => (-1 : Int32)) := ⟨_, rfl⟩
  have a1 : W1 15 0 = nI c := by
    rw [hW1, up_ne u' _ (show 15 ≠ 16 by decide)]
    exact hc
  have b1 : W1 0 = V0 0 := by
    rw [hW1, up_ne u' _ (show 0 ≠ 16 by decide)]
    exact e0
  obtain ⟨W2, hW2⟩ : ∃ W, W = up W1 15 (fun _ => nI c - 1) := ⟨_, rfl⟩
  have b2 : W2 0 = V0 0 := by
    rw [hW2, up_ne W1 _ (show 0 ≠ 15 by decide)]
    exact b1
  have a2 : W2 15 0 = nI c - 1 := by rw [hW2, up_self]
  obtain ⟨W3, hW3⟩ : ∃ W, W = up W2 16 (fun _ => (0 : Int32)) := ⟨_, rfl⟩
  have b3 : W3 0 = V0 0 := by
    rw [hW3, up_ne W2 _ (show 0 ≠ 16 by decide)]
    exact b2
  have a3 : W3 15 0 = nI c - 1 := by
    rw [hW3, up_ne W2 _ (show 15 ≠ 16 by decide)]
    exact a2
  obtain ⟨W4, hW4⟩ : ∃ W, W = up W3 17 (fun _ => W3 14 (nI c - 1).toNatClampNeg) := ⟨_, rfl⟩
  have b4 : W4 0 = V0 0 := by
    rw [hW4, up_ne W3 _ (show 0 ≠ 17 by decide)]
    exact b3
  refine ⟨W4, ?_, fun k a1 a2 a3 a4 => by rw [hW4, up_ne _ _ a4, hW3, up_ne _ _ a3, hW2, up_ne _ _ a2, hW1, up_ne _ _ a3, hs k a1 a2 a3 a4, up_ne _ _ a2]⟩
  unfold f_X7_walks
  rw [bv_n, hp, bn_n, bv_n, ← hW1]
  unfold qj3
  refine ql3_u (fun R => ?_)
  rw [a1, if_neg h1, bv_n, ← hW2, bv_n, ← hW3, a3, chk_t h4, bv_n, ← hW4, at00, bn_n, chk_t (show inb 0 8480 = true by decide), jn_n, if_pos (show W4 0 (0 : Int32).toNatClampNeg = 1 from (congrFun b4 _).trans root0), mentry b4, bn_n]
  exact if_pos rfl
theorem mwalk_root (V : S1) (b : Int32) : ∃ V', f_X7_walks V 0 0 b = some (0, V') ∧ sm V V' := by
  refine ⟨up (up V 15 (fun _ => 0)) 16 (fun _ => -1), rfl, fun k a1 a2 a3 a4 => ?_⟩
  rw [up_ne _ _ a3, up_ne _ _ a2]
