theorem upc_ne (U : S2) {k c : Nat} (f : S1) (h : c ≠ k) : upc U k f c = U c := by
  unfold upc
  rw [show Nat.beq c k = false from (by cases hb : Nat.beq c k with | false => rfl | true => exact absurd (Nat.eq_of_beq_eq_true hb) h)]
  rfl
theorem qkc_x {oL : Option (Int32 × S2 × (Nat → Int64))} {oM : Option (Int32 × S1)} {k : Int32} {U : S2} {V : S1} {g : Nat → Int64} {x : Int32} (h1 : oL = some (k, U, g)) (h2 : oM = some (x, V)) (h3 : V 18 0 = k) (h4 : ¬ k = 0) : qkc oL oM = true := by
  rw [h1, h2]
  simp only [qkc, Bool.and_eq_true, Bool.or_eq_true, Bool.not_eq_true', decide_eq_true_eq, decide_eq_false_iff_not]
  exact ⟨h3, Or.inl h4⟩
theorem ok_remove (x : Int32) : qkc (f_L_remove U0 g0 x) (f_X7_remove V0 x) = true := by
  rcases new_cases x with ⟨h1, h2⟩ | ⟨h1, h2, q, hq, hq2, rfl⟩
  · unfold f_L_remove f_X6_remove f_X7_remove
    rw [h1, h2]
    rfl
  · obtain ⟨z, w, hz, hw⟩ := fa_any (U := U0) rfl hq2
    obtain ⟨V', hv, _⟩ := mwalk_no (V := V0) rfl hq hq2 0
    refine qkc_x (k := 2) (U := upc U0 6 w) (g := g0) (x := 0) (V := up V' 18 (fun _ => 2)) ?_ ?_ rfl (by decide)
    · unfold f_L_remove f_X6_remove
      rw [h1, bn_n, if_neg (show ¬ (1 : Int32) = 0 by decide), hw, bn_n]
      dsimp only
      rw [upc_ne U0 w (show 1 ≠ 6 by decide), named_any hz, bn_n, if_pos rfl, bn_n]
      rfl
    · unfold f_X7_remove
      rw [h2, bn_n, jn_n, if_neg (show ¬ (1 : Int32) = 0 by decide), hv, bn_n]
      dsimp only
      rw [jn_n, jn_n, if_pos rfl]
      dsimp only
      rw [jn_n, if_neg (show ¬ (1 : Int32) = 0 by decide), if_pos rfl]
      rfl
