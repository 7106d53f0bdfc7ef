theorem qkb_x {oL : Option (Int32 × S2 × (Nat → Int64))} {oM : Option (Int32 × S1)} {k : Int32} {U : S2} {V : S1} {g : Nat → Int64} {x : Int32} (h1 : oL = some (k, U, g)) (h2 : oM = some (x, V)) (h3 : V 18 0 = k) (h4 : k = 0 → lg_cmp (g (0 : Int32).toNatClampNeg) x.toInt64 = 0) : qkb oL oM = true := by
  rw [h1, h2]
  simp only [qkb, Bool.and_eq_true, Bool.or_eq_true, Bool.not_eq_true', decide_eq_true_eq, decide_eq_false_iff_not]
  refine ⟨h3, ?_⟩
  by_cases h : k = 0
  · exact Or.inr (h4 h)
  · exact Or.inl h
theorem ok_own (x y : Int32) : qkb (f_L_own U0 g0 x y) (f_X7_own V0 x y) = true := by
  rcases path_cases2 x with ⟨h1, h2⟩ | ⟨h1, h2, rfl | ⟨q, hq, hq2, rfl⟩⟩
  · unfold f_L_own f_X6_own f_X7_own
    rw [h1, h2]
    rfl
  · rcases cases_of y 4 (by decide) with h | ⟨j, hj, rfl⟩
    · obtain ⟨w, hw⟩ := walk_root (U0 6) 1
      obtain ⟨V', hv, _⟩ := mwalk_root V0 1
      refine qkb_x (k := 2) (U := upc U0 6 w) (g := g0) (x := 0) (V := up V' 18 (fun _ => 2)) ?_ ?_ rfl (fun h => absurd h (by decide))
      · unfold f_L_own f_X6_own
        rw [h1, bn_n, if_neg (show ¬ (1 : Int32) = 0 by decide), hw, bn_n, bv_n, jn_n]
        dsimp only
        rw [if_neg (show ¬ (0 : Int32) = -1 by decide), user_out h, bn_n, if_pos rfl, bn_n]
        rfl
      · unfold f_X7_own
        rw [h2, bn_n, jn_n, if_neg (show ¬ (1 : Int32) = 0 by decide), hv, bn_n]
        dsimp only
        rw [jn_n, if_neg (show ¬ (1 : Int32) = 0 by decide), jn_n, if_neg (show ¬ (0 : Int32) = -1 by decide), user_m h, bn_n, if_pos rfl]
        rfl
    · exact (by decide +kernel : ∀ j, j < 4 → qkb (f_L_own U0 g0 0 (nI j)) (f_X7_own V0 0 (nI j)) = true) j hj
  · obtain ⟨w, hw⟩ := walk_no (U0 6) hq (by omega) 1
    obtain ⟨V', hv, _⟩ := mwalk_no (V := V0) rfl hq hq2 1
    refine qkb_x (k := 2) (U := upc U0 6 w) (g := g0) (x := 0) (V := up V' 18 (fun _ => 2)) ?_ ?_ rfl (fun h => absurd h (by decide))
    · unfold f_L_own f_X6_own
      rw [h1, bn_n, if_neg (show ¬ (1 : Int32) = 0 by decide), hw, bn_n, bv_n, jn_n]
      dsimp only
      rw [if_pos rfl, bn_n]
      rfl
    · unfold f_X7_own
      rw [h2, bn_n, jn_n, if_neg (show ¬ (1 : Int32) = 0 by decide), hv, bn_n]
      dsimp only
      rw [jn_n, if_neg (show ¬ (1 : Int32) = 0 by decide), jn_n, if_pos rfl]
      rfl
