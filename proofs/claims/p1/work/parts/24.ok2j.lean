theorem ok_rename (x y : Int32) : qkb (f_L_rename U0 g0 x y) (f_X7_rename V0 x y) = true := by
  rcases new_cases x with ⟨h1, h2⟩ | ⟨h1, h2, q, hq, hq2, rfl⟩
  · unfold f_L_rename f_X6_rename f_X7_rename
    rw [h1, h2]
    rfl
  · rcases new_cases y with ⟨r1, r2⟩ | ⟨r1, r2, p, hp, hp2, rfl⟩
    · unfold f_L_rename f_X6_rename f_X7_rename
      rw [h1, h2, r1, r2]
      rfl
    · obtain ⟨z, w, hz, hw⟩ := fa_any (U := U0) rfl hq2
      obtain ⟨z2, w2, _, hw2⟩ := fa_any (U := upc U0 6 w) (upc_ne U0 w (by decide)) hp2
      obtain ⟨V', hv, hs⟩ := mwalk_no (V := V0) rfl hq hq2 0
      obtain ⟨z3, V2, hv2, _⟩ := mfo_any (V := V') (hs 0 (by decide) (by decide) (by decide) (by decide)) hp hp2
      refine qkb_x (k := 2) (U := upc (upc U0 6 w) 6 w2) (g := g0) (x := 0) (V := up V2 18 (fun _ => 2)) ?_ ?_ rfl (fun h => absurd h (by decide))
      · unfold f_L_rename f_X6_rename
        rw [h1, bn_n, jn_n, if_neg (show ¬ (1 : Int32) = 0 by decide), r1, bn_n, if_neg (show ¬ (1 : Int32) = 0 by decide), hw, bn_n]
        dsimp only
        rw [upc_ne U0 w (show 1 ≠ 6 by decide), named_any hz, bn_n, hw2, bn_n, jn_n, if_pos rfl, bn_n]
        rfl
      · unfold f_X7_rename
        rw [h2, bn_n, jn_n, jn_n, if_neg (show ¬ (1 : Int32) = 0 by decide), r2, bn_n, if_neg (show ¬ (1 : Int32) = 0 by decide)]
        dsimp only
        rw [jn_n, if_neg (show ¬ (1 : Int32) = 0 by decide), hv, bn_n]
        dsimp only
        rw [jn_n, if_neg (show ¬ (1 : Int32) = 0 by decide), hv2, bn_n]
        dsimp only
        rw [jn_n, jn_n, if_pos rfl]
        dsimp only
        rw [jn_n, if_pos rfl]
        dsimp only
        rw [jn_n, if_neg (show ¬ (1 : Int32) = 0 by decide), if_pos rfl]
        rfl
