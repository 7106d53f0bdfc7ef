theorem ok_rights (x y : Int32) : qkb (f_L_rights U0 g0 x y) (f_X7_rights V0 x y) = true := by
  rcases path_cases2 x with ⟨h1, h2⟩ | ⟨h1, h2, h3⟩
  · unfold f_L_rights f_X6_rights f_X7_rights
    rw [h1, h2]
    rfl
  · rcases rights_cases y with ⟨r1, r2⟩ | ⟨r1, r2, j, hj, rfl⟩
    · unfold f_L_rights f_X6_rights f_X7_rights
      rw [h1, h2, r1, r2]
      rfl
    · rcases h3 with rfl | ⟨q, hq, hq2, rfl⟩
      · exact (by decide +kernel : ∀ j, j < 16 → qkb (f_L_rights U0 g0 0 (nI j)) (f_X7_rights V0 0 (nI j)) = true) j hj
      · obtain ⟨w, hw⟩ := walk_no (U0 6) hq (by omega) 1
        obtain ⟨V', hv, _⟩ := mwalk_no (V := V0) rfl hq hq2 1
        unfold f_L_rights f_X6_rights f_X7_rights
        rw [h1, h2, r1, r2, hw]
        dsimp only [bn_s, jn]
        rw [hv]
        rfl
