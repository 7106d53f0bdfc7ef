-- the calls that take paths
theorem ok_look (x y : Int32) : qkb (f_L_look U0 g0 x (bz y)) (f_X7_look V0 x (bz y)) = true := by
  rcases path_cases2 x with ⟨h1, h2⟩ | ⟨h1, h2, rfl | ⟨q, hq, hq2, rfl⟩⟩
  · unfold f_L_look f_X6_look f_X7_look
    rw [h1, h2]
    rfl
  · rcases bz01 y with e | e <;> rw [e] <;> decide +kernel
  · obtain ⟨w, hw⟩ := walk_no (U0 6) hq (by omega) (bz y)
    obtain ⟨V', hv, _⟩ := mwalk_no (V := V0) rfl hq hq2 (bz y)
    unfold f_L_look f_X6_look f_X7_look
    rw [h1, h2, hw]
    dsimp only [bn_s, jn]
    rw [hv]
    rfl
