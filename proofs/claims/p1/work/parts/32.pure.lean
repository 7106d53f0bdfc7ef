theorem B0_ok (xs : Nat → Int32) (r23 : Int32 → S2 → S1 → (Nat → Int64) → Option Int32) (hrec : ∀ U V g, r23 (0 + 5) U V g = some 1) (h : qkb (f_L_user U0 g0 (xs 1)) (f_X7_user V0 (xs 1)) = true) : law_B0 5 xs r23 0 U0 V0 g0 = some 1 := by
  have hr5 : ∀ (U : S2) (V : S1) (g : Nat → Int64), r23 5 U V g = some 1 := hrec
  obtain ⟨z1, z2, e1, e2, e3, e4⟩ := qkb_spec h
  have e5 := th_some z2.2
  rw [e3] at e5
  unfold law_B0
  try simp only [ix1, ix2, ix3, ix4, chk_t in1, chk_t in2, chk_t in3, chk_t in4]
  rw [bn_t e1, bn_t e2, bn_t e5]
  (by_cases hz : z1.1 = 0; (have e7 : lg_cmp (z1.2.2 0) z2.1.toInt64 = 0 := e4 hz; simp [hz, hr5, e7]); simp [hz, hr5])
theorem B1_ok (xs : Nat → Int32) (r23 : Int32 → S2 → S1 → (Nat → Int64) → Option Int32) (hrec : ∀ U V g, r23 (0 + 5) U V g = some 1) (h : qkb (f_L_file U0 g0 (xs 1) (xs 2)) (f_X7_file V0 (xs 1) (xs 2)) = true) : law_B1 5 xs r23 0 U0 V0 g0 = some 1 := by
  have hr5 : ∀ (U : S2) (V : S1) (g : Nat → Int64), r23 5 U V g = some 1 := hrec
  obtain ⟨z1, z2, e1, e2, e3, e4⟩ := qkb_spec h
  have e5 := th_some z2.2
  rw [e3] at e5
  unfold law_B1
  try simp only [ix1, ix2, ix3, ix4, chk_t in1, chk_t in2, chk_t in3, chk_t in4]
  rw [bn_t e1, bn_t e2, bn_t e5]
  (by_cases hz : z1.1 = 0; (have e7 : lg_cmp (z1.2.2 0) z2.1.toInt64 = 0 := e4 hz; simp [hz, hr5, e7]); simp [hz, hr5])
theorem B2_ok (xs : Nat → Int32) (r23 : Int32 → S2 → S1 → (Nat → Int64) → Option Int32) (hrec : ∀ U V g, r23 (0 + 5) U V g = some 1) (h : qkb (f_L_folder U0 g0 (xs 1) (xs 2)) (f_X7_folder V0 (xs 1) (xs 2)) = true) : law_B2 5 xs r23 0 U0 V0 g0 = some 1 := by
  have hr5 : ∀ (U : S2) (V : S1) (g : Nat → Int64), r23 5 U V g = some 1 := hrec
  obtain ⟨z1, z2, e1, e2, e3, e4⟩ := qkb_spec h
  have e5 := th_some z2.2
  rw [e3] at e5
  unfold law_B2
  try simp only [ix1, ix2, ix3, ix4, chk_t in1, chk_t in2, chk_t in3, chk_t in4]
  rw [bn_t e1, bn_t e2, bn_t e5]
  (by_cases hz : z1.1 = 0; (have e7 : lg_cmp (z1.2.2 0) z2.1.toInt64 = 0 := e4 hz; simp [hz, hr5, e7]); simp [hz, hr5])
theorem B3_ok (xs : Nat → Int32) (r23 : Int32 → S2 → S1 → (Nat → Int64) → Option Int32) (hrec : ∀ U V g, r23 (0 + 5) U V g = some 1) (h : qkb (f_L_link U0 g0 (xs 1) (xs 2)) (f_X7_link V0 (xs 1) (xs 2)) = true) : law_B3 5 xs r23 0 U0 V0 g0 = some 1 := by
  have hr5 : ∀ (U : S2) (V : S1) (g : Nat → Int64), r23 5 U V g = some 1 := hrec
  obtain ⟨z1, z2, e1, e2, e3, e4⟩ := qkb_spec h
  have e5 := th_some z2.2
  rw [e3] at e5
  unfold law_B3
  try simp only [ix1, ix2, ix3, ix4, chk_t in1, chk_t in2, chk_t in3, chk_t in4]
  rw [bn_t e1, bn_t e2, bn_t e5]
  (by_cases hz : z1.1 = 0; (have e7 : lg_cmp (z1.2.2 0) z2.1.toInt64 = 0 := e4 hz; simp [hz, hr5, e7]); simp [hz, hr5])
theorem B4_ok (xs : Nat → Int32) (r23 : Int32 → S2 → S1 → (Nat → Int64) → Option Int32) (hrec : ∀ U V g, r23 (0 + 5) U V g = some 1) (h : qkb (f_L_hard U0 g0 (xs 1) (xs 2)) (f_X7_hard V0 (xs 1) (xs 2)) = true) : law_B4 5 xs r23 0 U0 V0 g0 = some 1 := by
  have hr5 : ∀ (U : S2) (V : S1) (g : Nat → Int64), r23 5 U V g = some 1 := hrec
  obtain ⟨z1, z2, e1, e2, e3, e4⟩ := qkb_spec h
  have e5 := th_some z2.2
  rw [e3] at e5
  unfold law_B4
  try simp only [ix1, ix2, ix3, ix4, chk_t in1, chk_t in2, chk_t in3, chk_t in4]
  rw [bn_t e1, bn_t e2, bn_t e5]
  (by_cases hz : z1.1 = 0; (have e7 : lg_cmp (z1.2.2 0) z2.1.toInt64 = 0 := e4 hz; simp [hz, hr5, e7]); simp [hz, hr5])
theorem B5_ok (xs : Nat → Int32) (r23 : Int32 → S2 → S1 → (Nat → Int64) → Option Int32) (hrec : ∀ U V g, r23 (0 + 5) U V g = some 1) (h : qkb (f_L_rename U0 g0 (xs 1) (xs 2)) (f_X7_rename V0 (xs 1) (xs 2)) = true) : law_B5 5 xs r23 0 U0 V0 g0 = some 1 := by
  have hr5 : ∀ (U : S2) (V : S1) (g : Nat → Int64), r23 5 U V g = some 1 := hrec
  obtain ⟨z1, z2, e1, e2, e3, e4⟩ := qkb_spec h
  have e5 := th_some z2.2
  rw [e3] at e5
  unfold law_B5
  try simp only [ix1, ix2, ix3, ix4, chk_t in1, chk_t in2, chk_t in3, chk_t in4]
  rw [bn_t e1, bn_t e2, bn_t e5]
  (by_cases hz : z1.1 = 0; (have e7 : lg_cmp (z1.2.2 0) z2.1.toInt64 = 0 := e4 hz; simp [hz, hr5, e7]); simp [hz, hr5])
theorem B6_ok (xs : Nat → Int32) (r23 : Int32 → S2 → S1 → (Nat → Int64) → Option Int32) (hrec : ∀ U V g, r23 (0 + 5) U V g = some 1) (h : qkc (f_L_remove U0 g0 (xs 1)) (f_X7_remove V0 (xs 1)) = true) : law_B6 5 xs r23 0 U0 V0 g0 = some 1 := by
  have hr5 : ∀ (U : S2) (V : S1) (g : Nat → Int64), r23 5 U V g = some 1 := hrec
  obtain ⟨z1, z2, e1, e2, e3, e4⟩ := qkc_spec h
  have e5 := th_some z2.2
  rw [e3] at e5
  unfold law_B6
  try simp only [ix1, ix2, ix3, ix4, chk_t in1, chk_t in2, chk_t in3, chk_t in4]
  rw [bn_t e1, bn_t e2, bn_t e5]
  (by_cases hz : z1.1 = 0; (by_cases h0 : z2.1 = 0; (have e7 : lg_cmp (z1.2.2 0) (cond (decide (z2.1 = 0)) 0 1) = 0 := e4 hz; simp only [h0, decide_true, cond_true] at e7; simp [hz, hr5, h0, e7]); (have e7 : lg_cmp (z1.2.2 0) (cond (decide (z2.1 = 0)) 0 1) = 0 := e4 hz; simp only [h0, decide_false, cond_false] at e7; simp [hz, hr5, h0, e7])); simp [hz, hr5])
theorem B7_ok (xs : Nat → Int32) (r23 : Int32 → S2 → S1 → (Nat → Int64) → Option Int32) (hrec : ∀ U V g, r23 (0 + 5) U V g = some 1) (h : qkb (f_L_rights U0 g0 (xs 1) (xs 2)) (f_X7_rights V0 (xs 1) (xs 2)) = true) : law_B7 5 xs r23 0 U0 V0 g0 = some 1 := by
  have hr5 : ∀ (U : S2) (V : S1) (g : Nat → Int64), r23 5 U V g = some 1 := hrec
  obtain ⟨z1, z2, e1, e2, e3, e4⟩ := qkb_spec h
  have e5 := th_some z2.2
  rw [e3] at e5
  unfold law_B7
  try simp only [ix1, ix2, ix3, ix4, chk_t in1, chk_t in2, chk_t in3, chk_t in4]
  rw [bn_t e1, bn_t e2, bn_t e5]
  (by_cases hz : z1.1 = 0; (have e7 : lg_cmp (z1.2.2 0) z2.1.toInt64 = 0 := e4 hz; simp [hz, hr5, e7]); simp [hz, hr5])
theorem B8_ok (xs : Nat → Int32) (r23 : Int32 → S2 → S1 → (Nat → Int64) → Option Int32) (hrec : ∀ U V g, r23 (0 + 5) U V g = some 1) (h : qkb (f_L_own U0 g0 (xs 1) (xs 2)) (f_X7_own V0 (xs 1) (xs 2)) = true) : law_B8 5 xs r23 0 U0 V0 g0 = some 1 := by
  have hr5 : ∀ (U : S2) (V : S1) (g : Nat → Int64), r23 5 U V g = some 1 := hrec
  obtain ⟨z1, z2, e1, e2, e3, e4⟩ := qkb_spec h
  have e5 := th_some z2.2
  rw [e3] at e5
  unfold law_B8
  try simp only [ix1, ix2, ix3, ix4, chk_t in1, chk_t in2, chk_t in3, chk_t in4]
  rw [bn_t e1, bn_t e2, bn_t e5]
  (by_cases hz : z1.1 = 0; (have e7 : lg_cmp (z1.2.2 0) z2.1.toInt64 = 0 := e4 hz; simp [hz, hr5, e7]); simp [hz, hr5])
theorem B9_ok (xs : Nat → Int32) (r23 : Int32 → S2 → S1 → (Nat → Int64) → Option Int32) (hrec : ∀ U V g, r23 (0 + 5) U V g = some 1) (h : qkb (f_L_look U0 g0 (xs 1) (bz (xs 2))) (f_X7_look V0 (xs 1) (bz (xs 2))) = true) : law_B9 5 xs r23 0 U0 V0 g0 = some 1 := by
  have hr5 : ∀ (U : S2) (V : S1) (g : Nat → Int64), r23 5 U V g = some 1 := hrec
  obtain ⟨z1, z2, e1, e2, e3, e4⟩ := qkb_spec h
  have e5 := th_some z2.2
  rw [e3] at e5
  unfold law_B9
  try simp only [ix1, ix2, ix3, ix4, chk_t in1, chk_t in2, chk_t in3, chk_t in4]
  by_cases hb : xs 2 = 0
  · have q : bz (xs 2) = 0 := if_pos hb
    rw [q] at e1 e2
    simp only [hb, if_true]
    rw [bn_t e1, bn_t e2, bn_t e5]
    (by_cases hz : z1.1 = 0; (have e7 : lg_cmp (z1.2.2 0) z2.1.toInt64 = 0 := e4 hz; simp [hz, hr5, e7]); simp [hz, hr5])
  · have q : bz (xs 2) = 1 := if_neg hb
    rw [q] at e1 e2
    simp only [hb, if_false]
    rw [bn_t e1, bn_t e2, bn_t e5]
    (by_cases hz : z1.1 = 0; (have e7 : lg_cmp (z1.2.2 0) z2.1.toInt64 = 0 := e4 hz; simp [hz, hr5, e7]); simp [hz, hr5])
theorem B10_ok (xs : Nat → Int32) (r23 : Int32 → S2 → S1 → (Nat → Int64) → Option Int32) (hrec : ∀ U V g, r23 (0 + 5) U V g = some 1) (h : qkb (f_L_open U0 g0 (xs 1) (bz (xs 2))) (f_X7_open V0 (xs 1) (bz (xs 2))) = true) : law_B10 5 xs r23 0 U0 V0 g0 = some 1 := by
  have hr5 : ∀ (U : S2) (V : S1) (g : Nat → Int64), r23 5 U V g = some 1 := hrec
  obtain ⟨z1, z2, e1, e2, e3, e4⟩ := qkb_spec h
  have e5 := th_some z2.2
  rw [e3] at e5
  unfold law_B10
  try simp only [ix1, ix2, ix3, ix4, chk_t in1, chk_t in2, chk_t in3, chk_t in4]
  by_cases hb : xs 2 = 0
  · have q : bz (xs 2) = 0 := if_pos hb
    rw [q] at e1 e2
    simp only [hb, if_true]
    rw [bn_t e1, bn_t e2, bn_t e5]
    (by_cases hz : z1.1 = 0; (have e7 : lg_cmp (z1.2.2 0) z2.1.toInt64 = 0 := e4 hz; simp [hz, hr5, e7]); simp [hz, hr5])
  · have q : bz (xs 2) = 1 := if_neg hb
    rw [q] at e1 e2
    simp only [hb, if_false]
    rw [bn_t e1, bn_t e2, bn_t e5]
    (by_cases hz : z1.1 = 0; (have e7 : lg_cmp (z1.2.2 0) z2.1.toInt64 = 0 := e4 hz; simp [hz, hr5, e7]); simp [hz, hr5])
theorem B11_ok (xs : Nat → Int32) (r23 : Int32 → S2 → S1 → (Nat → Int64) → Option Int32) (hrec : ∀ U V g, r23 (0 + 5) U V g = some 1) (h : qkc (f_L_close U0 g0 (xs 1)) (f_X7_close V0 (xs 1)) = true) : law_B11 5 xs r23 0 U0 V0 g0 = some 1 := by
  have hr5 : ∀ (U : S2) (V : S1) (g : Nat → Int64), r23 5 U V g = some 1 := hrec
  obtain ⟨z1, z2, e1, e2, e3, e4⟩ := qkc_spec h
  have e5 := th_some z2.2
  rw [e3] at e5
  unfold law_B11
  try simp only [ix1, ix2, ix3, ix4, chk_t in1, chk_t in2, chk_t in3, chk_t in4]
  rw [bn_t e1, bn_t e2, bn_t e5]
  (by_cases hz : z1.1 = 0; (by_cases h0 : z2.1 = 0; (have e7 : lg_cmp (z1.2.2 0) (cond (decide (z2.1 = 0)) 0 1) = 0 := e4 hz; simp only [h0, decide_true, cond_true] at e7; simp [hz, hr5, h0, e7]); (have e7 : lg_cmp (z1.2.2 0) (cond (decide (z2.1 = 0)) 0 1) = 0 := e4 hz; simp only [h0, decide_false, cond_false] at e7; simp [hz, hr5, h0, e7])); simp [hz, hr5])
theorem B12_ok (xs : Nat → Int32) (r23 : Int32 → S2 → S1 → (Nat → Int64) → Option Int32) (hrec : ∀ U V g, r23 (0 + 5) U V g = some 1) (h : qkb (f_L_write U0 g0 (xs 1) (xs 2) (xs 3)) (f_X7_write V0 (xs 1) (xs 2) (xs 3)) = true) : law_B12 5 xs r23 0 U0 V0 g0 = some 1 := by
  have hr5 : ∀ (U : S2) (V : S1) (g : Nat → Int64), r23 5 U V g = some 1 := hrec
  obtain ⟨z1, z2, e1, e2, e3, e4⟩ := qkb_spec h
  have e5 := th_some z2.2
  rw [e3] at e5
  unfold law_B12
  try simp only [ix1, ix2, ix3, ix4, chk_t in1, chk_t in2, chk_t in3, chk_t in4]
  rw [bn_t e1, bn_t e2, bn_t e5]
  (by_cases hz : z1.1 = 0; (have e7 : lg_cmp (z1.2.2 0) z2.1.toInt64 = 0 := e4 hz; simp [hz, hr5, e7]); simp [hz, hr5])
theorem B13_ok (xs : Nat → Int32) (r23 : Int32 → S2 → S1 → (Nat → Int64) → Option Int32) (hrec : ∀ U V g, r23 (0 + 5) U V g = some 1) (h : qkb (f_L_read U0 g0 (xs 1) (xs 2)) (f_X7_read V0 (xs 1) (xs 2)) = true) : law_B13 5 xs r23 0 U0 V0 g0 = some 1 := by
  have hr5 : ∀ (U : S2) (V : S1) (g : Nat → Int64), r23 5 U V g = some 1 := hrec
  obtain ⟨z1, z2, e1, e2, e3, e4⟩ := qkb_spec h
  have e5 := th_some z2.2
  rw [e3] at e5
  unfold law_B13
  try simp only [ix1, ix2, ix3, ix4, chk_t in1, chk_t in2, chk_t in3, chk_t in4]
  rw [bn_t e1, bn_t e2, bn_t e5]
  (by_cases hz : z1.1 = 0; (have e7 : lg_cmp (z1.2.2 0) z2.1.toInt64 = 0 := e4 hz; simp [hz, hr5, e7]); simp [hz, hr5])
theorem B14_ok (xs : Nat → Int32) (r23 : Int32 → S2 → S1 → (Nat → Int64) → Option Int32) (hrec : ∀ U V g, r23 (0 + 5) U V g = some 1) (h : qkb (f_L_ahead U0 g0 (xs 1) (xs 2) (xs 3)) (f_X7_ahead V0 (xs 1) (xs 2) (xs 3)) = true) : law_B14 5 xs r23 0 U0 V0 g0 = some 1 := by
  have hr5 : ∀ (U : S2) (V : S1) (g : Nat → Int64), r23 5 U V g = some 1 := hrec
  obtain ⟨z1, z2, e1, e2, e3, e4⟩ := qkb_spec h
  have e5 := th_some z2.2
  rw [e3] at e5
  unfold law_B14
  try simp only [ix1, ix2, ix3, ix4, chk_t in1, chk_t in2, chk_t in3, chk_t in4]
  rw [bn_t e1, bn_t e2, bn_t e5]
  (by_cases hz : z1.1 = 0; (have e7 : lg_cmp (z1.2.2 0) z2.1.toInt64 = 0 := e4 hz; simp [hz, hr5, e7]); simp [hz, hr5])
theorem B15_ok (xs : Nat → Int32) (r23 : Int32 → S2 → S1 → (Nat → Int64) → Option Int32) (hrec : ∀ U V g, r23 (0 + 5) U V g = some 1) (h : qkb (f_L_cut U0 g0 (xs 1) (xs 2)) (f_X7_cut V0 (xs 1) (xs 2)) = true) : law_B15 5 xs r23 0 U0 V0 g0 = some 1 := by
  have hr5 : ∀ (U : S2) (V : S1) (g : Nat → Int64), r23 5 U V g = some 1 := hrec
  obtain ⟨z1, z2, e1, e2, e3, e4⟩ := qkb_spec h
  have e5 := th_some z2.2
  rw [e3] at e5
  unfold law_B15
  try simp only [ix1, ix2, ix3, ix4, chk_t in1, chk_t in2, chk_t in3, chk_t in4]
  rw [bn_t e1, bn_t e2, bn_t e5]
  (by_cases hz : z1.1 = 0; (have e7 : lg_cmp (z1.2.2 0) z2.1.toInt64 = 0 := e4 hz; simp [hz, hr5, e7]); simp [hz, hr5])
theorem B16_ok (xs : Nat → Int32) (r23 : Int32 → S2 → S1 → (Nat → Int64) → Option Int32) (hrec : ∀ U V g, r23 (0 + 5) U V g = some 1) (h : qkb (f_L_lock U0 g0 (xs 1) (xs 2) (xs 3) (bz (xs 4))) (f_X7_lock V0 (xs 1) (xs 2) (xs 3) (bz (xs 4))) = true) : law_B16 5 xs r23 0 U0 V0 g0 = some 1 := by
  have hr5 : ∀ (U : S2) (V : S1) (g : Nat → Int64), r23 5 U V g = some 1 := hrec
  obtain ⟨z1, z2, e1, e2, e3, e4⟩ := qkb_spec h
  have e5 := th_some z2.2
  rw [e3] at e5
  unfold law_B16
  try simp only [ix1, ix2, ix3, ix4, chk_t in1, chk_t in2, chk_t in3, chk_t in4]
  by_cases hb : xs 4 = 0
  · have q : bz (xs 4) = 0 := if_pos hb
    rw [q] at e1 e2
    simp only [hb, if_true]
    rw [bn_t e1, bn_t e2, bn_t e5]
    (by_cases hz : z1.1 = 0; (have e7 : lg_cmp (z1.2.2 0) z2.1.toInt64 = 0 := e4 hz; simp [hz, hr5, e7]); simp [hz, hr5])
  · have q : bz (xs 4) = 1 := if_neg hb
    rw [q] at e1 e2
    simp only [hb, if_false]
    rw [bn_t e1, bn_t e2, bn_t e5]
    (by_cases hz : z1.1 = 0; (have e7 : lg_cmp (z1.2.2 0) z2.1.toInt64 = 0 := e4 hz; simp [hz, hr5, e7]); simp [hz, hr5])
theorem B17_ok (xs : Nat → Int32) (r23 : Int32 → S2 → S1 → (Nat → Int64) → Option Int32) (hrec : ∀ U V g, r23 (0 + 5) U V g = some 1) (h : qkb (f_L_unlock U0 g0 (xs 1) (xs 2) (xs 3)) (f_X7_unlock V0 (xs 1) (xs 2) (xs 3)) = true) : law_B17 5 xs r23 0 U0 V0 g0 = some 1 := by
  have hr5 : ∀ (U : S2) (V : S1) (g : Nat → Int64), r23 5 U V g = some 1 := hrec
  obtain ⟨z1, z2, e1, e2, e3, e4⟩ := qkb_spec h
  have e5 := th_some z2.2
  rw [e3] at e5
  unfold law_B17
  try simp only [ix1, ix2, ix3, ix4, chk_t in1, chk_t in2, chk_t in3, chk_t in4]
  rw [bn_t e1, bn_t e2, bn_t e5]
  (by_cases hz : z1.1 = 0; (have e7 : lg_cmp (z1.2.2 0) z2.1.toInt64 = 0 := e4 hz; simp [hz, hr5, e7]); simp [hz, hr5])
theorem B18_ok (xs : Nat → Int32) (r23 : Int32 → S2 → S1 → (Nat → Int64) → Option Int32) (hrec : ∀ U V g, r23 (0 + 5) U V g = some 1) (h : qkb (f_L_lockOf U0 g0 (xs 1) (xs 2)) (f_X7_lockOf V0 (xs 1) (xs 2)) = true) : law_B18 5 xs r23 0 U0 V0 g0 = some 1 := by
  have hr5 : ∀ (U : S2) (V : S1) (g : Nat → Int64), r23 5 U V g = some 1 := hrec
  obtain ⟨z1, z2, e1, e2, e3, e4⟩ := qkb_spec h
  have e5 := th_some z2.2
  rw [e3] at e5
  unfold law_B18
  try simp only [ix1, ix2, ix3, ix4, chk_t in1, chk_t in2, chk_t in3, chk_t in4]
  rw [bn_t e1, bn_t e2, bn_t e5]
  (by_cases hz : z1.1 = 0; (have e7 : lg_cmp (z1.2.2 0) z2.1.toInt64 = 0 := e4 hz; simp [hz, hr5, e7]); simp [hz, hr5])
theorem B19_ok (xs : Nat → Int32) (r23 : Int32 → S2 → S1 → (Nat → Int64) → Option Int32) (hrec : ∀ U V g, r23 (0 + 5) U V g = some 1) (h : qkb (f_L_flush U0 g0 (xs 1)) (f_X7_flush V0 (xs 1)) = true) : law_B19 5 xs r23 0 U0 V0 g0 = some 1 := by
  have hr5 : ∀ (U : S2) (V : S1) (g : Nat → Int64), r23 5 U V g = some 1 := hrec
  obtain ⟨z1, z2, e1, e2, e3, e4⟩ := qkb_spec h
  have e5 := th_some z2.2
  rw [e3] at e5
  unfold law_B19
  try simp only [ix1, ix2, ix3, ix4, chk_t in1, chk_t in2, chk_t in3, chk_t in4]
  rw [bn_t e1, bn_t e2, bn_t e5]
  (by_cases hz : z1.1 = 0; (have e7 : lg_cmp (z1.2.2 0) z2.1.toInt64 = 0 := e4 hz; simp [hz, hr5, e7]); simp [hz, hr5])
theorem B20_ok (xs : Nat → Int32) (r23 : Int32 → S2 → S1 → (Nat → Int64) → Option Int32) (hrec : ∀ U V g, r23 (0 + 5) U V g = some 1) (h : qkc (f_L_sync U0 g0 (xs 1)) (f_X7_sync V0 (xs 1)) = true) : law_B20 5 xs r23 0 U0 V0 g0 = some 1 := by
  have hr5 : ∀ (U : S2) (V : S1) (g : Nat → Int64), r23 5 U V g = some 1 := hrec
  obtain ⟨z1, z2, e1, e2, e3, e4⟩ := qkc_spec h
  have e5 := th_some z2.2
  rw [e3] at e5
  unfold law_B20
  try simp only [ix1, ix2, ix3, ix4, chk_t in1, chk_t in2, chk_t in3, chk_t in4]
  rw [bn_t e1, bn_t e2, bn_t e5]
  (by_cases hz : z1.1 = 0; (by_cases h0 : z2.1 = 0; (have e7 : lg_cmp (z1.2.2 0) (cond (decide (z2.1 = 0)) 0 1) = 0 := e4 hz; simp only [h0, decide_true, cond_true] at e7; simp [hz, hr5, h0, e7]); (have e7 : lg_cmp (z1.2.2 0) (cond (decide (z2.1 = 0)) 0 1) = 0 := e4 hz; simp only [h0, decide_false, cond_false] at e7; simp [hz, hr5, h0, e7])); simp [hz, hr5])
theorem B21_ok (xs : Nat → Int32) (r23 : Int32 → S2 → S1 → (Nat → Int64) → Option Int32) (hrec : ∀ U V g, r23 (0 + 5) U V g = some 1) (h : (f_X6_commit U0).map (fun z => z.1) = (f_X7_commit V0).map (fun z => z.1) ∧ (f_X6_commit U0).isSome = true) : law_B21 5 xs r23 0 U0 V0 g0 = some 1 := by
  have hr5 : ∀ (U : S2) (V : S1) (g : Nat → Int64), r23 5 U V g = some 1 := hrec
  obtain ⟨h1, h2⟩ := h
  obtain ⟨z1, e1⟩ := Option.isSome_iff_exists.mp h2
  rw [e1] at h1
  cases e2 : f_X7_commit V0 with
  | none => rw [e2] at h1; cases h1
  | some z2 =>
    rw [e2] at h1
    have h3 := Option.some.inj h1
    unfold law_B21
    rw [bn_t e1, bn_t e2]
    simp [h3, hr5]
theorem B22_ok (xs : Nat → Int32) (r23 : Int32 → S2 → S1 → (Nat → Int64) → Option Int32) (hrec : ∀ U V g, r23 (0 + 5) U V g = some 1) (h : (f_X6_crash U0).map (fun z => z.1) = (f_X7_crash V0).map (fun z => z.1) ∧ (f_X6_crash U0).isSome = true) : law_B22 5 xs r23 0 U0 V0 g0 = some 1 := by
  have hr5 : ∀ (U : S2) (V : S1) (g : Nat → Int64), r23 5 U V g = some 1 := hrec
  obtain ⟨h1, h2⟩ := h
  obtain ⟨z1, e1⟩ := Option.isSome_iff_exists.mp h2
  rw [e1] at h1
  cases e2 : f_X7_crash V0 with
  | none => rw [e2] at h1; cases h1
  | some z2 =>
    rw [e2] at h1
    have h3 := Option.some.inj h1
    unfold law_B22
    rw [bn_t e1, bn_t e2]
    simp [h3, hr5]
theorem B23_ok (xs : Nat → Int32) (r23 : Int32 → S2 → S1 → (Nat → Int64) → Option Int32) (hrec : ∀ U V g, r23 (0 + 5) U V g = some 1) (h : qkb (f_L_snapshot U0 g0 ) (f_X7_snapshot V0 ) = true) : law_B23 5 xs r23 0 U0 V0 g0 = some 1 := by
  have hr5 : ∀ (U : S2) (V : S1) (g : Nat → Int64), r23 5 U V g = some 1 := hrec
  obtain ⟨z1, z2, e1, e2, e3, e4⟩ := qkb_spec h
  have e5 := th_some z2.2
  rw [e3] at e5
  unfold law_B23
  try simp only [ix1, ix2, ix3, ix4, chk_t in1, chk_t in2, chk_t in3, chk_t in4]
  rw [bn_t e1, bn_t e2, bn_t e5]
  (by_cases hz : z1.1 = 0; (have e7 : lg_cmp (z1.2.2 0) z2.1.toInt64 = 0 := e4 hz; simp [hz, hr5, e7]); simp [hz, hr5])
theorem B24_ok (xs : Nat → Int32) (r23 : Int32 → S2 → S1 → (Nat → Int64) → Option Int32) (hrec : ∀ U V g, r23 (0 + 5) U V g = some 1) (h : qkb (f_L_drop U0 g0 (xs 1)) (f_X7_drop V0 (xs 1)) = true) : law_B24 5 xs r23 0 U0 V0 g0 = some 1 := by
  have hr5 : ∀ (U : S2) (V : S1) (g : Nat → Int64), r23 5 U V g = some 1 := hrec
  obtain ⟨z1, z2, e1, e2, e3, e4⟩ := qkb_spec h
  have e5 := th_some z2.2
  rw [e3] at e5
  unfold law_B24
  try simp only [ix1, ix2, ix3, ix4, chk_t in1, chk_t in2, chk_t in3, chk_t in4]
  rw [bn_t e1, bn_t e2, bn_t e5]
  (by_cases hz : z1.1 = 0; (have e7 : lg_cmp (z1.2.2 0) z2.1.toInt64 = 0 := e4 hz; simp [hz, hr5, e7]); simp [hz, hr5])
theorem B25_ok (xs : Nat → Int32) (r23 : Int32 → S2 → S1 → (Nat → Int64) → Option Int32) (hrec : ∀ U V g, r23 (0 + 5) U V g = some 1) (h : qkb (f_L_readOld U0 g0 (xs 1) (xs 2) (xs 3)) (f_X7_readOld V0 (xs 1) (xs 2) (xs 3)) = true) : law_B25 5 xs r23 0 U0 V0 g0 = some 1 := by
  have hr5 : ∀ (U : S2) (V : S1) (g : Nat → Int64), r23 5 U V g = some 1 := hrec
  obtain ⟨z1, z2, e1, e2, e3, e4⟩ := qkb_spec h
  have e5 := th_some z2.2
  rw [e3] at e5
  unfold law_B25
  try simp only [ix1, ix2, ix3, ix4, chk_t in1, chk_t in2, chk_t in3, chk_t in4]
  rw [bn_t e1, bn_t e2, bn_t e5]
  (by_cases hz : z1.1 = 0; (have e7 : lg_cmp (z1.2.2 0) z2.1.toInt64 = 0 := e4 hz; simp [hz, hr5, e7]); simp [hz, hr5])
theorem B26_ok (xs : Nat → Int32) (r23 : Int32 → S2 → S1 → (Nat → Int64) → Option Int32) (hrec : ∀ U V g, r23 (0 + 5) U V g = some 1) (h : qkb (f_L_quota U0 g0 (xs 1) (xs 2)) (f_X7_quota V0 (xs 1) (xs 2)) = true) : law_B26 5 xs r23 0 U0 V0 g0 = some 1 := by
  have hr5 : ∀ (U : S2) (V : S1) (g : Nat → Int64), r23 5 U V g = some 1 := hrec
  obtain ⟨z1, z2, e1, e2, e3, e4⟩ := qkb_spec h
  have e5 := th_some z2.2
  rw [e3] at e5
  unfold law_B26
  try simp only [ix1, ix2, ix3, ix4, chk_t in1, chk_t in2, chk_t in3, chk_t in4]
  rw [bn_t e1, bn_t e2, bn_t e5]
  (by_cases hz : z1.1 = 0; (have e7 : lg_cmp (z1.2.2 0) z2.1.toInt64 = 0 := e4 hz; simp [hz, hr5, e7]); simp [hz, hr5])
theorem B27_ok (xs : Nat → Int32) (r23 : Int32 → S2 → S1 → (Nat → Int64) → Option Int32) (hrec : ∀ U V g, r23 (0 + 5) U V g = some 1) (h : qkc (f_L_bad U0 g0 (xs 1) (bz (xs 2))) (f_X7_bad V0 (xs 1) (bz (xs 2))) = true) : law_B27 5 xs r23 0 U0 V0 g0 = some 1 := by
  have hr5 : ∀ (U : S2) (V : S1) (g : Nat → Int64), r23 5 U V g = some 1 := hrec
  obtain ⟨z1, z2, e1, e2, e3, e4⟩ := qkc_spec h
  have e5 := th_some z2.2
  rw [e3] at e5
  unfold law_B27
  try simp only [ix1, ix2, ix3, ix4, chk_t in1, chk_t in2, chk_t in3, chk_t in4]
  by_cases hb : xs 2 = 0
  · have q : bz (xs 2) = 0 := if_pos hb
    rw [q] at e1 e2
    simp only [hb, if_true]
    rw [bn_t e1, bn_t e2, bn_t e5]
    (by_cases hz : z1.1 = 0; (by_cases h0 : z2.1 = 0; (have e7 : lg_cmp (z1.2.2 0) (cond (decide (z2.1 = 0)) 0 1) = 0 := e4 hz; simp only [h0, decide_true, cond_true] at e7; simp [hz, hr5, h0, e7]); (have e7 : lg_cmp (z1.2.2 0) (cond (decide (z2.1 = 0)) 0 1) = 0 := e4 hz; simp only [h0, decide_false, cond_false] at e7; simp [hz, hr5, h0, e7])); simp [hz, hr5])
  · have q : bz (xs 2) = 1 := if_neg hb
    rw [q] at e1 e2
    simp only [hb, if_false]
    rw [bn_t e1, bn_t e2, bn_t e5]
    (by_cases hz : z1.1 = 0; (by_cases h0 : z2.1 = 0; (have e7 : lg_cmp (z1.2.2 0) (cond (decide (z2.1 = 0)) 0 1) = 0 := e4 hz; simp only [h0, decide_true, cond_true] at e7; simp [hz, hr5, h0, e7]); (have e7 : lg_cmp (z1.2.2 0) (cond (decide (z2.1 = 0)) 0 1) = 0 := e4 hz; simp only [h0, decide_false, cond_false] at e7; simp [hz, hr5, h0, e7])); simp [hz, hr5])
theorem B28_ok (xs : Nat → Int32) (r23 : Int32 → S2 → S1 → (Nat → Int64) → Option Int32) (hrec : ∀ U V g, r23 (0 + 5) U V g = some 1) (h : qkd (f_L_damage U0 (xs 1) (xs 2) (xs 3)) (f_X7_damage V0 (xs 1) (xs 2) (xs 3)) = true) : law_B28 5 xs r23 0 U0 V0 g0 = some 1 := by
  have hr5 : ∀ (U : S2) (V : S1) (g : Nat → Int64), r23 5 U V g = some 1 := hrec
  obtain ⟨z1, z2, e1, e2, e3⟩ := qkd_spec h
  have e5 := th_some z2
  rw [e3] at e5
  unfold law_B28
  try simp only [ix1, ix2, ix3, ix4, chk_t in1, chk_t in2, chk_t in3, chk_t in4]
  rw [bn_t e1, bn_t e2, bn_t e5]
  (simp [hr5])
theorem B29_ok (xs : Nat → Int32) (r23 : Int32 → S2 → S1 → (Nat → Int64) → Option Int32) (hrec : ∀ U V g, r23 (0 + 5) U V g = some 1) (h : qkb (f_L_check U0 g0 ) (f_X7_check V0 ) = true) : law_B29 5 xs r23 0 U0 V0 g0 = some 1 := by
  have hr5 : ∀ (U : S2) (V : S1) (g : Nat → Int64), r23 5 U V g = some 1 := hrec
  obtain ⟨z1, z2, e1, e2, e3, e4⟩ := qkb_spec h
  have e5 := th_some z2.2
  rw [e3] at e5
  unfold law_B29
  try simp only [ix1, ix2, ix3, ix4, chk_t in1, chk_t in2, chk_t in3, chk_t in4]
  rw [bn_t e1, bn_t e2, bn_t e5]
  (by_cases hz : z1.1 = 0; (have e7 : lg_cmp (z1.2.2 0) z2.1.toInt64 = 0 := e4 hz; simp [hz, hr5, e7]); simp [hz, hr5])
theorem B30_ok (xs : Nat → Int32) (r23 : Int32 → S2 → S1 → (Nat → Int64) → Option Int32) (hrec : ∀ U V g, r23 (0 + 5) U V g = some 1) (h : qkb (f_L_about U0 g0 (xs 1) (xs 2)) (f_X7_about V0 (xs 1) (xs 2)) = true) : law_B30 5 xs r23 0 U0 V0 g0 = some 1 := by
  have hr5 : ∀ (U : S2) (V : S1) (g : Nat → Int64), r23 5 U V g = some 1 := hrec
  obtain ⟨z1, z2, e1, e2, e3, e4⟩ := qkb_spec h
  have e5 := th_some z2.2
  rw [e3] at e5
  unfold law_B30
  try simp only [ix1, ix2, ix3, ix4, chk_t in1, chk_t in2, chk_t in3, chk_t in4]
  rw [bn_t e1, bn_t e2, bn_t e5]
  (by_cases hz : z1.1 = 0; (have e7 : lg_cmp (z1.2.2 0) z2.1.toInt64 = 0 := e4 hz; simp [hz, hr5, e7]); simp [hz, hr5])
theorem B31_ok (xs : Nat → Int32) (r23 : Int32 → S2 → S1 → (Nat → Int64) → Option Int32) (hrec : ∀ U V g, r23 (0 + 5) U V g = some 1) (h : qkb (f_L_entry U0 g0 (xs 1) (xs 2)) (f_X7_entry V0 (xs 1) (xs 2)) = true) : law_B31 5 xs r23 0 U0 V0 g0 = some 1 := by
  have hr5 : ∀ (U : S2) (V : S1) (g : Nat → Int64), r23 5 U V g = some 1 := hrec
  obtain ⟨z1, z2, e1, e2, e3, e4⟩ := qkb_spec h
  have e5 := th_some z2.2
  rw [e3] at e5
  unfold law_B31
  try simp only [ix1, ix2, ix3, ix4, chk_t in1, chk_t in2, chk_t in3, chk_t in4]
  rw [bn_t e1, bn_t e2, bn_t e5]
  (by_cases hz : z1.1 = 0; (have e7 : lg_cmp (z1.2.2 0) z2.1.toInt64 = 0 := e4 hz; simp [hz, hr5, e7]); simp [hz, hr5])
theorem B32_ok (xs : Nat → Int32) (r23 : Int32 → S2 → S1 → (Nat → Int64) → Option Int32) (hrec : ∀ U V g, r23 (0 + 5) U V g = some 1) (h : qkb (f_L_target U0 g0 (xs 1)) (f_X7_target V0 (xs 1)) = true) : law_B32 5 xs r23 0 U0 V0 g0 = some 1 := by
  have hr5 : ∀ (U : S2) (V : S1) (g : Nat → Int64), r23 5 U V g = some 1 := hrec
  obtain ⟨z1, z2, e1, e2, e3, e4⟩ := qkb_spec h
  have e5 := th_some z2.2
  rw [e3] at e5
  unfold law_B32
  try simp only [ix1, ix2, ix3, ix4, chk_t in1, chk_t in2, chk_t in3, chk_t in4]
  rw [bn_t e1, bn_t e2, bn_t e5]
  (by_cases hz : z1.1 = 0; (have e7 : lg_cmp (z1.2.2 0) z2.1.toInt64 = 0 := e4 hz; simp [hz, hr5, e7]); simp [hz, hr5])
theorem B33_ok (xs : Nat → Int32) (r23 : Int32 → S2 → S1 → (Nat → Int64) → Option Int32) (hrec : ∀ U V g, r23 (0 + 5) U V g = some 1) (h : qkb (f_L_page U0 g0 (xs 1) (xs 2) (xs 3)) (f_X7_page V0 (xs 1) (xs 2) (xs 3)) = true) : law_B33 5 xs r23 0 U0 V0 g0 = some 1 := by
  have hr5 : ∀ (U : S2) (V : S1) (g : Nat → Int64), r23 5 U V g = some 1 := hrec
  obtain ⟨z1, z2, e1, e2, e3, e4⟩ := qkb_spec h
  have e5 := th_some z2.2
  rw [e3] at e5
  unfold law_B33
  try simp only [ix1, ix2, ix3, ix4, chk_t in1, chk_t in2, chk_t in3, chk_t in4]
  rw [bn_t e1, bn_t e2, bn_t e5]
  (by_cases hz : z1.1 = 0; (have e7 : lg_cmp (z1.2.2 0) z2.1.toInt64 = 0 := e4 hz; simp [hz, hr5, e7]); simp [hz, hr5])
theorem B34_ok (xs : Nat → Int32) (r23 : Int32 → S2 → S1 → (Nat → Int64) → Option Int32) (hrec : ∀ U V g, r23 (0 + 5) U V g = some 1) (h : qkb (f_L_number U0 g0 (xs 1)) (f_X7_number V0 (xs 1)) = true) : law_B34 5 xs r23 0 U0 V0 g0 = some 1 := by
  have hr5 : ∀ (U : S2) (V : S1) (g : Nat → Int64), r23 5 U V g = some 1 := hrec
  obtain ⟨z1, z2, e1, e2, e3, e4⟩ := qkb_spec h
  have e5 := th_some z2.2
  rw [e3] at e5
  unfold law_B34
  try simp only [ix1, ix2, ix3, ix4, chk_t in1, chk_t in2, chk_t in3, chk_t in4]
  rw [bn_t e1, bn_t e2, bn_t e5]
  (by_cases hz : z1.1 = 0; (have e7 : lg_cmp (z1.2.2 0) z2.1.toInt64 = 0 := e4 hz; simp [hz, hr5, e7]); simp [hz, hr5])
theorem B35_ok (xs : Nat → Int32) (r23 : Int32 → S2 → S1 → (Nat → Int64) → Option Int32) (hrec : ∀ U V g, r23 (0 + 5) U V g = some 1) (h : qkc (f_L_isFree U0 g0 (xs 1)) (f_X7_isFree V0 (xs 1)) = true) : law_B35 5 xs r23 0 U0 V0 g0 = some 1 := by
  have hr5 : ∀ (U : S2) (V : S1) (g : Nat → Int64), r23 5 U V g = some 1 := hrec
  obtain ⟨z1, z2, e1, e2, e3, e4⟩ := qkc_spec h
  have e5 := th_some z2.2
  rw [e3] at e5
  unfold law_B35
  try simp only [ix1, ix2, ix3, ix4, chk_t in1, chk_t in2, chk_t in3, chk_t in4]
  rw [bn_t e1, bn_t e2, bn_t e5]
  (by_cases hz : z1.1 = 0; (by_cases h0 : z2.1 = 0; (have e7 : lg_cmp (z1.2.2 0) (cond (decide (z2.1 = 0)) 0 1) = 0 := e4 hz; simp only [h0, decide_true, cond_true] at e7; simp [hz, hr5, h0, e7]); (have e7 : lg_cmp (z1.2.2 0) (cond (decide (z2.1 = 0)) 0 1) = 0 := e4 hz; simp only [h0, decide_false, cond_false] at e7; simp [hz, hr5, h0, e7])); simp [hz, hr5])
theorem B36_ok (xs : Nat → Int32) (r23 : Int32 → S2 → S1 → (Nat → Int64) → Option Int32) (hrec : ∀ U V g, r23 (0 + 5) U V g = some 1) (h : qkb (f_L_used U0 g0 (xs 1)) (f_X7_used V0 (xs 1)) = true) : law_B36 5 xs r23 0 U0 V0 g0 = some 1 := by
  have hr5 : ∀ (U : S2) (V : S1) (g : Nat → Int64), r23 5 U V g = some 1 := hrec
  obtain ⟨z1, z2, e1, e2, e3, e4⟩ := qkb_spec h
  have e5 := th_some z2.2
  rw [e3] at e5
  unfold law_B36
  try simp only [ix1, ix2, ix3, ix4, chk_t in1, chk_t in2, chk_t in3, chk_t in4]
  rw [bn_t e1, bn_t e2, bn_t e5]
  (by_cases hz : z1.1 = 0; (have e7 : lg_cmp (z1.2.2 0) z2.1.toInt64 = 0 := e4 hz; simp [hz, hr5, e7]); simp [hz, hr5])
theorem B37_ok (xs : Nat → Int32) (r23 : Int32 → S2 → S1 → (Nat → Int64) → Option Int32) (hrec : ∀ U V g, r23 (0 + 5) U V g = some 1) (h : (f_X6_dirty U0).map (fun z => z) = (f_X7_dirty V0).map (fun z => z.1) ∧ (f_X6_dirty U0).isSome = true) : law_B37 5 xs r23 0 U0 V0 g0 = some 1 := by
  have hr5 : ∀ (U : S2) (V : S1) (g : Nat → Int64), r23 5 U V g = some 1 := hrec
  obtain ⟨h1, h2⟩ := h
  obtain ⟨z1, e1⟩ := Option.isSome_iff_exists.mp h2
  rw [e1] at h1
  cases e2 : f_X7_dirty V0 with
  | none => rw [e2] at h1; cases h1
  | some z2 =>
    rw [e2] at h1
    have h3 := Option.some.inj h1
    unfold law_B37
    rw [bn_t e1, bn_t e2]
    simp [h3, hr5]
