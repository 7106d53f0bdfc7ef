theorem t_L_file (U : S2) (g : Nat → Int64) (p1 : Int32) (p2 : Int32) (h0 : cg_U U) : cg_O (f_L_file U g p1 p2) (fun z => (cg_G U z.2.1)) := by
  unfold f_L_file
  try dsimp only [jn]
  refine cg_bn (t_X6_file U p1 p2 ((g_refl h0)).1) (fun z_1 hz_1 => ?_)
  refine cg_i (fun h_1 => ?_) (fun h_1 => ?_)
  · exact cg_some (show (cg_G U z_1.2.2) from (g_trans (g_refl h0) hz_1.2))
  · refine cg_i (fun h_2 => ?_) (fun h_2 => ?_)
    · exact cg_some (show (cg_G U z_1.2.2) from (g_trans (g_refl h0) hz_1.2))
    · refine cg_i (fun h_3 => ?_) (fun h_3 => ?_)
      · exact cg_some (show (cg_G U z_1.2.2) from (g_trans (g_refl h0) hz_1.2))
      · refine cg_i (fun h_4 => ?_) (fun h_4 => ?_)
        · exact cg_some (show (cg_G U z_1.2.2) from (g_trans (g_refl h0) hz_1.2))
        · exfalso
          omega
theorem t_L_folder (U : S2) (g : Nat → Int64) (p1 : Int32) (p2 : Int32) (h0 : cg_U U) : cg_O (f_L_folder U g p1 p2) (fun z => (cg_G U z.2.1)) := by
  unfold f_L_folder
  try dsimp only [jn]
  refine cg_bn (t_X6_folder U p1 p2 ((g_refl h0)).1) (fun z_1 hz_1 => ?_)
  refine cg_i (fun h_1 => ?_) (fun h_1 => ?_)
  · exact cg_some (show (cg_G U z_1.2.2) from (g_trans (g_refl h0) hz_1.2))
  · refine cg_i (fun h_2 => ?_) (fun h_2 => ?_)
    · exact cg_some (show (cg_G U z_1.2.2) from (g_trans (g_refl h0) hz_1.2))
    · refine cg_i (fun h_3 => ?_) (fun h_3 => ?_)
      · exact cg_some (show (cg_G U z_1.2.2) from (g_trans (g_refl h0) hz_1.2))
      · refine cg_i (fun h_4 => ?_) (fun h_4 => ?_)
        · exact cg_some (show (cg_G U z_1.2.2) from (g_trans (g_refl h0) hz_1.2))
        · exfalso
          omega
theorem t_L_link (U : S2) (g : Nat → Int64) (p1 : Int32) (p2 : Int32) (h0 : cg_U U) : cg_O (f_L_link U g p1 p2) (fun z => (cg_G U z.2.1)) := by
  unfold f_L_link
  try dsimp only [jn]
  refine cg_bn (t_X6_link U p1 p2 ((g_refl h0)).1) (fun z_1 hz_1 => ?_)
  refine cg_i (fun h_1 => ?_) (fun h_1 => ?_)
  · exact cg_some (show (cg_G U z_1.2.2) from (g_trans (g_refl h0) hz_1.2))
  · refine cg_i (fun h_2 => ?_) (fun h_2 => ?_)
    · exact cg_some (show (cg_G U z_1.2.2) from (g_trans (g_refl h0) hz_1.2))
    · refine cg_i (fun h_3 => ?_) (fun h_3 => ?_)
      · exact cg_some (show (cg_G U z_1.2.2) from (g_trans (g_refl h0) hz_1.2))
      · refine cg_i (fun h_4 => ?_) (fun h_4 => ?_)
        · exact cg_some (show (cg_G U z_1.2.2) from (g_trans (g_refl h0) hz_1.2))
        · exfalso
          omega
theorem t_L_hard (U : S2) (g : Nat → Int64) (p1 : Int32) (p2 : Int32) (h0 : cg_U U) : cg_O (f_L_hard U g p1 p2) (fun z => (cg_G U z.2.1)) := by
  unfold f_L_hard
  try dsimp only [jn]
  refine cg_bn (t_X6_hard U p1 p2 ((g_refl h0)).1) (fun z_1 hz_1 => ?_)
  refine cg_i (fun h_1 => ?_) (fun h_1 => ?_)
  · exact cg_some (show (cg_G U z_1.2.2) from (g_trans (g_refl h0) hz_1.2))
  · refine cg_i (fun h_2 => ?_) (fun h_2 => ?_)
    · exact cg_some (show (cg_G U z_1.2.2) from (g_trans (g_refl h0) hz_1.2))
    · refine cg_i (fun h_3 => ?_) (fun h_3 => ?_)
      · exact cg_some (show (cg_G U z_1.2.2) from (g_trans (g_refl h0) hz_1.2))
      · refine cg_i (fun h_4 => ?_) (fun h_4 => ?_)
        · exact cg_some (show (cg_G U z_1.2.2) from (g_trans (g_refl h0) hz_1.2))
        · exfalso
          omega
theorem t_L_rename (U : S2) (g : Nat → Int64) (p1 : Int32) (p2 : Int32) (h0 : cg_U U) : cg_O (f_L_rename U g p1 p2) (fun z => (cg_G U z.2.1)) := by
  unfold f_L_rename
  try dsimp only [jn]
  refine cg_bn (t_X6_rename U p1 p2 ((g_refl h0)).1) (fun z_1 hz_1 => ?_)
  refine cg_i (fun h_1 => ?_) (fun h_1 => ?_)
  · exact cg_some (show (cg_G U z_1.2.2) from (g_trans (g_refl h0) hz_1.2))
  · refine cg_i (fun h_2 => ?_) (fun h_2 => ?_)
    · exact cg_some (show (cg_G U z_1.2.2) from (g_trans (g_refl h0) hz_1.2))
    · refine cg_i (fun h_3 => ?_) (fun h_3 => ?_)
      · exact cg_some (show (cg_G U z_1.2.2) from (g_trans (g_refl h0) hz_1.2))
      · refine cg_i (fun h_4 => ?_) (fun h_4 => ?_)
        · exact cg_some (show (cg_G U z_1.2.2) from (g_trans (g_refl h0) hz_1.2))
        · exfalso
          omega
theorem t_L_remove (U : S2) (g : Nat → Int64) (p1 : Int32) (h0 : cg_U U) : cg_O (f_L_remove U g p1) (fun z => (cg_G U z.2.1)) := by
  unfold f_L_remove
  try dsimp only [jn]
  refine cg_bn (t_X6_remove U p1 ((g_refl h0)).1) (fun z_1 hz_1 => ?_)
  refine cg_i (fun h_1 => ?_) (fun h_1 => ?_)
  · refine cg_eq2 (Eq.refl ((z_1.2.1) : Int32).toInt) (by decide : (0 : Int32).toInt = 0) (fun h_2 => ?_) (fun h_2 => ?_)
    · exact cg_some (show (cg_G U z_1.2.2) from (g_trans (g_refl h0) hz_1.2))
    · exact cg_some (show (cg_G U z_1.2.2) from (g_trans (g_refl h0) hz_1.2))
  · refine cg_i (fun h_3 => ?_) (fun h_3 => ?_)
    · exact cg_some (show (cg_G U z_1.2.2) from (g_trans (g_refl h0) hz_1.2))
    · refine cg_i (fun h_4 => ?_) (fun h_4 => ?_)
      · exact cg_some (show (cg_G U z_1.2.2) from (g_trans (g_refl h0) hz_1.2))
      · refine cg_i (fun h_5 => ?_) (fun h_5 => ?_)
        · exact cg_some (show (cg_G U z_1.2.2) from (g_trans (g_refl h0) hz_1.2))
        · exfalso
          omega
theorem t_L_rights (U : S2) (g : Nat → Int64) (p1 : Int32) (p2 : Int32) (h0 : cg_U U) : cg_O (f_L_rights U g p1 p2) (fun z => (cg_G U z.2.1)) := by
  unfold f_L_rights
  try dsimp only [jn]
  refine cg_bn (t_X6_rights U p1 p2 ((g_refl h0)).1) (fun z_1 hz_1 => ?_)
  refine cg_i (fun h_1 => ?_) (fun h_1 => ?_)
  · exact cg_some (show (cg_G U z_1.2.2) from (g_trans (g_refl h0) hz_1.2))
  · refine cg_i (fun h_2 => ?_) (fun h_2 => ?_)
    · exact cg_some (show (cg_G U z_1.2.2) from (g_trans (g_refl h0) hz_1.2))
    · refine cg_i (fun h_3 => ?_) (fun h_3 => ?_)
      · exact cg_some (show (cg_G U z_1.2.2) from (g_trans (g_refl h0) hz_1.2))
      · refine cg_i (fun h_4 => ?_) (fun h_4 => ?_)
        · exact cg_some (show (cg_G U z_1.2.2) from (g_trans (g_refl h0) hz_1.2))
        · exfalso
          omega
theorem t_L_own (U : S2) (g : Nat → Int64) (p1 : Int32) (p2 : Int32) (h0 : cg_U U) : cg_O (f_L_own U g p1 p2) (fun z => (cg_G U z.2.1)) := by
  unfold f_L_own
  try dsimp only [jn]
  refine cg_bn (t_X6_own U p1 p2 ((g_refl h0)).1) (fun z_1 hz_1 => ?_)
  refine cg_i (fun h_1 => ?_) (fun h_1 => ?_)
  · exact cg_some (show (cg_G U z_1.2.2) from (g_trans (g_refl h0) hz_1.2))
  · refine cg_i (fun h_2 => ?_) (fun h_2 => ?_)
    · exact cg_some (show (cg_G U z_1.2.2) from (g_trans (g_refl h0) hz_1.2))
    · refine cg_i (fun h_3 => ?_) (fun h_3 => ?_)
      · exact cg_some (show (cg_G U z_1.2.2) from (g_trans (g_refl h0) hz_1.2))
      · refine cg_i (fun h_4 => ?_) (fun h_4 => ?_)
        · exact cg_some (show (cg_G U z_1.2.2) from (g_trans (g_refl h0) hz_1.2))
        · exfalso
          omega
theorem t_L_look (U : S2) (g : Nat → Int64) (p1 : Int32) (p2 : Int32) (h0 : cg_U U) : cg_O (f_L_look U g p1 p2) (fun z => (cg_G U z.2.1)) := by
  unfold f_L_look
  try dsimp only [jn]
  refine cg_bn (t_X6_look U p1 p2 ((g_refl h0)).1) (fun z_1 hz_1 => ?_)
  refine cg_i (fun h_1 => ?_) (fun h_1 => ?_)
  · exact cg_some (show (cg_G U z_1.2.2) from (g_trans (g_refl h0) hz_1.2))
  · refine cg_i (fun h_2 => ?_) (fun h_2 => ?_)
    · exact cg_some (show (cg_G U z_1.2.2) from (g_trans (g_refl h0) hz_1.2))
    · refine cg_i (fun h_3 => ?_) (fun h_3 => ?_)
      · exact cg_some (show (cg_G U z_1.2.2) from (g_trans (g_refl h0) hz_1.2))
      · exfalso
        omega
theorem t_L_open (U : S2) (g : Nat → Int64) (p1 : Int32) (p2 : Int32) (h0 : cg_U U) : cg_O (f_L_open U g p1 p2) (fun z => (cg_G U z.2.1)) := by
  unfold f_L_open
  try dsimp only [jn]
  refine cg_bn (t_X6_open U p1 p2 ((g_refl h0)).1) (fun z_1 hz_1 => ?_)
  refine cg_i (fun h_1 => ?_) (fun h_1 => ?_)
  · exact cg_some (show (cg_G U z_1.2.2) from (g_trans (g_refl h0) hz_1.2))
  · refine cg_i (fun h_2 => ?_) (fun h_2 => ?_)
    · exact cg_some (show (cg_G U z_1.2.2) from (g_trans (g_refl h0) hz_1.2))
    · refine cg_i (fun h_3 => ?_) (fun h_3 => ?_)
      · exact cg_some (show (cg_G U z_1.2.2) from (g_trans (g_refl h0) hz_1.2))
      · refine cg_i (fun h_4 => ?_) (fun h_4 => ?_)
        · exact cg_some (show (cg_G U z_1.2.2) from (g_trans (g_refl h0) hz_1.2))
        · exfalso
          omega
theorem t_L_close (U : S2) (g : Nat → Int64) (p1 : Int32) (h0 : cg_U U) : cg_O (f_L_close U g p1) (fun z => (cg_G U z.2.1)) := by
  unfold f_L_close
  try dsimp only [jn]
  refine cg_bn (t_X6_close U p1 ((g_refl h0)).1) (fun z_1 hz_1 => ?_)
  refine cg_i (fun h_1 => ?_) (fun h_1 => ?_)
  · refine cg_eq2 (Eq.refl ((z_1.2.1) : Int32).toInt) (by decide : (0 : Int32).toInt = 0) (fun h_2 => ?_) (fun h_2 => ?_)
    · exact cg_some (show (cg_G U z_1.2.2) from (g_trans (g_refl h0) hz_1.2))
    · exact cg_some (show (cg_G U z_1.2.2) from (g_trans (g_refl h0) hz_1.2))
  · refine cg_i (fun h_3 => ?_) (fun h_3 => ?_)
    · exact cg_some (show (cg_G U z_1.2.2) from (g_trans (g_refl h0) hz_1.2))
    · refine cg_i (fun h_4 => ?_) (fun h_4 => ?_)
      · exact cg_some (show (cg_G U z_1.2.2) from (g_trans (g_refl h0) hz_1.2))
      · exfalso
        omega
theorem t_L_write (U : S2) (g : Nat → Int64) (p1 : Int32) (p2 : Int32) (p3 : Int32) (h0 : cg_U U) : cg_O (f_L_write U g p1 p2 p3) (fun z => (cg_G U z.2.1)) := by
  unfold f_L_write
  try dsimp only [jn]
  refine cg_bn (t_X6_write U p1 p2 p3 ((g_refl h0)).1) (fun z_1 hz_1 => ?_)
  refine cg_i (fun h_1 => ?_) (fun h_1 => ?_)
  · exact cg_some (show (cg_G U z_1.2.2) from (g_trans (g_refl h0) hz_1.2))
  · refine cg_i (fun h_2 => ?_) (fun h_2 => ?_)
    · exact cg_some (show (cg_G U z_1.2.2) from (g_trans (g_refl h0) hz_1.2))
    · refine cg_i (fun h_3 => ?_) (fun h_3 => ?_)
      · exact cg_some (show (cg_G U z_1.2.2) from (g_trans (g_refl h0) hz_1.2))
      · refine cg_i (fun h_4 => ?_) (fun h_4 => ?_)
        · exact cg_some (show (cg_G U z_1.2.2) from (g_trans (g_refl h0) hz_1.2))
        · exfalso
          omega
theorem t_L_read (U : S2) (g : Nat → Int64) (p1 : Int32) (p2 : Int32) (h0 : cg_U U) : cg_O (f_L_read U g p1 p2) (fun z => (cg_G U z.2.1)) := by
  unfold f_L_read
  try dsimp only [jn]
  refine cg_bn (t_X6_read U p1 p2 ((g_refl h0)).1) (fun z_1 hz_1 => ?_)
  refine cg_i (fun h_1 => ?_) (fun h_1 => ?_)
  · exact cg_some (show (cg_G U z_1.2.2) from (g_trans (g_refl h0) hz_1.2))
  · refine cg_i (fun h_2 => ?_) (fun h_2 => ?_)
    · exact cg_some (show (cg_G U z_1.2.2) from (g_trans (g_refl h0) hz_1.2))
    · refine cg_i (fun h_3 => ?_) (fun h_3 => ?_)
      · exact cg_some (show (cg_G U z_1.2.2) from (g_trans (g_refl h0) hz_1.2))
      · exfalso
        omega
theorem t_L_ahead (U : S2) (g : Nat → Int64) (p1 : Int32) (p2 : Int32) (p3 : Int32) (h0 : cg_U U) : cg_O (f_L_ahead U g p1 p2 p3) (fun z => (cg_G U z.2.1)) := by
  unfold f_L_ahead
  try dsimp only [jn]
  refine cg_bn (t_X6_ahead U p1 p2 p3 ((g_refl h0)).1) (fun z_1 hz_1 => ?_)
  refine cg_i (fun h_1 => ?_) (fun h_1 => ?_)
  · exact cg_some (show (cg_G U z_1.2.2) from (g_trans (g_refl h0) hz_1.2))
  · refine cg_i (fun h_2 => ?_) (fun h_2 => ?_)
    · exact cg_some (show (cg_G U z_1.2.2) from (g_trans (g_refl h0) hz_1.2))
    · refine cg_i (fun h_3 => ?_) (fun h_3 => ?_)
      · exact cg_some (show (cg_G U z_1.2.2) from (g_trans (g_refl h0) hz_1.2))
      · refine cg_i (fun h_4 => ?_) (fun h_4 => ?_)
        · exact cg_some (show (cg_G U z_1.2.2) from (g_trans (g_refl h0) hz_1.2))
        · exfalso
          omega
theorem t_L_cut (U : S2) (g : Nat → Int64) (p1 : Int32) (p2 : Int32) (h0 : cg_U U) : cg_O (f_L_cut U g p1 p2) (fun z => (cg_G U z.2.1)) := by
  unfold f_L_cut
  try dsimp only [jn]
  refine cg_bn (t_X6_cut U p1 p2 ((g_refl h0)).1) (fun z_1 hz_1 => ?_)
  refine cg_i (fun h_1 => ?_) (fun h_1 => ?_)
  · exact cg_some (show (cg_G U z_1.2.2) from (g_trans (g_refl h0) hz_1.2))
  · refine cg_i (fun h_2 => ?_) (fun h_2 => ?_)
    · exact cg_some (show (cg_G U z_1.2.2) from (g_trans (g_refl h0) hz_1.2))
    · refine cg_i (fun h_3 => ?_) (fun h_3 => ?_)
      · exact cg_some (show (cg_G U z_1.2.2) from (g_trans (g_refl h0) hz_1.2))
      · exfalso
        omega
theorem t_L_lock (U : S2) (g : Nat → Int64) (p1 : Int32) (p2 : Int32) (p3 : Int32) (p4 : Int32) (h0 : cg_U U) : cg_O (f_L_lock U g p1 p2 p3 p4) (fun z => (cg_G U z.2.1)) := by
  unfold f_L_lock
  try dsimp only [jn]
  refine cg_bn (t_X6_lock U p1 p2 p3 p4 ((g_refl h0)).1) (fun z_1 hz_1 => ?_)
  refine cg_i (fun h_1 => ?_) (fun h_1 => ?_)
  · exact cg_some (show (cg_G U z_1.2.2) from (g_trans (g_refl h0) hz_1.2))
  · refine cg_i (fun h_2 => ?_) (fun h_2 => ?_)
    · exact cg_some (show (cg_G U z_1.2.2) from (g_trans (g_refl h0) hz_1.2))
    · refine cg_i (fun h_3 => ?_) (fun h_3 => ?_)
      · exact cg_some (show (cg_G U z_1.2.2) from (g_trans (g_refl h0) hz_1.2))
      · refine cg_i (fun h_4 => ?_) (fun h_4 => ?_)
        · exact cg_some (show (cg_G U z_1.2.2) from (g_trans (g_refl h0) hz_1.2))
        · exfalso
          omega
theorem t_L_unlock (U : S2) (g : Nat → Int64) (p1 : Int32) (p2 : Int32) (p3 : Int32) (h0 : cg_U U) : cg_O (f_L_unlock U g p1 p2 p3) (fun z => (cg_G U z.2.1)) := by
  unfold f_L_unlock
  try dsimp only [jn]
  refine cg_bn (t_X6_unlock U p1 p2 p3 ((g_refl h0)).1) (fun z_1 hz_1 => ?_)
  refine cg_i (fun h_1 => ?_) (fun h_1 => ?_)
  · exact cg_some (show (cg_G U z_1.2.2) from (g_trans (g_refl h0) hz_1.2))
  · refine cg_i (fun h_2 => ?_) (fun h_2 => ?_)
    · exact cg_some (show (cg_G U z_1.2.2) from (g_trans (g_refl h0) hz_1.2))
    · refine cg_i (fun h_3 => ?_) (fun h_3 => ?_)
      · exact cg_some (show (cg_G U z_1.2.2) from (g_trans (g_refl h0) hz_1.2))
      · refine cg_i (fun h_4 => ?_) (fun h_4 => ?_)
        · exact cg_some (show (cg_G U z_1.2.2) from (g_trans (g_refl h0) hz_1.2))
        · exfalso
          omega
theorem t_L_lockOf (U : S2) (g : Nat → Int64) (p1 : Int32) (p2 : Int32) (h0 : cg_U U) : cg_O (f_L_lockOf U g p1 p2) (fun z => (cg_G U z.2.1)) := by
  unfold f_L_lockOf
  try dsimp only [jn]
  refine cg_bn (t_X6_lockOf U p1 p2 ((g_refl h0)).1) (fun z_1 hz_1 => ?_)
  refine cg_i (fun h_1 => ?_) (fun h_1 => ?_)
  · exact cg_some (show (cg_G U z_1.2.2) from (g_trans (g_refl h0) hz_1.2))
  · refine cg_i (fun h_2 => ?_) (fun h_2 => ?_)
    · exact cg_some (show (cg_G U z_1.2.2) from (g_trans (g_refl h0) hz_1.2))
    · exfalso
      omega
theorem t_L_flush (U : S2) (g : Nat → Int64) (p1 : Int32) (h0 : cg_U U) : cg_O (f_L_flush U g p1) (fun z => (cg_G U z.2.1)) := by
  unfold f_L_flush
  try dsimp only [jn]
  refine cg_bn (t_X6_flush U p1 ((g_refl h0)).1) (fun z_1 hz_1 => ?_)
  refine cg_i (fun h_1 => ?_) (fun h_1 => ?_)
  · exact cg_some (show (cg_G U z_1.2.2) from (g_trans (g_refl h0) hz_1.2))
  · refine cg_i (fun h_2 => ?_) (fun h_2 => ?_)
    · exact cg_some (show (cg_G U z_1.2.2) from (g_trans (g_refl h0) hz_1.2))
    · exfalso
      omega
theorem t_L_sync (U : S2) (g : Nat → Int64) (p1 : Int32) (h0 : cg_U U) : cg_O (f_L_sync U g p1) (fun z => (cg_G U z.2.1)) := by
  unfold f_L_sync
  try dsimp only [jn]
  refine cg_bn (t_X6_sync U p1 ((g_refl h0)).1) (fun z_1 hz_1 => ?_)
  refine cg_i (fun h_1 => ?_) (fun h_1 => ?_)
  · refine cg_eq2 (Eq.refl ((z_1.2.1) : Int32).toInt) (by decide : (0 : Int32).toInt = 0) (fun h_2 => ?_) (fun h_2 => ?_)
    · exact cg_some (show (cg_G U z_1.2.2) from (g_trans (g_refl h0) hz_1.2))
    · exact cg_some (show (cg_G U z_1.2.2) from (g_trans (g_refl h0) hz_1.2))
  · refine cg_i (fun h_3 => ?_) (fun h_3 => ?_)
    · exact cg_some (show (cg_G U z_1.2.2) from (g_trans (g_refl h0) hz_1.2))
    · refine cg_i (fun h_4 => ?_) (fun h_4 => ?_)
      · exact cg_some (show (cg_G U z_1.2.2) from (g_trans (g_refl h0) hz_1.2))
      · exfalso
        omega
theorem t_L_readOld (U : S2) (g : Nat → Int64) (p1 : Int32) (p2 : Int32) (p3 : Int32) (h0 : cg_U U) : cg_O (f_L_readOld U g p1 p2 p3) (fun z => (cg_G U z.2.1)) := by
  unfold f_L_readOld
  try dsimp only [jn]
  refine cg_bn (t_X6_readOld U p1 p2 p3 ((g_refl h0)).1) (fun z_1 hz_1 => ?_)
  refine cg_i (fun h_1 => ?_) (fun h_1 => ?_)
  · exact cg_some (show (cg_G U z_1.2.2) from (g_trans (g_refl h0) hz_1.2))
  · refine cg_i (fun h_2 => ?_) (fun h_2 => ?_)
    · exact cg_some (show (cg_G U z_1.2.2) from (g_trans (g_refl h0) hz_1.2))
    · refine cg_i (fun h_3 => ?_) (fun h_3 => ?_)
      · exact cg_some (show (cg_G U z_1.2.2) from (g_trans (g_refl h0) hz_1.2))
      · refine cg_i (fun h_4 => ?_) (fun h_4 => ?_)
        · exact cg_some (show (cg_G U z_1.2.2) from (g_trans (g_refl h0) hz_1.2))
        · exfalso
          omega
theorem t_L_damage (U : S2) (p1 : Int32) (p2 : Int32) (p3 : Int32) (h0 : cg_U U) : cg_O (f_L_damage U p1 p2 p3) (fun z => (cg_G U z.2)) := by
  unfold f_L_damage
  try dsimp only [jn]
  refine cg_bn (t_X6_damage U p1 p2 p3 ((g_refl h0)).1) (fun z_1 hz_1 => ?_)
  refine cg_i (fun h_1 => ?_) (fun h_1 => ?_)
  · exact cg_some (show (cg_G U z_1.2.2) from (g_trans (g_refl h0) hz_1.2))
  · refine cg_i (fun h_2 => ?_) (fun h_2 => ?_)
    · exact cg_some (show (cg_G U z_1.2.2) from (g_trans (g_refl h0) hz_1.2))
    · refine cg_i (fun h_3 => ?_) (fun h_3 => ?_)
      · exact cg_some (show (cg_G U z_1.2.2) from (g_trans (g_refl h0) hz_1.2))
      · refine cg_i (fun h_4 => ?_) (fun h_4 => ?_)
        · exact cg_some (show (cg_G U z_1.2.2) from (g_trans (g_refl h0) hz_1.2))
        · exfalso
          omega
theorem t_L_check (U : S2) (g : Nat → Int64) (h0 : cg_U U) : cg_O (f_L_check U g) (fun z => (cg_G U z.2.1)) := by
  unfold f_L_check
  try dsimp only [jn]
  refine cg_bn (t_X6_check U ((g_refl h0)).1) (fun z_1 hz_1 => ?_)
  refine cg_i (fun h_1 => ?_) (fun h_1 => ?_)
  · exact cg_some (show (cg_G U z_1.2.2) from (g_trans (g_refl h0) hz_1.2))
  · refine cg_i (fun h_2 => ?_) (fun h_2 => ?_)
    · exact cg_some (show (cg_G U z_1.2.2) from (g_trans (g_refl h0) hz_1.2))
    · exfalso
      omega
theorem t_L_about (U : S2) (g : Nat → Int64) (p1 : Int32) (p2 : Int32) (h0 : cg_U U) : cg_O (f_L_about U g p1 p2) (fun z => (cg_G U z.2.1)) := by
  unfold f_L_about
  try dsimp only [jn]
  refine cg_bn (t_X6_about U p1 p2 ((g_refl h0)).1) (fun z_1 hz_1 => ?_)
  refine cg_i (fun h_1 => ?_) (fun h_1 => ?_)
  · exact cg_some (show (cg_G U z_1.2.2) from (g_trans (g_refl h0) hz_1.2))
  · refine cg_i (fun h_2 => ?_) (fun h_2 => ?_)
    · exact cg_some (show (cg_G U z_1.2.2) from (g_trans (g_refl h0) hz_1.2))
    · refine cg_i (fun h_3 => ?_) (fun h_3 => ?_)
      · exact cg_some (show (cg_G U z_1.2.2) from (g_trans (g_refl h0) hz_1.2))
      · exfalso
        omega
theorem t_L_entry (U : S2) (g : Nat → Int64) (p1 : Int32) (p2 : Int32) (h0 : cg_U U) : cg_O (f_L_entry U g p1 p2) (fun z => (cg_G U z.2.1)) := by
  unfold f_L_entry
  try dsimp only [jn]
  refine cg_bn (t_X6_entry U p1 p2 ((g_refl h0)).1) (fun z_1 hz_1 => ?_)
  refine cg_i (fun h_1 => ?_) (fun h_1 => ?_)
  · exact cg_some (show (cg_G U z_1.2.2) from (g_trans (g_refl h0) hz_1.2))
  · refine cg_i (fun h_2 => ?_) (fun h_2 => ?_)
    · exact cg_some (show (cg_G U z_1.2.2) from (g_trans (g_refl h0) hz_1.2))
    · exfalso
      omega
theorem t_L_target (U : S2) (g : Nat → Int64) (p1 : Int32) (h0 : cg_U U) : cg_O (f_L_target U g p1) (fun z => (cg_G U z.2.1)) := by
  unfold f_L_target
  try dsimp only [jn]
  refine cg_bn (t_X6_target U p1 ((g_refl h0)).1) (fun z_1 hz_1 => ?_)
  refine cg_i (fun h_1 => ?_) (fun h_1 => ?_)
  · exact cg_some (show (cg_G U z_1.2.2) from (g_trans (g_refl h0) hz_1.2))
  · refine cg_i (fun h_2 => ?_) (fun h_2 => ?_)
    · exact cg_some (show (cg_G U z_1.2.2) from (g_trans (g_refl h0) hz_1.2))
    · exfalso
      omega
theorem t_L_page (U : S2) (g : Nat → Int64) (p1 : Int32) (p2 : Int32) (p3 : Int32) (h0 : cg_U U) : cg_O (f_L_page U g p1 p2 p3) (fun z => (cg_G U z.2.1)) := by
  unfold f_L_page
  try dsimp only [jn]
  refine cg_bn (t_X6_page U p1 p2 p3 ((g_refl h0)).1) (fun z_1 hz_1 => ?_)
  refine cg_i (fun h_1 => ?_) (fun h_1 => ?_)
  · exact cg_some (show (cg_G U z_1.2.2) from (g_trans (g_refl h0) hz_1.2))
  · refine cg_i (fun h_2 => ?_) (fun h_2 => ?_)
    · exact cg_some (show (cg_G U z_1.2.2) from (g_trans (g_refl h0) hz_1.2))
    · refine cg_i (fun h_3 => ?_) (fun h_3 => ?_)
      · exact cg_some (show (cg_G U z_1.2.2) from (g_trans (g_refl h0) hz_1.2))
      · exfalso
        omega
theorem t_L_number (U : S2) (g : Nat → Int64) (p1 : Int32) (h0 : cg_U U) : cg_O (f_L_number U g p1) (fun z => (cg_G U z.2.1)) := by
  unfold f_L_number
  try dsimp only [jn]
  refine cg_bn (t_X6_number U p1 ((g_refl h0)).1) (fun z_1 hz_1 => ?_)
  refine cg_i (fun h_1 => ?_) (fun h_1 => ?_)
  · exact cg_some (show (cg_G U z_1.2.2) from (g_trans (g_refl h0) hz_1.2))
  · refine cg_i (fun h_2 => ?_) (fun h_2 => ?_)
    · exact cg_some (show (cg_G U z_1.2.2) from (g_trans (g_refl h0) hz_1.2))
    · exfalso
      omega
theorem t_L_isFree (U : S2) (g : Nat → Int64) (p1 : Int32) (h0 : cg_U U) : cg_O (f_L_isFree U g p1) (fun z => (cg_G U z.2.1)) := by
  unfold f_L_isFree
  try dsimp only [jn]
  refine cg_bn (t_X6_isFree U p1 ((g_refl h0)).1) (fun z_1 hz_1 => ?_)
  refine cg_i (fun h_1 => ?_) (fun h_1 => ?_)
  · refine cg_eq2 (Eq.refl ((z_1.2.1) : Int32).toInt) (by decide : (0 : Int32).toInt = 0) (fun h_2 => ?_) (fun h_2 => ?_)
    · exact cg_some (show (cg_G U z_1.2.2) from (g_trans (g_refl h0) hz_1.2))
    · exact cg_some (show (cg_G U z_1.2.2) from (g_trans (g_refl h0) hz_1.2))
  · refine cg_i (fun h_3 => ?_) (fun h_3 => ?_)
    · exact cg_some (show (cg_G U z_1.2.2) from (g_trans (g_refl h0) hz_1.2))
    · exfalso
      omega
theorem t_L_used (U : S2) (g : Nat → Int64) (p1 : Int32) (h0 : cg_U U) : cg_O (f_L_used U g p1) (fun z => (cg_G U z.2.1)) := by
  unfold f_L_used
  try dsimp only [jn]
  refine cg_bn (t_X6_used U p1 ((g_refl h0)).1) (fun z_1 hz_1 => ?_)
  refine cg_i (fun h_1 => ?_) (fun h_1 => ?_)
  · exact cg_some (show (cg_G U z_1.2.2) from (g_trans (g_refl h0) hz_1.2))
  · refine cg_i (fun h_2 => ?_) (fun h_2 => ?_)
    · exact cg_some (show (cg_G U z_1.2.2) from (g_trans (g_refl h0) hz_1.2))
    · exfalso
      omega
