theorem bn_s {α β : Type} (a : α) (k : α → Option β) : bn (some a) k = k a := rfl
-- what the guards say
theorem in_lo {x l h : Int32} (hx : x < l) : f_X7_isIn x l h = some 0 := by
  unfold f_X7_isIn
  dsimp only [jn]
  rw [if_pos hx]
  rfl
theorem in_hi {x l h : Int32} (hx : h < x) : f_X7_isIn x l h = some 0 := by
  unfold f_X7_isIn
  dsimp only [jn]
  by_cases h1 : x < l
  · rw [if_pos h1]
    rfl
  · rw [if_neg h1, if_pos hx]
    rfl
theorem in_yes {x l h : Int32} (h1 : ¬ x < l) (h2 : ¬ h < x) : f_X7_isIn x l h = some 1 := by
  unfold f_X7_isIn
  dsimp only [jn]
  rw [if_neg h1, if_neg h2]
  rfl
theorem in_some (x l h : Int32) : ∃ b, f_X7_isIn x l h = some b := by
  by_cases h1 : x < l
  · exact ⟨_, in_lo h1⟩
  · by_cases h2 : h < x
    · exact ⟨_, in_hi h2⟩
    · exact ⟨_, in_yes h1 h2⟩
theorem hi_lt {x : Int32} (n : Nat) (hn : n + 1 < 2 ^ 31) (h : nI (n + 1) ≤ x) : nI n < x := by
  have h1 : (nI (n + 1)).toInt ≤ x.toInt := Int32.le_iff_toInt_le.mp h
  rw [nI_toInt hn] at h1
  refine Int32.lt_iff_toInt_lt.mpr ?_
  rw [nI_toInt (by omega)]
  omega
/-- outside of 0 .. n - 1 -/
def out (x : Int32) (n : Nat) : Prop := x < 0 ∨ nI n ≤ x
theorem in_out {x : Int32} (n : Nat) (hn : n + 1 < 2 ^ 31) (h : out x (n + 1)) : f_X7_isIn x 0 (nI n) = some 0 := h.elim in_lo (fun q => in_hi (hi_lt n hn q))
theorem user_out {x : Int32} (h : out x 4) : f_X6_isUser x = some 0 := by
  unfold f_X6_isUser
  dsimp only [jn]
  by_cases h1 : x < 0
  · rw [if_pos h1]
    rfl
  · rw [if_neg h1, if_pos (show (4 : Int32) ≤ x from h.resolve_left h1)]
    rfl
theorem handle_none (x : Int32) : f_X3_isHandle (U0 9) x = some 0 := by
  have e : U0 9 4 0 = 0 := by decide +kernel
  unfold f_X3_isHandle
  dsimp only [jn]
  by_cases h1 : x < 0
  · rw [if_pos h1]
    rfl
  · by_cases h2 : 30 ≤ x
    · rw [if_neg h1, if_pos h2]
      rfl
    · rw [if_neg h1, if_neg h2, if_pos (by rw [e]; exact Int32.not_lt.mp h1)]
      rfl
theorem mhandle_none (x : Int32) : f_X7_isHandle V0 x = some 0 := by
  have e : V0 9 0 - 1 = -1 := by decide +kernel
  have h : f_X7_isIn x 0 (-1) = some 0 := by
    by_cases h1 : x < 0
    · exact in_lo h1
    · exact in_hi (by
        have := Int32.le_iff_toInt_le.mp (Int32.not_lt.mp h1)
        refine Int32.lt_iff_toInt_lt.mpr ?_
        have e1 : (-1 : Int32).toInt = -1 := by decide
        have e2 : (0 : Int32).toInt = 0 := by decide
        omega)
  unfold f_X7_isHandle
  rw [e, h]
  rfl
theorem cases_of (x : Int32) (n : Nat) (hn : n < 2 ^ 31) : out x n ∨ ∃ j, j < n ∧ x = nI j := by
  rcases pk_ix x hn with h | h | h
  · exact Or.inl (Or.inl h)
  · exact Or.inl (Or.inr h)
  · exact Or.inr h
-- the calls
theorem ok_user (x : Int32) : qkb (f_L_user U0 g0 x) (f_X7_user V0 x) = true := by
  rcases cases_of x 4 (by decide) with h | ⟨j, hj, rfl⟩
  · have e1 := user_out h
    have e2 : f_X7_isIn x 0 3 = some 0 := in_out 3 (by decide) h
    unfold f_L_user f_X6_user f_X7_user f_X7_isUser
    rw [e1, e2]
    rfl
  · exact (by decide +kernel : ∀ j, j < 4 → qkb (f_L_user U0 g0 (nI j)) (f_X7_user V0 (nI j)) = true) j hj
theorem ok_close (x : Int32) : qkc (f_L_close U0 g0 x) (f_X7_close V0 x) = true := by
  unfold f_L_close f_X6_close f_X6_demandHandle f_X7_close
  rw [handle_none, mhandle_none]
  rfl
theorem and_out {n : Nat} {x : Int32} (h : out x n) : x < 0 ∨ nI n ≤ x := h
theorem page_out {x : Int32} (h : out x 16) : f_X6_isPage x = some 0 := by
  unfold f_X6_isPage
  dsimp only [jn]
  by_cases h1 : x < 0
  · rw [if_pos h1]
    rfl
  · rw [if_neg h1, if_pos (show (16 : Int32) ≤ x from h.resolve_left h1)]
    rfl
theorem mpage_out {x : Int32} (h : out x 16) : f_X7_isPage x = some 0 := by
  unfold f_X7_isPage
  rw [show f_X7_isIn x 0 15 = some 0 from in_out 15 (by decide) h]
  rfl
theorem range_out {x : Int32} (h : out x 32) : f_X4_isInRange x = some 0 := by
  unfold f_X4_isInRange
  dsimp only [jn]
  by_cases h1 : x < 0
  · rw [if_pos h1]
    rfl
  · rw [if_neg h1, if_pos (show (32 : Int32) ≤ x from h.resolve_left h1)]
    rfl
theorem thing_out {u : S1} {x : Int32} (h : out x 32) : f_X4_isThing u x = some 0 := by
  unfold f_X4_isThing
  rw [range_out h]
  rfl
theorem mthing_out {u : S1} {x : Int32} (h : out x 32) : f_X7_isThing u x = some 0 := by
  unfold f_X7_isThing f_X7_isThere
  rw [show f_X7_isIn x 0 31 = some 0 from in_out 31 (by decide) h]
  rfl
theorem block_out {U : S2} {x : Int32} (h : out x 64) : f_X6_demandBlock U x = some (2, 0, U) := by
  unfold f_X6_demandBlock
  dsimp only [jn]
  by_cases h1 : x < 0
  · rw [if_pos h1]
  · rw [if_neg h1, if_neg (Int32.not_lt.mpr (show (64 : Int32) ≤ x from h.resolve_left h1))]
theorem mblock_out {x : Int32} (h : out x 64) : f_X7_isBlock x = some 0 := by
  unfold f_X7_isBlock
  rw [show f_X7_isIn x 0 63 = some 0 from in_out 63 (by decide) h]
  rfl
theorem user_m {x : Int32} (h : out x 4) : f_X7_isUser x = some 0 := by
  unfold f_X7_isUser
  rw [show f_X7_isIn x 0 3 = some 0 from in_out 3 (by decide) h]
  rfl
theorem snap_no (x : Int32) : f_X6_isSnapshot U0 x = some 0 := by
  rcases cases_of x 3 (by decide) with h | ⟨j, hj, rfl⟩
  · unfold f_X6_isSnapshot
    dsimp only [jn]
    by_cases h1 : x < 0
    · rw [if_pos h1]
      rfl
    · rw [if_neg h1, if_pos (show (3 : Int32) ≤ x from h.resolve_left h1)]
      rfl
  · exact (by decide +kernel : ∀ j, j < 3 → f_X6_isSnapshot U0 (nI j) = some 0) j hj
theorem msnap_no (x : Int32) : f_X7_isSnapshot V0 x = some 0 := by
  rcases cases_of x 3 (by decide) with h | ⟨j, hj, rfl⟩
  · unfold f_X7_isSnapshot
    rw [show f_X7_isIn x 0 2 = some 0 from in_out 2 (by decide) h]
    rfl
  · exact (by decide +kernel : ∀ j, j < 3 → f_X7_isSnapshot V0 (nI j) = some 0) j hj
theorem bz01 (x : Int32) : bz x = 0 ∨ bz x = 1 := by
  unfold bz
  by_cases h : x = 0
  · exact Or.inl (if_pos h)
  · exact Or.inr (if_neg h)
/-- any thing but the root -/
theorem thing_no {x : Int32} (h : out x 32 ∨ ∃ j, j < 31 ∧ x = nI (j + 1)) : f_X4_isThing (U0 1) x = some 0 ∧ f_X7_isThing V0 x = some 0 := by
  rcases h with h | ⟨j, hj, rfl⟩
  · exact ⟨thing_out h, mthing_out h⟩
  · exact (by decide +kernel : ∀ j, j < 31 → f_X4_isThing (U0 1) (nI (j + 1)) = some 0 ∧ f_X7_isThing V0 (nI (j + 1)) = some 0) j hj
theorem thing_cases (x : Int32) : x = 0 ∨ (f_X4_isThing (U0 1) x = some 0 ∧ f_X7_isThing V0 x = some 0) := by
  rcases cases_of x 32 (by decide) with h | ⟨j, hj, rfl⟩
  · exact Or.inr (thing_no (Or.inl h))
  · cases j with
    | zero => exact Or.inl rfl
    | succ j => exact Or.inr (thing_no (Or.inr ⟨j, by omega, rfl⟩))
theorem thing_0 : f_X4_isThing (U0 1) 0 = some 1 ∧ f_X7_isThing V0 0 = some 1 := by decide +kernel
theorem root_d : f_X6_demandThing U0 0 = some (0, 0, U0) := by
  unfold f_X6_demandThing
  rw [thing_0.1]
  rfl
-- handles: none is given
theorem ok_write (x y z : Int32) : qkb (f_L_write U0 g0 x y z) (f_X7_write V0 x y z) = true := by
  obtain ⟨b, hb⟩ := in_some z 0 255
  unfold f_L_write f_X6_write f_X6_demandHandleAndPage f_X6_demandHandle f_X7_write
  rw [handle_none, mhandle_none, hb]
  rfl
theorem ok_read (x y : Int32) : qkb (f_L_read U0 g0 x y) (f_X7_read V0 x y) = true := by
  unfold f_L_read f_X6_read f_X6_demandHandleAndPage f_X6_demandHandle f_X7_read
  rw [handle_none, mhandle_none]
  rfl
theorem ok_ahead (x y z : Int32) : qkb (f_L_ahead U0 g0 x y z) (f_X7_ahead V0 x y z) = true := by
  unfold f_L_ahead f_X6_ahead f_X6_demandHandleAndPages f_X6_demandHandleAndPage f_X6_demandHandle f_X7_ahead
  rw [handle_none, mhandle_none]
  rfl
theorem ok_cut (x y : Int32) : qkb (f_L_cut U0 g0 x y) (f_X7_cut V0 x y) = true := by
  unfold f_L_cut f_X6_cut f_X6_demandHandleAndPage f_X6_demandHandle f_X7_cut
  rw [handle_none, mhandle_none]
  rfl
theorem ok_lock (x y z w : Int32) : qkb (f_L_lock U0 g0 x y z (bz w)) (f_X7_lock V0 x y z (bz w)) = true := by
  unfold f_L_lock f_X6_lock f_X6_demandHandleAndPages f_X6_demandHandleAndPage f_X6_demandHandle f_X7_lock
  rw [handle_none, mhandle_none]
  rcases bz01 w with e | e
  · rw [e]
    rfl
  · rw [e]
    rfl
theorem ok_unlock (x y z : Int32) : qkb (f_L_unlock U0 g0 x y z) (f_X7_unlock V0 x y z) = true := by
  unfold f_L_unlock f_X6_unlock f_X6_demandHandleAndPages f_X6_demandHandleAndPage f_X6_demandHandle f_X7_unlock
  rw [handle_none, mhandle_none]
  rfl
theorem ok_lockOf (x y : Int32) : qkb (f_L_lockOf U0 g0 x y) (f_X7_lockOf V0 x y) = true := by
  unfold f_L_lockOf f_X6_lockOf f_X6_demandHandleAndPage f_X6_demandHandle f_X7_lockOf
  rw [handle_none, mhandle_none]
  rfl
theorem ok_sync (x : Int32) : qkc (f_L_sync U0 g0 x) (f_X7_sync V0 x) = true := by
  unfold f_L_sync f_X6_sync f_X6_demandHandle f_X7_sync
  rw [handle_none, mhandle_none]
  rfl
-- snapshots: none is given
theorem ok_drop (x : Int32) : qkb (f_L_drop U0 g0 x) (f_X7_drop V0 x) = true := by
  unfold f_L_drop f_X6_drop f_X7_drop
  rw [snap_no, msnap_no]
  rfl
theorem path_cases (x : Int32) : (f_X6_isPath x = some 0 ∧ f_X7_isIn x 0 99999999 = some 0) ∨ (f_X6_isPath x = some 1 ∧ f_X7_isIn x 0 99999999 = some 1 ∧ ¬ x < 0 ∧ ¬ 99999999 < x) := by
  unfold f_X6_isPath
  dsimp only [jn]
  by_cases h1 : x < 0
  · exact Or.inl ⟨by rw [if_pos h1]; rfl, in_lo h1⟩
  · by_cases h2 : 99999999 < x
    · exact Or.inl ⟨by rw [if_neg h1, if_pos h2]; rfl, in_hi h2⟩
    · exact Or.inr ⟨by rw [if_neg h1, if_neg h2]; rfl, in_yes h1 h2, h1, h2⟩
theorem ok_readOld (x y z : Int32) : qkb (f_L_readOld U0 g0 x y z) (f_X7_readOld V0 x y z) = true := by
  rcases path_cases y with ⟨h1, h2⟩ | ⟨h1, h2, h3, h4⟩
  · unfold f_L_readOld f_X6_readOld f_X7_readOld
    rw [h1, h2]
    rfl
  · unfold f_L_readOld f_X6_readOld f_X7_readOld
    rw [h1, h2, snap_no, msnap_no]
    rfl
-- users and blocks
theorem ok_quota (x y : Int32) : qkb (f_L_quota U0 g0 x y) (f_X7_quota V0 x y) = true := by
  rcases cases_of x 4 (by decide) with h | ⟨j, hj, rfl⟩
  · unfold f_L_quota f_X6_quota f_X7_quota
    rw [user_out h, user_m h]
    rfl
  · rcases cases_of y 65 (by decide) with h | ⟨i, hi, rfl⟩
    · have hj' : f_X6_isUser (nI j) = some 1 ∧ f_X7_isUser (nI j) = some 1 := (by decide +kernel : ∀ j, j < 4 → f_X6_isUser (nI j) = some 1 ∧ f_X7_isUser (nI j) = some 1) j hj
      have e : f_X7_isIn y 0 64 = some 0 := in_out 64 (by decide) h
      unfold f_L_quota f_X6_quota f_X7_quota
      rw [hj'.1, hj'.2]
      dsimp only [bn_s, jn]
      rw [e]
      by_cases h1 : y < 0
      · rw [if_pos h1]
        rfl
      · have h2 : ¬ y ≤ 64 := Int32.not_le.mpr (hi_lt 64 (by decide) (h.resolve_left h1))
        rw [if_neg h1, if_neg h2]
        rfl
    · exact (by decide +kernel : ∀ j, j < 4 → ∀ i, i < 65 → qkb (f_L_quota U0 g0 (nI j) (nI i)) (f_X7_quota V0 (nI j) (nI i)) = true) j hj i hi
theorem ok_bad (x y : Int32) : qkc (f_L_bad U0 g0 x (bz y)) (f_X7_bad V0 x (bz y)) = true := by
  rcases cases_of x 64 (by decide) with h | ⟨j, hj, rfl⟩
  · unfold f_L_bad f_X6_bad f_X7_bad
    rw [block_out h, mblock_out h]
    rfl
  · rcases bz01 y with e | e <;> rw [e]
    · exact (by decide +kernel : ∀ j, j < 64 → qkc (f_L_bad U0 g0 (nI j) 0) (f_X7_bad V0 (nI j) 0) = true) j hj
    · exact (by decide +kernel : ∀ j, j < 64 → qkc (f_L_bad U0 g0 (nI j) 1) (f_X7_bad V0 (nI j) 1) = true) j hj
theorem ok_number (x : Int32) : qkb (f_L_number U0 g0 x) (f_X7_number V0 x) = true := by
  rcases cases_of x 64 (by decide) with h | ⟨j, hj, rfl⟩
  · unfold f_L_number f_X6_number f_X7_number
    rw [block_out h, mblock_out h]
    rfl
  · exact (by decide +kernel : ∀ j, j < 64 → qkb (f_L_number U0 g0 (nI j)) (f_X7_number V0 (nI j)) = true) j hj
theorem ok_isFree (x : Int32) : qkc (f_L_isFree U0 g0 x) (f_X7_isFree V0 x) = true := by
  rcases cases_of x 64 (by decide) with h | ⟨j, hj, rfl⟩
  · unfold f_L_isFree f_X6_isFree f_X7_isFree
    rw [block_out h, mblock_out h]
    rfl
  · exact (by decide +kernel : ∀ j, j < 64 → qkc (f_L_isFree U0 g0 (nI j)) (f_X7_isFree V0 (nI j)) = true) j hj
theorem ok_used (x : Int32) : qkb (f_L_used U0 g0 x) (f_X7_used V0 x) = true := by
  rcases cases_of x 4 (by decide) with h | ⟨j, hj, rfl⟩
  · unfold f_L_used f_X6_used f_X7_used
    rw [user_out h, user_m h]
    rfl
  · exact (by decide +kernel : ∀ j, j < 4 → qkb (f_L_used U0 g0 (nI j)) (f_X7_used V0 (nI j)) = true) j hj
-- things: the root alone
theorem ok_target (x : Int32) : qkb (f_L_target U0 g0 x) (f_X7_target V0 x) = true := by
  rcases thing_cases x with rfl | ⟨h1, h2⟩
  · decide +kernel
  · unfold f_L_target f_X6_target f_X6_demandThing f_X7_target
    rw [h1, h2]
    rfl
theorem ok_entry (x y : Int32) : qkb (f_L_entry U0 g0 x y) (f_X7_entry V0 x y) = true := by
  rcases thing_cases x with rfl | ⟨h1, h2⟩
  · have e1 : f_X4_sizeOf (U0 1) 0 = some 0 := by decide +kernel
    have e2 : f_X7_kindOf V0 0 = some 1 ∧ f_X7_entries V0 0 0 = some 0 := by decide +kernel
    have e3 : f_X7_isIn y 0 (0 - 1) = some 0 := by
      by_cases h1 : y < 0
      · exact in_lo h1
      · exact in_hi (by
          have := Int32.le_iff_toInt_le.mp (Int32.not_lt.mp h1)
          refine Int32.lt_iff_toInt_lt.mpr ?_
          have e1 : ((0 : Int32) - 1).toInt = -1 := by decide
          have e2 : (0 : Int32).toInt = 0 := by decide
          omega)
    unfold f_L_entry f_X6_entry f_X7_entry
    rw [root_d, thing_0.2]
    dsimp only [bn_s, jn]
    rw [e2.1]
    by_cases h1 : y < 0
    · rw [if_pos h1]
      dsimp only [bn_s, jn]
      rw [e2.2]
      dsimp only [bn_s, jn]
      rw [e3]
      rfl
    · rw [if_neg h1]
      dsimp only [bn_s, jn]
      rw [e1, e2.2]
      dsimp only [bn_s, jn]
      rw [if_neg h1, e3]
      rfl
  · unfold f_L_entry f_X6_entry f_X6_demandThing f_X7_entry
    rw [h1, h2]
    rfl
theorem ok_page (x y z : Int32) : qkb (f_L_page U0 g0 x y z) (f_X7_page V0 x y z) = true := by
  rcases thing_cases x with rfl | ⟨h1, h2⟩
  · rcases cases_of y 16 (by decide) with h | ⟨j, hj, rfl⟩
    · unfold f_L_page f_X6_page f_X7_page
      rw [root_d, thing_0.2, page_out h, mpage_out h]
      rfl
    · rcases cases_of z 3 (by decide) with h | ⟨i, hi, rfl⟩
      · have hp : f_X6_isPage (nI j) = some 1 ∧ f_X7_isPage (nI j) = some 1 := (by decide +kernel : ∀ j, j < 16 → f_X6_isPage (nI j) = some 1 ∧ f_X7_isPage (nI j) = some 1) j hj
        have e : f_X7_isIn z 0 2 = some 0 := in_out 2 (by decide) h
        have hz : z.toInt < 0 ∨ 2 < z.toInt := by
          rcases h with h | h
          · exact Or.inl (Int32.lt_iff_toInt_lt.mp h)
          · have h := Int32.le_iff_toInt_le.mp h
            have e : (nI 3).toInt = 3 := by decide
            omega
        unfold f_L_page f_X6_page f_X7_page
        rw [root_d, thing_0.2, hp.1, hp.2, e]
        dsimp only [bn_s, jn]
        rw [if_pos hz]
        rfl
      · exact (by decide +kernel : ∀ j, j < 16 → ∀ i, i < 3 → qkb (f_L_page U0 g0 0 (nI j) (nI i)) (f_X7_page V0 0 (nI j) (nI i)) = true) j hj i hi
  · unfold f_L_page f_X6_page f_X6_demandThing f_X7_page
    rw [h1, h2]
    rfl
theorem ok_about (x y : Int32) : qkb (f_L_about U0 g0 x y) (f_X7_about V0 x y) = true := by
  rcases thing_cases x with rfl | ⟨h1, h2⟩
  · rcases cases_of y 7 (by decide) with h | ⟨i, hi, rfl⟩
    · have e : f_X7_isIn y 0 6 = some 0 := in_out 6 (by decide) h
      have hz : y.toInt < 0 ∨ 6 < y.toInt := by
        rcases h with h | h
        · exact Or.inl (Int32.lt_iff_toInt_lt.mp h)
        · have h := Int32.le_iff_toInt_le.mp h
          have e : (nI 7).toInt = 7 := by decide
          omega
      unfold f_L_about f_X6_about f_X7_about
      rw [root_d, thing_0.2, e]
      dsimp only [bn_s, jn]
      rw [if_pos hz]
      rfl
    · exact (by decide +kernel : ∀ i, i < 7 → qkb (f_L_about U0 g0 0 (nI i)) (f_X7_about V0 0 (nI i)) = true) i hi
  · unfold f_L_about f_X6_about f_X6_demandThing f_X7_about
    rw [h1, h2]
    rfl
-- no arguments
theorem ok_commit : (f_X6_commit U0).map (fun z => z.1) = (f_X7_commit V0).map (fun z => z.1) ∧ (f_X6_commit U0).isSome = true := by decide +kernel
theorem ok_crash : (f_X6_crash U0).map (fun z => z.1) = (f_X7_crash V0).map (fun z => z.1) ∧ (f_X6_crash U0).isSome = true := by decide +kernel
theorem ok_snapshot : qkb (f_L_snapshot U0 g0) (f_X7_snapshot V0) = true := by decide +kernel
theorem ok_dirty : (f_X6_dirty U0).map (fun z => z) = (f_X7_dirty V0).map (fun z => z.1) ∧ (f_X6_dirty U0).isSome = true := by decide +kernel
