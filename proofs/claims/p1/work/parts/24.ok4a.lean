-- file, folder, link
theorem facts6 : f_X4_lowestNotHad (U0 1) = some 1 ∧ f_X4_sizeOf (U0 1) 0 = some 0 ∧ U0 0 10 0 = 0 ∧ U0 1 5 0 = 0 ∧ (f_X4_ownerOf (U0 1) 0).isSome = true := by decide +kernel
theorem can_take {U : S2} (h0 : U 0 = U0 0) (h1 : U 1 = U0 1) (x : Int32) : f_X6_canTakeNewName U 0 x = some 1 := by
  obtain ⟨a, ha⟩ := Option.isSome_iff_exists.mp facts6.2.2.2.2
  have hm : f_X6_mayWrite U 0 = some 1 := by
    unfold f_X6_mayWrite f_X6_may
    rw [h0, h1, ha]
    dsimp only [bn_s, jn]
    by_cases e : U0 0 10 0 = a
    · rw [if_pos e, if_pos facts6.2.2.1]
      rfl
    · rw [if_neg e, if_pos facts6.2.2.1]
      rfl
  unfold f_X6_canTakeNewName
  rw [h1, not_named]
  dsimp only [bn_s, jn]
  rw [if_pos rfl, facts6.2.1, bn_n, if_neg (show ¬ (8 : Int32) ≤ 0 by decide), hm, bn_n]
  rfl
theorem make_row (u : S1) (k o r : Int32) : ∃ W, f_X4_makeThing u 1 k o r = some W ∧ W 5 = u 5 := ⟨_, rfl, rfl⟩
theorem path_row (u : S1) (p : Int32) : ∃ W, f_X4_setPath u 1 p = some W ∧ W 5 = u 5 := ⟨_, rfl, rfl⟩
theorem set_row (u : S1) (n : Int32) : ∃ W, f_X4_setEntry u 0 0 n 1 = some W := by
  unfold f_X4_setEntry f_X4_isEntry
  rw [jn_n, jn_n, if_neg (show ¬ (0 : Int32) < 0 by decide), if_neg (show ¬ (32 : Int32) ≤ 0 by decide), if_neg (show ¬ (0 : Int32) < 0 by decide), if_neg (show ¬ (8 : Int32) ≤ 0 by decide), chk_t (show inb 0 32 = true by decide)]
  by_cases h : u 5 (0 : Int32).toNatClampNeg ≤ 0
  · rw [if_pos h]
    exact ⟨_, rfl⟩
  · rw [if_neg h]
    exact ⟨_, rfl⟩
theorem put_row {u : S1} (h : u 5 0 = 0) (n : Int32) : ∃ W, f_X4_putEntry u 0 n 1 = some W := by
  have hs : f_X4_sizeOf u 0 = some 0 := by
    show some (u 5 (0 : Int32).toNatClampNeg) = some 0
    rw [show (0 : Int32).toNatClampNeg = 0 by decide, h]
  have hr : f_X4_isInRange 0 = some 1 := by decide
  obtain ⟨W, hW⟩ := set_row (st u 5 0 (0 + 1)) n
  refine ⟨W, ?_⟩
  unfold f_X4_putEntry
  rw [hs, bn_n, hr, bn_n, jn_n, if_neg (show ¬ (1 : Int32) = 0 by decide), if_pos (show (0 : Int32) < 8 by decide), chk_t (show inb 0 32 = true by decide), bv_n]
  unfold qj2
  refine ql2_u (fun R => ?_)
  rw [jn_n, if_pos (show (0 : Int32) ≤ 0 by decide), hW, bn_n]
theorem make_lo {k r p : Int32} (hr : f_X6_isRights r = some 1) (hp : f_X6_isPath p = some 1) {q : Nat} (h0 : 0 < q) (hq : q < 100) (hn : f_X6_isNewPath (nI q) = some 1) : ∃ U', f_X6_makeThing U0 k (nI q) r p = some (0, 1, U') := by
  obtain ⟨w, hw⟩ := fa_lo (U := U0) rfl hq
  have e2 : ¬ nI q - nI q / 100 * 100 = 0 := by
    rw [show nI q - nI q / 100 * 100 = nI (q % 100) from pk_rem (d := 100) (by omega) (by decide) (by decide)]
    exact nI_ne0 (by omega) (by omega)
  obtain ⟨W1, e3, e4⟩ := make_row (U0 1) k (U0 0 10 0) r
  obtain ⟨W2, e5, e6⟩ := path_row W1 p
  obtain ⟨W3, e7⟩ := put_row (u := W2) (by rw [e6, e4]; exact facts6.2.2.2.1) (nI q - nI q / 100 * 100)
  have c1 : ∀ x, f_X6_canTakeNewName (upc U0 6 w) 0 x = some 1 := can_take (upc_ne U0 w (by decide)) (upc_ne U0 w (by decide))
  refine ⟨upc (upc (upc (upc U0 6 w) 1 W1) 1 W2) 1 W3, ?_⟩
  unfold f_X6_makeThing
  rw [hn, bn_n, jn_n, if_neg (show ¬ (1 : Int32) = 0 by decide), hr, bn_n, if_neg (show ¬ (1 : Int32) = 0 by decide), hp, bn_n, if_neg (show ¬ (1 : Int32) = 0 by decide), hw, bn_n]
  dsimp only
  rw [jn_n, if_neg (show ¬ (0 : Int32) = -1 by decide), if_neg e2, upc_ne U0 w (show 1 ≠ 6 by decide), facts6.1, bn_n, jn_n, if_neg (show ¬ (1 : Int32) = -1 by decide), c1, bn_n, if_neg (show ¬ (1 : Int32) = 0 by decide), upc_ne U0 w (show 0 ≠ 6 by decide), e3, bn_n, bv_n, upc_self, e5, bn_n, bv_n, upc_self, e7, bn_n, bv_n]
theorem make_hi {k r p : Int32} (hr : f_X6_isRights r = some 1) (hp : f_X6_isPath p = some 1) {q : Nat} (hq : 100 ≤ q) (hq2 : q < 100000000) (hn : f_X6_isNewPath (nI q) = some 1) : ∃ U', f_X6_makeThing U0 k (nI q) r p = some (2, 0, U') := by
  obtain ⟨w, hw⟩ := fa_hi (U := U0) rfl hq hq2
  refine ⟨upc U0 6 w, ?_⟩
  unfold f_X6_makeThing
  rw [hn, hr, hp, hw]
  rfl
theorem make_bad {k r p x : Int32} (hr : f_X6_isRights r = some 0 ∨ (f_X6_isRights r = some 1 ∧ f_X6_isPath p = some 0)) (hn : f_X6_isNewPath x = some 1) : f_X6_makeThing U0 k x r p = some (1, 0, U0) := by
  unfold f_X6_makeThing
  rcases hr with h | ⟨h, h2⟩
  · rw [hn, h]
    rfl
  · rw [hn, h, h2]
    rfl
