theorem can_no {V : S1} {c : Int32} (h : ¬ c = 0) : f_X7_can V c = some (0, up V 18 (fun _ => c)) := by
  unfold f_X7_can
  rw [bv_n, jn_n, if_neg h]
  show some (vp_nar .boolean 0, _) = some (0, _)
  rw [show vp_nar .boolean 0 = 0 by decide]
theorem qkd_x {oL : Option (Int32 × S2)} {oM : Option S1} {k : Int32} {U : S2} {V : S1} (h1 : oL = some (k, U)) (h2 : oM = some V) (h3 : V 18 0 = k) : qkd oL oM = true := by
  rw [h1, h2]
  simp only [qkd, decide_eq_true_eq]
  exact h3
theorem d0 : f_X6_demandThing U0 0 = some (0, 0, U0) := by
  unfold f_X6_demandThing
  rw [thing_0.1, bn_n, if_neg (show ¬ (1 : Int32) = 0 by decide)]
theorem dno {x : Int32} (h : f_X4_isThing (U0 1) x = some 0) : f_X6_demandThing U0 x = some (2, 0, U0) := by
  unfold f_X6_demandThing
  rw [h, bn_n, if_pos rfl]
theorem lose0 : f_X6_loseFirstEntry U0 0 = some (3, 0, U0) := by
  unfold f_X6_loseFirstEntry
  rw [facts6.2.1, bn_n, if_pos rfl]
theorem mk0 : f_X7_kindOf V0 0 = some 1 := mkind0 rfl
/-- the reference: no such thing -/
theorem dm_no {k x y v c : Int32} (e : f_X7_isIn k 0 2 = some v) (t2 : f_X7_isThing V0 x = some 0) (hc : (v = 0 ∧ c = 1) ∨ (v = 1 ∧ c = 2)) : f_X7_damage V0 k x y = some (up V0 18 (fun _ => c)) := by
  unfold f_X7_damage
  rw [t2, bn_n, jn_n, jn_n, if_pos rfl]
  dsimp only
  rw [jn_n, jn_n, if_pos rfl]
  dsimp only
  rw [e, bn_n, jn_n]
  rcases hc with ⟨rfl, rfl⟩ | ⟨rfl, rfl⟩
  · rw [if_pos rfl]
    dsimp only
    rw [can_no (show ¬ (1 : Int32) = 0 by decide), bn_n]
    dsimp only
    rw [if_pos rfl]
  · rw [if_neg (show ¬ (1 : Int32) = 0 by decide), if_pos rfl]
    dsimp only
    rw [can_no (show ¬ (2 : Int32) = 0 by decide), bn_n]
    dsimp only
    rw [if_pos rfl]
theorem dl_no {k x y : Int32} (h0 : ¬ k < 0) (h2 : k ≤ 2) (t1 : f_X4_isThing (U0 1) x = some 0) : f_L_damage U0 k x y = some (2, U0) := by
  unfold f_L_damage f_X6_damage
  rw [jn_n, if_neg h0, if_pos h2, dno t1, bn_n]
  generalize U0 = W
  rfl
theorem entries0 : f_X7_entries V0 0 0 = some 0 := facts7.1
theorem set0 : ∃ W, f_X4_setCount (U0 1) 0 (0 + 1) = some W := Option.isSome_iff_exists.mp (by decide +kernel)
theorem ok_damage (k x y : Int32) : qkd (f_L_damage U0 k x y) (f_X7_damage V0 k x y) = true := by
  rcases cases_of k 3 (by decide) with h | ⟨j, hj, rfl⟩
  · have e : f_X7_isIn k 0 2 = some 0 := in_out 2 (by decide) h
    have e1 : f_L_damage U0 k x y = some (1, U0) := by
      unfold f_L_damage f_X6_damage
      rw [jn_n]
      by_cases h1 : k < 0
      · rw [if_pos h1]
        generalize U0 = W
        rfl
      · rw [if_neg h1, if_neg (show ¬ k ≤ 2 from Int32.not_le.mpr (hi_lt 2 (by decide) (h.resolve_left h1)))]
        generalize U0 = W
        rfl
    have hk : ¬ k = 0 ∧ ¬ k = 1 := by
      constructor
      · rintro rfl
        rcases h with h | h <;> exact absurd h (by decide)
      · rintro rfl
        rcases h with h | h <;> exact absurd h (by decide)
    refine qkd_x e1 (V := up V0 18 (fun _ => 1)) ?_ (by rw [up_self])
    rcases thing_cases x with rfl | ⟨t1, t2⟩
    · unfold f_X7_damage
      rw [thing_0.2, bn_n, jn_n, jn_n, if_neg (show ¬ (1 : Int32) = 0 by decide), jn_n, if_neg hk.2]
      dsimp only
      rw [jn_n, jn_n, if_neg (show ¬ (1 : Int32) = 0 by decide), jn_n, if_neg hk.1, if_neg hk.2, mk0, bn_n, if_pos rfl, entries0, bn_n, if_pos (show (0 : Int32) ≤ 0 by decide)]
      dsimp only
      rw [e, bn_n, jn_n, if_pos rfl]
      dsimp only
      rw [can_no (show ¬ (1 : Int32) = 0 by decide), bn_n]
      dsimp only
      rw [if_pos rfl]
    · exact dm_no e t2 (Or.inl ⟨rfl, rfl⟩)
  · have h0 : ¬ nI j < 0 := (by decide : ∀ j, j < 3 → ¬ nI j < 0) j hj
    have h2 : nI j ≤ 2 := (by decide : ∀ j, j < 3 → nI j ≤ 2) j hj
    have e : f_X7_isIn (nI j) 0 2 = some 1 := (by decide : ∀ j, j < 3 → f_X7_isIn (nI j) 0 2 = some 1) j hj
    rcases thing_cases x with rfl | ⟨t1, t2⟩
    · obtain rfl | rfl | rfl : j = 0 ∨ j = 1 ∨ j = 2 := by omega
      · rw [show nI 0 = 0 by decide] at h0 h2 e ⊢
        obtain ⟨W, hW⟩ := set0
        refine qkd_x (k := 0) (U := upc U0 1 W) (V := st V1 0 (0 + 3) (V1 0 (0 + 3 : Int32).toNatClampNeg + 1)) ?_ ?_ ?_
        · unfold f_L_damage f_X6_damage
          rw [jn_n, if_neg h0, if_pos h2, d0, bn_n]
          dsimp only
          rw [if_pos rfl, jn_n, if_pos rfl, root_count, bn_n, hW, bn_n, bv_n, bn_n]
          rfl
        · unfold f_X7_damage
          rw [thing_0.2, bn_n, jn_n, jn_n, if_neg (show ¬ (1 : Int32) = 0 by decide), jn_n, if_neg (show ¬ (0 : Int32) = 1 by decide)]
          dsimp only
          rw [jn_n, jn_n, if_neg (show ¬ (1 : Int32) = 0 by decide), jn_n, if_pos rfl]
          dsimp only
          rw [e, bn_n, jn_n, if_neg (show ¬ (1 : Int32) = 0 by decide), if_neg (show ¬ (1 : Int32) = 0 by decide), if_neg (show ¬ (1 : Int32) = 0 by decide)]
          dsimp only
          rw [can0, bn_n]
          dsimp only
          rw [if_neg (show ¬ (1 : Int32) = 0 by decide), at00, bn_n, jn_n, if_pos rfl, chk_t (show inb (0 + 3) 8480 = true by decide), chk_t (show inb (0 + 3) 8480 = true by decide), bv_n]
        · unfold st
          rw [up_ne _ _ (show 18 ≠ 0 by decide)]
          unfold V1
          rw [up_self]
      · rw [show nI 1 = 1 by decide] at h0 h2 e ⊢
        rcases thing_cases y with rfl | ⟨t1, t2⟩
        · decide +kernel
        · refine qkd_x (k := 2) (U := U0) (V := up V0 18 (fun _ => 2)) ?_ ?_ (by rw [up_self])
          · unfold f_L_damage f_X6_damage
            rw [jn_n, if_neg h0, if_pos h2, d0, bn_n]
            dsimp only
            rw [if_pos rfl, jn_n, if_neg (show ¬ (1 : Int32) = 0 by decide), if_pos rfl, dno t1, bn_n]
            generalize U0 = W
            rfl
          · unfold f_X7_damage
            rw [thing_0.2, bn_n, jn_n, jn_n, if_neg (show ¬ (1 : Int32) = 0 by decide), jn_n, if_pos rfl, t2, bn_n, if_pos rfl]
            dsimp only
            rw [jn_n, jn_n, if_pos rfl]
            dsimp only
            rw [e, bn_n, jn_n, if_neg (show ¬ (1 : Int32) = 0 by decide), if_pos rfl]
            dsimp only
            rw [can_no (show ¬ (2 : Int32) = 0 by decide), bn_n]
            dsimp only
            rw [if_pos rfl]
      · rw [show nI 2 = 2 by decide] at h0 h2 e ⊢
        refine qkd_x (k := 3) (U := U0) (V := up V0 18 (fun _ => 3)) ?_ ?_ (by rw [up_self])
        · unfold f_L_damage f_X6_damage
          rw [jn_n, if_neg h0, if_pos h2, d0, bn_n]
          dsimp only
          rw [if_pos rfl, jn_n, if_neg (show ¬ (2 : Int32) = 0 by decide), if_neg (show ¬ (2 : Int32) = 1 by decide), lose0, bn_n]
          generalize U0 = W
          rfl
        · unfold f_X7_damage
          rw [thing_0.2, bn_n, jn_n, jn_n, if_neg (show ¬ (1 : Int32) = 0 by decide), jn_n, if_neg (show ¬ (2 : Int32) = 1 by decide)]
          dsimp only
          rw [jn_n, jn_n, if_neg (show ¬ (1 : Int32) = 0 by decide), jn_n, if_neg (show ¬ (2 : Int32) = 0 by decide), if_neg (show ¬ (2 : Int32) = 1 by decide), mk0, bn_n, if_pos rfl, entries0, bn_n, if_pos (show (0 : Int32) ≤ 0 by decide)]
          dsimp only
          rw [e, bn_n, jn_n, if_neg (show ¬ (1 : Int32) = 0 by decide), if_neg (show ¬ (1 : Int32) = 0 by decide), if_pos rfl]
          dsimp only
          rw [can_no (show ¬ (3 : Int32) = 0 by decide), bn_n]
          dsimp only
          rw [if_pos rfl]
    · exact qkd_x (dl_no h0 h2 t1) (dm_no e t2 (Or.inr ⟨rfl, rfl⟩)) (by rw [up_self])
