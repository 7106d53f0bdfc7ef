-- which paths
theorem new_cases (x : Int32) : (f_X6_isNewPath x = some 0 ∧ f_X7_isPath x = some 0) ∨ (f_X6_isNewPath x = some 1 ∧ f_X7_isPath x = some 1 ∧ ∃ q : Nat, 0 < q ∧ q < 100000000 ∧ x = nI q) := by
  unfold f_X6_isNewPath f_X7_isPath
  dsimp only [jn]
  by_cases h1 : x < 1
  · exact Or.inl ⟨by rw [if_pos h1]; rfl, by rw [in_lo h1]; rfl⟩
  · by_cases h2 : 99999999 < x
    · exact Or.inl ⟨by rw [if_neg h1, if_pos h2]; rfl, by rw [in_hi h2]; rfl⟩
    · have h0 : ¬ x < 0 := fun h => h1 (by
        have := Int32.lt_iff_toInt_lt.mp h
        refine Int32.lt_iff_toInt_lt.mpr ?_
        have e1 : (1 : Int32).toInt = 1 := by decide
        have e2 : (0 : Int32).toInt = 0 := by decide
        omega)
      obtain ⟨q, hq, rfl⟩ := nI_of2 (M := 99999999) (n := 99999999) (by decide) h0 (Int32.not_lt.mp h2)
      refine Or.inr ⟨by rw [if_neg h1, if_neg h2]; rfl, by rw [in_yes h1 h2]; rfl, q, ?_, by omega, rfl⟩
      cases q with
      | zero => exact absurd (show nI 0 < 1 by decide) h1
      | succ q => omega
theorem path_cases2 (x : Int32) : (f_X6_isPath x = some 0 ∧ f_X7_isIn x 0 99999999 = some 0) ∨ (f_X6_isPath x = some 1 ∧ f_X7_isIn x 0 99999999 = some 1 ∧ (x = 0 ∨ ∃ q : Nat, 0 < q ∧ q < 100000000 ∧ x = nI q)) := by
  rcases path_cases x with h | ⟨h1, h2, h3, h4⟩
  · exact Or.inl h
  · obtain ⟨q, hq, rfl⟩ := nI_of2 (M := 99999999) (n := 99999999) (by decide) h3 (Int32.not_lt.mp h4)
    refine Or.inr ⟨h1, h2, ?_⟩
    cases q with
    | zero => exact Or.inl rfl
    | succ q => exact Or.inr ⟨q + 1, by omega, by omega, rfl⟩
theorem rights_cases (x : Int32) : (f_X6_isRights x = some 0 ∧ f_X7_areRights x = some 0) ∨ (f_X6_isRights x = some 1 ∧ f_X7_areRights x = some 1 ∧ ∃ j : Nat, j < 16 ∧ x = nI j) := by
  rcases cases_of x 16 (by decide) with h | ⟨j, hj, rfl⟩
  · refine Or.inl ⟨?_, by unfold f_X7_areRights; rw [show f_X7_isIn x 0 15 = some 0 from in_out 15 (by decide) h]; rfl⟩
    unfold f_X6_isRights
    dsimp only [jn]
    by_cases h1 : x < 0
    · rw [if_pos h1]
      rfl
    · rw [if_neg h1, if_pos (show (15 : Int32) < x from hi_lt 15 (by decide) (h.resolve_left h1))]
      rfl
  · have := (by decide +kernel : ∀ j, j < 16 → f_X6_isRights (nI j) = some 1 ∧ f_X7_areRights (nI j) = some 1) j hj
    exact Or.inr ⟨this.1, this.2, j, hj, rfl⟩
theorem kind0 : f_X4_isOfKind (U0 1) 0 1 = some 1 ∧ f_X4_isOfKind (U0 1) (-1) 1 = some 0 := by decide +kernel
theorem fa_lo {U : S2} (h : U 1 = U0 1) {q : Nat} (hq : q < 100) : ∃ w, f_X6_folderAhead U (nI q) = some (0, upc U 6 w) := by
  obtain ⟨w, hw⟩ := walk_root (U 6) 1
  refine ⟨w, ?_⟩
  unfold f_X6_folderAhead
  have e : nI q / 100 = 0 := by
    rw [show nI q / 100 = nI (q / 100) from pk_div (d := 100) (by omega) (by decide) (by decide), show q / 100 = 0 by omega]
    rfl
  rw [e, h, hw]
  dsimp only [bn_s, bv]
  rw [show upc U 6 w 1 = U0 1 from h, kind0.1]
  rfl
theorem fa_hi {U : S2} (h : U 1 = U0 1) {q : Nat} (hq : 100 ≤ q) (hq2 : q < 100000000) : ∃ w, f_X6_folderAhead U (nI q) = some (-1, upc U 6 w) := by
  obtain ⟨w, hw⟩ := walk_no (U 6) (q := q / 100) (by omega) (by omega) 1
  refine ⟨w, ?_⟩
  unfold f_X6_folderAhead
  have e : nI q / 100 = nI (q / 100) := pk_div (d := 100) (by omega) (by decide) (by decide)
  rw [e, h, hw]
  dsimp only [bn_s, bv]
  rw [show upc U 6 w 1 = U0 1 from h, kind0.2]
  rfl
theorem fa_any {U : S2} (h : U 1 = U0 1) {q : Nat} (hq2 : q < 100000000) : ∃ z w, (z = 0 ∨ z = -1) ∧ f_X6_folderAhead U (nI q) = some (z, upc U 6 w) := by
  by_cases hq : q < 100
  · obtain ⟨w, hw⟩ := fa_lo h hq
    exact ⟨0, w, Or.inl rfl, hw⟩
  · obtain ⟨w, hw⟩ := fa_hi h (by omega) hq2
    exact ⟨-1, w, Or.inr rfl, hw⟩
theorem named_any {z : Int32} (h : z = 0 ∨ z = -1) (x : Int32) : f_X4_thingNamed (U0 1) z x = some (-1) := by
  rcases h with rfl | rfl
  · exact not_named x
  · exact not_named' x
theorem mkind0 {V : S1} (h0 : V 0 = V0 0) : f_X7_kindOf V 0 = some 1 := by
  unfold f_X7_kindOf
  rw [at00]
  dsimp only [bn_s]
  rw [chk_t (show inb 0 8480 = true by decide), h0, root0]
theorem mfo_lo {V : S1} (h0 : V 0 = V0 0) {q : Nat} (h1 : 0 < q) (hq : q < 100) : ∃ V', f_X7_folderOf V (nI q) = some (0, V') ∧ sm V V' := by
  obtain ⟨V', hw, hs⟩ := mwalk_root V 1
  refine ⟨V', ?_, hs⟩
  unfold f_X7_folderOf
  have e : nI q / 100 = 0 := by
    rw [show nI q / 100 = nI (q / 100) from pk_div (d := 100) (by omega) (by decide) (by decide), show q / 100 = 0 by omega]
    rfl
  have e2 : ¬ nI q - nI q / 100 * 100 = 0 := by
    rw [show nI q - nI q / 100 * 100 = nI (q % 100) from pk_rem (d := 100) (by omega) (by decide) (by decide)]
    exact nI_ne0 (by omega) (by omega)
  rw [e] at e2 ⊢
  rw [hw]
  dsimp only [bn_s, jn]
  rw [if_neg (show ¬ (0 : Int32) = -1 by decide), mkind0 ((hs 0 (by decide) (by decide) (by decide) (by decide)).trans h0)]
  dsimp only [bn_s]
  rw [if_pos rfl, if_neg e2]
theorem mfo_hi {V : S1} (h0 : V 0 = V0 0) {q : Nat} (hq : 100 ≤ q) (hq2 : q < 100000000) : ∃ V', f_X7_folderOf V (nI q) = some (-1, V') ∧ sm V V' := by
  obtain ⟨V', hw, hs⟩ := mwalk_no h0 (q := q / 100) (by omega) (by omega) 1
  refine ⟨V', ?_, hs⟩
  unfold f_X7_folderOf
  rw [show nI q / 100 = nI (q / 100) from pk_div (d := 100) (by omega) (by decide) (by decide), hw]
  rfl
theorem mfo_any {V : S1} (h0 : V 0 = V0 0) {q : Nat} (h1 : 0 < q) (hq2 : q < 100000000) : ∃ z V', f_X7_folderOf V (nI q) = some (z, V') ∧ sm V V' := by
  by_cases hq : q < 100
  · obtain ⟨w, hw⟩ := mfo_lo h0 h1 hq
    exact ⟨0, w, hw⟩
  · obtain ⟨w, hw⟩ := mfo_hi h0 (by omega) hq2
    exact ⟨-1, w, hw⟩
