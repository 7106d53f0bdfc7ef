theorem begins_lo {k r p : Int32} {q : Nat} (h0 : 0 < q) (hq : q < 100) (hn : f_X7_isPath (nI q) = some 1) : ∃ V', f_X7_begins V0 (nI q) k r p 1 = some (1, V') ∧ V' 18 0 = 0 := by
  obtain ⟨V1, e1, s1⟩ := mfo_lo (V := V0) rfl h0 hq
  have a0 : V1 0 = V0 0 := s1 0 (by decide) (by decide) (by decide) (by decide)
  have a7 : V1 7 = V0 7 := s1 7 (by decide) (by decide) (by decide) (by decide)
  obtain ⟨V2, e2, e3⟩ := mmakes (up V1 18 (fun _ => 0)) k r p
  obtain ⟨V3, e4, e5⟩ := menters (V := V2) ((e2.1 5 (by decide)).trans ((congrFun a0 5).trans facts7.2.2.2)) (nI q - nI q / 100 * 100)
  refine ⟨V3, ?_, by rw [e5, e2.2]; rfl⟩
  have e6 : f_X7_lowest (up V1 18 (fun _ => 0)) = some 1 := mlowest a0
  have e7 : f_X7_can V1 0 = some (1, up V1 18 (fun _ => 0)) := by
    unfold f_X7_can
    dsimp only [bv, jn]
    rw [if_pos rfl]
    rfl
  unfold f_X7_begins
  rw [hn, bn_n, jn_n, if_neg (show ¬ (1 : Int32) = 0 by decide), e1, bn_n]
  dsimp only
  rw [jn_n, jn_n, if_neg (show ¬ (0 : Int32) = -1 by decide), mcan a0 a7, bn_n, if_neg (show ¬ (1 : Int32) = 0 by decide), mlowest a0, bn_n, if_neg (show ¬ (32 : Int32) ≤ 1 by decide)]
  dsimp only
  rw [bn_n, jn_n, jn_n, if_neg (show ¬ (1 : Int32) = 0 by decide), if_neg (show ¬ (1 : Int32) = 0 by decide), if_neg (show ¬ (0 : Int32) = -1 by decide), if_neg (show ¬ (1 : Int32) = 0 by decide)]
  dsimp only
  rw [e7, bn_n]
  dsimp only
  rw [if_neg (show ¬ (1 : Int32) = 0 by decide), e6, bn_n, e3, bn_n, e4, bn_n]
theorem begins_hi {k r p : Int32} {q : Nat} (hq : 100 ≤ q) (hq2 : q < 100000000) (hn : f_X7_isPath (nI q) = some 1) : ∃ V', f_X7_begins V0 (nI q) k r p 1 = some (0, V') ∧ V' 18 0 = 2 := by
  obtain ⟨V1, e1, s1⟩ := mfo_hi (V := V0) rfl hq hq2
  refine ⟨up V1 18 (fun _ => 2), ?_, rfl⟩
  unfold f_X7_begins
  rw [hn, e1]
  rfl
theorem begins_bad {k r p : Int32} {q : Nat} (h0 : 0 < q) (hq2 : q < 100000000) (hn : f_X7_isPath (nI q) = some 1) : ∃ V', f_X7_begins V0 (nI q) k r p 0 = some (0, V') ∧ V' 18 0 = 1 := by
  by_cases hq : q < 100
  · obtain ⟨V1, e1, s1⟩ := mfo_lo (V := V0) rfl h0 hq
    have a0 : V1 0 = V0 0 := s1 0 (by decide) (by decide) (by decide) (by decide)
    have a7 : V1 7 = V0 7 := s1 7 (by decide) (by decide) (by decide) (by decide)
    refine ⟨up V1 18 (fun _ => 1), ?_, rfl⟩
    unfold f_X7_begins
    rw [hn, bn_n, jn_n, if_neg (show ¬ (1 : Int32) = 0 by decide), e1, bn_n]
    dsimp only
    rw [jn_n, jn_n, if_neg (show ¬ (0 : Int32) = -1 by decide), mcan a0 a7, bn_n, if_neg (show ¬ (1 : Int32) = 0 by decide), mlowest a0, bn_n, if_neg (show ¬ (32 : Int32) ≤ 1 by decide)]
    dsimp only
    rw [bn_n, jn_n, jn_n, if_neg (show ¬ (1 : Int32) = 0 by decide), if_pos rfl]
    rfl
  · obtain ⟨V1, e1, s1⟩ := mfo_hi (V := V0) rfl (by omega) hq2
    refine ⟨up V1 18 (fun _ => 1), ?_, rfl⟩
    unfold f_X7_begins
    rw [hn, e1]
    rfl
