-- the reference
def V1 : S1 := up V0 18 (fun _ => 0)
theorem m_one : ∀ i, i < 32 → f_X7_isThing V1 (nI i) = some (if i = 0 then 1 else 0) := by decide +kernel
theorem m_blocks : ∀ i, i < 16 → f_X7_blockOf V1 0 (nI i) = some (-1) := by decide +kernel
theorem m_below : (f_X7_below V1 0).isSome = true := by decide +kernel
theorem m_names : f_X7_namesOf V1 0 = some (V1 0 3) := by decide +kernel
theorem m_double : f_X7_doublePages V1 = some (0, V1) := by
  unfold f_X7_doublePages qj3
  refine ql3_ind (a := fun _ => (0 : Int32)) (b := fun i => nI i) (c := fun _ => V1) (N := 512) (fun k hk R => ?_) (fun R => ?_) 512 4096 0 rfl (by decide)
  · show (if (512 : Int32) ≤ nI k then _ else _) = _
    rw [if_neg (show ¬ (512 : Int32) ≤ nI k from nI_ge (b := 512) hk (by decide)), show nI k / 16 = nI (k / 16) from pk_div (d := 16) (by omega) (by decide) (by decide), m_one (k / 16) (by omega)]
    dsimp only [bn_s, jn]
    by_cases hk0 : k / 16 = 0
    · rw [hk0, if_pos rfl, if_neg (show ¬ (1 : Int32) = 0 by decide), show nI 0 = 0 by decide, show (0 : Int32) * 16 = 0 by decide, show nI k - 0 = nI k from Int32.sub_zero _, m_blocks k (by omega)]
      dsimp only [bn_s]
      unfold qj6
      refine ql6_u (fun R2 => ?_)
      by_cases h : nI k ≤ 0
      · rw [if_pos h, if_pos rfl, nI_1]
      · rw [if_neg h, if_pos rfl, if_pos rfl, nI_1]
    · rw [if_neg hk0, if_pos rfl]
      unfold qj6
      refine ql6_u (fun R2 => ?_)
      by_cases h : nI k ≤ 0
      · rw [if_pos h, if_pos rfl, nI_1]
      · rw [if_neg h, if_pos rfl, if_pos rfl, nI_1]
  · show (if (512 : Int32) ≤ nI 512 then _ else _) = _
    rw [if_pos (show (512 : Int32) ≤ nI 512 by decide)]
theorem can0 : f_X7_can V0 0 = some (1, V1) := by
  unfold f_X7_can V1
  rw [bv_n, jn_n, if_pos rfl]
  rfl
theorem m_check : ∃ V, f_X7_check V0 = some (0, V) ∧ V 18 0 = 0 := by
  obtain ⟨z7, hz⟩ := Option.isSome_iff_exists.mp m_below
  refine ⟨V1, ?_, by unfold V1; rw [up_self]⟩
  unfold f_X7_check qj2
  refine ql2_u (fun R => ?_)
  rw [if_pos (show V0 9 0 ≤ 0 by decide +kernel), jn_n, if_pos rfl]
  dsimp only
  rw [can0, bn_n]
  dsimp only
  rw [if_neg (show ¬ (1 : Int32) = 0 by decide), m_double, bn_n]
  dsimp only
  rw [hz, bn_n]
  unfold qj3
  refine ql3_ind (a := fun _ => (10000 * 0 : Int32)) (b := fun i => nI (i + 1)) (c := fun _ => V1) (N := 31) (fun k hk R => ?_) (fun R => ?_) 31 4096 0 rfl (by decide)
  · show (if (32 : Int32) ≤ nI (k + 1) then _ else _) = _
    rw [if_neg (show ¬ (32 : Int32) ≤ nI (k + 1) from nI_ge (b := 32) (by omega) (by decide)), m_one (k + 1) (by omega), bn_n, jn_n, if_neg (show ¬ k + 1 = 0 by omega), if_pos rfl, nI_1]
  · show (if (32 : Int32) ≤ nI (31 + 1) then _ else _) = _
    rw [if_pos (show (32 : Int32) ≤ nI (31 + 1) by decide)]
    refine ql3_ind (a := fun _ => (10000 * 0 : Int32)) (b := fun i => nI i) (c := fun _ => V1) (N := 32) (fun k hk R => ?_) (fun R => ?_) 32 4096 0 rfl (by decide)
    · show (if (32 : Int32) ≤ nI k then _ else _) = _
      rw [if_neg (show ¬ (32 : Int32) ≤ nI k from nI_ge (b := 32) hk (by decide)), m_one k hk, bn_n, jn_n]
      by_cases hk0 : k = 0
      · subst hk0
        rw [if_pos rfl, if_neg (show ¬ (1 : Int32) = 0 by decide), show nI 0 = 0 by decide, at00, bn_n, chk_t (show inb (0 + 3) 8480 = true by decide), m_names, bn_n, show ((0 : Int32) + 3).toNatClampNeg = 3 by decide, if_pos rfl]
        exact congrArg (fun y => R (10000 * 0) y V1) (by decide : (0 : Int32) + 1 = nI 1)
      · rw [if_neg hk0, if_pos rfl, nI_1]
    · show (if (32 : Int32) ≤ nI 32 then _ else _) = _
      rw [if_pos (show (32 : Int32) ≤ nI 32 by decide)]
      rfl
theorem ok_check : qkb (f_L_check U0 g0) (f_X7_check V0) = true := by
  obtain ⟨U, e1⟩ := cc_check
  obtain ⟨V, e2, e3⟩ := m_check
  rw [e2]
  unfold f_L_check
  rw [e1]
  show (decide (V 18 0 = 0) && (!decide ((0 : Int32) = 0) || decide (lg_cmp (setL g0 (0 : Int32).toInt64 (0 : Int32).toNatClampNeg) (0 : Int32).toInt64 = 0))) = true
  rw [e3]
  decide
