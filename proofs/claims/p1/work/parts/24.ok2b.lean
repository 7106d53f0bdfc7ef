-- names of a path
theorem put_names {u : S1} (hu : u 1 0 = 0) {q : Nat} (hq : 0 < q) (hq2 : q < 2 ^ 31) : ∃ u', (∃ c : Nat, 1 ≤ c ∧ c ≤ 4 ∧ u' 1 0 = nI c) ∧ f_X5_putNames u (nI q) = some u' := by
  unfold f_X5_putNames qj3
  refine ql3_ex (Q := fun (u' : S1) => ∃ c : Nat, 1 ≤ c ∧ c ≤ 4 ∧ u' 1 0 = nI c) (P := fun (d : Nat) (y j : Int32) (w : S1) => ∃ jm qn : Nat, j = nI jm ∧ y = nI qn ∧ qn < 2 ^ 31 ∧ jm + d = 4 ∧ w 1 0 = nI jm ∧ (jm = 0 → 0 < qn)) ?_ 4 4096 (nI q) 0 u ⟨0, q, rfl, rfl, hq2, rfl, hu, fun _ => hq⟩ (by decide)
  rintro d y j w ⟨jm, qn, rfl, rfl, hqn, hd, hw, h0⟩
  cases d with
  | zero =>
    have : jm = 4 := by omega
    subst this
    exact Or.inl ⟨w, ⟨4, by decide, by decide, hw⟩, fun R => by dsimp only [jn]; rw [if_pos (show (4 : Int32) ≤ nI 4 by decide)]⟩
  | succ d =>
    have h1 : ¬ (4 : Int32) ≤ nI jm := nI_ge (b := 4) (by omega) (by decide)
    by_cases hz : qn = 0
    · subst hz
      exact Or.inl ⟨w, ⟨jm, by omega, by omega, hw⟩, fun R => by dsimp only [jn]; rw [if_neg h1, if_pos (show nI 0 ≤ 0 by decide)]⟩
    · have h2 : ¬ nI qn ≤ 0 := nI_nle (by omega) hqn
      have h3 : ¬ (20 : Int32) ≤ nI jm := nI_ge (b := 20) (by omega) (by decide)
      have h4 : inb (nI jm) 20 = true := inb_nI (by omega) (by decide)
      refine Or.inr ⟨d, nI qn / 100, nI jm + 1, up (st w 0 (nI jm) (nI qn - nI qn / 100 * 100)) 1 (fun _ => nI jm + 1), by omega, ⟨jm + 1, qn / 100, nI_1 jm, pk_div (d := 100) hqn (by decide) (by decide), by omega, by omega, nI_1 jm, fun h => by omega⟩, fun R => ?_⟩
      have e : (st w 0 (nI jm) (nI qn - nI qn / 100 * 100)) 1 0 = nI jm := hw
      dsimp only [jn, bv]
      rw [if_neg h1, if_neg h2, hw, if_neg h3, chk_t h4, e]
/-- the root has no entries -/
theorem no_entry0 : f_X4_isEntry (U0 1) 0 0 = some 0 ∧ f_X4_isEntry (U0 1) (-1) 0 = some 0 ∧ f_X4_entryThing (U0 1) 0 (-1) = some (-1) ∧ f_X4_entryThing (U0 1) (-1) (-1) = some (-1) := by decide +kernel
theorem ql1_u {A B : Type} {F : (A → Option B) → A → Option B} {x : A} {r : Option B} (h : ∀ R, F R x = r) : ql1 F 4096 x = r := h _
theorem ql4_u {A1 A2 A3 A4 B : Type} {F : (A1 → A2 → A3 → A4 → Option B) → A1 → A2 → A3 → A4 → Option B} {x1 : A1} {x2 : A2} {x3 : A3} {x4 : A4} {r : Option B} (h : ∀ R, F R x1 x2 x3 x4 = r) : ql4 F 4096 x1 x2 x3 x4 = r := h _
theorem not_named (x : Int32) : f_X4_thingNamed (U0 1) 0 x = some (-1) := by
  have h : f_X4_placeOf (U0 1) 0 x = some (-1) := by
    unfold f_X4_placeOf qj1
    refine ql1_u (fun R => ?_)
    dsimp only [jn]
    rw [if_neg (show ¬ (8 : Int32) ≤ 0 by decide), no_entry0.1]
    rfl
  unfold f_X4_thingNamed
  rw [h]
  show bn (f_X4_entryThing (U0 1) 0 (-1)) _ = _
  rw [no_entry0.2.2.1]
  rfl
theorem not_named' (x : Int32) : f_X4_thingNamed (U0 1) (-1) x = some (-1) := by
  have h : f_X4_placeOf (U0 1) (-1) x = some (-1) := by
    unfold f_X4_placeOf qj1
    refine ql1_u (fun R => ?_)
    dsimp only [jn]
    rw [if_neg (show ¬ (8 : Int32) ≤ 0 by decide), no_entry0.2.1]
    rfl
  unfold f_X4_thingNamed
  rw [h]
  show bn (f_X4_entryThing (U0 1) (-1) (-1)) _ = _
  rw [no_entry0.2.2.2]
  rfl
/-- the class: a path with a name leads nowhere, on the fresh object -/
theorem walk_no (w : S1) {q : Nat} (hq : 0 < q) (hq2 : q < 2 ^ 31) (b : Int32) : ∃ w', f_X5_thingAt w (U0 1) (nI q) b = some (-1, w') := by
  obtain ⟨u', ⟨c, hc1, hc2, hc⟩, hp⟩ := put_names (u := up w 1 (fun _ => 0)) rfl hq hq2
  have h1 : ¬ nI c ≤ 0 := nI_nle (by omega) (by omega)
  have h2 : ¬ nI c < 1 := nI_nlt (b := 1) hc1 (by omega)
  have h3 : nI c ≤ 20 := nI_le (b := 20) (by omega) (by decide)
  have h4 : inb (nI c - 1) 20 = true := by
    obtain ⟨c, rfl⟩ : ∃ k, c = k + 1 := ⟨c - 1, by omega⟩
    rw [nI_pred]
    exact inb_nI (by omega) (by decide)
  have hn : ∃ z, f_X5_nextName u' = some z := by
    unfold f_X5_nextName
    dsimp only [jn, bv]
    rw [hc, if_neg h2, if_pos h3]
    rw [show (up u' 1 (fun _ => nI c - 1)) 1 0 = nI c - 1 from rfl, chk_t h4]
    exact ⟨_, rfl⟩
  obtain ⟨z, hz⟩ := hn
  refine ⟨z.2, ?_⟩
  unfold f_X5_thingAt
  dsimp only [bv]
  rw [hp]
  dsimp only [bn_s]
  unfold qj4
  refine ql4_u (fun R => ?_)
  dsimp only [jn]
  rw [if_neg (show ¬ (20 : Int32) ≤ 0 by decide), hc, if_neg h1, hz]
  dsimp only [bn_s]
  rw [not_named]
  rfl
theorem walk_root (w : S1) (b : Int32) : ∃ w', f_X5_thingAt w (U0 1) 0 b = some (0, w') := ⟨_, rfl⟩
theorem ql2_ind {A1 A2 B : Type} {F : (A1 → A2 → Option B) → A1 → A2 → Option B} {a : Nat → A1} {b : Nat → A2} {N : Nat} {r : Option B} (hs : ∀ i, i < N → ∀ R : A1 → A2 → Option B, F R (a i) (b i) = R (a (i + 1)) (b (i + 1))) (he : ∀ R : A1 → A2 → Option B, F R (a N) (b N) = r) : ∀ n m i, i + n = N → n < m → ql2 F m (a i) (b i) = r := by
  intro n
  induction n with
  | zero =>
    intro m i hi hm
    obtain ⟨m, rfl⟩ : ∃ k, m = k + 1 := ⟨m - 1, by omega⟩
    have : i = N := by omega
    subst this
    exact he _
  | succ n ih =>
    intro m i hi hm
    obtain ⟨m, rfl⟩ : ∃ k, m = k + 1 := ⟨m - 1, by omega⟩
    show F (ql2 F m) (a i) (b i) = r
    rw [hs i (by omega)]
    exact ih m (i + 1) (by omega) (by omega)
theorem ql2_u {A1 A2 B : Type} {F : (A1 → A2 → Option B) → A1 → A2 → Option B} {x1 : A1} {x2 : A2} {r : Option B} (h : ∀ R, F R x1 x2 = r) : ql2 F 4096 x1 x2 = r := h _
theorem ql3_u {A1 A2 A3 B : Type} {F : (A1 → A2 → A3 → Option B) → A1 → A2 → A3 → Option B} {x1 : A1} {x2 : A2} {x3 : A3} {r : Option B} (h : ∀ R, F R x1 x2 x3 = r) : ql3 F 4096 x1 x2 x3 = r := h _
