-- nothing is mended on the fresh object
theorem ql5_ind {A1 A2 A3 A4 A5 B : Type} {F : (A1 → A2 → A3 → A4 → A5 → Option B) → A1 → A2 → A3 → A4 → A5 → Option B} {a1 : Nat → A1} {a2 : Nat → A2} {a3 : Nat → A3} {a4 : Nat → A4} {a5 : Nat → A5} {N : Nat} {r : Option B} (hs : ∀ i, i < N → ∀ R : A1 → A2 → A3 → A4 → A5 → Option B, F R (a1 i) (a2 i) (a3 i) (a4 i) (a5 i) = R (a1 (i + 1)) (a2 (i + 1)) (a3 (i + 1)) (a4 (i + 1)) (a5 (i + 1))) (he : ∀ R : A1 → A2 → A3 → A4 → A5 → Option B, F R (a1 N) (a2 N) (a3 N) (a4 N) (a5 N) = r) : ∀ n m i, i + n = N → n < m → ql5 F m (a1 i) (a2 i) (a3 i) (a4 i) (a5 i) = r := by
  intro n
  induction n with
  | zero =>
    intro m i hi hm
    obtain ⟨m, rfl⟩ : ∃ k, m = k + 1 := ⟨m - 1, by omega⟩
    have : i = N := by omega
    subst this
    exact he _
  | succ n ih =>
    intro m i hi hm
    obtain ⟨m, rfl⟩ : ∃ k, m = k + 1 := ⟨m - 1, by omega⟩
    show F (ql5 F m) (a1 i) (a2 i) (a3 i) (a4 i) (a5 i) = r
    rw [hs i (by omega)]
    exact ih m (i + 1) (by omega) (by omega)
theorem ql6_ind {A1 A2 A3 A4 A5 A6 B : Type} {F : (A1 → A2 → A3 → A4 → A5 → A6 → Option B) → A1 → A2 → A3 → A4 → A5 → A6 → Option B} {a1 : Nat → A1} {a2 : Nat → A2} {a3 : Nat → A3} {a4 : Nat → A4} {a5 : Nat → A5} {a6 : Nat → A6} {N : Nat} {r : Option B} (hs : ∀ i, i < N → ∀ R : A1 → A2 → A3 → A4 → A5 → A6 → Option B, F R (a1 i) (a2 i) (a3 i) (a4 i) (a5 i) (a6 i) = R (a1 (i + 1)) (a2 (i + 1)) (a3 (i + 1)) (a4 (i + 1)) (a5 (i + 1)) (a6 (i + 1))) (he : ∀ R : A1 → A2 → A3 → A4 → A5 → A6 → Option B, F R (a1 N) (a2 N) (a3 N) (a4 N) (a5 N) (a6 N) = r) : ∀ n m i, i + n = N → n < m → ql6 F m (a1 i) (a2 i) (a3 i) (a4 i) (a5 i) (a6 i) = r := by
  intro n
  induction n with
  | zero =>
    intro m i hi hm
    obtain ⟨m, rfl⟩ : ∃ k, m = k + 1 := ⟨m - 1, by omega⟩
    have : i = N := by omega
    subst this
    exact he _
  | succ n ih =>
    intro m i hi hm
    obtain ⟨m, rfl⟩ : ∃ k, m = k + 1 := ⟨m - 1, by omega⟩
    show F (ql6 F m) (a1 i) (a2 i) (a3 i) (a4 i) (a5 i) (a6 i) = r
    rw [hs i (by omega)]
    exact ih m (i + 1) (by omega) (by omega)
theorem ql5_u {A1 A2 A3 A4 A5 B : Type} {F : (A1 → A2 → A3 → A4 → A5 → Option B) → A1 → A2 → A3 → A4 → A5 → Option B} {x1 : A1} {x2 : A2} {x3 : A3} {x4 : A4} {x5 : A5} {r : Option B} (h : ∀ R, F R x1 x2 x3 x4 x5 = r) : ql5 F 4096 x1 x2 x3 x4 x5 = r := h _
theorem ql6_u {A1 A2 A3 A4 A5 A6 B : Type} {F : (A1 → A2 → A3 → A4 → A5 → A6 → Option B) → A1 → A2 → A3 → A4 → A5 → A6 → Option B} {x1 : A1} {x2 : A2} {x3 : A3} {x4 : A4} {x5 : A5} {x6 : A6} {r : Option B} (h : ∀ R, F R x1 x2 x3 x4 x5 x6 = r) : ql6 F 4096 x1 x2 x3 x4 x5 x6 = r := h _
theorem ql2_exg {A1 A2 B : Type} {F : (A1 → A2 → Option B) → A1 → A2 → Option B} {P : Nat → A1 → A2 → Prop} {Q : B → Prop} {T : Option B → Prop} (hT : ∀ r, Q r → T (some r)) (hs : ∀ d a b, P d a b → (∃ r, Q r ∧ ∀ R : A1 → A2 → Option B, F R a b = some r) ∨ (∃ d' a' b', d' < d ∧ P d' a' b' ∧ ∀ R : A1 → A2 → Option B, F R a b = R a' b')) (d m : Nat) (a : A1) (b : A2) (hP : P d a b) (hd : d < m) : T (ql2 F m a b) := by
  obtain ⟨r, hr, e⟩ := ql2_ex hs d m a b hP hd
  rw [e]
  exact hT r hr
theorem upc_self (U : S2) (k : Nat) (f : S1) : upc U k f k = f := by
  unfold upc
  rw [show Nat.beq k k = true from Nat.beq_refl k]
  rfl
theorem upc3 (U : S2) (a b c : S1) : upc (upc (upc U 10 a) 1 b) 8 c 10 = a ∧ upc (upc (upc U 10 a) 1 b) 8 c 1 = b ∧ upc (upc (upc U 10 a) 1 b) 8 c 8 = c := ⟨by rw [upc_ne _ _ (show 10 ≠ 8 by decide), upc_ne _ _ (show 10 ≠ 1 by decide), upc_self], by rw [upc_ne _ _ (show 1 ≠ 8 by decide), upc_self], upc_self _ _ _⟩
theorem ql2_2 {A1 A2 B : Type} {F : (A1 → A2 → Option B) → A1 → A2 → Option B} {x1 y1 : A1} {x2 y2 : A2} {r : Option B} (h1 : ∀ R, F R x1 x2 = R y1 y2) (h2 : ∀ R, F R y1 y2 = r) : ql2 F 4096 x1 x2 = r := (h1 _).trans (h2 _)
theorem noblock : ∀ k, k < 32 → ∀ i, i < 16 → f_X4_blockOf (U0 1) (nI k) (nI i) = some (-1) := by decide +kernel
theorem seen_neg (u : S1) : f_X1_isSeenAgain u (-1) = some (0, u) := by
  unfold f_X1_isSeenAgain
  dsimp only [jn]
  rw [if_pos (show (-1 : Int32) < 0 by decide)]
theorem cc_pages : ∃ w, f_X1_mendPages (U0 10) (U0 1) (U0 8) = some (0, w, U0 1, U0 8) := by
  unfold f_X1_mendPages qj2
  refine ql2_exg (T := fun o => ∃ w, o = some (0, w, U0 1, U0 8)) (Q := fun (r : Int32 × S1 × S1 × S1) => ∃ w, r = (0, w, U0 1, U0 8)) (P := fun (d : Nat) (y : Int32) (_ : S1) => ∃ i : Nat, y = nI i ∧ i + d = 64) (fun r h => by obtain ⟨w, rfl⟩ := h; exact ⟨w, rfl⟩) ?_ 64 4096 0 (U0 10) ⟨0, rfl, rfl⟩ (by decide)
  · rintro d y u ⟨i, rfl, hd⟩
    cases d with
    | zero =>
      have : i = 64 := by omega
      subst this
      refine Or.inl ⟨(0, u, U0 1, U0 8), ⟨u, rfl⟩, fun R => ?_⟩
      rw [if_pos (show (64 : Int32) ≤ nI 64 by decide)]
      unfold qj5
      refine ql5_ind (a1 := fun _ => (0 : Int32)) (a2 := fun i => nI i) (a3 := fun _ => u) (a4 := fun _ => U0 1) (a5 := fun _ => U0 8) (N := 32) (fun k hk R => ?_) (fun R => ?_) 32 4096 0 rfl (by decide)
      · show (if (32 : Int32) ≤ nI k then _ else _) = _
        rw [if_neg (show ¬ (32 : Int32) ≤ nI k from nI_ge (b := 32) hk (by decide))]
        unfold qj6
        refine ql6_ind (a1 := fun _ => (0 : Int32)) (a2 := fun _ => nI k) (a3 := fun i => nI i) (a4 := fun _ => u) (a5 := fun _ => U0 1) (a6 := fun _ => U0 8) (N := 16) (fun i hi R2 => ?_) (fun R2 => ?_) 16 4096 0 rfl (by decide)
        · show (if (16 : Int32) ≤ nI i then _ else _) = _
          rw [if_neg (show ¬ (16 : Int32) ≤ nI i from nI_ge (b := 16) hi (by decide)), noblock k hk i hi]
          dsimp only [bn_s]
          rw [seen_neg]
          dsimp only [bn_s, jn]
          rw [if_pos rfl, nI_1]
        · show (if (16 : Int32) ≤ nI 16 then _ else _) = _
          rw [if_pos (show (16 : Int32) ≤ nI 16 by decide), nI_1]
      · show (if (32 : Int32) ≤ nI 32 then _ else _) = _
        rw [if_pos (show (32 : Int32) ≤ nI 32 by decide)]
    | succ d =>
      refine Or.inr ⟨d, nI i + 1, stz u 0 (nI i) 0, by omega, ⟨i + 1, nI_1 i, by omega⟩, fun R => ?_⟩
      rw [if_neg (show ¬ (64 : Int32) ≤ nI i from nI_ge (b := 64) (by omega) (by decide)), chk_t (inb_nI (by omega) (by decide))]
      rfl
theorem z0c : (0 : Int32).toNatClampNeg = 0 := by decide
theorem reach0 {u : S1} (h1 : u 1 0 = 0) (h3 : u 3 0 = 0) : ∃ z, f_X1_reach u 0 = some z ∧ z 1 0 = 1 ∧ z 3 0 = 1 ∧ z 2 0 = 0 := by
  refine ⟨up (st (stz u 1 0 1) 2 0 0) 3 (fun _ => (st (stz u 1 0 1) 2 0 0) 3 0 + 1), ?_, ?_, ?_, ?_⟩
  · unfold f_X1_reach
    dsimp only [jn]
    rw [if_neg (show ¬ (0 : Int32) < 0 by decide), if_neg (show ¬ (32 : Int32) ≤ 0 by decide), chk_t (show inb 0 32 = true by decide), z0c, if_pos h1, h3, if_neg (show ¬ (0 : Int32) < 0 by decide), if_neg (show ¬ (32 : Int32) ≤ 0 by decide), chk_t (show inb 0 32 = true by decide)]
    dsimp only [bv]
    rw [show (stz u 1 0 1) 3 0 = 0 from h3, chk_t (show inb 0 32 = true by decide)]
  · show upd (u 1) (0 : Int32).toNatClampNeg (vp_nar .boolean 1) 0 = 1
    rw [z0c]
    unfold upd
    rw [if_pos rfl]
    decide
  · show u 3 0 + 1 = 1
    rw [h3]
    decide
  · show upd (u 2) (0 : Int32).toNatClampNeg 0 0 = 0
    rw [z0c]
    unfold upd
    rw [if_pos rfl]
theorem root_size : f_X4_sizeOf (U0 1) 0 = some 0 := by decide +kernel
theorem cc_reach (u : S1) : ∃ z, f_X1_reachAll u (U0 1) = some z ∧ z 1 0 = 1 := by
  unfold f_X1_reachAll qj2
  refine ql2_exg (T := fun o => ∃ z, o = some z ∧ z 1 0 = 1) (Q := fun (z : S1) => z 1 0 = 1) (P := fun (d : Nat) (y : Int32) (u : S1) => ∃ i : Nat, y = nI i ∧ i + d = 32 ∧ (0 < i → u 1 0 = 0)) (fun r h => ⟨r, rfl, h⟩) ?_ 32 4096 0 u ⟨0, rfl, rfl, fun h => absurd h (by decide)⟩ (by decide)
  · rintro d y u ⟨i, rfl, hd, hu⟩
    cases d with
    | zero =>
      have : i = 32 := by omega
      subst this
      obtain ⟨z, e1, e2, e3, e4⟩ := reach0 (u := up u 3 (fun _ => 0)) (hu (by decide)) rfl
      refine Or.inl ⟨z, e2, fun R => ?_⟩
      rw [if_pos (show (32 : Int32) ≤ nI 32 by decide)]
      dsimp only [bv]
      rw [e1]
      dsimp only [bn_s]
      refine ql2_2 (y1 := 0 + 1) (y2 := z) (fun R2 => ?_) (fun R2 => ?_)
      · dsimp only [jn]
        rw [e3, if_neg (show ¬ (1 : Int32) ≤ 0 by decide), if_neg (show ¬ (32 : Int32) ≤ 0 by decide), chk_t (show inb 0 32 = true by decide), z0c, e4, root_size]
        dsimp only [bn_s]
        unfold qj4
        refine ql4_u (fun R3 => ?_)
        rw [if_pos (show (0 : Int32) ≤ 0 by decide)]
      · dsimp only [jn]
        rw [e3, if_pos (show (1 : Int32) ≤ 0 + 1 by decide)]
    | succ d =>
      refine Or.inr ⟨d, nI i + 1, stz u 1 (nI i) 0, by omega, ⟨i + 1, nI_1 i, by omega, fun _ => ?_⟩, fun R => ?_⟩
      · show upd (u 1) (nI i).toNatClampNeg (vp_nar .boolean 0) 0 = 0
        rw [nI_clamp (by omega)]
        unfold upd
        by_cases e : 0 = i
        · rw [if_pos e]
          decide
        · rw [if_neg e]
          exact hu (by omega)
      · rw [if_neg (show ¬ (32 : Int32) ≤ nI i from nI_ge (b := 32) (by omega) (by decide)), chk_t (inb_nI (by omega) (by decide))]
        rfl
theorem one_thing : ∀ i, i < 32 → f_X4_isThing (U0 1) (nI i) = some (if i = 0 then 1 else 0) := by decide +kernel
theorem cc_things (u : S1) : ∃ w, f_X1_mendThings u (U0 1) (U0 8) = some (0, w, U0 1, U0 8) := by
  obtain ⟨z, e1, e2⟩ := cc_reach u
  refine ⟨z, ?_⟩
  unfold f_X1_mendThings
  rw [e1]
  dsimp only [bn_s]
  unfold qj5
  refine ql5_ind (a1 := fun _ => (0 : Int32)) (a2 := fun i => nI i) (a3 := fun _ => z) (a4 := fun _ => U0 1) (a5 := fun _ => U0 8) (N := 32) (fun k hk R => ?_) (fun R => ?_) 32 4096 0 rfl (by decide)
  · show (if (32 : Int32) ≤ nI k then _ else _) = _
    rw [if_neg (show ¬ (32 : Int32) ≤ nI k from nI_ge (b := 32) hk (by decide)), one_thing k hk]
    dsimp only [bn_s, jn]
    by_cases hk0 : k = 0
    · subst hk0
      rw [if_pos rfl, if_neg (show ¬ (1 : Int32) = 0 by decide), chk_t (show inb (nI 0) 32 = true by decide), show (nI 0).toNatClampNeg = 0 by decide, e2, if_neg (show ¬ (1 : Int32) = 0 by decide), nI_1]
    · rw [if_neg hk0, if_pos rfl, nI_1]
  · show (if (32 : Int32) ≤ nI 32 then _ else _) = _
    rw [if_pos (show (32 : Int32) ≤ nI 32 by decide)]
theorem no_sizes : ∀ k, k < 32 → (U0 1) 5 (nI k).toNatClampNeg = 0 := by decide +kernel
theorem cc_count (x : Int32) : f_X4_countEntriesOf (U0 1) x = some 0 := by
  unfold f_X4_countEntriesOf qj2
  refine ql2_ind (a := fun _ => (0 : Int32)) (b := fun i => nI i) (N := 32) (fun k hk R => ?_) (fun R => ?_) 32 4096 0 rfl (by decide)
  · show (if (32 : Int32) ≤ nI k then _ else _) = _
    rw [if_neg (show ¬ (32 : Int32) ≤ nI k from nI_ge (b := 32) hk (by decide))]
    unfold qj3
    refine ql3_u (fun R3 => ?_)
    rw [chk_t (inb_nI hk (by decide)), no_sizes k hk, if_pos (show (0 : Int32) ≤ 0 by decide), nI_1]
  · show (if (32 : Int32) ≤ nI 32 then _ else _) = _
    rw [if_pos (show (32 : Int32) ≤ nI 32 by decide)]
theorem root_count : f_X4_countOf (U0 1) 0 = some 0 := by decide +kernel
theorem cc_counts (u : S1) : f_X1_mendCounts u (U0 1) = some (0, U0 1) := by
  unfold f_X1_mendCounts qj3
  refine ql3_ind (a := fun _ => (0 : Int32)) (b := fun i => nI i) (c := fun _ => U0 1) (N := 32) (fun k hk R => ?_) (fun R => ?_) 32 4096 0 rfl (by decide)
  · show (if (32 : Int32) ≤ nI k then _ else _) = _
    rw [if_neg (show ¬ (32 : Int32) ≤ nI k from nI_ge (b := 32) hk (by decide)), cc_count]
    dsimp only [bn_s]
    rw [one_thing k hk]
    dsimp only [bn_s, jn]
    by_cases hk0 : k = 0
    · subst hk0
      rw [if_pos rfl, if_neg (show ¬ (1 : Int32) = 0 by decide), show nI 0 = 0 by decide, root_count]
      dsimp only [bn_s]
      rw [if_pos rfl]
      exact congrArg (fun y => R 0 y (U0 1)) (by decide : (0 : Int32) + 1 = nI 1)
    · rw [if_neg hk0, if_pos rfl, nI_1]
  · show (if (32 : Int32) ≤ nI 32 then _ else _) = _
    rw [if_pos (show (32 : Int32) ≤ nI 32 by decide)]
theorem none_open : f_X3_isAnyOpen (U0 9) = some 0 := by decide +kernel
theorem cc_check : ∃ U, f_X6_check U0 = some (0, 0, U) := by
  obtain ⟨w, e1⟩ := cc_pages
  obtain ⟨w2, e2⟩ := cc_things w
  unfold f_X6_check
  rw [none_open, bn_n, if_pos rfl, e1, bn_n]
  dsimp only
  rw [bv_n, (upc3 U0 w (U0 1) (U0 8)).1, (upc3 U0 w (U0 1) (U0 8)).2.1, (upc3 U0 w (U0 1) (U0 8)).2.2, e2, bn_n]
  dsimp only
  rw [bv_n, (upc3 _ w2 (U0 1) (U0 8)).1, (upc3 _ w2 (U0 1) (U0 8)).2.1, cc_counts, bn_n, bv_n]
  exact ⟨_, rfl⟩
