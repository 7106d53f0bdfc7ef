-- loops that do nothing but count
theorem ql3_ind {A1 A2 A3 B : Type} {F : (A1 → A2 → A3 → Option B) → A1 → A2 → A3 → Option B} {a : Nat → A1} {b : Nat → A2} {c : Nat → A3} {N : Nat} {r : Option B} (hs : ∀ i, i < N → ∀ R : A1 → A2 → A3 → Option B, F R (a i) (b i) (c i) = R (a (i + 1)) (b (i + 1)) (c (i + 1))) (he : ∀ R : A1 → A2 → A3 → Option B, F R (a N) (b N) (c N) = r) : ∀ n m i, i + n = N → n < m → ql3 F m (a i) (b i) (c i) = r := by
  intro n
  induction n with
  | zero =>
    intro m i hi hm
    obtain ⟨m, rfl⟩ : ∃ k, m = k + 1 := ⟨m - 1, by omega⟩
    have : i = N := by omega
    subst this
    exact he _
  | succ n ih =>
    intro m i hi hm
    obtain ⟨m, rfl⟩ : ∃ k, m = k + 1 := ⟨m - 1, by omega⟩
    show F (ql3 F m) (a i) (b i) (c i) = r
    rw [hs i (by omega)]
    exact ih m (i + 1) (by omega) (by omega)
theorem dirty0 : ∀ k, k < 32 → ∀ i, i < 16 → f_X0_isDirty (U0 8) (nI k) (nI i) = some 0 := by decide +kernel
theorem fl_thing {k : Nat} (hk : k < 32) {x : Int32} (hx : ¬ x ≤ 0) : f_X6_flushThing U0 (nI k) x = some (0, U0) := by
  unfold f_X6_flushThing qj3
  refine ql3_ind (a := fun _ => (0 : Int32)) (b := fun i => nI i) (c := fun _ => U0) (N := 16) (fun i hi R => ?_) (fun R => ?_) 16 4096 0 rfl (by decide)
  · have h1 : ¬ (16 : Int32) ≤ nI i := nI_ge (b := 16) hi (by decide)
    show (jn (some ((0 : Int32), U0)) _ : Option (Int32 × S2)) = _
    dsimp only [jn]
    rw [if_neg h1, if_neg hx, dirty0 k hk i hi]
    simp only [bn_s, if_true, nI_1]
  · dsimp only [jn]
    rw [if_pos (show (16 : Int32) ≤ nI 16 by decide)]
theorem fl_first {x : Int32} (hx : ¬ x ≤ 0) : f_X6_flushFirst U0 x = some (0, U0) := by
  unfold f_X6_flushFirst qj3
  refine ql3_ind (a := fun _ => (0 : Int32)) (b := fun i => nI i) (c := fun _ => U0) (N := 32) (fun i hi R => ?_) (fun R => ?_) 32 4096 0 rfl (by decide)
  · have h1 : ¬ (32 : Int32) ≤ nI i := nI_ge (b := 32) hi (by decide)
    have h2 : x - 0 = x := Int32.sub_zero x
    dsimp only [jn]
    rw [if_neg h1, if_neg hx, h2, fl_thing hi hx]
    simp only [bn_s, nI_1]
    rfl
  · dsimp only [jn]
    rw [if_pos (show (32 : Int32) ≤ nI 32 by decide)]
theorem mdirty0 : ∀ i, i < 512 → V0 4 i = 0 := by decide +kernel
theorem mfl {V : S1} (h4 : V 4 = V0 4) {x : Int32} (hx : ¬ x ≤ 0) : f_X7_flushesAll V 0 512 x = some (0, V) := by
  unfold f_X7_flushesAll qj3
  refine ql3_ind (a := fun _ => (0 : Int32)) (b := fun i => nI i) (c := fun _ => V) (N := 512) (fun i hi R => ?_) (fun R => ?_) 512 4096 0 rfl (by decide)
  · have h1 : ¬ (512 : Int32) ≤ nI i := nI_ge (b := 512) hi (by decide)
    have h2 : inb (nI i) 512 = true := by
      have e := nI_toInt (n := i) (by omega)
      simp only [inb, e, Bool.and_eq_true, decide_eq_true_eq]
      omega
    have h3 : V 4 (nI i).toNatClampNeg = 0 := by rw [h4, nI_clamp (by omega)]; exact mdirty0 i hi
    dsimp only [jn]
    rw [if_neg h1, if_neg hx, chk_t h2, if_pos h3, nI_1]
  · dsimp only [jn]
    rw [if_pos (show (512 : Int32) ≤ nI 512 by decide)]
theorem up_ne (u : S1) {k c : Nat} (f : Nat → Int32) (h : c ≠ k) : up u k f c = u c := by
  unfold up
  rw [show Nat.beq c k = false from (by cases hb : Nat.beq c k with | false => rfl | true => exact absurd (Nat.eq_of_beq_eq_true hb) h)]
  rfl
theorem ok_flush (x : Int32) : qkb (f_L_flush U0 g0 x) (f_X7_flush V0 x) = true := by
  by_cases h1 : x < 1
  · have e : f_X7_isIn x 1 512 = some 0 := in_lo h1
    unfold f_L_flush f_X6_flush f_X7_flush
    dsimp only [jn]
    rw [if_pos h1, e]
    rfl
  · by_cases h2 : x ≤ 512
    · have e : f_X7_isIn x 1 512 = some 1 := in_yes h1 (Int32.not_lt.mpr h2)
      have h3 : ¬ x ≤ 0 := fun h => h1 (by
        have := Int32.le_iff_toInt_le.mp h
        refine Int32.lt_iff_toInt_lt.mpr ?_
        have e1 : (1 : Int32).toInt = 1 := by decide
        have e2 : (0 : Int32).toInt = 0 := by decide
        omega)
      have e2 : f_X7_flushesAll (up V0 18 (fun _ => 0)) 0 512 x = some (0, up V0 18 (fun _ => 0)) := mfl (up_ne V0 _ (by decide)) h3
      unfold f_L_flush f_X6_flush f_X7_flush f_X7_can
      dsimp only [jn, bv]
      rw [if_neg h1, if_pos h2, fl_first h3, e]
      dsimp only [bn_s]
      rw [if_neg (show ¬ (1 : Int32) = 0 by decide), if_pos rfl, if_pos rfl]
      dsimp only [bn_s]
      rw [if_neg (show ¬ vp_nar .boolean 1 = 0 by decide), e2]
      rfl
    · have e : f_X7_isIn x 1 512 = some 0 := in_hi (Int32.not_le.mp h2)
      unfold f_L_flush f_X6_flush f_X7_flush
      dsimp only [jn]
      rw [if_neg h1, if_neg h2, e]
      rfl
-- loops whose end is not told
theorem ql3_ex {A1 A2 A3 B : Type} {F : (A1 → A2 → A3 → Option B) → A1 → A2 → A3 → Option B} {P : Nat → A1 → A2 → A3 → Prop} {Q : B → Prop} (hs : ∀ d a b c, P d a b c → (∃ r, Q r ∧ ∀ R : A1 → A2 → A3 → Option B, F R a b c = some r) ∨ (∃ d' a' b' c', d' < d ∧ P d' a' b' c' ∧ ∀ R : A1 → A2 → A3 → Option B, F R a b c = R a' b' c')) : ∀ d m a b c, P d a b c → d < m → ∃ r, Q r ∧ ql3 F m a b c = some r := by
  intro d
  induction d using Nat.strongRecOn with
  | ind d ih =>
    intro m a b c hP hm
    obtain ⟨m, rfl⟩ : ∃ k, m = k + 1 := ⟨m - 1, by omega⟩
    rcases hs d a b c hP with ⟨r, hr, h⟩ | ⟨d', a', b', c', hd, hP', h⟩
    · exact ⟨r, hr, h _⟩
    · obtain ⟨r, hr, h9⟩ := ih d' hd m a' b' c' hP' (by omega)
      exact ⟨r, hr, (h _).trans h9⟩
theorem ql2_ex {A1 A2 B : Type} {F : (A1 → A2 → Option B) → A1 → A2 → Option B} {P : Nat → A1 → A2 → Prop} {Q : B → Prop} (hs : ∀ d a b, P d a b → (∃ r, Q r ∧ ∀ R : A1 → A2 → Option B, F R a b = some r) ∨ (∃ d' a' b', d' < d ∧ P d' a' b' ∧ ∀ R : A1 → A2 → Option B, F R a b = R a' b')) : ∀ d m a b, P d a b → d < m → ∃ r, Q r ∧ ql2 F m a b = some r := by
  intro d
  induction d using Nat.strongRecOn with
  | ind d ih =>
    intro m a b hP hm
    obtain ⟨m, rfl⟩ : ∃ k, m = k + 1 := ⟨m - 1, by omega⟩
    rcases hs d a b hP with ⟨r, hr, h⟩ | ⟨d', a', b', hd, hP', h⟩
    · exact ⟨r, hr, h _⟩
    · obtain ⟨r, hr, h9⟩ := ih d' hd m a' b' hP' (by omega)
      exact ⟨r, hr, (h _).trans h9⟩
theorem inb_nI {i n : Nat} (h : i < n) (hn : n < 2 ^ 31) : inb (nI i) n = true := by
  have e := nI_toInt (n := i) (by omega)
  simp only [inb, e, Bool.and_eq_true, decide_eq_true_eq]
  omega
