-- THE FRESH OBJECT
def U0 : S2 := (f_X6_init).getD (fun _ _ _ => 0)
def V0 : S1 := (f_X7_init).getD z0
def g0 : Nat → Int64 := fun _ => 0
set_option maxRecDepth 100000 in
theorem s6 : f_X6_init.isSome = true := by decide +kernel
set_option maxRecDepth 100000 in
theorem s7 : f_X7_init.isSome = true := by decide +kernel
theorem h6 : f_X6_init = some U0 := by
  obtain ⟨x, hx⟩ := Option.isSome_iff_exists.mp s6
  rw [hx]
  unfold U0
  rw [hx]
  rfl
theorem h7 : f_X7_init = some V0 := by
  obtain ⟨x, hx⟩ := Option.isSome_iff_exists.mp s7
  rw [hx]
  unfold V0
  rw [hx]
  rfl
def qkb (oL : Option (Int32 × S2 × (Nat → Int64))) (oM : Option (Int32 × S1)) : Bool := match oL, oM with
  | some z1, some z2 => decide (z2.2 18 0 = z1.1) && (!decide (z1.1 = 0) || decide (lg_cmp (z1.2.2 (0 : Int32).toNatClampNeg) z2.1.toInt64 = 0))
  | _, _ => false
def qkc (oL : Option (Int32 × S2 × (Nat → Int64))) (oM : Option (Int32 × S1)) : Bool := match oL, oM with
  | some z1, some z2 => decide (z2.2 18 0 = z1.1) && (!decide (z1.1 = 0) || decide (lg_cmp (z1.2.2 (0 : Int32).toNatClampNeg) (cond (decide (z2.1 = 0)) 0 1) = 0))
  | _, _ => false
theorem qkc_spec {oL : Option (Int32 × S2 × (Nat → Int64))} {oM : Option (Int32 × S1)} (h : qkc oL oM = true) : ∃ z1 z2, oL = some z1 ∧ oM = some z2 ∧ z2.2 18 0 = z1.1 ∧ (z1.1 = 0 → lg_cmp (z1.2.2 (0 : Int32).toNatClampNeg) (cond (decide (z2.1 = 0)) 0 1) = 0) := by
  cases oL with
  | none => cases h
  | some z1 =>
    cases oM with
    | none => cases h
    | some z2 =>
      simp only [qkc, Bool.and_eq_true, Bool.or_eq_true, Bool.not_eq_true', decide_eq_true_eq, decide_eq_false_iff_not] at h
      exact ⟨z1, z2, rfl, rfl, h.1, fun hz => h.2.elim (fun q => absurd hz q) id⟩
def qkd (oL : Option (Int32 × S2)) (oM : Option S1) : Bool := match oL, oM with
  | some z1, some z2 => decide (z2 18 0 = z1.1)
  | _, _ => false
theorem qkb_spec {oL : Option (Int32 × S2 × (Nat → Int64))} {oM : Option (Int32 × S1)} (h : qkb oL oM = true) : ∃ z1 z2, oL = some z1 ∧ oM = some z2 ∧ z2.2 18 0 = z1.1 ∧ (z1.1 = 0 → lg_cmp (z1.2.2 (0 : Int32).toNatClampNeg) z2.1.toInt64 = 0) := by
  cases oL with
  | none => cases h
  | some z1 =>
    cases oM with
    | none => cases h
    | some z2 =>
      simp only [qkb, Bool.and_eq_true, Bool.or_eq_true, Bool.not_eq_true', decide_eq_true_eq, decide_eq_false_iff_not] at h
      exact ⟨z1, z2, rfl, rfl, h.1, fun hz => h.2.elim (fun q => absurd hz q) id⟩
theorem qkd_spec {oL : Option (Int32 × S2)} {oM : Option S1} (h : qkd oL oM = true) : ∃ z1 z2, oL = some z1 ∧ oM = some z2 ∧ z2 18 0 = z1.1 := by
  cases oL with
  | none => cases h
  | some z1 =>
    cases oM with
    | none => cases h
    | some z2 => exact ⟨z1, z2, rfl, rfl, by simpa [qkd] using h⟩
def bz (x : Int32) : Int32 := if x = 0 then 0 else 1
theorem th_some (V : S1) : f_X7_thrown V = some (V 18 0) := rfl
theorem ix1 : ((0 : Int32) + 1).toNatClampNeg = 1 := by decide
theorem ix2 : ((0 : Int32) + 2).toNatClampNeg = 2 := by decide
theorem ix3 : ((0 : Int32) + 3).toNatClampNeg = 3 := by decide
theorem ix4 : ((0 : Int32) + 4).toNatClampNeg = 4 := by decide
theorem in1 : inb ((0 : Int32) + 1) 5 = true := by decide
theorem in2 : inb ((0 : Int32) + 2) 5 = true := by decide
theorem in3 : inb ((0 : Int32) + 3) 5 = true := by decide
theorem in4 : inb ((0 : Int32) + 4) 5 = true := by decide
theorem chk_t {β : Type} {b : Bool} {k : Option β} (h : b = true) : chk b k = k := by rw [h]; rfl
theorem bn_t {α β : Type} {o : Option α} {a : α} {k : α → Option β} (h : o = some a) : bn o k = k a := by rw [h]; rfl
