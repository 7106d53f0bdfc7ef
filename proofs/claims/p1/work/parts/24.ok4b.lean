-- the reference
theorem at01 : f_X7_at 0 1 = some 53 := by decide +kernel
theorem facts7 : f_X7_entries V0 0 0 = some 0 ∧ f_X7_lowest V0 = some 1 ∧ (f_X7_may V0 0 1) = some 1 ∧ V0 0 5 = -1 := by decide +kernel
theorem mentries0 {V : S1} (h5 : V 0 5 = -1) : f_X7_entries V 0 0 = some 0 := by
  unfold f_X7_entries qj1
  refine ql1_u (fun R => ?_)
  dsimp only [jn]
  rw [if_neg (show ¬ (8 : Int32) ≤ 0 by decide), at00]
  dsimp only [bn_s]
  rw [chk_t (show inb ((0 + 5) + 0) 8480 = true by decide), show (((0 : Int32) + 5) + 0).toNatClampNeg = 5 by decide, if_pos h5]
theorem mlowest {V : S1} (h0 : V 0 = V0 0) : f_X7_lowest V = some 1 := by
  rw [← facts7.2.1]
  unfold f_X7_lowest f_X7_isThing f_X7_isThere
  rw [h0]
theorem mmay {V : S1} (h0 : V 0 = V0 0) (h7 : V 7 = V0 7) : f_X7_may V 0 1 = some 1 := by
  rw [← facts7.2.2.1]
  unfold f_X7_may
  rw [h0, h7]
theorem mcan {V : S1} (h0 : V 0 = V0 0) (h7 : V 7 = V0 7) (x : Int32) : f_X7_canEnter V 0 x = some 1 := by
  unfold f_X7_canEnter f_X7_mayChange
  rw [mplace h0, mentries0 (by rw [h0]; exact facts7.2.2.2), mmay h0 h7]
  rfl
theorem st_lo {w : S1} {i m : Nat} (x : Int32) (h : i < m) (hm : m < 2 ^ 31) : (st w 0 (nI m) x) 0 i = w 0 i := by
  show upd (w 0) (nI m).toNatClampNeg x i = w 0 i
  rw [nI_clamp hm]
  unfold upd
  first | rw [if_neg (show ¬ i = m by omega)] | rw [if_neg (show ¬ m = i by omega)] | (simp; omega)
def kp (V w : S1) : Prop := (∀ i, i < 53 → w 0 i = V 0 i) ∧ w 18 = V 18
theorem kp_st {V w : S1} (h : kp V w) {m : Nat} (x : Int32) (h1 : 53 ≤ m) (hm : m < 2 ^ 31) : kp V (st w 0 (nI m) x) := ⟨fun i hi => (st_lo x (by omega) hm).trans (h.1 i hi), h.2⟩
theorem ex_R {A B : Type} {X : Option B} {Q : B → Prop} {H : A → Option B} (h : ∀ R, H R = X) (hx : ∃ r, Q r ∧ X = some r) : ∃ r, Q r ∧ ∀ R, H R = some r := by
  obtain ⟨r, hr, e⟩ := hx
  exact ⟨r, hr, fun R => (h R).trans e⟩
theorem mmakes (V : S1) (k r p : Int32) : ∃ V', kp V V' ∧ f_X7_makes V 1 k r p = some V' := by
  unfold f_X7_makes
  rw [at01, bn_n, chk_t (show inb 53 8480 = true by decide), bv_n, chk_t (show inb (53 + 1) 8480 = true by decide), bv_n, chk_t (show inb (53 + 2) 8480 = true by decide), bv_n, chk_t (show inb (53 + 3) 8480 = true by decide), bv_n, chk_t (show inb (53 + 4) 8480 = true by decide), bv_n]
  rw [show (53 : Int32) + 1 = nI 54 by decide, show (53 : Int32) + 2 = nI 55 by decide, show (53 : Int32) + 3 = nI 56 by decide, show (53 : Int32) + 4 = nI 57 by decide]
  have k0 : kp V V := ⟨fun _ _ => rfl, rfl⟩
  have k1 : ∀ a1 a2 a3 a4 a5, kp V (st (st (st (st (st V 0 53 a1) 0 (nI 54) a2) 0 (nI 55) a3) 0 (nI 56) a4) 0 (nI 57) a5) := fun a1 a2 a3 a4 a5 => kp_st (kp_st (kp_st (kp_st (kp_st (m := 53) k0 a1 (by decide) (by decide)) a2 (by decide) (by decide)) a3 (by decide) (by decide)) a4 (by decide) (by decide)) a5 (by decide) (by decide)
  unfold qj2
  refine ql2_ex (Q := kp V) (P := fun (d : Nat) (y : Int32) (w : S1) => ∃ i : Nat, y = nI i ∧ i + d = 8 ∧ kp V w) ?_ 8 4096 0 _ ⟨0, rfl, rfl, k1 _ _ _ _ _⟩ (by decide)
  rintro d y w ⟨i, rfl, hd, hw⟩
  cases d with
  | zero =>
    have : i = 8 := by omega
    subst this
    refine Or.inl (ex_R (fun R => if_pos (show (8 : Int32) ≤ nI 8 by decide)) ?_)
    refine ql2_ex (Q := kp V) (P := fun (d : Nat) (y : Int32) (w : S1) => ∃ i : Nat, y = nI i ∧ i + d = 16 ∧ kp V w) ?_ 16 4096 0 w ⟨0, rfl, rfl, hw⟩ (by decide)
    rintro d y w ⟨i, rfl, hd, hw⟩
    cases d with
    | zero =>
      have : i = 16 := by omega
      subst this
      refine Or.inl ⟨stz w 6 1 0, hw, fun R => ?_⟩
      rw [if_pos (show (16 : Int32) ≤ nI 16 by decide), chk_t (show inb 1 32 = true by decide), bv_n]
    | succ d =>
      have e1 : (53 : Int32) + 21 + nI i = nI (74 + i) := by rw [show (53 : Int32) + 21 = nI 74 by decide, nI_add]
      have e2 : (53 : Int32) + 37 + nI i = nI (90 + i) := by rw [show (53 : Int32) + 37 = nI 90 by decide, nI_add]
      refine Or.inr ⟨d, nI (i + 1), st (st w 0 (nI (74 + i)) (-1)) 0 (nI (90 + i)) 0, by omega, ⟨i + 1, rfl, by omega, kp_st (kp_st hw _ (by omega) (by omega)) _ (by omega) (by omega)⟩, fun R => ?_⟩
      rw [if_neg (show ¬ (16 : Int32) ≤ nI i from nI_ge (b := 16) (by omega) (by decide)), e1, e2, chk_t (inb_nI (by omega) (by decide)), bv_n, chk_t (inb_nI (by omega) (by decide)), bv_n, nI_1]
  | succ d =>
    have e1 : (53 : Int32) + 5 + nI i = nI (58 + i) := by rw [show (53 : Int32) + 5 = nI 58 by decide, nI_add]
    have e2 : (53 : Int32) + 13 + nI i = nI (66 + i) := by rw [show (53 : Int32) + 13 = nI 66 by decide, nI_add]
    refine Or.inr ⟨d, nI (i + 1), st (st w 0 (nI (58 + i)) (-1)) 0 (nI (66 + i)) (-1), by omega, ⟨i + 1, rfl, by omega, kp_st (kp_st hw _ (by omega) (by omega)) _ (by omega) (by omega)⟩, fun R => ?_⟩
    rw [if_neg (show ¬ (8 : Int32) ≤ nI i from nI_ge (b := 8) (by omega) (by decide)), e1, e2, chk_t (inb_nI (by omega) (by decide)), bv_n, chk_t (inb_nI (by omega) (by decide)), bv_n, nI_1]
theorem menters {V : S1} (h5 : V 0 5 = -1) (x : Int32) : ∃ V', f_X7_enters V 0 x 1 = some V' ∧ V' 18 = V 18 := by
  refine ⟨st (st V 0 ((0 + 5) + 0) x) 0 ((0 + 13) + 0) 1, ?_, ?_⟩
  · unfold f_X7_enters
    rw [at00, bn_n, mentries0 h5, bn_n]
    unfold qj2
    refine ql2_u (fun R => ?_)
    rw [jn_n, if_pos (show (0 : Int32) ≤ 0 by decide), chk_t (show inb ((0 + 5) + 0) 8480 = true by decide), bv_n, chk_t (show inb ((0 + 13) + 0) 8480 = true by decide), bv_n]
  · unfold st
    rw [up_ne _ _ (show 18 ≠ 0 by decide), up_ne _ _ (show 18 ≠ 0 by decide)]
