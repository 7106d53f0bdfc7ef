-- THE REFERENCE: names
theorem can0_ok {u : S1} {β : Type} {k : Int32 × S1 → Option β} {Q : β → Prop} (h : ∀ W, W = up u 18 (fun _ => 0) → cg_O (k (1, W)) Q) : cg_O (bn (f_X7_can u 0) k) Q := by
  have e : f_X7_can u 0 = some (1, up u 18 (fun _ => 0)) := by
    show some (vp_nar .boolean 1, up u 18 (fun _ => (0 : Int32))) = _
    rw [show vp_nar .boolean 1 = 1 by decide]
  rw [e]
  exact h _ rfl
theorem can1_ok {u : S1} {c : Int32} {β : Type} {k : Int32 × S1 → Option β} {Q : β → Prop} (hc : ¬ c = 0) (h : ∀ W, W = up u 18 (fun _ => c) → cg_O (k (0, W)) Q) : cg_O (bn (f_X7_can u c) k) Q := by
  have e : f_X7_can u c = some (0, up u 18 (fun _ => c)) := by
    unfold f_X7_can
    dsimp only [jn, bv]
    rw [if_neg hc]
    show some (vp_nar .boolean 0, up u 18 (fun _ => c)) = _
    rw [show vp_nar .boolean 0 = 0 by decide]
  rw [e]
  exact h _ rfl
/-- a refused call -/
theorem thr_ok {V u : S1} {c x : Int32} {K : Int32 × S1 → Option (Int32 × S1)} (g : mg_G V u) (hc : ¬ c = 0) : cg_O (bn (f_X7_can u c) (fun z => if z.1 = 0 then some (x, z.2) else K z)) (fun z => mg_G V z.2) := can1_ok hc (fun W e => by
  dsimp only
  rw [if_pos rfl]
  refine cg_some ?_
  rw [e]
  exact mg_up' g (by decide))
theorem mg_18 {V u W : S1} {f : Nat → Int32} (g : mg_G V u) (e : W = up u 18 f) : mg_G V W ∧ ∀ r c, mg_A W r c = mg_A u r c := by
  subst e
  exact ⟨mg_up' g (by decide), fun r c => mg_up u f (by decide) r c⟩
theorem t_X7_may (u0 : S1) (p1 p2 : Int32) (h2 : 0 ≤ p1.toInt) (h3 : p1.toInt ≤ 31) : cg_O (f_X7_may u0 p1 p2) (fun _ => True) := by
  unfold f_X7_may
  dsimp only [jn]
  refine cg_bn (t_X7_at 0 p1 (by decide) (by decide) h2 h3) (fun z hz => ?_)
  rw [show (0 : Int32).toInt = 0 by decide] at hz
  refine cg_chk (inb_e (add_e hz (by decide : (1 : Int32).toInt = 1) (by omega) (by omega)) (by omega) (by omega)) ?_
  refine cg_i (fun _ => ?_) (fun _ => ?_)
  all_goals
    refine cg_chk (inb_e (add_e hz (by decide : (2 : Int32).toInt = 2) (by omega) (by omega)) (by omega) (by omega)) ?_
    exact cg_i (fun _ => cg_some trivial) (fun _ => cg_i (fun _ => cg_some trivial) (fun _ => cg_some trivial))
theorem t_X7_mayChange (u0 : S1) (p1 : Int32) (h2 : 0 ≤ p1.toInt) (h3 : p1.toInt ≤ 31) : cg_O (f_X7_mayChange u0 p1) (fun _ => True) := by
  unfold f_X7_mayChange
  exact cg_bn (t_X7_may u0 p1 1 h2 h3) (fun _ _ => cg_some trivial)
theorem mg_roomn {V : S1} {p1 n : Int32} (hn : 0 ≤ n.toInt ∧ n.toInt ≤ 8 ∧ (n.toInt < 8 → mg_A V (32 * (0 : Int32).toInt.toNat + p1.toInt.toNat) (5 + n.toInt.toNat) = -1) ∧ (n.toInt = 8 → ∀ k, k < 8 → mg_A V (32 * (0 : Int32).toInt.toNat + p1.toInt.toNat) (5 + k) ≠ -1)) (h : n.toInt < 8) : mg_room V p1.toInt.toNat := by
  rw [show 32 * (0 : Int32).toInt.toNat + p1.toInt.toNat = p1.toInt.toNat by rw [show (0 : Int32).toInt = 0 by decide]; omega] at hn
  exact ⟨n.toInt.toNat, by omega, hn.2.2.1 h⟩
theorem t_X7_canEnter (u0 : S1) (p1 p2 : Int32) (h2 : 0 ≤ p1.toInt) (h3 : p1.toInt ≤ 31) : cg_O (f_X7_canEnter u0 p1 p2) (fun z => z.toInt = 0 ∨ mg_room u0 p1.toInt.toNat) := by
  unfold f_X7_canEnter
  dsimp only [jn]
  refine cg_bn (t_X7_placeOf u0 0 p1 p2 (by decide) (by decide) h2 h3) (fun z hz => ?_)
  have l0 : cg_O (some (vp_nar .boolean 0)) (fun z => z.toInt = 0 ∨ mg_room u0 p1.toInt.toNat) := cg_some (Or.inl (by decide))
  refine cg_i (fun _ => ?_) (fun _ => l0)
  refine cg_bn (t_X7_entries u0 0 p1 (by decide) (by decide) h2 h3) (fun n hn => ?_)
  refine cg_le2 (by decide : (8 : Int32).toInt = 8) (Eq.refl _) (fun _ => l0) (fun h8 => ?_)
  refine cg_bn (t_X7_mayChange u0 p1 h2 h3) (fun z7 _ => ?_)
  exact cg_i (fun _ => l0) (fun _ => cg_some (Or.inr (mg_roomn hn h8)))
theorem t_X7_makes (V u0 : S1) (p1 p2 p3 p4 : Int32) (g : mg_G V u0) (h2 : 0 ≤ p1.toInt) (h3 : p1.toInt ≤ 31) (hk : mg_A u0 p1.toInt.toNat 0 = -1) (h4 : p2.toInt ≠ -1) : cg_O (f_X7_makes u0 p1 p2 p3 p4) (fun z => mg_G V z ∧ ∀ r c, r ≠ p1.toInt.toNat → c < 53 → mg_A z r c = mg_A u0 r c) := by
  have hd : ∀ p, p < 16 → u0 4 (16 * p1.toInt.toNat + p) = 0 := fun p hp => Classical.byContradiction (fun q => (g.1.2.2.1 p1.toInt.toNat p (by omega) hp q).2 hk)
  unfold f_X7_makes
  refine cg_bn (t_X7_at 0 p1 (by decide) (by decide) h2 h3) (fun z hz => ?_)
  rw [show (0 : Int32).toInt = 0 by decide] at hz
  have e0 : z.toInt = ((53 * p1.toInt.toNat + 0 : Nat) : Int) := by omega
  have e1 : (z + 1).toInt = ((53 * p1.toInt.toNat + 1 : Nat) : Int) := (add_e hz (by decide : (1 : Int32).toInt = 1) (by omega) (by omega)).trans (by omega)
  have e2 : (z + 2).toInt = ((53 * p1.toInt.toNat + 2 : Nat) : Int) := (add_e hz (by decide : (2 : Int32).toInt = 2) (by omega) (by omega)).trans (by omega)
  have e3 : (z + 3).toInt = ((53 * p1.toInt.toNat + 3 : Nat) : Int) := (add_e hz (by decide : (3 : Int32).toInt = 3) (by omega) (by omega)).trans (by omega)
  have e4 : (z + 4).toInt = ((53 * p1.toInt.toNat + 4 : Nat) : Int) := (add_e hz (by decide : (4 : Int32).toInt = 4) (by omega) (by omega)).trans (by omega)
  refine cg_chk (inb_e e0 (by omega) (by omega)) ?_
  refine cg_bv (fun u2 q2 => ?_)
  have g2 : mg_G V u2 := by
    rw [q2]
    exact mg_kind g e0 (Or.inl h4)
  refine cg_chk (inb_e e1 (by omega) (by omega)) ?_
  refine cg_bv (fun u3 q3 => ?_)
  have g3 : mg_G V u3 := by
    rw [q3]
    exact mg_owner g2 e1 (mg_ju u2 g2.1).1 (mg_ju u2 g2.1).2
  refine cg_chk (inb_e e2 (by omega) (by omega)) ?_
  refine cg_bv (fun u4 q4 => ?_)
  have g4 : mg_G V u4 := by
    rw [q4]
    exact mg_free g3 e2 (by decide) (by decide)
  refine cg_chk (inb_e e3 (by omega) (by omega)) ?_
  refine cg_bv (fun u5 q5 => ?_)
  have g5 : mg_G V u5 := by
    rw [q5]
    exact mg_free g4 e3 (by decide) (by decide)
  refine cg_chk (inb_e e4 (by omega) (by omega)) ?_
  refine cg_bv (fun u6 q6 => ?_)
  have g6 : mg_G V u6 := by
    rw [q6]
    exact mg_free g5 e4 (by decide) (by decide)
  have a6 : ∀ r c, r ≠ p1.toInt.toNat → c < 53 → mg_A u6 r c = mg_A u0 r c := fun r c hr hc => by
    rw [q6, mg_st _ _ e4, if_neg (by omega), q5, mg_st _ _ e3, if_neg (by omega), q4, mg_st _ _ e2, if_neg (by omega), q3, mg_st _ _ e1, if_neg (by omega), q2, mg_st _ _ e0, if_neg (by omega)]
  have d6 : u6 4 = u0 4 := by
    rw [q6, q5, q4, q3, q2]
    rfl
  refine cg_q2 (cg_l2 (fun d y u => 0 ≤ y.toInt ∧ y.toInt ≤ 8 ∧ 8 - y.toInt ≤ (d : Int) ∧ mg_G V u ∧ u 4 = u0 4 ∧ (∀ r c, r ≠ p1.toInt.toNat → c < 53 → mg_A u r c = mg_A u0 r c)) (fun d r ih y u hh => ?_) 8 4096 (by decide) 0 u6 ⟨by decide, by decide, by decide, g6, d6, a6⟩)
  obtain ⟨i1, i2, i3, gu, i4, i5⟩ := hh
  refine cg_le2 (by decide : (8 : Int32).toInt = 8) (Eq.refl _) (fun h => ?_) (fun h => ?_)
  · refine cg_q2 (cg_l2 (fun d y u => 0 ≤ y.toInt ∧ y.toInt ≤ 16 ∧ 16 - y.toInt ≤ (d : Int) ∧ mg_G V u ∧ u 4 = u0 4 ∧ (∀ r c, r ≠ p1.toInt.toNat → c < 53 → mg_A u r c = mg_A u0 r c)) (fun d r ih y u hh => ?_) 16 4096 (by decide) 0 u ⟨by decide, by decide, by decide, gu, i4, i5⟩)
    obtain ⟨i1, i2, i3, gu, i4, i5⟩ := hh
    refine cg_le2 (by decide : (16 : Int32).toInt = 16) (Eq.refl _) (fun h => ?_) (fun h => ?_)
    · refine cg_chk (inb_e (Eq.refl _) (by omega) (by omega)) ?_
      refine cg_bv (fun u11 q11 => cg_some ?_)
      subst q11
      refine ⟨mg_up' gu (by decide), fun r c hr hc => ?_⟩
      unfold stz
      rw [mg_up _ _ (by decide)]
      exact i5 r c hr hc
    · have f1 : ((z + 21) + y).toInt = ((53 * p1.toInt.toNat + (21 + y.toInt.toNat) : Nat) : Int) := (add_e (add_e hz (by decide : (21 : Int32).toInt = 21) (by omega) (by omega)) (Eq.refl _) (by omega) (by omega)).trans (by omega)
      have f2 : ((z + 37) + y).toInt = ((53 * p1.toInt.toNat + (37 + y.toInt.toNat) : Nat) : Int) := (add_e (add_e hz (by decide : (37 : Int32).toInt = 37) (by omega) (by omega)) (Eq.refl _) (by omega) (by omega)).trans (by omega)
      refine cg_chk (inb_e f1 (by omega) (by omega)) ?_
      refine cg_bv (fun u12 q12 => ?_)
      refine cg_chk (inb_e f2 (by omega) (by omega)) ?_
      refine cg_bv (fun u13 q13 => ?_)
      subst q12 q13
      have ey : (y + 1).toInt = y.toInt + 1 := add_e (Eq.refl _) (by decide) (by omega) (by omega)
      refine ih (d - 1) (y + 1) _ (by omega) ⟨by omega, by omega, by omega, mg_hole gu f1 f2 (by omega) ?_, i4, fun r c hr hc => ?_⟩
      · rw [i4]
        exact hd _ (by omega)
      · rw [mg_st _ _ f2, if_neg (by omega), mg_st _ _ f1, if_neg (by omega)]
        exact i5 r c hr hc
  · have f1 : ((z + 5) + y).toInt = ((53 * p1.toInt.toNat + (5 + y.toInt.toNat) : Nat) : Int) := (add_e (add_e hz (by decide : (5 : Int32).toInt = 5) (by omega) (by omega)) (Eq.refl _) (by omega) (by omega)).trans (by omega)
    have f2 : ((z + 13) + y).toInt = ((53 * p1.toInt.toNat + (13 + y.toInt.toNat) : Nat) : Int) := (add_e (add_e hz (by decide : (13 : Int32).toInt = 13) (by omega) (by omega)) (Eq.refl _) (by omega) (by omega)).trans (by omega)
    refine cg_chk (inb_e f1 (by omega) (by omega)) ?_
    refine cg_bv (fun u14 q14 => ?_)
    refine cg_chk (inb_e f2 (by omega) (by omega)) ?_
    refine cg_bv (fun u15 q15 => ?_)
    subst q14 q15
    have ey : (y + 1).toInt = y.toInt + 1 := add_e (Eq.refl _) (by decide) (by omega) (by omega)
    refine ih (d - 1) (y + 1) _ (by omega) ⟨by omega, by omega, by omega, mg_thing (mg_free gu f1 (by omega) (by omega)) f2 (by omega) (by decide) (by decide), i4, fun r c hr hc => ?_⟩
    rw [mg_st _ _ f2, if_neg (by omega), mg_st _ _ f1, if_neg (by omega)]
    exact i5 r c hr hc
theorem mg_roomA {V W : S1} {r : Nat} (h : mg_room V r) (ha : ∀ c, 5 ≤ c → c < 13 → mg_A W r c = mg_A V r c) : mg_room W r := by
  obtain ⟨k, hk, e⟩ := h
  exact ⟨k, hk, by rw [ha _ (by omega) (by omega)]; exact e⟩
theorem t_X7_begins (u0 : S1) (p1 p2 p3 p4 p5 : Int32) (hJ : mg_J u0) (h2 : p2.toInt ≠ -1) : cg_O (f_X7_begins u0 p1 p2 p3 p4 p5) (fun z => mg_G u0 z.2) := by
  have n1 : ¬ (1 : Int32) = 0 := by decide
  have n2 : ¬ (2 : Int32) = 0 := by decide
  have n3 : ¬ (3 : Int32) = 0 := by decide
  unfold f_X7_begins
  dsimp only [jn]
  refine cg_bn (t_X7_isPath p1) (fun z_1 h1 => ?_)
  have g0 := mg_refl hJ
  refine cg_i (fun _ => ?_) (fun _ => ?_)
  · refine cg_i (fun _ => ?_) (fun q => absurd rfl q)
    refine cg_bn (t_X7_isPath p1) (fun z_4 h4 => ?_)
    refine cg_i (fun _ => thr_ok g0 n1) (fun _ => cg_i (fun _ => thr_ok g0 n1) (fun _ => cg_i (fun _ => thr_ok g0 n2) (fun q => absurd rfl q)))
  · refine cg_bn (t_X7_folderOf u0 p1 hJ) (fun z_23 h23 => ?_)
    obtain ⟨hs, hz⟩ := h23
    have g : mg_G u0 z_23.2 := mg_smg g0 hs
    have key : ∀ v : Int32, (v = 0 ∨ (v = 1 ∧ z_23.1.toInt ≠ -1 ∧ mg_room z_23.2 z_23.1.toInt.toNat ∧ ∃ t, t < 32 ∧ mg_A z_23.2 t 0 = -1)) → cg_O (bn (f_X7_isPath p1) (fun z_4 => if z_4 = 0 then bn (f_X7_can z_23.2 1) (fun z_6 => if z_6.1 = 0 then some (0, z_6.2) else bn (f_X7_lowest z_6.2) (fun z_8 => bn (f_X7_makes z_6.2 z_8 p2 p3 p4) (fun z_9 => bn (f_X7_enters z_9 z_23.1 (p1 - p1 / 100 * 100) z_8) (fun z_10 => some (z_8, z_10))))) else if p5 = 0 then bn (f_X7_can z_23.2 1) (fun z_6 => if z_6.1 = 0 then some (0, z_6.2) else bn (f_X7_lowest z_6.2) (fun z_8 => bn (f_X7_makes z_6.2 z_8 p2 p3 p4) (fun z_9 => bn (f_X7_enters z_9 z_23.1 (p1 - p1 / 100 * 100) z_8) (fun z_10 => some (z_8, z_10))))) else if z_23.1 = (-1) then bn (f_X7_can z_23.2 2) (fun z_6 => if z_6.1 = 0 then some (0, z_6.2) else bn (f_X7_lowest z_6.2) (fun z_8 => bn (f_X7_makes z_6.2 z_8 p2 p3 p4) (fun z_9 => bn (f_X7_enters z_9 z_23.1 (p1 - p1 / 100 * 100) z_8) (fun z_10 => some (z_8, z_10))))) else if v = 0 then bn (f_X7_can z_23.2 3) (fun z_6 => if z_6.1 = 0 then some (0, z_6.2) else bn (f_X7_lowest z_6.2) (fun z_8 => bn (f_X7_makes z_6.2 z_8 p2 p3 p4) (fun z_9 => bn (f_X7_enters z_9 z_23.1 (p1 - p1 / 100 * 100) z_8) (fun z_10 => some (z_8, z_10))))) else bn (f_X7_can z_23.2 0) (fun z_6 => if z_6.1 = 0 then some (0, z_6.2) else bn (f_X7_lowest z_6.2) (fun z_8 => bn (f_X7_makes z_6.2 z_8 p2 p3 p4) (fun z_9 => bn (f_X7_enters z_9 z_23.1 (p1 - p1 / 100 * 100) z_8) (fun z_10 => some (z_8, z_10))))))) (fun z => mg_G u0 z.2) := by
      intro v hv
      refine cg_bn (t_X7_isPath p1) (fun z_4 h4 => ?_)
      refine cg_i (fun _ => thr_ok g n1) (fun _ => cg_i (fun _ => thr_ok g n1) (fun _ => cg_i (fun _ => thr_ok g n2) (fun hf => cg_i (fun _ => thr_ok g n3) (fun hv0 => ?_))))
      obtain ⟨_, _, hroom, t, ht, hA⟩ := hv.resolve_left hv0
      have hf2 := hz.resolve_left (fun q => hf (Int32.toInt_inj.mp q))
      refine can0_ok (fun W hW => ?_)
      dsimp only
      rw [if_neg n1]
      obtain ⟨gW, aW⟩ := mg_18 g hW
      refine cg_bn (t_X7_lowest W) (fun z_8 h8 => ?_)
      have h8b : z_8.toInt < 32 := Classical.byContradiction (fun q => h8.2.2.2 (by omega) t ht (by rw [aW]; exact hA))
      have h8k := h8.2.2.1 h8b
      refine cg_bn (t_X7_makes u0 W z_8 p2 p3 p4 gW h8.1 (by omega) h8k h2) (fun z_9 h9 => ?_)
      have hne : z_23.1.toInt.toNat ≠ z_8.toInt.toNat := fun q => by
        rw [← q, aW, mg_smA hs, hf2.2.2] at h8k
        exact absurd h8k (by decide)
      refine cg_bn (t_X7_enters u0 z_9 z_23.1 _ z_8 h9.1 hf2.1 hf2.2.1 h8.1 (by omega) (mg_roomA hroom (fun c hc hc2 => (h9.2 _ c hne (by omega)).trans (aW _ _)))) (fun z_10 h10 => cg_some h10)
    refine cg_i (fun _ => key 0 (Or.inl rfl)) (fun hf => ?_)
    have hf2 := hz.resolve_left (fun q => hf (Int32.toInt_inj.mp q))
    refine cg_bn (t_X7_canEnter z_23.2 z_23.1 _ hf2.1 hf2.2.1) (fun z_18 h18 => ?_)
    refine cg_eq2 (Eq.refl _) (by decide : (0 : Int32).toInt = 0) (fun _ => key 0 (Or.inl rfl)) (fun h19 => ?_)
    refine cg_bn (t_X7_lowest z_23.2) (fun z_20 h20 => ?_)
    refine cg_le2 (by decide : (32 : Int32).toInt = 32) (Eq.refl _) (fun _ => key 0 (Or.inl rfl)) (fun h21 => ?_)
    exact key 1 (Or.inr ⟨rfl, fun q => by omega, h18.resolve_left h19, z_20.toInt.toNat, by omega, h20.2.2.1 h21⟩)
theorem t_X7_file (u0 : S1) (p1 p2 : Int32) (hJ : mg_J u0) : cg_O (f_X7_file u0 p1 p2) (fun z => mg_G u0 z.2) := by
  unfold f_X7_file
  exact cg_bn (t_X7_areRights p2) (fun z_1 _ => cg_bn (t_X7_begins u0 p1 0 p2 (-1) z_1 hJ (by decide)) (fun z_2 h2 => cg_some h2))
theorem t_X7_folder (u0 : S1) (p1 p2 : Int32) (hJ : mg_J u0) : cg_O (f_X7_folder u0 p1 p2) (fun z => mg_G u0 z.2) := by
  unfold f_X7_folder
  exact cg_bn (t_X7_areRights p2) (fun z_1 _ => cg_bn (t_X7_begins u0 p1 1 p2 (-1) z_1 hJ (by decide)) (fun z_2 h2 => cg_some h2))
theorem t_X7_link (u0 : S1) (p1 p2 : Int32) (hJ : mg_J u0) : cg_O (f_X7_link u0 p1 p2) (fun z => mg_G u0 z.2) := by
  unfold f_X7_link
  exact cg_bn (t_X7_isIn p2 0 99999999) (fun z_1 _ => cg_bn (t_X7_begins u0 p1 2 15 p2 z_1 hJ (by decide)) (fun z_2 h2 => cg_some h2))
