-- BOTH SIDES: what they agree in
theorem bn_q {α β : Type} {a : α} {k : α → Option β} : bn (some a) k = k a := (Eq.refl (bn (some a) k)).trans (Eq.refl (k a))
theorem cg_eqn {α β : Type} {o : Option α} {a : α} {k : α → Option β} {Q : β → Prop} (e : o = some a) (h : cg_O (k a) Q) : cg_O (bn o k) Q := by
  rw [e]
  exact h
theorem lg_self (x : Int64) : lg_cmp x x = 0 := by
  unfold lg_cmp
  rw [if_neg (Int64.lt_irrefl), if_pos rfl]
theorem setL_0 (g : Nat → Int64) (x : Int64) : setL g x (0 : Int32).toNatClampNeg = x := by
  unfold setL vp_updL
  rw [if_pos rfl]
def mg_R (U : S2) (V : S1) : Prop := cg_U U ∧ mg_J V ∧ U 0 10 0 = V 7 0 ∧ (∀ k, k < 3 → U 0 3 k = V 1 (2 + k)) ∧ (∀ k, k < 4 → U 0 9 k = V 8 k) ∧ (∀ k, k < 64 → U 7 1 k = V 3 k ∧ (V 3 k = 0 ∨ V 3 k = 1))
theorem mg_keep {U U' : S2} {V V' : S1} (h : mg_R U V) (hG : cg_G U U') (hV : mg_G V V') : mg_R U' V' := by
  obtain ⟨h1, h2, h3, h4, h5, h6⟩ := h
  obtain ⟨g1, g2, g3⟩ := hG
  obtain ⟨v1, v2, v3, v4, v5⟩ := hV
  refine ⟨g1, v1, ?_, fun k hk => ?_, fun k hk => ?_, fun k hk => ?_⟩
  · rw [g2, v4]
    exact h3
  · rw [g2, v2]
    exact h4 k hk
  · rw [g2, v5]
    exact h5 k hk
  · rw [g3, v3]
    exact h6 k hk
theorem mg_iu {U : S2} {c : Nat} {z : S1} (h : cg_U U) (hc : c = 0 ∨ 5 < c) : cg_U (upc U c z) := fun k h1 h2 => by
  rw [upc_o _ _ (show k ≠ c by omega)]
  exact h k h1 h2
theorem can_eq (V : S1) (c : Int32) : f_X7_can V c = some (if c = 0 then 1 else 0, up V 18 (fun _ => c)) := by
  unfold f_X7_can
  dsimp only [jn, bv]
  by_cases e : c = 0
  · rw [if_pos e, if_pos e]
    exact congrArg (fun x => some (x, up V 18 (fun _ => c))) (by decide : vp_nar .boolean 1 = 1)
  · rw [if_neg e, if_neg e]
    exact congrArg (fun x => some (x, up V 18 (fun _ => c))) (by decide : vp_nar .boolean 0 = 0)
theorem up_at {u v : S1} {a b : Nat} {i x : Int32} {k : Nat} (h : u a k = v b k) : (st u a i x) a k = (st v b i x) b k := by
  unfold st
  rw [up_s, up_s]
  unfold upd
  by_cases e : k = i.toNatClampNeg
  · rw [if_pos e, if_pos e]
  · rw [if_neg e, if_neg e]
    exact h
theorem isu_eq (p : Int32) : (f_X6_isUser p = some 0 ∧ f_X7_isUser p = some 0) ∨ (f_X6_isUser p = some 1 ∧ f_X7_isUser p = some 1 ∧ 0 ≤ p.toInt ∧ p.toInt < 4) := by
  have hc : cg_O (f_X6_isUser p) (fun z => (z = 0 ∧ (p.toInt < 0 ∨ 3 < p.toInt)) ∨ (z = 1 ∧ 0 ≤ p.toInt ∧ p.toInt < 4)) := by
    unfold f_X6_isUser
    dsimp only [jn]
    refine cg_lt2 (Eq.refl _) (by decide : (0 : Int32).toInt = 0) (fun h => cg_some (Or.inl ⟨by decide, by omega⟩)) (fun h => ?_)
    exact cg_le2 (by decide : (4 : Int32).toInt = 4) (Eq.refl _) (fun h => cg_some (Or.inl ⟨by decide, by omega⟩)) (fun h => cg_some (Or.inr ⟨by decide, by omega, by omega⟩))
  obtain ⟨a, ha, hp⟩ := hc
  obtain ⟨b, hb, hq⟩ := t_X7_isUser p
  rcases hp with ⟨rfl, hp⟩ | ⟨rfl, hp1, hp2⟩
  · have hb0 : b = 0 := Int32.toInt_inj.mp (by rw [show (0 : Int32).toInt = 0 by decide]; omega)
    exact Or.inl ⟨ha, by rw [hb, hb0]⟩
  · have hb1 : b = 1 := Int32.toInt_inj.mp (by rw [show (1 : Int32).toInt = 1 by decide]; omega)
    exact Or.inr ⟨ha, by rw [hb, hb1], hp1, hp2⟩
theorem sp_mk {oL : Option (Int32 × S2 × (Nat → Int64))} {oM : Option (Int32 × S1)} {k x : Int32} {U' : S2} {V' : S1} {g' : Nat → Int64} (h1 : oL = some (k, U', g')) (h2 : oM = some (x, V')) (h3 : mg_R U' V') (h4 : V' 18 0 = k) (h5 : k = 0 → lg_cmp (g' (0 : Int32).toNatClampNeg) x.toInt64 = 0) : ∃ z1 z2, oL = some z1 ∧ oM = some z2 ∧ mg_R z1.2.1 z2.2 ∧ z2.2 18 0 = z1.1 ∧ (z1.1 = 0 → lg_cmp (z1.2.2 (0 : Int32).toNatClampNeg) z2.1.toInt64 = 0) := ⟨(k, U', g'), (x, V'), h1, h2, h3, h4, h5⟩
/-- user -/
theorem sp_user {U : S2} {V : S1} (h : mg_R U V) (g : Nat → Int64) (p : Int32) : ∃ z1 z2, f_L_user U g p = some z1 ∧ f_X7_user V p = some z2 ∧ mg_R z1.2.1 z2.2 ∧ z2.2 18 0 = z1.1 ∧ (z1.1 = 0 → lg_cmp (z1.2.2 (0 : Int32).toNatClampNeg) z2.1.toInt64 = 0) := by
  rcases isu_eq p with ⟨ha, hb⟩ | ⟨ha, hb, hp1, hp2⟩
  · refine sp_mk (k := 1) (U' := U) (g' := g) (x := 0) (V' := up V 18 (fun _ => 1)) ?_ ?_ (mg_keep h (g_refl h.1) (mg_18 (mg_refl h.2.1) rfl).1) (by rw [up_s]) (fun q => absurd q (by decide))
    · unfold f_L_user f_X6_user
      rw [ha, bn_q, if_pos rfl, bn_q]
      dsimp only
      rw [if_neg (by decide), if_pos rfl]
    · unfold f_X7_user
      rw [hb, bn_q]
      dsimp only [jn]
      rw [if_pos rfl, can_eq V 1, if_neg (by decide), bn_q]
      dsimp only
      rw [if_pos rfl]
  · refine sp_mk (k := 0) (U' := upc U 0 (up (U 0) 10 (fun _ => p))) (g' := setL g (U 0 10 0).toInt64) (x := V 7 0) (V' := up (up V 18 (fun _ => 0)) 7 (fun _ => p)) ?_ ?_ ?_ ?_ (fun _ => ?_)
    · unfold f_L_user f_X6_user
      rw [ha, bn_q, if_neg (by decide)]
      show bn (some ((0 : Nat), U 0 10 0, upc U 0 (up (U 0) 10 (fun _ => p)))) _ = _
      rw [bn_q]
      dsimp only
      rw [if_pos rfl]
    · unfold f_X7_user
      rw [hb, bn_q]
      dsimp only [jn]
      rw [if_neg (by decide)]
      rw [can_eq V 0, if_pos rfl, bn_q]
      dsimp only
      rw [if_neg (by decide)]
      show some ((up V 18 (fun _ => (0 : Int32))) 7 0, _) = _
      rw [up_o V _ (show 7 ≠ 18 by decide)]
    · obtain ⟨h1, h2, h3, h4, h5, h6⟩ := h
      refine ⟨mg_iu h1 (Or.inl rfl), ?_, ?_, fun k hk => ?_, fun k hk => ?_, fun k hk => ?_⟩
      · obtain ⟨j1, ⟨j2, j3, j4⟩, j5, j6⟩ := (mg_18 (f := fun _ => (0 : Int32)) (mg_refl h2) rfl).1.1
        refine ⟨⟨fun r hr => ?_, fun r k hr hk => ?_, fun r q hr hq2 => ?_⟩, ⟨?_, j3, j4⟩, fun t q ht hq2 hd => ?_, fun k hk ho => ?_⟩
        · rw [mg_up _ _ (by decide)]
          exact j1.1 r hr
        · rw [mg_up _ _ (by decide)]
          exact j1.2.1 r k hr hk
        · rw [mg_up _ _ (by decide), mg_up _ _ (by decide)]
          exact j1.2.2 r q hr hq2
        · rw [up_s]
          exact ⟨hp1, by omega⟩
        · rw [mg_up _ _ (by decide), mg_up _ _ (by decide)]
          exact j5 t q ht hq2 hd
        · rw [mg_up _ _ (by decide)]
          exact j6 k hk ho
      · rw [upc_s, up_s, up_s]
      · rw [upc_s, up_o _ _ (show 3 ≠ 10 by decide), up_o _ _ (show 1 ≠ 7 by decide), up_o _ _ (show 1 ≠ 18 by decide)]
        exact h4 k hk
      · rw [upc_s, up_o _ _ (show 9 ≠ 10 by decide), up_o _ _ (show 8 ≠ 7 by decide), up_o _ _ (show 8 ≠ 18 by decide)]
        exact h5 k hk
      · rw [upc_o _ _ (show 7 ≠ 0 by decide), up_o _ _ (show 3 ≠ 7 by decide), up_o _ _ (show 3 ≠ 18 by decide)]
        exact h6 k hk
    · rw [up_o _ _ (show 18 ≠ 7 by decide), up_s]
    · rw [setL_0]
      show lg_cmp (U 0 10 0).toInt64 (V 7 0).toInt64 = 0
      rw [h.2.2.1]
      exact lg_self _
/-- quota -/
theorem sp_quota {U : S2} {V : S1} (h : mg_R U V) (g : Nat → Int64) (p x : Int32) : ∃ z1 z2, f_L_quota U g p x = some z1 ∧ f_X7_quota V p x = some z2 ∧ mg_R z1.2.1 z2.2 ∧ z2.2 18 0 = z1.1 ∧ (z1.1 = 0 → lg_cmp (z1.2.2 (0 : Int32).toNatClampNeg) z2.1.toInt64 = 0) := by
  rcases isu_eq p with ⟨ha, hb⟩ | ⟨ha, hb, hp1, hp2⟩
  · refine sp_mk (k := 1) (U' := U) (g' := g) (x := 0) (V' := up V 18 (fun _ => 1)) ?_ ?_ (mg_keep h (g_refl h.1) (mg_18 (mg_refl h.2.1) rfl).1) (by rw [up_s]) (fun q => absurd q (by decide))
    · unfold f_L_quota f_X6_quota
      rw [ha, bn_q, if_pos rfl, bn_q]
      dsimp only
      rw [if_neg (by decide), if_pos rfl]
    · unfold f_X7_quota
      rw [hb, bn_q]
      dsimp only [jn]
      rw [if_pos rfl, can_eq V 1, if_neg (by decide), bn_q]
      dsimp only
      rw [if_pos rfl]
  · obtain ⟨c, hc, hq⟩ := t_X7_isIn x 0 64
    rw [show (0 : Int32).toInt = 0 by decide, show (64 : Int32).toInt = 64 by decide] at hq
    have hi : inb p 4 = true := inb_t hp1 hp2
    rcases hq with ⟨hc0, hq⟩ | ⟨hc1, hq1, hq2⟩
    · have hc0' : c = 0 := Int32.toInt_inj.mp (by rw [show (0 : Int32).toInt = 0 by decide]; exact hc0)
      subst hc0'
      refine sp_mk (k := 2) (U' := U) (g' := g) (x := 0) (V' := up V 18 (fun _ => 2)) ?_ ?_ (mg_keep h (g_refl h.1) (mg_18 (mg_refl h.2.1) rfl).1) (by rw [up_s]) (fun q => absurd q (by decide))
      · have e : f_X6_quota U p x = some (1, 0, U) := by
          unfold f_X6_quota
          rw [ha, bn_q, if_neg (by decide)]
          show (if x < 0 then _ else _) = _
          by_cases h1 : x < 0
          · rw [if_pos h1]
          · rw [if_neg h1, if_neg (show ¬ x ≤ 64 from fun q => by
              have q1 := Int32.le_iff_toInt_le.mp q
              have q2 := Int32.le_iff_toInt_le.mp (Int32.not_lt.mp h1)
              rw [show (64 : Int32).toInt = 64 by decide] at q1
              rw [show (0 : Int32).toInt = 0 by decide] at q2
              omega)]
        unfold f_L_quota
        rw [e, bn_q]
        dsimp only
        rw [if_neg (by decide), if_neg (by decide), if_pos rfl]
      · unfold f_X7_quota
        rw [hb, bn_q]
        dsimp only [jn]
        rw [if_neg (by decide), hc, bn_q, if_pos rfl]
        rw [can_eq V 2, if_neg (by decide), bn_q]
        dsimp only
        rw [if_pos rfl]
    · have hc1' : c = 1 := Int32.toInt_inj.mp (by rw [show (1 : Int32).toInt = 1 by decide]; exact hc1)
      subst hc1'
      have n1 : ¬ x < 0 := fun q => by
        have q1 := Int32.lt_iff_toInt_lt.mp q
        rw [show (0 : Int32).toInt = 0 by decide] at q1
        omega
      have n2 : x ≤ 64 := Int32.le_iff_toInt_le.mpr (by rw [show (64 : Int32).toInt = 64 by decide]; exact hq2)
      refine sp_mk (k := 0) (U' := upc U 0 (st (U 0) 9 p x)) (g' := setL g (U 0 9 p.toNatClampNeg).toInt64) (x := V 8 p.toNatClampNeg) (V' := st (up V 18 (fun _ => 0)) 8 p x) ?_ ?_ ?_ ?_ (fun _ => ?_)
      · have e : f_X6_quota U p x = some (0, U 0 9 p.toNatClampNeg, upc U 0 (st (U 0) 9 p x)) := by
          unfold f_X6_quota
          rw [ha, bn_q, if_neg (by decide)]
          show (if x < 0 then _ else if x ≤ 64 then chk (inb p 4) _ else _) = _
          rw [if_neg n1, if_pos n2, hi]
          rfl
        unfold f_L_quota
        rw [e, bn_q]
        dsimp only
        rw [if_pos rfl]
      · unfold f_X7_quota
        rw [hb, bn_q]
        dsimp only [jn]
        rw [if_neg (by decide), hc, bn_q, if_neg (by decide)]
        rw [can_eq V 0, if_pos rfl, bn_q]
        dsimp only
        rw [if_neg (by decide), hi]
        show some ((up V 18 (fun _ => (0 : Int32))) 8 p.toNatClampNeg, _) = _
        rw [up_o V _ (show 8 ≠ 18 by decide)]
      · obtain ⟨h1, h2, h3, h4, h5, h6⟩ := h
        refine ⟨mg_iu h1 (Or.inl rfl), mg_jup (mg_18 (f := fun _ => (0 : Int32)) (mg_refl h2) rfl).1.1 (by decide) (by decide) (by decide) (by decide) (by decide) (by decide), ?_, fun k hk => ?_, fun k hk => ?_, fun k hk => ?_⟩
        · rw [upc_s]
          unfold st
          rw [up_o _ _ (show 10 ≠ 9 by decide), up_o _ _ (show 7 ≠ 8 by decide), up_o _ _ (show 7 ≠ 18 by decide)]
          exact h3
        · rw [upc_s]
          unfold st
          rw [up_o _ _ (show 3 ≠ 9 by decide), up_o _ _ (show 1 ≠ 8 by decide), up_o _ _ (show 1 ≠ 18 by decide)]
          exact h4 k hk
        · rw [upc_s]
          exact up_at (by rw [up_o _ _ (show 8 ≠ 18 by decide)]; exact h5 k hk)
        · rw [upc_o _ _ (show 7 ≠ 0 by decide)]
          unfold st
          rw [up_o _ _ (show 3 ≠ 8 by decide), up_o _ _ (show 3 ≠ 18 by decide)]
          exact h6 k hk
      · unfold st
        rw [up_o _ _ (show 18 ≠ 8 by decide), up_s]
      · rw [setL_0]
        show lg_cmp (U 0 9 p.toNatClampNeg).toInt64 (V 8 p.toNatClampNeg).toInt64 = 0
        rw [h.2.2.2.2.1 p.toNatClampNeg (show p.toInt.toNat < 4 by omega)]
        exact lg_self _
/-- snapshot -/
theorem cl_snapshot {U : S2} (h : cg_U U) : cg_O (f_X6_snapshot U) (fun z => (z.1 = 3 ∧ z.2.2 = U ∧ ∀ k, k < 3 → U 0 3 k ≠ 0) ∨ (z.1 = 0 ∧ ∃ n, n < 3 ∧ z.2.1.toInt = ((n : Nat) : Int) ∧ U 0 3 n = 0 ∧ (∀ k, k < n → U 0 3 k ≠ 0) ∧ cg_U z.2.2 ∧ z.2.2 0 = stz (U 0) 3 z.2.1 1 ∧ z.2.2 7 1 = U 7 1)) := by
  have hl : cg_O (f_X6_lowestNotGiven U) (fun z => (z = -1 ∧ ∀ k, k < 3 → U 0 3 k ≠ 0) ∨ (∃ n, n < 3 ∧ z.toInt = ((n : Nat) : Int) ∧ U 0 3 n = 0 ∧ ∀ k, k < n → U 0 3 k ≠ 0)) := by
    unfold f_X6_lowestNotGiven
    refine cg_q1 (cg_l1 (fun d y => 0 ≤ y.toInt ∧ y.toInt ≤ 3 ∧ 3 - y.toInt ≤ (d : Int) ∧ ∀ k : Nat, (k : Int) < y.toInt → U 0 3 k ≠ 0) (fun d r ih y hh => ?_) 3 4096 (by decide) 0 ⟨by decide, by decide, by decide, fun k hk => ?_⟩)
    · obtain ⟨i1, i2, i3, i4⟩ := hh
      have hcl : y.toNatClampNeg = y.toInt.toNat := rfl
      refine cg_le2 (by decide : (3 : Int32).toInt = 3) (Eq.refl _) (fun _ => cg_some (Or.inl ⟨rfl, fun k hk => i4 k (by omega)⟩)) (fun h => ?_)
      refine cg_chk (inb_e (Eq.refl _) (by omega) (by omega)) ?_
      refine cg_i (fun h2 => cg_some (Or.inr ⟨y.toInt.toNat, by omega, by omega, h2, fun k hk => i4 k (by omega)⟩)) (fun h2 => ?_)
      have ey : (y + 1).toInt = y.toInt + 1 := add_e (Eq.refl _) (by decide) (by omega) (by omega)
      refine ih (d - 1) (y + 1) (by omega) ⟨by omega, by omega, by omega, fun k hk => ?_⟩
      by_cases e : (k : Int) < y.toInt
      · exact i4 k e
      · rw [show k = y.toNatClampNeg by omega]
        exact h2
    · rw [show (0 : Int32).toInt = 0 by decide] at hk
      omega
  unfold f_X6_snapshot
  refine cg_bn hl (fun z hz => ?_)
  rcases hz with ⟨rfl, hz⟩ | ⟨n, hn, hz, h0, hb⟩
  · exact cg_pos rfl (cg_some (Or.inl ⟨rfl, rfl, hz⟩))
  · have hne : ¬ z = -1 := fun q => by
      rw [q, show (-1 : Int32).toInt = -1 by decide] at hz
      omega
    refine cg_neg hne ?_
    refine cg_bn (t_X6_commitAll U h) (fun z3 h3 => ?_)
    have hin : inb z 3 = true := inb_t (by omega) (by omega)
    refine cg_chk hin ?_
    have fin : ∀ c : Nat, 3 ≤ c → c ≤ 5 → ∀ z5, cg_S z5 → cg_O (bv (upc z3.2 c z5) (fun u_6 => chk (inb z 3) (bv (upc u_6 0 (stz (u_6 0) 3 z 1)) (fun u_7 => some ((0 : Nat), z, u_7))))) (fun z => (z.1 = 3 ∧ z.2.2 = U ∧ ∀ k, k < 3 → U 0 3 k ≠ 0) ∨ (z.1 = 0 ∧ ∃ n, n < 3 ∧ z.2.1.toInt = ((n : Nat) : Int) ∧ U 0 3 n = 0 ∧ (∀ k, k < n → U 0 3 k ≠ 0) ∧ cg_U z.2.2 ∧ z.2.2 0 = stz (U 0) 3 z.2.1 1 ∧ z.2.2 7 1 = U 7 1)) := by
      intro c hc1 hc2 z5 h5
      refine cg_bv (fun u6 e6 => ?_)
      refine cg_chk hin ?_
      refine cg_bv (fun u7 e7 => cg_some (Or.inr ⟨rfl, n, hn, hz, h0, hb, ?_⟩))
      have g6 : cg_G U u6 := by
        rw [e6]
        exact g_tree h3 (by omega) (by omega) h5
      show cg_U u7 ∧ u7 0 = stz (U 0) 3 z 1 ∧ u7 7 1 = U 7 1
      refine ⟨?_, ?_, ?_⟩
      · rw [e7]
        exact mg_iu g6.1 (Or.inl rfl)
      · rw [e7, upc_s, g6.2.1]
      · rw [e7, upc_o _ _ (show 7 ≠ 0 by decide)]
        exact g6.2.2
    refine cg_eq2 (Eq.refl _) (by decide : (0 : Int32).toInt = 0) (fun _ => ?_) (fun q0 => ?_)
    · exact cg_bn (t_X4_becomeLike _ _ (g_sz h3 (by decide) (by decide)) (g_sz h3 (by decide) (by decide))) (fun z5 h5 => fin 3 (by decide) (by decide) z5 h5)
    · refine cg_eq2 (Eq.refl _) (by decide : (1 : Int32).toInt = 1) (fun _ => ?_) (fun q1 => ?_)
      · exact cg_bn (t_X4_becomeLike _ _ (g_sz h3 (by decide) (by decide)) (g_sz h3 (by decide) (by decide))) (fun z5 h5 => fin 4 (by decide) (by decide) z5 h5)
      · refine cg_eq2 (Eq.refl _) (by decide : (2 : Int32).toInt = 2) (fun _ => ?_) (fun q2 => ?_)
        · exact cg_bn (t_X4_becomeLike _ _ (g_sz h3 (by decide) (by decide)) (g_sz h3 (by decide) (by decide))) (fun z5 h5 => fin 5 (by decide) (by decide) z5 h5)
        · exfalso
          omega
theorem rf_snapshot {V : S1} (hJ : mg_J V) : cg_O (f_X7_snapshot V) (fun z => (z.2 = up V 18 (fun _ => 1) ∧ ∀ k, k < 3 → V 1 (2 + k) ≠ 0) ∨ (∃ n, n < 3 ∧ z.1.toInt = ((n : Nat) : Int) ∧ V 1 (2 + n) = 0 ∧ (∀ k, k < n → V 1 (2 + k) ≠ 0) ∧ mg_J z.2 ∧ z.2 18 0 = 0 ∧ z.2 3 = V 3 ∧ z.2 7 = V 7 ∧ z.2 8 = V 8 ∧ ∀ k, z.2 1 k = if k = 2 + n then 1 else V 1 k)) := by
  unfold f_X7_snapshot
  refine cg_q1 (cg_l1 (fun d y => 2 ≤ y.toInt ∧ y.toInt ≤ 5 ∧ 5 - y.toInt ≤ (d : Int) ∧ ∀ k : Nat, 2 ≤ k → (k : Int) < y.toInt → V 1 k ≠ 0) (fun d r ih y hh => ?_) 5 4096 (by decide) 2 ⟨by decide, by decide, by decide, fun k hk hk2 => ?_⟩)
  · obtain ⟨i1, i2, i3, i4⟩ := hh
    have hcl : y.toNatClampNeg = y.toInt.toNat := rfl
    refine cg_jn ?_
    refine cg_le2 (by decide : (5 : Int32).toInt = 5) (Eq.refl _) (fun h => ?_) (fun h => ?_)
    · refine cg_jn ?_
      refine cg_pos (Int32.le_iff_toInt_le.mpr (by rw [show (5 : Int32).toInt = 5 by decide]; exact h)) ?_
      refine can1_ok (by decide) (fun W hW => ?_)
      dsimp only
      rw [if_pos rfl]
      exact cg_some (Or.inl ⟨hW, fun k hk => i4 (2 + k) (by omega) (by omega)⟩)
    · refine cg_chk (inb_e (Eq.refl _) (by omega) (by omega)) ?_
      refine cg_i (fun h2 => ?_) (fun h2 => ?_)
      · refine cg_jn ?_
        refine cg_neg (fun q => by
          have := Int32.le_iff_toInt_le.mp q
          rw [show (5 : Int32).toInt = 5 by decide] at this
          omega) ?_
        refine can0_ok (fun W hW => ?_)
        dsimp only
        rw [if_neg (by decide)]
        have gW := mg_18 (mg_refl hJ) hW
        refine cg_bn (t_X7_commits W gW.1.1) (fun z6 h6 => ?_)
        refine cg_bn (t_X7_copies z6.2 0 y (by decide) (by decide) (by omega) (by omega) (by rw [show (0 : Int32).toInt = 0 by decide]; omega)) (fun z7 h7 => ?_)
        have g7 : mg_G V z7 := mg_copy (mg_trans gW.1 h6.1) (by decide) (by decide) (by omega) (by omega) h7.1 h7.2
        refine cg_chk (inb_e (Eq.refl _) (by omega) (by omega)) ?_
        refine cg_bv (fun u8 e8 => cg_some (Or.inr ⟨y.toInt.toNat - 2, by omega, ?_, ?_, fun k hk => i4 (2 + k) (by omega) (by omega), ?_, ?_, ?_, ?_, ?_, fun k => ?_⟩))
        · exact (sub_e (Eq.refl _) (by decide : (2 : Int32).toInt = 2) (by omega) (by omega)).trans (by omega)
        · rw [show 2 + (y.toInt.toNat - 2) = y.toNatClampNeg by omega]
          exact h2
        · rw [e8]
          exact mg_jup g7.1 (by decide) (by decide) (by decide) (by decide) (by decide) (by decide)
        · show u8 18 0 = 0
          rw [e8]
          unfold stz
          rw [up_o _ _ (show 18 ≠ 1 by decide), h7.1 18 (by decide), h6.2, hW, up_s]
        · show u8 3 = V 3
          rw [e8]
          unfold stz
          rw [up_o _ _ (show 3 ≠ 1 by decide)]
          exact g7.2.2.1
        · show u8 7 = V 7
          rw [e8]
          unfold stz
          rw [up_o _ _ (show 7 ≠ 1 by decide)]
          exact g7.2.2.2.1
        · show u8 8 = V 8
          rw [e8]
          unfold stz
          rw [up_o _ _ (show 8 ≠ 1 by decide)]
          exact g7.2.2.2.2
        · show u8 1 k = _
          rw [e8]
          unfold stz
          rw [up_s, g7.2.1]
          unfold upd
          by_cases e : k = y.toNatClampNeg
          · rw [if_pos e, if_pos (by omega)]
            decide
          · rw [if_neg e, if_neg (by omega)]
      · have ey : (y + 1).toInt = y.toInt + 1 := add_e (Eq.refl _) (by decide) (by omega) (by omega)
        refine ih (d - 1) (y + 1) (by omega) ⟨by omega, by omega, by omega, fun k hk hk2 => ?_⟩
        by_cases e : (k : Int) < y.toInt
        · exact i4 k hk e
        · rw [show k = y.toNatClampNeg by omega]
          exact h2
  · rw [show (2 : Int32).toInt = 2 by decide] at hk2
    omega
theorem sp_snapshot {U : S2} {V : S1} (h : mg_R U V) (g : Nat → Int64) : ∃ z1 z2, f_L_snapshot U g = some z1 ∧ f_X7_snapshot V = some z2 ∧ mg_R z1.2.1 z2.2 ∧ z2.2 18 0 = z1.1 ∧ (z1.1 = 0 → lg_cmp (z1.2.2 (0 : Int32).toNatClampNeg) z2.1.toInt64 = 0) := by
  obtain ⟨a, ha, hp⟩ := cl_snapshot h.1
  obtain ⟨b, hb, hq⟩ := rf_snapshot h.2.1
  have hR := h
  obtain ⟨h1, h2, h3, h4, h5, h6⟩ := h
  obtain ⟨a1, a2, a3⟩ := a
  rcases hp with ⟨p1, p2, p3⟩ | ⟨p1, n, pn, p2, p3, p4, p5, p6, p7⟩
  · dsimp only at p1 p2
    subst p1 p2
    rcases hq with ⟨q1, q2⟩ | ⟨m, hm, q1, q2, q3, q4⟩
    · refine sp_mk (k := 1) (U' := a3) (g' := g) (x := b.1) (V' := b.2) ?_ hb ?_ ?_ (fun q => absurd q (by decide))
      · unfold f_L_snapshot
        rw [ha, bn_q]
        dsimp only
        rw [if_neg (by decide), if_pos rfl]
      · rw [q1]
        exact mg_keep hR (g_refl h1) (mg_18 (mg_refl h2) rfl).1
      · rw [q1, up_s]
    · exact absurd (by rw [h4 m hm]; exact q2) (p3 m hm)
  · dsimp only at p1 p2 p5 p6 p7
    subst p1
    rcases hq with ⟨q1, q2⟩ | ⟨m, hm, q1, q2, q3, q4, q5, q6, q7, q8, q9⟩
    · exact absurd (by rw [← h4 n pn]; exact p3) (q2 n pn)
    · have hnm : n = m := by
        rcases Nat.lt_trichotomy n m with e | e | e
        · exact absurd (by rw [← h4 n pn]; exact p3) (q3 n e)
        · exact e
        · exact absurd (by rw [h4 m hm]; exact q2) (p4 m e)
      subst hnm
      refine sp_mk (k := 0) (U' := a3) (g' := setL g a2.toInt64) (x := b.1) (V' := b.2) ?_ hb ⟨p5, q4, ?_, fun k hk => ?_, fun k hk => ?_, fun k hk => ?_⟩ q5 (fun _ => ?_)
      · unfold f_L_snapshot
        rw [ha, bn_q]
        dsimp only
        rw [if_pos rfl]
      · rw [p6, q7]
        unfold stz
        rw [up_o _ _ (show 10 ≠ 3 by decide)]
        exact h3
      · rw [p6, q9]
        unfold stz
        rw [up_s]
        unfold upd
        have hcl : a2.toNatClampNeg = a2.toInt.toNat := rfl
        by_cases e : k = a2.toNatClampNeg
        · rw [if_pos e, if_pos (by omega)]
          decide
        · rw [if_neg e, if_neg (by omega)]
          exact h4 k hk
      · rw [p6, q8]
        unfold stz
        rw [up_o _ _ (show 9 ≠ 3 by decide)]
        exact h5 k hk
      · rw [p7, q6]
        exact h6 k hk
      · rw [setL_0]
        rw [show a2 = b.1 from Int32.toInt_inj.mp (p2.trans q1.symm)]
        exact lg_self _
