set_option maxHeartbeats 8000000 in
set_option maxRecDepth 100000 in
/-- what the tables say, at the law's start -/
theorem start_K {p : Program} {s : State} {m : MethodId} {meth : Method} {c : Code} {b L : Nat} {xs : Nat → Int32} (C0 : lw_At p s m meth c b L xs) : ∃ (D : va_G) (cI cZ cJ cT : ClassId), va_K D cls (tys cI cZ cJ cT) s := by
  obtain ⟨hx, hb, hr, hml, hown, hts, hX, hbl, hlocks, hgv⟩ := id C0
  obtain ⟨c0, iS0, hKn0⟩ := u_known (C := RX0) (T := TX0) (N := 3) (n := 3) hts inX0 (hts (.instantiable RX0 3) (by decide +kernel))
  obtain ⟨c1, iS1, hKn1⟩ := u_known (C := RX1) (T := TX1) (N := 4) (n := 4) hts inX1 (hts (.instantiable RX1 4) (by decide +kernel))
  obtain ⟨c2, iS2, hKn2⟩ := u_known (C := RX2) (T := TX2) (N := 2) (n := 2) hts inX2 (hts (.instantiable RX2 2) (by decide +kernel))
  obtain ⟨c3, iS3, hKn3⟩ := u_known (C := RX3) (T := TX3) (N := 5) (n := 5) hts inX3 (hts (.instantiable RX3 5) (by decide +kernel))
  obtain ⟨c4, iS4, hKn4⟩ := u_known (C := RX4) (T := TX4) (N := 12) (n := 12) hts inX4 (hts (.instantiable RX4 12) (by decide +kernel))
  obtain ⟨c5, iS5, hKn5⟩ := u_known (C := RX5) (T := TX5) (N := 2) (n := 2) hts inX5 (hts (.instantiable RX5 2) (by decide +kernel))
  obtain ⟨c6, iS6, hKn6⟩ := u_known (C := RX6) (T := TX6) (N := 11) (n := 11) hts inX6 (hts (.instantiable RX6 11) (by decide +kernel))
  obtain ⟨c7, iS7, hKn7⟩ := u_known (C := RX7) (T := TX7) (N := 19) (n := 19) hts inX7 (hts (.instantiable RX7 19) (by decide +kernel))
  obtain ⟨dC, dI, hKc⟩ : ∃ (dC : Nat → ClassId) (dI : Nat → Nat → Nat), ∀ (k : Nat) (q : vw_C), cls[k]? = some q → u_Kn s q.1 q.2.1 q.2.2 (dC k) (dI k) := by
    refine ⟨fun k => match k with | 0 => c0 | 1 => c1 | 2 => c2 | 3 => c3 | 4 => c4 | 5 => c5 | 6 => c6 | _ => c7, fun k => match k with | 0 => iS0 | 1 => iS1 | 2 => iS2 | 3 => iS3 | 4 => iS4 | 5 => iS5 | 6 => iS6 | _ => iS7, ?_⟩
    intro k q hq
    match k, hq with
    | 0, hq => cases hq; exact hKn0
    | 1, hq => cases hq; exact hKn1
    | 2, hq => cases hq; exact hKn2
    | 3, hq => cases hq; exact hKn3
    | 4, hq => cases hq; exact hKn4
    | 5, hq => cases hq; exact hKn5
    | 6, hq => cases hq; exact hKn6
    | 7, hq => cases hq; exact hKn7
    | k + 8, hq => simp [cls] at hq
  obtain ⟨cI, kI, pI, fI1, fI2, fI3⟩ := Cond.arrayClass_spec (hts (.arrayClass .int) (by decide +kernel))
  obtain ⟨cZ, kZ, pZ, fZ1, fZ2, fZ3⟩ := Cond.arrayClass_spec (hts (.arrayClass .boolean) (by decide +kernel))
  obtain ⟨cJ, kJ, pJ, fJ1, fJ2, fJ3⟩ := Cond.arrayClass_spec (hts (.arrayClass .long) (by decide +kernel))
  obtain ⟨pT, cT, kT, t1, t2, t3, t4, t5⟩ := Cond.arrayOver_spec (hts (.arrayOver (.object "Inodery$Tree")) (by decide +kernel))
  refine ⟨(dC, dI), cI, cZ, cJ, cT, hKc, fun k q h => ?_⟩
  match k, h with
  | 0, h => cases h; exact ⟨fun n z => ⟨(fun k h => by cases h), kI, fI2, pI, fI3⟩, fI1⟩
  | 1, h => cases h; exact ⟨fun n z => ⟨(fun k h => by cases h), kZ, fZ2, pZ, fZ3⟩, fZ1⟩
  | 2, h => cases h; exact ⟨fun n z => ⟨(fun k h => by cases h), kJ, fJ2, pJ, fJ3⟩, fJ1⟩
  | 3, h => cases h; exact ⟨fun n z => ⟨(fun k h => by cases h), kT, t3, pT, t4⟩, kT, pT, t3, t4, t1, t5⟩
  | k + 4, h => simp at h
theorem strs_in : ∀ q ∈ strs, Cond.stringRef RX6 q.1 q.2 ∈ lw_tbl := by decide +kernel
theorem bads_in : ∀ w ∈ bad1 ++ (bad2 ++ bad3), w ∈ lw_tbl := by decide +kernel
set_option maxRecDepth 100000 in
theorem start_E {p : Program} {s : State} {m : MethodId} {meth : Method} {c : Code} {b L : Nat} {xs : Nat → Int32} (C0 : lw_At p s m meth c b L xs) : EX (fun q : Nat => s.heap.size ≤ q) s ∧ NC s := by
  obtain ⟨hx, hb, hr, hml, hown, hts, hX, hbl, hlocks, hgv⟩ := id C0
  have hs0 := flat_of_before _ hgv
  refine ⟨⟨vx_Zqof (hts (.laysStatic Bundle.tN "UNASSIGNED_STACK" Bundle.steD) (by decide +kernel)) (hts (.initialized Bundle.tN) (by decide +kernel)) (hs0 (.isRef (.static Bundle.tN "UNASSIGNED_STACK" Bundle.steD)) (by decide +kernel)) (fun a ha => Nat.not_le.mpr ha), vx_Zqof (hts (.laysStatic Bundle.tN "SUPPRESSED_SENTINEL" Bundle.listD) (by decide +kernel)) (hts (.initialized Bundle.tN) (by decide +kernel)) (hs0 (.isRef (.static Bundle.tN "SUPPRESSED_SENTINEL" Bundle.listD)) (by decide +kernel)) (fun a ha => Nat.not_le.mpr ha), fun q hq => ?_, fun w hw => vx_ot_at (State.WarmedH.refl s) rfl (List.all_eq_true.mp okb w hw) (hts w (bads_in w hw))⟩, fun i j hi hj hij => ?_⟩
  · have h1 := hts _ (strs_in q hq)
    cases hc : s.vm.findClass RX6 with
    | none => simp [Cond.before, Cond.holds, Cond.value, hc] at h1
    | some cur =>
      obtain ⟨_, _, _, a, _, _, _, _, _, h2⟩ := Cond.stringRef_spec hc h1
      exact ⟨a, vk_R.of h1 h2⟩
  · have hi9 : i = 1 ∨ i = 2 ∨ i = 3 := by omega
    have hj9 : j = 1 ∨ j = 2 ∨ j = 3 := by omega
    rcases hi9 with rfl | rfl | rfl <;> rcases hj9 with rfl | rfl | rfl <;> first | exact absurd rfl hij | exact va_Nc.of (args := #[Value.ref b]) (hs0 _ (by decide +kernel))
set_option maxHeartbeats 8000000 in
set_option maxRecDepth 100000 in
theorem start_walk {p : Program} {e : Env} {s : State} {m : MethodId} {below : List Frame} {meth : Method} {c : Code} (l : Launch) (hst : l.stackTraces = false) {b L : Nat} {xs : Nat → Int32} (C0 : lw_At p s m meth c b L xs) (o6 : S2) (h6 : f_X6_init = some o6) (o7 : S1) (h7 : f_X7_init = some o7) (hlaw : ql4 (law_F L xs) 4096 0 o6 o7 (fun _ => 0) = some 1) : W p l e room_1 s m #[Value.ref b] below meth c s.heap [] 0 0 (lw_Z below #[Value.ref b] s) (entryFrame m ([Value.ref b] : List Value).toArray 7) := by
  obtain ⟨hx, hb, hr, hml, hown, hts, hX, hbl, hlocks, hgv⟩ := id C0
  obtain ⟨D, cI, cZ, cJ, cT, hK⟩ := start_K C0
  obtain ⟨hE, hNC⟩ := start_E C0
  have hA : ∀ q : Nat, s.heap.size ≤ q → (fun q : Nat => s.heap.size ≤ q) q := fun _ h => h
  have hS : va_S (fun q : Nat => s.heap.size ≤ q) s.heap s.heap [] := va_S.rf
  have hP : va_P D cls [] s.heap := fun k q h => by simp at h
  have hD : va_D (fun q : Nat => s.heap.size ≤ q) [] := ⟨fun i j p q h => by simp at h, fun k q h => by simp at h⟩
  refine W_entry (vs := [.ref b]) rfl (Nat.le_of_ble_eq_true rfl) (fun ls hl => ?_)
  have hl : lv_has ls 7 [(0, .ref b)] := hl
  refine va_new (ci := 6) (fs := [.null, .null, .null, .null, .null, .null, .null, .null, .null, .null, .int 0]) (C := RX6) (T := TX6) (N := 11) hx hb hts inX6 tyX6 tyX6_ok hown (hts (.classLink RL 8 RX6) (by decide +kernel)) (hts (.instantiable RX6 11) (by decide +kernel)) (hts (.initialized RX6) (by decide +kernel)) hK hP hD hS hA rfl (fun j hj => match j, hj with | 0, _ => rfl | 1, _ => rfl | 2, _ => rfl | 3, _ => rfl | 4, _ => rfl | 5, _ => rfl | 6, _ => rfl | 7, _ => rfl | 8, _ => rfl | 9, _ => rfl | 10, _ => rfl | n + 11, h => absurd h (by omega)) (Nat.le_of_ble_eq_true rfl) (Nat.le_of_ble_eq_true rfl) dL_law_0 (fun o0 H hP hD hS => ?_)
  have hP : va_P D cls (List.flatten [[(o0, .inr (6, [.null, .null, .null, .null, .null, .null, .null, .null, .null, .null, .int 0]))]]) H := hP
  have hD : va_D (fun q : Nat => s.heap.size ≤ q) (List.flatten [[(o0, .inr (6, [.null, .null, .null, .null, .null, .null, .null, .null, .null, .null, .int 0]))]]) := hD
  refine W.cs (cells' := 1) (slots' := 11) rfl rfl ?_
  refine lv_dup hx hb dL_law_3 rfl ?_
  have hF9 := fl_free hD hS hA 0 rfl
  refine cC6 (D := D) (rest := [.ref o0]) ⟨hx, hb, hml, hown, hts⟩ (c_X6_init l D cI cZ cJ cT o0 H.size o6 h6) (cwI 0 hts (gL_in gL_law_X6_init) rfl rfl rfl (hts (.initialized RX6) (by decide +kernel)) (hts (.methodLink RL 129 yX6_init) (by decide +kernel)) (hts (.instanceMethod yX6_init) (by decide +kernel)) rfl (by decide +kernel) ⟨(Nat.le_of_ble_eq_true rfl), (Nat.le_of_ble_eq_true rfl)⟩) (fl_sub hP 0 rfl) hK (fl_subD hD 0 rfl) (va_AO.of (hts (.arrayOver (.object "Inodery$Tree")) (by decide +kernel))) (va_Nw.of rfl (hts (.methodLinkNest RX6 29 yX5_init RX6) (by decide +kernel))) (va_Nw.of rfl (hts (.methodLinkNest RX6 36 yX2_init RX6) (by decide +kernel))) (va_Nw.of rfl (hts (.methodLinkNest RX6 50 yX3_init RX6) (by decide +kernel))) (va_Nw.of rfl (hts (.methodLinkNest RX6 57 yX1_init RX6) (by decide +kernel))) hS (fl_free hD hS hA 0 rfl) rfl hl.1 (Nat.le_of_ble_eq_true rfl) dL_law_4 ⟨(Nat.le_of_ble_eq_true rfl), (Nat.le_of_ble_eq_true rfl)⟩ (fun a H1 locs ea hP1 hD1 hk1 hS => ?_)
  obtain ⟨hP, hD⟩ := last_join (L := []) (c := [(o0, .inr (6, [.null, .null, .null, .null, .null, .null, .null, .null, .null, .null, .int 0]))]) hP hD hk1 hF9 hP1 hD1
  clear hP1 hD1 hk1 hF9
  generalize H1 = H at hP hS ⊢
  have hP : va_P D cls (List.flatten [wI cI cZ cT a o6]) H := hP
  have hD : va_D (fun q : Nat => s.heap.size ≤ q) (List.flatten [wI cI cZ cT a o6]) := hD
  refine W.cs (cells' := 86) (slots' := 10607) rfl rfl ?_
  refine W_top (v2 := .ref (a 0 0)) (by rw [ea]) ?_
  refine lv_astore_n (lv' := [(1, .ref (a 0 0)), (0, .ref b)]) hx hb dL_law_7 rfl hl (by decide) rfl (fun ls hl => ?_)
  refine va_new (ci := 7) (fs := [.null, .null, .null, .null, .null, .null, .null, .int 0, .null, .int 0, .null, .null, .null, .null, .null, .int 0, .int 0, .int 0, .int 0]) (C := RX7) (T := TX7) (N := 19) hx hb hts inX7 tyX7 tyX7_ok hown (hts (.classLink RL 130 RX7) (by decide +kernel)) (hts (.instantiable RX7 19) (by decide +kernel)) (hts (.initialized RX7) (by decide +kernel)) hK hP hD hS hA rfl (fun j hj => match j, hj with | 0, _ => rfl | 1, _ => rfl | 2, _ => rfl | 3, _ => rfl | 4, _ => rfl | 5, _ => rfl | 6, _ => rfl | 7, _ => rfl | 8, _ => rfl | 9, _ => rfl | 10, _ => rfl | 11, _ => rfl | 12, _ => rfl | 13, _ => rfl | 14, _ => rfl | 15, _ => rfl | 16, _ => rfl | 17, _ => rfl | 18, _ => rfl | n + 19, h => absurd h (by omega)) (Nat.le_of_ble_eq_true rfl) (Nat.le_of_ble_eq_true rfl) dL_law_8 (fun o1 H hP hD hS => ?_)
  have hP : va_P D cls (List.flatten [wI cI cZ cT a o6, [(o1, .inr (7, [.null, .null, .null, .null, .null, .null, .null, .int 0, .null, .int 0, .null, .null, .null, .null, .null, .int 0, .int 0, .int 0, .int 0]))]]) H := fl_push (L := [wI cI cZ cT a o6]) hP
  have hD : va_D (fun q : Nat => s.heap.size ≤ q) (List.flatten [wI cI cZ cT a o6, [(o1, .inr (7, [.null, .null, .null, .null, .null, .null, .null, .int 0, .null, .int 0, .null, .null, .null, .null, .null, .int 0, .int 0, .int 0, .int 0]))]]) := fl_pushD (L := [wI cI cZ cT a o6]) hD
  refine W.cs (cells' := 87) (slots' := 10626) rfl rfl ?_
  refine lv_dup hx hb dL_law_11 rfl ?_
  have hF9 := fl_free hD hS hA 1 rfl
  refine cC (D := D) (rest := [.ref o1]) ⟨hx, hb, hml, hown, hts⟩ (c_X7_init l D cI cZ cJ cT o1 H.size o7 h7) (cwI 0 hts (gL_in gL_law_X7_init) rfl rfl rfl (hts (.initialized RX7) (by decide +kernel)) (hts (.methodLink RL 132 yX7_init) (by decide +kernel)) (hts (.instanceMethod yX7_init) (by decide +kernel)) rfl (by decide +kernel) ⟨(Nat.le_of_ble_eq_true rfl), (Nat.le_of_ble_eq_true rfl)⟩) (fl_sub hP 1 rfl) hK (fl_subD hD 1 rfl) hS (fl_free hD hS hA 1 rfl) rfl hl.1 (Nat.le_of_ble_eq_true rfl) dL_law_12 ⟨(Nat.le_of_ble_eq_true rfl), (Nat.le_of_ble_eq_true rfl)⟩ (fun am H1 locs ea hP1 hD1 hk1 hS => ?_)
  obtain ⟨hP, hD⟩ := last_join (L := [wI cI cZ cT a o6]) (c := [(o1, .inr (7, [.null, .null, .null, .null, .null, .null, .null, .int 0, .null, .int 0, .null, .null, .null, .null, .null, .int 0, .int 0, .int 0, .int 0]))]) hP hD hk1 hF9 hP1 hD1
  clear hP1 hD1 hk1 hF9
  generalize H1 = H at hP hS ⊢
  have hP : va_P D cls (List.flatten [wI cI cZ cT a o6, wX7 cI cZ am o7]) H := hP
  have hD : va_D (fun q : Nat => s.heap.size ≤ q) (List.flatten [wI cI cZ cT a o6, wX7 cI cZ am o7]) := hD
  refine W.cs (cells' := 100) (slots' := 20909) rfl rfl ?_
  refine W_top (v2 := .ref (am 0)) (by rw [ea]) ?_
  refine lv_astore_n (lv' := [(2, .ref (am 0)), (1, .ref (a 0 0)), (0, .ref b)]) hx hb dL_law_15 rfl hl (by decide) rfl (fun ls hl => ?_)
  refine lv_iconst (v := 1) hx hb dL_law_16 (by decide) ?_
  refine va_newa (atype := .long) (ty := .long) (N' := 1) (a0 := (1, .inr (.inl (fun _ => 0)))) hx hb (hts (.arrayClass .long) (by decide +kernel)) rfl hK hP hD hS hA (fun _ => rfl) (by decide) (by decide) (Nat.le_of_ble_eq_true rfl) (Nat.le_of_ble_eq_true rfl) (Nat.le_of_ble_eq_true rfl) dL_law_17 (fun q cA H hK1 hP hD hS => ?_)
  have eA : cJ = cA := K_J hK hK1
  subst eA
  have hP : va_P D cls (wW cI cZ cJ cT a am q o6 o7 (fun _ => 0)) H := fl_push (L := [wI cI cZ cT a o6, wX7 cI cZ am o7]) hP
  have hD : va_D (fun q : Nat => s.heap.size ≤ q) (wW cI cZ cJ cT a am q o6 o7 (fun _ => 0)) := fl_pushD (L := [wI cI cZ cT a o6, wX7 cI cZ am o7]) hD
  refine W.cs (cells' := 101) (slots' := 20910) rfl rfl ?_
  refine lv_astore_n (lv' := [(3, .ref q), (2, .ref (am 0)), (1, .ref (a 0 0)), (0, .ref b)]) hx hb dL_law_19 rfl hl (by decide) rfl (fun ls hl => ?_)
  refine lv_iconst (v := 0) hx hb dL_law_20 (by decide) ?_
  refine lv_istore (lv' := [(4, .int 0), (3, .ref q), (2, .ref (am 0)), (1, .ref (a 0 0)), (0, .ref b)]) hx hb dL_law_21 hl (by decide) rfl (fun ls hl => ?_)
  have hDD : ∀ (U : S2) (V : S1) (g : Nat → Int64), va_D (fun q : Nat => s.heap.size ≤ q) (wW cI cZ cJ cT a am q U V g) := fun _ _ _ => D_same (w := wW cI cZ cJ cT a am q o6 o7 (fun _ => 0)) rfl hD
  exact law_loop hst C0 hK hE hNC a am q hDD 4096 0 o6 o7 (fun _ => 0) H _ ls 101 20910 hlaw hP hS (lv_sub hl [4, 3, 2, 1, 0] rfl) (by decide) (by decide) (by decide) (by decide)
