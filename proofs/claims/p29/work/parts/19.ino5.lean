theorem dX6_demandBlock_0 : decode cX6_demandBlock 0 = .ok (.iload_n 0, 1) := by decide +kernel
theorem dX6_demandBlock_1 : decode cX6_demandBlock 1 = .ok (.ifCond .lt 9, 3) := by decide +kernel
theorem dX6_demandBlock_4 : decode cX6_demandBlock 4 = .ok (.iload_n 0, 1) := by decide +kernel
theorem dX6_demandBlock_5 : decode cX6_demandBlock 5 = .ok (.bipush 64, 2) := by decide +kernel
theorem dX6_demandBlock_7 : decode cX6_demandBlock 7 = .ok (.if_icmp .lt 14, 3) := by decide +kernel
theorem dX6_demandBlock_10 : decode cX6_demandBlock 10 = .ok (.new 74, 3) := by decide +kernel
theorem dX6_demandBlock_13 : decode cX6_demandBlock 13 = .ok (.dup, 1) := by decide +kernel
theorem dX6_demandBlock_14 : decode cX6_demandBlock 14 = .ok (.ldc_w 407, 3) := by decide +kernel
theorem dX6_demandBlock_17 : decode cX6_demandBlock 17 = .ok (.invokespecial 78, 3) := by decide +kernel
theorem dX6_demandBlock_20 : decode cX6_demandBlock 20 = .ok (.athrow, 1) := by decide +kernel
theorem dX6_demandBlock_21 : decode cX6_demandBlock 21 = .ok (.return_, 1) := by decide +kernel
def f_X6_demandBlock (U : S2) (p0 : Int32) : Option (Nat × Int32 × S2) := jn (some (2, 0, U)) (fun k10_1 => if p0 < 0 then k10_1 else if p0 < 64 then some (0, 0, U) else k10_1)
def rmX6_demandBlock : Room := { frames := 6, cells := 1, slots := 6, locals := 90 }
set_option maxHeartbeats 4000000 in
set_option maxRecDepth 100000 in
theorem c_X6_demandBlock (l : Launch) (hst : l.stackTraces = false) (D : va_G) (cI cZ cJ cT : ClassId) (a : Nat → Nat → Nat) (sz : Nat) (U : S2) (p0 : Int32) (o : Nat × Int32 × S2) (hf : f_X6_demandBlock U p0 = some o) : vx_Met l yX6_demandBlock wsX6_demandBlock rmX6_demandBlock (va_Pc [.int p0] (PX D cls (tys cI cZ cJ cT) (wI cI cZ cT a U) sz)) (QXv D cls o.1 (wI cI cZ cT a o.2.2) (va_A (wI cI cZ cT a U) sz)) (XX D cls o.1 (wI cI cZ cT a o.2.2) (va_A (wI cI cZ cT a U) sz)) 1 6 (va_A (wI cI cZ cT a U) sz) := by
  refine vx_ofW (cc := cX6_demandBlock) (maxL := 1) (ret := none) (by decide) rfl ?_
  intro p e s m args below meth c s₁ B hml hxt hv
  obtain ⟨hav, ⟨hsz, hP, hK, hD0⟩, hE⟩ := hv
  have hx := B.exec
  have hb := B.bytes
  have hr := B.returns
  have hlocks := B.notSynchronized
  have hts := atoms_spec (ws := wsX6_demandBlock) B.pre
  have hown : s.vm.findClass RX6 = some m.cls := findClass_of_methodNamed B.named
  subst hsz
  have hD := hD0.self (sz := s.heap.size)
  generalize hAe : va_A (wI cI cZ cT a U) s.heap.size = A at hD hE ⊢
  have hA : ∀ q : Nat, s.heap.size ≤ q → A q := fun q h => by rw [← hAe]; exact Or.inr h
  have hS : va_S A s.heap s.heap [] := va_S.rf
  have hDD : ∀ V : S2, va_D A (wI cI cZ cT a V) := fun _ => D_same (w := (wI cI cZ cT a U)) rfl hD
  refine Wq (fun Q hQ => ?_)
  refine W_entry hav (Nat.le_of_ble_eq_true rfl) (fun ls hl => ?_)
  have hl : lv_has ls 1 [(0, .int p0)] := hl
  unfold f_X6_demandBlock at hf
  refine W_heap hP hS (fun H locs hP hS => ?_)
  refine lv_iload_n hx hb dX6_demandBlock_0 rfl (lv_at hl 0 rfl) ?_
  obtain ⟨k10_1, hk10_1, hf⟩ := jn_some hf
  have j10_1 : ∀ (H : Heap) (locs : List Loc) (ls : Array Slot), k10_1 = some o → va_P D cls (wI cI cZ cT a U) H → va_S A s.heap H locs → lv_has ls 1 [] → W p l e (headSpec wsX6_demandBlock rmX6_demandBlock).room s m args below meth c H locs 0 0 Q (F0 m 10 ls []) := by
    intro H locs ls hf hP hS hl
    have hf := qa0 hk10_1 hf
    have eo := Option.some.inj hf
    have hP : va_P D cls (wI cI cZ cT a o.2.2) H := by rw [← eo]; exact hP
    rw [hQ]
    have hk0 : o.1 = 2 := by rw [← eo]
    exact thrW o.1 (text := "no such block") (by rw [hk0]; rfl) (by rw [hk0]; decide) hx hb hst hown (by decide +kernel) (hts (.classLink RX6 74 "java/lang/IndexOutOfBoundsException") (by decide +kernel)) (hts (.initialized "java/lang/IndexOutOfBoundsException") (by decide +kernel)) (fun w h => hts w (List.mem_cons_of_mem _ (List.mem_append_right _ h))) (EX_b2 hE) ok2 (by decide +kernel) hE hS hP (hl.1.trans hml.symm) dX6_demandBlock_10 dX6_demandBlock_13 dX6_demandBlock_14 dX6_demandBlock_17 dX6_demandBlock_20 hxt (Nat.le_of_ble_eq_true rfl) (Nat.le_of_ble_eq_true rfl) (Nat.le_of_ble_eq_true rfl) (Nat.le_of_ble_eq_true rfl) hlocks (Nat.le_of_ble_eq_true rfl) (Nat.le_of_ble_eq_true rfl)
  refine lv_if_lt (tgt := 10) hx hb dX6_demandBlock_1 (by decide) (fun c_2 => ?_) (fun c_2 => ?_)
  · have hf := ite_t hf c_2
    refine W.widen (k := 0) (n := 0) (Nat.le_of_ble_eq_true rfl) (Nat.le_of_ble_eq_true rfl) ?_
    exact j10_1 _ _ _ hf hP hS (lv_sub hl [] rfl)
  · have hf := ite_f hf c_2
    refine lv_iload_n hx hb dX6_demandBlock_4 rfl (lv_at hl 0 rfl) ?_
    refine lv_bipush (v := 64) hx hb dX6_demandBlock_5 (by decide) ?_
    refine lv_icmp_lt (tgt := 21) hx hb dX6_demandBlock_7 (by decide) (fun c_3 => ?_) (fun c_3 => ?_)
    · have hf := ite_t hf c_3
      have eo := Option.some.inj hf
      have hP : va_P D cls (wI cI cZ cT a o.2.2) H := by rw [← eo]; exact hP
      rw [hQ]
      refine W.widen (k := 1) (n := 6) (Nat.le_of_ble_eq_true rfl) (Nat.le_of_ble_eq_true rfl) ?_
      exact vx_ret (W.vret hx hb hr (fun t ht hW => ⟨⟨(), rfl, (by rw [← eo]), P_at ht hP⟩, hS.F ht⟩) hS.2.2 dX6_demandBlock_21 hlocks)
    · have hf := ite_f hf c_3
      refine W.widen (k := 0) (n := 0) (Nat.le_of_ble_eq_true rfl) (Nat.le_of_ble_eq_true rfl) ?_
      exact j10_1 _ _ _ hf hP hS (lv_sub hl [] rfl)
set_option maxRecDepth 20000 in
theorem ggX6_bad_X2_isBad : GoodIn wsX6_bad wsX2_isBad := goodIn_r _ [12, 13, 14, 15, 11, 16, 32, 33] (by decide +kernel) (by decide +kernel)
set_option maxRecDepth 20000 in
theorem gX6_bad_X2_isBad : GoodIn wsX6_bad (wsV RX6 338 RX2 yX2_isBad wsX2_isBad) := goodIn_app (goodIn_of _ (by decide +kernel)) ggX6_bad_X2_isBad
set_option maxRecDepth 20000 in
theorem ggX6_bad_X2_setBad : GoodIn wsX6_bad wsX2_setBad := goodIn_r _ [20, 13, 14, 15, 11, 16, 32, 33] (by decide +kernel) (by decide +kernel)
set_option maxRecDepth 20000 in
theorem gX6_bad_X2_setBad : GoodIn wsX6_bad (wsV RX6 341 RX2 yX2_setBad wsX2_setBad) := goodIn_app (goodIn_of _ (by decide +kernel)) ggX6_bad_X2_setBad
set_option maxRecDepth 20000 in
theorem ggX6_bad_X6_demandBlock : GoodIn wsX6_bad wsX6_demandBlock := goodIn_ca (goodIn_r _ [5, 6, 7] (by decide +kernel) (by decide +kernel)) (goodIn_sub (fun _ h => List.mem_cons_of_mem _ (List.mem_append_right _ h)) (by decide +kernel))
set_option maxRecDepth 20000 in
theorem gX6_bad_X6_demandBlock : GoodIn wsX6_bad (va_wsS RX6 335 yX6_demandBlock wsX6_demandBlock) := goodIn_app (goodIn_of _ (by decide +kernel)) ggX6_bad_X6_demandBlock
theorem dX6_bad_0 : decode cX6_bad 0 = .ok (.iload_n 1, 1) := by decide +kernel
theorem dX6_bad_1 : decode cX6_bad 1 = .ok (.invokestatic 335, 3) := by decide +kernel
theorem dX6_bad_4 : decode cX6_bad 4 = .ok (.aload_n 0, 1) := by decide +kernel
theorem dX6_bad_5 : decode cX6_bad 5 = .ok (.getfield 37, 3) := by decide +kernel
theorem dX6_bad_8 : decode cX6_bad 8 = .ok (.iload_n 1, 1) := by decide +kernel
theorem dX6_bad_9 : decode cX6_bad 9 = .ok (.invokevirtual 338, 3) := by decide +kernel
theorem dX6_bad_12 : decode cX6_bad 12 = .ok (.istore_n 3, 1) := by decide +kernel
theorem dX6_bad_13 : decode cX6_bad 13 = .ok (.aload_n 0, 1) := by decide +kernel
theorem dX6_bad_14 : decode cX6_bad 14 = .ok (.getfield 37, 3) := by decide +kernel
theorem dX6_bad_17 : decode cX6_bad 17 = .ok (.iload_n 1, 1) := by decide +kernel
theorem dX6_bad_18 : decode cX6_bad 18 = .ok (.iload_n 2, 1) := by decide +kernel
theorem dX6_bad_19 : decode cX6_bad 19 = .ok (.invokevirtual 341, 3) := by decide +kernel
theorem dX6_bad_22 : decode cX6_bad 22 = .ok (.iload_n 3, 1) := by decide +kernel
theorem dX6_bad_23 : decode cX6_bad 23 = .ok (.ireturn, 1) := by decide +kernel
def f_X6_bad (U : S2) (p1 : Int32) (p2 : Int32) : Option (Nat × Int32 × S2) := bn (f_X6_demandBlock U p1) (fun z_1 => if z_1.1 = 0 then bn (f_X2_isBad (z_1.2.2 7) p1) (fun z_3 => bn (f_X2_setBad (z_1.2.2 7) p1 p2) (fun z_4 => bv (upc z_1.2.2 7 z_4) (fun u_5 => some (0, vp_nar .boolean z_3, u_5)))) else some (z_1.1, 0, z_1.2.2))
def rmX6_bad : Room := { frames := 7, cells := 1, slots := 6, locals := 110 }
set_option maxHeartbeats 4000000 in
set_option maxRecDepth 100000 in
theorem c_X6_bad (l : Launch) (hst : l.stackTraces = false) (D : va_G) (cI cZ cJ cT : ClassId) (a : Nat → Nat → Nat) (sz : Nat) (U : S2) (p1 : Int32) (p2 : Int32) (o : Nat × Int32 × S2) (hf : f_X6_bad U p1 p2 = some o) : vx_Met l yX6_bad wsX6_bad rmX6_bad (va_Pc [.ref (a 0 0), .int p1, .int p2] (PX D cls (tys cI cZ cJ cT) (wI cI cZ cT a U) sz)) (QXi D cls o.1 o.2.1 (wI cI cZ cT a o.2.2) (va_A (wI cI cZ cT a U) sz)) (XX D cls o.1 (wI cI cZ cT a o.2.2) (va_A (wI cI cZ cT a U) sz)) 1 6 (va_A (wI cI cZ cT a U) sz) := by
  refine vx_ofW (cc := cX6_bad) (maxL := 4) (ret := (some .boolean)) (by decide) rfl ?_
  intro p e s m args below meth c s₁ B hml hxt hv
  obtain ⟨hav, ⟨hsz, hP, hK, hD0⟩, hE⟩ := hv
  have hx := B.exec
  have hb := B.bytes
  have hr := B.returns
  have hlocks := B.notSynchronized
  have hts := atoms_spec (ws := wsX6_bad) B.pre
  have hown : s.vm.findClass RX6 = some m.cls := findClass_of_methodNamed B.named
  have i6 : ∀ w ∈ wsX60, w ∈ wsX6_bad := fun w h => List.mem_cons_of_mem _ (List.mem_append_left _ (List.mem_append_left _ (List.mem_append_right _ h)))
  have hk37 := hts (.fieldLink RX6 37 "Inodery" "disk" "LInodery$Disk;") (by decide +kernel)
  subst hsz
  have hD := hD0.self (sz := s.heap.size)
  generalize hAe : va_A (wI cI cZ cT a U) s.heap.size = A at hD hE ⊢
  have hA : ∀ q : Nat, s.heap.size ≤ q → A q := fun q h => by rw [← hAe]; exact Or.inr h
  have hS : va_S A s.heap s.heap [] := va_S.rf
  have hDD : ∀ V : S2, va_D A (wI cI cZ cT a V) := fun _ => D_same (w := (wI cI cZ cT a U)) rfl hD
  refine Wq (fun Q hQ => ?_)
  refine W_entry hav (Nat.le_of_ble_eq_true rfl) (fun ls hl => ?_)
  have hl : lv_has ls 4 [(0, .ref (a 0 0)), (1, .int p1), (2, .int p2)] := hl
  unfold f_X6_bad at hf
  refine W_heap hP hS (fun H locs hP hS => ?_)
  refine lv_iload_n hx hb dX6_bad_0 rfl (lv_at hl 1 rfl) ?_
  obtain ⟨z_1, hz_1, hf⟩ := bn_some hf
  refine cXSv (As := [.int p1]) (rest := []) ⟨hx, hb, hml, hown, hts⟩ (c_X6_demandBlock l hst D cI cZ cJ cT a H.size U p1 z_1 hz_1) (va_cwS 1 hts gX6_bad_X6_demandBlock rfl rfl rfl (by decide +kernel) ⟨Nat.le_of_ble_eq_true rfl, Nat.le_of_ble_eq_true rfl⟩) hP hK (hDD U) hE hS (own_free (hDD U) hS hA) rfl rfl hl.1 (Nat.le_of_ble_eq_true rfl) dX6_bad_1 ⟨Nat.le_of_ble_eq_true rfl, Nat.le_of_ble_eq_true rfl⟩ (fun E ce q9 H locs k_2 hE9 hP hS hce hcv hcl => ?_) (fun H locs k_2 hP hS => ?_)
  · have hf := ite_f hf k_2
    have eo := Option.some.inj hf
    have hP : va_P D cls (wI cI cZ cT a o.2.2) H := by rw [← eo]; exact hP
    rw [hQ]
    exact xout (k := o.1) hxt hlocks (by rw [← eo]; exact k_2) (by rw [← eo]; exact hE9) hP hS hce hcv hcl (Nat.le_of_ble_eq_true rfl) (Nat.le_of_ble_eq_true rfl)
  have hf := ite_t hf k_2
  refine lv_aload_n hx hb dX6_bad_4 rfl (lv_at hl 0 rfl) ?_
  refine va_get (D := D) (ci := 6) (v := .ref (a 7 0)) (C := RX6) (T := TX6) (N := 11) hx hb hts i6 hown hK (fl_sub hP 0 rfl) 0 rfl rfl 5 (by decide) hk37 (fun _ h9 => h9) rfl dX6_bad_5 ?_
  refine lv_iload_n hx hb dX6_bad_8 rfl (lv_at hl 1 rfl) ?_
  obtain ⟨z_3, hz_3, hf⟩ := bn_some hf
  refine cRV (As := [.int p1]) (rest := []) ⟨hx, hb, hml, hown, hts⟩ (c_X2_isBad l D cI cZ cJ cT (a 7) (z_1.2.2 7) p1 z_3 hz_3) (cwV 1 hts gX6_bad_X2_isBad rfl rfl rfl (by decide +kernel) ⟨Nat.le_of_ble_eq_true rfl, Nat.le_of_ble_eq_true rfl⟩) (fl_sub hP 7 rfl) hK (va_recv hK (fl_sub hP 7 rfl) (ci := 2) (q0 := 0) rfl rfl) rfl rfl hl.1 (Nat.le_of_ble_eq_true rfl) dX6_bad_9 ⟨Nat.le_of_ble_eq_true rfl, Nat.le_of_ble_eq_true rfl⟩ ?_
  refine lv_istore_n (lv' := [(3, .int z_3), (0, .ref (a 0 0)), (1, .int p1), (2, .int p2)]) hx hb dX6_bad_12 rfl hl (by decide) rfl (fun ls hl => ?_)
  refine lv_aload_n hx hb dX6_bad_13 rfl (lv_at hl 1 rfl) ?_
  refine va_get (D := D) (ci := 6) (v := .ref (a 7 0)) (C := RX6) (T := TX6) (N := 11) hx hb hts i6 hown hK (fl_sub hP 0 rfl) 0 rfl rfl 5 (by decide) hk37 (fun _ h9 => h9) rfl dX6_bad_14 ?_
  refine lv_iload_n hx hb dX6_bad_17 rfl (lv_at hl 2 rfl) ?_
  refine lv_iload_n hx hb dX6_bad_18 rfl (lv_at hl 3 rfl) ?_
  obtain ⟨z_4, hz_4, hf⟩ := bn_some hf
  refine cWVv (As := [.int p1, .int p2]) (rest := []) ⟨hx, hb, hml, hown, hts⟩ (c_X2_setBad l D cI cZ cJ cT (a 7) H.size (z_1.2.2 7) p1 p2 z_4 hz_4) (cwV 2 hts gX6_bad_X2_setBad rfl rfl rfl (by decide +kernel) ⟨Nat.le_of_ble_eq_true rfl, Nat.le_of_ble_eq_true rfl⟩) (fl_sub hP 7 rfl) hK (fl_subD (hDD z_1.2.2) 7 rfl) hS (fl_free (hDD z_1.2.2) hS hA 7 rfl) (va_recv hK (fl_sub hP 7 rfl) (ci := 2) (q0 := 0) rfl rfl) rfl rfl hl.1 (Nat.le_of_ble_eq_true rfl) dX6_bad_19 ⟨Nat.le_of_ble_eq_true rfl, Nat.le_of_ble_eq_true rfl⟩ (fun H1 locs hP1 hk1 hS => ?_)
  obtain ⟨u_5, hu_5, hf⟩ := bv_some hf
  have hP : va_P D cls (wI cI cZ cT a u_5) H1 := by rw [hu_5]; exact fl_join hP (hDD z_1.2.2) 7 rfl hk1 hP1
  clear hP1 hk1
  generalize H1 = H at hP hS ⊢
  refine lv_iload_n hx hb dX6_bad_22 rfl (lv_at hl 0 rfl) ?_
  have eo := Option.some.inj hf
  have hP : va_P D cls (wI cI cZ cT a o.2.2) H := by rw [← eo]; exact hP
  rw [hQ]
  refine W.widen (k := 1) (n := 6) (Nat.le_of_ble_eq_true rfl) (Nat.le_of_ble_eq_true rfl) ?_
  exact vx_ret (zretN (v := z_3) (v' := vp_nar .boolean z_3) hx hb hr rfl (fun t ht hW => ⟨⟨_, (), rfl, ⟨(by rw [← eo]), (by rw [← eo])⟩, P_at ht hP⟩, hS.F ht⟩) hS.2.2 dX6_bad_23 hlocks)
set_option maxRecDepth 20000 in
theorem ggX6_demandThing_X4_isThing : GoodIn wsX6_demandThing wsX4_isThing := goodIn_r _ [8, 9, 10, 11, 7, 12, 24, 25, 26, 27, 28, 29, 30, 31, 32, 33, 34, 35] (by decide +kernel) (by decide +kernel)
set_option maxRecDepth 20000 in
theorem gX6_demandThing_X4_isThing : GoodIn wsX6_demandThing (wsV RX6 409 RX4 yX4_isThing wsX4_isThing) := goodIn_app (goodIn_of _ (by decide +kernel)) ggX6_demandThing_X4_isThing
theorem dX6_demandThing_0 : decode cX6_demandThing 0 = .ok (.aload_n 0, 1) := by decide +kernel
theorem dX6_demandThing_1 : decode cX6_demandThing 1 = .ok (.getfield 12, 3) := by decide +kernel
theorem dX6_demandThing_4 : decode cX6_demandThing 4 = .ok (.iload_n 1, 1) := by decide +kernel
theorem dX6_demandThing_5 : decode cX6_demandThing 5 = .ok (.invokevirtual 409, 3) := by decide +kernel
theorem dX6_demandThing_8 : decode cX6_demandThing 8 = .ok (.ifCond .ne 13, 3) := by decide +kernel
theorem dX6_demandThing_11 : decode cX6_demandThing 11 = .ok (.new 74, 3) := by decide +kernel
theorem dX6_demandThing_14 : decode cX6_demandThing 14 = .ok (.dup, 1) := by decide +kernel
theorem dX6_demandThing_15 : decode cX6_demandThing 15 = .ok (.ldc 152, 2) := by decide +kernel
theorem dX6_demandThing_17 : decode cX6_demandThing 17 = .ok (.invokespecial 78, 3) := by decide +kernel
theorem dX6_demandThing_20 : decode cX6_demandThing 20 = .ok (.athrow, 1) := by decide +kernel
theorem dX6_demandThing_21 : decode cX6_demandThing 21 = .ok (.return_, 1) := by decide +kernel
def f_X6_demandThing (U : S2) (p1 : Int32) : Option (Nat × Int32 × S2) := bn (f_X4_isThing (U 1) p1) (fun z_1 => if z_1 = 0 then some (2, 0, U) else some (0, 0, U))
def rmX6_demandThing : Room := { frames := 6, cells := 1, slots := 6, locals := 90 }
set_option maxHeartbeats 4000000 in
set_option maxRecDepth 100000 in
theorem c_X6_demandThing (l : Launch) (hst : l.stackTraces = false) (D : va_G) (cI cZ cJ cT : ClassId) (a : Nat → Nat → Nat) (sz : Nat) (U : S2) (p1 : Int32) (o : Nat × Int32 × S2) (hf : f_X6_demandThing U p1 = some o) : vx_Met l yX6_demandThing wsX6_demandThing rmX6_demandThing (va_Pc [.ref (a 0 0), .int p1] (PX D cls (tys cI cZ cJ cT) (wI cI cZ cT a U) sz)) (QXv D cls o.1 (wI cI cZ cT a o.2.2) (va_A (wI cI cZ cT a U) sz)) (XX D cls o.1 (wI cI cZ cT a o.2.2) (va_A (wI cI cZ cT a U) sz)) 1 6 (va_A (wI cI cZ cT a U) sz) := by
  refine vx_ofW (cc := cX6_demandThing) (maxL := 2) (ret := none) (by decide) rfl ?_
  intro p e s m args below meth c s₁ B hml hxt hv
  obtain ⟨hav, ⟨hsz, hP, hK, hD0⟩, hE⟩ := hv
  have hx := B.exec
  have hb := B.bytes
  have hr := B.returns
  have hlocks := B.notSynchronized
  have hts := atoms_spec (ws := wsX6_demandThing) B.pre
  have hown : s.vm.findClass RX6 = some m.cls := findClass_of_methodNamed B.named
  have i6 : ∀ w ∈ wsX60, w ∈ wsX6_demandThing := fun w h => List.mem_cons_of_mem _ (List.mem_append_left _ (List.mem_append_left _ (List.mem_append_right _ h)))
  have hk12 := hts (.fieldLink RX6 12 "Inodery" "now" "LInodery$Tree;") (by decide +kernel)
  subst hsz
  have hD := hD0.self (sz := s.heap.size)
  generalize hAe : va_A (wI cI cZ cT a U) s.heap.size = A at hD hE ⊢
  have hA : ∀ q : Nat, s.heap.size ≤ q → A q := fun q h => by rw [← hAe]; exact Or.inr h
  have hS : va_S A s.heap s.heap [] := va_S.rf
  have hDD : ∀ V : S2, va_D A (wI cI cZ cT a V) := fun _ => D_same (w := (wI cI cZ cT a U)) rfl hD
  refine Wq (fun Q hQ => ?_)
  refine W_entry hav (Nat.le_of_ble_eq_true rfl) (fun ls hl => ?_)
  have hl : lv_has ls 2 [(0, .ref (a 0 0)), (1, .int p1)] := hl
  unfold f_X6_demandThing at hf
  refine W_heap hP hS (fun H locs hP hS => ?_)
  refine lv_aload_n hx hb dX6_demandThing_0 rfl (lv_at hl 0 rfl) ?_
  refine va_get (D := D) (ci := 6) (v := .ref (a 1 0)) (C := RX6) (T := TX6) (N := 11) hx hb hts i6 hown hK (fl_sub hP 0 rfl) 0 rfl rfl 0 (by decide) hk12 (fun _ h9 => h9) rfl dX6_demandThing_1 ?_
  refine lv_iload_n hx hb dX6_demandThing_4 rfl (lv_at hl 1 rfl) ?_
  obtain ⟨z_1, hz_1, hf⟩ := bn_some hf
  refine cRV (As := [.int p1]) (rest := []) ⟨hx, hb, hml, hown, hts⟩ (c_X4_isThing l D cI cZ cJ cT (a 1) (U 1) p1 z_1 hz_1) (cwV 1 hts gX6_demandThing_X4_isThing rfl rfl rfl (by decide +kernel) ⟨Nat.le_of_ble_eq_true rfl, Nat.le_of_ble_eq_true rfl⟩) (fl_sub hP 1 rfl) hK (va_recv hK (fl_sub hP 1 rfl) (ci := 4) (q0 := 0) rfl rfl) rfl rfl hl.1 (Nat.le_of_ble_eq_true rfl) dX6_demandThing_5 ⟨Nat.le_of_ble_eq_true rfl, Nat.le_of_ble_eq_true rfl⟩ ?_
  refine lv_if_ne (tgt := 21) hx hb dX6_demandThing_8 (by decide) (fun c_2 => ?_) (fun c_2 => ?_)
  · have hf := ite_f hf c_2
    have eo := Option.some.inj hf
    have hP : va_P D cls (wI cI cZ cT a o.2.2) H := by rw [← eo]; exact hP
    rw [hQ]
    refine W.widen (k := 1) (n := 6) (Nat.le_of_ble_eq_true rfl) (Nat.le_of_ble_eq_true rfl) ?_
    exact vx_ret (W.vret hx hb hr (fun t ht hW => ⟨⟨(), rfl, (by rw [← eo]), P_at ht hP⟩, hS.F ht⟩) hS.2.2 dX6_demandThing_21 hlocks)
  · have hf := ite_t hf c_2
    have eo := Option.some.inj hf
    have hP : va_P D cls (wI cI cZ cT a o.2.2) H := by rw [← eo]; exact hP
    rw [hQ]
    have hk0 : o.1 = 2 := by rw [← eo]
    exact thr o.1 (text := "no such thing") (by rw [hk0]; rfl) (by rw [hk0]; decide) hx hb hst hown (by decide +kernel) (hts (.classLink RX6 74 "java/lang/IndexOutOfBoundsException") (by decide +kernel)) (hts (.initialized "java/lang/IndexOutOfBoundsException") (by decide +kernel)) (fun w h => hts w (List.mem_cons_of_mem _ (List.mem_append_right _ h))) (EX_b2 hE) ok2 (by decide +kernel) hE hS hP (hl.1.trans hml.symm) dX6_demandThing_11 dX6_demandThing_14 dX6_demandThing_15 dX6_demandThing_17 dX6_demandThing_20 hxt (Nat.le_of_ble_eq_true rfl) (Nat.le_of_ble_eq_true rfl) (Nat.le_of_ble_eq_true rfl) (Nat.le_of_ble_eq_true rfl) hlocks (Nat.le_of_ble_eq_true rfl) (Nat.le_of_ble_eq_true rfl)
set_option maxRecDepth 20000 in
theorem ggX6_shareFirstPage_X0_letGo : GoodIn wsX6_shareFirstPage wsX0_letGo := goodIn_r _ [45, 46, 47, 48, 49, 44, 50, 74, 75, 76] (by decide +kernel) (by decide +kernel)
set_option maxRecDepth 20000 in
theorem gX6_shareFirstPage_X0_letGo : GoodIn wsX6_shareFirstPage (wsV RX6 269 RX0 yX0_letGo wsX0_letGo) := goodIn_app (goodIn_of _ (by decide +kernel)) ggX6_shareFirstPage_X0_letGo
set_option maxRecDepth 20000 in
theorem ggX6_shareFirstPage_X4_blockOf : GoodIn wsX6_shareFirstPage wsX4_blockOf := goodIn_r _ [29, 30, 23, 24, 8, 25, 15, 16, 17, 62, 63, 64, 65, 66, 67, 68, 69, 70, 71, 72, 73] (by decide +kernel) (by decide +kernel)
set_option maxRecDepth 20000 in
theorem gX6_shareFirstPage_X4_blockOf : GoodIn wsX6_shareFirstPage (wsV RX6 395 RX4 yX4_blockOf wsX4_blockOf) := goodIn_app (goodIn_of _ (by decide +kernel)) ggX6_shareFirstPage_X4_blockOf
set_option maxRecDepth 20000 in
theorem ggX6_shareFirstPage_X4_isOfKind : GoodIn wsX6_shareFirstPage wsX4_isOfKind := goodIn_r _ [9, 10, 11, 12, 13, 8, 14, 15, 16, 17, 62, 63, 64, 65, 66, 67, 68, 69, 70, 71, 72, 73] (by decide +kernel) (by decide +kernel)
set_option maxRecDepth 20000 in
theorem gX6_shareFirstPage_X4_isOfKind : GoodIn wsX6_shareFirstPage (wsV RX6 103 RX4 yX4_isOfKind wsX4_isOfKind) := goodIn_app (goodIn_of _ (by decide +kernel)) ggX6_shareFirstPage_X4_isOfKind
set_option maxRecDepth 20000 in
theorem ggX6_shareFirstPage_X4_pageKindOf : GoodIn wsX6_shareFirstPage wsX4_pageKindOf := goodIn_r _ [21, 22, 23, 24, 8, 25, 15, 16, 17, 62, 63, 64, 65, 66, 67, 68, 69, 70, 71, 72, 73] (by decide +kernel) (by decide +kernel)
set_option maxRecDepth 20000 in
theorem gX6_shareFirstPage_X4_pageKindOf : GoodIn wsX6_shareFirstPage (wsV RX6 263 RX4 yX4_pageKindOf wsX4_pageKindOf) := goodIn_app (goodIn_of _ (by decide +kernel)) ggX6_shareFirstPage_X4_pageKindOf
set_option maxRecDepth 20000 in
theorem ggX6_shareFirstPage_X4_setPage : GoodIn wsX6_shareFirstPage wsX4_setPage := goodIn_r _ [34, 30, 22, 23, 24, 8, 25, 15, 16, 17, 35, 36, 37, 38, 39, 40, 62, 63, 64, 65, 66, 67, 68, 69, 70, 71, 72, 73] (by decide +kernel) (by decide +kernel)
set_option maxRecDepth 20000 in
theorem gX6_shareFirstPage_X4_setPage : GoodIn wsX6_shareFirstPage (wsV RX6 230 RX4 yX4_setPage wsX4_setPage) := goodIn_app (goodIn_of _ (by decide +kernel)) ggX6_shareFirstPage_X4_setPage
theorem dX6_shareFirstPage_0 : decode cX6_shareFirstPage 0 = .ok (.aload_n 0, 1) := by decide +kernel
theorem dX6_shareFirstPage_1 : decode cX6_shareFirstPage 1 = .ok (.getfield 12, 3) := by decide +kernel
theorem dX6_shareFirstPage_4 : decode cX6_shareFirstPage 4 = .ok (.iload_n 1, 1) := by decide +kernel
theorem dX6_shareFirstPage_5 : decode cX6_shareFirstPage 5 = .ok (.iconst 0, 1) := by decide +kernel
theorem dX6_shareFirstPage_6 : decode cX6_shareFirstPage 6 = .ok (.invokevirtual 103, 3) := by decide +kernel
theorem dX6_shareFirstPage_9 : decode cX6_shareFirstPage 9 = .ok (.ifCond .eq 19, 3) := by decide +kernel
theorem dX6_shareFirstPage_12 : decode cX6_shareFirstPage 12 = .ok (.aload_n 0, 1) := by decide +kernel
theorem dX6_shareFirstPage_13 : decode cX6_shareFirstPage 13 = .ok (.getfield 12, 3) := by decide +kernel
theorem dX6_shareFirstPage_16 : decode cX6_shareFirstPage 16 = .ok (.iload_n 2, 1) := by decide +kernel
theorem dX6_shareFirstPage_17 : decode cX6_shareFirstPage 17 = .ok (.iconst 0, 1) := by decide +kernel
theorem dX6_shareFirstPage_18 : decode cX6_shareFirstPage 18 = .ok (.invokevirtual 103, 3) := by decide +kernel
theorem dX6_shareFirstPage_21 : decode cX6_shareFirstPage 21 = .ok (.ifCond .eq 7, 3) := by decide +kernel
theorem dX6_shareFirstPage_24 : decode cX6_shareFirstPage 24 = .ok (.iconst 1, 1) := by decide +kernel
theorem dX6_shareFirstPage_25 : decode cX6_shareFirstPage 25 = .ok (.goto 4, 3) := by decide +kernel
theorem dX6_shareFirstPage_28 : decode cX6_shareFirstPage 28 = .ok (.iconst 0, 1) := by decide +kernel
theorem dX6_shareFirstPage_29 : decode cX6_shareFirstPage 29 = .ok (.istore_n 3, 1) := by decide +kernel
theorem dX6_shareFirstPage_30 : decode cX6_shareFirstPage 30 = .ok (.iload_n 3, 1) := by decide +kernel
theorem dX6_shareFirstPage_31 : decode cX6_shareFirstPage 31 = .ok (.ifCond .eq 20, 3) := by decide +kernel
theorem dX6_shareFirstPage_34 : decode cX6_shareFirstPage 34 = .ok (.iload_n 1, 1) := by decide +kernel
theorem dX6_shareFirstPage_35 : decode cX6_shareFirstPage 35 = .ok (.iload_n 2, 1) := by decide +kernel
theorem dX6_shareFirstPage_36 : decode cX6_shareFirstPage 36 = .ok (.if_icmp .eq 15, 3) := by decide +kernel
theorem dX6_shareFirstPage_39 : decode cX6_shareFirstPage 39 = .ok (.aload_n 0, 1) := by decide +kernel
theorem dX6_shareFirstPage_40 : decode cX6_shareFirstPage 40 = .ok (.getfield 12, 3) := by decide +kernel
theorem dX6_shareFirstPage_43 : decode cX6_shareFirstPage 43 = .ok (.iload_n 2, 1) := by decide +kernel
theorem dX6_shareFirstPage_44 : decode cX6_shareFirstPage 44 = .ok (.iconst 0, 1) := by decide +kernel
theorem dX6_shareFirstPage_45 : decode cX6_shareFirstPage 45 = .ok (.invokevirtual 263, 3) := by decide +kernel
theorem dX6_shareFirstPage_48 : decode cX6_shareFirstPage 48 = .ok (.ifCond .ne 14, 3) := by decide +kernel
theorem dX6_shareFirstPage_51 : decode cX6_shareFirstPage 51 = .ok (.new 110, 3) := by decide +kernel
theorem dX6_shareFirstPage_54 : decode cX6_shareFirstPage 54 = .ok (.dup, 1) := by decide +kernel
theorem dX6_shareFirstPage_55 : decode cX6_shareFirstPage 55 = .ok (.ldc_w 467, 3) := by decide +kernel
theorem dX6_shareFirstPage_58 : decode cX6_shareFirstPage 58 = .ok (.invokespecial 114, 3) := by decide +kernel
theorem dX6_shareFirstPage_61 : decode cX6_shareFirstPage 61 = .ok (.athrow, 1) := by decide +kernel
theorem dX6_shareFirstPage_62 : decode cX6_shareFirstPage 62 = .ok (.aload_n 0, 1) := by decide +kernel
theorem dX6_shareFirstPage_63 : decode cX6_shareFirstPage 63 = .ok (.getfield 12, 3) := by decide +kernel
theorem dX6_shareFirstPage_66 : decode cX6_shareFirstPage 66 = .ok (.iload_n 1, 1) := by decide +kernel
theorem dX6_shareFirstPage_67 : decode cX6_shareFirstPage 67 = .ok (.iconst 0, 1) := by decide +kernel
theorem dX6_shareFirstPage_68 : decode cX6_shareFirstPage 68 = .ok (.iconst 2, 1) := by decide +kernel
theorem dX6_shareFirstPage_69 : decode cX6_shareFirstPage 69 = .ok (.aload_n 0, 1) := by decide +kernel
theorem dX6_shareFirstPage_70 : decode cX6_shareFirstPage 70 = .ok (.getfield 12, 3) := by decide +kernel
theorem dX6_shareFirstPage_73 : decode cX6_shareFirstPage 73 = .ok (.iload_n 2, 1) := by decide +kernel
theorem dX6_shareFirstPage_74 : decode cX6_shareFirstPage 74 = .ok (.iconst 0, 1) := by decide +kernel
theorem dX6_shareFirstPage_75 : decode cX6_shareFirstPage 75 = .ok (.invokevirtual 395, 3) := by decide +kernel
theorem dX6_shareFirstPage_78 : decode cX6_shareFirstPage 78 = .ok (.invokevirtual 230, 3) := by decide +kernel
theorem dX6_shareFirstPage_81 : decode cX6_shareFirstPage 81 = .ok (.aload_n 0, 1) := by decide +kernel
theorem dX6_shareFirstPage_82 : decode cX6_shareFirstPage 82 = .ok (.getfield 44, 3) := by decide +kernel
theorem dX6_shareFirstPage_85 : decode cX6_shareFirstPage 85 = .ok (.iload_n 1, 1) := by decide +kernel
theorem dX6_shareFirstPage_86 : decode cX6_shareFirstPage 86 = .ok (.iconst 0, 1) := by decide +kernel
theorem dX6_shareFirstPage_87 : decode cX6_shareFirstPage 87 = .ok (.invokevirtual 269, 3) := by decide +kernel
theorem dX6_shareFirstPage_90 : decode cX6_shareFirstPage 90 = .ok (.return_, 1) := by decide +kernel
def f_X6_shareFirstPage (U : S2) (p1 : Int32) (p2 : Int32) : Option (Nat × Int32 × S2) := bn (f_X4_isOfKind (U 1) p1 0) (fun z_1 => jn (fun (v29_2_0 : Int32) => jn (some (3, 0, U)) (fun k51_3 => if v29_2_0 = 0 then k51_3 else if p1 = p2 then k51_3 else bn (f_X4_pageKindOf (U 1) p2 0) (fun z_6 => if z_6 = 0 then k51_3 else bn (f_X4_blockOf (U 1) p2 0) (fun z_8 => bn (f_X4_setPage (U 1) p1 0 2 z_8) (fun z_9 => bv (upc U 1 z_9) (fun u_10 => bn (f_X0_letGo (u_10 8) p1 0) (fun z_11 => bv (upc u_10 8 z_11) (fun u_12 => some (0, 0, u_12))))))))) (fun k29_2 => jn (k29_2 0) (fun k28_13 => if z_1 = 0 then k28_13 else bn (f_X4_isOfKind (U 1) p2 0) (fun z_15 => if z_15 = 0 then k28_13 else k29_2 1))))
def rmX6_shareFirstPage : Room := { frames := 6, cells := 1, slots := 6, locals := 90 }
set_option maxHeartbeats 4000000 in
set_option maxRecDepth 100000 in
theorem c_X6_shareFirstPage (l : Launch) (hst : l.stackTraces = false) (D : va_G) (cI cZ cJ cT : ClassId) (a : Nat → Nat → Nat) (sz : Nat) (U : S2) (p1 : Int32) (p2 : Int32) (o : Nat × Int32 × S2) (hf : f_X6_shareFirstPage U p1 p2 = some o) : vx_Met l yX6_shareFirstPage wsX6_shareFirstPage rmX6_shareFirstPage (va_Pc [.ref (a 0 0), .int p1, .int p2] (PX D cls (tys cI cZ cJ cT) (wI cI cZ cT a U) sz)) (QXv D cls o.1 (wI cI cZ cT a o.2.2) (va_A (wI cI cZ cT a U) sz)) (XX D cls o.1 (wI cI cZ cT a o.2.2) (va_A (wI cI cZ cT a U) sz)) 1 6 (va_A (wI cI cZ cT a U) sz) := by
  refine vx_ofW (cc := cX6_shareFirstPage) (maxL := 4) (ret := none) (by decide) rfl ?_
  intro p e s m args below meth c s₁ B hml hxt hv
  obtain ⟨hav, ⟨hsz, hP, hK, hD0⟩, hE⟩ := hv
  have hx := B.exec
  have hb := B.bytes
  have hr := B.returns
  have hlocks := B.notSynchronized
  have hts := atoms_spec (ws := wsX6_shareFirstPage) B.pre
  have hown : s.vm.findClass RX6 = some m.cls := findClass_of_methodNamed B.named
  have i6 : ∀ w ∈ wsX60, w ∈ wsX6_shareFirstPage := fun w h => List.mem_cons_of_mem _ (List.mem_append_left _ (List.mem_append_left _ (List.mem_append_left _ (List.mem_append_right _ h))))
  have hk12 := hts (.fieldLink RX6 12 "Inodery" "now" "LInodery$Tree;") (by decide +kernel)
  have hk44 := hts (.fieldLink RX6 44 "Inodery" "cache" "LInodery$Cache;") (by decide +kernel)
  subst hsz
  have hD := hD0.self (sz := s.heap.size)
  generalize hAe : va_A (wI cI cZ cT a U) s.heap.size = A at hD hE ⊢
  have hA : ∀ q : Nat, s.heap.size ≤ q → A q := fun q h => by rw [← hAe]; exact Or.inr h
  have hS : va_S A s.heap s.heap [] := va_S.rf
  have hDD : ∀ V : S2, va_D A (wI cI cZ cT a V) := fun _ => D_same (w := (wI cI cZ cT a U)) rfl hD
  refine Wq (fun Q hQ => ?_)
  refine W_entry hav (Nat.le_of_ble_eq_true rfl) (fun ls hl => ?_)
  have hl : lv_has ls 4 [(0, .ref (a 0 0)), (1, .int p1), (2, .int p2)] := hl
  unfold f_X6_shareFirstPage at hf
  refine W_heap hP hS (fun H locs hP hS => ?_)
  refine lv_aload_n hx hb dX6_shareFirstPage_0 rfl (lv_at hl 0 rfl) ?_
  refine va_get (D := D) (ci := 6) (v := .ref (a 1 0)) (C := RX6) (T := TX6) (N := 11) hx hb hts i6 hown hK (fl_sub hP 0 rfl) 0 rfl rfl 0 (by decide) hk12 (fun _ h9 => h9) rfl dX6_shareFirstPage_1 ?_
  refine lv_iload_n hx hb dX6_shareFirstPage_4 rfl (lv_at hl 1 rfl) ?_
  refine lv_iconst (v := 0) hx hb dX6_shareFirstPage_5 (by decide) ?_
  obtain ⟨z_1, hz_1, hf⟩ := bn_some hf
  refine cRV (As := [.int p1, .int 0]) (rest := []) ⟨hx, hb, hml, hown, hts⟩ (c_X4_isOfKind l D cI cZ cJ cT (a 1) (U 1) p1 0 z_1 hz_1) (cwV 2 hts gX6_shareFirstPage_X4_isOfKind rfl rfl rfl (by decide +kernel) ⟨Nat.le_of_ble_eq_true rfl, Nat.le_of_ble_eq_true rfl⟩) (fl_sub hP 1 rfl) hK (va_recv hK (fl_sub hP 1 rfl) (ci := 4) (q0 := 0) rfl rfl) rfl rfl hl.1 (Nat.le_of_ble_eq_true rfl) dX6_shareFirstPage_6 ⟨Nat.le_of_ble_eq_true rfl, Nat.le_of_ble_eq_true rfl⟩ ?_
  obtain ⟨k29_2, hk29_2, hf⟩ := jn_some hf
  have j29_2 : ∀ (v29_2_0 : Int32) (H : Heap) (locs : List Loc) (ls : Array Slot), k29_2 v29_2_0 = some o → va_P D cls (wI cI cZ cT a U) H → va_S A s.heap H locs → lv_has ls 4 [(0, .ref (a 0 0)), (1, .int p1), (2, .int p2)] → W p l e (headSpec wsX6_shareFirstPage rmX6_shareFirstPage).room s m args below meth c H locs 0 0 Q (F0 m 29 ls [.int v29_2_0]) := by
    intro v29_2_0 H locs ls hf hP hS hl
    have hf := qa1 hk29_2 hf
    refine lv_istore_n (lv' := [(3, .int v29_2_0), (0, .ref (a 0 0)), (1, .int p1), (2, .int p2)]) hx hb dX6_shareFirstPage_29 rfl hl (by decide) rfl (fun ls hl => ?_)
    refine lv_iload_n hx hb dX6_shareFirstPage_30 rfl (lv_at hl 0 rfl) ?_
    obtain ⟨k51_3, hk51_3, hf⟩ := jn_some hf
    have j51_3 : ∀ (H : Heap) (locs : List Loc) (ls : Array Slot), k51_3 = some o → va_P D cls (wI cI cZ cT a U) H → va_S A s.heap H locs → lv_has ls 4 [] → W p l e (headSpec wsX6_shareFirstPage rmX6_shareFirstPage).room s m args below meth c H locs 0 0 Q (F0 m 51 ls []) := by
      intro H locs ls hf hP hS hl
      have hf := qa0 hk51_3 hf
      have eo := Option.some.inj hf
      have hP : va_P D cls (wI cI cZ cT a o.2.2) H := by rw [← eo]; exact hP
      rw [hQ]
      have hk0 : o.1 = 3 := by rw [← eo]
      exact thrW o.1 (text := "no two files with a block to share") (by rw [hk0]; rfl) (by rw [hk0]; decide) hx hb hst hown (by decide +kernel) (hts (.classLink RX6 110 "java/lang/IllegalStateException") (by decide +kernel)) (hts (.initialized "java/lang/IllegalStateException") (by decide +kernel)) (fun w h => hts w (List.mem_cons_of_mem _ (List.mem_append_right _ h))) (EX_b3 hE) ok3 (by decide +kernel) hE hS hP (hl.1.trans hml.symm) dX6_shareFirstPage_51 dX6_shareFirstPage_54 dX6_shareFirstPage_55 dX6_shareFirstPage_58 dX6_shareFirstPage_61 hxt (Nat.le_of_ble_eq_true rfl) (Nat.le_of_ble_eq_true rfl) (Nat.le_of_ble_eq_true rfl) (Nat.le_of_ble_eq_true rfl) hlocks (Nat.le_of_ble_eq_true rfl) (Nat.le_of_ble_eq_true rfl)
    refine lv_if_eq (tgt := 51) hx hb dX6_shareFirstPage_31 (by decide) (fun c_4 => ?_) (fun c_4 => ?_)
    · have hf := ite_t hf c_4
      refine W.widen (k := 0) (n := 0) (Nat.le_of_ble_eq_true rfl) (Nat.le_of_ble_eq_true rfl) ?_
      exact j51_3 _ _ _ hf hP hS (lv_sub hl [] rfl)
    · have hf := ite_f hf c_4
      refine lv_iload_n hx hb dX6_shareFirstPage_34 rfl (lv_at hl 2 rfl) ?_
      refine lv_iload_n hx hb dX6_shareFirstPage_35 rfl (lv_at hl 3 rfl) ?_
      refine lv_icmp_eq (tgt := 51) hx hb dX6_shareFirstPage_36 (by decide) (fun c_5 => ?_) (fun c_5 => ?_)
      · have hf := ite_t hf c_5
        refine W.widen (k := 0) (n := 0) (Nat.le_of_ble_eq_true rfl) (Nat.le_of_ble_eq_true rfl) ?_
        exact j51_3 _ _ _ hf hP hS (lv_sub hl [] rfl)
      · have hf := ite_f hf c_5
        refine lv_aload_n hx hb dX6_shareFirstPage_39 rfl (lv_at hl 1 rfl) ?_
        refine va_get (D := D) (ci := 6) (v := .ref (a 1 0)) (C := RX6) (T := TX6) (N := 11) hx hb hts i6 hown hK (fl_sub hP 0 rfl) 0 rfl rfl 0 (by decide) hk12 (fun _ h9 => h9) rfl dX6_shareFirstPage_40 ?_
        refine lv_iload_n hx hb dX6_shareFirstPage_43 rfl (lv_at hl 3 rfl) ?_
        refine lv_iconst (v := 0) hx hb dX6_shareFirstPage_44 (by decide) ?_
        obtain ⟨z_6, hz_6, hf⟩ := bn_some hf
        refine cRV (As := [.int p2, .int 0]) (rest := []) ⟨hx, hb, hml, hown, hts⟩ (c_X4_pageKindOf l D cI cZ cJ cT (a 1) (U 1) p2 0 z_6 hz_6) (cwV 2 hts gX6_shareFirstPage_X4_pageKindOf rfl rfl rfl (by decide +kernel) ⟨Nat.le_of_ble_eq_true rfl, Nat.le_of_ble_eq_true rfl⟩) (fl_sub hP 1 rfl) hK (va_recv hK (fl_sub hP 1 rfl) (ci := 4) (q0 := 0) rfl rfl) rfl rfl hl.1 (Nat.le_of_ble_eq_true rfl) dX6_shareFirstPage_45 ⟨Nat.le_of_ble_eq_true rfl, Nat.le_of_ble_eq_true rfl⟩ ?_
        refine lv_if_ne (tgt := 62) hx hb dX6_shareFirstPage_48 (by decide) (fun c_7 => ?_) (fun c_7 => ?_)
        · have hf := ite_f hf c_7
          refine lv_aload_n hx hb dX6_shareFirstPage_62 rfl (lv_at hl 1 rfl) ?_
          refine va_get (D := D) (ci := 6) (v := .ref (a 1 0)) (C := RX6) (T := TX6) (N := 11) hx hb hts i6 hown hK (fl_sub hP 0 rfl) 0 rfl rfl 0 (by decide) hk12 (fun _ h9 => h9) rfl dX6_shareFirstPage_63 ?_
          refine lv_iload_n hx hb dX6_shareFirstPage_66 rfl (lv_at hl 2 rfl) ?_
          refine lv_iconst (v := 0) hx hb dX6_shareFirstPage_67 (by decide) ?_
          refine lv_iconst (v := 2) hx hb dX6_shareFirstPage_68 (by decide) ?_
          refine lv_aload_n hx hb dX6_shareFirstPage_69 rfl (lv_at hl 1 rfl) ?_
          refine va_get (D := D) (ci := 6) (v := .ref (a 1 0)) (C := RX6) (T := TX6) (N := 11) hx hb hts i6 hown hK (fl_sub hP 0 rfl) 0 rfl rfl 0 (by decide) hk12 (fun _ h9 => h9) rfl dX6_shareFirstPage_70 ?_
          refine lv_iload_n hx hb dX6_shareFirstPage_73 rfl (lv_at hl 3 rfl) ?_
          refine lv_iconst (v := 0) hx hb dX6_shareFirstPage_74 (by decide) ?_
          obtain ⟨z_8, hz_8, hf⟩ := bn_some hf
          refine cRV (As := [.int p2, .int 0]) (rest := [.int 2, .int 0, .int p1, .ref (a 1 0)]) ⟨hx, hb, hml, hown, hts⟩ (c_X4_blockOf l D cI cZ cJ cT (a 1) (U 1) p2 0 z_8 hz_8) (cwV 2 hts gX6_shareFirstPage_X4_blockOf rfl rfl rfl (by decide +kernel) ⟨Nat.le_of_ble_eq_true rfl, Nat.le_of_ble_eq_true rfl⟩) (fl_sub hP 1 rfl) hK (va_recv hK (fl_sub hP 1 rfl) (ci := 4) (q0 := 0) rfl rfl) rfl rfl hl.1 (Nat.le_of_ble_eq_true rfl) dX6_shareFirstPage_75 ⟨Nat.le_of_ble_eq_true rfl, Nat.le_of_ble_eq_true rfl⟩ ?_
          obtain ⟨z_9, hz_9, hf⟩ := bn_some hf
          refine cWVv (As := [.int p1, .int 0, .int 2, .int z_8]) (rest := []) ⟨hx, hb, hml, hown, hts⟩ (c_X4_setPage l D cI cZ cJ cT (a 1) H.size (U 1) p1 0 2 z_8 z_9 hz_9) (cwV 4 hts gX6_shareFirstPage_X4_setPage rfl rfl rfl (by decide +kernel) ⟨Nat.le_of_ble_eq_true rfl, Nat.le_of_ble_eq_true rfl⟩) (fl_sub hP 1 rfl) hK (fl_subD (hDD U) 1 rfl) hS (fl_free (hDD U) hS hA 1 rfl) (va_recv hK (fl_sub hP 1 rfl) (ci := 4) (q0 := 0) rfl rfl) rfl rfl hl.1 (Nat.le_of_ble_eq_true rfl) dX6_shareFirstPage_78 ⟨Nat.le_of_ble_eq_true rfl, Nat.le_of_ble_eq_true rfl⟩ (fun H1 locs hP1 hk1 hS => ?_)
          obtain ⟨u_10, hu_10, hf⟩ := bv_some hf
          have hP : va_P D cls (wI cI cZ cT a u_10) H1 := by rw [hu_10]; exact fl_join hP (hDD U) 1 rfl hk1 hP1
          clear hP1 hk1
          generalize H1 = H at hP hS ⊢
          refine lv_aload_n hx hb dX6_shareFirstPage_81 rfl (lv_at hl 1 rfl) ?_
          refine va_get (D := D) (ci := 6) (v := .ref (a 8 0)) (C := RX6) (T := TX6) (N := 11) hx hb hts i6 hown hK (fl_sub hP 0 rfl) 0 rfl rfl 6 (by decide) hk44 (fun _ h9 => h9) rfl dX6_shareFirstPage_82 ?_
          refine lv_iload_n hx hb dX6_shareFirstPage_85 rfl (lv_at hl 2 rfl) ?_
          refine lv_iconst (v := 0) hx hb dX6_shareFirstPage_86 (by decide) ?_
          obtain ⟨z_11, hz_11, hf⟩ := bn_some hf
          refine cWVv (As := [.int p1, .int 0]) (rest := []) ⟨hx, hb, hml, hown, hts⟩ (c_X0_letGo l D cI cZ cJ cT (a 8) H.size (u_10 8) p1 0 z_11 hz_11) (cwV 2 hts gX6_shareFirstPage_X0_letGo rfl rfl rfl (by decide +kernel) ⟨Nat.le_of_ble_eq_true rfl, Nat.le_of_ble_eq_true rfl⟩) (fl_sub hP 8 rfl) hK (fl_subD (hDD u_10) 8 rfl) hS (fl_free (hDD u_10) hS hA 8 rfl) (va_recv hK (fl_sub hP 8 rfl) (ci := 0) (q0 := 0) rfl rfl) rfl rfl hl.1 (Nat.le_of_ble_eq_true rfl) dX6_shareFirstPage_87 ⟨Nat.le_of_ble_eq_true rfl, Nat.le_of_ble_eq_true rfl⟩ (fun H1 locs hP1 hk1 hS => ?_)
          obtain ⟨u_12, hu_12, hf⟩ := bv_some hf
          have hP : va_P D cls (wI cI cZ cT a u_12) H1 := by rw [hu_12]; exact fl_join hP (hDD u_10) 8 rfl hk1 hP1
          clear hP1 hk1
          generalize H1 = H at hP hS ⊢
          have eo := Option.some.inj hf
          have hP : va_P D cls (wI cI cZ cT a o.2.2) H := by rw [← eo]; exact hP
          rw [hQ]
          refine W.widen (k := 1) (n := 6) (Nat.le_of_ble_eq_true rfl) (Nat.le_of_ble_eq_true rfl) ?_
          exact vx_ret (W.vret hx hb hr (fun t ht hW => ⟨⟨(), rfl, (by rw [← eo]), P_at ht hP⟩, hS.F ht⟩) hS.2.2 dX6_shareFirstPage_90 hlocks)
        · have hf := ite_t hf c_7
          refine W.widen (k := 0) (n := 0) (Nat.le_of_ble_eq_true rfl) (Nat.le_of_ble_eq_true rfl) ?_
          exact j51_3 _ _ _ hf hP hS (lv_sub hl [] rfl)
  obtain ⟨k28_13, hk28_13, hf⟩ := jn_some hf
  have j28_13 : ∀ (H : Heap) (locs : List Loc) (ls : Array Slot), k28_13 = some o → va_P D cls (wI cI cZ cT a U) H → va_S A s.heap H locs → lv_has ls 4 [(0, .ref (a 0 0)), (1, .int p1), (2, .int p2)] → W p l e (headSpec wsX6_shareFirstPage rmX6_shareFirstPage).room s m args below meth c H locs 0 0 Q (F0 m 28 ls []) := by
    intro H locs ls hf hP hS hl
    have hf := qa0 hk28_13 hf
    refine lv_iconst (v := 0) hx hb dX6_shareFirstPage_28 (by decide) ?_
    refine W.widen (k := 0) (n := 0) (Nat.le_of_ble_eq_true rfl) (Nat.le_of_ble_eq_true rfl) ?_
    exact j29_2 _ _ _ _ hf hP hS (lv_sub hl [0, 1, 2] rfl)
  refine lv_if_eq (tgt := 28) hx hb dX6_shareFirstPage_9 (by decide) (fun c_14 => ?_) (fun c_14 => ?_)
  · have hf := ite_t hf c_14
    refine W.widen (k := 0) (n := 0) (Nat.le_of_ble_eq_true rfl) (Nat.le_of_ble_eq_true rfl) ?_
    exact j28_13 _ _ _ hf hP hS (lv_sub hl [0, 1, 2] rfl)
  · have hf := ite_f hf c_14
    refine lv_aload_n hx hb dX6_shareFirstPage_12 rfl (lv_at hl 0 rfl) ?_
    refine va_get (D := D) (ci := 6) (v := .ref (a 1 0)) (C := RX6) (T := TX6) (N := 11) hx hb hts i6 hown hK (fl_sub hP 0 rfl) 0 rfl rfl 0 (by decide) hk12 (fun _ h9 => h9) rfl dX6_shareFirstPage_13 ?_
    refine lv_iload_n hx hb dX6_shareFirstPage_16 rfl (lv_at hl 2 rfl) ?_
    refine lv_iconst (v := 0) hx hb dX6_shareFirstPage_17 (by decide) ?_
    obtain ⟨z_15, hz_15, hf⟩ := bn_some hf
    refine cRV (As := [.int p2, .int 0]) (rest := []) ⟨hx, hb, hml, hown, hts⟩ (c_X4_isOfKind l D cI cZ cJ cT (a 1) (U 1) p2 0 z_15 hz_15) (cwV 2 hts gX6_shareFirstPage_X4_isOfKind rfl rfl rfl (by decide +kernel) ⟨Nat.le_of_ble_eq_true rfl, Nat.le_of_ble_eq_true rfl⟩) (fl_sub hP 1 rfl) hK (va_recv hK (fl_sub hP 1 rfl) (ci := 4) (q0 := 0) rfl rfl) rfl rfl hl.1 (Nat.le_of_ble_eq_true rfl) dX6_shareFirstPage_18 ⟨Nat.le_of_ble_eq_true rfl, Nat.le_of_ble_eq_true rfl⟩ ?_
    refine lv_if_eq (tgt := 28) hx hb dX6_shareFirstPage_21 (by decide) (fun c_16 => ?_) (fun c_16 => ?_)
    · have hf := ite_t hf c_16
      refine W.widen (k := 0) (n := 0) (Nat.le_of_ble_eq_true rfl) (Nat.le_of_ble_eq_true rfl) ?_
      exact j28_13 _ _ _ hf hP hS (lv_sub hl [0, 1, 2] rfl)
    · have hf := ite_f hf c_16
      refine lv_iconst (v := 1) hx hb dX6_shareFirstPage_24 (by decide) ?_
      refine lv_goto (tgt := 29) hx hb dX6_shareFirstPage_25 (by decide) ?_
      refine W.widen (k := 0) (n := 0) (Nat.le_of_ble_eq_true rfl) (Nat.le_of_ble_eq_true rfl) ?_
      exact j29_2 _ _ _ _ hf hP hS (lv_sub hl [0, 1, 2] rfl)
set_option maxRecDepth 20000 in
theorem ggX6_loseFirstEntry_X4_entryName : GoodIn wsX6_loseFirstEntry wsX4_entryName := goodIn_r _ [16, 17, 18, 19, 20, 7, 21, 9, 51, 52, 53, 54, 55, 56, 57, 58, 59, 60, 61, 62] (by decide +kernel) (by decide +kernel)
set_option maxRecDepth 20000 in
theorem gX6_loseFirstEntry_X4_entryName : GoodIn wsX6_loseFirstEntry (wsV RX6 387 RX4 yX4_entryName wsX4_entryName) := goodIn_app (goodIn_of _ (by decide +kernel)) ggX6_loseFirstEntry_X4_entryName
set_option maxRecDepth 20000 in
theorem ggX6_loseFirstEntry_X4_sizeOf : GoodIn wsX6_loseFirstEntry wsX4_sizeOf := goodIn_r _ [8, 9, 10, 11, 7, 12, 51, 52, 53, 54, 55, 56, 57, 58, 59, 60, 61, 62] (by decide +kernel) (by decide +kernel)
set_option maxRecDepth 20000 in
theorem gX6_loseFirstEntry_X4_sizeOf : GoodIn wsX6_loseFirstEntry (wsV RX6 154 RX4 yX4_sizeOf wsX4_sizeOf) := goodIn_app (goodIn_of _ (by decide +kernel)) ggX6_loseFirstEntry_X4_sizeOf
set_option maxRecDepth 20000 in
theorem ggX6_loseFirstEntry_X4_takeEntry : GoodIn wsX6_loseFirstEntry wsX4_takeEntry := goodIn_r _ [25, 9, 26, 27, 28, 7, 29, 17, 18, 19, 20, 21, 10, 11, 12, 30, 14, 15, 16, 31, 32, 33, 34, 35, 36, 37, 38, 39, 51, 52, 53, 54, 55, 56, 57, 58, 59, 60, 61, 62] (by decide +kernel) (by decide +kernel)
set_option maxRecDepth 20000 in
theorem gX6_loseFirstEntry_X4_takeEntry : GoodIn wsX6_loseFirstEntry (wsV RX6 144 RX4 yX4_takeEntry wsX4_takeEntry) := goodIn_app (goodIn_of _ (by decide +kernel)) ggX6_loseFirstEntry_X4_takeEntry
theorem dX6_loseFirstEntry_0 : decode cX6_loseFirstEntry 0 = .ok (.aload_n 0, 1) := by decide +kernel
theorem dX6_loseFirstEntry_1 : decode cX6_loseFirstEntry 1 = .ok (.getfield 12, 3) := by decide +kernel
theorem dX6_loseFirstEntry_4 : decode cX6_loseFirstEntry 4 = .ok (.iload_n 1, 1) := by decide +kernel
theorem dX6_loseFirstEntry_5 : decode cX6_loseFirstEntry 5 = .ok (.invokevirtual 154, 3) := by decide +kernel
theorem dX6_loseFirstEntry_8 : decode cX6_loseFirstEntry 8 = .ok (.ifCond .ne 14, 3) := by decide +kernel
theorem dX6_loseFirstEntry_11 : decode cX6_loseFirstEntry 11 = .ok (.new 110, 3) := by decide +kernel
theorem dX6_loseFirstEntry_14 : decode cX6_loseFirstEntry 14 = .ok (.dup, 1) := by decide +kernel
theorem dX6_loseFirstEntry_15 : decode cX6_loseFirstEntry 15 = .ok (.ldc_w 469, 3) := by decide +kernel
theorem dX6_loseFirstEntry_18 : decode cX6_loseFirstEntry 18 = .ok (.invokespecial 114, 3) := by decide +kernel
theorem dX6_loseFirstEntry_21 : decode cX6_loseFirstEntry 21 = .ok (.athrow, 1) := by decide +kernel
theorem dX6_loseFirstEntry_22 : decode cX6_loseFirstEntry 22 = .ok (.aload_n 0, 1) := by decide +kernel
theorem dX6_loseFirstEntry_23 : decode cX6_loseFirstEntry 23 = .ok (.getfield 12, 3) := by decide +kernel
theorem dX6_loseFirstEntry_26 : decode cX6_loseFirstEntry 26 = .ok (.iload_n 1, 1) := by decide +kernel
theorem dX6_loseFirstEntry_27 : decode cX6_loseFirstEntry 27 = .ok (.aload_n 0, 1) := by decide +kernel
theorem dX6_loseFirstEntry_28 : decode cX6_loseFirstEntry 28 = .ok (.getfield 12, 3) := by decide +kernel
theorem dX6_loseFirstEntry_31 : decode cX6_loseFirstEntry 31 = .ok (.iload_n 1, 1) := by decide +kernel
theorem dX6_loseFirstEntry_32 : decode cX6_loseFirstEntry 32 = .ok (.iconst 0, 1) := by decide +kernel
theorem dX6_loseFirstEntry_33 : decode cX6_loseFirstEntry 33 = .ok (.invokevirtual 387, 3) := by decide +kernel
theorem dX6_loseFirstEntry_36 : decode cX6_loseFirstEntry 36 = .ok (.invokevirtual 144, 3) := by decide +kernel
theorem dX6_loseFirstEntry_39 : decode cX6_loseFirstEntry 39 = .ok (.return_, 1) := by decide +kernel
def f_X6_loseFirstEntry (U : S2) (p1 : Int32) : Option (Nat × Int32 × S2) := bn (f_X4_sizeOf (U 1) p1) (fun z_1 => if z_1 = 0 then some (3, 0, U) else bn (f_X4_entryName (U 1) p1 0) (fun z_3 => bn (f_X4_takeEntry (U 1) p1 z_3) (fun z_4 => bv (upc U 1 z_4) (fun u_5 => some (0, 0, u_5)))))
def rmX6_loseFirstEntry : Room := { frames := 6, cells := 1, slots := 6, locals := 90 }
set_option maxHeartbeats 4000000 in
set_option maxRecDepth 100000 in
theorem c_X6_loseFirstEntry (l : Launch) (hst : l.stackTraces = false) (D : va_G) (cI cZ cJ cT : ClassId) (a : Nat → Nat → Nat) (sz : Nat) (U : S2) (p1 : Int32) (o : Nat × Int32 × S2) (hf : f_X6_loseFirstEntry U p1 = some o) : vx_Met l yX6_loseFirstEntry wsX6_loseFirstEntry rmX6_loseFirstEntry (va_Pc [.ref (a 0 0), .int p1] (PX D cls (tys cI cZ cJ cT) (wI cI cZ cT a U) sz)) (QXv D cls o.1 (wI cI cZ cT a o.2.2) (va_A (wI cI cZ cT a U) sz)) (XX D cls o.1 (wI cI cZ cT a o.2.2) (va_A (wI cI cZ cT a U) sz)) 1 6 (va_A (wI cI cZ cT a U) sz) := by
  refine vx_ofW (cc := cX6_loseFirstEntry) (maxL := 2) (ret := none) (by decide) rfl ?_
  intro p e s m args below meth c s₁ B hml hxt hv
  obtain ⟨hav, ⟨hsz, hP, hK, hD0⟩, hE⟩ := hv
  have hx := B.exec
  have hb := B.bytes
  have hr := B.returns
  have hlocks := B.notSynchronized
  have hts := atoms_spec (ws := wsX6_loseFirstEntry) B.pre
  have hown : s.vm.findClass RX6 = some m.cls := findClass_of_methodNamed B.named
  have i6 : ∀ w ∈ wsX60, w ∈ wsX6_loseFirstEntry := fun w h => List.mem_cons_of_mem _ (List.mem_append_left _ (List.mem_append_left _ (List.mem_append_right _ h)))
  have hk12 := hts (.fieldLink RX6 12 "Inodery" "now" "LInodery$Tree;") (by decide +kernel)
  subst hsz
  have hD := hD0.self (sz := s.heap.size)
  generalize hAe : va_A (wI cI cZ cT a U) s.heap.size = A at hD hE ⊢
  have hA : ∀ q : Nat, s.heap.size ≤ q → A q := fun q h => by rw [← hAe]; exact Or.inr h
  have hS : va_S A s.heap s.heap [] := va_S.rf
  have hDD : ∀ V : S2, va_D A (wI cI cZ cT a V) := fun _ => D_same (w := (wI cI cZ cT a U)) rfl hD
  refine Wq (fun Q hQ => ?_)
  refine W_entry hav (Nat.le_of_ble_eq_true rfl) (fun ls hl => ?_)
  have hl : lv_has ls 2 [(0, .ref (a 0 0)), (1, .int p1)] := hl
  unfold f_X6_loseFirstEntry at hf
  refine W_heap hP hS (fun H locs hP hS => ?_)
  refine lv_aload_n hx hb dX6_loseFirstEntry_0 rfl (lv_at hl 0 rfl) ?_
  refine va_get (D := D) (ci := 6) (v := .ref (a 1 0)) (C := RX6) (T := TX6) (N := 11) hx hb hts i6 hown hK (fl_sub hP 0 rfl) 0 rfl rfl 0 (by decide) hk12 (fun _ h9 => h9) rfl dX6_loseFirstEntry_1 ?_
  refine lv_iload_n hx hb dX6_loseFirstEntry_4 rfl (lv_at hl 1 rfl) ?_
  obtain ⟨z_1, hz_1, hf⟩ := bn_some hf
  refine cRV (As := [.int p1]) (rest := []) ⟨hx, hb, hml, hown, hts⟩ (c_X4_sizeOf l D cI cZ cJ cT (a 1) (U 1) p1 z_1 hz_1) (cwV 1 hts gX6_loseFirstEntry_X4_sizeOf rfl rfl rfl (by decide +kernel) ⟨Nat.le_of_ble_eq_true rfl, Nat.le_of_ble_eq_true rfl⟩) (fl_sub hP 1 rfl) hK (va_recv hK (fl_sub hP 1 rfl) (ci := 4) (q0 := 0) rfl rfl) rfl rfl hl.1 (Nat.le_of_ble_eq_true rfl) dX6_loseFirstEntry_5 ⟨Nat.le_of_ble_eq_true rfl, Nat.le_of_ble_eq_true rfl⟩ ?_
  refine lv_if_ne (tgt := 22) hx hb dX6_loseFirstEntry_8 (by decide) (fun c_2 => ?_) (fun c_2 => ?_)
  · have hf := ite_f hf c_2
    refine lv_aload_n hx hb dX6_loseFirstEntry_22 rfl (lv_at hl 0 rfl) ?_
    refine va_get (D := D) (ci := 6) (v := .ref (a 1 0)) (C := RX6) (T := TX6) (N := 11) hx hb hts i6 hown hK (fl_sub hP 0 rfl) 0 rfl rfl 0 (by decide) hk12 (fun _ h9 => h9) rfl dX6_loseFirstEntry_23 ?_
    refine lv_iload_n hx hb dX6_loseFirstEntry_26 rfl (lv_at hl 1 rfl) ?_
    refine lv_aload_n hx hb dX6_loseFirstEntry_27 rfl (lv_at hl 0 rfl) ?_
    refine va_get (D := D) (ci := 6) (v := .ref (a 1 0)) (C := RX6) (T := TX6) (N := 11) hx hb hts i6 hown hK (fl_sub hP 0 rfl) 0 rfl rfl 0 (by decide) hk12 (fun _ h9 => h9) rfl dX6_loseFirstEntry_28 ?_
    refine lv_iload_n hx hb dX6_loseFirstEntry_31 rfl (lv_at hl 1 rfl) ?_
    refine lv_iconst (v := 0) hx hb dX6_loseFirstEntry_32 (by decide) ?_
    obtain ⟨z_3, hz_3, hf⟩ := bn_some hf
    refine cRV (As := [.int p1, .int 0]) (rest := [.int p1, .ref (a 1 0)]) ⟨hx, hb, hml, hown, hts⟩ (c_X4_entryName l D cI cZ cJ cT (a 1) (U 1) p1 0 z_3 hz_3) (cwV 2 hts gX6_loseFirstEntry_X4_entryName rfl rfl rfl (by decide +kernel) ⟨Nat.le_of_ble_eq_true rfl, Nat.le_of_ble_eq_true rfl⟩) (fl_sub hP 1 rfl) hK (va_recv hK (fl_sub hP 1 rfl) (ci := 4) (q0 := 0) rfl rfl) rfl rfl hl.1 (Nat.le_of_ble_eq_true rfl) dX6_loseFirstEntry_33 ⟨Nat.le_of_ble_eq_true rfl, Nat.le_of_ble_eq_true rfl⟩ ?_
    obtain ⟨z_4, hz_4, hf⟩ := bn_some hf
    refine cWVv (As := [.int p1, .int z_3]) (rest := []) ⟨hx, hb, hml, hown, hts⟩ (c_X4_takeEntry l D cI cZ cJ cT (a 1) H.size (U 1) p1 z_3 z_4 hz_4) (cwV 2 hts gX6_loseFirstEntry_X4_takeEntry rfl rfl rfl (by decide +kernel) ⟨Nat.le_of_ble_eq_true rfl, Nat.le_of_ble_eq_true rfl⟩) (fl_sub hP 1 rfl) hK (fl_subD (hDD U) 1 rfl) hS (fl_free (hDD U) hS hA 1 rfl) (va_recv hK (fl_sub hP 1 rfl) (ci := 4) (q0 := 0) rfl rfl) rfl rfl hl.1 (Nat.le_of_ble_eq_true rfl) dX6_loseFirstEntry_36 ⟨Nat.le_of_ble_eq_true rfl, Nat.le_of_ble_eq_true rfl⟩ (fun H1 locs hP1 hk1 hS => ?_)
    obtain ⟨u_5, hu_5, hf⟩ := bv_some hf
    have hP : va_P D cls (wI cI cZ cT a u_5) H1 := by rw [hu_5]; exact fl_join hP (hDD U) 1 rfl hk1 hP1
    clear hP1 hk1
    generalize H1 = H at hP hS ⊢
    have eo := Option.some.inj hf
    have hP : va_P D cls (wI cI cZ cT a o.2.2) H := by rw [← eo]; exact hP
    rw [hQ]
    refine W.widen (k := 1) (n := 6) (Nat.le_of_ble_eq_true rfl) (Nat.le_of_ble_eq_true rfl) ?_
    exact vx_ret (W.vret hx hb hr (fun t ht hW => ⟨⟨(), rfl, (by rw [← eo]), P_at ht hP⟩, hS.F ht⟩) hS.2.2 dX6_loseFirstEntry_39 hlocks)
  · have hf := ite_t hf c_2
    have eo := Option.some.inj hf
    have hP : va_P D cls (wI cI cZ cT a o.2.2) H := by rw [← eo]; exact hP
    rw [hQ]
    have hk0 : o.1 = 3 := by rw [← eo]
    exact thrW o.1 (text := "no folder, or no entry") (by rw [hk0]; rfl) (by rw [hk0]; decide) hx hb hst hown (by decide +kernel) (hts (.classLink RX6 110 "java/lang/IllegalStateException") (by decide +kernel)) (hts (.initialized "java/lang/IllegalStateException") (by decide +kernel)) (fun w h => hts w (List.mem_cons_of_mem _ (List.mem_append_right _ h))) (EX_b3 hE) ok3 (by decide +kernel) hE hS hP (hl.1.trans hml.symm) dX6_loseFirstEntry_11 dX6_loseFirstEntry_14 dX6_loseFirstEntry_15 dX6_loseFirstEntry_18 dX6_loseFirstEntry_21 hxt (Nat.le_of_ble_eq_true rfl) (Nat.le_of_ble_eq_true rfl) (Nat.le_of_ble_eq_true rfl) (Nat.le_of_ble_eq_true rfl) hlocks (Nat.le_of_ble_eq_true rfl) (Nat.le_of_ble_eq_true rfl)
set_option maxRecDepth 20000 in
theorem ggX6_damage_X4_countOf : GoodIn wsX6_damage wsX4_countOf := goodIn_r _ [23, 24, 17, 18, 14, 19, 121, 122, 123, 124, 125, 126, 127, 128, 129, 130, 131, 132] (by decide +kernel) (by decide +kernel)
set_option maxRecDepth 20000 in
theorem gX6_damage_X4_countOf : GoodIn wsX6_damage (wsV RX6 119 RX4 yX4_countOf wsX4_countOf) := goodIn_app (goodIn_of _ (by decide +kernel)) ggX6_damage_X4_countOf
set_option maxRecDepth 20000 in
theorem ggX6_damage_X4_setCount : GoodIn wsX6_damage wsX4_setCount := goodIn_r _ [28, 24, 17, 18, 14, 19, 121, 122, 123, 124, 125, 126, 127, 128, 129, 130, 131, 132] (by decide +kernel) (by decide +kernel)
set_option maxRecDepth 20000 in
theorem gX6_damage_X4_setCount : GoodIn wsX6_damage (wsV RX6 122 RX4 yX4_setCount wsX4_setCount) := goodIn_app (goodIn_of _ (by decide +kernel)) ggX6_damage_X4_setCount
set_option maxRecDepth 20000 in
theorem ggX6_damage_X6_demandThing : GoodIn wsX6_damage wsX6_demandThing := goodIn_ca (goodIn_r _ [8, 9, 10, 3, 11, 12, 13, 14, 15, 16, 17, 18, 19, 110, 111, 112, 113, 114, 115, 116, 117, 118, 119, 120, 121, 122, 123, 124, 125, 126, 127, 128, 129, 130, 131, 132] (by decide +kernel) (by decide +kernel)) (goodIn_sub (fun _ h => List.mem_cons_of_mem _ (List.mem_append_left _ (List.mem_append_right _ h))) (by decide +kernel))
set_option maxRecDepth 20000 in
theorem gX6_damage_X6_demandThing : GoodIn wsX6_damage (wsV RX6 347 RX6 yX6_demandThing wsX6_demandThing) := goodIn_app (goodIn_of _ (by decide +kernel)) ggX6_damage_X6_demandThing
set_option maxRecDepth 20000 in
theorem ggX6_damage_X6_loseFirstEntry : GoodIn wsX6_damage wsX6_loseFirstEntry := goodIn_ca (goodIn_r _ [77, 33, 34, 3, 78, 79, 80, 14, 81, 82, 17, 18, 19, 83, 84, 85, 86, 87, 88, 89, 90, 91, 92, 93, 94, 95, 96, 97, 98, 99, 100, 101, 102, 103, 104, 105, 106, 107, 108, 109, 110, 111, 112, 113, 114, 115, 116, 117, 118, 119, 120, 121, 122, 123, 124, 125, 126, 127, 128, 129, 130, 131, 132] (by decide +kernel) (by decide +kernel)) (goodIn_sub (fun _ h => List.mem_cons_of_mem _ (List.mem_append_right _ h)) (by decide +kernel))
set_option maxRecDepth 20000 in
theorem gX6_damage_X6_loseFirstEntry : GoodIn wsX6_damage (wsV RX6 353 RX6 yX6_loseFirstEntry wsX6_loseFirstEntry) := goodIn_app (goodIn_of _ (by decide +kernel)) ggX6_damage_X6_loseFirstEntry
set_option maxRecDepth 20000 in
theorem ggX6_damage_X6_shareFirstPage : GoodIn wsX6_damage wsX6_shareFirstPage := goodIn_ca (goodIn_r _ [32, 33, 34, 3, 35, 36, 37, 38, 14, 39, 16, 40, 12, 13, 15, 17, 18, 19, 41, 42, 43, 44, 45, 46, 47, 48, 49, 50, 51, 52, 53, 54, 55, 56, 57, 58, 59, 60, 61, 62, 63, 64, 65, 66, 67, 68, 69, 70, 71, 72, 73, 110, 111, 112, 113, 114, 115, 116, 117, 118, 119, 120, 121, 122, 123, 124, 125, 126, 127, 128, 129, 130, 131, 132, 133, 134, 135] (by decide +kernel) (by decide +kernel)) (goodIn_sub (fun _ h => List.mem_cons_of_mem _ (List.mem_append_right _ h)) (by decide +kernel))
set_option maxRecDepth 20000 in
theorem gX6_damage_X6_shareFirstPage : GoodIn wsX6_damage (wsV RX6 350 RX6 yX6_shareFirstPage wsX6_shareFirstPage) := goodIn_app (goodIn_of _ (by decide +kernel)) ggX6_damage_X6_shareFirstPage
theorem dX6_damage_0 : decode cX6_damage 0 = .ok (.iload_n 1, 1) := by decide +kernel
theorem dX6_damage_1 : decode cX6_damage 1 = .ok (.ifCond .lt 8, 3) := by decide +kernel
theorem dX6_damage_4 : decode cX6_damage 4 = .ok (.iload_n 1, 1) := by decide +kernel
theorem dX6_damage_5 : decode cX6_damage 5 = .ok (.iconst 2, 1) := by decide +kernel
theorem dX6_damage_6 : decode cX6_damage 6 = .ok (.if_icmp .le 14, 3) := by decide +kernel
theorem dX6_damage_9 : decode cX6_damage 9 = .ok (.new 88, 3) := by decide +kernel
theorem dX6_damage_12 : decode cX6_damage 12 = .ok (.dup, 1) := by decide +kernel
theorem dX6_damage_13 : decode cX6_damage 13 = .ok (.ldc_w 345, 3) := by decide +kernel
theorem dX6_damage_16 : decode cX6_damage 16 = .ok (.invokespecial 92, 3) := by decide +kernel
theorem dX6_damage_19 : decode cX6_damage 19 = .ok (.athrow, 1) := by decide +kernel
theorem dX6_damage_20 : decode cX6_damage 20 = .ok (.aload_n 0, 1) := by decide +kernel
theorem dX6_damage_21 : decode cX6_damage 21 = .ok (.iload_n 2, 1) := by decide +kernel
theorem dX6_damage_22 : decode cX6_damage 22 = .ok (.invokevirtual 347, 3) := by decide +kernel
theorem dX6_damage_25 : decode cX6_damage 25 = .ok (.iload_n 1, 1) := by decide +kernel
theorem dX6_damage_26 : decode cX6_damage 26 = .ok (.ifCond .ne 24, 3) := by decide +kernel
theorem dX6_damage_29 : decode cX6_damage 29 = .ok (.aload_n 0, 1) := by decide +kernel
theorem dX6_damage_30 : decode cX6_damage 30 = .ok (.getfield 12, 3) := by decide +kernel
theorem dX6_damage_33 : decode cX6_damage 33 = .ok (.iload_n 2, 1) := by decide +kernel
theorem dX6_damage_34 : decode cX6_damage 34 = .ok (.aload_n 0, 1) := by decide +kernel
theorem dX6_damage_35 : decode cX6_damage 35 = .ok (.getfield 12, 3) := by decide +kernel
theorem dX6_damage_38 : decode cX6_damage 38 = .ok (.iload_n 2, 1) := by decide +kernel
theorem dX6_damage_39 : decode cX6_damage 39 = .ok (.invokevirtual 119, 3) := by decide +kernel
theorem dX6_damage_42 : decode cX6_damage 42 = .ok (.iconst 1, 1) := by decide +kernel
theorem dX6_damage_43 : decode cX6_damage 43 = .ok (.iadd, 1) := by decide +kernel
theorem dX6_damage_44 : decode cX6_damage 44 = .ok (.invokevirtual 122, 3) := by decide +kernel
theorem dX6_damage_47 : decode cX6_damage 47 = .ok (.goto 27, 3) := by decide +kernel
theorem dX6_damage_50 : decode cX6_damage 50 = .ok (.iload_n 1, 1) := by decide +kernel
theorem dX6_damage_51 : decode cX6_damage 51 = .ok (.iconst 1, 1) := by decide +kernel
theorem dX6_damage_52 : decode cX6_damage 52 = .ok (.if_icmp .ne 17, 3) := by decide +kernel
theorem dX6_damage_55 : decode cX6_damage 55 = .ok (.aload_n 0, 1) := by decide +kernel
theorem dX6_damage_56 : decode cX6_damage 56 = .ok (.iload_n 3, 1) := by decide +kernel
theorem dX6_damage_57 : decode cX6_damage 57 = .ok (.invokevirtual 347, 3) := by decide +kernel
theorem dX6_damage_60 : decode cX6_damage 60 = .ok (.aload_n 0, 1) := by decide +kernel
theorem dX6_damage_61 : decode cX6_damage 61 = .ok (.iload_n 2, 1) := by decide +kernel
theorem dX6_damage_62 : decode cX6_damage 62 = .ok (.iload_n 3, 1) := by decide +kernel
theorem dX6_damage_63 : decode cX6_damage 63 = .ok (.invokevirtual 350, 3) := by decide +kernel
theorem dX6_damage_66 : decode cX6_damage 66 = .ok (.goto 8, 3) := by decide +kernel
theorem dX6_damage_69 : decode cX6_damage 69 = .ok (.aload_n 0, 1) := by decide +kernel
theorem dX6_damage_70 : decode cX6_damage 70 = .ok (.iload_n 2, 1) := by decide +kernel
theorem dX6_damage_71 : decode cX6_damage 71 = .ok (.invokevirtual 353, 3) := by decide +kernel
theorem dX6_damage_74 : decode cX6_damage 74 = .ok (.return_, 1) := by decide +kernel
def f_X6_damage (U : S2) (p1 : Int32) (p2 : Int32) (p3 : Int32) : Option (Nat × Int32 × S2) := jn (some (1, 0, U)) (fun k9_1 => if p1 < 0 then k9_1 else if p1 ≤ 2 then bn (f_X6_demandThing U p2) (fun z_4 => if z_4.1 = 0 then jn (fun (u74_6_0 : S2) => some (0, 0, u74_6_0)) (fun k74_6 => if p1 = 0 then bn (f_X4_countOf (z_4.2.2 1) p2) (fun z_15 => bn (f_X4_setCount (z_4.2.2 1) p2 (z_15 + 1)) (fun z_16 => bv (upc z_4.2.2 1 z_16) (fun u_17 => k74_6 u_17))) else if p1 = 1 then bn (f_X6_demandThing z_4.2.2 p3) (fun z_11 => if z_11.1 = 0 then bn (f_X6_shareFirstPage z_11.2.2 p2 p3) (fun z_13 => if z_13.1 = 0 then k74_6 z_13.2.2 else some (z_13.1, 0, z_13.2.2)) else some (z_11.1, 0, z_11.2.2)) else bn (f_X6_loseFirstEntry z_4.2.2 p2) (fun z_9 => if z_9.1 = 0 then k74_6 z_9.2.2 else some (z_9.1, 0, z_9.2.2))) else some (z_4.1, 0, z_4.2.2)) else k9_1)
def rmX6_damage : Room := { frames := 7, cells := 3, slots := 18, locals := 113 }
set_option maxHeartbeats 4000000 in
set_option maxRecDepth 100000 in
theorem c_X6_damage (l : Launch) (hst : l.stackTraces = false) (D : va_G) (cI cZ cJ cT : ClassId) (a : Nat → Nat → Nat) (sz : Nat) (U : S2) (p1 : Int32) (p2 : Int32) (p3 : Int32) (o : Nat × Int32 × S2) (hf : f_X6_damage U p1 p2 p3 = some o) : vx_Met l yX6_damage wsX6_damage rmX6_damage (va_Pc [.ref (a 0 0), .int p1, .int p2, .int p3] (PX D cls (tys cI cZ cJ cT) (wI cI cZ cT a U) sz)) (QXv D cls o.1 (wI cI cZ cT a o.2.2) (va_A (wI cI cZ cT a U) sz)) (XX D cls o.1 (wI cI cZ cT a o.2.2) (va_A (wI cI cZ cT a U) sz)) 3 18 (va_A (wI cI cZ cT a U) sz) := by
  refine vx_ofW (cc := cX6_damage) (maxL := 4) (ret := none) (by decide) rfl ?_
  intro p e s m args below meth c s₁ B hml hxt hv
  obtain ⟨hav, ⟨hsz, hP, hK, hD0⟩, hE⟩ := hv
  have hx := B.exec
  have hb := B.bytes
  have hr := B.returns
  have hlocks := B.notSynchronized
  have hts := atoms_spec (ws := wsX6_damage) B.pre
  have hown : s.vm.findClass RX6 = some m.cls := findClass_of_methodNamed B.named
  have i6 : ∀ w ∈ wsX60, w ∈ wsX6_damage := fun w h => List.mem_cons_of_mem _ (List.mem_append_left _ (List.mem_append_left _ (List.mem_append_left _ (List.mem_append_left _ (List.mem_append_left _ (List.mem_append_right _ h))))))
  have hk12 := hts (.fieldLink RX6 12 "Inodery" "now" "LInodery$Tree;") (by decide +kernel)
  subst hsz
  have hD := hD0.self (sz := s.heap.size)
  generalize hAe : va_A (wI cI cZ cT a U) s.heap.size = A at hD hE ⊢
  have hA : ∀ q : Nat, s.heap.size ≤ q → A q := fun q h => by rw [← hAe]; exact Or.inr h
  have hS : va_S A s.heap s.heap [] := va_S.rf
  have hDD : ∀ V : S2, va_D A (wI cI cZ cT a V) := fun _ => D_same (w := (wI cI cZ cT a U)) rfl hD
  refine Wq (fun Q hQ => ?_)
  refine W_entry hav (Nat.le_of_ble_eq_true rfl) (fun ls hl => ?_)
  have hl : lv_has ls 4 [(0, .ref (a 0 0)), (1, .int p1), (2, .int p2), (3, .int p3)] := hl
  unfold f_X6_damage at hf
  refine W_heap hP hS (fun H locs hP hS => ?_)
  refine lv_iload_n hx hb dX6_damage_0 rfl (lv_at hl 1 rfl) ?_
  obtain ⟨k9_1, hk9_1, hf⟩ := jn_some hf
  have j9_1 : ∀ (H : Heap) (locs : List Loc) (ls : Array Slot), k9_1 = some o → va_P D cls (wI cI cZ cT a U) H → va_S A s.heap H locs → lv_has ls 4 [] → W p l e (headSpec wsX6_damage rmX6_damage).room s m args below meth c H locs 0 0 Q (F0 m 9 ls []) := by
    intro H locs ls hf hP hS hl
    have hf := qa0 hk9_1 hf
    have eo := Option.some.inj hf
    have hP : va_P D cls (wI cI cZ cT a o.2.2) H := by rw [← eo]; exact hP
    rw [hQ]
    have hk0 : o.1 = 1 := by rw [← eo]
    exact thrW o.1 (text := "what is out of range") (by rw [hk0]; rfl) (by rw [hk0]; decide) hx hb hst hown (by decide +kernel) (hts (.classLink RX6 88 "java/lang/IllegalArgumentException") (by decide +kernel)) (hts (.initialized "java/lang/IllegalArgumentException") (by decide +kernel)) (fun w h => hts w (List.mem_cons_of_mem _ (List.mem_append_left _ (List.mem_append_left _ (List.mem_append_right _ h))))) (EX_b1 hE) ok1 (by decide +kernel) hE hS hP (hl.1.trans hml.symm) dX6_damage_9 dX6_damage_12 dX6_damage_13 dX6_damage_16 dX6_damage_19 hxt (Nat.le_of_ble_eq_true rfl) (Nat.le_of_ble_eq_true rfl) (Nat.le_of_ble_eq_true rfl) (Nat.le_of_ble_eq_true rfl) hlocks (Nat.le_of_ble_eq_true rfl) (Nat.le_of_ble_eq_true rfl)
  refine lv_if_lt (tgt := 9) hx hb dX6_damage_1 (by decide) (fun c_2 => ?_) (fun c_2 => ?_)
  · have hf := ite_t hf c_2
    refine W.widen (k := 0) (n := 0) (Nat.le_of_ble_eq_true rfl) (Nat.le_of_ble_eq_true rfl) ?_
    exact j9_1 _ _ _ hf hP hS (lv_sub hl [] rfl)
  · have hf := ite_f hf c_2
    refine lv_iload_n hx hb dX6_damage_4 rfl (lv_at hl 1 rfl) ?_
    refine lv_iconst (v := 2) hx hb dX6_damage_5 (by decide) ?_
    refine lv_icmp_le (tgt := 20) hx hb dX6_damage_6 (by decide) (fun c_3 => ?_) (fun c_3 => ?_)
    · have hf := ite_t hf c_3
      refine lv_aload_n hx hb dX6_damage_20 rfl (lv_at hl 0 rfl) ?_
      refine lv_iload_n hx hb dX6_damage_21 rfl (lv_at hl 2 rfl) ?_
      obtain ⟨z_4, hz_4, hf⟩ := bn_some hf
      refine cXVv (As := [.int p2]) (rest := []) ⟨hx, hb, hml, hown, hts⟩ (c_X6_demandThing l hst D cI cZ cJ cT a H.size U p2 z_4 hz_4) (cwV 1 hts gX6_damage_X6_demandThing rfl rfl rfl (by decide +kernel) ⟨Nat.le_of_ble_eq_true rfl, Nat.le_of_ble_eq_true rfl⟩) hP hK (hDD U) hE hS (own_free (hDD U) hS hA) (va_recv hK (fl_sub hP 0 rfl) (ci := 6) (q0 := 0) rfl rfl) rfl rfl hl.1 (Nat.le_of_ble_eq_true rfl) dX6_damage_22 ⟨Nat.le_of_ble_eq_true rfl, Nat.le_of_ble_eq_true rfl⟩ (fun E ce q9 H locs k_5 hE9 hP hS hce hcv hcl => ?_) (fun H locs k_5 hP hS => ?_)
      · have hf := ite_f hf k_5
        have eo := Option.some.inj hf
        have hP : va_P D cls (wI cI cZ cT a o.2.2) H := by rw [← eo]; exact hP
        rw [hQ]
        exact xout (k := o.1) hxt hlocks (by rw [← eo]; exact k_5) (by rw [← eo]; exact hE9) hP hS hce hcv hcl (Nat.le_of_ble_eq_true rfl) (Nat.le_of_ble_eq_true rfl)
      have hf := ite_t hf k_5
      refine lv_iload_n hx hb dX6_damage_25 rfl (lv_at hl 1 rfl) ?_
      obtain ⟨k74_6, hk74_6, hf⟩ := jn_some hf
      have j74_6 : ∀ (u74_6_0 : S2) (H : Heap) (locs : List Loc) (ls : Array Slot), k74_6 u74_6_0 = some o → va_P D cls (wI cI cZ cT a u74_6_0) H → va_S A s.heap H locs → lv_has ls 4 [] → W p l e (headSpec wsX6_damage rmX6_damage).room s m args below meth c H locs 3 18 Q (F0 m 74 ls []) := by
        intro u74_6_0 H locs ls hf hP hS hl
        have hf := qa1 hk74_6 hf
        have eo := Option.some.inj hf
        have hP : va_P D cls (wI cI cZ cT a o.2.2) H := by rw [← eo]; exact hP
        rw [hQ]
        refine W.widen (k := 3) (n := 18) (Nat.le_of_ble_eq_true rfl) (Nat.le_of_ble_eq_true rfl) ?_
        exact vx_ret (W.vret hx hb hr (fun t ht hW => ⟨⟨(), rfl, (by rw [← eo]), P_at ht hP⟩, hS.F ht⟩) hS.2.2 dX6_damage_74 hlocks)
      refine lv_if_ne (tgt := 50) hx hb dX6_damage_26 (by decide) (fun c_7 => ?_) (fun c_7 => ?_)
      · have hf := ite_f hf c_7
        refine lv_iload_n hx hb dX6_damage_50 rfl (lv_at hl 1 rfl) ?_
        refine lv_iconst (v := 1) hx hb dX6_damage_51 (by decide) ?_
        refine lv_icmp_ne (tgt := 69) hx hb dX6_damage_52 (by decide) (fun c_8 => ?_) (fun c_8 => ?_)
        · have hf := ite_f hf c_8
          refine lv_aload_n hx hb dX6_damage_69 rfl (lv_at hl 0 rfl) ?_
          refine lv_iload_n hx hb dX6_damage_70 rfl (lv_at hl 2 rfl) ?_
          obtain ⟨z_9, hz_9, hf⟩ := bn_some hf
          refine cXVv (As := [.int p2]) (rest := []) ⟨hx, hb, hml, hown, hts⟩ (c_X6_loseFirstEntry l hst D cI cZ cJ cT a H.size z_4.2.2 p2 z_9 hz_9) (cwV 1 hts gX6_damage_X6_loseFirstEntry rfl rfl rfl (by decide +kernel) ⟨Nat.le_of_ble_eq_true rfl, Nat.le_of_ble_eq_true rfl⟩) hP hK (hDD z_4.2.2) hE hS (own_free (hDD z_4.2.2) hS hA) (va_recv hK (fl_sub hP 0 rfl) (ci := 6) (q0 := 0) rfl rfl) rfl rfl hl.1 (Nat.le_of_ble_eq_true rfl) dX6_damage_71 ⟨Nat.le_of_ble_eq_true rfl, Nat.le_of_ble_eq_true rfl⟩ (fun E ce q9 H locs k_10 hE9 hP hS hce hcv hcl => ?_) (fun H locs k_10 hP hS => ?_)
          · have hf := ite_f hf k_10
            have eo := Option.some.inj hf
            have hP : va_P D cls (wI cI cZ cT a o.2.2) H := by rw [← eo]; exact hP
            rw [hQ]
            exact xout (k := o.1) hxt hlocks (by rw [← eo]; exact k_10) (by rw [← eo]; exact hE9) hP hS hce hcv hcl (Nat.le_of_ble_eq_true rfl) (Nat.le_of_ble_eq_true rfl)
          have hf := ite_t hf k_10
          refine W.widen (k := 3) (n := 18) (Nat.le_of_ble_eq_true rfl) (Nat.le_of_ble_eq_true rfl) ?_
          exact j74_6 _ _ _ _ hf hP hS (lv_sub hl [] rfl)
        · have hf := ite_t hf c_8
          refine lv_aload_n hx hb dX6_damage_55 rfl (lv_at hl 0 rfl) ?_
          refine lv_iload_n hx hb dX6_damage_56 rfl (lv_at hl 3 rfl) ?_
          obtain ⟨z_11, hz_11, hf⟩ := bn_some hf
          refine cXVv (As := [.int p3]) (rest := []) ⟨hx, hb, hml, hown, hts⟩ (c_X6_demandThing l hst D cI cZ cJ cT a H.size z_4.2.2 p3 z_11 hz_11) (cwV 1 hts gX6_damage_X6_demandThing rfl rfl rfl (by decide +kernel) ⟨Nat.le_of_ble_eq_true rfl, Nat.le_of_ble_eq_true rfl⟩) hP hK (hDD z_4.2.2) hE hS (own_free (hDD z_4.2.2) hS hA) (va_recv hK (fl_sub hP 0 rfl) (ci := 6) (q0 := 0) rfl rfl) rfl rfl hl.1 (Nat.le_of_ble_eq_true rfl) dX6_damage_57 ⟨Nat.le_of_ble_eq_true rfl, Nat.le_of_ble_eq_true rfl⟩ (fun E ce q9 H locs k_12 hE9 hP hS hce hcv hcl => ?_) (fun H locs k_12 hP hS => ?_)
          · have hf := ite_f hf k_12
            have eo := Option.some.inj hf
            have hP : va_P D cls (wI cI cZ cT a o.2.2) H := by rw [← eo]; exact hP
            rw [hQ]
            exact xout (k := o.1) hxt hlocks (by rw [← eo]; exact k_12) (by rw [← eo]; exact hE9) hP hS hce hcv hcl (Nat.le_of_ble_eq_true rfl) (Nat.le_of_ble_eq_true rfl)
          have hf := ite_t hf k_12
          refine lv_aload_n hx hb dX6_damage_60 rfl (lv_at hl 0 rfl) ?_
          refine lv_iload_n hx hb dX6_damage_61 rfl (lv_at hl 2 rfl) ?_
          refine lv_iload_n hx hb dX6_damage_62 rfl (lv_at hl 3 rfl) ?_
          obtain ⟨z_13, hz_13, hf⟩ := bn_some hf
          refine cXVv (As := [.int p2, .int p3]) (rest := []) ⟨hx, hb, hml, hown, hts⟩ (c_X6_shareFirstPage l hst D cI cZ cJ cT a H.size z_11.2.2 p2 p3 z_13 hz_13) (cwV 2 hts gX6_damage_X6_shareFirstPage rfl rfl rfl (by decide +kernel) ⟨Nat.le_of_ble_eq_true rfl, Nat.le_of_ble_eq_true rfl⟩) hP hK (hDD z_11.2.2) hE hS (own_free (hDD z_11.2.2) hS hA) (va_recv hK (fl_sub hP 0 rfl) (ci := 6) (q0 := 0) rfl rfl) rfl rfl hl.1 (Nat.le_of_ble_eq_true rfl) dX6_damage_63 ⟨Nat.le_of_ble_eq_true rfl, Nat.le_of_ble_eq_true rfl⟩ (fun E ce q9 H locs k_14 hE9 hP hS hce hcv hcl => ?_) (fun H locs k_14 hP hS => ?_)
          · have hf := ite_f hf k_14
            have eo := Option.some.inj hf
            have hP : va_P D cls (wI cI cZ cT a o.2.2) H := by rw [← eo]; exact hP
            rw [hQ]
            exact xout (k := o.1) hxt hlocks (by rw [← eo]; exact k_14) (by rw [← eo]; exact hE9) hP hS hce hcv hcl (Nat.le_of_ble_eq_true rfl) (Nat.le_of_ble_eq_true rfl)
          have hf := ite_t hf k_14
          refine lv_goto (tgt := 74) hx hb dX6_damage_66 (by decide) ?_
          refine W.widen (k := 3) (n := 18) (Nat.le_of_ble_eq_true rfl) (Nat.le_of_ble_eq_true rfl) ?_
          exact j74_6 _ _ _ _ hf hP hS (lv_sub hl [] rfl)
      · have hf := ite_t hf c_7
        refine lv_aload_n hx hb dX6_damage_29 rfl (lv_at hl 0 rfl) ?_
        refine va_get (D := D) (ci := 6) (v := .ref (a 1 0)) (C := RX6) (T := TX6) (N := 11) hx hb hts i6 hown hK (fl_sub hP 0 rfl) 0 rfl rfl 0 (by decide) hk12 (fun _ h9 => h9) rfl dX6_damage_30 ?_
        refine lv_iload_n hx hb dX6_damage_33 rfl (lv_at hl 2 rfl) ?_
        refine lv_aload_n hx hb dX6_damage_34 rfl (lv_at hl 0 rfl) ?_
        refine va_get (D := D) (ci := 6) (v := .ref (a 1 0)) (C := RX6) (T := TX6) (N := 11) hx hb hts i6 hown hK (fl_sub hP 0 rfl) 0 rfl rfl 0 (by decide) hk12 (fun _ h9 => h9) rfl dX6_damage_35 ?_
        refine lv_iload_n hx hb dX6_damage_38 rfl (lv_at hl 2 rfl) ?_
        obtain ⟨z_15, hz_15, hf⟩ := bn_some hf
        refine cRV (As := [.int p2]) (rest := [.int p2, .ref (a 1 0)]) ⟨hx, hb, hml, hown, hts⟩ (c_X4_countOf l D cI cZ cJ cT (a 1) (z_4.2.2 1) p2 z_15 hz_15) (cwV 1 hts gX6_damage_X4_countOf rfl rfl rfl (by decide +kernel) ⟨Nat.le_of_ble_eq_true rfl, Nat.le_of_ble_eq_true rfl⟩) (fl_sub hP 1 rfl) hK (va_recv hK (fl_sub hP 1 rfl) (ci := 4) (q0 := 0) rfl rfl) rfl rfl hl.1 (Nat.le_of_ble_eq_true rfl) dX6_damage_39 ⟨Nat.le_of_ble_eq_true rfl, Nat.le_of_ble_eq_true rfl⟩ ?_
        refine lv_iconst (v := 1) hx hb dX6_damage_42 (by decide) ?_
        refine lv_iadd hx hb dX6_damage_43 ?_
        obtain ⟨z_16, hz_16, hf⟩ := bn_some hf
        refine cWVv (As := [.int p2, .int (z_15 + 1)]) (rest := []) ⟨hx, hb, hml, hown, hts⟩ (c_X4_setCount l D cI cZ cJ cT (a 1) H.size (z_4.2.2 1) p2 (z_15 + 1) z_16 hz_16) (cwV 2 hts gX6_damage_X4_setCount rfl rfl rfl (by decide +kernel) ⟨Nat.le_of_ble_eq_true rfl, Nat.le_of_ble_eq_true rfl⟩) (fl_sub hP 1 rfl) hK (fl_subD (hDD z_4.2.2) 1 rfl) hS (fl_free (hDD z_4.2.2) hS hA 1 rfl) (va_recv hK (fl_sub hP 1 rfl) (ci := 4) (q0 := 0) rfl rfl) rfl rfl hl.1 (Nat.le_of_ble_eq_true rfl) dX6_damage_44 ⟨Nat.le_of_ble_eq_true rfl, Nat.le_of_ble_eq_true rfl⟩ (fun H1 locs hP1 hk1 hS => ?_)
        obtain ⟨u_17, hu_17, hf⟩ := bv_some hf
        have hP : va_P D cls (wI cI cZ cT a u_17) H1 := by rw [hu_17]; exact fl_join hP (hDD z_4.2.2) 1 rfl hk1 hP1
        clear hP1 hk1
        generalize H1 = H at hP hS ⊢
        refine lv_goto (tgt := 74) hx hb dX6_damage_47 (by decide) ?_
        refine W.widen (k := 3) (n := 18) (Nat.le_of_ble_eq_true rfl) (Nat.le_of_ble_eq_true rfl) ?_
        exact j74_6 _ _ _ _ hf hP hS (lv_sub hl [] rfl)
    · have hf := ite_f hf c_3
      refine W.widen (k := 0) (n := 0) (Nat.le_of_ble_eq_true rfl) (Nat.le_of_ble_eq_true rfl) ?_
      exact j9_1 _ _ _ hf hP hS (lv_sub hl [] rfl)
set_option maxRecDepth 20000 in
theorem ggX6_check_X1_mendCounts : GoodIn wsX6_check wsX1_mendCounts := goodIn_r _ [113, 114, 115, 116, 22, 117, 75, 118, 77, 78, 79, 80, 81, 82, 83, 84, 85, 86, 87, 88, 89, 28, 29, 30, 119, 120, 121, 122, 94, 123, 124, 125, 126, 147, 148, 149, 150, 151, 152, 153, 154, 155, 156, 157, 158] (by decide +kernel) (by decide +kernel)
set_option maxRecDepth 20000 in
theorem gX6_check_X1_mendCounts : GoodIn wsX6_check (wsV RX6 368 RX1 yX1_mendCounts wsX1_mendCounts) := goodIn_app (goodIn_of _ (by decide +kernel)) ggX6_check_X1_mendCounts
set_option maxRecDepth 20000 in
theorem ggX6_check_X1_mendPages : GoodIn wsX6_check wsX1_mendPages := goodIn_r _ [17, 18, 19, 20, 21, 22, 23, 24, 25, 26, 27, 28, 29, 30, 31, 32, 33, 16, 34, 35, 36, 37, 38, 39, 40, 41, 42, 43, 44, 45, 46, 47, 48, 49, 50, 51, 52, 53, 54, 55, 143, 144, 145, 146, 147, 148, 149, 150, 151, 152, 153, 154, 155, 156, 157, 158, 159, 160, 161] (by decide +kernel) (by decide +kernel)
set_option maxRecDepth 20000 in
theorem gX6_check_X1_mendPages : GoodIn wsX6_check (wsV RX6 361 RX1 yX1_mendPages wsX1_mendPages) := goodIn_app (goodIn_of _ (by decide +kernel)) ggX6_check_X1_mendPages
set_option maxRecDepth 20000 in
theorem ggX6_check_X1_mendThings : GoodIn wsX6_check wsX1_mendThings := goodIn_r _ [59, 60, 61, 62, 63, 16, 64, 65, 66, 67, 68, 69, 70, 71, 72, 73, 22, 74, 75, 28, 29, 30, 76, 77, 78, 79, 80, 81, 82, 83, 84, 85, 86, 87, 88, 89, 90, 91, 92, 93, 94, 95, 36, 37, 38, 24, 39, 25, 26, 27, 40, 41, 42, 43, 44, 45, 96, 97, 98, 49, 99, 100, 47, 48, 50, 51, 52, 53, 54, 55, 101, 102, 103, 104, 105, 106, 107, 108, 109, 143, 144, 145, 146, 147, 148, 149, 150, 151, 152, 153, 154, 155, 156, 157, 158, 159, 160, 161] (by decide +kernel) (by decide +kernel)
set_option maxRecDepth 20000 in
theorem gX6_check_X1_mendThings : GoodIn wsX6_check (wsV RX6 365 RX1 yX1_mendThings wsX1_mendThings) := goodIn_app (goodIn_of _ (by decide +kernel)) ggX6_check_X1_mendThings
set_option maxRecDepth 20000 in
theorem ggX6_check_X3_isAnyOpen : GoodIn wsX6_check wsX3_isAnyOpen := goodIn_r _ [11, 12, 138, 139, 140, 141, 142] (by decide +kernel) (by decide +kernel)
set_option maxRecDepth 20000 in
theorem gX6_check_X3_isAnyOpen : GoodIn wsX6_check (wsV RX6 356 RX3 yX3_isAnyOpen wsX3_isAnyOpen) := goodIn_app (goodIn_of _ (by decide +kernel)) ggX6_check_X3_isAnyOpen
theorem dX6_check_0 : decode cX6_check 0 = .ok (.aload_n 0, 1) := by decide +kernel
theorem dX6_check_1 : decode cX6_check 1 = .ok (.getfield 51, 3) := by decide +kernel
theorem dX6_check_4 : decode cX6_check 4 = .ok (.invokevirtual 356, 3) := by decide +kernel
theorem dX6_check_7 : decode cX6_check 7 = .ok (.ifCond .eq 14, 3) := by decide +kernel
theorem dX6_check_10 : decode cX6_check 10 = .ok (.new 110, 3) := by decide +kernel
theorem dX6_check_13 : decode cX6_check 13 = .ok (.dup, 1) := by decide +kernel
theorem dX6_check_14 : decode cX6_check 14 = .ok (.ldc_w 359, 3) := by decide +kernel
theorem dX6_check_17 : decode cX6_check 17 = .ok (.invokespecial 114, 3) := by decide +kernel
theorem dX6_check_20 : decode cX6_check 20 = .ok (.athrow, 1) := by decide +kernel
theorem dX6_check_21 : decode cX6_check 21 = .ok (.aload_n 0, 1) := by decide +kernel
theorem dX6_check_22 : decode cX6_check 22 = .ok (.getfield 58, 3) := by decide +kernel
theorem dX6_check_25 : decode cX6_check 25 = .ok (.aload_n 0, 1) := by decide +kernel
theorem dX6_check_26 : decode cX6_check 26 = .ok (.getfield 12, 3) := by decide +kernel
theorem dX6_check_29 : decode cX6_check 29 = .ok (.aload_n 0, 1) := by decide +kernel
theorem dX6_check_30 : decode cX6_check 30 = .ok (.getfield 44, 3) := by decide +kernel
theorem dX6_check_33 : decode cX6_check 33 = .ok (.invokevirtual 361, 3) := by decide +kernel
theorem dX6_check_36 : decode cX6_check 36 = .ok (.istore_n 1, 1) := by decide +kernel
theorem dX6_check_37 : decode cX6_check 37 = .ok (.aload_n 0, 1) := by decide +kernel
theorem dX6_check_38 : decode cX6_check 38 = .ok (.getfield 58, 3) := by decide +kernel
theorem dX6_check_41 : decode cX6_check 41 = .ok (.aload_n 0, 1) := by decide +kernel
theorem dX6_check_42 : decode cX6_check 42 = .ok (.getfield 12, 3) := by decide +kernel
theorem dX6_check_45 : decode cX6_check 45 = .ok (.aload_n 0, 1) := by decide +kernel
theorem dX6_check_46 : decode cX6_check 46 = .ok (.getfield 44, 3) := by decide +kernel
theorem dX6_check_49 : decode cX6_check 49 = .ok (.invokevirtual 365, 3) := by decide +kernel
theorem dX6_check_52 : decode cX6_check 52 = .ok (.istore_n 2, 1) := by decide +kernel
theorem dX6_check_53 : decode cX6_check 53 = .ok (.aload_n 0, 1) := by decide +kernel
theorem dX6_check_54 : decode cX6_check 54 = .ok (.getfield 58, 3) := by decide +kernel
theorem dX6_check_57 : decode cX6_check 57 = .ok (.aload_n 0, 1) := by decide +kernel
theorem dX6_check_58 : decode cX6_check 58 = .ok (.getfield 12, 3) := by decide +kernel
theorem dX6_check_61 : decode cX6_check 61 = .ok (.invokevirtual 368, 3) := by decide +kernel
theorem dX6_check_64 : decode cX6_check 64 = .ok (.istore_n 3, 1) := by decide +kernel
theorem dX6_check_65 : decode cX6_check 65 = .ok (.sipush 10000, 3) := by decide +kernel
theorem dX6_check_68 : decode cX6_check 68 = .ok (.iload_n 1, 1) := by decide +kernel
theorem dX6_check_69 : decode cX6_check 69 = .ok (.imul, 1) := by decide +kernel
theorem dX6_check_70 : decode cX6_check 70 = .ok (.bipush 100, 2) := by decide +kernel
theorem dX6_check_72 : decode cX6_check 72 = .ok (.iload_n 2, 1) := by decide +kernel
theorem dX6_check_73 : decode cX6_check 73 = .ok (.imul, 1) := by decide +kernel
theorem dX6_check_74 : decode cX6_check 74 = .ok (.iadd, 1) := by decide +kernel
theorem dX6_check_75 : decode cX6_check 75 = .ok (.iload_n 3, 1) := by decide +kernel
theorem dX6_check_76 : decode cX6_check 76 = .ok (.iadd, 1) := by decide +kernel
theorem dX6_check_77 : decode cX6_check 77 = .ok (.ireturn, 1) := by decide +kernel
def f_X6_check (U : S2) : Option (Nat × Int32 × S2) := bn (f_X3_isAnyOpen (U 9)) (fun z_1 => if z_1 = 0 then bn (f_X1_mendPages (U 10) (U 1) (U 8)) (fun z_3 => bv (upc (upc (upc U 10 z_3.2.1) 1 z_3.2.2.1) 8 z_3.2.2.2) (fun u_4 => bn (f_X1_mendThings (u_4 10) (u_4 1) (u_4 8)) (fun z_5 => bv (upc (upc (upc u_4 10 z_5.2.1) 1 z_5.2.2.1) 8 z_5.2.2.2) (fun u_6 => bn (f_X1_mendCounts (u_6 10) (u_6 1)) (fun z_7 => bv (upc u_6 1 z_7.2) (fun u_8 => some (0, ((10000 * z_3.1) + (100 * z_5.1)) + z_7.1, u_8))))))) else some (3, 0, U))
def rmX6_check : Room := { frames := 6, cells := 1, slots := 6, locals := 113 }
set_option maxHeartbeats 4000000 in
set_option maxRecDepth 100000 in
theorem c_X6_check (l : Launch) (hst : l.stackTraces = false) (D : va_G) (cI cZ cJ cT : ClassId) (a : Nat → Nat → Nat) (sz : Nat) (U : S2) (o : Nat × Int32 × S2) (hf : f_X6_check U = some o) : vx_Met l yX6_check wsX6_check rmX6_check (va_Pc [.ref (a 0 0)] (PX D cls (tys cI cZ cJ cT) (wI cI cZ cT a U) sz)) (QXi D cls o.1 o.2.1 (wI cI cZ cT a o.2.2) (va_A (wI cI cZ cT a U) sz)) (XX D cls o.1 (wI cI cZ cT a o.2.2) (va_A (wI cI cZ cT a U) sz)) 1 6 (va_A (wI cI cZ cT a U) sz) := by
  refine vx_ofW (cc := cX6_check) (maxL := 4) (ret := (some .int)) (by decide) rfl ?_
  intro p e s m args below meth c s₁ B hml hxt hv
  obtain ⟨hav, ⟨hsz, hP, hK, hD0⟩, hE⟩ := hv
  have hx := B.exec
  have hb := B.bytes
  have hr := B.returns
  have hlocks := B.notSynchronized
  have hts := atoms_spec (ws := wsX6_check) B.pre
  have hown : s.vm.findClass RX6 = some m.cls := findClass_of_methodNamed B.named
  have i6 : ∀ w ∈ wsX60, w ∈ wsX6_check := fun w h => List.mem_cons_of_mem _ (List.mem_append_left _ (List.mem_append_left _ (List.mem_append_left _ (List.mem_append_left _ (List.mem_append_left _ (List.mem_append_right _ h))))))
  have hk12 := hts (.fieldLink RX6 12 "Inodery" "now" "LInodery$Tree;") (by decide +kernel)
  have hk44 := hts (.fieldLink RX6 44 "Inodery" "cache" "LInodery$Cache;") (by decide +kernel)
  have hk51 := hts (.fieldLink RX6 51 "Inodery" "handles" "LInodery$Handles;") (by decide +kernel)
  have hk58 := hts (.fieldLink RX6 58 "Inodery" "checker" "LInodery$Checker;") (by decide +kernel)
  subst hsz
  have hD := hD0.self (sz := s.heap.size)
  generalize hAe : va_A (wI cI cZ cT a U) s.heap.size = A at hD hE ⊢
  have hA : ∀ q : Nat, s.heap.size ≤ q → A q := fun q h => by rw [← hAe]; exact Or.inr h
  have hS : va_S A s.heap s.heap [] := va_S.rf
  have hDD : ∀ V : S2, va_D A (wI cI cZ cT a V) := fun _ => D_same (w := (wI cI cZ cT a U)) rfl hD
  refine Wq (fun Q hQ => ?_)
  refine W_entry hav (Nat.le_of_ble_eq_true rfl) (fun ls hl => ?_)
  have hl : lv_has ls 4 [(0, .ref (a 0 0))] := hl
  unfold f_X6_check at hf
  refine W_heap hP hS (fun H locs hP hS => ?_)
  refine lv_aload_n hx hb dX6_check_0 rfl (lv_at hl 0 rfl) ?_
  refine va_get (D := D) (ci := 6) (v := .ref (a 9 0)) (C := RX6) (T := TX6) (N := 11) hx hb hts i6 hown hK (fl_sub hP 0 rfl) 0 rfl rfl 7 (by decide) hk51 (fun _ h9 => h9) rfl dX6_check_1 ?_
  obtain ⟨z_1, hz_1, hf⟩ := bn_some hf
  refine cRV (As := []) (rest := []) ⟨hx, hb, hml, hown, hts⟩ (c_X3_isAnyOpen l D cI cZ cJ cT (a 9) (U 9) z_1 hz_1) (cwV 0 hts gX6_check_X3_isAnyOpen rfl rfl rfl (by decide +kernel) ⟨Nat.le_of_ble_eq_true rfl, Nat.le_of_ble_eq_true rfl⟩) (fl_sub hP 9 rfl) hK (va_recv hK (fl_sub hP 9 rfl) (ci := 3) (q0 := 0) rfl rfl) rfl rfl hl.1 (Nat.le_of_ble_eq_true rfl) dX6_check_4 ⟨Nat.le_of_ble_eq_true rfl, Nat.le_of_ble_eq_true rfl⟩ ?_
  refine lv_if_eq (tgt := 21) hx hb dX6_check_7 (by decide) (fun c_2 => ?_) (fun c_2 => ?_)
  · have hf := ite_t hf c_2
    refine lv_aload_n hx hb dX6_check_21 rfl (lv_at hl 0 rfl) ?_
    refine va_get (D := D) (ci := 6) (v := .ref (a 10 0)) (C := RX6) (T := TX6) (N := 11) hx hb hts i6 hown hK (fl_sub hP 0 rfl) 0 rfl rfl 8 (by decide) hk58 (fun _ h9 => h9) rfl dX6_check_22 ?_
    refine lv_aload_n hx hb dX6_check_25 rfl (lv_at hl 0 rfl) ?_
    refine va_get (D := D) (ci := 6) (v := .ref (a 1 0)) (C := RX6) (T := TX6) (N := 11) hx hb hts i6 hown hK (fl_sub hP 0 rfl) 0 rfl rfl 0 (by decide) hk12 (fun _ h9 => h9) rfl dX6_check_26 ?_
    refine lv_aload_n hx hb dX6_check_29 rfl (lv_at hl 0 rfl) ?_
    refine va_get (D := D) (ci := 6) (v := .ref (a 8 0)) (C := RX6) (T := TX6) (N := 11) hx hb hts i6 hown hK (fl_sub hP 0 rfl) 0 rfl rfl 6 (by decide) hk44 (fun _ h9 => h9) rfl dX6_check_30 ?_
    obtain ⟨z_3, hz_3, hf⟩ := bn_some hf
    refine cWVi (As := [.ref (a 1 0), .ref (a 8 0)]) (rest := []) ⟨hx, hb, hml, hown, hts⟩ (c_X1_mendPages l D cI cZ cJ cT (a 10) (a 1) (a 8) H.size (U 10) (U 1) (U 8) z_3 hz_3) (cwV 2 hts gX6_check_X1_mendPages rfl rfl rfl (by decide +kernel) ⟨Nat.le_of_ble_eq_true rfl, Nat.le_of_ble_eq_true rfl⟩) (fl_subM hP [10, 1, 8] rfl) hK (fl_subDM (hDD U) [10, 1, 8] rfl rfl) hS (own_free (fl_subDM (hDD U) [10, 1, 8] rfl rfl) hS hA) (va_recv hK (fl_sub hP 10 rfl) (ci := 1) (q0 := 0) rfl rfl) rfl rfl hl.1 (Nat.le_of_ble_eq_true rfl) dX6_check_33 ⟨Nat.le_of_ble_eq_true rfl, Nat.le_of_ble_eq_true rfl⟩ (fun H1 locs hP1 hk1 hS => ?_)
    obtain ⟨u_4, hu_4, hf⟩ := bv_some hf
    have hP : va_P D cls (wI cI cZ cT a u_4) H1 := by rw [hu_4]; exact fl_joinM hP (hDD U) [10, 1, 8] rfl rfl hk1 hP1
    clear hP1 hk1
    generalize H1 = H at hP hS ⊢
    refine lv_istore_n (lv' := [(1, .int z_3.1), (0, .ref (a 0 0))]) hx hb dX6_check_36 rfl hl (by decide) rfl (fun ls hl => ?_)
    refine lv_aload_n hx hb dX6_check_37 rfl (lv_at hl 1 rfl) ?_
    refine va_get (D := D) (ci := 6) (v := .ref (a 10 0)) (C := RX6) (T := TX6) (N := 11) hx hb hts i6 hown hK (fl_sub hP 0 rfl) 0 rfl rfl 8 (by decide) hk58 (fun _ h9 => h9) rfl dX6_check_38 ?_
    refine lv_aload_n hx hb dX6_check_41 rfl (lv_at hl 1 rfl) ?_
    refine va_get (D := D) (ci := 6) (v := .ref (a 1 0)) (C := RX6) (T := TX6) (N := 11) hx hb hts i6 hown hK (fl_sub hP 0 rfl) 0 rfl rfl 0 (by decide) hk12 (fun _ h9 => h9) rfl dX6_check_42 ?_
    refine lv_aload_n hx hb dX6_check_45 rfl (lv_at hl 1 rfl) ?_
    refine va_get (D := D) (ci := 6) (v := .ref (a 8 0)) (C := RX6) (T := TX6) (N := 11) hx hb hts i6 hown hK (fl_sub hP 0 rfl) 0 rfl rfl 6 (by decide) hk44 (fun _ h9 => h9) rfl dX6_check_46 ?_
    obtain ⟨z_5, hz_5, hf⟩ := bn_some hf
    refine cWVi (As := [.ref (a 1 0), .ref (a 8 0)]) (rest := []) ⟨hx, hb, hml, hown, hts⟩ (c_X1_mendThings l D cI cZ cJ cT (a 10) (a 1) (a 8) H.size (u_4 10) (u_4 1) (u_4 8) z_5 hz_5) (cwV 2 hts gX6_check_X1_mendThings rfl rfl rfl (by decide +kernel) ⟨Nat.le_of_ble_eq_true rfl, Nat.le_of_ble_eq_true rfl⟩) (fl_subM hP [10, 1, 8] rfl) hK (fl_subDM (hDD u_4) [10, 1, 8] rfl rfl) hS (own_free (fl_subDM (hDD u_4) [10, 1, 8] rfl rfl) hS hA) (va_recv hK (fl_sub hP 10 rfl) (ci := 1) (q0 := 0) rfl rfl) rfl rfl hl.1 (Nat.le_of_ble_eq_true rfl) dX6_check_49 ⟨Nat.le_of_ble_eq_true rfl, Nat.le_of_ble_eq_true rfl⟩ (fun H1 locs hP1 hk1 hS => ?_)
    obtain ⟨u_6, hu_6, hf⟩ := bv_some hf
    have hP : va_P D cls (wI cI cZ cT a u_6) H1 := by rw [hu_6]; exact fl_joinM hP (hDD u_4) [10, 1, 8] rfl rfl hk1 hP1
    clear hP1 hk1
    generalize H1 = H at hP hS ⊢
    refine lv_istore_n (lv' := [(2, .int z_5.1), (1, .int z_3.1), (0, .ref (a 0 0))]) hx hb dX6_check_52 rfl hl (by decide) rfl (fun ls hl => ?_)
    refine lv_aload_n hx hb dX6_check_53 rfl (lv_at hl 2 rfl) ?_
    refine va_get (D := D) (ci := 6) (v := .ref (a 10 0)) (C := RX6) (T := TX6) (N := 11) hx hb hts i6 hown hK (fl_sub hP 0 rfl) 0 rfl rfl 8 (by decide) hk58 (fun _ h9 => h9) rfl dX6_check_54 ?_
    refine lv_aload_n hx hb dX6_check_57 rfl (lv_at hl 2 rfl) ?_
    refine va_get (D := D) (ci := 6) (v := .ref (a 1 0)) (C := RX6) (T := TX6) (N := 11) hx hb hts i6 hown hK (fl_sub hP 0 rfl) 0 rfl rfl 0 (by decide) hk12 (fun _ h9 => h9) rfl dX6_check_58 ?_
    obtain ⟨z_7, hz_7, hf⟩ := bn_some hf
    refine cWVi (As := [.ref (a 1 0)]) (rest := []) ⟨hx, hb, hml, hown, hts⟩ (c_X1_mendCounts l D cI cZ cJ cT (a 10) (a 1) H.size (u_6 10) (u_6 1) z_7 hz_7) (cwV 1 hts gX6_check_X1_mendCounts rfl rfl rfl (by decide +kernel) ⟨Nat.le_of_ble_eq_true rfl, Nat.le_of_ble_eq_true rfl⟩) (fl_subM hP [10, 1] rfl) hK (fl_subDM (hDD u_6) [10, 1] rfl rfl) hS (own_free (fl_subDM (hDD u_6) [10, 1] rfl rfl) hS hA) (va_recv hK (fl_sub hP 10 rfl) (ci := 1) (q0 := 0) rfl rfl) rfl rfl hl.1 (Nat.le_of_ble_eq_true rfl) dX6_check_61 ⟨Nat.le_of_ble_eq_true rfl, Nat.le_of_ble_eq_true rfl⟩ (fun H1 locs hP1 hk1 hS => ?_)
    obtain ⟨u_8, hu_8, hf⟩ := bv_some hf
    have hP : va_P D cls (wI cI cZ cT a u_8) H1 := by rw [hu_8]; exact fl_joinM hP (hDD u_6) [10, 1] rfl rfl hk1 hP1
    clear hP1 hk1
    generalize H1 = H at hP hS ⊢
    refine lv_istore_n (lv' := [(3, .int z_7.1), (2, .int z_5.1), (1, .int z_3.1), (0, .ref (a 0 0))]) hx hb dX6_check_64 rfl hl (by decide) rfl (fun ls hl => ?_)
    refine lv_sipush (v := 10000) hx hb dX6_check_65 (by decide) ?_
    refine lv_iload_n hx hb dX6_check_68 rfl (lv_at hl 2 rfl) ?_
    refine lv_imul hx hb dX6_check_69 ?_
    refine lv_bipush (v := 100) hx hb dX6_check_70 (by decide) ?_
    refine lv_iload_n hx hb dX6_check_72 rfl (lv_at hl 1 rfl) ?_
    refine lv_imul hx hb dX6_check_73 ?_
    refine lv_iadd hx hb dX6_check_74 ?_
    refine lv_iload_n hx hb dX6_check_75 rfl (lv_at hl 0 rfl) ?_
    refine lv_iadd hx hb dX6_check_76 ?_
    have eo := Option.some.inj hf
    have hP : va_P D cls (wI cI cZ cT a o.2.2) H := by rw [← eo]; exact hP
    rw [hQ]
    refine W.widen (k := 1) (n := 6) (Nat.le_of_ble_eq_true rfl) (Nat.le_of_ble_eq_true rfl) ?_
    exact vx_ret (W.iret hx hb hr (fun t ht hW => ⟨⟨_, (), rfl, ⟨(by rw [← eo]), (by rw [← eo])⟩, P_at ht hP⟩, hS.F ht⟩) hS.2.2 dX6_check_77 hlocks)
  · have hf := ite_f hf c_2
    have eo := Option.some.inj hf
    have hP : va_P D cls (wI cI cZ cT a o.2.2) H := by rw [← eo]; exact hP
    rw [hQ]
    have hk0 : o.1 = 3 := by rw [← eo]
    exact thrW o.1 (text := "a handle is open") (by rw [hk0]; rfl) (by rw [hk0]; decide) hx hb hst hown (by decide +kernel) (hts (.classLink RX6 110 "java/lang/IllegalStateException") (by decide +kernel)) (hts (.initialized "java/lang/IllegalStateException") (by decide +kernel)) (fun w h => hts w (List.mem_cons_of_mem _ (List.mem_append_right _ h))) (EX_b3 hE) ok3 (by decide +kernel) hE hS hP (hl.1.trans hml.symm) dX6_check_10 dX6_check_13 dX6_check_14 dX6_check_17 dX6_check_20 hxt (Nat.le_of_ble_eq_true rfl) (Nat.le_of_ble_eq_true rfl) (Nat.le_of_ble_eq_true rfl) (Nat.le_of_ble_eq_true rfl) hlocks (Nat.le_of_ble_eq_true rfl) (Nat.le_of_ble_eq_true rfl)
set_option maxRecDepth 20000 in
theorem ggX6_about_X0_hasError : GoodIn wsX6_about wsX0_hasError := goodIn_r _ [84, 85, 114, 115, 116] (by decide +kernel) (by decide +kernel)
set_option maxRecDepth 20000 in
theorem gX6_about_X0_hasError : GoodIn wsX6_about (wsV RX6 379 RX0 yX0_hasError wsX0_hasError) := goodIn_app (goodIn_of _ (by decide +kernel)) ggX6_about_X0_hasError
set_option maxRecDepth 20000 in
theorem ggX6_about_X3_countOf : GoodIn wsX6_about wsX3_countOf := goodIn_r _ [60, 61, 62, 63, 59, 64, 65, 66, 67, 68, 69, 70, 71, 72, 73, 74, 75, 76, 77, 78, 79, 109, 110, 111, 112, 113] (by decide +kernel) (by decide +kernel)
set_option maxRecDepth 20000 in
theorem gX6_about_X3_countOf : GoodIn wsX6_about (wsV RX6 378 RX3 yX3_countOf wsX3_countOf) := goodIn_app (goodIn_of _ (by decide +kernel)) ggX6_about_X3_countOf
set_option maxRecDepth 20000 in
theorem ggX6_about_X4_countOf : GoodIn wsX6_about wsX4_countOf := goodIn_r _ [39, 40, 19, 20, 16, 21, 97, 98, 99, 100, 101, 102, 103, 104, 105, 106, 107, 108] (by decide +kernel) (by decide +kernel)
set_option maxRecDepth 20000 in
theorem gX6_about_X4_countOf : GoodIn wsX6_about (wsV RX6 119 RX4 yX4_countOf wsX4_countOf) := goodIn_app (goodIn_of _ (by decide +kernel)) ggX6_about_X4_countOf
set_option maxRecDepth 20000 in
theorem ggX6_about_X4_filledOf : GoodIn wsX6_about wsX4_filledOf := goodIn_r _ [54, 55, 19, 20, 16, 21, 97, 98, 99, 100, 101, 102, 103, 104, 105, 106, 107, 108] (by decide +kernel) (by decide +kernel)
set_option maxRecDepth 20000 in
theorem gX6_about_X4_filledOf : GoodIn wsX6_about (wsV RX6 375 RX4 yX4_filledOf wsX4_filledOf) := goodIn_app (goodIn_of _ (by decide +kernel)) ggX6_about_X4_filledOf
set_option maxRecDepth 20000 in
theorem ggX6_about_X4_isOfKind : GoodIn wsX6_about wsX4_isOfKind := goodIn_r _ [44, 18, 45, 14, 15, 16, 17, 19, 20, 21, 97, 98, 99, 100, 101, 102, 103, 104, 105, 106, 107, 108] (by decide +kernel) (by decide +kernel)
set_option maxRecDepth 20000 in
theorem gX6_about_X4_isOfKind : GoodIn wsX6_about (wsV RX6 103 RX4 yX4_isOfKind wsX4_isOfKind) := goodIn_app (goodIn_of _ (by decide +kernel)) ggX6_about_X4_isOfKind
set_option maxRecDepth 20000 in
theorem ggX6_about_X4_kindOf : GoodIn wsX6_about wsX4_kindOf := goodIn_r _ [25, 18, 19, 20, 16, 21, 97, 98, 99, 100, 101, 102, 103, 104, 105, 106, 107, 108] (by decide +kernel) (by decide +kernel)
set_option maxRecDepth 20000 in
theorem gX6_about_X4_kindOf : GoodIn wsX6_about (wsV RX6 372 RX4 yX4_kindOf wsX4_kindOf) := goodIn_app (goodIn_of _ (by decide +kernel)) ggX6_about_X4_kindOf
set_option maxRecDepth 20000 in
theorem ggX6_about_X4_ownerOf : GoodIn wsX6_about wsX4_ownerOf := goodIn_r _ [29, 30, 19, 20, 16, 21, 97, 98, 99, 100, 101, 102, 103, 104, 105, 106, 107, 108] (by decide +kernel) (by decide +kernel)
set_option maxRecDepth 20000 in
theorem gX6_about_X4_ownerOf : GoodIn wsX6_about (wsV RX6 167 RX4 yX4_ownerOf wsX4_ownerOf) := goodIn_app (goodIn_of _ (by decide +kernel)) ggX6_about_X4_ownerOf
set_option maxRecDepth 20000 in
theorem ggX6_about_X4_rightsOf : GoodIn wsX6_about wsX4_rightsOf := goodIn_r _ [34, 35, 19, 20, 16, 21, 97, 98, 99, 100, 101, 102, 103, 104, 105, 106, 107, 108] (by decide +kernel) (by decide +kernel)
set_option maxRecDepth 20000 in
theorem gX6_about_X4_rightsOf : GoodIn wsX6_about (wsV RX6 172 RX4 yX4_rightsOf wsX4_rightsOf) := goodIn_app (goodIn_of _ (by decide +kernel)) ggX6_about_X4_rightsOf
set_option maxRecDepth 20000 in
theorem ggX6_about_X4_sizeOf : GoodIn wsX6_about wsX4_sizeOf := goodIn_r _ [49, 50, 19, 20, 16, 21, 97, 98, 99, 100, 101, 102, 103, 104, 105, 106, 107, 108] (by decide +kernel) (by decide +kernel)
set_option maxRecDepth 20000 in
theorem gX6_about_X4_sizeOf : GoodIn wsX6_about (wsV RX6 154 RX4 yX4_sizeOf wsX4_sizeOf) := goodIn_app (goodIn_of _ (by decide +kernel)) ggX6_about_X4_sizeOf
set_option maxRecDepth 20000 in
theorem ggX6_about_X6_demandThing : GoodIn wsX6_about wsX6_demandThing := goodIn_ca (goodIn_r _ [10, 11, 12, 3, 13, 14, 15, 16, 17, 18, 19, 20, 21, 86, 87, 88, 89, 90, 91, 92, 93, 94, 95, 96, 97, 98, 99, 100, 101, 102, 103, 104, 105, 106, 107, 108] (by decide +kernel) (by decide +kernel)) (goodIn_sub (fun _ h => List.mem_cons_of_mem _ (List.mem_append_right _ h)) (by decide +kernel))
set_option maxRecDepth 20000 in
theorem gX6_about_X6_demandThing : GoodIn wsX6_about (wsV RX6 347 RX6 yX6_demandThing wsX6_demandThing) := goodIn_app (goodIn_of _ (by decide +kernel)) ggX6_about_X6_demandThing
theorem dX6_about_0 : decode cX6_about 0 = .ok (.aload_n 0, 1) := by decide +kernel
theorem dX6_about_1 : decode cX6_about 1 = .ok (.iload_n 1, 1) := by decide +kernel
theorem dX6_about_2 : decode cX6_about 2 = .ok (.invokevirtual 347, 3) := by decide +kernel
theorem dX6_about_5 : decode cX6_about 5 = .ok (.iload_n 2, 1) := by decide +kernel
theorem dX6_about_6 : decode cX6_about 6 = .ok (.tableswitch 136 0 6 #[42, 51, 60, 69, 78, 110, 119], 42) := by decide +kernel
theorem dX6_about_48 : decode cX6_about 48 = .ok (.aload_n 0, 1) := by decide +kernel
theorem dX6_about_49 : decode cX6_about 49 = .ok (.getfield 12, 3) := by decide +kernel
theorem dX6_about_52 : decode cX6_about 52 = .ok (.iload_n 1, 1) := by decide +kernel
theorem dX6_about_53 : decode cX6_about 53 = .ok (.invokevirtual 372, 3) := by decide +kernel
theorem dX6_about_56 : decode cX6_about 56 = .ok (.ireturn, 1) := by decide +kernel
theorem dX6_about_57 : decode cX6_about 57 = .ok (.aload_n 0, 1) := by decide +kernel
theorem dX6_about_58 : decode cX6_about 58 = .ok (.getfield 12, 3) := by decide +kernel
theorem dX6_about_61 : decode cX6_about 61 = .ok (.iload_n 1, 1) := by decide +kernel
theorem dX6_about_62 : decode cX6_about 62 = .ok (.invokevirtual 167, 3) := by decide +kernel
theorem dX6_about_65 : decode cX6_about 65 = .ok (.ireturn, 1) := by decide +kernel
theorem dX6_about_66 : decode cX6_about 66 = .ok (.aload_n 0, 1) := by decide +kernel
theorem dX6_about_67 : decode cX6_about 67 = .ok (.getfield 12, 3) := by decide +kernel
theorem dX6_about_70 : decode cX6_about 70 = .ok (.iload_n 1, 1) := by decide +kernel
theorem dX6_about_71 : decode cX6_about 71 = .ok (.invokevirtual 172, 3) := by decide +kernel
theorem dX6_about_74 : decode cX6_about 74 = .ok (.ireturn, 1) := by decide +kernel
theorem dX6_about_75 : decode cX6_about 75 = .ok (.aload_n 0, 1) := by decide +kernel
theorem dX6_about_76 : decode cX6_about 76 = .ok (.getfield 12, 3) := by decide +kernel
theorem dX6_about_79 : decode cX6_about 79 = .ok (.iload_n 1, 1) := by decide +kernel
theorem dX6_about_80 : decode cX6_about 80 = .ok (.invokevirtual 119, 3) := by decide +kernel
theorem dX6_about_83 : decode cX6_about 83 = .ok (.ireturn, 1) := by decide +kernel
theorem dX6_about_84 : decode cX6_about 84 = .ok (.aload_n 0, 1) := by decide +kernel
theorem dX6_about_85 : decode cX6_about 85 = .ok (.getfield 12, 3) := by decide +kernel
theorem dX6_about_88 : decode cX6_about 88 = .ok (.iload_n 1, 1) := by decide +kernel
theorem dX6_about_89 : decode cX6_about 89 = .ok (.iconst 1, 1) := by decide +kernel
theorem dX6_about_90 : decode cX6_about 90 = .ok (.invokevirtual 103, 3) := by decide +kernel
theorem dX6_about_93 : decode cX6_about 93 = .ok (.ifCond .eq 14, 3) := by decide +kernel
theorem dX6_about_96 : decode cX6_about 96 = .ok (.aload_n 0, 1) := by decide +kernel
theorem dX6_about_97 : decode cX6_about 97 = .ok (.getfield 12, 3) := by decide +kernel
theorem dX6_about_100 : decode cX6_about 100 = .ok (.iload_n 1, 1) := by decide +kernel
theorem dX6_about_101 : decode cX6_about 101 = .ok (.invokevirtual 154, 3) := by decide +kernel
theorem dX6_about_104 : decode cX6_about 104 = .ok (.goto 11, 3) := by decide +kernel
theorem dX6_about_107 : decode cX6_about 107 = .ok (.aload_n 0, 1) := by decide +kernel
theorem dX6_about_108 : decode cX6_about 108 = .ok (.getfield 12, 3) := by decide +kernel
theorem dX6_about_111 : decode cX6_about 111 = .ok (.iload_n 1, 1) := by decide +kernel
theorem dX6_about_112 : decode cX6_about 112 = .ok (.invokevirtual 375, 3) := by decide +kernel
theorem dX6_about_115 : decode cX6_about 115 = .ok (.ireturn, 1) := by decide +kernel
theorem dX6_about_116 : decode cX6_about 116 = .ok (.aload_n 0, 1) := by decide +kernel
theorem dX6_about_117 : decode cX6_about 117 = .ok (.getfield 51, 3) := by decide +kernel
theorem dX6_about_120 : decode cX6_about 120 = .ok (.iload_n 1, 1) := by decide +kernel
theorem dX6_about_121 : decode cX6_about 121 = .ok (.invokevirtual 378, 3) := by decide +kernel
theorem dX6_about_124 : decode cX6_about 124 = .ok (.ireturn, 1) := by decide +kernel
theorem dX6_about_125 : decode cX6_about 125 = .ok (.aload_n 0, 1) := by decide +kernel
theorem dX6_about_126 : decode cX6_about 126 = .ok (.getfield 44, 3) := by decide +kernel
theorem dX6_about_129 : decode cX6_about 129 = .ok (.iload_n 1, 1) := by decide +kernel
theorem dX6_about_130 : decode cX6_about 130 = .ok (.invokevirtual 379, 3) := by decide +kernel
theorem dX6_about_133 : decode cX6_about 133 = .ok (.ifCond .eq 7, 3) := by decide +kernel
theorem dX6_about_136 : decode cX6_about 136 = .ok (.iconst 1, 1) := by decide +kernel
theorem dX6_about_137 : decode cX6_about 137 = .ok (.goto 4, 3) := by decide +kernel
theorem dX6_about_140 : decode cX6_about 140 = .ok (.iconst 0, 1) := by decide +kernel
theorem dX6_about_141 : decode cX6_about 141 = .ok (.ireturn, 1) := by decide +kernel
theorem dX6_about_142 : decode cX6_about 142 = .ok (.new 88, 3) := by decide +kernel
theorem dX6_about_145 : decode cX6_about 145 = .ok (.dup, 1) := by decide +kernel
theorem dX6_about_146 : decode cX6_about 146 = .ok (.ldc_w 345, 3) := by decide +kernel
theorem dX6_about_149 : decode cX6_about 149 = .ok (.invokespecial 92, 3) := by decide +kernel
theorem dX6_about_152 : decode cX6_about 152 = .ok (.athrow, 1) := by decide +kernel
def f_X6_about (U : S2) (p1 : Int32) (p2 : Int32) : Option (Nat × Int32 × S2) := bn (f_X6_demandThing U p1) (fun z_1 => if z_1.1 = 0 then if p2.toInt < 0 ∨ 6 < p2.toInt then some (1, 0, z_1.2.2) else if p2 = 0 then bn (f_X4_kindOf (z_1.2.2 1) p1) (fun z_5 => some (0, z_5, z_1.2.2)) else if p2 = 1 then bn (f_X4_ownerOf (z_1.2.2 1) p1) (fun z_7 => some (0, z_7, z_1.2.2)) else if p2 = 2 then bn (f_X4_rightsOf (z_1.2.2 1) p1) (fun z_9 => some (0, z_9, z_1.2.2)) else if p2 = 3 then bn (f_X4_countOf (z_1.2.2 1) p1) (fun z_11 => some (0, z_11, z_1.2.2)) else if p2 = 4 then bn (f_X4_isOfKind (z_1.2.2 1) p1 1) (fun z_13 => jn (fun (v115_14_0 : Int32) => some (0, v115_14_0, z_1.2.2)) (fun k115_14 => if z_13 = 0 then bn (f_X4_filledOf (z_1.2.2 1) p1) (fun z_16 => k115_14 z_16) else bn (f_X4_sizeOf (z_1.2.2 1) p1) (fun z_17 => k115_14 z_17))) else if p2 = 5 then bn (f_X3_countOf (z_1.2.2 9) p1) (fun z_19 => some (0, z_19, z_1.2.2)) else if p2 = 6 then bn (f_X0_hasError (z_1.2.2 8) p1) (fun z_21 => jn (fun (v141_22_0 : Int32) => some (0, v141_22_0, z_1.2.2)) (fun k141_22 => if z_21 = 0 then k141_22 0 else k141_22 1)) else none else some (z_1.1, 0, z_1.2.2))
def rmX6_about : Room := { frames := 7, cells := 2, slots := 12, locals := 111 }
set_option maxHeartbeats 4000000 in
set_option maxRecDepth 100000 in
theorem c_X6_about (l : Launch) (hst : l.stackTraces = false) (D : va_G) (cI cZ cJ cT : ClassId) (a : Nat → Nat → Nat) (sz : Nat) (U : S2) (p1 : Int32) (p2 : Int32) (o : Nat × Int32 × S2) (hf : f_X6_about U p1 p2 = some o) : vx_Met l yX6_about wsX6_about rmX6_about (va_Pc [.ref (a 0 0), .int p1, .int p2] (PX D cls (tys cI cZ cJ cT) (wI cI cZ cT a U) sz)) (QXi D cls o.1 o.2.1 (wI cI cZ cT a o.2.2) (va_A (wI cI cZ cT a U) sz)) (XX D cls o.1 (wI cI cZ cT a o.2.2) (va_A (wI cI cZ cT a U) sz)) 2 12 (va_A (wI cI cZ cT a U) sz) := by
  refine vx_ofW (cc := cX6_about) (maxL := 3) (ret := (some .int)) (by decide) rfl ?_
  intro p e s m args below meth c s₁ B hml hxt hv
  obtain ⟨hav, ⟨hsz, hP, hK, hD0⟩, hE⟩ := hv
  have hx := B.exec
  have hb := B.bytes
  have hr := B.returns
  have hlocks := B.notSynchronized
  have hts := atoms_spec (ws := wsX6_about) B.pre
  have hown : s.vm.findClass RX6 = some m.cls := findClass_of_methodNamed B.named
  have i6 : ∀ w ∈ wsX60, w ∈ wsX6_about := fun w h => List.mem_cons_of_mem _ (List.mem_append_left _ (List.mem_append_left _ (List.mem_append_left _ (List.mem_append_left _ (List.mem_append_left _ (List.mem_append_right _ h))))))
  have hk12 := hts (.fieldLink RX6 12 "Inodery" "now" "LInodery$Tree;") (by decide +kernel)
  have hk44 := hts (.fieldLink RX6 44 "Inodery" "cache" "LInodery$Cache;") (by decide +kernel)
  have hk51 := hts (.fieldLink RX6 51 "Inodery" "handles" "LInodery$Handles;") (by decide +kernel)
  subst hsz
  have hD := hD0.self (sz := s.heap.size)
  generalize hAe : va_A (wI cI cZ cT a U) s.heap.size = A at hD hE ⊢
  have hA : ∀ q : Nat, s.heap.size ≤ q → A q := fun q h => by rw [← hAe]; exact Or.inr h
  have hS : va_S A s.heap s.heap [] := va_S.rf
  have hDD : ∀ V : S2, va_D A (wI cI cZ cT a V) := fun _ => D_same (w := (wI cI cZ cT a U)) rfl hD
  refine Wq (fun Q hQ => ?_)
  refine W_entry hav (Nat.le_of_ble_eq_true rfl) (fun ls hl => ?_)
  have hl : lv_has ls 3 [(0, .ref (a 0 0)), (1, .int p1), (2, .int p2)] := hl
  unfold f_X6_about at hf
  refine W_heap hP hS (fun H locs hP hS => ?_)
  refine lv_aload_n hx hb dX6_about_0 rfl (lv_at hl 0 rfl) ?_
  refine lv_iload_n hx hb dX6_about_1 rfl (lv_at hl 1 rfl) ?_
  obtain ⟨z_1, hz_1, hf⟩ := bn_some hf
  refine cXVv (As := [.int p1]) (rest := []) ⟨hx, hb, hml, hown, hts⟩ (c_X6_demandThing l hst D cI cZ cJ cT a H.size U p1 z_1 hz_1) (cwV 1 hts gX6_about_X6_demandThing rfl rfl rfl (by decide +kernel) ⟨Nat.le_of_ble_eq_true rfl, Nat.le_of_ble_eq_true rfl⟩) hP hK (hDD U) hE hS (own_free (hDD U) hS hA) (va_recv hK (fl_sub hP 0 rfl) (ci := 6) (q0 := 0) rfl rfl) rfl rfl hl.1 (Nat.le_of_ble_eq_true rfl) dX6_about_2 ⟨Nat.le_of_ble_eq_true rfl, Nat.le_of_ble_eq_true rfl⟩ (fun E ce q9 H locs k_2 hE9 hP hS hce hcv hcl => ?_) (fun H locs k_2 hP hS => ?_)
  · have hf := ite_f hf k_2
    have eo := Option.some.inj hf
    have hP : va_P D cls (wI cI cZ cT a o.2.2) H := by rw [← eo]; exact hP
    rw [hQ]
    exact xout (k := o.1) hxt hlocks (by rw [← eo]; exact k_2) (by rw [← eo]; exact hE9) hP hS hce hcv hcl (Nat.le_of_ble_eq_true rfl) (Nat.le_of_ble_eq_true rfl)
  have hf := ite_t hf k_2
  refine lv_iload_n hx hb dX6_about_5 rfl (lv_at hl 2 rfl) ?_
  by_cases c_3 : p2.toInt < 0 ∨ 6 < p2.toInt
  · have hf := ite_t hf c_3
    refine lv_tableOut (tgt := 142) hx hb dX6_about_6 c_3 (by decide) ?_
    have eo := Option.some.inj hf
    have hP : va_P D cls (wI cI cZ cT a o.2.2) H := by rw [← eo]; exact hP
    rw [hQ]
    have hk0 : o.1 = 1 := by rw [← eo]
    exact thrW o.1 (text := "what is out of range") (by rw [hk0]; rfl) (by rw [hk0]; decide) hx hb hst hown (by decide +kernel) (hts (.classLink RX6 88 "java/lang/IllegalArgumentException") (by decide +kernel)) (hts (.initialized "java/lang/IllegalArgumentException") (by decide +kernel)) (fun w h => hts w (List.mem_cons_of_mem _ (List.mem_append_left _ (List.mem_append_right _ h)))) (EX_b1 hE) ok1 (by decide +kernel) hE hS hP (hl.1.trans hml.symm) dX6_about_142 dX6_about_145 dX6_about_146 dX6_about_149 dX6_about_152 hxt (Nat.le_of_ble_eq_true rfl) (Nat.le_of_ble_eq_true rfl) (Nat.le_of_ble_eq_true rfl) (Nat.le_of_ble_eq_true rfl) hlocks (Nat.le_of_ble_eq_true rfl) (Nat.le_of_ble_eq_true rfl)
  have hf := ite_f hf c_3
  by_cases e_4 : p2 = 0
  · have hf := ite_t hf e_4
    refine lv_tableIn (off := 42) (tgt := 48) hx hb dX6_about_6 (by rw [e_4]; decide) (by rw [e_4]; decide) (by rw [e_4]; rfl) (by decide) ?_
    refine lv_aload_n hx hb dX6_about_48 rfl (lv_at hl 0 rfl) ?_
    refine va_get (D := D) (ci := 6) (v := .ref (a 1 0)) (C := RX6) (T := TX6) (N := 11) hx hb hts i6 hown hK (fl_sub hP 0 rfl) 0 rfl rfl 0 (by decide) hk12 (fun _ h9 => h9) rfl dX6_about_49 ?_
    refine lv_iload_n hx hb dX6_about_52 rfl (lv_at hl 1 rfl) ?_
    obtain ⟨z_5, hz_5, hf⟩ := bn_some hf
    refine cRV (As := [.int p1]) (rest := []) ⟨hx, hb, hml, hown, hts⟩ (c_X4_kindOf l D cI cZ cJ cT (a 1) (z_1.2.2 1) p1 z_5 hz_5) (cwV 1 hts gX6_about_X4_kindOf rfl rfl rfl (by decide +kernel) ⟨Nat.le_of_ble_eq_true rfl, Nat.le_of_ble_eq_true rfl⟩) (fl_sub hP 1 rfl) hK (va_recv hK (fl_sub hP 1 rfl) (ci := 4) (q0 := 0) rfl rfl) rfl rfl hl.1 (Nat.le_of_ble_eq_true rfl) dX6_about_53 ⟨Nat.le_of_ble_eq_true rfl, Nat.le_of_ble_eq_true rfl⟩ ?_
    have eo := Option.some.inj hf
    have hP : va_P D cls (wI cI cZ cT a o.2.2) H := by rw [← eo]; exact hP
    rw [hQ]
    refine W.widen (k := 2) (n := 12) (Nat.le_of_ble_eq_true rfl) (Nat.le_of_ble_eq_true rfl) ?_
    exact vx_ret (W.iret hx hb hr (fun t ht hW => ⟨⟨_, (), rfl, ⟨(by rw [← eo]), (by rw [← eo])⟩, P_at ht hP⟩, hS.F ht⟩) hS.2.2 dX6_about_56 hlocks)
  have hf := ite_f hf e_4
  by_cases e_6 : p2 = 1
  · have hf := ite_t hf e_6
    refine lv_tableIn (off := 51) (tgt := 57) hx hb dX6_about_6 (by rw [e_6]; decide) (by rw [e_6]; decide) (by rw [e_6]; rfl) (by decide) ?_
    refine lv_aload_n hx hb dX6_about_57 rfl (lv_at hl 0 rfl) ?_
    refine va_get (D := D) (ci := 6) (v := .ref (a 1 0)) (C := RX6) (T := TX6) (N := 11) hx hb hts i6 hown hK (fl_sub hP 0 rfl) 0 rfl rfl 0 (by decide) hk12 (fun _ h9 => h9) rfl dX6_about_58 ?_
    refine lv_iload_n hx hb dX6_about_61 rfl (lv_at hl 1 rfl) ?_
    obtain ⟨z_7, hz_7, hf⟩ := bn_some hf
    refine cRV (As := [.int p1]) (rest := []) ⟨hx, hb, hml, hown, hts⟩ (c_X4_ownerOf l D cI cZ cJ cT (a 1) (z_1.2.2 1) p1 z_7 hz_7) (cwV 1 hts gX6_about_X4_ownerOf rfl rfl rfl (by decide +kernel) ⟨Nat.le_of_ble_eq_true rfl, Nat.le_of_ble_eq_true rfl⟩) (fl_sub hP 1 rfl) hK (va_recv hK (fl_sub hP 1 rfl) (ci := 4) (q0 := 0) rfl rfl) rfl rfl hl.1 (Nat.le_of_ble_eq_true rfl) dX6_about_62 ⟨Nat.le_of_ble_eq_true rfl, Nat.le_of_ble_eq_true rfl⟩ ?_
    have eo := Option.some.inj hf
    have hP : va_P D cls (wI cI cZ cT a o.2.2) H := by rw [← eo]; exact hP
    rw [hQ]
    refine W.widen (k := 2) (n := 12) (Nat.le_of_ble_eq_true rfl) (Nat.le_of_ble_eq_true rfl) ?_
    exact vx_ret (W.iret hx hb hr (fun t ht hW => ⟨⟨_, (), rfl, ⟨(by rw [← eo]), (by rw [← eo])⟩, P_at ht hP⟩, hS.F ht⟩) hS.2.2 dX6_about_65 hlocks)
  have hf := ite_f hf e_6
  by_cases e_8 : p2 = 2
  · have hf := ite_t hf e_8
    refine lv_tableIn (off := 60) (tgt := 66) hx hb dX6_about_6 (by rw [e_8]; decide) (by rw [e_8]; decide) (by rw [e_8]; rfl) (by decide) ?_
    refine lv_aload_n hx hb dX6_about_66 rfl (lv_at hl 0 rfl) ?_
    refine va_get (D := D) (ci := 6) (v := .ref (a 1 0)) (C := RX6) (T := TX6) (N := 11) hx hb hts i6 hown hK (fl_sub hP 0 rfl) 0 rfl rfl 0 (by decide) hk12 (fun _ h9 => h9) rfl dX6_about_67 ?_
    refine lv_iload_n hx hb dX6_about_70 rfl (lv_at hl 1 rfl) ?_
    obtain ⟨z_9, hz_9, hf⟩ := bn_some hf
    refine cRV (As := [.int p1]) (rest := []) ⟨hx, hb, hml, hown, hts⟩ (c_X4_rightsOf l D cI cZ cJ cT (a 1) (z_1.2.2 1) p1 z_9 hz_9) (cwV 1 hts gX6_about_X4_rightsOf rfl rfl rfl (by decide +kernel) ⟨Nat.le_of_ble_eq_true rfl, Nat.le_of_ble_eq_true rfl⟩) (fl_sub hP 1 rfl) hK (va_recv hK (fl_sub hP 1 rfl) (ci := 4) (q0 := 0) rfl rfl) rfl rfl hl.1 (Nat.le_of_ble_eq_true rfl) dX6_about_71 ⟨Nat.le_of_ble_eq_true rfl, Nat.le_of_ble_eq_true rfl⟩ ?_
    have eo := Option.some.inj hf
    have hP : va_P D cls (wI cI cZ cT a o.2.2) H := by rw [← eo]; exact hP
    rw [hQ]
    refine W.widen (k := 2) (n := 12) (Nat.le_of_ble_eq_true rfl) (Nat.le_of_ble_eq_true rfl) ?_
    exact vx_ret (W.iret hx hb hr (fun t ht hW => ⟨⟨_, (), rfl, ⟨(by rw [← eo]), (by rw [← eo])⟩, P_at ht hP⟩, hS.F ht⟩) hS.2.2 dX6_about_74 hlocks)
  have hf := ite_f hf e_8
  by_cases e_10 : p2 = 3
  · have hf := ite_t hf e_10
    refine lv_tableIn (off := 69) (tgt := 75) hx hb dX6_about_6 (by rw [e_10]; decide) (by rw [e_10]; decide) (by rw [e_10]; rfl) (by decide) ?_
    refine lv_aload_n hx hb dX6_about_75 rfl (lv_at hl 0 rfl) ?_
    refine va_get (D := D) (ci := 6) (v := .ref (a 1 0)) (C := RX6) (T := TX6) (N := 11) hx hb hts i6 hown hK (fl_sub hP 0 rfl) 0 rfl rfl 0 (by decide) hk12 (fun _ h9 => h9) rfl dX6_about_76 ?_
    refine lv_iload_n hx hb dX6_about_79 rfl (lv_at hl 1 rfl) ?_
    obtain ⟨z_11, hz_11, hf⟩ := bn_some hf
    refine cRV (As := [.int p1]) (rest := []) ⟨hx, hb, hml, hown, hts⟩ (c_X4_countOf l D cI cZ cJ cT (a 1) (z_1.2.2 1) p1 z_11 hz_11) (cwV 1 hts gX6_about_X4_countOf rfl rfl rfl (by decide +kernel) ⟨Nat.le_of_ble_eq_true rfl, Nat.le_of_ble_eq_true rfl⟩) (fl_sub hP 1 rfl) hK (va_recv hK (fl_sub hP 1 rfl) (ci := 4) (q0 := 0) rfl rfl) rfl rfl hl.1 (Nat.le_of_ble_eq_true rfl) dX6_about_80 ⟨Nat.le_of_ble_eq_true rfl, Nat.le_of_ble_eq_true rfl⟩ ?_
    have eo := Option.some.inj hf
    have hP : va_P D cls (wI cI cZ cT a o.2.2) H := by rw [← eo]; exact hP
    rw [hQ]
    refine W.widen (k := 2) (n := 12) (Nat.le_of_ble_eq_true rfl) (Nat.le_of_ble_eq_true rfl) ?_
    exact vx_ret (W.iret hx hb hr (fun t ht hW => ⟨⟨_, (), rfl, ⟨(by rw [← eo]), (by rw [← eo])⟩, P_at ht hP⟩, hS.F ht⟩) hS.2.2 dX6_about_83 hlocks)
  have hf := ite_f hf e_10
  by_cases e_12 : p2 = 4
  · have hf := ite_t hf e_12
    refine lv_tableIn (off := 78) (tgt := 84) hx hb dX6_about_6 (by rw [e_12]; decide) (by rw [e_12]; decide) (by rw [e_12]; rfl) (by decide) ?_
    refine lv_aload_n hx hb dX6_about_84 rfl (lv_at hl 0 rfl) ?_
    refine va_get (D := D) (ci := 6) (v := .ref (a 1 0)) (C := RX6) (T := TX6) (N := 11) hx hb hts i6 hown hK (fl_sub hP 0 rfl) 0 rfl rfl 0 (by decide) hk12 (fun _ h9 => h9) rfl dX6_about_85 ?_
    refine lv_iload_n hx hb dX6_about_88 rfl (lv_at hl 1 rfl) ?_
    refine lv_iconst (v := 1) hx hb dX6_about_89 (by decide) ?_
    obtain ⟨z_13, hz_13, hf⟩ := bn_some hf
    refine cRV (As := [.int p1, .int 1]) (rest := []) ⟨hx, hb, hml, hown, hts⟩ (c_X4_isOfKind l D cI cZ cJ cT (a 1) (z_1.2.2 1) p1 1 z_13 hz_13) (cwV 2 hts gX6_about_X4_isOfKind rfl rfl rfl (by decide +kernel) ⟨Nat.le_of_ble_eq_true rfl, Nat.le_of_ble_eq_true rfl⟩) (fl_sub hP 1 rfl) hK (va_recv hK (fl_sub hP 1 rfl) (ci := 4) (q0 := 0) rfl rfl) rfl rfl hl.1 (Nat.le_of_ble_eq_true rfl) dX6_about_90 ⟨Nat.le_of_ble_eq_true rfl, Nat.le_of_ble_eq_true rfl⟩ ?_
    obtain ⟨k115_14, hk115_14, hf⟩ := jn_some hf
    have j115_14 : ∀ (v115_14_0 : Int32) (H : Heap) (locs : List Loc) (ls : Array Slot), k115_14 v115_14_0 = some o → va_P D cls (wI cI cZ cT a z_1.2.2) H → va_S A s.heap H locs → lv_has ls 3 [] → W p l e (headSpec wsX6_about rmX6_about).room s m args below meth c H locs 1 6 Q (F0 m 115 ls [.int v115_14_0]) := by
      intro v115_14_0 H locs ls hf hP hS hl
      have hf := qa1 hk115_14 hf
      have eo := Option.some.inj hf
      have hP : va_P D cls (wI cI cZ cT a o.2.2) H := by rw [← eo]; exact hP
      rw [hQ]
      refine W.widen (k := 2) (n := 12) (Nat.le_of_ble_eq_true rfl) (Nat.le_of_ble_eq_true rfl) ?_
      exact vx_ret (W.iret hx hb hr (fun t ht hW => ⟨⟨_, (), rfl, ⟨(by rw [← eo]), (by rw [← eo])⟩, P_at ht hP⟩, hS.F ht⟩) hS.2.2 dX6_about_115 hlocks)
    refine lv_if_eq (tgt := 107) hx hb dX6_about_93 (by decide) (fun c_15 => ?_) (fun c_15 => ?_)
    · have hf := ite_t hf c_15
      refine lv_aload_n hx hb dX6_about_107 rfl (lv_at hl 0 rfl) ?_
      refine va_get (D := D) (ci := 6) (v := .ref (a 1 0)) (C := RX6) (T := TX6) (N := 11) hx hb hts i6 hown hK (fl_sub hP 0 rfl) 0 rfl rfl 0 (by decide) hk12 (fun _ h9 => h9) rfl dX6_about_108 ?_
      refine lv_iload_n hx hb dX6_about_111 rfl (lv_at hl 1 rfl) ?_
      obtain ⟨z_16, hz_16, hf⟩ := bn_some hf
      refine cRV (As := [.int p1]) (rest := []) ⟨hx, hb, hml, hown, hts⟩ (c_X4_filledOf l D cI cZ cJ cT (a 1) (z_1.2.2 1) p1 z_16 hz_16) (cwV 1 hts gX6_about_X4_filledOf rfl rfl rfl (by decide +kernel) ⟨Nat.le_of_ble_eq_true rfl, Nat.le_of_ble_eq_true rfl⟩) (fl_sub hP 1 rfl) hK (va_recv hK (fl_sub hP 1 rfl) (ci := 4) (q0 := 0) rfl rfl) rfl rfl hl.1 (Nat.le_of_ble_eq_true rfl) dX6_about_112 ⟨Nat.le_of_ble_eq_true rfl, Nat.le_of_ble_eq_true rfl⟩ ?_
      refine W.widen (k := 1) (n := 6) (Nat.le_of_ble_eq_true rfl) (Nat.le_of_ble_eq_true rfl) ?_
      exact j115_14 _ _ _ _ hf hP hS (lv_sub hl [] rfl)
    · have hf := ite_f hf c_15
      refine lv_aload_n hx hb dX6_about_96 rfl (lv_at hl 0 rfl) ?_
      refine va_get (D := D) (ci := 6) (v := .ref (a 1 0)) (C := RX6) (T := TX6) (N := 11) hx hb hts i6 hown hK (fl_sub hP 0 rfl) 0 rfl rfl 0 (by decide) hk12 (fun _ h9 => h9) rfl dX6_about_97 ?_
      refine lv_iload_n hx hb dX6_about_100 rfl (lv_at hl 1 rfl) ?_
      obtain ⟨z_17, hz_17, hf⟩ := bn_some hf
      refine cRV (As := [.int p1]) (rest := []) ⟨hx, hb, hml, hown, hts⟩ (c_X4_sizeOf l D cI cZ cJ cT (a 1) (z_1.2.2 1) p1 z_17 hz_17) (cwV 1 hts gX6_about_X4_sizeOf rfl rfl rfl (by decide +kernel) ⟨Nat.le_of_ble_eq_true rfl, Nat.le_of_ble_eq_true rfl⟩) (fl_sub hP 1 rfl) hK (va_recv hK (fl_sub hP 1 rfl) (ci := 4) (q0 := 0) rfl rfl) rfl rfl hl.1 (Nat.le_of_ble_eq_true rfl) dX6_about_101 ⟨Nat.le_of_ble_eq_true rfl, Nat.le_of_ble_eq_true rfl⟩ ?_
      refine lv_goto (tgt := 115) hx hb dX6_about_104 (by decide) ?_
      refine W.widen (k := 1) (n := 6) (Nat.le_of_ble_eq_true rfl) (Nat.le_of_ble_eq_true rfl) ?_
      exact j115_14 _ _ _ _ hf hP hS (lv_sub hl [] rfl)
  have hf := ite_f hf e_12
  by_cases e_18 : p2 = 5
  · have hf := ite_t hf e_18
    refine lv_tableIn (off := 110) (tgt := 116) hx hb dX6_about_6 (by rw [e_18]; decide) (by rw [e_18]; decide) (by rw [e_18]; rfl) (by decide) ?_
    refine lv_aload_n hx hb dX6_about_116 rfl (lv_at hl 0 rfl) ?_
    refine va_get (D := D) (ci := 6) (v := .ref (a 9 0)) (C := RX6) (T := TX6) (N := 11) hx hb hts i6 hown hK (fl_sub hP 0 rfl) 0 rfl rfl 7 (by decide) hk51 (fun _ h9 => h9) rfl dX6_about_117 ?_
    refine lv_iload_n hx hb dX6_about_120 rfl (lv_at hl 1 rfl) ?_
    obtain ⟨z_19, hz_19, hf⟩ := bn_some hf
    refine cRV (As := [.int p1]) (rest := []) ⟨hx, hb, hml, hown, hts⟩ (c_X3_countOf l D cI cZ cJ cT (a 9) (z_1.2.2 9) p1 z_19 hz_19) (cwV 1 hts gX6_about_X3_countOf rfl rfl rfl (by decide +kernel) ⟨Nat.le_of_ble_eq_true rfl, Nat.le_of_ble_eq_true rfl⟩) (fl_sub hP 9 rfl) hK (va_recv hK (fl_sub hP 9 rfl) (ci := 3) (q0 := 0) rfl rfl) rfl rfl hl.1 (Nat.le_of_ble_eq_true rfl) dX6_about_121 ⟨Nat.le_of_ble_eq_true rfl, Nat.le_of_ble_eq_true rfl⟩ ?_
    have eo := Option.some.inj hf
    have hP : va_P D cls (wI cI cZ cT a o.2.2) H := by rw [← eo]; exact hP
    rw [hQ]
    refine W.widen (k := 2) (n := 12) (Nat.le_of_ble_eq_true rfl) (Nat.le_of_ble_eq_true rfl) ?_
    exact vx_ret (W.iret hx hb hr (fun t ht hW => ⟨⟨_, (), rfl, ⟨(by rw [← eo]), (by rw [← eo])⟩, P_at ht hP⟩, hS.F ht⟩) hS.2.2 dX6_about_124 hlocks)
  have hf := ite_f hf e_18
  by_cases e_20 : p2 = 6
  · have hf := ite_t hf e_20
    refine lv_tableIn (off := 119) (tgt := 125) hx hb dX6_about_6 (by rw [e_20]; decide) (by rw [e_20]; decide) (by rw [e_20]; rfl) (by decide) ?_
    refine lv_aload_n hx hb dX6_about_125 rfl (lv_at hl 0 rfl) ?_
    refine va_get (D := D) (ci := 6) (v := .ref (a 8 0)) (C := RX6) (T := TX6) (N := 11) hx hb hts i6 hown hK (fl_sub hP 0 rfl) 0 rfl rfl 6 (by decide) hk44 (fun _ h9 => h9) rfl dX6_about_126 ?_
    refine lv_iload_n hx hb dX6_about_129 rfl (lv_at hl 1 rfl) ?_
    obtain ⟨z_21, hz_21, hf⟩ := bn_some hf
    refine cRV (As := [.int p1]) (rest := []) ⟨hx, hb, hml, hown, hts⟩ (c_X0_hasError l D cI cZ cJ cT (a 8) (z_1.2.2 8) p1 z_21 hz_21) (cwV 1 hts gX6_about_X0_hasError rfl rfl rfl (by decide +kernel) ⟨Nat.le_of_ble_eq_true rfl, Nat.le_of_ble_eq_true rfl⟩) (fl_sub hP 8 rfl) hK (va_recv hK (fl_sub hP 8 rfl) (ci := 0) (q0 := 0) rfl rfl) rfl rfl hl.1 (Nat.le_of_ble_eq_true rfl) dX6_about_130 ⟨Nat.le_of_ble_eq_true rfl, Nat.le_of_ble_eq_true rfl⟩ ?_
    obtain ⟨k141_22, hk141_22, hf⟩ := jn_some hf
    have j141_22 : ∀ (v141_22_0 : Int32) (H : Heap) (locs : List Loc) (ls : Array Slot), k141_22 v141_22_0 = some o → va_P D cls (wI cI cZ cT a z_1.2.2) H → va_S A s.heap H locs → lv_has ls 3 [] → W p l e (headSpec wsX6_about rmX6_about).room s m args below meth c H locs 1 6 Q (F0 m 141 ls [.int v141_22_0]) := by
      intro v141_22_0 H locs ls hf hP hS hl
      have hf := qa1 hk141_22 hf
      have eo := Option.some.inj hf
      have hP : va_P D cls (wI cI cZ cT a o.2.2) H := by rw [← eo]; exact hP
      rw [hQ]
      refine W.widen (k := 2) (n := 12) (Nat.le_of_ble_eq_true rfl) (Nat.le_of_ble_eq_true rfl) ?_
      exact vx_ret (W.iret hx hb hr (fun t ht hW => ⟨⟨_, (), rfl, ⟨(by rw [← eo]), (by rw [← eo])⟩, P_at ht hP⟩, hS.F ht⟩) hS.2.2 dX6_about_141 hlocks)
    refine lv_if_eq (tgt := 140) hx hb dX6_about_133 (by decide) (fun c_23 => ?_) (fun c_23 => ?_)
    · have hf := ite_t hf c_23
      refine lv_iconst (v := 0) hx hb dX6_about_140 (by decide) ?_
      refine W.widen (k := 1) (n := 6) (Nat.le_of_ble_eq_true rfl) (Nat.le_of_ble_eq_true rfl) ?_
      exact j141_22 _ _ _ _ hf hP hS (lv_sub hl [] rfl)
    · have hf := ite_f hf c_23
      refine lv_iconst (v := 1) hx hb dX6_about_136 (by decide) ?_
      refine lv_goto (tgt := 141) hx hb dX6_about_137 (by decide) ?_
      refine W.widen (k := 1) (n := 6) (Nat.le_of_ble_eq_true rfl) (Nat.le_of_ble_eq_true rfl) ?_
      exact j141_22 _ _ _ _ hf hP hS (lv_sub hl [] rfl)
  have hf := ite_f hf e_20
  exact nomatch hf
set_option maxRecDepth 20000 in
theorem ggX6_entry_X4_entryName : GoodIn wsX6_entry wsX4_entryName := goodIn_r _ [35, 36, 28, 29, 30, 12, 31, 22, 48, 49, 50, 51, 52, 53, 54, 55, 56, 57, 58, 59] (by decide +kernel) (by decide +kernel)
set_option maxRecDepth 20000 in
theorem gX6_entry_X4_entryName : GoodIn wsX6_entry (wsV RX6 387 RX4 yX4_entryName wsX4_entryName) := goodIn_app (goodIn_of _ (by decide +kernel)) ggX6_entry_X4_entryName
set_option maxRecDepth 20000 in
theorem ggX6_entry_X4_entryThing : GoodIn wsX6_entry wsX4_entryThing := goodIn_r _ [26, 27, 28, 29, 30, 12, 31, 22, 48, 49, 50, 51, 52, 53, 54, 55, 56, 57, 58, 59] (by decide +kernel) (by decide +kernel)
set_option maxRecDepth 20000 in
theorem gX6_entry_X4_entryThing : GoodIn wsX6_entry (wsV RX6 384 RX4 yX4_entryThing wsX4_entryThing) := goodIn_app (goodIn_of _ (by decide +kernel)) ggX6_entry_X4_entryThing
set_option maxRecDepth 20000 in
theorem ggX6_entry_X4_sizeOf : GoodIn wsX6_entry wsX4_sizeOf := goodIn_r _ [21, 22, 15, 16, 12, 17, 48, 49, 50, 51, 52, 53, 54, 55, 56, 57, 58, 59] (by decide +kernel) (by decide +kernel)
set_option maxRecDepth 20000 in
theorem gX6_entry_X4_sizeOf : GoodIn wsX6_entry (wsV RX6 154 RX4 yX4_sizeOf wsX4_sizeOf) := goodIn_app (goodIn_of _ (by decide +kernel)) ggX6_entry_X4_sizeOf
set_option maxRecDepth 20000 in
theorem ggX6_entry_X6_demandThing : GoodIn wsX6_entry wsX6_demandThing := goodIn_ca (goodIn_r _ [8, 1, 2, 3, 9, 10, 11, 12, 13, 14, 15, 16, 17, 37, 38, 39, 40, 41, 42, 43, 44, 45, 46, 47, 48, 49, 50, 51, 52, 53, 54, 55, 56, 57, 58, 59] (by decide +kernel) (by decide +kernel)) (goodIn_sub (fun _ h => List.mem_cons_of_mem _ (List.mem_append_right _ h)) (by decide +kernel))
set_option maxRecDepth 20000 in
theorem gX6_entry_X6_demandThing : GoodIn wsX6_entry (wsV RX6 347 RX6 yX6_demandThing wsX6_demandThing) := goodIn_app (goodIn_of _ (by decide +kernel)) ggX6_entry_X6_demandThing
theorem dX6_entry_0 : decode cX6_entry 0 = .ok (.aload_n 0, 1) := by decide +kernel
theorem dX6_entry_1 : decode cX6_entry 1 = .ok (.iload_n 1, 1) := by decide +kernel
theorem dX6_entry_2 : decode cX6_entry 2 = .ok (.invokevirtual 347, 3) := by decide +kernel
theorem dX6_entry_5 : decode cX6_entry 5 = .ok (.iload_n 2, 1) := by decide +kernel
theorem dX6_entry_6 : decode cX6_entry 6 = .ok (.ifCond .lt 15, 3) := by decide +kernel
theorem dX6_entry_9 : decode cX6_entry 9 = .ok (.iload_n 2, 1) := by decide +kernel
theorem dX6_entry_10 : decode cX6_entry 10 = .ok (.aload_n 0, 1) := by decide +kernel
theorem dX6_entry_11 : decode cX6_entry 11 = .ok (.getfield 12, 3) := by decide +kernel
theorem dX6_entry_14 : decode cX6_entry 14 = .ok (.iload_n 1, 1) := by decide +kernel
theorem dX6_entry_15 : decode cX6_entry 15 = .ok (.invokevirtual 154, 3) := by decide +kernel
theorem dX6_entry_18 : decode cX6_entry 18 = .ok (.if_icmp .lt 14, 3) := by decide +kernel
theorem dX6_entry_21 : decode cX6_entry 21 = .ok (.new 74, 3) := by decide +kernel
theorem dX6_entry_24 : decode cX6_entry 24 = .ok (.dup, 1) := by decide +kernel
theorem dX6_entry_25 : decode cX6_entry 25 = .ok (.ldc_w 382, 3) := by decide +kernel
theorem dX6_entry_28 : decode cX6_entry 28 = .ok (.invokespecial 78, 3) := by decide +kernel
theorem dX6_entry_31 : decode cX6_entry 31 = .ok (.athrow, 1) := by decide +kernel
theorem dX6_entry_32 : decode cX6_entry 32 = .ok (.bipush 100, 2) := by decide +kernel
theorem dX6_entry_34 : decode cX6_entry 34 = .ok (.aload_n 0, 1) := by decide +kernel
theorem dX6_entry_35 : decode cX6_entry 35 = .ok (.getfield 12, 3) := by decide +kernel
theorem dX6_entry_38 : decode cX6_entry 38 = .ok (.iload_n 1, 1) := by decide +kernel
theorem dX6_entry_39 : decode cX6_entry 39 = .ok (.iload_n 2, 1) := by decide +kernel
theorem dX6_entry_40 : decode cX6_entry 40 = .ok (.invokevirtual 384, 3) := by decide +kernel
theorem dX6_entry_43 : decode cX6_entry 43 = .ok (.imul, 1) := by decide +kernel
theorem dX6_entry_44 : decode cX6_entry 44 = .ok (.aload_n 0, 1) := by decide +kernel
theorem dX6_entry_45 : decode cX6_entry 45 = .ok (.getfield 12, 3) := by decide +kernel
theorem dX6_entry_48 : decode cX6_entry 48 = .ok (.iload_n 1, 1) := by decide +kernel
theorem dX6_entry_49 : decode cX6_entry 49 = .ok (.iload_n 2, 1) := by decide +kernel
theorem dX6_entry_50 : decode cX6_entry 50 = .ok (.invokevirtual 387, 3) := by decide +kernel
theorem dX6_entry_53 : decode cX6_entry 53 = .ok (.iadd, 1) := by decide +kernel
theorem dX6_entry_54 : decode cX6_entry 54 = .ok (.ireturn, 1) := by decide +kernel
def f_X6_entry (U : S2) (p1 : Int32) (p2 : Int32) : Option (Nat × Int32 × S2) := bn (f_X6_demandThing U p1) (fun z_1 => if z_1.1 = 0 then jn (some (2, 0, z_1.2.2)) (fun k21_3 => if p2 < 0 then k21_3 else bn (f_X4_sizeOf (z_1.2.2 1) p1) (fun z_5 => if p2 < z_5 then bn (f_X4_entryThing (z_1.2.2 1) p1 p2) (fun z_7 => bn (f_X4_entryName (z_1.2.2 1) p1 p2) (fun z_8 => some (0, (100 * z_7) + z_8, z_1.2.2))) else k21_3)) else some (z_1.1, 0, z_1.2.2))
def rmX6_entry : Room := { frames := 7, cells := 2, slots := 12, locals := 111 }
set_option maxHeartbeats 4000000 in
set_option maxRecDepth 100000 in
theorem c_X6_entry (l : Launch) (hst : l.stackTraces = false) (D : va_G) (cI cZ cJ cT : ClassId) (a : Nat → Nat → Nat) (sz : Nat) (U : S2) (p1 : Int32) (p2 : Int32) (o : Nat × Int32 × S2) (hf : f_X6_entry U p1 p2 = some o) : vx_Met l yX6_entry wsX6_entry rmX6_entry (va_Pc [.ref (a 0 0), .int p1, .int p2] (PX D cls (tys cI cZ cJ cT) (wI cI cZ cT a U) sz)) (QXi D cls o.1 o.2.1 (wI cI cZ cT a o.2.2) (va_A (wI cI cZ cT a U) sz)) (XX D cls o.1 (wI cI cZ cT a o.2.2) (va_A (wI cI cZ cT a U) sz)) 2 12 (va_A (wI cI cZ cT a U) sz) := by
  refine vx_ofW (cc := cX6_entry) (maxL := 3) (ret := (some .int)) (by decide) rfl ?_
  intro p e s m args below meth c s₁ B hml hxt hv
  obtain ⟨hav, ⟨hsz, hP, hK, hD0⟩, hE⟩ := hv
  have hx := B.exec
  have hb := B.bytes
  have hr := B.returns
  have hlocks := B.notSynchronized
  have hts := atoms_spec (ws := wsX6_entry) B.pre
  have hown : s.vm.findClass RX6 = some m.cls := findClass_of_methodNamed B.named
  have i6 : ∀ w ∈ wsX60, w ∈ wsX6_entry := fun w h => List.mem_cons_of_mem _ (List.mem_append_left _ (List.mem_append_left _ (List.mem_append_right _ h)))
  have hk12 := hts (.fieldLink RX6 12 "Inodery" "now" "LInodery$Tree;") (by decide +kernel)
  subst hsz
  have hD := hD0.self (sz := s.heap.size)
  generalize hAe : va_A (wI cI cZ cT a U) s.heap.size = A at hD hE ⊢
  have hA : ∀ q : Nat, s.heap.size ≤ q → A q := fun q h => by rw [← hAe]; exact Or.inr h
  have hS : va_S A s.heap s.heap [] := va_S.rf
  have hDD : ∀ V : S2, va_D A (wI cI cZ cT a V) := fun _ => D_same (w := (wI cI cZ cT a U)) rfl hD
  refine Wq (fun Q hQ => ?_)
  refine W_entry hav (Nat.le_of_ble_eq_true rfl) (fun ls hl => ?_)
  have hl : lv_has ls 3 [(0, .ref (a 0 0)), (1, .int p1), (2, .int p2)] := hl
  unfold f_X6_entry at hf
  refine W_heap hP hS (fun H locs hP hS => ?_)
  refine lv_aload_n hx hb dX6_entry_0 rfl (lv_at hl 0 rfl) ?_
  refine lv_iload_n hx hb dX6_entry_1 rfl (lv_at hl 1 rfl) ?_
  obtain ⟨z_1, hz_1, hf⟩ := bn_some hf
  refine cXVv (As := [.int p1]) (rest := []) ⟨hx, hb, hml, hown, hts⟩ (c_X6_demandThing l hst D cI cZ cJ cT a H.size U p1 z_1 hz_1) (cwV 1 hts gX6_entry_X6_demandThing rfl rfl rfl (by decide +kernel) ⟨Nat.le_of_ble_eq_true rfl, Nat.le_of_ble_eq_true rfl⟩) hP hK (hDD U) hE hS (own_free (hDD U) hS hA) (va_recv hK (fl_sub hP 0 rfl) (ci := 6) (q0 := 0) rfl rfl) rfl rfl hl.1 (Nat.le_of_ble_eq_true rfl) dX6_entry_2 ⟨Nat.le_of_ble_eq_true rfl, Nat.le_of_ble_eq_true rfl⟩ (fun E ce q9 H locs k_2 hE9 hP hS hce hcv hcl => ?_) (fun H locs k_2 hP hS => ?_)
  · have hf := ite_f hf k_2
    have eo := Option.some.inj hf
    have hP : va_P D cls (wI cI cZ cT a o.2.2) H := by rw [← eo]; exact hP
    rw [hQ]
    exact xout (k := o.1) hxt hlocks (by rw [← eo]; exact k_2) (by rw [← eo]; exact hE9) hP hS hce hcv hcl (Nat.le_of_ble_eq_true rfl) (Nat.le_of_ble_eq_true rfl)
  have hf := ite_t hf k_2
  refine lv_iload_n hx hb dX6_entry_5 rfl (lv_at hl 2 rfl) ?_
  obtain ⟨k21_3, hk21_3, hf⟩ := jn_some hf
  have j21_3 : ∀ (H : Heap) (locs : List Loc) (ls : Array Slot), k21_3 = some o → va_P D cls (wI cI cZ cT a z_1.2.2) H → va_S A s.heap H locs → lv_has ls 3 [] → W p l e (headSpec wsX6_entry rmX6_entry).room s m args below meth c H locs 1 6 Q (F0 m 21 ls []) := by
    intro H locs ls hf hP hS hl
    have hf := qa0 hk21_3 hf
    have eo := Option.some.inj hf
    have hP : va_P D cls (wI cI cZ cT a o.2.2) H := by rw [← eo]; exact hP
    rw [hQ]
    have hk0 : o.1 = 2 := by rw [← eo]
    exact thrW o.1 (text := "no such entry") (by rw [hk0]; rfl) (by rw [hk0]; decide) hx hb hst hown (by decide +kernel) (hts (.classLink RX6 74 "java/lang/IndexOutOfBoundsException") (by decide +kernel)) (hts (.initialized "java/lang/IndexOutOfBoundsException") (by decide +kernel)) (fun w h => hts w (List.mem_cons_of_mem _ (List.mem_append_right _ h))) (EX_b2 hE) ok2 (by decide +kernel) hE hS hP (hl.1.trans hml.symm) dX6_entry_21 dX6_entry_24 dX6_entry_25 dX6_entry_28 dX6_entry_31 hxt (Nat.le_of_ble_eq_true rfl) (Nat.le_of_ble_eq_true rfl) (Nat.le_of_ble_eq_true rfl) (Nat.le_of_ble_eq_true rfl) hlocks (Nat.le_of_ble_eq_true rfl) (Nat.le_of_ble_eq_true rfl)
  refine lv_if_lt (tgt := 21) hx hb dX6_entry_6 (by decide) (fun c_4 => ?_) (fun c_4 => ?_)
  · have hf := ite_t hf c_4
    refine W.widen (k := 1) (n := 6) (Nat.le_of_ble_eq_true rfl) (Nat.le_of_ble_eq_true rfl) ?_
    exact j21_3 _ _ _ hf hP hS (lv_sub hl [] rfl)
  · have hf := ite_f hf c_4
    refine lv_iload_n hx hb dX6_entry_9 rfl (lv_at hl 2 rfl) ?_
    refine lv_aload_n hx hb dX6_entry_10 rfl (lv_at hl 0 rfl) ?_
    refine va_get (D := D) (ci := 6) (v := .ref (a 1 0)) (C := RX6) (T := TX6) (N := 11) hx hb hts i6 hown hK (fl_sub hP 0 rfl) 0 rfl rfl 0 (by decide) hk12 (fun _ h9 => h9) rfl dX6_entry_11 ?_
    refine lv_iload_n hx hb dX6_entry_14 rfl (lv_at hl 1 rfl) ?_
    obtain ⟨z_5, hz_5, hf⟩ := bn_some hf
    refine cRV (As := [.int p1]) (rest := [.int p2]) ⟨hx, hb, hml, hown, hts⟩ (c_X4_sizeOf l D cI cZ cJ cT (a 1) (z_1.2.2 1) p1 z_5 hz_5) (cwV 1 hts gX6_entry_X4_sizeOf rfl rfl rfl (by decide +kernel) ⟨Nat.le_of_ble_eq_true rfl, Nat.le_of_ble_eq_true rfl⟩) (fl_sub hP 1 rfl) hK (va_recv hK (fl_sub hP 1 rfl) (ci := 4) (q0 := 0) rfl rfl) rfl rfl hl.1 (Nat.le_of_ble_eq_true rfl) dX6_entry_15 ⟨Nat.le_of_ble_eq_true rfl, Nat.le_of_ble_eq_true rfl⟩ ?_
    refine lv_icmp_lt (tgt := 32) hx hb dX6_entry_18 (by decide) (fun c_6 => ?_) (fun c_6 => ?_)
    · have hf := ite_t hf c_6
      refine lv_bipush (v := 100) hx hb dX6_entry_32 (by decide) ?_
      refine lv_aload_n hx hb dX6_entry_34 rfl (lv_at hl 0 rfl) ?_
      refine va_get (D := D) (ci := 6) (v := .ref (a 1 0)) (C := RX6) (T := TX6) (N := 11) hx hb hts i6 hown hK (fl_sub hP 0 rfl) 0 rfl rfl 0 (by decide) hk12 (fun _ h9 => h9) rfl dX6_entry_35 ?_
      refine lv_iload_n hx hb dX6_entry_38 rfl (lv_at hl 1 rfl) ?_
      refine lv_iload_n hx hb dX6_entry_39 rfl (lv_at hl 2 rfl) ?_
      obtain ⟨z_7, hz_7, hf⟩ := bn_some hf
      refine cRV (As := [.int p1, .int p2]) (rest := [.int 100]) ⟨hx, hb, hml, hown, hts⟩ (c_X4_entryThing l D cI cZ cJ cT (a 1) (z_1.2.2 1) p1 p2 z_7 hz_7) (cwV 2 hts gX6_entry_X4_entryThing rfl rfl rfl (by decide +kernel) ⟨Nat.le_of_ble_eq_true rfl, Nat.le_of_ble_eq_true rfl⟩) (fl_sub hP 1 rfl) hK (va_recv hK (fl_sub hP 1 rfl) (ci := 4) (q0 := 0) rfl rfl) rfl rfl hl.1 (Nat.le_of_ble_eq_true rfl) dX6_entry_40 ⟨Nat.le_of_ble_eq_true rfl, Nat.le_of_ble_eq_true rfl⟩ ?_
      refine lv_imul hx hb dX6_entry_43 ?_
      refine lv_aload_n hx hb dX6_entry_44 rfl (lv_at hl 0 rfl) ?_
      refine va_get (D := D) (ci := 6) (v := .ref (a 1 0)) (C := RX6) (T := TX6) (N := 11) hx hb hts i6 hown hK (fl_sub hP 0 rfl) 0 rfl rfl 0 (by decide) hk12 (fun _ h9 => h9) rfl dX6_entry_45 ?_
      refine lv_iload_n hx hb dX6_entry_48 rfl (lv_at hl 1 rfl) ?_
      refine lv_iload_n hx hb dX6_entry_49 rfl (lv_at hl 2 rfl) ?_
      obtain ⟨z_8, hz_8, hf⟩ := bn_some hf
      refine cRV (As := [.int p1, .int p2]) (rest := [.int (100 * z_7)]) ⟨hx, hb, hml, hown, hts⟩ (c_X4_entryName l D cI cZ cJ cT (a 1) (z_1.2.2 1) p1 p2 z_8 hz_8) (cwV 2 hts gX6_entry_X4_entryName rfl rfl rfl (by decide +kernel) ⟨Nat.le_of_ble_eq_true rfl, Nat.le_of_ble_eq_true rfl⟩) (fl_sub hP 1 rfl) hK (va_recv hK (fl_sub hP 1 rfl) (ci := 4) (q0 := 0) rfl rfl) rfl rfl hl.1 (Nat.le_of_ble_eq_true rfl) dX6_entry_50 ⟨Nat.le_of_ble_eq_true rfl, Nat.le_of_ble_eq_true rfl⟩ ?_
      refine lv_iadd hx hb dX6_entry_53 ?_
      have eo := Option.some.inj hf
      have hP : va_P D cls (wI cI cZ cT a o.2.2) H := by rw [← eo]; exact hP
      rw [hQ]
      refine W.widen (k := 2) (n := 12) (Nat.le_of_ble_eq_true rfl) (Nat.le_of_ble_eq_true rfl) ?_
      exact vx_ret (W.iret hx hb hr (fun t ht hW => ⟨⟨_, (), rfl, ⟨(by rw [← eo]), (by rw [← eo])⟩, P_at ht hP⟩, hS.F ht⟩) hS.2.2 dX6_entry_54 hlocks)
    · have hf := ite_f hf c_6
      refine W.widen (k := 1) (n := 6) (Nat.le_of_ble_eq_true rfl) (Nat.le_of_ble_eq_true rfl) ?_
      exact j21_3 _ _ _ hf hP hS (lv_sub hl [] rfl)
set_option maxRecDepth 20000 in
theorem ggX6_target_X4_isOfKind : GoodIn wsX6_target wsX4_isOfKind := goodIn_r _ [21, 14, 22, 10, 11, 12, 13, 15, 16, 17, 39, 40, 41, 42, 43, 44, 45, 46, 47, 48, 49, 50] (by decide +kernel) (by decide +kernel)
set_option maxRecDepth 20000 in
theorem gX6_target_X4_isOfKind : GoodIn wsX6_target (wsV RX6 103 RX4 yX4_isOfKind wsX4_isOfKind) := goodIn_app (goodIn_of _ (by decide +kernel)) ggX6_target_X4_isOfKind
set_option maxRecDepth 20000 in
theorem ggX6_target_X4_pathOf : GoodIn wsX6_target wsX4_pathOf := goodIn_r _ [26, 27, 15, 16, 12, 17, 39, 40, 41, 42, 43, 44, 45, 46, 47, 48, 49, 50] (by decide +kernel) (by decide +kernel)
set_option maxRecDepth 20000 in
theorem gX6_target_X4_pathOf : GoodIn wsX6_target (wsV RX6 390 RX4 yX4_pathOf wsX4_pathOf) := goodIn_app (goodIn_of _ (by decide +kernel)) ggX6_target_X4_pathOf
set_option maxRecDepth 20000 in
theorem ggX6_target_X6_demandThing : GoodIn wsX6_target wsX6_demandThing := goodIn_ca (goodIn_r _ [6, 7, 8, 1, 9, 10, 11, 12, 13, 14, 15, 16, 17, 28, 29, 30, 31, 32, 33, 34, 35, 36, 37, 38, 39, 40, 41, 42, 43, 44, 45, 46, 47, 48, 49, 50] (by decide +kernel) (by decide +kernel)) (goodIn_sub (fun _ h => List.mem_cons_of_mem _ (List.mem_append_right _ h)) (by decide +kernel))
set_option maxRecDepth 20000 in
theorem gX6_target_X6_demandThing : GoodIn wsX6_target (wsV RX6 347 RX6 yX6_demandThing wsX6_demandThing) := goodIn_app (goodIn_of _ (by decide +kernel)) ggX6_target_X6_demandThing
theorem dX6_target_0 : decode cX6_target 0 = .ok (.aload_n 0, 1) := by decide +kernel
theorem dX6_target_1 : decode cX6_target 1 = .ok (.iload_n 1, 1) := by decide +kernel
theorem dX6_target_2 : decode cX6_target 2 = .ok (.invokevirtual 347, 3) := by decide +kernel
theorem dX6_target_5 : decode cX6_target 5 = .ok (.aload_n 0, 1) := by decide +kernel
theorem dX6_target_6 : decode cX6_target 6 = .ok (.getfield 12, 3) := by decide +kernel
theorem dX6_target_9 : decode cX6_target 9 = .ok (.iload_n 1, 1) := by decide +kernel
theorem dX6_target_10 : decode cX6_target 10 = .ok (.iconst 2, 1) := by decide +kernel
theorem dX6_target_11 : decode cX6_target 11 = .ok (.invokevirtual 103, 3) := by decide +kernel
theorem dX6_target_14 : decode cX6_target 14 = .ok (.ifCond .eq 14, 3) := by decide +kernel
theorem dX6_target_17 : decode cX6_target 17 = .ok (.aload_n 0, 1) := by decide +kernel
theorem dX6_target_18 : decode cX6_target 18 = .ok (.getfield 12, 3) := by decide +kernel
theorem dX6_target_21 : decode cX6_target 21 = .ok (.iload_n 1, 1) := by decide +kernel
theorem dX6_target_22 : decode cX6_target 22 = .ok (.invokevirtual 390, 3) := by decide +kernel
theorem dX6_target_25 : decode cX6_target 25 = .ok (.goto 4, 3) := by decide +kernel
theorem dX6_target_28 : decode cX6_target 28 = .ok (.iconst (-1), 1) := by decide +kernel
theorem dX6_target_29 : decode cX6_target 29 = .ok (.ireturn, 1) := by decide +kernel
def f_X6_target (U : S2) (p1 : Int32) : Option (Nat × Int32 × S2) := bn (f_X6_demandThing U p1) (fun z_1 => if z_1.1 = 0 then bn (f_X4_isOfKind (z_1.2.2 1) p1 2) (fun z_3 => jn (fun (v29_4_0 : Int32) => some (0, v29_4_0, z_1.2.2)) (fun k29_4 => if z_3 = 0 then k29_4 (-1) else bn (f_X4_pathOf (z_1.2.2 1) p1) (fun z_6 => k29_4 z_6))) else some (z_1.1, 0, z_1.2.2))
def rmX6_target : Room := { frames := 7, cells := 1, slots := 6, locals := 111 }
set_option maxHeartbeats 4000000 in
set_option maxRecDepth 100000 in
theorem c_X6_target (l : Launch) (hst : l.stackTraces = false) (D : va_G) (cI cZ cJ cT : ClassId) (a : Nat → Nat → Nat) (sz : Nat) (U : S2) (p1 : Int32) (o : Nat × Int32 × S2) (hf : f_X6_target U p1 = some o) : vx_Met l yX6_target wsX6_target rmX6_target (va_Pc [.ref (a 0 0), .int p1] (PX D cls (tys cI cZ cJ cT) (wI cI cZ cT a U) sz)) (QXi D cls o.1 o.2.1 (wI cI cZ cT a o.2.2) (va_A (wI cI cZ cT a U) sz)) (XX D cls o.1 (wI cI cZ cT a o.2.2) (va_A (wI cI cZ cT a U) sz)) 1 6 (va_A (wI cI cZ cT a U) sz) := by
  refine vx_ofW (cc := cX6_target) (maxL := 2) (ret := (some .int)) (by decide) rfl ?_
  intro p e s m args below meth c s₁ B hml hxt hv
  obtain ⟨hav, ⟨hsz, hP, hK, hD0⟩, hE⟩ := hv
  have hx := B.exec
  have hb := B.bytes
  have hr := B.returns
  have hlocks := B.notSynchronized
  have hts := atoms_spec (ws := wsX6_target) B.pre
  have hown : s.vm.findClass RX6 = some m.cls := findClass_of_methodNamed B.named
  have i6 : ∀ w ∈ wsX60, w ∈ wsX6_target := fun w h => List.mem_cons_of_mem _ (List.mem_append_left _ (List.mem_append_left _ (List.mem_append_right _ h)))
  have hk12 := hts (.fieldLink RX6 12 "Inodery" "now" "LInodery$Tree;") (by decide +kernel)
  subst hsz
  have hD := hD0.self (sz := s.heap.size)
  generalize hAe : va_A (wI cI cZ cT a U) s.heap.size = A at hD hE ⊢
  have hA : ∀ q : Nat, s.heap.size ≤ q → A q := fun q h => by rw [← hAe]; exact Or.inr h
  have hS : va_S A s.heap s.heap [] := va_S.rf
  have hDD : ∀ V : S2, va_D A (wI cI cZ cT a V) := fun _ => D_same (w := (wI cI cZ cT a U)) rfl hD
  refine Wq (fun Q hQ => ?_)
  refine W_entry hav (Nat.le_of_ble_eq_true rfl) (fun ls hl => ?_)
  have hl : lv_has ls 2 [(0, .ref (a 0 0)), (1, .int p1)] := hl
  unfold f_X6_target at hf
  refine W_heap hP hS (fun H locs hP hS => ?_)
  refine lv_aload_n hx hb dX6_target_0 rfl (lv_at hl 0 rfl) ?_
  refine lv_iload_n hx hb dX6_target_1 rfl (lv_at hl 1 rfl) ?_
  obtain ⟨z_1, hz_1, hf⟩ := bn_some hf
  refine cXVv (As := [.int p1]) (rest := []) ⟨hx, hb, hml, hown, hts⟩ (c_X6_demandThing l hst D cI cZ cJ cT a H.size U p1 z_1 hz_1) (cwV 1 hts gX6_target_X6_demandThing rfl rfl rfl (by decide +kernel) ⟨Nat.le_of_ble_eq_true rfl, Nat.le_of_ble_eq_true rfl⟩) hP hK (hDD U) hE hS (own_free (hDD U) hS hA) (va_recv hK (fl_sub hP 0 rfl) (ci := 6) (q0 := 0) rfl rfl) rfl rfl hl.1 (Nat.le_of_ble_eq_true rfl) dX6_target_2 ⟨Nat.le_of_ble_eq_true rfl, Nat.le_of_ble_eq_true rfl⟩ (fun E ce q9 H locs k_2 hE9 hP hS hce hcv hcl => ?_) (fun H locs k_2 hP hS => ?_)
  · have hf := ite_f hf k_2
    have eo := Option.some.inj hf
    have hP : va_P D cls (wI cI cZ cT a o.2.2) H := by rw [← eo]; exact hP
    rw [hQ]
    exact xout (k := o.1) hxt hlocks (by rw [← eo]; exact k_2) (by rw [← eo]; exact hE9) hP hS hce hcv hcl (Nat.le_of_ble_eq_true rfl) (Nat.le_of_ble_eq_true rfl)
  have hf := ite_t hf k_2
  refine lv_aload_n hx hb dX6_target_5 rfl (lv_at hl 0 rfl) ?_
  refine va_get (D := D) (ci := 6) (v := .ref (a 1 0)) (C := RX6) (T := TX6) (N := 11) hx hb hts i6 hown hK (fl_sub hP 0 rfl) 0 rfl rfl 0 (by decide) hk12 (fun _ h9 => h9) rfl dX6_target_6 ?_
  refine lv_iload_n hx hb dX6_target_9 rfl (lv_at hl 1 rfl) ?_
  refine lv_iconst (v := 2) hx hb dX6_target_10 (by decide) ?_
  obtain ⟨z_3, hz_3, hf⟩ := bn_some hf
  refine cRV (As := [.int p1, .int 2]) (rest := []) ⟨hx, hb, hml, hown, hts⟩ (c_X4_isOfKind l D cI cZ cJ cT (a 1) (z_1.2.2 1) p1 2 z_3 hz_3) (cwV 2 hts gX6_target_X4_isOfKind rfl rfl rfl (by decide +kernel) ⟨Nat.le_of_ble_eq_true rfl, Nat.le_of_ble_eq_true rfl⟩) (fl_sub hP 1 rfl) hK (va_recv hK (fl_sub hP 1 rfl) (ci := 4) (q0 := 0) rfl rfl) rfl rfl hl.1 (Nat.le_of_ble_eq_true rfl) dX6_target_11 ⟨Nat.le_of_ble_eq_true rfl, Nat.le_of_ble_eq_true rfl⟩ ?_
  obtain ⟨k29_4, hk29_4, hf⟩ := jn_some hf
  have j29_4 : ∀ (v29_4_0 : Int32) (H : Heap) (locs : List Loc) (ls : Array Slot), k29_4 v29_4_0 = some o → va_P D cls (wI cI cZ cT a z_1.2.2) H → va_S A s.heap H locs → lv_has ls 2 [] → W p l e (headSpec wsX6_target rmX6_target).room s m args below meth c H locs 1 6 Q (F0 m 29 ls [.int v29_4_0]) := by
    intro v29_4_0 H locs ls hf hP hS hl
    have hf := qa1 hk29_4 hf
    have eo := Option.some.inj hf
    have hP : va_P D cls (wI cI cZ cT a o.2.2) H := by rw [← eo]; exact hP
    rw [hQ]
    refine W.widen (k := 1) (n := 6) (Nat.le_of_ble_eq_true rfl) (Nat.le_of_ble_eq_true rfl) ?_
    exact vx_ret (W.iret hx hb hr (fun t ht hW => ⟨⟨_, (), rfl, ⟨(by rw [← eo]), (by rw [← eo])⟩, P_at ht hP⟩, hS.F ht⟩) hS.2.2 dX6_target_29 hlocks)
  refine lv_if_eq (tgt := 28) hx hb dX6_target_14 (by decide) (fun c_5 => ?_) (fun c_5 => ?_)
  · have hf := ite_t hf c_5
    refine lv_iconst (v := (-1)) hx hb dX6_target_28 (by decide) ?_
    refine W.widen (k := 1) (n := 6) (Nat.le_of_ble_eq_true rfl) (Nat.le_of_ble_eq_true rfl) ?_
    exact j29_4 _ _ _ _ hf hP hS (lv_sub hl [] rfl)
  · have hf := ite_f hf c_5
    refine lv_aload_n hx hb dX6_target_17 rfl (lv_at hl 0 rfl) ?_
    refine va_get (D := D) (ci := 6) (v := .ref (a 1 0)) (C := RX6) (T := TX6) (N := 11) hx hb hts i6 hown hK (fl_sub hP 0 rfl) 0 rfl rfl 0 (by decide) hk12 (fun _ h9 => h9) rfl dX6_target_18 ?_
    refine lv_iload_n hx hb dX6_target_21 rfl (lv_at hl 1 rfl) ?_
    obtain ⟨z_6, hz_6, hf⟩ := bn_some hf
    refine cRV (As := [.int p1]) (rest := []) ⟨hx, hb, hml, hown, hts⟩ (c_X4_pathOf l D cI cZ cJ cT (a 1) (z_1.2.2 1) p1 z_6 hz_6) (cwV 1 hts gX6_target_X4_pathOf rfl rfl rfl (by decide +kernel) ⟨Nat.le_of_ble_eq_true rfl, Nat.le_of_ble_eq_true rfl⟩) (fl_sub hP 1 rfl) hK (va_recv hK (fl_sub hP 1 rfl) (ci := 4) (q0 := 0) rfl rfl) rfl rfl hl.1 (Nat.le_of_ble_eq_true rfl) dX6_target_22 ⟨Nat.le_of_ble_eq_true rfl, Nat.le_of_ble_eq_true rfl⟩ ?_
    refine lv_goto (tgt := 29) hx hb dX6_target_25 (by decide) ?_
    refine W.widen (k := 1) (n := 6) (Nat.le_of_ble_eq_true rfl) (Nat.le_of_ble_eq_true rfl) ?_
    exact j29_4 _ _ _ _ hf hP hS (lv_sub hl [] rfl)
set_option maxRecDepth 20000 in
theorem ggX6_page_X0_isDirty : GoodIn wsX6_page wsX0_isDirty := goodIn_r _ [41, 42, 43, 44, 40, 45, 46, 47, 48, 49, 73, 74, 75] (by decide +kernel) (by decide +kernel)
set_option maxRecDepth 20000 in
theorem gX6_page_X0_isDirty : GoodIn wsX6_page (wsV RX6 237 RX0 yX0_isDirty wsX0_isDirty) := goodIn_app (goodIn_of _ (by decide +kernel)) ggX6_page_X0_isDirty
set_option maxRecDepth 20000 in
theorem ggX6_page_X4_blockOf : GoodIn wsX6_page wsX4_blockOf := goodIn_r _ [35, 36, 29, 30, 15, 31, 18, 19, 20, 61, 62, 63, 64, 65, 66, 67, 68, 69, 70, 71, 72] (by decide +kernel) (by decide +kernel)
set_option maxRecDepth 20000 in
theorem gX6_page_X4_blockOf : GoodIn wsX6_page (wsV RX6 395 RX4 yX4_blockOf wsX4_blockOf) := goodIn_app (goodIn_of _ (by decide +kernel)) ggX6_page_X4_blockOf
set_option maxRecDepth 20000 in
theorem ggX6_page_X4_pageKindOf : GoodIn wsX6_page wsX4_pageKindOf := goodIn_r _ [27, 28, 29, 30, 15, 31, 18, 19, 20, 61, 62, 63, 64, 65, 66, 67, 68, 69, 70, 71, 72] (by decide +kernel) (by decide +kernel)
set_option maxRecDepth 20000 in
theorem gX6_page_X4_pageKindOf : GoodIn wsX6_page (wsV RX6 263 RX4 yX4_pageKindOf wsX4_pageKindOf) := goodIn_app (goodIn_of _ (by decide +kernel)) ggX6_page_X4_pageKindOf
set_option maxRecDepth 20000 in
theorem ggX6_page_X6_demandThing : GoodIn wsX6_page wsX6_demandThing := goodIn_ca (goodIn_r _ [11, 1, 2, 5, 12, 13, 14, 15, 16, 17, 18, 19, 20, 50, 51, 52, 53, 54, 55, 56, 57, 58, 59, 60, 61, 62, 63, 64, 65, 66, 67, 68, 69, 70, 71, 72] (by decide +kernel) (by decide +kernel)) (goodIn_sub (fun _ h => List.mem_cons_of_mem _ (List.mem_append_left _ (List.mem_append_right _ h))) (by decide +kernel))
set_option maxRecDepth 20000 in
theorem gX6_page_X6_demandThing : GoodIn wsX6_page (wsV RX6 347 RX6 yX6_demandThing wsX6_demandThing) := goodIn_app (goodIn_of _ (by decide +kernel)) ggX6_page_X6_demandThing
set_option maxRecDepth 20000 in
theorem ggX6_page_X6_isPage : GoodIn wsX6_page wsX6_isPage := goodIn_r _ [23] (by decide +kernel) (by decide +kernel)
set_option maxRecDepth 20000 in
theorem gX6_page_X6_isPage : GoodIn wsX6_page (va_wsS RX6 324 yX6_isPage wsX6_isPage) := goodIn_app (goodIn_of _ (by decide +kernel)) ggX6_page_X6_isPage
theorem dX6_page_0 : decode cX6_page 0 = .ok (.aload_n 0, 1) := by decide +kernel
theorem dX6_page_1 : decode cX6_page 1 = .ok (.iload_n 1, 1) := by decide +kernel
theorem dX6_page_2 : decode cX6_page 2 = .ok (.invokevirtual 347, 3) := by decide +kernel
theorem dX6_page_5 : decode cX6_page 5 = .ok (.iload_n 2, 1) := by decide +kernel
theorem dX6_page_6 : decode cX6_page 6 = .ok (.invokestatic 324, 3) := by decide +kernel
theorem dX6_page_9 : decode cX6_page 9 = .ok (.ifCond .ne 14, 3) := by decide +kernel
theorem dX6_page_12 : decode cX6_page 12 = .ok (.new 74, 3) := by decide +kernel
theorem dX6_page_15 : decode cX6_page 15 = .ok (.dup, 1) := by decide +kernel
theorem dX6_page_16 : decode cX6_page 16 = .ok (.ldc_w 393, 3) := by decide +kernel
theorem dX6_page_19 : decode cX6_page 19 = .ok (.invokespecial 78, 3) := by decide +kernel
theorem dX6_page_22 : decode cX6_page 22 = .ok (.athrow, 1) := by decide +kernel
theorem dX6_page_23 : decode cX6_page 23 = .ok (.iload_n 3, 1) := by decide +kernel
theorem dX6_page_24 : decode cX6_page 24 = .ok (.tableswitch 66 0 2 #[28, 38, 48], 28) := by decide +kernel
theorem dX6_page_52 : decode cX6_page 52 = .ok (.aload_n 0, 1) := by decide +kernel
theorem dX6_page_53 : decode cX6_page 53 = .ok (.getfield 12, 3) := by decide +kernel
theorem dX6_page_56 : decode cX6_page 56 = .ok (.iload_n 1, 1) := by decide +kernel
theorem dX6_page_57 : decode cX6_page 57 = .ok (.iload_n 2, 1) := by decide +kernel
theorem dX6_page_58 : decode cX6_page 58 = .ok (.invokevirtual 263, 3) := by decide +kernel
theorem dX6_page_61 : decode cX6_page 61 = .ok (.ireturn, 1) := by decide +kernel
theorem dX6_page_62 : decode cX6_page 62 = .ok (.aload_n 0, 1) := by decide +kernel
theorem dX6_page_63 : decode cX6_page 63 = .ok (.getfield 12, 3) := by decide +kernel
theorem dX6_page_66 : decode cX6_page 66 = .ok (.iload_n 1, 1) := by decide +kernel
theorem dX6_page_67 : decode cX6_page 67 = .ok (.iload_n 2, 1) := by decide +kernel
theorem dX6_page_68 : decode cX6_page 68 = .ok (.invokevirtual 395, 3) := by decide +kernel
theorem dX6_page_71 : decode cX6_page 71 = .ok (.ireturn, 1) := by decide +kernel
theorem dX6_page_72 : decode cX6_page 72 = .ok (.aload_n 0, 1) := by decide +kernel
theorem dX6_page_73 : decode cX6_page 73 = .ok (.getfield 44, 3) := by decide +kernel
theorem dX6_page_76 : decode cX6_page 76 = .ok (.iload_n 1, 1) := by decide +kernel
theorem dX6_page_77 : decode cX6_page 77 = .ok (.iload_n 2, 1) := by decide +kernel
theorem dX6_page_78 : decode cX6_page 78 = .ok (.invokevirtual 237, 3) := by decide +kernel
theorem dX6_page_81 : decode cX6_page 81 = .ok (.ifCond .eq 7, 3) := by decide +kernel
theorem dX6_page_84 : decode cX6_page 84 = .ok (.iconst 1, 1) := by decide +kernel
theorem dX6_page_85 : decode cX6_page 85 = .ok (.goto 4, 3) := by decide +kernel
theorem dX6_page_88 : decode cX6_page 88 = .ok (.iconst 0, 1) := by decide +kernel
theorem dX6_page_89 : decode cX6_page 89 = .ok (.ireturn, 1) := by decide +kernel
theorem dX6_page_90 : decode cX6_page 90 = .ok (.new 88, 3) := by decide +kernel
theorem dX6_page_93 : decode cX6_page 93 = .ok (.dup, 1) := by decide +kernel
theorem dX6_page_94 : decode cX6_page 94 = .ok (.ldc_w 345, 3) := by decide +kernel
theorem dX6_page_97 : decode cX6_page 97 = .ok (.invokespecial 92, 3) := by decide +kernel
theorem dX6_page_100 : decode cX6_page 100 = .ok (.athrow, 1) := by decide +kernel
def f_X6_page (U : S2) (p1 : Int32) (p2 : Int32) (p3 : Int32) : Option (Nat × Int32 × S2) := bn (f_X6_demandThing U p1) (fun z_1 => if z_1.1 = 0 then bn (f_X6_isPage p2) (fun z_3 => if z_3 = 0 then some (2, 0, z_1.2.2) else if p3.toInt < 0 ∨ 2 < p3.toInt then some (1, 0, z_1.2.2) else if p3 = 0 then bn (f_X4_pageKindOf (z_1.2.2 1) p1 p2) (fun z_7 => some (0, z_7, z_1.2.2)) else if p3 = 1 then bn (f_X4_blockOf (z_1.2.2 1) p1 p2) (fun z_9 => some (0, z_9, z_1.2.2)) else if p3 = 2 then bn (f_X0_isDirty (z_1.2.2 8) p1 p2) (fun z_11 => jn (fun (v89_12_0 : Int32) => some (0, v89_12_0, z_1.2.2)) (fun k89_12 => if z_11 = 0 then k89_12 0 else k89_12 1)) else none) else some (z_1.1, 0, z_1.2.2))
def rmX6_page : Room := { frames := 7, cells := 2, slots := 12, locals := 111 }
set_option maxHeartbeats 4000000 in
set_option maxRecDepth 100000 in
theorem c_X6_page (l : Launch) (hst : l.stackTraces = false) (D : va_G) (cI cZ cJ cT : ClassId) (a : Nat → Nat → Nat) (sz : Nat) (U : S2) (p1 : Int32) (p2 : Int32) (p3 : Int32) (o : Nat × Int32 × S2) (hf : f_X6_page U p1 p2 p3 = some o) : vx_Met l yX6_page wsX6_page rmX6_page (va_Pc [.ref (a 0 0), .int p1, .int p2, .int p3] (PX D cls (tys cI cZ cJ cT) (wI cI cZ cT a U) sz)) (QXi D cls o.1 o.2.1 (wI cI cZ cT a o.2.2) (va_A (wI cI cZ cT a U) sz)) (XX D cls o.1 (wI cI cZ cT a o.2.2) (va_A (wI cI cZ cT a U) sz)) 2 12 (va_A (wI cI cZ cT a U) sz) := by
  refine vx_ofW (cc := cX6_page) (maxL := 4) (ret := (some .int)) (by decide) rfl ?_
  intro p e s m args below meth c s₁ B hml hxt hv
  obtain ⟨hav, ⟨hsz, hP, hK, hD0⟩, hE⟩ := hv
  have hx := B.exec
  have hb := B.bytes
  have hr := B.returns
  have hlocks := B.notSynchronized
  have hts := atoms_spec (ws := wsX6_page) B.pre
  have hown : s.vm.findClass RX6 = some m.cls := findClass_of_methodNamed B.named
  have i6 : ∀ w ∈ wsX60, w ∈ wsX6_page := fun w h => List.mem_cons_of_mem _ (List.mem_append_left _ (List.mem_append_left _ (List.mem_append_left _ (List.mem_append_left _ (List.mem_append_right _ h)))))
  have hk12 := hts (.fieldLink RX6 12 "Inodery" "now" "LInodery$Tree;") (by decide +kernel)
  have hk44 := hts (.fieldLink RX6 44 "Inodery" "cache" "LInodery$Cache;") (by decide +kernel)
  subst hsz
  have hD := hD0.self (sz := s.heap.size)
  generalize hAe : va_A (wI cI cZ cT a U) s.heap.size = A at hD hE ⊢
  have hA : ∀ q : Nat, s.heap.size ≤ q → A q := fun q h => by rw [← hAe]; exact Or.inr h
  have hS : va_S A s.heap s.heap [] := va_S.rf
  have hDD : ∀ V : S2, va_D A (wI cI cZ cT a V) := fun _ => D_same (w := (wI cI cZ cT a U)) rfl hD
  refine Wq (fun Q hQ => ?_)
  refine W_entry hav (Nat.le_of_ble_eq_true rfl) (fun ls hl => ?_)
  have hl : lv_has ls 4 [(0, .ref (a 0 0)), (1, .int p1), (2, .int p2), (3, .int p3)] := hl
  unfold f_X6_page at hf
  refine W_heap hP hS (fun H locs hP hS => ?_)
  refine lv_aload_n hx hb dX6_page_0 rfl (lv_at hl 0 rfl) ?_
  refine lv_iload_n hx hb dX6_page_1 rfl (lv_at hl 1 rfl) ?_
  obtain ⟨z_1, hz_1, hf⟩ := bn_some hf
  refine cXVv (As := [.int p1]) (rest := []) ⟨hx, hb, hml, hown, hts⟩ (c_X6_demandThing l hst D cI cZ cJ cT a H.size U p1 z_1 hz_1) (cwV 1 hts gX6_page_X6_demandThing rfl rfl rfl (by decide +kernel) ⟨Nat.le_of_ble_eq_true rfl, Nat.le_of_ble_eq_true rfl⟩) hP hK (hDD U) hE hS (own_free (hDD U) hS hA) (va_recv hK (fl_sub hP 0 rfl) (ci := 6) (q0 := 0) rfl rfl) rfl rfl hl.1 (Nat.le_of_ble_eq_true rfl) dX6_page_2 ⟨Nat.le_of_ble_eq_true rfl, Nat.le_of_ble_eq_true rfl⟩ (fun E ce q9 H locs k_2 hE9 hP hS hce hcv hcl => ?_) (fun H locs k_2 hP hS => ?_)
  · have hf := ite_f hf k_2
    have eo := Option.some.inj hf
    have hP : va_P D cls (wI cI cZ cT a o.2.2) H := by rw [← eo]; exact hP
    rw [hQ]
    exact xout (k := o.1) hxt hlocks (by rw [← eo]; exact k_2) (by rw [← eo]; exact hE9) hP hS hce hcv hcl (Nat.le_of_ble_eq_true rfl) (Nat.le_of_ble_eq_true rfl)
  have hf := ite_t hf k_2
  refine lv_iload_n hx hb dX6_page_5 rfl (lv_at hl 2 rfl) ?_
  obtain ⟨z_3, hz_3, hf⟩ := bn_some hf
  refine c0S (As := [.int p2]) (rest := []) ⟨hx, hb, hml, hown, hts⟩ (c_X6_isPage l D cI cZ cJ cT p2 z_3 hz_3) (va_cwS 1 hts gX6_page_X6_isPage rfl rfl rfl (by decide +kernel) ⟨Nat.le_of_ble_eq_true rfl, Nat.le_of_ble_eq_true rfl⟩) rfl rfl hl.1 (Nat.le_of_ble_eq_true rfl) dX6_page_6 ⟨Nat.le_of_ble_eq_true rfl, Nat.le_of_ble_eq_true rfl⟩ ?_
  refine lv_if_ne (tgt := 23) hx hb dX6_page_9 (by decide) (fun c_4 => ?_) (fun c_4 => ?_)
  · have hf := ite_f hf c_4
    refine lv_iload_n hx hb dX6_page_23 rfl (lv_at hl 3 rfl) ?_
    by_cases c_5 : p3.toInt < 0 ∨ 2 < p3.toInt
    · have hf := ite_t hf c_5
      refine lv_tableOut (tgt := 90) hx hb dX6_page_24 c_5 (by decide) ?_
      have eo := Option.some.inj hf
      have hP : va_P D cls (wI cI cZ cT a o.2.2) H := by rw [← eo]; exact hP
      rw [hQ]
      have hk0 : o.1 = 1 := by rw [← eo]
      exact thrW o.1 (text := "what is out of range") (by rw [hk0]; rfl) (by rw [hk0]; decide) hx hb hst hown (by decide +kernel) (hts (.classLink RX6 88 "java/lang/IllegalArgumentException") (by decide +kernel)) (hts (.initialized "java/lang/IllegalArgumentException") (by decide +kernel)) (fun w h => hts w (List.mem_cons_of_mem _ (List.mem_append_right _ h))) (EX_b1 hE) ok1 (by decide +kernel) hE hS hP (hl.1.trans hml.symm) dX6_page_90 dX6_page_93 dX6_page_94 dX6_page_97 dX6_page_100 hxt (Nat.le_of_ble_eq_true rfl) (Nat.le_of_ble_eq_true rfl) (Nat.le_of_ble_eq_true rfl) (Nat.le_of_ble_eq_true rfl) hlocks (Nat.le_of_ble_eq_true rfl) (Nat.le_of_ble_eq_true rfl)
    have hf := ite_f hf c_5
    by_cases e_6 : p3 = 0
    · have hf := ite_t hf e_6
      refine lv_tableIn (off := 28) (tgt := 52) hx hb dX6_page_24 (by rw [e_6]; decide) (by rw [e_6]; decide) (by rw [e_6]; rfl) (by decide) ?_
      refine lv_aload_n hx hb dX6_page_52 rfl (lv_at hl 0 rfl) ?_
      refine va_get (D := D) (ci := 6) (v := .ref (a 1 0)) (C := RX6) (T := TX6) (N := 11) hx hb hts i6 hown hK (fl_sub hP 0 rfl) 0 rfl rfl 0 (by decide) hk12 (fun _ h9 => h9) rfl dX6_page_53 ?_
      refine lv_iload_n hx hb dX6_page_56 rfl (lv_at hl 1 rfl) ?_
      refine lv_iload_n hx hb dX6_page_57 rfl (lv_at hl 2 rfl) ?_
      obtain ⟨z_7, hz_7, hf⟩ := bn_some hf
      refine cRV (As := [.int p1, .int p2]) (rest := []) ⟨hx, hb, hml, hown, hts⟩ (c_X4_pageKindOf l D cI cZ cJ cT (a 1) (z_1.2.2 1) p1 p2 z_7 hz_7) (cwV 2 hts gX6_page_X4_pageKindOf rfl rfl rfl (by decide +kernel) ⟨Nat.le_of_ble_eq_true rfl, Nat.le_of_ble_eq_true rfl⟩) (fl_sub hP 1 rfl) hK (va_recv hK (fl_sub hP 1 rfl) (ci := 4) (q0 := 0) rfl rfl) rfl rfl hl.1 (Nat.le_of_ble_eq_true rfl) dX6_page_58 ⟨Nat.le_of_ble_eq_true rfl, Nat.le_of_ble_eq_true rfl⟩ ?_
      have eo := Option.some.inj hf
      have hP : va_P D cls (wI cI cZ cT a o.2.2) H := by rw [← eo]; exact hP
      rw [hQ]
      refine W.widen (k := 2) (n := 12) (Nat.le_of_ble_eq_true rfl) (Nat.le_of_ble_eq_true rfl) ?_
      exact vx_ret (W.iret hx hb hr (fun t ht hW => ⟨⟨_, (), rfl, ⟨(by rw [← eo]), (by rw [← eo])⟩, P_at ht hP⟩, hS.F ht⟩) hS.2.2 dX6_page_61 hlocks)
    have hf := ite_f hf e_6
    by_cases e_8 : p3 = 1
    · have hf := ite_t hf e_8
      refine lv_tableIn (off := 38) (tgt := 62) hx hb dX6_page_24 (by rw [e_8]; decide) (by rw [e_8]; decide) (by rw [e_8]; rfl) (by decide) ?_
      refine lv_aload_n hx hb dX6_page_62 rfl (lv_at hl 0 rfl) ?_
      refine va_get (D := D) (ci := 6) (v := .ref (a 1 0)) (C := RX6) (T := TX6) (N := 11) hx hb hts i6 hown hK (fl_sub hP 0 rfl) 0 rfl rfl 0 (by decide) hk12 (fun _ h9 => h9) rfl dX6_page_63 ?_
      refine lv_iload_n hx hb dX6_page_66 rfl (lv_at hl 1 rfl) ?_
      refine lv_iload_n hx hb dX6_page_67 rfl (lv_at hl 2 rfl) ?_
      obtain ⟨z_9, hz_9, hf⟩ := bn_some hf
      refine cRV (As := [.int p1, .int p2]) (rest := []) ⟨hx, hb, hml, hown, hts⟩ (c_X4_blockOf l D cI cZ cJ cT (a 1) (z_1.2.2 1) p1 p2 z_9 hz_9) (cwV 2 hts gX6_page_X4_blockOf rfl rfl rfl (by decide +kernel) ⟨Nat.le_of_ble_eq_true rfl, Nat.le_of_ble_eq_true rfl⟩) (fl_sub hP 1 rfl) hK (va_recv hK (fl_sub hP 1 rfl) (ci := 4) (q0 := 0) rfl rfl) rfl rfl hl.1 (Nat.le_of_ble_eq_true rfl) dX6_page_68 ⟨Nat.le_of_ble_eq_true rfl, Nat.le_of_ble_eq_true rfl⟩ ?_
      have eo := Option.some.inj hf
      have hP : va_P D cls (wI cI cZ cT a o.2.2) H := by rw [← eo]; exact hP
      rw [hQ]
      refine W.widen (k := 2) (n := 12) (Nat.le_of_ble_eq_true rfl) (Nat.le_of_ble_eq_true rfl) ?_
      exact vx_ret (W.iret hx hb hr (fun t ht hW => ⟨⟨_, (), rfl, ⟨(by rw [← eo]), (by rw [← eo])⟩, P_at ht hP⟩, hS.F ht⟩) hS.2.2 dX6_page_71 hlocks)
    have hf := ite_f hf e_8
    by_cases e_10 : p3 = 2
    · have hf := ite_t hf e_10
      refine lv_tableIn (off := 48) (tgt := 72) hx hb dX6_page_24 (by rw [e_10]; decide) (by rw [e_10]; decide) (by rw [e_10]; rfl) (by decide) ?_
      refine lv_aload_n hx hb dX6_page_72 rfl (lv_at hl 0 rfl) ?_
      refine va_get (D := D) (ci := 6) (v := .ref (a 8 0)) (C := RX6) (T := TX6) (N := 11) hx hb hts i6 hown hK (fl_sub hP 0 rfl) 0 rfl rfl 6 (by decide) hk44 (fun _ h9 => h9) rfl dX6_page_73 ?_
      refine lv_iload_n hx hb dX6_page_76 rfl (lv_at hl 1 rfl) ?_
      refine lv_iload_n hx hb dX6_page_77 rfl (lv_at hl 2 rfl) ?_
      obtain ⟨z_11, hz_11, hf⟩ := bn_some hf
      refine cRV (As := [.int p1, .int p2]) (rest := []) ⟨hx, hb, hml, hown, hts⟩ (c_X0_isDirty l D cI cZ cJ cT (a 8) (z_1.2.2 8) p1 p2 z_11 hz_11) (cwV 2 hts gX6_page_X0_isDirty rfl rfl rfl (by decide +kernel) ⟨Nat.le_of_ble_eq_true rfl, Nat.le_of_ble_eq_true rfl⟩) (fl_sub hP 8 rfl) hK (va_recv hK (fl_sub hP 8 rfl) (ci := 0) (q0 := 0) rfl rfl) rfl rfl hl.1 (Nat.le_of_ble_eq_true rfl) dX6_page_78 ⟨Nat.le_of_ble_eq_true rfl, Nat.le_of_ble_eq_true rfl⟩ ?_
      obtain ⟨k89_12, hk89_12, hf⟩ := jn_some hf
      have j89_12 : ∀ (v89_12_0 : Int32) (H : Heap) (locs : List Loc) (ls : Array Slot), k89_12 v89_12_0 = some o → va_P D cls (wI cI cZ cT a z_1.2.2) H → va_S A s.heap H locs → lv_has ls 4 [] → W p l e (headSpec wsX6_page rmX6_page).room s m args below meth c H locs 1 6 Q (F0 m 89 ls [.int v89_12_0]) := by
        intro v89_12_0 H locs ls hf hP hS hl
        have hf := qa1 hk89_12 hf
        have eo := Option.some.inj hf
        have hP : va_P D cls (wI cI cZ cT a o.2.2) H := by rw [← eo]; exact hP
        rw [hQ]
        refine W.widen (k := 2) (n := 12) (Nat.le_of_ble_eq_true rfl) (Nat.le_of_ble_eq_true rfl) ?_
        exact vx_ret (W.iret hx hb hr (fun t ht hW => ⟨⟨_, (), rfl, ⟨(by rw [← eo]), (by rw [← eo])⟩, P_at ht hP⟩, hS.F ht⟩) hS.2.2 dX6_page_89 hlocks)
      refine lv_if_eq (tgt := 88) hx hb dX6_page_81 (by decide) (fun c_13 => ?_) (fun c_13 => ?_)
      · have hf := ite_t hf c_13
        refine lv_iconst (v := 0) hx hb dX6_page_88 (by decide) ?_
        refine W.widen (k := 1) (n := 6) (Nat.le_of_ble_eq_true rfl) (Nat.le_of_ble_eq_true rfl) ?_
        exact j89_12 _ _ _ _ hf hP hS (lv_sub hl [] rfl)
      · have hf := ite_f hf c_13
        refine lv_iconst (v := 1) hx hb dX6_page_84 (by decide) ?_
        refine lv_goto (tgt := 89) hx hb dX6_page_85 (by decide) ?_
        refine W.widen (k := 1) (n := 6) (Nat.le_of_ble_eq_true rfl) (Nat.le_of_ble_eq_true rfl) ?_
        exact j89_12 _ _ _ _ hf hP hS (lv_sub hl [] rfl)
    have hf := ite_f hf e_10
    exact nomatch hf
  · have hf := ite_t hf c_4
    have eo := Option.some.inj hf
    have hP : va_P D cls (wI cI cZ cT a o.2.2) H := by rw [← eo]; exact hP
    rw [hQ]
    have hk0 : o.1 = 2 := by rw [← eo]
    exact thrW o.1 (text := "no such page") (by rw [hk0]; rfl) (by rw [hk0]; decide) hx hb hst hown (by decide +kernel) (hts (.classLink RX6 74 "java/lang/IndexOutOfBoundsException") (by decide +kernel)) (hts (.initialized "java/lang/IndexOutOfBoundsException") (by decide +kernel)) (fun w h => hts w (List.mem_cons_of_mem _ (List.mem_append_left _ (List.mem_append_right _ h)))) (EX_b2 hE) ok2 (by decide +kernel) hE hS hP (hl.1.trans hml.symm) dX6_page_12 dX6_page_15 dX6_page_16 dX6_page_19 dX6_page_22 hxt (Nat.le_of_ble_eq_true rfl) (Nat.le_of_ble_eq_true rfl) (Nat.le_of_ble_eq_true rfl) (Nat.le_of_ble_eq_true rfl) hlocks (Nat.le_of_ble_eq_true rfl) (Nat.le_of_ble_eq_true rfl)
set_option maxRecDepth 20000 in
theorem ggX6_number_X2_numberOf : GoodIn wsX6_number wsX2_numberOf := goodIn_r _ [12, 13, 14, 15, 11, 16, 28, 29] (by decide +kernel) (by decide +kernel)
set_option maxRecDepth 20000 in
theorem gX6_number_X2_numberOf : GoodIn wsX6_number (wsV RX6 398 RX2 yX2_numberOf wsX2_numberOf) := goodIn_app (goodIn_of _ (by decide +kernel)) ggX6_number_X2_numberOf
set_option maxRecDepth 20000 in
theorem ggX6_number_X6_demandBlock : GoodIn wsX6_number wsX6_demandBlock := goodIn_ca (goodIn_r _ [5, 6, 7] (by decide +kernel) (by decide +kernel)) (goodIn_sub (fun _ h => List.mem_cons_of_mem _ (List.mem_append_right _ h)) (by decide +kernel))
set_option maxRecDepth 20000 in
theorem gX6_number_X6_demandBlock : GoodIn wsX6_number (va_wsS RX6 335 yX6_demandBlock wsX6_demandBlock) := goodIn_app (goodIn_of _ (by decide +kernel)) ggX6_number_X6_demandBlock
theorem dX6_number_0 : decode cX6_number 0 = .ok (.iload_n 1, 1) := by decide +kernel
theorem dX6_number_1 : decode cX6_number 1 = .ok (.invokestatic 335, 3) := by decide +kernel
theorem dX6_number_4 : decode cX6_number 4 = .ok (.aload_n 0, 1) := by decide +kernel
theorem dX6_number_5 : decode cX6_number 5 = .ok (.getfield 37, 3) := by decide +kernel
theorem dX6_number_8 : decode cX6_number 8 = .ok (.iload_n 1, 1) := by decide +kernel
theorem dX6_number_9 : decode cX6_number 9 = .ok (.invokevirtual 398, 3) := by decide +kernel
theorem dX6_number_12 : decode cX6_number 12 = .ok (.ireturn, 1) := by decide +kernel
def f_X6_number (U : S2) (p1 : Int32) : Option (Nat × Int32 × S2) := bn (f_X6_demandBlock U p1) (fun z_1 => if z_1.1 = 0 then bn (f_X2_numberOf (z_1.2.2 7) p1) (fun z_3 => some (0, z_3, z_1.2.2)) else some (z_1.1, 0, z_1.2.2))
def rmX6_number : Room := { frames := 7, cells := 1, slots := 6, locals := 110 }
set_option maxHeartbeats 4000000 in
set_option maxRecDepth 100000 in
theorem c_X6_number (l : Launch) (hst : l.stackTraces = false) (D : va_G) (cI cZ cJ cT : ClassId) (a : Nat → Nat → Nat) (sz : Nat) (U : S2) (p1 : Int32) (o : Nat × Int32 × S2) (hf : f_X6_number U p1 = some o) : vx_Met l yX6_number wsX6_number rmX6_number (va_Pc [.ref (a 0 0), .int p1] (PX D cls (tys cI cZ cJ cT) (wI cI cZ cT a U) sz)) (QXi D cls o.1 o.2.1 (wI cI cZ cT a o.2.2) (va_A (wI cI cZ cT a U) sz)) (XX D cls o.1 (wI cI cZ cT a o.2.2) (va_A (wI cI cZ cT a U) sz)) 1 6 (va_A (wI cI cZ cT a U) sz) := by
  refine vx_ofW (cc := cX6_number) (maxL := 2) (ret := (some .int)) (by decide) rfl ?_
  intro p e s m args below meth c s₁ B hml hxt hv
  obtain ⟨hav, ⟨hsz, hP, hK, hD0⟩, hE⟩ := hv
  have hx := B.exec
  have hb := B.bytes
  have hr := B.returns
  have hlocks := B.notSynchronized
  have hts := atoms_spec (ws := wsX6_number) B.pre
  have hown : s.vm.findClass RX6 = some m.cls := findClass_of_methodNamed B.named
  have i6 : ∀ w ∈ wsX60, w ∈ wsX6_number := fun w h => List.mem_cons_of_mem _ (List.mem_append_left _ (List.mem_append_left _ (List.mem_append_right _ h)))
  have hk37 := hts (.fieldLink RX6 37 "Inodery" "disk" "LInodery$Disk;") (by decide +kernel)
  subst hsz
  have hD := hD0.self (sz := s.heap.size)
  generalize hAe : va_A (wI cI cZ cT a U) s.heap.size = A at hD hE ⊢
  have hA : ∀ q : Nat, s.heap.size ≤ q → A q := fun q h => by rw [← hAe]; exact Or.inr h
  have hS : va_S A s.heap s.heap [] := va_S.rf
  have hDD : ∀ V : S2, va_D A (wI cI cZ cT a V) := fun _ => D_same (w := (wI cI cZ cT a U)) rfl hD
  refine Wq (fun Q hQ => ?_)
  refine W_entry hav (Nat.le_of_ble_eq_true rfl) (fun ls hl => ?_)
  have hl : lv_has ls 2 [(0, .ref (a 0 0)), (1, .int p1)] := hl
  unfold f_X6_number at hf
  refine W_heap hP hS (fun H locs hP hS => ?_)
  refine lv_iload_n hx hb dX6_number_0 rfl (lv_at hl 1 rfl) ?_
  obtain ⟨z_1, hz_1, hf⟩ := bn_some hf
  refine cXSv (As := [.int p1]) (rest := []) ⟨hx, hb, hml, hown, hts⟩ (c_X6_demandBlock l hst D cI cZ cJ cT a H.size U p1 z_1 hz_1) (va_cwS 1 hts gX6_number_X6_demandBlock rfl rfl rfl (by decide +kernel) ⟨Nat.le_of_ble_eq_true rfl, Nat.le_of_ble_eq_true rfl⟩) hP hK (hDD U) hE hS (own_free (hDD U) hS hA) rfl rfl hl.1 (Nat.le_of_ble_eq_true rfl) dX6_number_1 ⟨Nat.le_of_ble_eq_true rfl, Nat.le_of_ble_eq_true rfl⟩ (fun E ce q9 H locs k_2 hE9 hP hS hce hcv hcl => ?_) (fun H locs k_2 hP hS => ?_)
  · have hf := ite_f hf k_2
    have eo := Option.some.inj hf
    have hP : va_P D cls (wI cI cZ cT a o.2.2) H := by rw [← eo]; exact hP
    rw [hQ]
    exact xout (k := o.1) hxt hlocks (by rw [← eo]; exact k_2) (by rw [← eo]; exact hE9) hP hS hce hcv hcl (Nat.le_of_ble_eq_true rfl) (Nat.le_of_ble_eq_true rfl)
  have hf := ite_t hf k_2
  refine lv_aload_n hx hb dX6_number_4 rfl (lv_at hl 0 rfl) ?_
  refine va_get (D := D) (ci := 6) (v := .ref (a 7 0)) (C := RX6) (T := TX6) (N := 11) hx hb hts i6 hown hK (fl_sub hP 0 rfl) 0 rfl rfl 5 (by decide) hk37 (fun _ h9 => h9) rfl dX6_number_5 ?_
  refine lv_iload_n hx hb dX6_number_8 rfl (lv_at hl 1 rfl) ?_
  obtain ⟨z_3, hz_3, hf⟩ := bn_some hf
  refine cRV (As := [.int p1]) (rest := []) ⟨hx, hb, hml, hown, hts⟩ (c_X2_numberOf l D cI cZ cJ cT (a 7) (z_1.2.2 7) p1 z_3 hz_3) (cwV 1 hts gX6_number_X2_numberOf rfl rfl rfl (by decide +kernel) ⟨Nat.le_of_ble_eq_true rfl, Nat.le_of_ble_eq_true rfl⟩) (fl_sub hP 7 rfl) hK (va_recv hK (fl_sub hP 7 rfl) (ci := 2) (q0 := 0) rfl rfl) rfl rfl hl.1 (Nat.le_of_ble_eq_true rfl) dX6_number_9 ⟨Nat.le_of_ble_eq_true rfl, Nat.le_of_ble_eq_true rfl⟩ ?_
  have eo := Option.some.inj hf
  have hP : va_P D cls (wI cI cZ cT a o.2.2) H := by rw [← eo]; exact hP
  rw [hQ]
  refine W.widen (k := 1) (n := 6) (Nat.le_of_ble_eq_true rfl) (Nat.le_of_ble_eq_true rfl) ?_
  exact vx_ret (W.iret hx hb hr (fun t ht hW => ⟨⟨_, (), rfl, ⟨(by rw [← eo]), (by rw [← eo])⟩, P_at ht hP⟩, hS.F ht⟩) hS.2.2 dX6_number_12 hlocks)
set_option maxRecDepth 20000 in
theorem ggX6_isFree_X6_demandBlock : GoodIn wsX6_isFree wsX6_demandBlock := goodIn_ca (goodIn_r _ [4, 5, 6] (by decide +kernel) (by decide +kernel)) (goodIn_sub (fun _ h => List.mem_cons_of_mem _ (List.mem_append_right _ h)) (by decide +kernel))
set_option maxRecDepth 20000 in
theorem gX6_isFree_X6_demandBlock : GoodIn wsX6_isFree (va_wsS RX6 335 yX6_demandBlock wsX6_demandBlock) := goodIn_app (goodIn_of _ (by decide +kernel)) ggX6_isFree_X6_demandBlock
set_option maxRecDepth 20000 in
theorem ggX6_isFree_X6_isUnused : GoodIn wsX6_isFree wsX6_isUnused := goodIn_r _ [10, 11, 12, 13, 14, 15, 16, 17, 18, 19, 20, 21, 3, 22, 23, 24, 25, 26, 27, 28, 29, 30, 31, 32, 33, 34, 35, 36, 37, 38, 39, 40, 41, 42, 43, 44, 45, 46, 47] (by decide +kernel) (by decide +kernel)
set_option maxRecDepth 20000 in
theorem gX6_isFree_X6_isUnused : GoodIn wsX6_isFree (wsV RX6 400 RX6 yX6_isUnused wsX6_isUnused) := goodIn_app (goodIn_of _ (by decide +kernel)) ggX6_isFree_X6_isUnused
theorem dX6_isFree_0 : decode cX6_isFree 0 = .ok (.iload_n 1, 1) := by decide +kernel
theorem dX6_isFree_1 : decode cX6_isFree 1 = .ok (.invokestatic 335, 3) := by decide +kernel
theorem dX6_isFree_4 : decode cX6_isFree 4 = .ok (.aload_n 0, 1) := by decide +kernel
theorem dX6_isFree_5 : decode cX6_isFree 5 = .ok (.iload_n 1, 1) := by decide +kernel
theorem dX6_isFree_6 : decode cX6_isFree 6 = .ok (.invokevirtual 400, 3) := by decide +kernel
theorem dX6_isFree_9 : decode cX6_isFree 9 = .ok (.ireturn, 1) := by decide +kernel
def f_X6_isFree (U : S2) (p1 : Int32) : Option (Nat × Int32 × S2) := bn (f_X6_demandBlock U p1) (fun z_1 => if z_1.1 = 0 then bn (f_X6_isUnused z_1.2.2 p1) (fun z_3 => some (0, vp_nar .boolean z_3, z_1.2.2)) else some (z_1.1, 0, z_1.2.2))
def rmX6_isFree : Room := { frames := 7, cells := 1, slots := 6, locals := 110 }
set_option maxHeartbeats 4000000 in
set_option maxRecDepth 100000 in
theorem c_X6_isFree (l : Launch) (hst : l.stackTraces = false) (D : va_G) (cI cZ cJ cT : ClassId) (a : Nat → Nat → Nat) (sz : Nat) (U : S2) (p1 : Int32) (o : Nat × Int32 × S2) (hf : f_X6_isFree U p1 = some o) : vx_Met l yX6_isFree wsX6_isFree rmX6_isFree (va_Pc [.ref (a 0 0), .int p1] (PX D cls (tys cI cZ cJ cT) (wI cI cZ cT a U) sz)) (QXi D cls o.1 o.2.1 (wI cI cZ cT a o.2.2) (va_A (wI cI cZ cT a U) sz)) (XX D cls o.1 (wI cI cZ cT a o.2.2) (va_A (wI cI cZ cT a U) sz)) 1 6 (va_A (wI cI cZ cT a U) sz) := by
  refine vx_ofW (cc := cX6_isFree) (maxL := 2) (ret := (some .boolean)) (by decide) rfl ?_
  intro p e s m args below meth c s₁ B hml hxt hv
  obtain ⟨hav, ⟨hsz, hP, hK, hD0⟩, hE⟩ := hv
  have hx := B.exec
  have hb := B.bytes
  have hr := B.returns
  have hlocks := B.notSynchronized
  have hts := atoms_spec (ws := wsX6_isFree) B.pre
  have hown : s.vm.findClass RX6 = some m.cls := findClass_of_methodNamed B.named
  subst hsz
  have hD := hD0.self (sz := s.heap.size)
  generalize hAe : va_A (wI cI cZ cT a U) s.heap.size = A at hD hE ⊢
  have hA : ∀ q : Nat, s.heap.size ≤ q → A q := fun q h => by rw [← hAe]; exact Or.inr h
  have hS : va_S A s.heap s.heap [] := va_S.rf
  have hDD : ∀ V : S2, va_D A (wI cI cZ cT a V) := fun _ => D_same (w := (wI cI cZ cT a U)) rfl hD
  refine Wq (fun Q hQ => ?_)
  refine W_entry hav (Nat.le_of_ble_eq_true rfl) (fun ls hl => ?_)
  have hl : lv_has ls 2 [(0, .ref (a 0 0)), (1, .int p1)] := hl
  unfold f_X6_isFree at hf
  refine W_heap hP hS (fun H locs hP hS => ?_)
  refine lv_iload_n hx hb dX6_isFree_0 rfl (lv_at hl 1 rfl) ?_
  obtain ⟨z_1, hz_1, hf⟩ := bn_some hf
  refine cXSv (As := [.int p1]) (rest := []) ⟨hx, hb, hml, hown, hts⟩ (c_X6_demandBlock l hst D cI cZ cJ cT a H.size U p1 z_1 hz_1) (va_cwS 1 hts gX6_isFree_X6_demandBlock rfl rfl rfl (by decide +kernel) ⟨Nat.le_of_ble_eq_true rfl, Nat.le_of_ble_eq_true rfl⟩) hP hK (hDD U) hE hS (own_free (hDD U) hS hA) rfl rfl hl.1 (Nat.le_of_ble_eq_true rfl) dX6_isFree_1 ⟨Nat.le_of_ble_eq_true rfl, Nat.le_of_ble_eq_true rfl⟩ (fun E ce q9 H locs k_2 hE9 hP hS hce hcv hcl => ?_) (fun H locs k_2 hP hS => ?_)
  · have hf := ite_f hf k_2
    have eo := Option.some.inj hf
    have hP : va_P D cls (wI cI cZ cT a o.2.2) H := by rw [← eo]; exact hP
    rw [hQ]
    exact xout (k := o.1) hxt hlocks (by rw [← eo]; exact k_2) (by rw [← eo]; exact hE9) hP hS hce hcv hcl (Nat.le_of_ble_eq_true rfl) (Nat.le_of_ble_eq_true rfl)
  have hf := ite_t hf k_2
  refine lv_aload_n hx hb dX6_isFree_4 rfl (lv_at hl 0 rfl) ?_
  refine lv_iload_n hx hb dX6_isFree_5 rfl (lv_at hl 1 rfl) ?_
  obtain ⟨z_3, hz_3, hf⟩ := bn_some hf
  refine cRV (As := [.int p1]) (rest := []) ⟨hx, hb, hml, hown, hts⟩ (c_X6_isUnused l D cI cZ cJ cT a z_1.2.2 p1 z_3 hz_3) (cwV 1 hts gX6_isFree_X6_isUnused rfl rfl rfl (by decide +kernel) ⟨Nat.le_of_ble_eq_true rfl, Nat.le_of_ble_eq_true rfl⟩) hP hK (va_recv hK (fl_sub hP 0 rfl) (ci := 6) (q0 := 0) rfl rfl) rfl rfl hl.1 (Nat.le_of_ble_eq_true rfl) dX6_isFree_6 ⟨Nat.le_of_ble_eq_true rfl, Nat.le_of_ble_eq_true rfl⟩ ?_
  have eo := Option.some.inj hf
  have hP : va_P D cls (wI cI cZ cT a o.2.2) H := by rw [← eo]; exact hP
  rw [hQ]
  refine W.widen (k := 1) (n := 6) (Nat.le_of_ble_eq_true rfl) (Nat.le_of_ble_eq_true rfl) ?_
  exact vx_ret (zretN (v := z_3) (v' := vp_nar .boolean z_3) hx hb hr rfl (fun t ht hW => ⟨⟨_, (), rfl, ⟨(by rw [← eo]), (by rw [← eo])⟩, P_at ht hP⟩, hS.F ht⟩) hS.2.2 dX6_isFree_9 hlocks)
set_option maxRecDepth 20000 in
theorem ggX6_used_X4_blocksOf : GoodIn wsX6_used wsX4_blocksOf := goodIn_r _ [12, 13, 14, 15, 16, 17, 11, 18, 19, 20, 21, 22, 23, 24, 25, 26, 38, 39, 40, 41, 42, 43, 44, 45, 46, 47, 48, 49] (by decide +kernel) (by decide +kernel)
set_option maxRecDepth 20000 in
theorem gX6_used_X4_blocksOf : GoodIn wsX6_used (wsV RX6 403 RX4 yX4_blocksOf wsX4_blocksOf) := goodIn_app (goodIn_of _ (by decide +kernel)) ggX6_used_X4_blocksOf
set_option maxRecDepth 20000 in
theorem ggX6_used_X6_isUser : GoodIn wsX6_used wsX6_isUser := goodIn_r _ [7] (by decide +kernel) (by decide +kernel)
set_option maxRecDepth 20000 in
theorem gX6_used_X6_isUser : GoodIn wsX6_used (va_wsS RX6 70 yX6_isUser wsX6_isUser) := goodIn_app (goodIn_of _ (by decide +kernel)) ggX6_used_X6_isUser
theorem dX6_used_0 : decode cX6_used 0 = .ok (.iload_n 1, 1) := by decide +kernel
theorem dX6_used_1 : decode cX6_used 1 = .ok (.invokestatic 70, 3) := by decide +kernel
theorem dX6_used_4 : decode cX6_used 4 = .ok (.ifCond .ne 13, 3) := by decide +kernel
theorem dX6_used_7 : decode cX6_used 7 = .ok (.new 74, 3) := by decide +kernel
theorem dX6_used_10 : decode cX6_used 10 = .ok (.dup, 1) := by decide +kernel
theorem dX6_used_11 : decode cX6_used 11 = .ok (.ldc 76, 2) := by decide +kernel
theorem dX6_used_13 : decode cX6_used 13 = .ok (.invokespecial 78, 3) := by decide +kernel
theorem dX6_used_16 : decode cX6_used 16 = .ok (.athrow, 1) := by decide +kernel
theorem dX6_used_17 : decode cX6_used 17 = .ok (.aload_n 0, 1) := by decide +kernel
theorem dX6_used_18 : decode cX6_used 18 = .ok (.getfield 12, 3) := by decide +kernel
theorem dX6_used_21 : decode cX6_used 21 = .ok (.iload_n 1, 1) := by decide +kernel
theorem dX6_used_22 : decode cX6_used 22 = .ok (.invokevirtual 403, 3) := by decide +kernel
theorem dX6_used_25 : decode cX6_used 25 = .ok (.ireturn, 1) := by decide +kernel
def f_X6_used (U : S2) (p1 : Int32) : Option (Nat × Int32 × S2) := bn (f_X6_isUser p1) (fun z_1 => if z_1 = 0 then some (2, 0, U) else bn (f_X4_blocksOf (U 1) p1) (fun z_3 => some (0, z_3, U)))
def rmX6_used : Room := { frames := 6, cells := 1, slots := 6, locals := 90 }
set_option maxHeartbeats 4000000 in
set_option maxRecDepth 100000 in
theorem c_X6_used (l : Launch) (hst : l.stackTraces = false) (D : va_G) (cI cZ cJ cT : ClassId) (a : Nat → Nat → Nat) (sz : Nat) (U : S2) (p1 : Int32) (o : Nat × Int32 × S2) (hf : f_X6_used U p1 = some o) : vx_Met l yX6_used wsX6_used rmX6_used (va_Pc [.ref (a 0 0), .int p1] (PX D cls (tys cI cZ cJ cT) (wI cI cZ cT a U) sz)) (QXi D cls o.1 o.2.1 (wI cI cZ cT a o.2.2) (va_A (wI cI cZ cT a U) sz)) (XX D cls o.1 (wI cI cZ cT a o.2.2) (va_A (wI cI cZ cT a U) sz)) 1 6 (va_A (wI cI cZ cT a U) sz) := by
  refine vx_ofW (cc := cX6_used) (maxL := 2) (ret := (some .int)) (by decide) rfl ?_
  intro p e s m args below meth c s₁ B hml hxt hv
  obtain ⟨hav, ⟨hsz, hP, hK, hD0⟩, hE⟩ := hv
  have hx := B.exec
  have hb := B.bytes
  have hr := B.returns
  have hlocks := B.notSynchronized
  have hts := atoms_spec (ws := wsX6_used) B.pre
  have hown : s.vm.findClass RX6 = some m.cls := findClass_of_methodNamed B.named
  have i6 : ∀ w ∈ wsX60, w ∈ wsX6_used := fun w h => List.mem_cons_of_mem _ (List.mem_append_left _ (List.mem_append_left _ (List.mem_append_right _ h)))
  have hk12 := hts (.fieldLink RX6 12 "Inodery" "now" "LInodery$Tree;") (by decide +kernel)
  subst hsz
  have hD := hD0.self (sz := s.heap.size)
  generalize hAe : va_A (wI cI cZ cT a U) s.heap.size = A at hD hE ⊢
  have hA : ∀ q : Nat, s.heap.size ≤ q → A q := fun q h => by rw [← hAe]; exact Or.inr h
  have hS : va_S A s.heap s.heap [] := va_S.rf
  have hDD : ∀ V : S2, va_D A (wI cI cZ cT a V) := fun _ => D_same (w := (wI cI cZ cT a U)) rfl hD
  refine Wq (fun Q hQ => ?_)
  refine W_entry hav (Nat.le_of_ble_eq_true rfl) (fun ls hl => ?_)
  have hl : lv_has ls 2 [(0, .ref (a 0 0)), (1, .int p1)] := hl
  unfold f_X6_used at hf
  refine W_heap hP hS (fun H locs hP hS => ?_)
  refine lv_iload_n hx hb dX6_used_0 rfl (lv_at hl 1 rfl) ?_
  obtain ⟨z_1, hz_1, hf⟩ := bn_some hf
  refine c0S (As := [.int p1]) (rest := []) ⟨hx, hb, hml, hown, hts⟩ (c_X6_isUser l D cI cZ cJ cT p1 z_1 hz_1) (va_cwS 1 hts gX6_used_X6_isUser rfl rfl rfl (by decide +kernel) ⟨Nat.le_of_ble_eq_true rfl, Nat.le_of_ble_eq_true rfl⟩) rfl rfl hl.1 (Nat.le_of_ble_eq_true rfl) dX6_used_1 ⟨Nat.le_of_ble_eq_true rfl, Nat.le_of_ble_eq_true rfl⟩ ?_
  refine lv_if_ne (tgt := 17) hx hb dX6_used_4 (by decide) (fun c_2 => ?_) (fun c_2 => ?_)
  · have hf := ite_f hf c_2
    refine lv_aload_n hx hb dX6_used_17 rfl (lv_at hl 0 rfl) ?_
    refine va_get (D := D) (ci := 6) (v := .ref (a 1 0)) (C := RX6) (T := TX6) (N := 11) hx hb hts i6 hown hK (fl_sub hP 0 rfl) 0 rfl rfl 0 (by decide) hk12 (fun _ h9 => h9) rfl dX6_used_18 ?_
    refine lv_iload_n hx hb dX6_used_21 rfl (lv_at hl 1 rfl) ?_
    obtain ⟨z_3, hz_3, hf⟩ := bn_some hf
    refine cRV (As := [.int p1]) (rest := []) ⟨hx, hb, hml, hown, hts⟩ (c_X4_blocksOf l D cI cZ cJ cT (a 1) (U 1) p1 z_3 hz_3) (cwV 1 hts gX6_used_X4_blocksOf rfl rfl rfl (by decide +kernel) ⟨Nat.le_of_ble_eq_true rfl, Nat.le_of_ble_eq_true rfl⟩) (fl_sub hP 1 rfl) hK (va_recv hK (fl_sub hP 1 rfl) (ci := 4) (q0 := 0) rfl rfl) rfl rfl hl.1 (Nat.le_of_ble_eq_true rfl) dX6_used_22 ⟨Nat.le_of_ble_eq_true rfl, Nat.le_of_ble_eq_true rfl⟩ ?_
    have eo := Option.some.inj hf
    have hP : va_P D cls (wI cI cZ cT a o.2.2) H := by rw [← eo]; exact hP
    rw [hQ]
    refine W.widen (k := 1) (n := 6) (Nat.le_of_ble_eq_true rfl) (Nat.le_of_ble_eq_true rfl) ?_
    exact vx_ret (W.iret hx hb hr (fun t ht hW => ⟨⟨_, (), rfl, ⟨(by rw [← eo]), (by rw [← eo])⟩, P_at ht hP⟩, hS.F ht⟩) hS.2.2 dX6_used_25 hlocks)
  · have hf := ite_t hf c_2
    have eo := Option.some.inj hf
    have hP : va_P D cls (wI cI cZ cT a o.2.2) H := by rw [← eo]; exact hP
    rw [hQ]
    have hk0 : o.1 = 2 := by rw [← eo]
    exact thr o.1 (text := "no such user") (by rw [hk0]; rfl) (by rw [hk0]; decide) hx hb hst hown (by decide +kernel) (hts (.classLink RX6 74 "java/lang/IndexOutOfBoundsException") (by decide +kernel)) (hts (.initialized "java/lang/IndexOutOfBoundsException") (by decide +kernel)) (fun w h => hts w (List.mem_cons_of_mem _ (List.mem_append_right _ h))) (EX_b2 hE) ok2 (by decide +kernel) hE hS hP (hl.1.trans hml.symm) dX6_used_7 dX6_used_10 dX6_used_11 dX6_used_13 dX6_used_16 hxt (Nat.le_of_ble_eq_true rfl) (Nat.le_of_ble_eq_true rfl) (Nat.le_of_ble_eq_true rfl) (Nat.le_of_ble_eq_true rfl) hlocks (Nat.le_of_ble_eq_true rfl) (Nat.le_of_ble_eq_true rfl)
set_option maxRecDepth 20000 in
theorem ggX6_dirty_X0_count : GoodIn wsX6_dirty wsX0_count := goodIn_r _ [6, 7, 19, 20, 21] (by decide +kernel) (by decide +kernel)
set_option maxRecDepth 20000 in
theorem gX6_dirty_X0_count : GoodIn wsX6_dirty (wsV RX6 298 RX0 yX0_count wsX0_count) := goodIn_app (goodIn_of _ (by decide +kernel)) ggX6_dirty_X0_count
theorem dX6_dirty_0 : decode cX6_dirty 0 = .ok (.aload_n 0, 1) := by decide +kernel
theorem dX6_dirty_1 : decode cX6_dirty 1 = .ok (.getfield 44, 3) := by decide +kernel
theorem dX6_dirty_4 : decode cX6_dirty 4 = .ok (.invokevirtual 298, 3) := by decide +kernel
theorem dX6_dirty_7 : decode cX6_dirty 7 = .ok (.ireturn, 1) := by decide +kernel
def f_X6_dirty (U : S2) : Option (Int32) := bn (f_X0_count (U 8)) (fun z_1 => some z_1)
def rmX6_dirty : Room := { frames := 1, cells := 0, slots := 0, locals := 20 }
set_option maxHeartbeats 4000000 in
set_option maxRecDepth 100000 in
theorem c_X6_dirty (l : Launch) (D : va_G) (cI cZ cJ cT : ClassId) (a : Nat → Nat → Nat) (U : S2) (o : Int32) (hf : f_X6_dirty U = some o) : Met l yX6_dirty wsX6_dirty rmX6_dirty (va_Pc [.ref (a 0 0)] (PR D cls (tys cI cZ cJ cT) (wI cI cZ cT a U))) (QR o) 0 0 (fun _ => False) := by
  refine Met.ofW (cc := cX6_dirty) (maxL := 1) (ret := (some .int)) (by decide) rfl ?_
  intro p e s m args below meth c s₁ B hml hv
  obtain ⟨hav, hP, hK⟩ := hv
  have hx := B.exec
  have hb := B.bytes
  have hr := B.returns
  have hlocks := B.notSynchronized
  have hts := atoms_spec (ws := wsX6_dirty) B.pre
  have hown : s.vm.findClass RX6 = some m.cls := findClass_of_methodNamed B.named
  have i6 : ∀ w ∈ wsX60, w ∈ wsX6_dirty := fun w h => List.mem_cons_of_mem _ (List.mem_append_left _ (List.mem_append_right _ h))
  have hk44 := hts (.fieldLink RX6 44 "Inodery" "cache" "LInodery$Cache;") (by decide +kernel)
  refine Wq (fun Q hQ => ?_)
  refine W_entry hav (Nat.le_of_ble_eq_true rfl) (fun ls hl => ?_)
  have hl : lv_has ls 1 [(0, .ref (a 0 0))] := hl
  unfold f_X6_dirty at hf
  refine lv_aload_n hx hb dX6_dirty_0 rfl (lv_at hl 0 rfl) ?_
  refine va_get (D := D) (ci := 6) (v := .ref (a 8 0)) (C := RX6) (T := TX6) (N := 11) hx hb hts i6 hown hK (fl_sub hP 0 rfl) 0 rfl rfl 6 (by decide) hk44 (fun _ h9 => h9) rfl dX6_dirty_1 ?_
  obtain ⟨z_1, hz_1, hf⟩ := bn_some hf
  refine cRV (As := []) (rest := []) ⟨hx, hb, hml, hown, hts⟩ (c_X0_count l D cI cZ cJ cT (a 8) (U 8) z_1 hz_1) (cwV 0 hts gX6_dirty_X0_count rfl rfl rfl (by decide +kernel) ⟨Nat.le_of_ble_eq_true rfl, Nat.le_of_ble_eq_true rfl⟩) (fl_sub hP 8 rfl) hK (va_recv hK (fl_sub hP 8 rfl) (ci := 0) (q0 := 0) rfl rfl) rfl rfl hl.1 (Nat.le_of_ble_eq_true rfl) dX6_dirty_4 ⟨Nat.le_of_ble_eq_true rfl, Nat.le_of_ble_eq_true rfl⟩ ?_
  rw [hQ]
  exact W.iret hx hb hr (fun t ht hW => ⟨_, rfl, Option.some.inj hf, ht⟩) (fun _ h => nomatch h) dX6_dirty_7 hlocks
