set_option maxRecDepth 20000 in
theorem ggX6_hasRoomFor_X4_sizeOf : GoodIn wsX6_hasRoomFor wsX4_sizeOf := goodIn_r _ [6, 7, 8, 9, 5, 10, 22, 23, 24, 25, 26, 27, 28, 29, 30, 31, 32, 33] (by decide +kernel) (by decide +kernel)
set_option maxRecDepth 20000 in
theorem gX6_hasRoomFor_X4_sizeOf : GoodIn wsX6_hasRoomFor (wsV RX6 154 RX4 yX4_sizeOf wsX4_sizeOf) := goodIn_app (goodIn_of _ (by decide +kernel)) ggX6_hasRoomFor_X4_sizeOf
theorem dX6_hasRoomFor_0 : decode cX6_hasRoomFor 0 = .ok (.iload_n 1, 1) := by decide +kernel
theorem dX6_hasRoomFor_1 : decode cX6_hasRoomFor 1 = .ok (.iload_n 2, 1) := by decide +kernel
theorem dX6_hasRoomFor_2 : decode cX6_hasRoomFor 2 = .ok (.if_icmp .eq 21, 3) := by decide +kernel
theorem dX6_hasRoomFor_5 : decode cX6_hasRoomFor 5 = .ok (.iload_n 3, 1) := by decide +kernel
theorem dX6_hasRoomFor_6 : decode cX6_hasRoomFor 6 = .ok (.iconst (-1), 1) := by decide +kernel
theorem dX6_hasRoomFor_7 : decode cX6_hasRoomFor 7 = .ok (.if_icmp .ne 16, 3) := by decide +kernel
theorem dX6_hasRoomFor_10 : decode cX6_hasRoomFor 10 = .ok (.aload_n 0, 1) := by decide +kernel
theorem dX6_hasRoomFor_11 : decode cX6_hasRoomFor 11 = .ok (.getfield 12, 3) := by decide +kernel
theorem dX6_hasRoomFor_14 : decode cX6_hasRoomFor 14 = .ok (.iload_n 2, 1) := by decide +kernel
theorem dX6_hasRoomFor_15 : decode cX6_hasRoomFor 15 = .ok (.invokevirtual 154, 3) := by decide +kernel
theorem dX6_hasRoomFor_18 : decode cX6_hasRoomFor 18 = .ok (.bipush 8, 2) := by decide +kernel
theorem dX6_hasRoomFor_20 : decode cX6_hasRoomFor 20 = .ok (.if_icmp .ge 7, 3) := by decide +kernel
theorem dX6_hasRoomFor_23 : decode cX6_hasRoomFor 23 = .ok (.iconst 1, 1) := by decide +kernel
theorem dX6_hasRoomFor_24 : decode cX6_hasRoomFor 24 = .ok (.goto 4, 3) := by decide +kernel
theorem dX6_hasRoomFor_27 : decode cX6_hasRoomFor 27 = .ok (.iconst 0, 1) := by decide +kernel
theorem dX6_hasRoomFor_28 : decode cX6_hasRoomFor 28 = .ok (.ireturn, 1) := by decide +kernel
def f_X6_hasRoomFor (U : S2) (p1 : Int32) (p2 : Int32) (p3 : Int32) : Option (Int32) := jn (fun (v28_1_0 : Int32) => some (vp_nar .boolean v28_1_0)) (fun k28_1 => jn (k28_1 1) (fun k23_2 => if p1 = p2 then k23_2 else if p3 = (-1) then bn (f_X4_sizeOf (U 1) p2) (fun z_5 => if 8 ≤ z_5 then k28_1 0 else k23_2) else k23_2))
def rmX6_hasRoomFor : Room := { frames := 2, cells := 0, slots := 0, locals := 41 }
set_option maxHeartbeats 4000000 in
set_option maxRecDepth 100000 in
theorem c_X6_hasRoomFor (l : Launch) (D : va_G) (cI cZ cJ cT : ClassId) (a : Nat → Nat → Nat) (U : S2) (p1 : Int32) (p2 : Int32) (p3 : Int32) (o : Int32) (hf : f_X6_hasRoomFor U p1 p2 p3 = some o) : Met l yX6_hasRoomFor wsX6_hasRoomFor rmX6_hasRoomFor (va_Pc [.ref (a 0 0), .int p1, .int p2, .int p3] (PR D cls (tys cI cZ cJ cT) (wI cI cZ cT a U))) (QR o) 0 0 (fun _ => False) := by
  refine Met.ofW (cc := cX6_hasRoomFor) (maxL := 4) (ret := (some .boolean)) (by decide) rfl ?_
  intro p e s m args below meth c s₁ B hml hv
  obtain ⟨hav, hP, hK⟩ := hv
  have hx := B.exec
  have hb := B.bytes
  have hr := B.returns
  have hlocks := B.notSynchronized
  have hts := atoms_spec (ws := wsX6_hasRoomFor) B.pre
  have hown : s.vm.findClass RX6 = some m.cls := findClass_of_methodNamed B.named
  have i6 : ∀ w ∈ wsX60, w ∈ wsX6_hasRoomFor := fun w h => List.mem_cons_of_mem _ (List.mem_append_left _ (List.mem_append_right _ h))
  have hk12 := hts (.fieldLink RX6 12 "Inodery" "now" "LInodery$Tree;") (by decide +kernel)
  refine Wq (fun Q hQ => ?_)
  refine W_entry hav (Nat.le_of_ble_eq_true rfl) (fun ls hl => ?_)
  have hl : lv_has ls 4 [(0, .ref (a 0 0)), (1, .int p1), (2, .int p2), (3, .int p3)] := hl
  unfold f_X6_hasRoomFor at hf
  refine lv_iload_n hx hb dX6_hasRoomFor_0 rfl (lv_at hl 1 rfl) ?_
  refine lv_iload_n hx hb dX6_hasRoomFor_1 rfl (lv_at hl 2 rfl) ?_
  obtain ⟨k28_1, hk28_1, hf⟩ := jn_some hf
  have j28_1 : ∀ (v28_1_0 : Int32) (ls : Array Slot), k28_1 v28_1_0 = some o → lv_has ls 4 [] → W p l e (headSpec wsX6_hasRoomFor rmX6_hasRoomFor).room s m args below meth c s.heap [] 0 0 Q (F0 m 28 ls [.int v28_1_0]) := by
    intro v28_1_0 ls hf hl
    have hf := qa1 hk28_1 hf
    rw [hQ]
    exact zretN (v := v28_1_0) (v' := vp_nar .boolean v28_1_0) hx hb hr rfl (fun t ht hW => ⟨_, rfl, Option.some.inj hf, ht⟩) (fun _ h => nomatch h) dX6_hasRoomFor_28 hlocks
  obtain ⟨k23_2, hk23_2, hf⟩ := jn_some hf
  have j23_2 : ∀ (ls : Array Slot), k23_2 = some o → lv_has ls 4 [] → W p l e (headSpec wsX6_hasRoomFor rmX6_hasRoomFor).room s m args below meth c s.heap [] 0 0 Q (F0 m 23 ls []) := by
    intro ls hf hl
    have hf := qa0 hk23_2 hf
    refine lv_iconst (v := 1) hx hb dX6_hasRoomFor_23 (by decide) ?_
    refine lv_goto (tgt := 28) hx hb dX6_hasRoomFor_24 (by decide) ?_
    exact j28_1 _ _ hf (lv_sub hl [] rfl)
  refine lv_icmp_eq (tgt := 23) hx hb dX6_hasRoomFor_2 (by decide) (fun c_3 => ?_) (fun c_3 => ?_)
  · have hf := ite_t hf c_3
    exact j23_2 _ hf (lv_sub hl [] rfl)
  · have hf := ite_f hf c_3
    refine lv_iload_n hx hb dX6_hasRoomFor_5 rfl (lv_at hl 3 rfl) ?_
    refine lv_iconst (v := (-1)) hx hb dX6_hasRoomFor_6 (by decide) ?_
    refine lv_icmp_ne (tgt := 23) hx hb dX6_hasRoomFor_7 (by decide) (fun c_4 => ?_) (fun c_4 => ?_)
    · have hf := ite_f hf c_4
      exact j23_2 _ hf (lv_sub hl [] rfl)
    · have hf := ite_t hf c_4
      refine lv_aload_n hx hb dX6_hasRoomFor_10 rfl (lv_at hl 0 rfl) ?_
      refine va_get (D := D) (ci := 6) (v := .ref (a 1 0)) (C := RX6) (T := TX6) (N := 11) hx hb hts i6 hown hK (fl_sub hP 0 rfl) 0 rfl rfl 0 (by decide) hk12 (fun _ h9 => h9) rfl dX6_hasRoomFor_11 ?_
      refine lv_iload_n hx hb dX6_hasRoomFor_14 rfl (lv_at hl 2 rfl) ?_
      obtain ⟨z_5, hz_5, hf⟩ := bn_some hf
      refine cRV (As := [.int p2]) (rest := []) ⟨hx, hb, hml, hown, hts⟩ (c_X4_sizeOf l D cI cZ cJ cT (a 1) (U 1) p2 z_5 hz_5) (cwV 1 hts gX6_hasRoomFor_X4_sizeOf rfl rfl rfl (by decide +kernel) ⟨Nat.le_of_ble_eq_true rfl, Nat.le_of_ble_eq_true rfl⟩) (fl_sub hP 1 rfl) hK (va_recv hK (fl_sub hP 1 rfl) (ci := 4) (q0 := 0) rfl rfl) rfl rfl hl.1 (Nat.le_of_ble_eq_true rfl) dX6_hasRoomFor_15 ⟨Nat.le_of_ble_eq_true rfl, Nat.le_of_ble_eq_true rfl⟩ ?_
      refine lv_bipush (v := 8) hx hb dX6_hasRoomFor_18 (by decide) ?_
      refine lv_icmp_ge (tgt := 27) hx hb dX6_hasRoomFor_20 (by decide) (fun c_6 => ?_) (fun c_6 => ?_)
      · have hf := ite_t hf c_6
        refine lv_iconst (v := 0) hx hb dX6_hasRoomFor_27 (by decide) ?_
        exact j28_1 _ _ hf (lv_sub hl [] rfl)
      · have hf := ite_f hf c_6
        exact j23_2 _ hf (lv_sub hl [] rfl)
set_option maxRecDepth 20000 in
theorem ggX6_goneUnlessOpen_X0_forgetThing : GoodIn wsX6_goneUnlessOpen wsX0_forgetThing := goodIn_r _ [58, 59, 60, 61, 57, 62, 63, 64, 65, 66, 67, 68, 69, 70, 71, 72, 73, 74, 75, 76, 105, 106, 107] (by decide +kernel) (by decide +kernel)
set_option maxRecDepth 20000 in
theorem gX6_goneUnlessOpen_X0_forgetThing : GoodIn wsX6_goneUnlessOpen (wsV RX6 449 RX0 yX0_forgetThing wsX0_forgetThing) := goodIn_app (goodIn_of _ (by decide +kernel)) ggX6_goneUnlessOpen_X0_forgetThing
set_option maxRecDepth 20000 in
theorem ggX6_goneUnlessOpen_X3_countOf : GoodIn wsX6_goneUnlessOpen wsX3_countOf := goodIn_r _ [8, 9, 10, 11, 7, 12, 13, 14, 15, 16, 17, 18, 19, 20, 21, 22, 23, 24, 25, 26, 27, 88, 89, 90, 91, 92] (by decide +kernel) (by decide +kernel)
set_option maxRecDepth 20000 in
theorem gX6_goneUnlessOpen_X3_countOf : GoodIn wsX6_goneUnlessOpen (wsV RX6 378 RX3 yX3_countOf wsX3_countOf) := goodIn_app (goodIn_of _ (by decide +kernel)) ggX6_goneUnlessOpen_X3_countOf
set_option maxRecDepth 20000 in
theorem ggX6_goneUnlessOpen_X4_clearThing : GoodIn wsX6_goneUnlessOpen wsX4_clearThing := goodIn_r _ [32, 33, 34, 35, 36, 37, 31, 38, 39, 40, 41, 42, 43, 44, 45, 46, 47, 48, 49, 50, 51, 52, 53, 93, 94, 95, 96, 97, 98, 99, 100, 101, 102, 103, 104] (by decide +kernel) (by decide +kernel)
set_option maxRecDepth 20000 in
theorem gX6_goneUnlessOpen_X4_clearThing : GoodIn wsX6_goneUnlessOpen (wsV RX6 311 RX4 yX4_clearThing wsX4_clearThing) := goodIn_app (goodIn_of _ (by decide +kernel)) ggX6_goneUnlessOpen_X4_clearThing
theorem dX6_goneUnlessOpen_0 : decode cX6_goneUnlessOpen 0 = .ok (.aload_n 0, 1) := by decide +kernel
theorem dX6_goneUnlessOpen_1 : decode cX6_goneUnlessOpen 1 = .ok (.getfield 51, 3) := by decide +kernel
theorem dX6_goneUnlessOpen_4 : decode cX6_goneUnlessOpen 4 = .ok (.iload_n 1, 1) := by decide +kernel
theorem dX6_goneUnlessOpen_5 : decode cX6_goneUnlessOpen 5 = .ok (.invokevirtual 378, 3) := by decide +kernel
theorem dX6_goneUnlessOpen_8 : decode cX6_goneUnlessOpen 8 = .ok (.ifCond .le 5, 3) := by decide +kernel
theorem dX6_goneUnlessOpen_11 : decode cX6_goneUnlessOpen 11 = .ok (.iconst 0, 1) := by decide +kernel
theorem dX6_goneUnlessOpen_12 : decode cX6_goneUnlessOpen 12 = .ok (.ireturn, 1) := by decide +kernel
theorem dX6_goneUnlessOpen_13 : decode cX6_goneUnlessOpen 13 = .ok (.aload_n 0, 1) := by decide +kernel
theorem dX6_goneUnlessOpen_14 : decode cX6_goneUnlessOpen 14 = .ok (.getfield 12, 3) := by decide +kernel
theorem dX6_goneUnlessOpen_17 : decode cX6_goneUnlessOpen 17 = .ok (.iload_n 1, 1) := by decide +kernel
theorem dX6_goneUnlessOpen_18 : decode cX6_goneUnlessOpen 18 = .ok (.invokevirtual 311, 3) := by decide +kernel
theorem dX6_goneUnlessOpen_21 : decode cX6_goneUnlessOpen 21 = .ok (.aload_n 0, 1) := by decide +kernel
theorem dX6_goneUnlessOpen_22 : decode cX6_goneUnlessOpen 22 = .ok (.getfield 44, 3) := by decide +kernel
theorem dX6_goneUnlessOpen_25 : decode cX6_goneUnlessOpen 25 = .ok (.iload_n 1, 1) := by decide +kernel
theorem dX6_goneUnlessOpen_26 : decode cX6_goneUnlessOpen 26 = .ok (.invokevirtual 449, 3) := by decide +kernel
theorem dX6_goneUnlessOpen_29 : decode cX6_goneUnlessOpen 29 = .ok (.iconst 1, 1) := by decide +kernel
theorem dX6_goneUnlessOpen_30 : decode cX6_goneUnlessOpen 30 = .ok (.ireturn, 1) := by decide +kernel
def f_X6_goneUnlessOpen (U : S2) (p1 : Int32) : Option (Int32 × S2) := bn (f_X3_countOf (U 9) p1) (fun z_1 => if z_1 ≤ 0 then bn (f_X4_clearThing (U 1) p1) (fun z_3 => bv (upc U 1 z_3) (fun u_4 => bn (f_X0_forgetThing (u_4 8) p1) (fun z_5 => bv (upc u_4 8 z_5) (fun u_6 => some (1, u_6))))) else some (0, U))
def rmX6_goneUnlessOpen : Room := { frames := 4, cells := 0, slots := 0, locals := 89 }
set_option maxHeartbeats 4000000 in
set_option maxRecDepth 100000 in
theorem c_X6_goneUnlessOpen (l : Launch) (D : va_G) (cI cZ cJ cT : ClassId) (a : Nat → Nat → Nat) (sz : Nat) (U : S2) (p1 : Int32) (o : Int32 × S2) (hf : f_X6_goneUnlessOpen U p1 = some o) : Met l yX6_goneUnlessOpen wsX6_goneUnlessOpen rmX6_goneUnlessOpen (va_Pc [.ref (a 0 0), .int p1] (PW D cls (tys cI cZ cJ cT) (wI cI cZ cT a U) sz)) (QWi D cls o.1 (wI cI cZ cT a o.2) (va_A (wI cI cZ cT a U) sz)) 0 0 (va_A (wI cI cZ cT a U) sz) := by
  refine Met.ofW (cc := cX6_goneUnlessOpen) (maxL := 2) (ret := (some .boolean)) (by decide) rfl ?_
  intro p e s m args below meth c s₁ B hml hv
  obtain ⟨hav, hsz, hP, hK, hD0⟩ := hv
  have hx := B.exec
  have hb := B.bytes
  have hr := B.returns
  have hlocks := B.notSynchronized
  have hts := atoms_spec (ws := wsX6_goneUnlessOpen) B.pre
  have hown : s.vm.findClass RX6 = some m.cls := findClass_of_methodNamed B.named
  have i6 : ∀ w ∈ wsX60, w ∈ wsX6_goneUnlessOpen := fun w h => List.mem_cons_of_mem _ (List.mem_append_left _ (List.mem_append_left _ (List.mem_append_left _ (List.mem_append_right _ h))))
  have hk12 := hts (.fieldLink RX6 12 "Inodery" "now" "LInodery$Tree;") (by decide +kernel)
  have hk44 := hts (.fieldLink RX6 44 "Inodery" "cache" "LInodery$Cache;") (by decide +kernel)
  have hk51 := hts (.fieldLink RX6 51 "Inodery" "handles" "LInodery$Handles;") (by decide +kernel)
  subst hsz
  have hD := hD0.self (sz := s.heap.size)
  generalize hAe : va_A (wI cI cZ cT a U) s.heap.size = A at hD ⊢
  have hA : ∀ q : Nat, s.heap.size ≤ q → A q := fun q h => by rw [← hAe]; exact Or.inr h
  have hS : va_S A s.heap s.heap [] := va_S.rf
  have hDD : ∀ V : S2, va_D A (wI cI cZ cT a V) := fun _ => D_same (w := (wI cI cZ cT a U)) rfl hD
  refine Wq (fun Q hQ => ?_)
  refine W_entry hav (Nat.le_of_ble_eq_true rfl) (fun ls hl => ?_)
  have hl : lv_has ls 2 [(0, .ref (a 0 0)), (1, .int p1)] := hl
  unfold f_X6_goneUnlessOpen at hf
  refine W_heap hP hS (fun H locs hP hS => ?_)
  refine lv_aload_n hx hb dX6_goneUnlessOpen_0 rfl (lv_at hl 0 rfl) ?_
  refine va_get (D := D) (ci := 6) (v := .ref (a 9 0)) (C := RX6) (T := TX6) (N := 11) hx hb hts i6 hown hK (fl_sub hP 0 rfl) 0 rfl rfl 7 (by decide) hk51 (fun _ h9 => h9) rfl dX6_goneUnlessOpen_1 ?_
  refine lv_iload_n hx hb dX6_goneUnlessOpen_4 rfl (lv_at hl 1 rfl) ?_
  obtain ⟨z_1, hz_1, hf⟩ := bn_some hf
  refine cRV (As := [.int p1]) (rest := []) ⟨hx, hb, hml, hown, hts⟩ (c_X3_countOf l D cI cZ cJ cT (a 9) (U 9) p1 z_1 hz_1) (cwV 1 hts gX6_goneUnlessOpen_X3_countOf rfl rfl rfl (by decide +kernel) ⟨Nat.le_of_ble_eq_true rfl, Nat.le_of_ble_eq_true rfl⟩) (fl_sub hP 9 rfl) hK (va_recv hK (fl_sub hP 9 rfl) (ci := 3) (q0 := 0) rfl rfl) rfl rfl hl.1 (Nat.le_of_ble_eq_true rfl) dX6_goneUnlessOpen_5 ⟨Nat.le_of_ble_eq_true rfl, Nat.le_of_ble_eq_true rfl⟩ ?_
  refine lv_if_le (tgt := 13) hx hb dX6_goneUnlessOpen_8 (by decide) (fun c_2 => ?_) (fun c_2 => ?_)
  · have hf := ite_t hf c_2
    refine lv_aload_n hx hb dX6_goneUnlessOpen_13 rfl (lv_at hl 0 rfl) ?_
    refine va_get (D := D) (ci := 6) (v := .ref (a 1 0)) (C := RX6) (T := TX6) (N := 11) hx hb hts i6 hown hK (fl_sub hP 0 rfl) 0 rfl rfl 0 (by decide) hk12 (fun _ h9 => h9) rfl dX6_goneUnlessOpen_14 ?_
    refine lv_iload_n hx hb dX6_goneUnlessOpen_17 rfl (lv_at hl 1 rfl) ?_
    obtain ⟨z_3, hz_3, hf⟩ := bn_some hf
    refine cWVv (As := [.int p1]) (rest := []) ⟨hx, hb, hml, hown, hts⟩ (c_X4_clearThing l D cI cZ cJ cT (a 1) H.size (U 1) p1 z_3 hz_3) (cwV 1 hts gX6_goneUnlessOpen_X4_clearThing rfl rfl rfl (by decide +kernel) ⟨Nat.le_of_ble_eq_true rfl, Nat.le_of_ble_eq_true rfl⟩) (fl_sub hP 1 rfl) hK (fl_subD (hDD U) 1 rfl) hS (fl_free (hDD U) hS hA 1 rfl) (va_recv hK (fl_sub hP 1 rfl) (ci := 4) (q0 := 0) rfl rfl) rfl rfl hl.1 (Nat.le_of_ble_eq_true rfl) dX6_goneUnlessOpen_18 ⟨Nat.le_of_ble_eq_true rfl, Nat.le_of_ble_eq_true rfl⟩ (fun H1 locs hP1 hk1 hS => ?_)
    obtain ⟨u_4, hu_4, hf⟩ := bv_some hf
    have hP : va_P D cls (wI cI cZ cT a u_4) H1 := by rw [hu_4]; exact fl_join hP (hDD U) 1 rfl hk1 hP1
    clear hP1 hk1
    generalize H1 = H at hP hS ⊢
    refine lv_aload_n hx hb dX6_goneUnlessOpen_21 rfl (lv_at hl 0 rfl) ?_
    refine va_get (D := D) (ci := 6) (v := .ref (a 8 0)) (C := RX6) (T := TX6) (N := 11) hx hb hts i6 hown hK (fl_sub hP 0 rfl) 0 rfl rfl 6 (by decide) hk44 (fun _ h9 => h9) rfl dX6_goneUnlessOpen_22 ?_
    refine lv_iload_n hx hb dX6_goneUnlessOpen_25 rfl (lv_at hl 1 rfl) ?_
    obtain ⟨z_5, hz_5, hf⟩ := bn_some hf
    refine cWVv (As := [.int p1]) (rest := []) ⟨hx, hb, hml, hown, hts⟩ (c_X0_forgetThing l D cI cZ cJ cT (a 8) H.size (u_4 8) p1 z_5 hz_5) (cwV 1 hts gX6_goneUnlessOpen_X0_forgetThing rfl rfl rfl (by decide +kernel) ⟨Nat.le_of_ble_eq_true rfl, Nat.le_of_ble_eq_true rfl⟩) (fl_sub hP 8 rfl) hK (fl_subD (hDD u_4) 8 rfl) hS (fl_free (hDD u_4) hS hA 8 rfl) (va_recv hK (fl_sub hP 8 rfl) (ci := 0) (q0 := 0) rfl rfl) rfl rfl hl.1 (Nat.le_of_ble_eq_true rfl) dX6_goneUnlessOpen_26 ⟨Nat.le_of_ble_eq_true rfl, Nat.le_of_ble_eq_true rfl⟩ (fun H1 locs hP1 hk1 hS => ?_)
    obtain ⟨u_6, hu_6, hf⟩ := bv_some hf
    have hP : va_P D cls (wI cI cZ cT a u_6) H1 := by rw [hu_6]; exact fl_join hP (hDD u_4) 8 rfl hk1 hP1
    clear hP1 hk1
    generalize H1 = H at hP hS ⊢
    refine lv_iconst (v := 1) hx hb dX6_goneUnlessOpen_29 (by decide) ?_
    have eo := Option.some.inj hf
    have hP : va_P D cls (wI cI cZ cT a o.2) H := by rw [← eo]; exact hP
    rw [hQ]
    exact zretN (v := 1) (v' := 1) hx hb hr rfl (fun t ht hW => ⟨⟨_, (), rfl, (by rw [← eo]), P_at ht hP⟩, hS.F ht⟩) hS.2.2 dX6_goneUnlessOpen_30 hlocks
  · have hf := ite_f hf c_2
    refine lv_iconst (v := 0) hx hb dX6_goneUnlessOpen_11 (by decide) ?_
    have eo := Option.some.inj hf
    have hP : va_P D cls (wI cI cZ cT a o.2) H := by rw [← eo]; exact hP
    rw [hQ]
    exact zretN (v := 0) (v' := 0) hx hb hr rfl (fun t ht hW => ⟨⟨_, (), rfl, (by rw [← eo]), P_at ht hP⟩, hS.F ht⟩) hS.2.2 dX6_goneUnlessOpen_12 hlocks
set_option maxRecDepth 20000 in
theorem ggX6_loseName_X4_countOf : GoodIn wsX6_loseName wsX4_countOf := goodIn_r _ [93, 50, 12, 13, 5, 14, 109, 110, 111, 112, 113, 114, 115, 116, 117, 118, 119, 120] (by decide +kernel) (by decide +kernel)
set_option maxRecDepth 20000 in
theorem gX6_loseName_X4_countOf : GoodIn wsX6_loseName (wsV RX6 119 RX4 yX4_countOf wsX4_countOf) := goodIn_app (goodIn_of _ (by decide +kernel)) ggX6_loseName_X4_countOf
set_option maxRecDepth 20000 in
theorem ggX6_loseName_X4_isOfKind : GoodIn wsX6_loseName wsX4_isOfKind := goodIn_r _ [6, 7, 8, 9, 10, 5, 11, 12, 13, 14, 109, 110, 111, 112, 113, 114, 115, 116, 117, 118, 119, 120] (by decide +kernel) (by decide +kernel)
set_option maxRecDepth 20000 in
theorem gX6_loseName_X4_isOfKind : GoodIn wsX6_loseName (wsV RX6 103 RX4 yX4_isOfKind wsX4_isOfKind) := goodIn_app (goodIn_of _ (by decide +kernel)) ggX6_loseName_X4_isOfKind
set_option maxRecDepth 20000 in
theorem ggX6_loseName_X4_setCount : GoodIn wsX6_loseName wsX4_setCount := goodIn_r _ [97, 50, 12, 13, 5, 14, 109, 110, 111, 112, 113, 114, 115, 116, 117, 118, 119, 120] (by decide +kernel) (by decide +kernel)
set_option maxRecDepth 20000 in
theorem gX6_loseName_X4_setCount : GoodIn wsX6_loseName (wsV RX6 122 RX4 yX4_setCount wsX4_setCount) := goodIn_app (goodIn_of _ (by decide +kernel)) ggX6_loseName_X4_setCount
set_option maxRecDepth 20000 in
theorem ggX6_loseName_X6_goneUnlessOpen : GoodIn wsX6_loseName wsX6_goneUnlessOpen := goodIn_r _ [19, 20, 1, 21, 22, 23, 24, 25, 26, 27, 28, 29, 30, 31, 32, 33, 34, 35, 36, 37, 38, 39, 40, 41, 42, 43, 44, 45, 46, 47, 48, 5, 49, 7, 50, 51, 12, 13, 14, 52, 53, 54, 55, 56, 57, 58, 59, 60, 61, 62, 63, 64, 65, 66, 67, 68, 69, 70, 71, 72, 73, 74, 75, 76, 77, 78, 79, 80, 81, 82, 83, 84, 85, 86, 87, 88, 89, 98, 99, 100, 101, 102, 103, 104, 105, 106, 107, 108, 121, 122, 123, 124, 125, 109, 110, 111, 112, 113, 114, 115, 116, 117, 118, 119, 120, 126, 127, 128] (by decide +kernel) (by decide +kernel)
set_option maxRecDepth 20000 in
theorem gX6_loseName_X6_goneUnlessOpen : GoodIn wsX6_loseName (wsV RX6 214 RX6 yX6_goneUnlessOpen wsX6_goneUnlessOpen) := goodIn_app (goodIn_of _ (by decide +kernel)) ggX6_loseName_X6_goneUnlessOpen
theorem dX6_loseName_0 : decode cX6_loseName 0 = .ok (.aload_n 0, 1) := by decide +kernel
theorem dX6_loseName_1 : decode cX6_loseName 1 = .ok (.getfield 12, 3) := by decide +kernel
theorem dX6_loseName_4 : decode cX6_loseName 4 = .ok (.iload_n 1, 1) := by decide +kernel
theorem dX6_loseName_5 : decode cX6_loseName 5 = .ok (.iconst 1, 1) := by decide +kernel
theorem dX6_loseName_6 : decode cX6_loseName 6 = .ok (.invokevirtual 103, 3) := by decide +kernel
theorem dX6_loseName_9 : decode cX6_loseName 9 = .ok (.ifCond .eq 9, 3) := by decide +kernel
theorem dX6_loseName_12 : decode cX6_loseName 12 = .ok (.aload_n 0, 1) := by decide +kernel
theorem dX6_loseName_13 : decode cX6_loseName 13 = .ok (.iload_n 1, 1) := by decide +kernel
theorem dX6_loseName_14 : decode cX6_loseName 14 = .ok (.invokevirtual 214, 3) := by decide +kernel
theorem dX6_loseName_17 : decode cX6_loseName 17 = .ok (.ireturn, 1) := by decide +kernel
theorem dX6_loseName_18 : decode cX6_loseName 18 = .ok (.aload_n 0, 1) := by decide +kernel
theorem dX6_loseName_19 : decode cX6_loseName 19 = .ok (.getfield 12, 3) := by decide +kernel
theorem dX6_loseName_22 : decode cX6_loseName 22 = .ok (.iload_n 1, 1) := by decide +kernel
theorem dX6_loseName_23 : decode cX6_loseName 23 = .ok (.aload_n 0, 1) := by decide +kernel
theorem dX6_loseName_24 : decode cX6_loseName 24 = .ok (.getfield 12, 3) := by decide +kernel
theorem dX6_loseName_27 : decode cX6_loseName 27 = .ok (.iload_n 1, 1) := by decide +kernel
theorem dX6_loseName_28 : decode cX6_loseName 28 = .ok (.invokevirtual 119, 3) := by decide +kernel
theorem dX6_loseName_31 : decode cX6_loseName 31 = .ok (.iconst 1, 1) := by decide +kernel
theorem dX6_loseName_32 : decode cX6_loseName 32 = .ok (.isub, 1) := by decide +kernel
theorem dX6_loseName_33 : decode cX6_loseName 33 = .ok (.invokevirtual 122, 3) := by decide +kernel
theorem dX6_loseName_36 : decode cX6_loseName 36 = .ok (.aload_n 0, 1) := by decide +kernel
theorem dX6_loseName_37 : decode cX6_loseName 37 = .ok (.getfield 12, 3) := by decide +kernel
theorem dX6_loseName_40 : decode cX6_loseName 40 = .ok (.iload_n 1, 1) := by decide +kernel
theorem dX6_loseName_41 : decode cX6_loseName 41 = .ok (.invokevirtual 119, 3) := by decide +kernel
theorem dX6_loseName_44 : decode cX6_loseName 44 = .ok (.ifCond .ne 15, 3) := by decide +kernel
theorem dX6_loseName_47 : decode cX6_loseName 47 = .ok (.aload_n 0, 1) := by decide +kernel
theorem dX6_loseName_48 : decode cX6_loseName 48 = .ok (.iload_n 1, 1) := by decide +kernel
theorem dX6_loseName_49 : decode cX6_loseName 49 = .ok (.invokevirtual 214, 3) := by decide +kernel
theorem dX6_loseName_52 : decode cX6_loseName 52 = .ok (.ifCond .eq 7, 3) := by decide +kernel
theorem dX6_loseName_55 : decode cX6_loseName 55 = .ok (.iconst 1, 1) := by decide +kernel
theorem dX6_loseName_56 : decode cX6_loseName 56 = .ok (.goto 4, 3) := by decide +kernel
theorem dX6_loseName_59 : decode cX6_loseName 59 = .ok (.iconst 0, 1) := by decide +kernel
theorem dX6_loseName_60 : decode cX6_loseName 60 = .ok (.ireturn, 1) := by decide +kernel
def f_X6_loseName (U : S2) (p1 : Int32) : Option (Int32 × S2) := bn (f_X4_isOfKind (U 1) p1 1) (fun z_1 => if z_1 = 0 then bn (f_X4_countOf (U 1) p1) (fun z_3 => bn (f_X4_setCount (U 1) p1 (z_3 - 1)) (fun z_4 => bv (upc U 1 z_4) (fun u_5 => bn (f_X4_countOf (u_5 1) p1) (fun z_6 => jn (fun (v60_7_0 : Int32) (u60_7_0 : S2) => some (vp_nar .boolean v60_7_0, u60_7_0)) (fun k60_7 => jn (fun (u59_8_0 : S2) => k60_7 0 u59_8_0) (fun k59_8 => if z_6 = 0 then bn (f_X6_goneUnlessOpen u_5 p1) (fun z_10 => if z_10.1 = 0 then k59_8 z_10.2 else k60_7 1 z_10.2) else k59_8 u_5)))))) else bn (f_X6_goneUnlessOpen U p1) (fun z_12 => some (vp_nar .boolean z_12.1, z_12.2)))
def rmX6_loseName : Room := { frames := 5, cells := 0, slots := 0, locals := 110 }
set_option maxHeartbeats 4000000 in
set_option maxRecDepth 100000 in
theorem c_X6_loseName (l : Launch) (D : va_G) (cI cZ cJ cT : ClassId) (a : Nat → Nat → Nat) (sz : Nat) (U : S2) (p1 : Int32) (o : Int32 × S2) (hf : f_X6_loseName U p1 = some o) : Met l yX6_loseName wsX6_loseName rmX6_loseName (va_Pc [.ref (a 0 0), .int p1] (PW D cls (tys cI cZ cJ cT) (wI cI cZ cT a U) sz)) (QWi D cls o.1 (wI cI cZ cT a o.2) (va_A (wI cI cZ cT a U) sz)) 0 0 (va_A (wI cI cZ cT a U) sz) := by
  refine Met.ofW (cc := cX6_loseName) (maxL := 2) (ret := (some .boolean)) (by decide) rfl ?_
  intro p e s m args below meth c s₁ B hml hv
  obtain ⟨hav, hsz, hP, hK, hD0⟩ := hv
  have hx := B.exec
  have hb := B.bytes
  have hr := B.returns
  have hlocks := B.notSynchronized
  have hts := atoms_spec (ws := wsX6_loseName) B.pre
  have hown : s.vm.findClass RX6 = some m.cls := findClass_of_methodNamed B.named
  have i6 : ∀ w ∈ wsX60, w ∈ wsX6_loseName := fun w h => List.mem_cons_of_mem _ (List.mem_append_left _ (List.mem_append_left _ (List.mem_append_left _ (List.mem_append_right _ h))))
  have hk12 := hts (.fieldLink RX6 12 "Inodery" "now" "LInodery$Tree;") (by decide +kernel)
  subst hsz
  have hD := hD0.self (sz := s.heap.size)
  generalize hAe : va_A (wI cI cZ cT a U) s.heap.size = A at hD ⊢
  have hA : ∀ q : Nat, s.heap.size ≤ q → A q := fun q h => by rw [← hAe]; exact Or.inr h
  have hS : va_S A s.heap s.heap [] := va_S.rf
  have hDD : ∀ V : S2, va_D A (wI cI cZ cT a V) := fun _ => D_same (w := (wI cI cZ cT a U)) rfl hD
  refine Wq (fun Q hQ => ?_)
  refine W_entry hav (Nat.le_of_ble_eq_true rfl) (fun ls hl => ?_)
  have hl : lv_has ls 2 [(0, .ref (a 0 0)), (1, .int p1)] := hl
  unfold f_X6_loseName at hf
  refine W_heap hP hS (fun H locs hP hS => ?_)
  refine lv_aload_n hx hb dX6_loseName_0 rfl (lv_at hl 0 rfl) ?_
  refine va_get (D := D) (ci := 6) (v := .ref (a 1 0)) (C := RX6) (T := TX6) (N := 11) hx hb hts i6 hown hK (fl_sub hP 0 rfl) 0 rfl rfl 0 (by decide) hk12 (fun _ h9 => h9) rfl dX6_loseName_1 ?_
  refine lv_iload_n hx hb dX6_loseName_4 rfl (lv_at hl 1 rfl) ?_
  refine lv_iconst (v := 1) hx hb dX6_loseName_5 (by decide) ?_
  obtain ⟨z_1, hz_1, hf⟩ := bn_some hf
  refine cRV (As := [.int p1, .int 1]) (rest := []) ⟨hx, hb, hml, hown, hts⟩ (c_X4_isOfKind l D cI cZ cJ cT (a 1) (U 1) p1 1 z_1 hz_1) (cwV 2 hts gX6_loseName_X4_isOfKind rfl rfl rfl (by decide +kernel) ⟨Nat.le_of_ble_eq_true rfl, Nat.le_of_ble_eq_true rfl⟩) (fl_sub hP 1 rfl) hK (va_recv hK (fl_sub hP 1 rfl) (ci := 4) (q0 := 0) rfl rfl) rfl rfl hl.1 (Nat.le_of_ble_eq_true rfl) dX6_loseName_6 ⟨Nat.le_of_ble_eq_true rfl, Nat.le_of_ble_eq_true rfl⟩ ?_
  refine lv_if_eq (tgt := 18) hx hb dX6_loseName_9 (by decide) (fun c_2 => ?_) (fun c_2 => ?_)
  · have hf := ite_t hf c_2
    refine lv_aload_n hx hb dX6_loseName_18 rfl (lv_at hl 0 rfl) ?_
    refine va_get (D := D) (ci := 6) (v := .ref (a 1 0)) (C := RX6) (T := TX6) (N := 11) hx hb hts i6 hown hK (fl_sub hP 0 rfl) 0 rfl rfl 0 (by decide) hk12 (fun _ h9 => h9) rfl dX6_loseName_19 ?_
    refine lv_iload_n hx hb dX6_loseName_22 rfl (lv_at hl 1 rfl) ?_
    refine lv_aload_n hx hb dX6_loseName_23 rfl (lv_at hl 0 rfl) ?_
    refine va_get (D := D) (ci := 6) (v := .ref (a 1 0)) (C := RX6) (T := TX6) (N := 11) hx hb hts i6 hown hK (fl_sub hP 0 rfl) 0 rfl rfl 0 (by decide) hk12 (fun _ h9 => h9) rfl dX6_loseName_24 ?_
    refine lv_iload_n hx hb dX6_loseName_27 rfl (lv_at hl 1 rfl) ?_
    obtain ⟨z_3, hz_3, hf⟩ := bn_some hf
    refine cRV (As := [.int p1]) (rest := [.int p1, .ref (a 1 0)]) ⟨hx, hb, hml, hown, hts⟩ (c_X4_countOf l D cI cZ cJ cT (a 1) (U 1) p1 z_3 hz_3) (cwV 1 hts gX6_loseName_X4_countOf rfl rfl rfl (by decide +kernel) ⟨Nat.le_of_ble_eq_true rfl, Nat.le_of_ble_eq_true rfl⟩) (fl_sub hP 1 rfl) hK (va_recv hK (fl_sub hP 1 rfl) (ci := 4) (q0 := 0) rfl rfl) rfl rfl hl.1 (Nat.le_of_ble_eq_true rfl) dX6_loseName_28 ⟨Nat.le_of_ble_eq_true rfl, Nat.le_of_ble_eq_true rfl⟩ ?_
    refine lv_iconst (v := 1) hx hb dX6_loseName_31 (by decide) ?_
    refine lv_isub hx hb dX6_loseName_32 ?_
    obtain ⟨z_4, hz_4, hf⟩ := bn_some hf
    refine cWVv (As := [.int p1, .int (z_3 - 1)]) (rest := []) ⟨hx, hb, hml, hown, hts⟩ (c_X4_setCount l D cI cZ cJ cT (a 1) H.size (U 1) p1 (z_3 - 1) z_4 hz_4) (cwV 2 hts gX6_loseName_X4_setCount rfl rfl rfl (by decide +kernel) ⟨Nat.le_of_ble_eq_true rfl, Nat.le_of_ble_eq_true rfl⟩) (fl_sub hP 1 rfl) hK (fl_subD (hDD U) 1 rfl) hS (fl_free (hDD U) hS hA 1 rfl) (va_recv hK (fl_sub hP 1 rfl) (ci := 4) (q0 := 0) rfl rfl) rfl rfl hl.1 (Nat.le_of_ble_eq_true rfl) dX6_loseName_33 ⟨Nat.le_of_ble_eq_true rfl, Nat.le_of_ble_eq_true rfl⟩ (fun H1 locs hP1 hk1 hS => ?_)
    obtain ⟨u_5, hu_5, hf⟩ := bv_some hf
    have hP : va_P D cls (wI cI cZ cT a u_5) H1 := by rw [hu_5]; exact fl_join hP (hDD U) 1 rfl hk1 hP1
    clear hP1 hk1
    generalize H1 = H at hP hS ⊢
    refine lv_aload_n hx hb dX6_loseName_36 rfl (lv_at hl 0 rfl) ?_
    refine va_get (D := D) (ci := 6) (v := .ref (a 1 0)) (C := RX6) (T := TX6) (N := 11) hx hb hts i6 hown hK (fl_sub hP 0 rfl) 0 rfl rfl 0 (by decide) hk12 (fun _ h9 => h9) rfl dX6_loseName_37 ?_
    refine lv_iload_n hx hb dX6_loseName_40 rfl (lv_at hl 1 rfl) ?_
    obtain ⟨z_6, hz_6, hf⟩ := bn_some hf
    refine cRV (As := [.int p1]) (rest := []) ⟨hx, hb, hml, hown, hts⟩ (c_X4_countOf l D cI cZ cJ cT (a 1) (u_5 1) p1 z_6 hz_6) (cwV 1 hts gX6_loseName_X4_countOf rfl rfl rfl (by decide +kernel) ⟨Nat.le_of_ble_eq_true rfl, Nat.le_of_ble_eq_true rfl⟩) (fl_sub hP 1 rfl) hK (va_recv hK (fl_sub hP 1 rfl) (ci := 4) (q0 := 0) rfl rfl) rfl rfl hl.1 (Nat.le_of_ble_eq_true rfl) dX6_loseName_41 ⟨Nat.le_of_ble_eq_true rfl, Nat.le_of_ble_eq_true rfl⟩ ?_
    obtain ⟨k60_7, hk60_7, hf⟩ := jn_some hf
    have j60_7 : ∀ (v60_7_0 : Int32) (u60_7_0 : S2) (H : Heap) (locs : List Loc) (ls : Array Slot), k60_7 v60_7_0 u60_7_0 = some o → va_P D cls (wI cI cZ cT a u60_7_0) H → va_S A s.heap H locs → lv_has ls 2 [] → W p l e (headSpec wsX6_loseName rmX6_loseName).room s m args below meth c H locs 0 0 Q (F0 m 60 ls [.int v60_7_0]) := by
      intro v60_7_0 u60_7_0 H locs ls hf hP hS hl
      have hf := qa2 hk60_7 hf
      have eo := Option.some.inj hf
      have hP : va_P D cls (wI cI cZ cT a o.2) H := by rw [← eo]; exact hP
      rw [hQ]
      exact zretN (v := v60_7_0) (v' := vp_nar .boolean v60_7_0) hx hb hr rfl (fun t ht hW => ⟨⟨_, (), rfl, (by rw [← eo]), P_at ht hP⟩, hS.F ht⟩) hS.2.2 dX6_loseName_60 hlocks
    obtain ⟨k59_8, hk59_8, hf⟩ := jn_some hf
    have j59_8 : ∀ (u59_8_0 : S2) (H : Heap) (locs : List Loc) (ls : Array Slot), k59_8 u59_8_0 = some o → va_P D cls (wI cI cZ cT a u59_8_0) H → va_S A s.heap H locs → lv_has ls 2 [] → W p l e (headSpec wsX6_loseName rmX6_loseName).room s m args below meth c H locs 0 0 Q (F0 m 59 ls []) := by
      intro u59_8_0 H locs ls hf hP hS hl
      have hf := qa1 hk59_8 hf
      refine lv_iconst (v := 0) hx hb dX6_loseName_59 (by decide) ?_
      exact j60_7 _ _ _ _ _ hf hP hS (lv_sub hl [] rfl)
    refine lv_if_ne (tgt := 59) hx hb dX6_loseName_44 (by decide) (fun c_9 => ?_) (fun c_9 => ?_)
    · have hf := ite_f hf c_9
      exact j59_8 _ _ _ _ hf hP hS (lv_sub hl [] rfl)
    · have hf := ite_t hf c_9
      refine lv_aload_n hx hb dX6_loseName_47 rfl (lv_at hl 0 rfl) ?_
      refine lv_iload_n hx hb dX6_loseName_48 rfl (lv_at hl 1 rfl) ?_
      obtain ⟨z_10, hz_10, hf⟩ := bn_some hf
      refine cWVi (As := [.int p1]) (rest := []) ⟨hx, hb, hml, hown, hts⟩ (c_X6_goneUnlessOpen l D cI cZ cJ cT a H.size u_5 p1 z_10 hz_10) (cwV 1 hts gX6_loseName_X6_goneUnlessOpen rfl rfl rfl (by decide +kernel) ⟨Nat.le_of_ble_eq_true rfl, Nat.le_of_ble_eq_true rfl⟩) hP hK (hDD u_5) hS (own_free (hDD u_5) hS hA) (va_recv hK (fl_sub hP 0 rfl) (ci := 6) (q0 := 0) rfl rfl) rfl rfl hl.1 (Nat.le_of_ble_eq_true rfl) dX6_loseName_49 ⟨Nat.le_of_ble_eq_true rfl, Nat.le_of_ble_eq_true rfl⟩ (fun H locs hP _ hS => ?_)
      refine lv_if_eq (tgt := 59) hx hb dX6_loseName_52 (by decide) (fun c_11 => ?_) (fun c_11 => ?_)
      · have hf := ite_t hf c_11
        exact j59_8 _ _ _ _ hf hP hS (lv_sub hl [] rfl)
      · have hf := ite_f hf c_11
        refine lv_iconst (v := 1) hx hb dX6_loseName_55 (by decide) ?_
        refine lv_goto (tgt := 60) hx hb dX6_loseName_56 (by decide) ?_
        exact j60_7 _ _ _ _ _ hf hP hS (lv_sub hl [] rfl)
  · have hf := ite_f hf c_2
    refine lv_aload_n hx hb dX6_loseName_12 rfl (lv_at hl 0 rfl) ?_
    refine lv_iload_n hx hb dX6_loseName_13 rfl (lv_at hl 1 rfl) ?_
    obtain ⟨z_12, hz_12, hf⟩ := bn_some hf
    refine cWVi (As := [.int p1]) (rest := []) ⟨hx, hb, hml, hown, hts⟩ (c_X6_goneUnlessOpen l D cI cZ cJ cT a H.size U p1 z_12 hz_12) (cwV 1 hts gX6_loseName_X6_goneUnlessOpen rfl rfl rfl (by decide +kernel) ⟨Nat.le_of_ble_eq_true rfl, Nat.le_of_ble_eq_true rfl⟩) hP hK (hDD U) hS (own_free (hDD U) hS hA) (va_recv hK (fl_sub hP 0 rfl) (ci := 6) (q0 := 0) rfl rfl) rfl rfl hl.1 (Nat.le_of_ble_eq_true rfl) dX6_loseName_14 ⟨Nat.le_of_ble_eq_true rfl, Nat.le_of_ble_eq_true rfl⟩ (fun H locs hP _ hS => ?_)
    have eo := Option.some.inj hf
    have hP : va_P D cls (wI cI cZ cT a o.2) H := by rw [← eo]; exact hP
    rw [hQ]
    exact zretN (v := z_12.1) (v' := vp_nar .boolean z_12.1) hx hb hr rfl (fun t ht hW => ⟨⟨_, (), rfl, (by rw [← eo]), P_at ht hP⟩, hS.F ht⟩) hS.2.2 dX6_loseName_17 hlocks
set_option maxRecDepth 20000 in
theorem ggX6_rename_X4_putEntry : GoodIn wsX6_rename wsX4_putEntry := goodIn_r _ [211, 47, 212, 77, 78, 36, 79, 62, 63, 64, 115, 116, 117, 118, 42, 43, 44, 45, 46, 48, 49, 50, 51, 52, 119, 120, 121, 122, 226, 227, 228, 229, 230, 231, 232, 233, 234, 235, 236, 237] (by decide +kernel) (by decide +kernel)
set_option maxRecDepth 20000 in
theorem gX6_rename_X4_putEntry : GoodIn wsX6_rename (wsV RX6 115 RX4 yX4_putEntry wsX4_putEntry) := goodIn_app (goodIn_of _ (by decide +kernel)) ggX6_rename_X4_putEntry
set_option maxRecDepth 20000 in
theorem ggX6_rename_X4_takeEntry : GoodIn wsX6_rename wsX4_takeEntry := goodIn_r _ [114, 47, 38, 39, 40, 36, 41, 42, 43, 44, 45, 46, 62, 63, 64, 115, 116, 117, 118, 48, 49, 50, 51, 52, 119, 120, 121, 122, 226, 227, 228, 229, 230, 231, 232, 233, 234, 235, 236, 237] (by decide +kernel) (by decide +kernel)
set_option maxRecDepth 20000 in
theorem gX6_rename_X4_takeEntry : GoodIn wsX6_rename (wsV RX6 144 RX4 yX4_takeEntry wsX4_takeEntry) := goodIn_app (goodIn_of _ (by decide +kernel)) ggX6_rename_X4_takeEntry
set_option maxRecDepth 20000 in
theorem ggX6_rename_X4_thingNamed : GoodIn wsX6_rename wsX4_thingNamed := goodIn_r _ [37, 38, 39, 40, 36, 41, 42, 43, 44, 45, 46, 47, 48, 49, 50, 51, 52, 226, 227, 228, 229, 230, 231, 232, 233, 234, 235, 236, 237] (by decide +kernel) (by decide +kernel)
set_option maxRecDepth 20000 in
theorem gX6_rename_X4_thingNamed : GoodIn wsX6_rename (wsV RX6 128 RX4 yX4_thingNamed wsX4_thingNamed) := goodIn_app (goodIn_of _ (by decide +kernel)) ggX6_rename_X4_thingNamed
set_option maxRecDepth 20000 in
theorem ggX6_rename_X6_canComeTo : GoodIn wsX6_rename wsX6_canComeTo := goodIn_r _ [75, 7, 70, 54, 55, 36, 56, 57, 58, 59, 60, 61, 62, 63, 64, 76, 77, 78, 79, 47, 80, 81, 82, 83, 84, 85, 86, 87, 48, 49, 50, 51, 52, 43, 44, 45, 46, 213, 214, 215, 216, 217, 218, 219, 220, 221, 222, 223, 226, 227, 228, 229, 230, 231, 232, 233, 234, 235, 236, 237] (by decide +kernel) (by decide +kernel)
set_option maxRecDepth 20000 in
theorem gX6_rename_X6_canComeTo : GoodIn wsX6_rename (wsV RX6 132 RX6 yX6_canComeTo wsX6_canComeTo) := goodIn_app (goodIn_of _ (by decide +kernel)) ggX6_rename_X6_canComeTo
set_option maxRecDepth 20000 in
theorem ggX6_rename_X6_folderAhead : GoodIn wsX6_rename wsX6_folderAhead := goodIn_r _ [16, 17, 7, 18, 19, 20, 21, 22, 23, 24, 25, 26, 27, 28, 29, 30, 31, 32, 33, 34, 35, 36, 37, 38, 39, 40, 41, 42, 43, 44, 45, 46, 47, 48, 49, 50, 51, 52, 53, 54, 55, 56, 57, 58, 59, 60, 61, 62, 63, 64, 65, 66, 67, 68, 69, 70, 213, 214, 215, 216, 217, 218, 219, 220, 221, 222, 223, 224, 225, 226, 227, 228, 229, 230, 231, 232, 233, 234, 235, 236, 237] (by decide +kernel) (by decide +kernel)
set_option maxRecDepth 20000 in
theorem gX6_rename_X6_folderAhead : GoodIn wsX6_rename (wsV RX6 97 RX6 yX6_folderAhead wsX6_folderAhead) := goodIn_app (goodIn_of _ (by decide +kernel)) ggX6_rename_X6_folderAhead
set_option maxRecDepth 20000 in
theorem ggX6_rename_X6_hasRoomFor : GoodIn wsX6_rename wsX6_hasRoomFor := goodIn_r _ [91, 7, 76, 77, 78, 36, 79, 47, 62, 63, 64, 213, 214, 215, 216, 217, 218, 219, 220, 221, 222, 223, 226, 227, 228, 229, 230, 231, 232, 233, 234, 235, 236, 237] (by decide +kernel) (by decide +kernel)
set_option maxRecDepth 20000 in
theorem gX6_rename_X6_hasRoomFor : GoodIn wsX6_rename (wsV RX6 136 RX6 yX6_hasRoomFor wsX6_hasRoomFor) := goodIn_app (goodIn_of _ (by decide +kernel)) ggX6_rename_X6_hasRoomFor
set_option maxRecDepth 20000 in
theorem ggX6_rename_X6_isNewPath : GoodIn wsX6_rename wsX6_isNewPath := goodIn_r _ [11, 12] (by decide +kernel) (by decide +kernel)
set_option maxRecDepth 20000 in
theorem gX6_rename_X6_isNewPath : GoodIn wsX6_rename (va_wsS RX6 85 yX6_isNewPath wsX6_isNewPath) := goodIn_app (goodIn_of _ (by decide +kernel)) ggX6_rename_X6_isNewPath
set_option maxRecDepth 20000 in
theorem ggX6_rename_X6_loseName : GoodIn wsX6_rename wsX6_loseName := goodIn_r _ [126, 7, 70, 54, 55, 36, 56, 57, 58, 59, 60, 61, 62, 63, 64, 127, 128, 129, 10, 130, 131, 132, 133, 134, 135, 136, 137, 138, 139, 140, 141, 142, 143, 144, 145, 146, 147, 148, 149, 150, 151, 152, 153, 154, 155, 156, 157, 158, 159, 160, 161, 47, 162, 163, 164, 165, 166, 167, 168, 169, 170, 171, 172, 173, 174, 175, 176, 177, 178, 179, 180, 181, 182, 183, 184, 185, 186, 187, 188, 189, 190, 191, 192, 193, 194, 195, 196, 197, 198, 199, 200, 201, 202, 203, 204, 205, 206, 207, 213, 214, 215, 216, 217, 218, 219, 220, 221, 222, 223, 226, 227, 228, 229, 230, 231, 232, 233, 234, 235, 236, 237, 238, 239, 240, 241, 242, 243, 244, 245] (by decide +kernel) (by decide +kernel)
set_option maxRecDepth 20000 in
theorem gX6_rename_X6_loseName : GoodIn wsX6_rename (wsV RX6 147 RX6 yX6_loseName wsX6_loseName) := goodIn_app (goodIn_of _ (by decide +kernel)) ggX6_rename_X6_loseName
set_option maxRecDepth 20000 in
theorem ggX6_rename_X6_mayWrite : GoodIn wsX6_rename wsX6_mayWrite := goodIn_r _ [95, 96, 97, 98, 10, 99, 100, 7, 101, 102, 103, 36, 104, 105, 62, 63, 64, 106, 107, 108, 109, 110, 213, 214, 215, 216, 217, 218, 219, 220, 221, 222, 223, 226, 227, 228, 229, 230, 231, 232, 233, 234, 235, 236, 237] (by decide +kernel) (by decide +kernel)
set_option maxRecDepth 20000 in
theorem gX6_rename_X6_mayWrite : GoodIn wsX6_rename (wsV RX6 139 RX6 yX6_mayWrite wsX6_mayWrite) := goodIn_app (goodIn_of _ (by decide +kernel)) ggX6_rename_X6_mayWrite
theorem dX6_rename_0 : decode cX6_rename 0 = .ok (.iload_n 1, 1) := by decide +kernel
theorem dX6_rename_1 : decode cX6_rename 1 = .ok (.invokestatic 85, 3) := by decide +kernel
theorem dX6_rename_4 : decode cX6_rename 4 = .ok (.ifCond .eq 10, 3) := by decide +kernel
theorem dX6_rename_7 : decode cX6_rename 7 = .ok (.iload_n 2, 1) := by decide +kernel
theorem dX6_rename_8 : decode cX6_rename 8 = .ok (.invokestatic 85, 3) := by decide +kernel
theorem dX6_rename_11 : decode cX6_rename 11 = .ok (.ifCond .ne 13, 3) := by decide +kernel
theorem dX6_rename_14 : decode cX6_rename 14 = .ok (.new 88, 3) := by decide +kernel
theorem dX6_rename_17 : decode cX6_rename 17 = .ok (.dup, 1) := by decide +kernel
theorem dX6_rename_18 : decode cX6_rename 18 = .ok (.ldc 126, 2) := by decide +kernel
theorem dX6_rename_20 : decode cX6_rename 20 = .ok (.invokespecial 92, 3) := by decide +kernel
theorem dX6_rename_23 : decode cX6_rename 23 = .ok (.athrow, 1) := by decide +kernel
theorem dX6_rename_24 : decode cX6_rename 24 = .ok (.aload_n 0, 1) := by decide +kernel
theorem dX6_rename_25 : decode cX6_rename 25 = .ok (.iload_n 1, 1) := by decide +kernel
theorem dX6_rename_26 : decode cX6_rename 26 = .ok (.invokevirtual 97, 3) := by decide +kernel
theorem dX6_rename_29 : decode cX6_rename 29 = .ok (.istore_n 3, 1) := by decide +kernel
theorem dX6_rename_30 : decode cX6_rename 30 = .ok (.aload_n 0, 1) := by decide +kernel
theorem dX6_rename_31 : decode cX6_rename 31 = .ok (.getfield 12, 3) := by decide +kernel
theorem dX6_rename_34 : decode cX6_rename 34 = .ok (.iload_n 3, 1) := by decide +kernel
theorem dX6_rename_35 : decode cX6_rename 35 = .ok (.iload_n 1, 1) := by decide +kernel
theorem dX6_rename_36 : decode cX6_rename 36 = .ok (.bipush 100, 2) := by decide +kernel
theorem dX6_rename_38 : decode cX6_rename 38 = .ok (.irem, 1) := by decide +kernel
theorem dX6_rename_39 : decode cX6_rename 39 = .ok (.invokevirtual 128, 3) := by decide +kernel
theorem dX6_rename_42 : decode cX6_rename 42 = .ok (.istore 4, 2) := by decide +kernel
theorem dX6_rename_44 : decode cX6_rename 44 = .ok (.aload_n 0, 1) := by decide +kernel
theorem dX6_rename_45 : decode cX6_rename 45 = .ok (.iload_n 2, 1) := by decide +kernel
theorem dX6_rename_46 : decode cX6_rename 46 = .ok (.invokevirtual 97, 3) := by decide +kernel
theorem dX6_rename_49 : decode cX6_rename 49 = .ok (.istore 5, 2) := by decide +kernel
theorem dX6_rename_51 : decode cX6_rename 51 = .ok (.iload_n 2, 1) := by decide +kernel
theorem dX6_rename_52 : decode cX6_rename 52 = .ok (.bipush 100, 2) := by decide +kernel
theorem dX6_rename_54 : decode cX6_rename 54 = .ok (.irem, 1) := by decide +kernel
theorem dX6_rename_55 : decode cX6_rename 55 = .ok (.istore 6, 2) := by decide +kernel
theorem dX6_rename_57 : decode cX6_rename 57 = .ok (.iload 4, 2) := by decide +kernel
theorem dX6_rename_59 : decode cX6_rename 59 = .ok (.iconst (-1), 1) := by decide +kernel
theorem dX6_rename_60 : decode cX6_rename 60 = .ok (.if_icmp .eq 14, 3) := by decide +kernel
theorem dX6_rename_63 : decode cX6_rename 63 = .ok (.iload 5, 2) := by decide +kernel
theorem dX6_rename_65 : decode cX6_rename 65 = .ok (.iconst (-1), 1) := by decide +kernel
theorem dX6_rename_66 : decode cX6_rename 66 = .ok (.if_icmp .eq 8, 3) := by decide +kernel
theorem dX6_rename_69 : decode cX6_rename 69 = .ok (.iload 6, 2) := by decide +kernel
theorem dX6_rename_71 : decode cX6_rename 71 = .ok (.ifCond .ne 13, 3) := by decide +kernel
theorem dX6_rename_74 : decode cX6_rename 74 = .ok (.new 74, 3) := by decide +kernel
theorem dX6_rename_77 : decode cX6_rename 77 = .ok (.dup, 1) := by decide +kernel
theorem dX6_rename_78 : decode cX6_rename 78 = .ok (.ldc 101, 2) := by decide +kernel
theorem dX6_rename_80 : decode cX6_rename 80 = .ok (.invokespecial 78, 3) := by decide +kernel
theorem dX6_rename_83 : decode cX6_rename 83 = .ok (.athrow, 1) := by decide +kernel
theorem dX6_rename_84 : decode cX6_rename 84 = .ok (.aload_n 0, 1) := by decide +kernel
theorem dX6_rename_85 : decode cX6_rename 85 = .ok (.getfield 12, 3) := by decide +kernel
theorem dX6_rename_88 : decode cX6_rename 88 = .ok (.iload 5, 2) := by decide +kernel
theorem dX6_rename_90 : decode cX6_rename 90 = .ok (.iload 6, 2) := by decide +kernel
theorem dX6_rename_92 : decode cX6_rename 92 = .ok (.invokevirtual 128, 3) := by decide +kernel
theorem dX6_rename_95 : decode cX6_rename 95 = .ok (.istore 7, 2) := by decide +kernel
theorem dX6_rename_97 : decode cX6_rename 97 = .ok (.iload 7, 2) := by decide +kernel
theorem dX6_rename_99 : decode cX6_rename 99 = .ok (.iload 4, 2) := by decide +kernel
theorem dX6_rename_101 : decode cX6_rename 101 = .ok (.if_icmp .ne 6, 3) := by decide +kernel
theorem dX6_rename_104 : decode cX6_rename 104 = .ok (.iload 4, 2) := by decide +kernel
theorem dX6_rename_106 : decode cX6_rename 106 = .ok (.ireturn, 1) := by decide +kernel
theorem dX6_rename_107 : decode cX6_rename 107 = .ok (.aload_n 0, 1) := by decide +kernel
theorem dX6_rename_108 : decode cX6_rename 108 = .ok (.iload 4, 2) := by decide +kernel
theorem dX6_rename_110 : decode cX6_rename 110 = .ok (.iload 5, 2) := by decide +kernel
theorem dX6_rename_112 : decode cX6_rename 112 = .ok (.iload 7, 2) := by decide +kernel
theorem dX6_rename_114 : decode cX6_rename 114 = .ok (.invokevirtual 132, 3) := by decide +kernel
theorem dX6_rename_117 : decode cX6_rename 117 = .ok (.ifCond .eq 32, 3) := by decide +kernel
theorem dX6_rename_120 : decode cX6_rename 120 = .ok (.aload_n 0, 1) := by decide +kernel
theorem dX6_rename_121 : decode cX6_rename 121 = .ok (.iload_n 3, 1) := by decide +kernel
theorem dX6_rename_122 : decode cX6_rename 122 = .ok (.iload 5, 2) := by decide +kernel
theorem dX6_rename_124 : decode cX6_rename 124 = .ok (.iload 7, 2) := by decide +kernel
theorem dX6_rename_126 : decode cX6_rename 126 = .ok (.invokevirtual 136, 3) := by decide +kernel
theorem dX6_rename_129 : decode cX6_rename 129 = .ok (.ifCond .eq 20, 3) := by decide +kernel
theorem dX6_rename_132 : decode cX6_rename 132 = .ok (.aload_n 0, 1) := by decide +kernel
theorem dX6_rename_133 : decode cX6_rename 133 = .ok (.iload_n 3, 1) := by decide +kernel
theorem dX6_rename_134 : decode cX6_rename 134 = .ok (.invokevirtual 139, 3) := by decide +kernel
theorem dX6_rename_137 : decode cX6_rename 137 = .ok (.ifCond .eq 12, 3) := by decide +kernel
theorem dX6_rename_140 : decode cX6_rename 140 = .ok (.aload_n 0, 1) := by decide +kernel
theorem dX6_rename_141 : decode cX6_rename 141 = .ok (.iload 5, 2) := by decide +kernel
theorem dX6_rename_143 : decode cX6_rename 143 = .ok (.invokevirtual 139, 3) := by decide +kernel
theorem dX6_rename_146 : decode cX6_rename 146 = .ok (.ifCond .ne 13, 3) := by decide +kernel
theorem dX6_rename_149 : decode cX6_rename 149 = .ok (.new 110, 3) := by decide +kernel
theorem dX6_rename_152 : decode cX6_rename 152 = .ok (.dup, 1) := by decide +kernel
theorem dX6_rename_153 : decode cX6_rename 153 = .ok (.ldc 142, 2) := by decide +kernel
theorem dX6_rename_155 : decode cX6_rename 155 = .ok (.invokespecial 114, 3) := by decide +kernel
theorem dX6_rename_158 : decode cX6_rename 158 = .ok (.athrow, 1) := by decide +kernel
theorem dX6_rename_159 : decode cX6_rename 159 = .ok (.aload_n 0, 1) := by decide +kernel
theorem dX6_rename_160 : decode cX6_rename 160 = .ok (.getfield 12, 3) := by decide +kernel
theorem dX6_rename_163 : decode cX6_rename 163 = .ok (.iload_n 3, 1) := by decide +kernel
theorem dX6_rename_164 : decode cX6_rename 164 = .ok (.iload_n 1, 1) := by decide +kernel
theorem dX6_rename_165 : decode cX6_rename 165 = .ok (.bipush 100, 2) := by decide +kernel
theorem dX6_rename_167 : decode cX6_rename 167 = .ok (.irem, 1) := by decide +kernel
theorem dX6_rename_168 : decode cX6_rename 168 = .ok (.invokevirtual 144, 3) := by decide +kernel
theorem dX6_rename_171 : decode cX6_rename 171 = .ok (.iload 7, 2) := by decide +kernel
theorem dX6_rename_173 : decode cX6_rename 173 = .ok (.iconst (-1), 1) := by decide +kernel
theorem dX6_rename_174 : decode cX6_rename 174 = .ok (.if_icmp .eq 21, 3) := by decide +kernel
theorem dX6_rename_177 : decode cX6_rename 177 = .ok (.aload_n 0, 1) := by decide +kernel
theorem dX6_rename_178 : decode cX6_rename 178 = .ok (.getfield 12, 3) := by decide +kernel
theorem dX6_rename_181 : decode cX6_rename 181 = .ok (.iload 5, 2) := by decide +kernel
theorem dX6_rename_183 : decode cX6_rename 183 = .ok (.iload 6, 2) := by decide +kernel
theorem dX6_rename_185 : decode cX6_rename 185 = .ok (.invokevirtual 144, 3) := by decide +kernel
theorem dX6_rename_188 : decode cX6_rename 188 = .ok (.aload_n 0, 1) := by decide +kernel
theorem dX6_rename_189 : decode cX6_rename 189 = .ok (.iload 7, 2) := by decide +kernel
theorem dX6_rename_191 : decode cX6_rename 191 = .ok (.invokevirtual 147, 3) := by decide +kernel
theorem dX6_rename_194 : decode cX6_rename 194 = .ok (.pop, 1) := by decide +kernel
theorem dX6_rename_195 : decode cX6_rename 195 = .ok (.aload_n 0, 1) := by decide +kernel
theorem dX6_rename_196 : decode cX6_rename 196 = .ok (.getfield 12, 3) := by decide +kernel
theorem dX6_rename_199 : decode cX6_rename 199 = .ok (.iload 5, 2) := by decide +kernel
theorem dX6_rename_201 : decode cX6_rename 201 = .ok (.iload 6, 2) := by decide +kernel
theorem dX6_rename_203 : decode cX6_rename 203 = .ok (.iload 4, 2) := by decide +kernel
theorem dX6_rename_205 : decode cX6_rename 205 = .ok (.invokevirtual 115, 3) := by decide +kernel
theorem dX6_rename_208 : decode cX6_rename 208 = .ok (.iload 4, 2) := by decide +kernel
theorem dX6_rename_210 : decode cX6_rename 210 = .ok (.ireturn, 1) := by decide +kernel
def f_X6_rename (U : S2) (p1 : Int32) (p2 : Int32) : Option (Nat × Int32 × S2) := bn (f_X6_isNewPath p1) (fun z_1 => jn (some (1, 0, U)) (fun k14_2 => if z_1 = 0 then k14_2 else bn (f_X6_isNewPath p2) (fun z_4 => if z_4 = 0 then k14_2 else bn (f_X6_folderAhead U p1) (fun z_6 => bn (f_X4_thingNamed (z_6.2 1) z_6.1 (p1 - p1 / 100 * 100)) (fun z_7 => bn (f_X6_folderAhead z_6.2 p2) (fun z_8 => jn (some (2, 0, z_8.2)) (fun k74_9 => if z_7 = (-1) then k74_9 else if z_8.1 = (-1) then k74_9 else if (p2 - p2 / 100 * 100) = 0 then k74_9 else bn (f_X4_thingNamed (z_8.2 1) z_8.1 (p2 - p2 / 100 * 100)) (fun z_13 => if z_13 = z_7 then some (0, z_7, z_8.2) else bn (f_X6_canComeTo z_8.2 z_7 z_8.1 z_13) (fun z_15 => jn (some (3, 0, z_8.2)) (fun k149_16 => if z_15 = 0 then k149_16 else bn (f_X6_hasRoomFor z_8.2 z_6.1 z_8.1 z_13) (fun z_18 => if z_18 = 0 then k149_16 else bn (f_X6_mayWrite z_8.2 z_6.1) (fun z_20 => if z_20 = 0 then k149_16 else bn (f_X6_mayWrite z_8.2 z_8.1) (fun z_22 => if z_22 = 0 then k149_16 else bn (f_X4_takeEntry (z_8.2 1) z_6.1 (p1 - p1 / 100 * 100)) (fun z_24 => bv (upc z_8.2 1 z_24) (fun u_25 => jn (fun (u195_26_0 : S2) => bn (f_X4_putEntry (u195_26_0 1) z_8.1 (p2 - p2 / 100 * 100) z_7) (fun z_27 => bv (upc u195_26_0 1 z_27) (fun u_28 => some (0, z_7, u_28)))) (fun k195_26 => if z_13 = (-1) then k195_26 u_25 else bn (f_X4_takeEntry (u_25 1) z_8.1 (p2 - p2 / 100 * 100)) (fun z_30 => bv (upc u_25 1 z_30) (fun u_31 => bn (f_X6_loseName u_31 z_13) (fun z_32 => k195_26 z_32.2)))))))))))))))))))
def rmX6_rename : Room := { frames := 6, cells := 1, slots := 6, locals := 131 }
set_option maxHeartbeats 4000000 in
set_option maxRecDepth 100000 in
theorem c_X6_rename (l : Launch) (hst : l.stackTraces = false) (D : va_G) (cI cZ cJ cT : ClassId) (a : Nat → Nat → Nat) (sz : Nat) (U : S2) (p1 : Int32) (p2 : Int32) (o : Nat × Int32 × S2) (hf : f_X6_rename U p1 p2 = some o) : vx_Met l yX6_rename wsX6_rename rmX6_rename (va_Pc [.ref (a 0 0), .int p1, .int p2] (PX D cls (tys cI cZ cJ cT) (wI cI cZ cT a U) sz)) (QXi D cls o.1 o.2.1 (wI cI cZ cT a o.2.2) (va_A (wI cI cZ cT a U) sz)) (XX D cls o.1 (wI cI cZ cT a o.2.2) (va_A (wI cI cZ cT a U) sz)) 1 6 (va_A (wI cI cZ cT a U) sz) := by
  refine vx_ofW (cc := cX6_rename) (maxL := 8) (ret := (some .int)) (by decide) rfl ?_
  intro p e s m args below meth c s₁ B hml hxt hv
  obtain ⟨hav, ⟨hsz, hP, hK, hD0⟩, hE⟩ := hv
  have hx := B.exec
  have hb := B.bytes
  have hr := B.returns
  have hlocks := B.notSynchronized
  have hts := atoms_spec (ws := wsX6_rename) B.pre
  have hown : s.vm.findClass RX6 = some m.cls := findClass_of_methodNamed B.named
  have i6 : ∀ w ∈ wsX60, w ∈ wsX6_rename := fun w h => List.mem_cons_of_mem _ (List.mem_append_left _ (List.mem_append_left _ (List.mem_append_left _ (List.mem_append_left _ (List.mem_append_left _ (List.mem_append_left _ (List.mem_append_left _ (List.mem_append_right _ h))))))))
  have hk12 := hts (.fieldLink RX6 12 "Inodery" "now" "LInodery$Tree;") (by decide +kernel)
  subst hsz
  have hD := hD0.self (sz := s.heap.size)
  generalize hAe : va_A (wI cI cZ cT a U) s.heap.size = A at hD hE ⊢
  have hA : ∀ q : Nat, s.heap.size ≤ q → A q := fun q h => by rw [← hAe]; exact Or.inr h
  have hS : va_S A s.heap s.heap [] := va_S.rf
  have hDD : ∀ V : S2, va_D A (wI cI cZ cT a V) := fun _ => D_same (w := (wI cI cZ cT a U)) rfl hD
  refine Wq (fun Q hQ => ?_)
  refine W_entry hav (Nat.le_of_ble_eq_true rfl) (fun ls hl => ?_)
  have hl : lv_has ls 8 [(0, .ref (a 0 0)), (1, .int p1), (2, .int p2)] := hl
  unfold f_X6_rename at hf
  refine W_heap hP hS (fun H locs hP hS => ?_)
  refine lv_iload_n hx hb dX6_rename_0 rfl (lv_at hl 1 rfl) ?_
  obtain ⟨z_1, hz_1, hf⟩ := bn_some hf
  refine c0S (As := [.int p1]) (rest := []) ⟨hx, hb, hml, hown, hts⟩ (c_X6_isNewPath l D cI cZ cJ cT p1 z_1 hz_1) (va_cwS 1 hts gX6_rename_X6_isNewPath rfl rfl rfl (by decide +kernel) ⟨Nat.le_of_ble_eq_true rfl, Nat.le_of_ble_eq_true rfl⟩) rfl rfl hl.1 (Nat.le_of_ble_eq_true rfl) dX6_rename_1 ⟨Nat.le_of_ble_eq_true rfl, Nat.le_of_ble_eq_true rfl⟩ ?_
  obtain ⟨k14_2, hk14_2, hf⟩ := jn_some hf
  have j14_2 : ∀ (H : Heap) (locs : List Loc) (ls : Array Slot), k14_2 = some o → va_P D cls (wI cI cZ cT a U) H → va_S A s.heap H locs → lv_has ls 8 [] → W p l e (headSpec wsX6_rename rmX6_rename).room s m args below meth c H locs 0 0 Q (F0 m 14 ls []) := by
    intro H locs ls hf hP hS hl
    have hf := qa0 hk14_2 hf
    have eo := Option.some.inj hf
    have hP : va_P D cls (wI cI cZ cT a o.2.2) H := by rw [← eo]; exact hP
    rw [hQ]
    have hk0 : o.1 = 1 := by rw [← eo]
    exact thr o.1 (text := "from or to is out of range") (by rw [hk0]; rfl) (by rw [hk0]; decide) hx hb hst hown (by decide +kernel) (hts (.classLink RX6 88 "java/lang/IllegalArgumentException") (by decide +kernel)) (hts (.initialized "java/lang/IllegalArgumentException") (by decide +kernel)) (fun w h => hts w (List.mem_cons_of_mem _ (List.mem_append_left _ (List.mem_append_left _ (List.mem_append_right _ h))))) (EX_b1 hE) ok1 (by decide +kernel) hE hS hP (hl.1.trans hml.symm) dX6_rename_14 dX6_rename_17 dX6_rename_18 dX6_rename_20 dX6_rename_23 hxt (Nat.le_of_ble_eq_true rfl) (Nat.le_of_ble_eq_true rfl) (Nat.le_of_ble_eq_true rfl) (Nat.le_of_ble_eq_true rfl) hlocks (Nat.le_of_ble_eq_true rfl) (Nat.le_of_ble_eq_true rfl)
  refine lv_if_eq (tgt := 14) hx hb dX6_rename_4 (by decide) (fun c_3 => ?_) (fun c_3 => ?_)
  · have hf := ite_t hf c_3
    refine W.widen (k := 0) (n := 0) (Nat.le_of_ble_eq_true rfl) (Nat.le_of_ble_eq_true rfl) ?_
    exact j14_2 _ _ _ hf hP hS (lv_sub hl [] rfl)
  · have hf := ite_f hf c_3
    refine lv_iload_n hx hb dX6_rename_7 rfl (lv_at hl 2 rfl) ?_
    obtain ⟨z_4, hz_4, hf⟩ := bn_some hf
    refine c0S (As := [.int p2]) (rest := []) ⟨hx, hb, hml, hown, hts⟩ (c_X6_isNewPath l D cI cZ cJ cT p2 z_4 hz_4) (va_cwS 1 hts gX6_rename_X6_isNewPath rfl rfl rfl (by decide +kernel) ⟨Nat.le_of_ble_eq_true rfl, Nat.le_of_ble_eq_true rfl⟩) rfl rfl hl.1 (Nat.le_of_ble_eq_true rfl) dX6_rename_8 ⟨Nat.le_of_ble_eq_true rfl, Nat.le_of_ble_eq_true rfl⟩ ?_
    refine lv_if_ne (tgt := 24) hx hb dX6_rename_11 (by decide) (fun c_5 => ?_) (fun c_5 => ?_)
    · have hf := ite_f hf c_5
      refine lv_aload_n hx hb dX6_rename_24 rfl (lv_at hl 0 rfl) ?_
      refine lv_iload_n hx hb dX6_rename_25 rfl (lv_at hl 1 rfl) ?_
      obtain ⟨z_6, hz_6, hf⟩ := bn_some hf
      refine cWVi (As := [.int p1]) (rest := []) ⟨hx, hb, hml, hown, hts⟩ (c_X6_folderAhead l D cI cZ cJ cT a H.size U p1 z_6 hz_6) (cwV 1 hts gX6_rename_X6_folderAhead rfl rfl rfl (by decide +kernel) ⟨Nat.le_of_ble_eq_true rfl, Nat.le_of_ble_eq_true rfl⟩) hP hK (hDD U) hS (own_free (hDD U) hS hA) (va_recv hK (fl_sub hP 0 rfl) (ci := 6) (q0 := 0) rfl rfl) rfl rfl hl.1 (Nat.le_of_ble_eq_true rfl) dX6_rename_26 ⟨Nat.le_of_ble_eq_true rfl, Nat.le_of_ble_eq_true rfl⟩ (fun H locs hP _ hS => ?_)
      refine lv_istore_n (lv' := [(3, .int z_6.1), (0, .ref (a 0 0)), (1, .int p1), (2, .int p2)]) hx hb dX6_rename_29 rfl hl (by decide) rfl (fun ls hl => ?_)
      refine lv_aload_n hx hb dX6_rename_30 rfl (lv_at hl 1 rfl) ?_
      refine va_get (D := D) (ci := 6) (v := .ref (a 1 0)) (C := RX6) (T := TX6) (N := 11) hx hb hts i6 hown hK (fl_sub hP 0 rfl) 0 rfl rfl 0 (by decide) hk12 (fun _ h9 => h9) rfl dX6_rename_31 ?_
      refine lv_iload_n hx hb dX6_rename_34 rfl (lv_at hl 0 rfl) ?_
      refine lv_iload_n hx hb dX6_rename_35 rfl (lv_at hl 2 rfl) ?_
      refine lv_bipush (v := 100) hx hb dX6_rename_36 (by decide) ?_
      refine lv_irem hx hb dX6_rename_38 (by decide) ?_
      obtain ⟨z_7, hz_7, hf⟩ := bn_some hf
      refine cRV (As := [.int z_6.1, .int (p1 - p1 / 100 * 100)]) (rest := []) ⟨hx, hb, hml, hown, hts⟩ (c_X4_thingNamed l D cI cZ cJ cT (a 1) (z_6.2 1) z_6.1 (p1 - p1 / 100 * 100) z_7 hz_7) (cwV 2 hts gX6_rename_X4_thingNamed rfl rfl rfl (by decide +kernel) ⟨Nat.le_of_ble_eq_true rfl, Nat.le_of_ble_eq_true rfl⟩) (fl_sub hP 1 rfl) hK (va_recv hK (fl_sub hP 1 rfl) (ci := 4) (q0 := 0) rfl rfl) rfl rfl hl.1 (Nat.le_of_ble_eq_true rfl) dX6_rename_39 ⟨Nat.le_of_ble_eq_true rfl, Nat.le_of_ble_eq_true rfl⟩ ?_
      refine lv_istore (lv' := [(4, .int z_7), (3, .int z_6.1), (0, .ref (a 0 0)), (1, .int p1), (2, .int p2)]) hx hb dX6_rename_42 hl (by decide) rfl (fun ls hl => ?_)
      refine lv_aload_n hx hb dX6_rename_44 rfl (lv_at hl 2 rfl) ?_
      refine lv_iload_n hx hb dX6_rename_45 rfl (lv_at hl 4 rfl) ?_
      obtain ⟨z_8, hz_8, hf⟩ := bn_some hf
      refine cWVi (As := [.int p2]) (rest := []) ⟨hx, hb, hml, hown, hts⟩ (c_X6_folderAhead l D cI cZ cJ cT a H.size z_6.2 p2 z_8 hz_8) (cwV 1 hts gX6_rename_X6_folderAhead rfl rfl rfl (by decide +kernel) ⟨Nat.le_of_ble_eq_true rfl, Nat.le_of_ble_eq_true rfl⟩) hP hK (hDD z_6.2) hS (own_free (hDD z_6.2) hS hA) (va_recv hK (fl_sub hP 0 rfl) (ci := 6) (q0 := 0) rfl rfl) rfl rfl hl.1 (Nat.le_of_ble_eq_true rfl) dX6_rename_46 ⟨Nat.le_of_ble_eq_true rfl, Nat.le_of_ble_eq_true rfl⟩ (fun H locs hP _ hS => ?_)
      refine lv_istore (lv' := [(5, .int z_8.1), (4, .int z_7), (3, .int z_6.1), (0, .ref (a 0 0)), (1, .int p1), (2, .int p2)]) hx hb dX6_rename_49 hl (by decide) rfl (fun ls hl => ?_)
      refine lv_iload_n hx hb dX6_rename_51 rfl (lv_at hl 5 rfl) ?_
      refine lv_bipush (v := 100) hx hb dX6_rename_52 (by decide) ?_
      refine lv_irem hx hb dX6_rename_54 (by decide) ?_
      refine lv_istore (lv' := [(6, .int (p2 - p2 / 100 * 100)), (5, .int z_8.1), (4, .int z_7), (3, .int z_6.1), (0, .ref (a 0 0)), (1, .int p1), (2, .int p2)]) hx hb dX6_rename_55 hl (by decide) rfl (fun ls hl => ?_)
      refine lv_iload hx hb dX6_rename_57 (lv_at hl 2 rfl) ?_
      refine lv_iconst (v := (-1)) hx hb dX6_rename_59 (by decide) ?_
      obtain ⟨k74_9, hk74_9, hf⟩ := jn_some hf
      have j74_9 : ∀ (H : Heap) (locs : List Loc) (ls : Array Slot), k74_9 = some o → va_P D cls (wI cI cZ cT a z_8.2) H → va_S A s.heap H locs → lv_has ls 8 [] → W p l e (headSpec wsX6_rename rmX6_rename).room s m args below meth c H locs 0 0 Q (F0 m 74 ls []) := by
        intro H locs ls hf hP hS hl
        have hf := qa0 hk74_9 hf
        have eo := Option.some.inj hf
        have hP : va_P D cls (wI cI cZ cT a o.2.2) H := by rw [← eo]; exact hP
        rw [hQ]
        have hk0 : o.1 = 2 := by rw [← eo]
        exact thr o.1 (text := "no such thing or folder") (by rw [hk0]; rfl) (by rw [hk0]; decide) hx hb hst hown (by decide +kernel) (hts (.classLink RX6 74 "java/lang/IndexOutOfBoundsException") (by decide +kernel)) (hts (.initialized "java/lang/IndexOutOfBoundsException") (by decide +kernel)) (fun w h => hts w (List.mem_cons_of_mem _ (List.mem_append_left _ (List.mem_append_right _ h)))) (EX_b2 hE) ok2 (by decide +kernel) hE hS hP (hl.1.trans hml.symm) dX6_rename_74 dX6_rename_77 dX6_rename_78 dX6_rename_80 dX6_rename_83 hxt (Nat.le_of_ble_eq_true rfl) (Nat.le_of_ble_eq_true rfl) (Nat.le_of_ble_eq_true rfl) (Nat.le_of_ble_eq_true rfl) hlocks (Nat.le_of_ble_eq_true rfl) (Nat.le_of_ble_eq_true rfl)
      refine lv_icmp_eq (tgt := 74) hx hb dX6_rename_60 (by decide) (fun c_10 => ?_) (fun c_10 => ?_)
      · have hf := ite_t hf c_10
        refine W.widen (k := 0) (n := 0) (Nat.le_of_ble_eq_true rfl) (Nat.le_of_ble_eq_true rfl) ?_
        exact j74_9 _ _ _ hf hP hS (lv_sub hl [] rfl)
      · have hf := ite_f hf c_10
        refine lv_iload hx hb dX6_rename_63 (lv_at hl 1 rfl) ?_
        refine lv_iconst (v := (-1)) hx hb dX6_rename_65 (by decide) ?_
        refine lv_icmp_eq (tgt := 74) hx hb dX6_rename_66 (by decide) (fun c_11 => ?_) (fun c_11 => ?_)
        · have hf := ite_t hf c_11
          refine W.widen (k := 0) (n := 0) (Nat.le_of_ble_eq_true rfl) (Nat.le_of_ble_eq_true rfl) ?_
          exact j74_9 _ _ _ hf hP hS (lv_sub hl [] rfl)
        · have hf := ite_f hf c_11
          refine lv_iload hx hb dX6_rename_69 (lv_at hl 0 rfl) ?_
          refine lv_if_ne (tgt := 84) hx hb dX6_rename_71 (by decide) (fun c_12 => ?_) (fun c_12 => ?_)
          · have hf := ite_f hf c_12
            refine lv_aload_n hx hb dX6_rename_84 rfl (lv_at hl 4 rfl) ?_
            refine va_get (D := D) (ci := 6) (v := .ref (a 1 0)) (C := RX6) (T := TX6) (N := 11) hx hb hts i6 hown hK (fl_sub hP 0 rfl) 0 rfl rfl 0 (by decide) hk12 (fun _ h9 => h9) rfl dX6_rename_85 ?_
            refine lv_iload hx hb dX6_rename_88 (lv_at hl 1 rfl) ?_
            refine lv_iload hx hb dX6_rename_90 (lv_at hl 0 rfl) ?_
            obtain ⟨z_13, hz_13, hf⟩ := bn_some hf
            refine cRV (As := [.int z_8.1, .int (p2 - p2 / 100 * 100)]) (rest := []) ⟨hx, hb, hml, hown, hts⟩ (c_X4_thingNamed l D cI cZ cJ cT (a 1) (z_8.2 1) z_8.1 (p2 - p2 / 100 * 100) z_13 hz_13) (cwV 2 hts gX6_rename_X4_thingNamed rfl rfl rfl (by decide +kernel) ⟨Nat.le_of_ble_eq_true rfl, Nat.le_of_ble_eq_true rfl⟩) (fl_sub hP 1 rfl) hK (va_recv hK (fl_sub hP 1 rfl) (ci := 4) (q0 := 0) rfl rfl) rfl rfl hl.1 (Nat.le_of_ble_eq_true rfl) dX6_rename_92 ⟨Nat.le_of_ble_eq_true rfl, Nat.le_of_ble_eq_true rfl⟩ ?_
            refine lv_istore (lv' := [(7, .int z_13), (6, .int (p2 - p2 / 100 * 100)), (5, .int z_8.1), (4, .int z_7), (3, .int z_6.1), (0, .ref (a 0 0)), (1, .int p1), (2, .int p2)]) hx hb dX6_rename_95 hl (by decide) rfl (fun ls hl => ?_)
            refine lv_iload hx hb dX6_rename_97 (lv_at hl 0 rfl) ?_
            refine lv_iload hx hb dX6_rename_99 (lv_at hl 3 rfl) ?_
            refine lv_icmp_ne (tgt := 107) hx hb dX6_rename_101 (by decide) (fun c_14 => ?_) (fun c_14 => ?_)
            · have hf := ite_f hf c_14
              refine lv_aload_n hx hb dX6_rename_107 rfl (lv_at hl 5 rfl) ?_
              refine lv_iload hx hb dX6_rename_108 (lv_at hl 3 rfl) ?_
              refine lv_iload hx hb dX6_rename_110 (lv_at hl 2 rfl) ?_
              refine lv_iload hx hb dX6_rename_112 (lv_at hl 0 rfl) ?_
              obtain ⟨z_15, hz_15, hf⟩ := bn_some hf
              refine cRV (As := [.int z_7, .int z_8.1, .int z_13]) (rest := []) ⟨hx, hb, hml, hown, hts⟩ (c_X6_canComeTo l D cI cZ cJ cT a z_8.2 z_7 z_8.1 z_13 z_15 hz_15) (cwV 3 hts gX6_rename_X6_canComeTo rfl rfl rfl (by decide +kernel) ⟨Nat.le_of_ble_eq_true rfl, Nat.le_of_ble_eq_true rfl⟩) hP hK (va_recv hK (fl_sub hP 0 rfl) (ci := 6) (q0 := 0) rfl rfl) rfl rfl hl.1 (Nat.le_of_ble_eq_true rfl) dX6_rename_114 ⟨Nat.le_of_ble_eq_true rfl, Nat.le_of_ble_eq_true rfl⟩ ?_
              obtain ⟨k149_16, hk149_16, hf⟩ := jn_some hf
              have j149_16 : ∀ (H : Heap) (locs : List Loc) (ls : Array Slot), k149_16 = some o → va_P D cls (wI cI cZ cT a z_8.2) H → va_S A s.heap H locs → lv_has ls 8 [] → W p l e (headSpec wsX6_rename rmX6_rename).room s m args below meth c H locs 0 0 Q (F0 m 149 ls []) := by
                intro H locs ls hf hP hS hl
                have hf := qa0 hk149_16 hf
                have eo := Option.some.inj hf
                have hP : va_P D cls (wI cI cZ cT a o.2.2) H := by rw [← eo]; exact hP
                rw [hQ]
                have hk0 : o.1 = 3 := by rw [← eo]
                exact thr o.1 (text := "the thing cannot have that name") (by rw [hk0]; rfl) (by rw [hk0]; decide) hx hb hst hown (by decide +kernel) (hts (.classLink RX6 110 "java/lang/IllegalStateException") (by decide +kernel)) (hts (.initialized "java/lang/IllegalStateException") (by decide +kernel)) (fun w h => hts w (List.mem_cons_of_mem _ (List.mem_append_right _ h))) (EX_b3 hE) ok3 (by decide +kernel) hE hS hP (hl.1.trans hml.symm) dX6_rename_149 dX6_rename_152 dX6_rename_153 dX6_rename_155 dX6_rename_158 hxt (Nat.le_of_ble_eq_true rfl) (Nat.le_of_ble_eq_true rfl) (Nat.le_of_ble_eq_true rfl) (Nat.le_of_ble_eq_true rfl) hlocks (Nat.le_of_ble_eq_true rfl) (Nat.le_of_ble_eq_true rfl)
              refine lv_if_eq (tgt := 149) hx hb dX6_rename_117 (by decide) (fun c_17 => ?_) (fun c_17 => ?_)
              · have hf := ite_t hf c_17
                refine W.widen (k := 0) (n := 0) (Nat.le_of_ble_eq_true rfl) (Nat.le_of_ble_eq_true rfl) ?_
                exact j149_16 _ _ _ hf hP hS (lv_sub hl [] rfl)
              · have hf := ite_f hf c_17
                refine lv_aload_n hx hb dX6_rename_120 rfl (lv_at hl 5 rfl) ?_
                refine lv_iload_n hx hb dX6_rename_121 rfl (lv_at hl 4 rfl) ?_
                refine lv_iload hx hb dX6_rename_122 (lv_at hl 2 rfl) ?_
                refine lv_iload hx hb dX6_rename_124 (lv_at hl 0 rfl) ?_
                obtain ⟨z_18, hz_18, hf⟩ := bn_some hf
                refine cRV (As := [.int z_6.1, .int z_8.1, .int z_13]) (rest := []) ⟨hx, hb, hml, hown, hts⟩ (c_X6_hasRoomFor l D cI cZ cJ cT a z_8.2 z_6.1 z_8.1 z_13 z_18 hz_18) (cwV 3 hts gX6_rename_X6_hasRoomFor rfl rfl rfl (by decide +kernel) ⟨Nat.le_of_ble_eq_true rfl, Nat.le_of_ble_eq_true rfl⟩) hP hK (va_recv hK (fl_sub hP 0 rfl) (ci := 6) (q0 := 0) rfl rfl) rfl rfl hl.1 (Nat.le_of_ble_eq_true rfl) dX6_rename_126 ⟨Nat.le_of_ble_eq_true rfl, Nat.le_of_ble_eq_true rfl⟩ ?_
                refine lv_if_eq (tgt := 149) hx hb dX6_rename_129 (by decide) (fun c_19 => ?_) (fun c_19 => ?_)
                · have hf := ite_t hf c_19
                  refine W.widen (k := 0) (n := 0) (Nat.le_of_ble_eq_true rfl) (Nat.le_of_ble_eq_true rfl) ?_
                  exact j149_16 _ _ _ hf hP hS (lv_sub hl [] rfl)
                · have hf := ite_f hf c_19
                  refine lv_aload_n hx hb dX6_rename_132 rfl (lv_at hl 5 rfl) ?_
                  refine lv_iload_n hx hb dX6_rename_133 rfl (lv_at hl 4 rfl) ?_
                  obtain ⟨z_20, hz_20, hf⟩ := bn_some hf
                  refine cRV (As := [.int z_6.1]) (rest := []) ⟨hx, hb, hml, hown, hts⟩ (c_X6_mayWrite l D cI cZ cJ cT a z_8.2 z_6.1 z_20 hz_20) (cwV 1 hts gX6_rename_X6_mayWrite rfl rfl rfl (by decide +kernel) ⟨Nat.le_of_ble_eq_true rfl, Nat.le_of_ble_eq_true rfl⟩) hP hK (va_recv hK (fl_sub hP 0 rfl) (ci := 6) (q0 := 0) rfl rfl) rfl rfl hl.1 (Nat.le_of_ble_eq_true rfl) dX6_rename_134 ⟨Nat.le_of_ble_eq_true rfl, Nat.le_of_ble_eq_true rfl⟩ ?_
                  refine lv_if_eq (tgt := 149) hx hb dX6_rename_137 (by decide) (fun c_21 => ?_) (fun c_21 => ?_)
                  · have hf := ite_t hf c_21
                    refine W.widen (k := 0) (n := 0) (Nat.le_of_ble_eq_true rfl) (Nat.le_of_ble_eq_true rfl) ?_
                    exact j149_16 _ _ _ hf hP hS (lv_sub hl [] rfl)
                  · have hf := ite_f hf c_21
                    refine lv_aload_n hx hb dX6_rename_140 rfl (lv_at hl 5 rfl) ?_
                    refine lv_iload hx hb dX6_rename_141 (lv_at hl 2 rfl) ?_
                    obtain ⟨z_22, hz_22, hf⟩ := bn_some hf
                    refine cRV (As := [.int z_8.1]) (rest := []) ⟨hx, hb, hml, hown, hts⟩ (c_X6_mayWrite l D cI cZ cJ cT a z_8.2 z_8.1 z_22 hz_22) (cwV 1 hts gX6_rename_X6_mayWrite rfl rfl rfl (by decide +kernel) ⟨Nat.le_of_ble_eq_true rfl, Nat.le_of_ble_eq_true rfl⟩) hP hK (va_recv hK (fl_sub hP 0 rfl) (ci := 6) (q0 := 0) rfl rfl) rfl rfl hl.1 (Nat.le_of_ble_eq_true rfl) dX6_rename_143 ⟨Nat.le_of_ble_eq_true rfl, Nat.le_of_ble_eq_true rfl⟩ ?_
                    refine lv_if_ne (tgt := 159) hx hb dX6_rename_146 (by decide) (fun c_23 => ?_) (fun c_23 => ?_)
                    · have hf := ite_f hf c_23
                      refine lv_aload_n hx hb dX6_rename_159 rfl (lv_at hl 5 rfl) ?_
                      refine va_get (D := D) (ci := 6) (v := .ref (a 1 0)) (C := RX6) (T := TX6) (N := 11) hx hb hts i6 hown hK (fl_sub hP 0 rfl) 0 rfl rfl 0 (by decide) hk12 (fun _ h9 => h9) rfl dX6_rename_160 ?_
                      refine lv_iload_n hx hb dX6_rename_163 rfl (lv_at hl 4 rfl) ?_
                      refine lv_iload_n hx hb dX6_rename_164 rfl (lv_at hl 6 rfl) ?_
                      refine lv_bipush (v := 100) hx hb dX6_rename_165 (by decide) ?_
                      refine lv_irem hx hb dX6_rename_167 (by decide) ?_
                      obtain ⟨z_24, hz_24, hf⟩ := bn_some hf
                      refine cWVv (As := [.int z_6.1, .int (p1 - p1 / 100 * 100)]) (rest := []) ⟨hx, hb, hml, hown, hts⟩ (c_X4_takeEntry l D cI cZ cJ cT (a 1) H.size (z_8.2 1) z_6.1 (p1 - p1 / 100 * 100) z_24 hz_24) (cwV 2 hts gX6_rename_X4_takeEntry rfl rfl rfl (by decide +kernel) ⟨Nat.le_of_ble_eq_true rfl, Nat.le_of_ble_eq_true rfl⟩) (fl_sub hP 1 rfl) hK (fl_subD (hDD z_8.2) 1 rfl) hS (fl_free (hDD z_8.2) hS hA 1 rfl) (va_recv hK (fl_sub hP 1 rfl) (ci := 4) (q0 := 0) rfl rfl) rfl rfl hl.1 (Nat.le_of_ble_eq_true rfl) dX6_rename_168 ⟨Nat.le_of_ble_eq_true rfl, Nat.le_of_ble_eq_true rfl⟩ (fun H1 locs hP1 hk1 hS => ?_)
                      obtain ⟨u_25, hu_25, hf⟩ := bv_some hf
                      have hP : va_P D cls (wI cI cZ cT a u_25) H1 := by rw [hu_25]; exact fl_join hP (hDD z_8.2) 1 rfl hk1 hP1
                      clear hP1 hk1
                      generalize H1 = H at hP hS ⊢
                      refine lv_iload hx hb dX6_rename_171 (lv_at hl 0 rfl) ?_
                      refine lv_iconst (v := (-1)) hx hb dX6_rename_173 (by decide) ?_
                      obtain ⟨k195_26, hk195_26, hf⟩ := jn_some hf
                      have j195_26 : ∀ (u195_26_0 : S2) (H : Heap) (locs : List Loc) (ls : Array Slot), k195_26 u195_26_0 = some o → va_P D cls (wI cI cZ cT a u195_26_0) H → va_S A s.heap H locs → lv_has ls 8 [(0, .ref (a 0 0)), (4, .int z_7), (5, .int z_8.1), (6, .int (p2 - p2 / 100 * 100))] → W p l e (headSpec wsX6_rename rmX6_rename).room s m args below meth c H locs 0 0 Q (F0 m 195 ls []) := by
                        intro u195_26_0 H locs ls hf hP hS hl
                        have hf := qa1 hk195_26 hf
                        refine lv_aload_n hx hb dX6_rename_195 rfl (lv_at hl 0 rfl) ?_
                        refine va_get (D := D) (ci := 6) (v := .ref (a 1 0)) (C := RX6) (T := TX6) (N := 11) hx hb hts i6 hown hK (fl_sub hP 0 rfl) 0 rfl rfl 0 (by decide) hk12 (fun _ h9 => h9) rfl dX6_rename_196 ?_
                        refine lv_iload hx hb dX6_rename_199 (lv_at hl 2 rfl) ?_
                        refine lv_iload hx hb dX6_rename_201 (lv_at hl 3 rfl) ?_
                        refine lv_iload hx hb dX6_rename_203 (lv_at hl 1 rfl) ?_
                        obtain ⟨z_27, hz_27, hf⟩ := bn_some hf
                        refine cWVv (As := [.int z_8.1, .int (p2 - p2 / 100 * 100), .int z_7]) (rest := []) ⟨hx, hb, hml, hown, hts⟩ (c_X4_putEntry l D cI cZ cJ cT (a 1) H.size (u195_26_0 1) z_8.1 (p2 - p2 / 100 * 100) z_7 z_27 hz_27) (cwV 3 hts gX6_rename_X4_putEntry rfl rfl rfl (by decide +kernel) ⟨Nat.le_of_ble_eq_true rfl, Nat.le_of_ble_eq_true rfl⟩) (fl_sub hP 1 rfl) hK (fl_subD (hDD u195_26_0) 1 rfl) hS (fl_free (hDD u195_26_0) hS hA 1 rfl) (va_recv hK (fl_sub hP 1 rfl) (ci := 4) (q0 := 0) rfl rfl) rfl rfl hl.1 (Nat.le_of_ble_eq_true rfl) dX6_rename_205 ⟨Nat.le_of_ble_eq_true rfl, Nat.le_of_ble_eq_true rfl⟩ (fun H1 locs hP1 hk1 hS => ?_)
                        obtain ⟨u_28, hu_28, hf⟩ := bv_some hf
                        have hP : va_P D cls (wI cI cZ cT a u_28) H1 := by rw [hu_28]; exact fl_join hP (hDD u195_26_0) 1 rfl hk1 hP1
                        clear hP1 hk1
                        generalize H1 = H at hP hS ⊢
                        refine lv_iload hx hb dX6_rename_208 (lv_at hl 1 rfl) ?_
                        have eo := Option.some.inj hf
                        have hP : va_P D cls (wI cI cZ cT a o.2.2) H := by rw [← eo]; exact hP
                        rw [hQ]
                        refine W.widen (k := 1) (n := 6) (Nat.le_of_ble_eq_true rfl) (Nat.le_of_ble_eq_true rfl) ?_
                        exact vx_ret (W.iret hx hb hr (fun t ht hW => ⟨⟨_, (), rfl, ⟨(by rw [← eo]), (by rw [← eo])⟩, P_at ht hP⟩, hS.F ht⟩) hS.2.2 dX6_rename_210 hlocks)
                      refine lv_icmp_eq (tgt := 195) hx hb dX6_rename_174 (by decide) (fun c_29 => ?_) (fun c_29 => ?_)
                      · have hf := ite_t hf c_29
                        refine W.widen (k := 0) (n := 0) (Nat.le_of_ble_eq_true rfl) (Nat.le_of_ble_eq_true rfl) ?_
                        exact j195_26 _ _ _ _ hf hP hS (lv_sub hl [5, 3, 2, 1] rfl)
                      · have hf := ite_f hf c_29
                        refine lv_aload_n hx hb dX6_rename_177 rfl (lv_at hl 5 rfl) ?_
                        refine va_get (D := D) (ci := 6) (v := .ref (a 1 0)) (C := RX6) (T := TX6) (N := 11) hx hb hts i6 hown hK (fl_sub hP 0 rfl) 0 rfl rfl 0 (by decide) hk12 (fun _ h9 => h9) rfl dX6_rename_178 ?_
                        refine lv_iload hx hb dX6_rename_181 (lv_at hl 2 rfl) ?_
                        refine lv_iload hx hb dX6_rename_183 (lv_at hl 1 rfl) ?_
                        obtain ⟨z_30, hz_30, hf⟩ := bn_some hf
                        refine cWVv (As := [.int z_8.1, .int (p2 - p2 / 100 * 100)]) (rest := []) ⟨hx, hb, hml, hown, hts⟩ (c_X4_takeEntry l D cI cZ cJ cT (a 1) H.size (u_25 1) z_8.1 (p2 - p2 / 100 * 100) z_30 hz_30) (cwV 2 hts gX6_rename_X4_takeEntry rfl rfl rfl (by decide +kernel) ⟨Nat.le_of_ble_eq_true rfl, Nat.le_of_ble_eq_true rfl⟩) (fl_sub hP 1 rfl) hK (fl_subD (hDD u_25) 1 rfl) hS (fl_free (hDD u_25) hS hA 1 rfl) (va_recv hK (fl_sub hP 1 rfl) (ci := 4) (q0 := 0) rfl rfl) rfl rfl hl.1 (Nat.le_of_ble_eq_true rfl) dX6_rename_185 ⟨Nat.le_of_ble_eq_true rfl, Nat.le_of_ble_eq_true rfl⟩ (fun H1 locs hP1 hk1 hS => ?_)
                        obtain ⟨u_31, hu_31, hf⟩ := bv_some hf
                        have hP : va_P D cls (wI cI cZ cT a u_31) H1 := by rw [hu_31]; exact fl_join hP (hDD u_25) 1 rfl hk1 hP1
                        clear hP1 hk1
                        generalize H1 = H at hP hS ⊢
                        refine lv_aload_n hx hb dX6_rename_188 rfl (lv_at hl 5 rfl) ?_
                        refine lv_iload hx hb dX6_rename_189 (lv_at hl 0 rfl) ?_
                        obtain ⟨z_32, hz_32, hf⟩ := bn_some hf
                        refine cWVi (As := [.int z_13]) (rest := []) ⟨hx, hb, hml, hown, hts⟩ (c_X6_loseName l D cI cZ cJ cT a H.size u_31 z_13 z_32 hz_32) (cwV 1 hts gX6_rename_X6_loseName rfl rfl rfl (by decide +kernel) ⟨Nat.le_of_ble_eq_true rfl, Nat.le_of_ble_eq_true rfl⟩) hP hK (hDD u_31) hS (own_free (hDD u_31) hS hA) (va_recv hK (fl_sub hP 0 rfl) (ci := 6) (q0 := 0) rfl rfl) rfl rfl hl.1 (Nat.le_of_ble_eq_true rfl) dX6_rename_191 ⟨Nat.le_of_ble_eq_true rfl, Nat.le_of_ble_eq_true rfl⟩ (fun H locs hP _ hS => ?_)
                        refine lv_pop hx hb dX6_rename_194 rfl ?_
                        refine W.widen (k := 0) (n := 0) (Nat.le_of_ble_eq_true rfl) (Nat.le_of_ble_eq_true rfl) ?_
                        exact j195_26 _ _ _ _ hf hP hS (lv_sub hl [5, 3, 2, 1] rfl)
                    · have hf := ite_t hf c_23
                      refine W.widen (k := 0) (n := 0) (Nat.le_of_ble_eq_true rfl) (Nat.le_of_ble_eq_true rfl) ?_
                      exact j149_16 _ _ _ hf hP hS (lv_sub hl [] rfl)
            · have hf := ite_t hf c_14
              refine lv_iload hx hb dX6_rename_104 (lv_at hl 3 rfl) ?_
              have eo := Option.some.inj hf
              have hP : va_P D cls (wI cI cZ cT a o.2.2) H := by rw [← eo]; exact hP
              rw [hQ]
              refine W.widen (k := 1) (n := 6) (Nat.le_of_ble_eq_true rfl) (Nat.le_of_ble_eq_true rfl) ?_
              exact vx_ret (W.iret hx hb hr (fun t ht hW => ⟨⟨_, (), rfl, ⟨(by rw [← eo]), (by rw [← eo])⟩, P_at ht hP⟩, hS.F ht⟩) hS.2.2 dX6_rename_106 hlocks)
          · have hf := ite_t hf c_12
            refine W.widen (k := 0) (n := 0) (Nat.le_of_ble_eq_true rfl) (Nat.le_of_ble_eq_true rfl) ?_
            exact j74_9 _ _ _ hf hP hS (lv_sub hl [] rfl)
    · have hf := ite_t hf c_5
      refine W.widen (k := 0) (n := 0) (Nat.le_of_ble_eq_true rfl) (Nat.le_of_ble_eq_true rfl) ?_
      exact j14_2 _ _ _ hf hP hS (lv_sub hl [] rfl)
set_option maxRecDepth 20000 in
theorem ggX6_remove_X4_sizeOf : GoodIn wsX6_remove wsX4_sizeOf := goodIn_r _ [75, 47, 62, 63, 36, 64, 205, 206, 207, 208, 209, 210, 211, 212, 213, 214, 215, 216] (by decide +kernel) (by decide +kernel)
set_option maxRecDepth 20000 in
theorem gX6_remove_X4_sizeOf : GoodIn wsX6_remove (wsV RX6 154 RX4 yX4_sizeOf wsX4_sizeOf) := goodIn_app (goodIn_of _ (by decide +kernel)) ggX6_remove_X4_sizeOf
set_option maxRecDepth 20000 in
theorem ggX6_remove_X4_takeEntry : GoodIn wsX6_remove wsX4_takeEntry := goodIn_r _ [98, 47, 38, 39, 40, 36, 41, 42, 43, 44, 45, 46, 62, 63, 64, 99, 100, 101, 102, 48, 49, 50, 51, 52, 103, 104, 105, 106, 205, 206, 207, 208, 209, 210, 211, 212, 213, 214, 215, 216] (by decide +kernel) (by decide +kernel)
set_option maxRecDepth 20000 in
theorem gX6_remove_X4_takeEntry : GoodIn wsX6_remove (wsV RX6 144 RX4 yX4_takeEntry wsX4_takeEntry) := goodIn_app (goodIn_of _ (by decide +kernel)) ggX6_remove_X4_takeEntry
set_option maxRecDepth 20000 in
theorem ggX6_remove_X4_thingNamed : GoodIn wsX6_remove wsX4_thingNamed := goodIn_r _ [37, 38, 39, 40, 36, 41, 42, 43, 44, 45, 46, 47, 48, 49, 50, 51, 52, 205, 206, 207, 208, 209, 210, 211, 212, 213, 214, 215, 216] (by decide +kernel) (by decide +kernel)
set_option maxRecDepth 20000 in
theorem gX6_remove_X4_thingNamed : GoodIn wsX6_remove (wsV RX6 128 RX4 yX4_thingNamed wsX4_thingNamed) := goodIn_app (goodIn_of _ (by decide +kernel)) ggX6_remove_X4_thingNamed
set_option maxRecDepth 20000 in
theorem ggX6_remove_X6_folderAhead : GoodIn wsX6_remove wsX6_folderAhead := goodIn_r _ [16, 17, 7, 18, 19, 20, 21, 22, 23, 24, 25, 26, 27, 28, 29, 30, 31, 32, 33, 34, 35, 36, 37, 38, 39, 40, 41, 42, 43, 44, 45, 46, 47, 48, 49, 50, 51, 52, 53, 54, 55, 56, 57, 58, 59, 60, 61, 62, 63, 64, 65, 66, 67, 68, 69, 70, 192, 193, 194, 195, 196, 197, 198, 199, 200, 201, 202, 203, 204, 205, 206, 207, 208, 209, 210, 211, 212, 213, 214, 215, 216] (by decide +kernel) (by decide +kernel)
set_option maxRecDepth 20000 in
theorem gX6_remove_X6_folderAhead : GoodIn wsX6_remove (wsV RX6 97 RX6 yX6_folderAhead wsX6_folderAhead) := goodIn_app (goodIn_of _ (by decide +kernel)) ggX6_remove_X6_folderAhead
set_option maxRecDepth 20000 in
theorem ggX6_remove_X6_isNewPath : GoodIn wsX6_remove wsX6_isNewPath := goodIn_r _ [11, 12] (by decide +kernel) (by decide +kernel)
set_option maxRecDepth 20000 in
theorem gX6_remove_X6_isNewPath : GoodIn wsX6_remove (va_wsS RX6 85 yX6_isNewPath wsX6_isNewPath) := goodIn_app (goodIn_of _ (by decide +kernel)) ggX6_remove_X6_isNewPath
set_option maxRecDepth 20000 in
theorem ggX6_remove_X6_loseName : GoodIn wsX6_remove wsX6_loseName := goodIn_r _ [110, 7, 70, 54, 55, 36, 56, 57, 58, 59, 60, 61, 62, 63, 64, 111, 112, 113, 10, 114, 115, 116, 117, 118, 119, 120, 121, 122, 123, 124, 125, 126, 127, 128, 129, 130, 131, 132, 133, 134, 135, 136, 137, 138, 139, 140, 141, 142, 143, 144, 145, 47, 146, 147, 148, 149, 150, 151, 152, 153, 154, 155, 156, 157, 158, 159, 160, 161, 162, 163, 164, 165, 166, 167, 168, 169, 170, 171, 172, 173, 174, 175, 176, 177, 178, 179, 180, 181, 182, 183, 184, 185, 186, 187, 188, 189, 190, 191, 192, 193, 194, 195, 196, 197, 198, 199, 200, 201, 202, 205, 206, 207, 208, 209, 210, 211, 212, 213, 214, 215, 216, 217, 218, 219, 220, 221, 222, 223, 224] (by decide +kernel) (by decide +kernel)
set_option maxRecDepth 20000 in
theorem gX6_remove_X6_loseName : GoodIn wsX6_remove (wsV RX6 147 RX6 yX6_loseName wsX6_loseName) := goodIn_app (goodIn_of _ (by decide +kernel)) ggX6_remove_X6_loseName
set_option maxRecDepth 20000 in
theorem ggX6_remove_X6_mayWrite : GoodIn wsX6_remove wsX6_mayWrite := goodIn_r _ [79, 80, 81, 82, 10, 83, 84, 7, 85, 86, 87, 36, 88, 89, 62, 63, 64, 90, 91, 92, 93, 94, 192, 193, 194, 195, 196, 197, 198, 199, 200, 201, 202, 205, 206, 207, 208, 209, 210, 211, 212, 213, 214, 215, 216] (by decide +kernel) (by decide +kernel)
set_option maxRecDepth 20000 in
theorem gX6_remove_X6_mayWrite : GoodIn wsX6_remove (wsV RX6 139 RX6 yX6_mayWrite wsX6_mayWrite) := goodIn_app (goodIn_of _ (by decide +kernel)) ggX6_remove_X6_mayWrite
theorem dX6_remove_0 : decode cX6_remove 0 = .ok (.iload_n 1, 1) := by decide +kernel
theorem dX6_remove_1 : decode cX6_remove 1 = .ok (.invokestatic 85, 3) := by decide +kernel
theorem dX6_remove_4 : decode cX6_remove 4 = .ok (.ifCond .ne 13, 3) := by decide +kernel
theorem dX6_remove_7 : decode cX6_remove 7 = .ok (.new 88, 3) := by decide +kernel
theorem dX6_remove_10 : decode cX6_remove 10 = .ok (.dup, 1) := by decide +kernel
theorem dX6_remove_11 : decode cX6_remove 11 = .ok (.ldc 150, 2) := by decide +kernel
theorem dX6_remove_13 : decode cX6_remove 13 = .ok (.invokespecial 92, 3) := by decide +kernel
theorem dX6_remove_16 : decode cX6_remove 16 = .ok (.athrow, 1) := by decide +kernel
theorem dX6_remove_17 : decode cX6_remove 17 = .ok (.aload_n 0, 1) := by decide +kernel
theorem dX6_remove_18 : decode cX6_remove 18 = .ok (.iload_n 1, 1) := by decide +kernel
theorem dX6_remove_19 : decode cX6_remove 19 = .ok (.invokevirtual 97, 3) := by decide +kernel
theorem dX6_remove_22 : decode cX6_remove 22 = .ok (.istore_n 2, 1) := by decide +kernel
theorem dX6_remove_23 : decode cX6_remove 23 = .ok (.iload_n 1, 1) := by decide +kernel
theorem dX6_remove_24 : decode cX6_remove 24 = .ok (.bipush 100, 2) := by decide +kernel
theorem dX6_remove_26 : decode cX6_remove 26 = .ok (.irem, 1) := by decide +kernel
theorem dX6_remove_27 : decode cX6_remove 27 = .ok (.istore_n 3, 1) := by decide +kernel
theorem dX6_remove_28 : decode cX6_remove 28 = .ok (.aload_n 0, 1) := by decide +kernel
theorem dX6_remove_29 : decode cX6_remove 29 = .ok (.getfield 12, 3) := by decide +kernel
theorem dX6_remove_32 : decode cX6_remove 32 = .ok (.iload_n 2, 1) := by decide +kernel
theorem dX6_remove_33 : decode cX6_remove 33 = .ok (.iload_n 3, 1) := by decide +kernel
theorem dX6_remove_34 : decode cX6_remove 34 = .ok (.invokevirtual 128, 3) := by decide +kernel
theorem dX6_remove_37 : decode cX6_remove 37 = .ok (.istore 4, 2) := by decide +kernel
theorem dX6_remove_39 : decode cX6_remove 39 = .ok (.iload 4, 2) := by decide +kernel
theorem dX6_remove_41 : decode cX6_remove 41 = .ok (.iconst (-1), 1) := by decide +kernel
theorem dX6_remove_42 : decode cX6_remove 42 = .ok (.if_icmp .ne 13, 3) := by decide +kernel
theorem dX6_remove_45 : decode cX6_remove 45 = .ok (.new 74, 3) := by decide +kernel
theorem dX6_remove_48 : decode cX6_remove 48 = .ok (.dup, 1) := by decide +kernel
theorem dX6_remove_49 : decode cX6_remove 49 = .ok (.ldc 152, 2) := by decide +kernel
theorem dX6_remove_51 : decode cX6_remove 51 = .ok (.invokespecial 78, 3) := by decide +kernel
theorem dX6_remove_54 : decode cX6_remove 54 = .ok (.athrow, 1) := by decide +kernel
theorem dX6_remove_55 : decode cX6_remove 55 = .ok (.aload_n 0, 1) := by decide +kernel
theorem dX6_remove_56 : decode cX6_remove 56 = .ok (.getfield 12, 3) := by decide +kernel
theorem dX6_remove_59 : decode cX6_remove 59 = .ok (.iload 4, 2) := by decide +kernel
theorem dX6_remove_61 : decode cX6_remove 61 = .ok (.invokevirtual 154, 3) := by decide +kernel
theorem dX6_remove_64 : decode cX6_remove 64 = .ok (.ifCond .gt 11, 3) := by decide +kernel
theorem dX6_remove_67 : decode cX6_remove 67 = .ok (.aload_n 0, 1) := by decide +kernel
theorem dX6_remove_68 : decode cX6_remove 68 = .ok (.iload_n 2, 1) := by decide +kernel
theorem dX6_remove_69 : decode cX6_remove 69 = .ok (.invokevirtual 139, 3) := by decide +kernel
theorem dX6_remove_72 : decode cX6_remove 72 = .ok (.ifCond .ne 13, 3) := by decide +kernel
theorem dX6_remove_75 : decode cX6_remove 75 = .ok (.new 110, 3) := by decide +kernel
theorem dX6_remove_78 : decode cX6_remove 78 = .ok (.dup, 1) := by decide +kernel
theorem dX6_remove_79 : decode cX6_remove 79 = .ok (.ldc 157, 2) := by decide +kernel
theorem dX6_remove_81 : decode cX6_remove 81 = .ok (.invokespecial 114, 3) := by decide +kernel
theorem dX6_remove_84 : decode cX6_remove 84 = .ok (.athrow, 1) := by decide +kernel
theorem dX6_remove_85 : decode cX6_remove 85 = .ok (.aload_n 0, 1) := by decide +kernel
theorem dX6_remove_86 : decode cX6_remove 86 = .ok (.getfield 12, 3) := by decide +kernel
theorem dX6_remove_89 : decode cX6_remove 89 = .ok (.iload_n 2, 1) := by decide +kernel
theorem dX6_remove_90 : decode cX6_remove 90 = .ok (.iload_n 3, 1) := by decide +kernel
theorem dX6_remove_91 : decode cX6_remove 91 = .ok (.invokevirtual 144, 3) := by decide +kernel
theorem dX6_remove_94 : decode cX6_remove 94 = .ok (.aload_n 0, 1) := by decide +kernel
theorem dX6_remove_95 : decode cX6_remove 95 = .ok (.iload 4, 2) := by decide +kernel
theorem dX6_remove_97 : decode cX6_remove 97 = .ok (.invokevirtual 147, 3) := by decide +kernel
theorem dX6_remove_100 : decode cX6_remove 100 = .ok (.ireturn, 1) := by decide +kernel
def f_X6_remove (U : S2) (p1 : Int32) : Option (Nat × Int32 × S2) := bn (f_X6_isNewPath p1) (fun z_1 => if z_1 = 0 then some (1, 0, U) else bn (f_X6_folderAhead U p1) (fun z_3 => bn (f_X4_thingNamed (z_3.2 1) z_3.1 (p1 - p1 / 100 * 100)) (fun z_4 => if z_4 = (-1) then some (2, 0, z_3.2) else bn (f_X4_sizeOf (z_3.2 1) z_4) (fun z_6 => jn (some (3, 0, z_3.2)) (fun k75_7 => if 0 < z_6 then k75_7 else bn (f_X6_mayWrite z_3.2 z_3.1) (fun z_9 => if z_9 = 0 then k75_7 else bn (f_X4_takeEntry (z_3.2 1) z_3.1 (p1 - p1 / 100 * 100)) (fun z_11 => bv (upc z_3.2 1 z_11) (fun u_12 => bn (f_X6_loseName u_12 z_4) (fun z_13 => some (0, vp_nar .boolean z_13.1, z_13.2))))))))))
def rmX6_remove : Room := { frames := 6, cells := 1, slots := 6, locals := 131 }
set_option maxHeartbeats 4000000 in
set_option maxRecDepth 100000 in
theorem c_X6_remove (l : Launch) (hst : l.stackTraces = false) (D : va_G) (cI cZ cJ cT : ClassId) (a : Nat → Nat → Nat) (sz : Nat) (U : S2) (p1 : Int32) (o : Nat × Int32 × S2) (hf : f_X6_remove U p1 = some o) : vx_Met l yX6_remove wsX6_remove rmX6_remove (va_Pc [.ref (a 0 0), .int p1] (PX D cls (tys cI cZ cJ cT) (wI cI cZ cT a U) sz)) (QXi D cls o.1 o.2.1 (wI cI cZ cT a o.2.2) (va_A (wI cI cZ cT a U) sz)) (XX D cls o.1 (wI cI cZ cT a o.2.2) (va_A (wI cI cZ cT a U) sz)) 1 6 (va_A (wI cI cZ cT a U) sz) := by
  refine vx_ofW (cc := cX6_remove) (maxL := 5) (ret := (some .boolean)) (by decide) rfl ?_
  intro p e s m args below meth c s₁ B hml hxt hv
  obtain ⟨hav, ⟨hsz, hP, hK, hD0⟩, hE⟩ := hv
  have hx := B.exec
  have hb := B.bytes
  have hr := B.returns
  have hlocks := B.notSynchronized
  have hts := atoms_spec (ws := wsX6_remove) B.pre
  have hown : s.vm.findClass RX6 = some m.cls := findClass_of_methodNamed B.named
  have i6 : ∀ w ∈ wsX60, w ∈ wsX6_remove := fun w h => List.mem_cons_of_mem _ (List.mem_append_left _ (List.mem_append_left _ (List.mem_append_left _ (List.mem_append_left _ (List.mem_append_left _ (List.mem_append_left _ (List.mem_append_left _ (List.mem_append_right _ h))))))))
  have hk12 := hts (.fieldLink RX6 12 "Inodery" "now" "LInodery$Tree;") (by decide +kernel)
  subst hsz
  have hD := hD0.self (sz := s.heap.size)
  generalize hAe : va_A (wI cI cZ cT a U) s.heap.size = A at hD hE ⊢
  have hA : ∀ q : Nat, s.heap.size ≤ q → A q := fun q h => by rw [← hAe]; exact Or.inr h
  have hS : va_S A s.heap s.heap [] := va_S.rf
  have hDD : ∀ V : S2, va_D A (wI cI cZ cT a V) := fun _ => D_same (w := (wI cI cZ cT a U)) rfl hD
  refine Wq (fun Q hQ => ?_)
  refine W_entry hav (Nat.le_of_ble_eq_true rfl) (fun ls hl => ?_)
  have hl : lv_has ls 5 [(0, .ref (a 0 0)), (1, .int p1)] := hl
  unfold f_X6_remove at hf
  refine W_heap hP hS (fun H locs hP hS => ?_)
  refine lv_iload_n hx hb dX6_remove_0 rfl (lv_at hl 1 rfl) ?_
  obtain ⟨z_1, hz_1, hf⟩ := bn_some hf
  refine c0S (As := [.int p1]) (rest := []) ⟨hx, hb, hml, hown, hts⟩ (c_X6_isNewPath l D cI cZ cJ cT p1 z_1 hz_1) (va_cwS 1 hts gX6_remove_X6_isNewPath rfl rfl rfl (by decide +kernel) ⟨Nat.le_of_ble_eq_true rfl, Nat.le_of_ble_eq_true rfl⟩) rfl rfl hl.1 (Nat.le_of_ble_eq_true rfl) dX6_remove_1 ⟨Nat.le_of_ble_eq_true rfl, Nat.le_of_ble_eq_true rfl⟩ ?_
  refine lv_if_ne (tgt := 17) hx hb dX6_remove_4 (by decide) (fun c_2 => ?_) (fun c_2 => ?_)
  · have hf := ite_f hf c_2
    refine lv_aload_n hx hb dX6_remove_17 rfl (lv_at hl 0 rfl) ?_
    refine lv_iload_n hx hb dX6_remove_18 rfl (lv_at hl 1 rfl) ?_
    obtain ⟨z_3, hz_3, hf⟩ := bn_some hf
    refine cWVi (As := [.int p1]) (rest := []) ⟨hx, hb, hml, hown, hts⟩ (c_X6_folderAhead l D cI cZ cJ cT a H.size U p1 z_3 hz_3) (cwV 1 hts gX6_remove_X6_folderAhead rfl rfl rfl (by decide +kernel) ⟨Nat.le_of_ble_eq_true rfl, Nat.le_of_ble_eq_true rfl⟩) hP hK (hDD U) hS (own_free (hDD U) hS hA) (va_recv hK (fl_sub hP 0 rfl) (ci := 6) (q0 := 0) rfl rfl) rfl rfl hl.1 (Nat.le_of_ble_eq_true rfl) dX6_remove_19 ⟨Nat.le_of_ble_eq_true rfl, Nat.le_of_ble_eq_true rfl⟩ (fun H locs hP _ hS => ?_)
    refine lv_istore_n (lv' := [(2, .int z_3.1), (0, .ref (a 0 0)), (1, .int p1)]) hx hb dX6_remove_22 rfl hl (by decide) rfl (fun ls hl => ?_)
    refine lv_iload_n hx hb dX6_remove_23 rfl (lv_at hl 2 rfl) ?_
    refine lv_bipush (v := 100) hx hb dX6_remove_24 (by decide) ?_
    refine lv_irem hx hb dX6_remove_26 (by decide) ?_
    refine lv_istore_n (lv' := [(3, .int (p1 - p1 / 100 * 100)), (2, .int z_3.1), (0, .ref (a 0 0)), (1, .int p1)]) hx hb dX6_remove_27 rfl hl (by decide) rfl (fun ls hl => ?_)
    refine lv_aload_n hx hb dX6_remove_28 rfl (lv_at hl 2 rfl) ?_
    refine va_get (D := D) (ci := 6) (v := .ref (a 1 0)) (C := RX6) (T := TX6) (N := 11) hx hb hts i6 hown hK (fl_sub hP 0 rfl) 0 rfl rfl 0 (by decide) hk12 (fun _ h9 => h9) rfl dX6_remove_29 ?_
    refine lv_iload_n hx hb dX6_remove_32 rfl (lv_at hl 1 rfl) ?_
    refine lv_iload_n hx hb dX6_remove_33 rfl (lv_at hl 0 rfl) ?_
    obtain ⟨z_4, hz_4, hf⟩ := bn_some hf
    refine cRV (As := [.int z_3.1, .int (p1 - p1 / 100 * 100)]) (rest := []) ⟨hx, hb, hml, hown, hts⟩ (c_X4_thingNamed l D cI cZ cJ cT (a 1) (z_3.2 1) z_3.1 (p1 - p1 / 100 * 100) z_4 hz_4) (cwV 2 hts gX6_remove_X4_thingNamed rfl rfl rfl (by decide +kernel) ⟨Nat.le_of_ble_eq_true rfl, Nat.le_of_ble_eq_true rfl⟩) (fl_sub hP 1 rfl) hK (va_recv hK (fl_sub hP 1 rfl) (ci := 4) (q0 := 0) rfl rfl) rfl rfl hl.1 (Nat.le_of_ble_eq_true rfl) dX6_remove_34 ⟨Nat.le_of_ble_eq_true rfl, Nat.le_of_ble_eq_true rfl⟩ ?_
    refine lv_istore (lv' := [(4, .int z_4), (3, .int (p1 - p1 / 100 * 100)), (2, .int z_3.1), (0, .ref (a 0 0)), (1, .int p1)]) hx hb dX6_remove_37 hl (by decide) rfl (fun ls hl => ?_)
    refine lv_iload hx hb dX6_remove_39 (lv_at hl 0 rfl) ?_
    refine lv_iconst (v := (-1)) hx hb dX6_remove_41 (by decide) ?_
    refine lv_icmp_ne (tgt := 55) hx hb dX6_remove_42 (by decide) (fun c_5 => ?_) (fun c_5 => ?_)
    · have hf := ite_f hf c_5
      refine lv_aload_n hx hb dX6_remove_55 rfl (lv_at hl 3 rfl) ?_
      refine va_get (D := D) (ci := 6) (v := .ref (a 1 0)) (C := RX6) (T := TX6) (N := 11) hx hb hts i6 hown hK (fl_sub hP 0 rfl) 0 rfl rfl 0 (by decide) hk12 (fun _ h9 => h9) rfl dX6_remove_56 ?_
      refine lv_iload hx hb dX6_remove_59 (lv_at hl 0 rfl) ?_
      obtain ⟨z_6, hz_6, hf⟩ := bn_some hf
      refine cRV (As := [.int z_4]) (rest := []) ⟨hx, hb, hml, hown, hts⟩ (c_X4_sizeOf l D cI cZ cJ cT (a 1) (z_3.2 1) z_4 z_6 hz_6) (cwV 1 hts gX6_remove_X4_sizeOf rfl rfl rfl (by decide +kernel) ⟨Nat.le_of_ble_eq_true rfl, Nat.le_of_ble_eq_true rfl⟩) (fl_sub hP 1 rfl) hK (va_recv hK (fl_sub hP 1 rfl) (ci := 4) (q0 := 0) rfl rfl) rfl rfl hl.1 (Nat.le_of_ble_eq_true rfl) dX6_remove_61 ⟨Nat.le_of_ble_eq_true rfl, Nat.le_of_ble_eq_true rfl⟩ ?_
      obtain ⟨k75_7, hk75_7, hf⟩ := jn_some hf
      have j75_7 : ∀ (H : Heap) (locs : List Loc) (ls : Array Slot), k75_7 = some o → va_P D cls (wI cI cZ cT a z_3.2) H → va_S A s.heap H locs → lv_has ls 5 [] → W p l e (headSpec wsX6_remove rmX6_remove).room s m args below meth c H locs 0 0 Q (F0 m 75 ls []) := by
        intro H locs ls hf hP hS hl
        have hf := qa0 hk75_7 hf
        have eo := Option.some.inj hf
        have hP : va_P D cls (wI cI cZ cT a o.2.2) H := by rw [← eo]; exact hP
        rw [hQ]
        have hk0 : o.1 = 3 := by rw [← eo]
        exact thr o.1 (text := "a folder with entries, or the user may not") (by rw [hk0]; rfl) (by rw [hk0]; decide) hx hb hst hown (by decide +kernel) (hts (.classLink RX6 110 "java/lang/IllegalStateException") (by decide +kernel)) (hts (.initialized "java/lang/IllegalStateException") (by decide +kernel)) (fun w h => hts w (List.mem_cons_of_mem _ (List.mem_append_right _ h))) (EX_b3 hE) ok3 (by decide +kernel) hE hS hP (hl.1.trans hml.symm) dX6_remove_75 dX6_remove_78 dX6_remove_79 dX6_remove_81 dX6_remove_84 hxt (Nat.le_of_ble_eq_true rfl) (Nat.le_of_ble_eq_true rfl) (Nat.le_of_ble_eq_true rfl) (Nat.le_of_ble_eq_true rfl) hlocks (Nat.le_of_ble_eq_true rfl) (Nat.le_of_ble_eq_true rfl)
      refine lv_if_gt (tgt := 75) hx hb dX6_remove_64 (by decide) (fun c_8 => ?_) (fun c_8 => ?_)
      · have hf := ite_t hf c_8
        refine W.widen (k := 0) (n := 0) (Nat.le_of_ble_eq_true rfl) (Nat.le_of_ble_eq_true rfl) ?_
        exact j75_7 _ _ _ hf hP hS (lv_sub hl [] rfl)
      · have hf := ite_f hf c_8
        refine lv_aload_n hx hb dX6_remove_67 rfl (lv_at hl 3 rfl) ?_
        refine lv_iload_n hx hb dX6_remove_68 rfl (lv_at hl 2 rfl) ?_
        obtain ⟨z_9, hz_9, hf⟩ := bn_some hf
        refine cRV (As := [.int z_3.1]) (rest := []) ⟨hx, hb, hml, hown, hts⟩ (c_X6_mayWrite l D cI cZ cJ cT a z_3.2 z_3.1 z_9 hz_9) (cwV 1 hts gX6_remove_X6_mayWrite rfl rfl rfl (by decide +kernel) ⟨Nat.le_of_ble_eq_true rfl, Nat.le_of_ble_eq_true rfl⟩) hP hK (va_recv hK (fl_sub hP 0 rfl) (ci := 6) (q0 := 0) rfl rfl) rfl rfl hl.1 (Nat.le_of_ble_eq_true rfl) dX6_remove_69 ⟨Nat.le_of_ble_eq_true rfl, Nat.le_of_ble_eq_true rfl⟩ ?_
        refine lv_if_ne (tgt := 85) hx hb dX6_remove_72 (by decide) (fun c_10 => ?_) (fun c_10 => ?_)
        · have hf := ite_f hf c_10
          refine lv_aload_n hx hb dX6_remove_85 rfl (lv_at hl 3 rfl) ?_
          refine va_get (D := D) (ci := 6) (v := .ref (a 1 0)) (C := RX6) (T := TX6) (N := 11) hx hb hts i6 hown hK (fl_sub hP 0 rfl) 0 rfl rfl 0 (by decide) hk12 (fun _ h9 => h9) rfl dX6_remove_86 ?_
          refine lv_iload_n hx hb dX6_remove_89 rfl (lv_at hl 2 rfl) ?_
          refine lv_iload_n hx hb dX6_remove_90 rfl (lv_at hl 1 rfl) ?_
          obtain ⟨z_11, hz_11, hf⟩ := bn_some hf
          refine cWVv (As := [.int z_3.1, .int (p1 - p1 / 100 * 100)]) (rest := []) ⟨hx, hb, hml, hown, hts⟩ (c_X4_takeEntry l D cI cZ cJ cT (a 1) H.size (z_3.2 1) z_3.1 (p1 - p1 / 100 * 100) z_11 hz_11) (cwV 2 hts gX6_remove_X4_takeEntry rfl rfl rfl (by decide +kernel) ⟨Nat.le_of_ble_eq_true rfl, Nat.le_of_ble_eq_true rfl⟩) (fl_sub hP 1 rfl) hK (fl_subD (hDD z_3.2) 1 rfl) hS (fl_free (hDD z_3.2) hS hA 1 rfl) (va_recv hK (fl_sub hP 1 rfl) (ci := 4) (q0 := 0) rfl rfl) rfl rfl hl.1 (Nat.le_of_ble_eq_true rfl) dX6_remove_91 ⟨Nat.le_of_ble_eq_true rfl, Nat.le_of_ble_eq_true rfl⟩ (fun H1 locs hP1 hk1 hS => ?_)
          obtain ⟨u_12, hu_12, hf⟩ := bv_some hf
          have hP : va_P D cls (wI cI cZ cT a u_12) H1 := by rw [hu_12]; exact fl_join hP (hDD z_3.2) 1 rfl hk1 hP1
          clear hP1 hk1
          generalize H1 = H at hP hS ⊢
          refine lv_aload_n hx hb dX6_remove_94 rfl (lv_at hl 3 rfl) ?_
          refine lv_iload hx hb dX6_remove_95 (lv_at hl 0 rfl) ?_
          obtain ⟨z_13, hz_13, hf⟩ := bn_some hf
          refine cWVi (As := [.int z_4]) (rest := []) ⟨hx, hb, hml, hown, hts⟩ (c_X6_loseName l D cI cZ cJ cT a H.size u_12 z_4 z_13 hz_13) (cwV 1 hts gX6_remove_X6_loseName rfl rfl rfl (by decide +kernel) ⟨Nat.le_of_ble_eq_true rfl, Nat.le_of_ble_eq_true rfl⟩) hP hK (hDD u_12) hS (own_free (hDD u_12) hS hA) (va_recv hK (fl_sub hP 0 rfl) (ci := 6) (q0 := 0) rfl rfl) rfl rfl hl.1 (Nat.le_of_ble_eq_true rfl) dX6_remove_97 ⟨Nat.le_of_ble_eq_true rfl, Nat.le_of_ble_eq_true rfl⟩ (fun H locs hP _ hS => ?_)
          have eo := Option.some.inj hf
          have hP : va_P D cls (wI cI cZ cT a o.2.2) H := by rw [← eo]; exact hP
          rw [hQ]
          refine W.widen (k := 1) (n := 6) (Nat.le_of_ble_eq_true rfl) (Nat.le_of_ble_eq_true rfl) ?_
          exact vx_ret (zretN (v := z_13.1) (v' := vp_nar .boolean z_13.1) hx hb hr rfl (fun t ht hW => ⟨⟨_, (), rfl, ⟨(by rw [← eo]), (by rw [← eo])⟩, P_at ht hP⟩, hS.F ht⟩) hS.2.2 dX6_remove_100 hlocks)
        · have hf := ite_t hf c_10
          refine W.widen (k := 0) (n := 0) (Nat.le_of_ble_eq_true rfl) (Nat.le_of_ble_eq_true rfl) ?_
          exact j75_7 _ _ _ hf hP hS (lv_sub hl [] rfl)
    · have hf := ite_t hf c_5
      have eo := Option.some.inj hf
      have hP : va_P D cls (wI cI cZ cT a o.2.2) H := by rw [← eo]; exact hP
      rw [hQ]
      have hk0 : o.1 = 2 := by rw [← eo]
      exact thr o.1 (text := "no such thing") (by rw [hk0]; rfl) (by rw [hk0]; decide) hx hb hst hown (by decide +kernel) (hts (.classLink RX6 74 "java/lang/IndexOutOfBoundsException") (by decide +kernel)) (hts (.initialized "java/lang/IndexOutOfBoundsException") (by decide +kernel)) (fun w h => hts w (List.mem_cons_of_mem _ (List.mem_append_left _ (List.mem_append_right _ h)))) (EX_b2 hE) ok2 (by decide +kernel) hE hS hP (hl.1.trans hml.symm) dX6_remove_45 dX6_remove_48 dX6_remove_49 dX6_remove_51 dX6_remove_54 hxt (Nat.le_of_ble_eq_true rfl) (Nat.le_of_ble_eq_true rfl) (Nat.le_of_ble_eq_true rfl) (Nat.le_of_ble_eq_true rfl) hlocks (Nat.le_of_ble_eq_true rfl) (Nat.le_of_ble_eq_true rfl)
  · have hf := ite_t hf c_2
    have eo := Option.some.inj hf
    have hP : va_P D cls (wI cI cZ cT a o.2.2) H := by rw [← eo]; exact hP
    rw [hQ]
    have hk0 : o.1 = 1 := by rw [← eo]
    exact thr o.1 (text := "path is out of range") (by rw [hk0]; rfl) (by rw [hk0]; decide) hx hb hst hown (by decide +kernel) (hts (.classLink RX6 88 "java/lang/IllegalArgumentException") (by decide +kernel)) (hts (.initialized "java/lang/IllegalArgumentException") (by decide +kernel)) (fun w h => hts w (List.mem_cons_of_mem _ (List.mem_append_left _ (List.mem_append_left _ (List.mem_append_right _ h))))) (EX_b1 hE) ok1 (by decide +kernel) hE hS hP (hl.1.trans hml.symm) dX6_remove_7 dX6_remove_10 dX6_remove_11 dX6_remove_13 dX6_remove_16 hxt (Nat.le_of_ble_eq_true rfl) (Nat.le_of_ble_eq_true rfl) (Nat.le_of_ble_eq_true rfl) (Nat.le_of_ble_eq_true rfl) hlocks (Nat.le_of_ble_eq_true rfl) (Nat.le_of_ble_eq_true rfl)
set_option maxRecDepth 20000 in
theorem ggX6_rights_X4_ownerOf : GoodIn wsX6_rights wsX4_ownerOf := goodIn_r _ [73, 74, 62, 63, 36, 64, 97, 98, 99, 100, 101, 102, 103, 104, 105, 106, 107, 108] (by decide +kernel) (by decide +kernel)
set_option maxRecDepth 20000 in
theorem gX6_rights_X4_ownerOf : GoodIn wsX6_rights (wsV RX6 167 RX4 yX4_ownerOf wsX4_ownerOf) := goodIn_app (goodIn_of _ (by decide +kernel)) ggX6_rights_X4_ownerOf
set_option maxRecDepth 20000 in
theorem ggX6_rights_X4_rightsOf : GoodIn wsX6_rights wsX4_rightsOf := goodIn_r _ [78, 79, 62, 63, 36, 64, 97, 98, 99, 100, 101, 102, 103, 104, 105, 106, 107, 108] (by decide +kernel) (by decide +kernel)
set_option maxRecDepth 20000 in
theorem gX6_rights_X4_rightsOf : GoodIn wsX6_rights (wsV RX6 172 RX4 yX4_rightsOf wsX4_rightsOf) := goodIn_app (goodIn_of _ (by decide +kernel)) ggX6_rights_X4_rightsOf
set_option maxRecDepth 20000 in
theorem ggX6_rights_X4_setRights : GoodIn wsX6_rights wsX4_setRights := goodIn_r _ [83, 79, 62, 63, 36, 64, 97, 98, 99, 100, 101, 102, 103, 104, 105, 106, 107, 108] (by decide +kernel) (by decide +kernel)
set_option maxRecDepth 20000 in
theorem gX6_rights_X4_setRights : GoodIn wsX6_rights (wsV RX6 175 RX4 yX4_setRights wsX4_setRights) := goodIn_app (goodIn_of _ (by decide +kernel)) ggX6_rights_X4_setRights
set_option maxRecDepth 20000 in
theorem ggX6_rights_X5_thingAt : GoodIn wsX6_rights wsX5_thingAt := goodIn_r _ [22, 23, 24, 25, 26, 21, 27, 28, 29, 30, 31, 32, 33, 34, 35, 36, 37, 38, 39, 40, 41, 42, 43, 44, 45, 46, 47, 48, 49, 50, 51, 52, 53, 54, 55, 56, 57, 58, 59, 60, 61, 62, 63, 64, 65, 66, 67, 68, 69, 95, 96, 97, 98, 99, 100, 101, 102, 103, 104, 105, 106, 107, 108] (by decide +kernel) (by decide +kernel)
set_option maxRecDepth 20000 in
theorem gX6_rights_X5_thingAt : GoodIn wsX6_rights (wsV RX6 93 RX5 yX5_thingAt wsX5_thingAt) := goodIn_app (goodIn_of _ (by decide +kernel)) ggX6_rights_X5_thingAt
set_option maxRecDepth 20000 in
theorem ggX6_rights_X6_isPath : GoodIn wsX6_rights wsX6_isPath := goodIn_r _ [13, 14] (by decide +kernel) (by decide +kernel)
set_option maxRecDepth 20000 in
theorem gX6_rights_X6_isPath : GoodIn wsX6_rights (va_wsS RX6 159 yX6_isPath wsX6_isPath) := goodIn_app (goodIn_of _ (by decide +kernel)) ggX6_rights_X6_isPath
set_option maxRecDepth 20000 in
theorem ggX6_rights_X6_isRights : GoodIn wsX6_rights wsX6_isRights := goodIn_r _ [17] (by decide +kernel) (by decide +kernel)
set_option maxRecDepth 20000 in
theorem gX6_rights_X6_isRights : GoodIn wsX6_rights (va_wsS RX6 162 yX6_isRights wsX6_isRights) := goodIn_app (goodIn_of _ (by decide +kernel)) ggX6_rights_X6_isRights
theorem dX6_rights_0 : decode cX6_rights 0 = .ok (.iload_n 1, 1) := by decide +kernel
theorem dX6_rights_1 : decode cX6_rights 1 = .ok (.invokestatic 159, 3) := by decide +kernel
theorem dX6_rights_4 : decode cX6_rights 4 = .ok (.ifCond .eq 10, 3) := by decide +kernel
theorem dX6_rights_7 : decode cX6_rights 7 = .ok (.iload_n 2, 1) := by decide +kernel
theorem dX6_rights_8 : decode cX6_rights 8 = .ok (.invokestatic 162, 3) := by decide +kernel
theorem dX6_rights_11 : decode cX6_rights 11 = .ok (.ifCond .ne 13, 3) := by decide +kernel
theorem dX6_rights_14 : decode cX6_rights 14 = .ok (.new 88, 3) := by decide +kernel
theorem dX6_rights_17 : decode cX6_rights 17 = .ok (.dup, 1) := by decide +kernel
theorem dX6_rights_18 : decode cX6_rights 18 = .ok (.ldc 165, 2) := by decide +kernel
theorem dX6_rights_20 : decode cX6_rights 20 = .ok (.invokespecial 92, 3) := by decide +kernel
theorem dX6_rights_23 : decode cX6_rights 23 = .ok (.athrow, 1) := by decide +kernel
theorem dX6_rights_24 : decode cX6_rights 24 = .ok (.aload_n 0, 1) := by decide +kernel
theorem dX6_rights_25 : decode cX6_rights 25 = .ok (.getfield 30, 3) := by decide +kernel
theorem dX6_rights_28 : decode cX6_rights 28 = .ok (.aload_n 0, 1) := by decide +kernel
theorem dX6_rights_29 : decode cX6_rights 29 = .ok (.getfield 12, 3) := by decide +kernel
theorem dX6_rights_32 : decode cX6_rights 32 = .ok (.iload_n 1, 1) := by decide +kernel
theorem dX6_rights_33 : decode cX6_rights 33 = .ok (.iconst 1, 1) := by decide +kernel
theorem dX6_rights_34 : decode cX6_rights 34 = .ok (.invokevirtual 93, 3) := by decide +kernel
theorem dX6_rights_37 : decode cX6_rights 37 = .ok (.istore_n 3, 1) := by decide +kernel
theorem dX6_rights_38 : decode cX6_rights 38 = .ok (.iload_n 3, 1) := by decide +kernel
theorem dX6_rights_39 : decode cX6_rights 39 = .ok (.iconst (-1), 1) := by decide +kernel
theorem dX6_rights_40 : decode cX6_rights 40 = .ok (.if_icmp .ne 13, 3) := by decide +kernel
theorem dX6_rights_43 : decode cX6_rights 43 = .ok (.new 74, 3) := by decide +kernel
theorem dX6_rights_46 : decode cX6_rights 46 = .ok (.dup, 1) := by decide +kernel
theorem dX6_rights_47 : decode cX6_rights 47 = .ok (.ldc 152, 2) := by decide +kernel
theorem dX6_rights_49 : decode cX6_rights 49 = .ok (.invokespecial 78, 3) := by decide +kernel
theorem dX6_rights_52 : decode cX6_rights 52 = .ok (.athrow, 1) := by decide +kernel
theorem dX6_rights_53 : decode cX6_rights 53 = .ok (.aload_n 0, 1) := by decide +kernel
theorem dX6_rights_54 : decode cX6_rights 54 = .ok (.getfield 66, 3) := by decide +kernel
theorem dX6_rights_57 : decode cX6_rights 57 = .ok (.ifCond .eq 28, 3) := by decide +kernel
theorem dX6_rights_60 : decode cX6_rights 60 = .ok (.aload_n 0, 1) := by decide +kernel
theorem dX6_rights_61 : decode cX6_rights 61 = .ok (.getfield 66, 3) := by decide +kernel
theorem dX6_rights_64 : decode cX6_rights 64 = .ok (.aload_n 0, 1) := by decide +kernel
theorem dX6_rights_65 : decode cX6_rights 65 = .ok (.getfield 12, 3) := by decide +kernel
theorem dX6_rights_68 : decode cX6_rights 68 = .ok (.iload_n 3, 1) := by decide +kernel
theorem dX6_rights_69 : decode cX6_rights 69 = .ok (.invokevirtual 167, 3) := by decide +kernel
theorem dX6_rights_72 : decode cX6_rights 72 = .ok (.if_icmp .eq 13, 3) := by decide +kernel
theorem dX6_rights_75 : decode cX6_rights 75 = .ok (.new 110, 3) := by decide +kernel
theorem dX6_rights_78 : decode cX6_rights 78 = .ok (.dup, 1) := by decide +kernel
theorem dX6_rights_79 : decode cX6_rights 79 = .ok (.ldc 170, 2) := by decide +kernel
theorem dX6_rights_81 : decode cX6_rights 81 = .ok (.invokespecial 114, 3) := by decide +kernel
theorem dX6_rights_84 : decode cX6_rights 84 = .ok (.athrow, 1) := by decide +kernel
theorem dX6_rights_85 : decode cX6_rights 85 = .ok (.aload_n 0, 1) := by decide +kernel
theorem dX6_rights_86 : decode cX6_rights 86 = .ok (.getfield 12, 3) := by decide +kernel
theorem dX6_rights_89 : decode cX6_rights 89 = .ok (.iload_n 3, 1) := by decide +kernel
theorem dX6_rights_90 : decode cX6_rights 90 = .ok (.invokevirtual 172, 3) := by decide +kernel
theorem dX6_rights_93 : decode cX6_rights 93 = .ok (.istore 4, 2) := by decide +kernel
theorem dX6_rights_95 : decode cX6_rights 95 = .ok (.aload_n 0, 1) := by decide +kernel
theorem dX6_rights_96 : decode cX6_rights 96 = .ok (.getfield 12, 3) := by decide +kernel
theorem dX6_rights_99 : decode cX6_rights 99 = .ok (.iload_n 3, 1) := by decide +kernel
theorem dX6_rights_100 : decode cX6_rights 100 = .ok (.iload_n 2, 1) := by decide +kernel
theorem dX6_rights_101 : decode cX6_rights 101 = .ok (.invokevirtual 175, 3) := by decide +kernel
theorem dX6_rights_104 : decode cX6_rights 104 = .ok (.iload 4, 2) := by decide +kernel
theorem dX6_rights_106 : decode cX6_rights 106 = .ok (.ireturn, 1) := by decide +kernel
def f_X6_rights (U : S2) (p1 : Int32) (p2 : Int32) : Option (Nat × Int32 × S2) := bn (f_X6_isPath p1) (fun z_1 => jn (some (1, 0, U)) (fun k14_2 => if z_1 = 0 then k14_2 else bn (f_X6_isRights p2) (fun z_4 => if z_4 = 0 then k14_2 else bn (f_X5_thingAt (U 6) (U 1) p1 1) (fun z_6 => bv (upc U 6 z_6.2) (fun u_7 => if z_6.1 = (-1) then some (2, 0, u_7) else jn (bn (f_X4_rightsOf (u_7 1) z_6.1) (fun z_10 => bn (f_X4_setRights (u_7 1) z_6.1 p2) (fun z_11 => bv (upc u_7 1 z_11) (fun u_12 => some (0, z_10, u_12))))) (fun k85_9 => if (u_7 0 10 0) = 0 then k85_9 else bn (f_X4_ownerOf (u_7 1) z_6.1) (fun z_14 => if (u_7 0 10 0) = z_14 then k85_9 else some (3, 0, u_7))))))))
def rmX6_rights : Room := { frames := 6, cells := 1, slots := 6, locals := 93 }
set_option maxHeartbeats 4000000 in
set_option maxRecDepth 100000 in
theorem c_X6_rights (l : Launch) (hst : l.stackTraces = false) (D : va_G) (cI cZ cJ cT : ClassId) (a : Nat → Nat → Nat) (sz : Nat) (U : S2) (p1 : Int32) (p2 : Int32) (o : Nat × Int32 × S2) (hf : f_X6_rights U p1 p2 = some o) : vx_Met l yX6_rights wsX6_rights rmX6_rights (va_Pc [.ref (a 0 0), .int p1, .int p2] (PX D cls (tys cI cZ cJ cT) (wI cI cZ cT a U) sz)) (QXi D cls o.1 o.2.1 (wI cI cZ cT a o.2.2) (va_A (wI cI cZ cT a U) sz)) (XX D cls o.1 (wI cI cZ cT a o.2.2) (va_A (wI cI cZ cT a U) sz)) 1 6 (va_A (wI cI cZ cT a U) sz) := by
  refine vx_ofW (cc := cX6_rights) (maxL := 5) (ret := (some .int)) (by decide) rfl ?_
  intro p e s m args below meth c s₁ B hml hxt hv
  obtain ⟨hav, ⟨hsz, hP, hK, hD0⟩, hE⟩ := hv
  have hx := B.exec
  have hb := B.bytes
  have hr := B.returns
  have hlocks := B.notSynchronized
  have hts := atoms_spec (ws := wsX6_rights) B.pre
  have hown : s.vm.findClass RX6 = some m.cls := findClass_of_methodNamed B.named
  have i6 : ∀ w ∈ wsX60, w ∈ wsX6_rights := fun w h => List.mem_cons_of_mem _ (List.mem_append_left _ (List.mem_append_left _ (List.mem_append_left _ (List.mem_append_left _ (List.mem_append_left _ (List.mem_append_right _ h))))))
  have hk12 := hts (.fieldLink RX6 12 "Inodery" "now" "LInodery$Tree;") (by decide +kernel)
  have hk30 := hts (.fieldLink RX6 30 "Inodery" "walk" "LInodery$Walk;") (by decide +kernel)
  have hk66 := hts (.fieldLink RX6 66 "Inodery" "userOfNow" "I") (by decide +kernel)
  subst hsz
  have hD := hD0.self (sz := s.heap.size)
  generalize hAe : va_A (wI cI cZ cT a U) s.heap.size = A at hD hE ⊢
  have hA : ∀ q : Nat, s.heap.size ≤ q → A q := fun q h => by rw [← hAe]; exact Or.inr h
  have hS : va_S A s.heap s.heap [] := va_S.rf
  have hDD : ∀ V : S2, va_D A (wI cI cZ cT a V) := fun _ => D_same (w := (wI cI cZ cT a U)) rfl hD
  refine Wq (fun Q hQ => ?_)
  refine W_entry hav (Nat.le_of_ble_eq_true rfl) (fun ls hl => ?_)
  have hl : lv_has ls 5 [(0, .ref (a 0 0)), (1, .int p1), (2, .int p2)] := hl
  unfold f_X6_rights at hf
  refine W_heap hP hS (fun H locs hP hS => ?_)
  refine lv_iload_n hx hb dX6_rights_0 rfl (lv_at hl 1 rfl) ?_
  obtain ⟨z_1, hz_1, hf⟩ := bn_some hf
  refine c0S (As := [.int p1]) (rest := []) ⟨hx, hb, hml, hown, hts⟩ (c_X6_isPath l D cI cZ cJ cT p1 z_1 hz_1) (va_cwS 1 hts gX6_rights_X6_isPath rfl rfl rfl (by decide +kernel) ⟨Nat.le_of_ble_eq_true rfl, Nat.le_of_ble_eq_true rfl⟩) rfl rfl hl.1 (Nat.le_of_ble_eq_true rfl) dX6_rights_1 ⟨Nat.le_of_ble_eq_true rfl, Nat.le_of_ble_eq_true rfl⟩ ?_
  obtain ⟨k14_2, hk14_2, hf⟩ := jn_some hf
  have j14_2 : ∀ (H : Heap) (locs : List Loc) (ls : Array Slot), k14_2 = some o → va_P D cls (wI cI cZ cT a U) H → va_S A s.heap H locs → lv_has ls 5 [] → W p l e (headSpec wsX6_rights rmX6_rights).room s m args below meth c H locs 0 0 Q (F0 m 14 ls []) := by
    intro H locs ls hf hP hS hl
    have hf := qa0 hk14_2 hf
    have eo := Option.some.inj hf
    have hP : va_P D cls (wI cI cZ cT a o.2.2) H := by rw [← eo]; exact hP
    rw [hQ]
    have hk0 : o.1 = 1 := by rw [← eo]
    exact thr o.1 (text := "path or rights is out of range") (by rw [hk0]; rfl) (by rw [hk0]; decide) hx hb hst hown (by decide +kernel) (hts (.classLink RX6 88 "java/lang/IllegalArgumentException") (by decide +kernel)) (hts (.initialized "java/lang/IllegalArgumentException") (by decide +kernel)) (fun w h => hts w (List.mem_cons_of_mem _ (List.mem_append_left _ (List.mem_append_left _ (List.mem_append_right _ h))))) (EX_b1 hE) ok1 (by decide +kernel) hE hS hP (hl.1.trans hml.symm) dX6_rights_14 dX6_rights_17 dX6_rights_18 dX6_rights_20 dX6_rights_23 hxt (Nat.le_of_ble_eq_true rfl) (Nat.le_of_ble_eq_true rfl) (Nat.le_of_ble_eq_true rfl) (Nat.le_of_ble_eq_true rfl) hlocks (Nat.le_of_ble_eq_true rfl) (Nat.le_of_ble_eq_true rfl)
  refine lv_if_eq (tgt := 14) hx hb dX6_rights_4 (by decide) (fun c_3 => ?_) (fun c_3 => ?_)
  · have hf := ite_t hf c_3
    refine W.widen (k := 0) (n := 0) (Nat.le_of_ble_eq_true rfl) (Nat.le_of_ble_eq_true rfl) ?_
    exact j14_2 _ _ _ hf hP hS (lv_sub hl [] rfl)
  · have hf := ite_f hf c_3
    refine lv_iload_n hx hb dX6_rights_7 rfl (lv_at hl 2 rfl) ?_
    obtain ⟨z_4, hz_4, hf⟩ := bn_some hf
    refine c0S (As := [.int p2]) (rest := []) ⟨hx, hb, hml, hown, hts⟩ (c_X6_isRights l D cI cZ cJ cT p2 z_4 hz_4) (va_cwS 1 hts gX6_rights_X6_isRights rfl rfl rfl (by decide +kernel) ⟨Nat.le_of_ble_eq_true rfl, Nat.le_of_ble_eq_true rfl⟩) rfl rfl hl.1 (Nat.le_of_ble_eq_true rfl) dX6_rights_8 ⟨Nat.le_of_ble_eq_true rfl, Nat.le_of_ble_eq_true rfl⟩ ?_
    refine lv_if_ne (tgt := 24) hx hb dX6_rights_11 (by decide) (fun c_5 => ?_) (fun c_5 => ?_)
    · have hf := ite_f hf c_5
      refine lv_aload_n hx hb dX6_rights_24 rfl (lv_at hl 0 rfl) ?_
      refine va_get (D := D) (ci := 6) (v := .ref (a 6 0)) (C := RX6) (T := TX6) (N := 11) hx hb hts i6 hown hK (fl_sub hP 0 rfl) 0 rfl rfl 4 (by decide) hk30 (fun _ h9 => h9) rfl dX6_rights_25 ?_
      refine lv_aload_n hx hb dX6_rights_28 rfl (lv_at hl 0 rfl) ?_
      refine va_get (D := D) (ci := 6) (v := .ref (a 1 0)) (C := RX6) (T := TX6) (N := 11) hx hb hts i6 hown hK (fl_sub hP 0 rfl) 0 rfl rfl 0 (by decide) hk12 (fun _ h9 => h9) rfl dX6_rights_29 ?_
      refine lv_iload_n hx hb dX6_rights_32 rfl (lv_at hl 1 rfl) ?_
      refine lv_iconst (v := 1) hx hb dX6_rights_33 (by decide) ?_
      obtain ⟨z_6, hz_6, hf⟩ := bn_some hf
      refine cWVi (As := [.ref (a 1 0), .int p1, .int 1]) (rest := []) ⟨hx, hb, hml, hown, hts⟩ (c_X5_thingAt l D cI cZ cJ cT (a 6) (a 1) H.size (U 6) (U 1) p1 1 z_6 hz_6) (cwV 3 hts gX6_rights_X5_thingAt rfl rfl rfl (by decide +kernel) ⟨Nat.le_of_ble_eq_true rfl, Nat.le_of_ble_eq_true rfl⟩) (fl_subM hP [6, 1] rfl) hK (fl_subDM (hDD U) [6, 1] rfl rfl) hS (own_free (fl_subDM (hDD U) [6, 1] rfl rfl) hS hA) (va_recv hK (fl_sub hP 6 rfl) (ci := 5) (q0 := 0) rfl rfl) rfl rfl hl.1 (Nat.le_of_ble_eq_true rfl) dX6_rights_34 ⟨Nat.le_of_ble_eq_true rfl, Nat.le_of_ble_eq_true rfl⟩ (fun H1 locs hP1 hk1 hS => ?_)
      obtain ⟨u_7, hu_7, hf⟩ := bv_some hf
      have hP : va_P D cls (wI cI cZ cT a u_7) H1 := by rw [hu_7]; exact fl_joinM hP (hDD U) [6, 1] rfl rfl hk1 hP1
      clear hP1 hk1
      generalize H1 = H at hP hS ⊢
      refine lv_istore_n (lv' := [(3, .int z_6.1), (0, .ref (a 0 0)), (1, .int p1), (2, .int p2)]) hx hb dX6_rights_37 rfl hl (by decide) rfl (fun ls hl => ?_)
      refine lv_iload_n hx hb dX6_rights_38 rfl (lv_at hl 0 rfl) ?_
      refine lv_iconst (v := (-1)) hx hb dX6_rights_39 (by decide) ?_
      refine lv_icmp_ne (tgt := 53) hx hb dX6_rights_40 (by decide) (fun c_8 => ?_) (fun c_8 => ?_)
      · have hf := ite_f hf c_8
        refine lv_aload_n hx hb dX6_rights_53 rfl (lv_at hl 1 rfl) ?_
        refine va_get (D := D) (ci := 6) (v := .int (u_7 0 10 0)) (C := RX6) (T := TX6) (N := 11) hx hb hts i6 hown hK (fl_sub hP 0 rfl) 0 rfl rfl 10 (by decide) hk66 (fun _ h9 => h9) rfl dX6_rights_54 ?_
        obtain ⟨k85_9, hk85_9, hf⟩ := jn_some hf
        have j85_9 : ∀ (H : Heap) (locs : List Loc) (ls : Array Slot), k85_9 = some o → va_P D cls (wI cI cZ cT a u_7) H → va_S A s.heap H locs → lv_has ls 5 [(0, .ref (a 0 0)), (2, .int p2), (3, .int z_6.1)] → W p l e (headSpec wsX6_rights rmX6_rights).room s m args below meth c H locs 0 0 Q (F0 m 85 ls []) := by
          intro H locs ls hf hP hS hl
          have hf := qa0 hk85_9 hf
          refine lv_aload_n hx hb dX6_rights_85 rfl (lv_at hl 0 rfl) ?_
          refine va_get (D := D) (ci := 6) (v := .ref (a 1 0)) (C := RX6) (T := TX6) (N := 11) hx hb hts i6 hown hK (fl_sub hP 0 rfl) 0 rfl rfl 0 (by decide) hk12 (fun _ h9 => h9) rfl dX6_rights_86 ?_
          refine lv_iload_n hx hb dX6_rights_89 rfl (lv_at hl 2 rfl) ?_
          obtain ⟨z_10, hz_10, hf⟩ := bn_some hf
          refine cRV (As := [.int z_6.1]) (rest := []) ⟨hx, hb, hml, hown, hts⟩ (c_X4_rightsOf l D cI cZ cJ cT (a 1) (u_7 1) z_6.1 z_10 hz_10) (cwV 1 hts gX6_rights_X4_rightsOf rfl rfl rfl (by decide +kernel) ⟨Nat.le_of_ble_eq_true rfl, Nat.le_of_ble_eq_true rfl⟩) (fl_sub hP 1 rfl) hK (va_recv hK (fl_sub hP 1 rfl) (ci := 4) (q0 := 0) rfl rfl) rfl rfl hl.1 (Nat.le_of_ble_eq_true rfl) dX6_rights_90 ⟨Nat.le_of_ble_eq_true rfl, Nat.le_of_ble_eq_true rfl⟩ ?_
          refine lv_istore (lv' := [(4, .int z_10), (0, .ref (a 0 0)), (2, .int p2), (3, .int z_6.1)]) hx hb dX6_rights_93 hl (by decide) rfl (fun ls hl => ?_)
          refine lv_aload_n hx hb dX6_rights_95 rfl (lv_at hl 1 rfl) ?_
          refine va_get (D := D) (ci := 6) (v := .ref (a 1 0)) (C := RX6) (T := TX6) (N := 11) hx hb hts i6 hown hK (fl_sub hP 0 rfl) 0 rfl rfl 0 (by decide) hk12 (fun _ h9 => h9) rfl dX6_rights_96 ?_
          refine lv_iload_n hx hb dX6_rights_99 rfl (lv_at hl 3 rfl) ?_
          refine lv_iload_n hx hb dX6_rights_100 rfl (lv_at hl 2 rfl) ?_
          obtain ⟨z_11, hz_11, hf⟩ := bn_some hf
          refine cWVv (As := [.int z_6.1, .int p2]) (rest := []) ⟨hx, hb, hml, hown, hts⟩ (c_X4_setRights l D cI cZ cJ cT (a 1) H.size (u_7 1) z_6.1 p2 z_11 hz_11) (cwV 2 hts gX6_rights_X4_setRights rfl rfl rfl (by decide +kernel) ⟨Nat.le_of_ble_eq_true rfl, Nat.le_of_ble_eq_true rfl⟩) (fl_sub hP 1 rfl) hK (fl_subD (hDD u_7) 1 rfl) hS (fl_free (hDD u_7) hS hA 1 rfl) (va_recv hK (fl_sub hP 1 rfl) (ci := 4) (q0 := 0) rfl rfl) rfl rfl hl.1 (Nat.le_of_ble_eq_true rfl) dX6_rights_101 ⟨Nat.le_of_ble_eq_true rfl, Nat.le_of_ble_eq_true rfl⟩ (fun H1 locs hP1 hk1 hS => ?_)
          obtain ⟨u_12, hu_12, hf⟩ := bv_some hf
          have hP : va_P D cls (wI cI cZ cT a u_12) H1 := by rw [hu_12]; exact fl_join hP (hDD u_7) 1 rfl hk1 hP1
          clear hP1 hk1
          generalize H1 = H at hP hS ⊢
          refine lv_iload hx hb dX6_rights_104 (lv_at hl 0 rfl) ?_
          have eo := Option.some.inj hf
          have hP : va_P D cls (wI cI cZ cT a o.2.2) H := by rw [← eo]; exact hP
          rw [hQ]
          refine W.widen (k := 1) (n := 6) (Nat.le_of_ble_eq_true rfl) (Nat.le_of_ble_eq_true rfl) ?_
          exact vx_ret (W.iret hx hb hr (fun t ht hW => ⟨⟨_, (), rfl, ⟨(by rw [← eo]), (by rw [← eo])⟩, P_at ht hP⟩, hS.F ht⟩) hS.2.2 dX6_rights_106 hlocks)
        refine lv_if_eq (tgt := 85) hx hb dX6_rights_57 (by decide) (fun c_13 => ?_) (fun c_13 => ?_)
        · have hf := ite_t hf c_13
          refine W.widen (k := 0) (n := 0) (Nat.le_of_ble_eq_true rfl) (Nat.le_of_ble_eq_true rfl) ?_
          exact j85_9 _ _ _ hf hP hS (lv_sub hl [1, 3, 0] rfl)
        · have hf := ite_f hf c_13
          refine lv_aload_n hx hb dX6_rights_60 rfl (lv_at hl 1 rfl) ?_
          refine va_get (D := D) (ci := 6) (v := .int (u_7 0 10 0)) (C := RX6) (T := TX6) (N := 11) hx hb hts i6 hown hK (fl_sub hP 0 rfl) 0 rfl rfl 10 (by decide) hk66 (fun _ h9 => h9) rfl dX6_rights_61 ?_
          refine lv_aload_n hx hb dX6_rights_64 rfl (lv_at hl 1 rfl) ?_
          refine va_get (D := D) (ci := 6) (v := .ref (a 1 0)) (C := RX6) (T := TX6) (N := 11) hx hb hts i6 hown hK (fl_sub hP 0 rfl) 0 rfl rfl 0 (by decide) hk12 (fun _ h9 => h9) rfl dX6_rights_65 ?_
          refine lv_iload_n hx hb dX6_rights_68 rfl (lv_at hl 0 rfl) ?_
          obtain ⟨z_14, hz_14, hf⟩ := bn_some hf
          refine cRV (As := [.int z_6.1]) (rest := [.int (u_7 0 10 0)]) ⟨hx, hb, hml, hown, hts⟩ (c_X4_ownerOf l D cI cZ cJ cT (a 1) (u_7 1) z_6.1 z_14 hz_14) (cwV 1 hts gX6_rights_X4_ownerOf rfl rfl rfl (by decide +kernel) ⟨Nat.le_of_ble_eq_true rfl, Nat.le_of_ble_eq_true rfl⟩) (fl_sub hP 1 rfl) hK (va_recv hK (fl_sub hP 1 rfl) (ci := 4) (q0 := 0) rfl rfl) rfl rfl hl.1 (Nat.le_of_ble_eq_true rfl) dX6_rights_69 ⟨Nat.le_of_ble_eq_true rfl, Nat.le_of_ble_eq_true rfl⟩ ?_
          refine lv_icmp_eq (tgt := 85) hx hb dX6_rights_72 (by decide) (fun c_15 => ?_) (fun c_15 => ?_)
          · have hf := ite_t hf c_15
            refine W.widen (k := 0) (n := 0) (Nat.le_of_ble_eq_true rfl) (Nat.le_of_ble_eq_true rfl) ?_
            exact j85_9 _ _ _ hf hP hS (lv_sub hl [1, 3, 0] rfl)
          · have hf := ite_f hf c_15
            have eo := Option.some.inj hf
            have hP : va_P D cls (wI cI cZ cT a o.2.2) H := by rw [← eo]; exact hP
            rw [hQ]
            have hk0 : o.1 = 3 := by rw [← eo]
            exact thr o.1 (text := "neither the user 0 nor the owner") (by rw [hk0]; rfl) (by rw [hk0]; decide) hx hb hst hown (by decide +kernel) (hts (.classLink RX6 110 "java/lang/IllegalStateException") (by decide +kernel)) (hts (.initialized "java/lang/IllegalStateException") (by decide +kernel)) (fun w h => hts w (List.mem_cons_of_mem _ (List.mem_append_right _ h))) (EX_b3 hE) ok3 (by decide +kernel) hE hS hP (hl.1.trans hml.symm) dX6_rights_75 dX6_rights_78 dX6_rights_79 dX6_rights_81 dX6_rights_84 hxt (Nat.le_of_ble_eq_true rfl) (Nat.le_of_ble_eq_true rfl) (Nat.le_of_ble_eq_true rfl) (Nat.le_of_ble_eq_true rfl) hlocks (Nat.le_of_ble_eq_true rfl) (Nat.le_of_ble_eq_true rfl)
      · have hf := ite_t hf c_8
        have eo := Option.some.inj hf
        have hP : va_P D cls (wI cI cZ cT a o.2.2) H := by rw [← eo]; exact hP
        rw [hQ]
        have hk0 : o.1 = 2 := by rw [← eo]
        exact thr o.1 (text := "no such thing") (by rw [hk0]; rfl) (by rw [hk0]; decide) hx hb hst hown (by decide +kernel) (hts (.classLink RX6 74 "java/lang/IndexOutOfBoundsException") (by decide +kernel)) (hts (.initialized "java/lang/IndexOutOfBoundsException") (by decide +kernel)) (fun w h => hts w (List.mem_cons_of_mem _ (List.mem_append_left _ (List.mem_append_right _ h)))) (EX_b2 hE) ok2 (by decide +kernel) hE hS hP (hl.1.trans hml.symm) dX6_rights_43 dX6_rights_46 dX6_rights_47 dX6_rights_49 dX6_rights_52 hxt (Nat.le_of_ble_eq_true rfl) (Nat.le_of_ble_eq_true rfl) (Nat.le_of_ble_eq_true rfl) (Nat.le_of_ble_eq_true rfl) hlocks (Nat.le_of_ble_eq_true rfl) (Nat.le_of_ble_eq_true rfl)
    · have hf := ite_t hf c_5
      refine W.widen (k := 0) (n := 0) (Nat.le_of_ble_eq_true rfl) (Nat.le_of_ble_eq_true rfl) ?_
      exact j14_2 _ _ _ hf hP hS (lv_sub hl [] rfl)
set_option maxRecDepth 20000 in
theorem ggX6_own_X4_ownerOf : GoodIn wsX6_own wsX4_ownerOf := goodIn_r _ [73, 74, 59, 60, 33, 61, 92, 93, 94, 95, 96, 97, 98, 99, 100, 101, 102, 103] (by decide +kernel) (by decide +kernel)
set_option maxRecDepth 20000 in
theorem gX6_own_X4_ownerOf : GoodIn wsX6_own (wsV RX6 167 RX4 yX4_ownerOf wsX4_ownerOf) := goodIn_app (goodIn_of _ (by decide +kernel)) ggX6_own_X4_ownerOf
set_option maxRecDepth 20000 in
theorem ggX6_own_X4_setOwner : GoodIn wsX6_own wsX4_setOwner := goodIn_r _ [78, 74, 59, 60, 33, 61, 92, 93, 94, 95, 96, 97, 98, 99, 100, 101, 102, 103] (by decide +kernel) (by decide +kernel)
set_option maxRecDepth 20000 in
theorem gX6_own_X4_setOwner : GoodIn wsX6_own (wsV RX6 182 RX4 yX4_setOwner wsX4_setOwner) := goodIn_app (goodIn_of _ (by decide +kernel)) ggX6_own_X4_setOwner
set_option maxRecDepth 20000 in
theorem ggX6_own_X5_thingAt : GoodIn wsX6_own wsX5_thingAt := goodIn_r _ [19, 20, 21, 22, 23, 18, 24, 25, 26, 27, 28, 29, 30, 31, 32, 33, 34, 35, 36, 37, 38, 39, 40, 41, 42, 43, 44, 45, 46, 47, 48, 49, 50, 51, 52, 53, 54, 55, 56, 57, 58, 59, 60, 61, 62, 63, 64, 65, 66, 90, 91, 92, 93, 94, 95, 96, 97, 98, 99, 100, 101, 102, 103] (by decide +kernel) (by decide +kernel)
set_option maxRecDepth 20000 in
theorem gX6_own_X5_thingAt : GoodIn wsX6_own (wsV RX6 93 RX5 yX5_thingAt wsX5_thingAt) := goodIn_app (goodIn_of _ (by decide +kernel)) ggX6_own_X5_thingAt
set_option maxRecDepth 20000 in
theorem ggX6_own_X6_isPath : GoodIn wsX6_own wsX6_isPath := goodIn_r _ [13, 14] (by decide +kernel) (by decide +kernel)
set_option maxRecDepth 20000 in
theorem gX6_own_X6_isPath : GoodIn wsX6_own (va_wsS RX6 159 yX6_isPath wsX6_isPath) := goodIn_app (goodIn_of _ (by decide +kernel)) ggX6_own_X6_isPath
set_option maxRecDepth 20000 in
theorem ggX6_own_X6_isUser : GoodIn wsX6_own wsX6_isUser := goodIn_r _ [69] (by decide +kernel) (by decide +kernel)
set_option maxRecDepth 20000 in
theorem gX6_own_X6_isUser : GoodIn wsX6_own (va_wsS RX6 70 yX6_isUser wsX6_isUser) := goodIn_app (goodIn_of _ (by decide +kernel)) ggX6_own_X6_isUser
theorem dX6_own_0 : decode cX6_own 0 = .ok (.iload_n 1, 1) := by decide +kernel
theorem dX6_own_1 : decode cX6_own 1 = .ok (.invokestatic 159, 3) := by decide +kernel
theorem dX6_own_4 : decode cX6_own 4 = .ok (.ifCond .ne 13, 3) := by decide +kernel
theorem dX6_own_7 : decode cX6_own 7 = .ok (.new 88, 3) := by decide +kernel
theorem dX6_own_10 : decode cX6_own 10 = .ok (.dup, 1) := by decide +kernel
theorem dX6_own_11 : decode cX6_own 11 = .ok (.ldc 150, 2) := by decide +kernel
theorem dX6_own_13 : decode cX6_own 13 = .ok (.invokespecial 92, 3) := by decide +kernel
theorem dX6_own_16 : decode cX6_own 16 = .ok (.athrow, 1) := by decide +kernel
theorem dX6_own_17 : decode cX6_own 17 = .ok (.aload_n 0, 1) := by decide +kernel
theorem dX6_own_18 : decode cX6_own 18 = .ok (.getfield 30, 3) := by decide +kernel
theorem dX6_own_21 : decode cX6_own 21 = .ok (.aload_n 0, 1) := by decide +kernel
theorem dX6_own_22 : decode cX6_own 22 = .ok (.getfield 12, 3) := by decide +kernel
theorem dX6_own_25 : decode cX6_own 25 = .ok (.iload_n 1, 1) := by decide +kernel
theorem dX6_own_26 : decode cX6_own 26 = .ok (.iconst 1, 1) := by decide +kernel
theorem dX6_own_27 : decode cX6_own 27 = .ok (.invokevirtual 93, 3) := by decide +kernel
theorem dX6_own_30 : decode cX6_own 30 = .ok (.istore_n 3, 1) := by decide +kernel
theorem dX6_own_31 : decode cX6_own 31 = .ok (.iload_n 3, 1) := by decide +kernel
theorem dX6_own_32 : decode cX6_own 32 = .ok (.iconst (-1), 1) := by decide +kernel
theorem dX6_own_33 : decode cX6_own 33 = .ok (.if_icmp .eq 10, 3) := by decide +kernel
theorem dX6_own_36 : decode cX6_own 36 = .ok (.iload_n 2, 1) := by decide +kernel
theorem dX6_own_37 : decode cX6_own 37 = .ok (.invokestatic 70, 3) := by decide +kernel
theorem dX6_own_40 : decode cX6_own 40 = .ok (.ifCond .ne 13, 3) := by decide +kernel
theorem dX6_own_43 : decode cX6_own 43 = .ok (.new 74, 3) := by decide +kernel
theorem dX6_own_46 : decode cX6_own 46 = .ok (.dup, 1) := by decide +kernel
theorem dX6_own_47 : decode cX6_own 47 = .ok (.ldc 178, 2) := by decide +kernel
theorem dX6_own_49 : decode cX6_own 49 = .ok (.invokespecial 78, 3) := by decide +kernel
theorem dX6_own_52 : decode cX6_own 52 = .ok (.athrow, 1) := by decide +kernel
theorem dX6_own_53 : decode cX6_own 53 = .ok (.aload_n 0, 1) := by decide +kernel
theorem dX6_own_54 : decode cX6_own 54 = .ok (.getfield 66, 3) := by decide +kernel
theorem dX6_own_57 : decode cX6_own 57 = .ok (.ifCond .eq 13, 3) := by decide +kernel
theorem dX6_own_60 : decode cX6_own 60 = .ok (.new 110, 3) := by decide +kernel
theorem dX6_own_63 : decode cX6_own 63 = .ok (.dup, 1) := by decide +kernel
theorem dX6_own_64 : decode cX6_own 64 = .ok (.ldc 180, 2) := by decide +kernel
theorem dX6_own_66 : decode cX6_own 66 = .ok (.invokespecial 114, 3) := by decide +kernel
theorem dX6_own_69 : decode cX6_own 69 = .ok (.athrow, 1) := by decide +kernel
theorem dX6_own_70 : decode cX6_own 70 = .ok (.aload_n 0, 1) := by decide +kernel
theorem dX6_own_71 : decode cX6_own 71 = .ok (.getfield 12, 3) := by decide +kernel
theorem dX6_own_74 : decode cX6_own 74 = .ok (.iload_n 3, 1) := by decide +kernel
theorem dX6_own_75 : decode cX6_own 75 = .ok (.invokevirtual 167, 3) := by decide +kernel
theorem dX6_own_78 : decode cX6_own 78 = .ok (.istore 4, 2) := by decide +kernel
theorem dX6_own_80 : decode cX6_own 80 = .ok (.aload_n 0, 1) := by decide +kernel
theorem dX6_own_81 : decode cX6_own 81 = .ok (.getfield 12, 3) := by decide +kernel
theorem dX6_own_84 : decode cX6_own 84 = .ok (.iload_n 3, 1) := by decide +kernel
theorem dX6_own_85 : decode cX6_own 85 = .ok (.iload_n 2, 1) := by decide +kernel
theorem dX6_own_86 : decode cX6_own 86 = .ok (.invokevirtual 182, 3) := by decide +kernel
theorem dX6_own_89 : decode cX6_own 89 = .ok (.iload 4, 2) := by decide +kernel
theorem dX6_own_91 : decode cX6_own 91 = .ok (.ireturn, 1) := by decide +kernel
def f_X6_own (U : S2) (p1 : Int32) (p2 : Int32) : Option (Nat × Int32 × S2) := bn (f_X6_isPath p1) (fun z_1 => if z_1 = 0 then some (1, 0, U) else bn (f_X5_thingAt (U 6) (U 1) p1 1) (fun z_3 => bv (upc U 6 z_3.2) (fun u_4 => jn (some (2, 0, u_4)) (fun k43_5 => if z_3.1 = (-1) then k43_5 else bn (f_X6_isUser p2) (fun z_7 => if z_7 = 0 then k43_5 else if (u_4 0 10 0) = 0 then bn (f_X4_ownerOf (u_4 1) z_3.1) (fun z_10 => bn (f_X4_setOwner (u_4 1) z_3.1 p2) (fun z_11 => bv (upc u_4 1 z_11) (fun u_12 => some (0, z_10, u_12)))) else some (3, 0, u_4))))))
def rmX6_own : Room := { frames := 6, cells := 1, slots := 6, locals := 93 }
set_option maxHeartbeats 4000000 in
set_option maxRecDepth 100000 in
theorem c_X6_own (l : Launch) (hst : l.stackTraces = false) (D : va_G) (cI cZ cJ cT : ClassId) (a : Nat → Nat → Nat) (sz : Nat) (U : S2) (p1 : Int32) (p2 : Int32) (o : Nat × Int32 × S2) (hf : f_X6_own U p1 p2 = some o) : vx_Met l yX6_own wsX6_own rmX6_own (va_Pc [.ref (a 0 0), .int p1, .int p2] (PX D cls (tys cI cZ cJ cT) (wI cI cZ cT a U) sz)) (QXi D cls o.1 o.2.1 (wI cI cZ cT a o.2.2) (va_A (wI cI cZ cT a U) sz)) (XX D cls o.1 (wI cI cZ cT a o.2.2) (va_A (wI cI cZ cT a U) sz)) 1 6 (va_A (wI cI cZ cT a U) sz) := by
  refine vx_ofW (cc := cX6_own) (maxL := 5) (ret := (some .int)) (by decide) rfl ?_
  intro p e s m args below meth c s₁ B hml hxt hv
  obtain ⟨hav, ⟨hsz, hP, hK, hD0⟩, hE⟩ := hv
  have hx := B.exec
  have hb := B.bytes
  have hr := B.returns
  have hlocks := B.notSynchronized
  have hts := atoms_spec (ws := wsX6_own) B.pre
  have hown : s.vm.findClass RX6 = some m.cls := findClass_of_methodNamed B.named
  have i6 : ∀ w ∈ wsX60, w ∈ wsX6_own := fun w h => List.mem_cons_of_mem _ (List.mem_append_left _ (List.mem_append_left _ (List.mem_append_left _ (List.mem_append_left _ (List.mem_append_left _ (List.mem_append_right _ h))))))
  have hk12 := hts (.fieldLink RX6 12 "Inodery" "now" "LInodery$Tree;") (by decide +kernel)
  have hk30 := hts (.fieldLink RX6 30 "Inodery" "walk" "LInodery$Walk;") (by decide +kernel)
  have hk66 := hts (.fieldLink RX6 66 "Inodery" "userOfNow" "I") (by decide +kernel)
  subst hsz
  have hD := hD0.self (sz := s.heap.size)
  generalize hAe : va_A (wI cI cZ cT a U) s.heap.size = A at hD hE ⊢
  have hA : ∀ q : Nat, s.heap.size ≤ q → A q := fun q h => by rw [← hAe]; exact Or.inr h
  have hS : va_S A s.heap s.heap [] := va_S.rf
  have hDD : ∀ V : S2, va_D A (wI cI cZ cT a V) := fun _ => D_same (w := (wI cI cZ cT a U)) rfl hD
  refine Wq (fun Q hQ => ?_)
  refine W_entry hav (Nat.le_of_ble_eq_true rfl) (fun ls hl => ?_)
  have hl : lv_has ls 5 [(0, .ref (a 0 0)), (1, .int p1), (2, .int p2)] := hl
  unfold f_X6_own at hf
  refine W_heap hP hS (fun H locs hP hS => ?_)
  refine lv_iload_n hx hb dX6_own_0 rfl (lv_at hl 1 rfl) ?_
  obtain ⟨z_1, hz_1, hf⟩ := bn_some hf
  refine c0S (As := [.int p1]) (rest := []) ⟨hx, hb, hml, hown, hts⟩ (c_X6_isPath l D cI cZ cJ cT p1 z_1 hz_1) (va_cwS 1 hts gX6_own_X6_isPath rfl rfl rfl (by decide +kernel) ⟨Nat.le_of_ble_eq_true rfl, Nat.le_of_ble_eq_true rfl⟩) rfl rfl hl.1 (Nat.le_of_ble_eq_true rfl) dX6_own_1 ⟨Nat.le_of_ble_eq_true rfl, Nat.le_of_ble_eq_true rfl⟩ ?_
  refine lv_if_ne (tgt := 17) hx hb dX6_own_4 (by decide) (fun c_2 => ?_) (fun c_2 => ?_)
  · have hf := ite_f hf c_2
    refine lv_aload_n hx hb dX6_own_17 rfl (lv_at hl 0 rfl) ?_
    refine va_get (D := D) (ci := 6) (v := .ref (a 6 0)) (C := RX6) (T := TX6) (N := 11) hx hb hts i6 hown hK (fl_sub hP 0 rfl) 0 rfl rfl 4 (by decide) hk30 (fun _ h9 => h9) rfl dX6_own_18 ?_
    refine lv_aload_n hx hb dX6_own_21 rfl (lv_at hl 0 rfl) ?_
    refine va_get (D := D) (ci := 6) (v := .ref (a 1 0)) (C := RX6) (T := TX6) (N := 11) hx hb hts i6 hown hK (fl_sub hP 0 rfl) 0 rfl rfl 0 (by decide) hk12 (fun _ h9 => h9) rfl dX6_own_22 ?_
    refine lv_iload_n hx hb dX6_own_25 rfl (lv_at hl 1 rfl) ?_
    refine lv_iconst (v := 1) hx hb dX6_own_26 (by decide) ?_
    obtain ⟨z_3, hz_3, hf⟩ := bn_some hf
    refine cWVi (As := [.ref (a 1 0), .int p1, .int 1]) (rest := []) ⟨hx, hb, hml, hown, hts⟩ (c_X5_thingAt l D cI cZ cJ cT (a 6) (a 1) H.size (U 6) (U 1) p1 1 z_3 hz_3) (cwV 3 hts gX6_own_X5_thingAt rfl rfl rfl (by decide +kernel) ⟨Nat.le_of_ble_eq_true rfl, Nat.le_of_ble_eq_true rfl⟩) (fl_subM hP [6, 1] rfl) hK (fl_subDM (hDD U) [6, 1] rfl rfl) hS (own_free (fl_subDM (hDD U) [6, 1] rfl rfl) hS hA) (va_recv hK (fl_sub hP 6 rfl) (ci := 5) (q0 := 0) rfl rfl) rfl rfl hl.1 (Nat.le_of_ble_eq_true rfl) dX6_own_27 ⟨Nat.le_of_ble_eq_true rfl, Nat.le_of_ble_eq_true rfl⟩ (fun H1 locs hP1 hk1 hS => ?_)
    obtain ⟨u_4, hu_4, hf⟩ := bv_some hf
    have hP : va_P D cls (wI cI cZ cT a u_4) H1 := by rw [hu_4]; exact fl_joinM hP (hDD U) [6, 1] rfl rfl hk1 hP1
    clear hP1 hk1
    generalize H1 = H at hP hS ⊢
    refine lv_istore_n (lv' := [(3, .int z_3.1), (0, .ref (a 0 0)), (1, .int p1), (2, .int p2)]) hx hb dX6_own_30 rfl hl (by decide) rfl (fun ls hl => ?_)
    refine lv_iload_n hx hb dX6_own_31 rfl (lv_at hl 0 rfl) ?_
    refine lv_iconst (v := (-1)) hx hb dX6_own_32 (by decide) ?_
    obtain ⟨k43_5, hk43_5, hf⟩ := jn_some hf
    have j43_5 : ∀ (H : Heap) (locs : List Loc) (ls : Array Slot), k43_5 = some o → va_P D cls (wI cI cZ cT a u_4) H → va_S A s.heap H locs → lv_has ls 5 [] → W p l e (headSpec wsX6_own rmX6_own).room s m args below meth c H locs 0 0 Q (F0 m 43 ls []) := by
      intro H locs ls hf hP hS hl
      have hf := qa0 hk43_5 hf
      have eo := Option.some.inj hf
      have hP : va_P D cls (wI cI cZ cT a o.2.2) H := by rw [← eo]; exact hP
      rw [hQ]
      have hk0 : o.1 = 2 := by rw [← eo]
      exact thr o.1 (text := "no such thing or user") (by rw [hk0]; rfl) (by rw [hk0]; decide) hx hb hst hown (by decide +kernel) (hts (.classLink RX6 74 "java/lang/IndexOutOfBoundsException") (by decide +kernel)) (hts (.initialized "java/lang/IndexOutOfBoundsException") (by decide +kernel)) (fun w h => hts w (List.mem_cons_of_mem _ (List.mem_append_left _ (List.mem_append_right _ h)))) (EX_b2 hE) ok2 (by decide +kernel) hE hS hP (hl.1.trans hml.symm) dX6_own_43 dX6_own_46 dX6_own_47 dX6_own_49 dX6_own_52 hxt (Nat.le_of_ble_eq_true rfl) (Nat.le_of_ble_eq_true rfl) (Nat.le_of_ble_eq_true rfl) (Nat.le_of_ble_eq_true rfl) hlocks (Nat.le_of_ble_eq_true rfl) (Nat.le_of_ble_eq_true rfl)
    refine lv_icmp_eq (tgt := 43) hx hb dX6_own_33 (by decide) (fun c_6 => ?_) (fun c_6 => ?_)
    · have hf := ite_t hf c_6
      refine W.widen (k := 0) (n := 0) (Nat.le_of_ble_eq_true rfl) (Nat.le_of_ble_eq_true rfl) ?_
      exact j43_5 _ _ _ hf hP hS (lv_sub hl [] rfl)
    · have hf := ite_f hf c_6
      refine lv_iload_n hx hb dX6_own_36 rfl (lv_at hl 3 rfl) ?_
      obtain ⟨z_7, hz_7, hf⟩ := bn_some hf
      refine c0S (As := [.int p2]) (rest := []) ⟨hx, hb, hml, hown, hts⟩ (c_X6_isUser l D cI cZ cJ cT p2 z_7 hz_7) (va_cwS 1 hts gX6_own_X6_isUser rfl rfl rfl (by decide +kernel) ⟨Nat.le_of_ble_eq_true rfl, Nat.le_of_ble_eq_true rfl⟩) rfl rfl hl.1 (Nat.le_of_ble_eq_true rfl) dX6_own_37 ⟨Nat.le_of_ble_eq_true rfl, Nat.le_of_ble_eq_true rfl⟩ ?_
      refine lv_if_ne (tgt := 53) hx hb dX6_own_40 (by decide) (fun c_8 => ?_) (fun c_8 => ?_)
      · have hf := ite_f hf c_8
        refine lv_aload_n hx hb dX6_own_53 rfl (lv_at hl 1 rfl) ?_
        refine va_get (D := D) (ci := 6) (v := .int (u_4 0 10 0)) (C := RX6) (T := TX6) (N := 11) hx hb hts i6 hown hK (fl_sub hP 0 rfl) 0 rfl rfl 10 (by decide) hk66 (fun _ h9 => h9) rfl dX6_own_54 ?_
        refine lv_if_eq (tgt := 70) hx hb dX6_own_57 (by decide) (fun c_9 => ?_) (fun c_9 => ?_)
        · have hf := ite_t hf c_9
          refine lv_aload_n hx hb dX6_own_70 rfl (lv_at hl 1 rfl) ?_
          refine va_get (D := D) (ci := 6) (v := .ref (a 1 0)) (C := RX6) (T := TX6) (N := 11) hx hb hts i6 hown hK (fl_sub hP 0 rfl) 0 rfl rfl 0 (by decide) hk12 (fun _ h9 => h9) rfl dX6_own_71 ?_
          refine lv_iload_n hx hb dX6_own_74 rfl (lv_at hl 0 rfl) ?_
          obtain ⟨z_10, hz_10, hf⟩ := bn_some hf
          refine cRV (As := [.int z_3.1]) (rest := []) ⟨hx, hb, hml, hown, hts⟩ (c_X4_ownerOf l D cI cZ cJ cT (a 1) (u_4 1) z_3.1 z_10 hz_10) (cwV 1 hts gX6_own_X4_ownerOf rfl rfl rfl (by decide +kernel) ⟨Nat.le_of_ble_eq_true rfl, Nat.le_of_ble_eq_true rfl⟩) (fl_sub hP 1 rfl) hK (va_recv hK (fl_sub hP 1 rfl) (ci := 4) (q0 := 0) rfl rfl) rfl rfl hl.1 (Nat.le_of_ble_eq_true rfl) dX6_own_75 ⟨Nat.le_of_ble_eq_true rfl, Nat.le_of_ble_eq_true rfl⟩ ?_
          refine lv_istore (lv' := [(4, .int z_10), (3, .int z_3.1), (0, .ref (a 0 0)), (1, .int p1), (2, .int p2)]) hx hb dX6_own_78 hl (by decide) rfl (fun ls hl => ?_)
          refine lv_aload_n hx hb dX6_own_80 rfl (lv_at hl 2 rfl) ?_
          refine va_get (D := D) (ci := 6) (v := .ref (a 1 0)) (C := RX6) (T := TX6) (N := 11) hx hb hts i6 hown hK (fl_sub hP 0 rfl) 0 rfl rfl 0 (by decide) hk12 (fun _ h9 => h9) rfl dX6_own_81 ?_
          refine lv_iload_n hx hb dX6_own_84 rfl (lv_at hl 1 rfl) ?_
          refine lv_iload_n hx hb dX6_own_85 rfl (lv_at hl 4 rfl) ?_
          obtain ⟨z_11, hz_11, hf⟩ := bn_some hf
          refine cWVv (As := [.int z_3.1, .int p2]) (rest := []) ⟨hx, hb, hml, hown, hts⟩ (c_X4_setOwner l D cI cZ cJ cT (a 1) H.size (u_4 1) z_3.1 p2 z_11 hz_11) (cwV 2 hts gX6_own_X4_setOwner rfl rfl rfl (by decide +kernel) ⟨Nat.le_of_ble_eq_true rfl, Nat.le_of_ble_eq_true rfl⟩) (fl_sub hP 1 rfl) hK (fl_subD (hDD u_4) 1 rfl) hS (fl_free (hDD u_4) hS hA 1 rfl) (va_recv hK (fl_sub hP 1 rfl) (ci := 4) (q0 := 0) rfl rfl) rfl rfl hl.1 (Nat.le_of_ble_eq_true rfl) dX6_own_86 ⟨Nat.le_of_ble_eq_true rfl, Nat.le_of_ble_eq_true rfl⟩ (fun H1 locs hP1 hk1 hS => ?_)
          obtain ⟨u_12, hu_12, hf⟩ := bv_some hf
          have hP : va_P D cls (wI cI cZ cT a u_12) H1 := by rw [hu_12]; exact fl_join hP (hDD u_4) 1 rfl hk1 hP1
          clear hP1 hk1
          generalize H1 = H at hP hS ⊢
          refine lv_iload hx hb dX6_own_89 (lv_at hl 0 rfl) ?_
          have eo := Option.some.inj hf
          have hP : va_P D cls (wI cI cZ cT a o.2.2) H := by rw [← eo]; exact hP
          rw [hQ]
          refine W.widen (k := 1) (n := 6) (Nat.le_of_ble_eq_true rfl) (Nat.le_of_ble_eq_true rfl) ?_
          exact vx_ret (W.iret hx hb hr (fun t ht hW => ⟨⟨_, (), rfl, ⟨(by rw [← eo]), (by rw [← eo])⟩, P_at ht hP⟩, hS.F ht⟩) hS.2.2 dX6_own_91 hlocks)
        · have hf := ite_f hf c_9
          have eo := Option.some.inj hf
          have hP : va_P D cls (wI cI cZ cT a o.2.2) H := by rw [← eo]; exact hP
          rw [hQ]
          have hk0 : o.1 = 3 := by rw [← eo]
          exact thr o.1 (text := "not the user 0") (by rw [hk0]; rfl) (by rw [hk0]; decide) hx hb hst hown (by decide +kernel) (hts (.classLink RX6 110 "java/lang/IllegalStateException") (by decide +kernel)) (hts (.initialized "java/lang/IllegalStateException") (by decide +kernel)) (fun w h => hts w (List.mem_cons_of_mem _ (List.mem_append_right _ h))) (EX_b3 hE) ok3 (by decide +kernel) hE hS hP (hl.1.trans hml.symm) dX6_own_60 dX6_own_63 dX6_own_64 dX6_own_66 dX6_own_69 hxt (Nat.le_of_ble_eq_true rfl) (Nat.le_of_ble_eq_true rfl) (Nat.le_of_ble_eq_true rfl) (Nat.le_of_ble_eq_true rfl) hlocks (Nat.le_of_ble_eq_true rfl) (Nat.le_of_ble_eq_true rfl)
      · have hf := ite_t hf c_8
        refine W.widen (k := 0) (n := 0) (Nat.le_of_ble_eq_true rfl) (Nat.le_of_ble_eq_true rfl) ?_
        exact j43_5 _ _ _ hf hP hS (lv_sub hl [] rfl)
  · have hf := ite_t hf c_2
    have eo := Option.some.inj hf
    have hP : va_P D cls (wI cI cZ cT a o.2.2) H := by rw [← eo]; exact hP
    rw [hQ]
    have hk0 : o.1 = 1 := by rw [← eo]
    exact thr o.1 (text := "path is out of range") (by rw [hk0]; rfl) (by rw [hk0]; decide) hx hb hst hown (by decide +kernel) (hts (.classLink RX6 88 "java/lang/IllegalArgumentException") (by decide +kernel)) (hts (.initialized "java/lang/IllegalArgumentException") (by decide +kernel)) (fun w h => hts w (List.mem_cons_of_mem _ (List.mem_append_left _ (List.mem_append_left _ (List.mem_append_right _ h))))) (EX_b1 hE) ok1 (by decide +kernel) hE hS hP (hl.1.trans hml.symm) dX6_own_7 dX6_own_10 dX6_own_11 dX6_own_13 dX6_own_16 hxt (Nat.le_of_ble_eq_true rfl) (Nat.le_of_ble_eq_true rfl) (Nat.le_of_ble_eq_true rfl) (Nat.le_of_ble_eq_true rfl) hlocks (Nat.le_of_ble_eq_true rfl) (Nat.le_of_ble_eq_true rfl)
set_option maxRecDepth 20000 in
theorem ggX6_look_X5_thingAt : GoodIn wsX6_look wsX5_thingAt := goodIn_r _ [16, 17, 18, 19, 20, 15, 21, 22, 23, 24, 25, 26, 27, 28, 29, 30, 31, 32, 33, 34, 35, 36, 37, 38, 39, 40, 41, 42, 43, 44, 45, 46, 47, 48, 49, 50, 51, 52, 53, 54, 55, 56, 57, 58, 59, 60, 61, 62, 63, 75, 76, 77, 78, 79, 80, 81, 82, 83, 84, 85, 86, 87, 88] (by decide +kernel) (by decide +kernel)
set_option maxRecDepth 20000 in
theorem gX6_look_X5_thingAt : GoodIn wsX6_look (wsV RX6 93 RX5 yX5_thingAt wsX5_thingAt) := goodIn_app (goodIn_of _ (by decide +kernel)) ggX6_look_X5_thingAt
set_option maxRecDepth 20000 in
theorem ggX6_look_X6_isPath : GoodIn wsX6_look wsX6_isPath := goodIn_r _ [10, 11] (by decide +kernel) (by decide +kernel)
set_option maxRecDepth 20000 in
theorem gX6_look_X6_isPath : GoodIn wsX6_look (va_wsS RX6 159 yX6_isPath wsX6_isPath) := goodIn_app (goodIn_of _ (by decide +kernel)) ggX6_look_X6_isPath
theorem dX6_look_0 : decode cX6_look 0 = .ok (.iload_n 1, 1) := by decide +kernel
theorem dX6_look_1 : decode cX6_look 1 = .ok (.invokestatic 159, 3) := by decide +kernel
theorem dX6_look_4 : decode cX6_look 4 = .ok (.ifCond .ne 13, 3) := by decide +kernel
theorem dX6_look_7 : decode cX6_look 7 = .ok (.new 88, 3) := by decide +kernel
theorem dX6_look_10 : decode cX6_look 10 = .ok (.dup, 1) := by decide +kernel
theorem dX6_look_11 : decode cX6_look 11 = .ok (.ldc 150, 2) := by decide +kernel
theorem dX6_look_13 : decode cX6_look 13 = .ok (.invokespecial 92, 3) := by decide +kernel
theorem dX6_look_16 : decode cX6_look 16 = .ok (.athrow, 1) := by decide +kernel
theorem dX6_look_17 : decode cX6_look 17 = .ok (.aload_n 0, 1) := by decide +kernel
theorem dX6_look_18 : decode cX6_look 18 = .ok (.getfield 30, 3) := by decide +kernel
theorem dX6_look_21 : decode cX6_look 21 = .ok (.aload_n 0, 1) := by decide +kernel
theorem dX6_look_22 : decode cX6_look 22 = .ok (.getfield 12, 3) := by decide +kernel
theorem dX6_look_25 : decode cX6_look 25 = .ok (.iload_n 1, 1) := by decide +kernel
theorem dX6_look_26 : decode cX6_look 26 = .ok (.iload_n 2, 1) := by decide +kernel
theorem dX6_look_27 : decode cX6_look 27 = .ok (.invokevirtual 93, 3) := by decide +kernel
theorem dX6_look_30 : decode cX6_look 30 = .ok (.istore_n 3, 1) := by decide +kernel
theorem dX6_look_31 : decode cX6_look 31 = .ok (.iload_n 3, 1) := by decide +kernel
theorem dX6_look_32 : decode cX6_look 32 = .ok (.iconst (-1), 1) := by decide +kernel
theorem dX6_look_33 : decode cX6_look 33 = .ok (.if_icmp .ne 13, 3) := by decide +kernel
theorem dX6_look_36 : decode cX6_look 36 = .ok (.new 74, 3) := by decide +kernel
theorem dX6_look_39 : decode cX6_look 39 = .ok (.dup, 1) := by decide +kernel
theorem dX6_look_40 : decode cX6_look 40 = .ok (.ldc 152, 2) := by decide +kernel
theorem dX6_look_42 : decode cX6_look 42 = .ok (.invokespecial 78, 3) := by decide +kernel
theorem dX6_look_45 : decode cX6_look 45 = .ok (.athrow, 1) := by decide +kernel
theorem dX6_look_46 : decode cX6_look 46 = .ok (.iload_n 3, 1) := by decide +kernel
theorem dX6_look_47 : decode cX6_look 47 = .ok (.ireturn, 1) := by decide +kernel
def f_X6_look (U : S2) (p1 : Int32) (p2 : Int32) : Option (Nat × Int32 × S2) := bn (f_X6_isPath p1) (fun z_1 => if z_1 = 0 then some (1, 0, U) else bn (f_X5_thingAt (U 6) (U 1) p1 p2) (fun z_3 => bv (upc U 6 z_3.2) (fun u_4 => if z_3.1 = (-1) then some (2, 0, u_4) else some (0, z_3.1, u_4))))
def rmX6_look : Room := { frames := 6, cells := 1, slots := 6, locals := 93 }
set_option maxHeartbeats 4000000 in
set_option maxRecDepth 100000 in
theorem c_X6_look (l : Launch) (hst : l.stackTraces = false) (D : va_G) (cI cZ cJ cT : ClassId) (a : Nat → Nat → Nat) (sz : Nat) (U : S2) (p1 : Int32) (p2 : Int32) (o : Nat × Int32 × S2) (hf : f_X6_look U p1 p2 = some o) : vx_Met l yX6_look wsX6_look rmX6_look (va_Pc [.ref (a 0 0), .int p1, .int p2] (PX D cls (tys cI cZ cJ cT) (wI cI cZ cT a U) sz)) (QXi D cls o.1 o.2.1 (wI cI cZ cT a o.2.2) (va_A (wI cI cZ cT a U) sz)) (XX D cls o.1 (wI cI cZ cT a o.2.2) (va_A (wI cI cZ cT a U) sz)) 1 6 (va_A (wI cI cZ cT a U) sz) := by
  refine vx_ofW (cc := cX6_look) (maxL := 4) (ret := (some .int)) (by decide) rfl ?_
  intro p e s m args below meth c s₁ B hml hxt hv
  obtain ⟨hav, ⟨hsz, hP, hK, hD0⟩, hE⟩ := hv
  have hx := B.exec
  have hb := B.bytes
  have hr := B.returns
  have hlocks := B.notSynchronized
  have hts := atoms_spec (ws := wsX6_look) B.pre
  have hown : s.vm.findClass RX6 = some m.cls := findClass_of_methodNamed B.named
  have i6 : ∀ w ∈ wsX60, w ∈ wsX6_look := fun w h => List.mem_cons_of_mem _ (List.mem_append_left _ (List.mem_append_left _ (List.mem_append_left _ (List.mem_append_left _ (List.mem_append_right _ h)))))
  have hk12 := hts (.fieldLink RX6 12 "Inodery" "now" "LInodery$Tree;") (by decide +kernel)
  have hk30 := hts (.fieldLink RX6 30 "Inodery" "walk" "LInodery$Walk;") (by decide +kernel)
  subst hsz
  have hD := hD0.self (sz := s.heap.size)
  generalize hAe : va_A (wI cI cZ cT a U) s.heap.size = A at hD hE ⊢
  have hA : ∀ q : Nat, s.heap.size ≤ q → A q := fun q h => by rw [← hAe]; exact Or.inr h
  have hS : va_S A s.heap s.heap [] := va_S.rf
  have hDD : ∀ V : S2, va_D A (wI cI cZ cT a V) := fun _ => D_same (w := (wI cI cZ cT a U)) rfl hD
  refine Wq (fun Q hQ => ?_)
  refine W_entry hav (Nat.le_of_ble_eq_true rfl) (fun ls hl => ?_)
  have hl : lv_has ls 4 [(0, .ref (a 0 0)), (1, .int p1), (2, .int p2)] := hl
  unfold f_X6_look at hf
  refine W_heap hP hS (fun H locs hP hS => ?_)
  refine lv_iload_n hx hb dX6_look_0 rfl (lv_at hl 1 rfl) ?_
  obtain ⟨z_1, hz_1, hf⟩ := bn_some hf
  refine c0S (As := [.int p1]) (rest := []) ⟨hx, hb, hml, hown, hts⟩ (c_X6_isPath l D cI cZ cJ cT p1 z_1 hz_1) (va_cwS 1 hts gX6_look_X6_isPath rfl rfl rfl (by decide +kernel) ⟨Nat.le_of_ble_eq_true rfl, Nat.le_of_ble_eq_true rfl⟩) rfl rfl hl.1 (Nat.le_of_ble_eq_true rfl) dX6_look_1 ⟨Nat.le_of_ble_eq_true rfl, Nat.le_of_ble_eq_true rfl⟩ ?_
  refine lv_if_ne (tgt := 17) hx hb dX6_look_4 (by decide) (fun c_2 => ?_) (fun c_2 => ?_)
  · have hf := ite_f hf c_2
    refine lv_aload_n hx hb dX6_look_17 rfl (lv_at hl 0 rfl) ?_
    refine va_get (D := D) (ci := 6) (v := .ref (a 6 0)) (C := RX6) (T := TX6) (N := 11) hx hb hts i6 hown hK (fl_sub hP 0 rfl) 0 rfl rfl 4 (by decide) hk30 (fun _ h9 => h9) rfl dX6_look_18 ?_
    refine lv_aload_n hx hb dX6_look_21 rfl (lv_at hl 0 rfl) ?_
    refine va_get (D := D) (ci := 6) (v := .ref (a 1 0)) (C := RX6) (T := TX6) (N := 11) hx hb hts i6 hown hK (fl_sub hP 0 rfl) 0 rfl rfl 0 (by decide) hk12 (fun _ h9 => h9) rfl dX6_look_22 ?_
    refine lv_iload_n hx hb dX6_look_25 rfl (lv_at hl 1 rfl) ?_
    refine lv_iload_n hx hb dX6_look_26 rfl (lv_at hl 2 rfl) ?_
    obtain ⟨z_3, hz_3, hf⟩ := bn_some hf
    refine cWVi (As := [.ref (a 1 0), .int p1, .int p2]) (rest := []) ⟨hx, hb, hml, hown, hts⟩ (c_X5_thingAt l D cI cZ cJ cT (a 6) (a 1) H.size (U 6) (U 1) p1 p2 z_3 hz_3) (cwV 3 hts gX6_look_X5_thingAt rfl rfl rfl (by decide +kernel) ⟨Nat.le_of_ble_eq_true rfl, Nat.le_of_ble_eq_true rfl⟩) (fl_subM hP [6, 1] rfl) hK (fl_subDM (hDD U) [6, 1] rfl rfl) hS (own_free (fl_subDM (hDD U) [6, 1] rfl rfl) hS hA) (va_recv hK (fl_sub hP 6 rfl) (ci := 5) (q0 := 0) rfl rfl) rfl rfl hl.1 (Nat.le_of_ble_eq_true rfl) dX6_look_27 ⟨Nat.le_of_ble_eq_true rfl, Nat.le_of_ble_eq_true rfl⟩ (fun H1 locs hP1 hk1 hS => ?_)
    obtain ⟨u_4, hu_4, hf⟩ := bv_some hf
    have hP : va_P D cls (wI cI cZ cT a u_4) H1 := by rw [hu_4]; exact fl_joinM hP (hDD U) [6, 1] rfl rfl hk1 hP1
    clear hP1 hk1
    generalize H1 = H at hP hS ⊢
    refine lv_istore_n (lv' := [(3, .int z_3.1), (0, .ref (a 0 0)), (1, .int p1), (2, .int p2)]) hx hb dX6_look_30 rfl hl (by decide) rfl (fun ls hl => ?_)
    refine lv_iload_n hx hb dX6_look_31 rfl (lv_at hl 0 rfl) ?_
    refine lv_iconst (v := (-1)) hx hb dX6_look_32 (by decide) ?_
    refine lv_icmp_ne (tgt := 46) hx hb dX6_look_33 (by decide) (fun c_5 => ?_) (fun c_5 => ?_)
    · have hf := ite_f hf c_5
      refine lv_iload_n hx hb dX6_look_46 rfl (lv_at hl 0 rfl) ?_
      have eo := Option.some.inj hf
      have hP : va_P D cls (wI cI cZ cT a o.2.2) H := by rw [← eo]; exact hP
      rw [hQ]
      refine W.widen (k := 1) (n := 6) (Nat.le_of_ble_eq_true rfl) (Nat.le_of_ble_eq_true rfl) ?_
      exact vx_ret (W.iret hx hb hr (fun t ht hW => ⟨⟨_, (), rfl, ⟨(by rw [← eo]), (by rw [← eo])⟩, P_at ht hP⟩, hS.F ht⟩) hS.2.2 dX6_look_47 hlocks)
    · have hf := ite_t hf c_5
      have eo := Option.some.inj hf
      have hP : va_P D cls (wI cI cZ cT a o.2.2) H := by rw [← eo]; exact hP
      rw [hQ]
      have hk0 : o.1 = 2 := by rw [← eo]
      exact thr o.1 (text := "no such thing") (by rw [hk0]; rfl) (by rw [hk0]; decide) hx hb hst hown (by decide +kernel) (hts (.classLink RX6 74 "java/lang/IndexOutOfBoundsException") (by decide +kernel)) (hts (.initialized "java/lang/IndexOutOfBoundsException") (by decide +kernel)) (fun w h => hts w (List.mem_cons_of_mem _ (List.mem_append_right _ h))) (EX_b2 hE) ok2 (by decide +kernel) hE hS hP (hl.1.trans hml.symm) dX6_look_36 dX6_look_39 dX6_look_40 dX6_look_42 dX6_look_45 hxt (Nat.le_of_ble_eq_true rfl) (Nat.le_of_ble_eq_true rfl) (Nat.le_of_ble_eq_true rfl) (Nat.le_of_ble_eq_true rfl) hlocks (Nat.le_of_ble_eq_true rfl) (Nat.le_of_ble_eq_true rfl)
  · have hf := ite_t hf c_2
    have eo := Option.some.inj hf
    have hP : va_P D cls (wI cI cZ cT a o.2.2) H := by rw [← eo]; exact hP
    rw [hQ]
    have hk0 : o.1 = 1 := by rw [← eo]
    exact thr o.1 (text := "path is out of range") (by rw [hk0]; rfl) (by rw [hk0]; decide) hx hb hst hown (by decide +kernel) (hts (.classLink RX6 88 "java/lang/IllegalArgumentException") (by decide +kernel)) (hts (.initialized "java/lang/IllegalArgumentException") (by decide +kernel)) (fun w h => hts w (List.mem_cons_of_mem _ (List.mem_append_left _ (List.mem_append_right _ h)))) (EX_b1 hE) ok1 (by decide +kernel) hE hS hP (hl.1.trans hml.symm) dX6_look_7 dX6_look_10 dX6_look_11 dX6_look_13 dX6_look_16 hxt (Nat.le_of_ble_eq_true rfl) (Nat.le_of_ble_eq_true rfl) (Nat.le_of_ble_eq_true rfl) (Nat.le_of_ble_eq_true rfl) hlocks (Nat.le_of_ble_eq_true rfl) (Nat.le_of_ble_eq_true rfl)
set_option maxRecDepth 20000 in
theorem ggX6_mayRead_X6_may : GoodIn wsX6_mayRead wsX6_may := goodIn_r _ [5, 6, 7, 8, 9, 10, 11, 12, 13, 14, 15, 16, 17, 18, 19, 20, 21, 22, 23, 24, 25, 26, 27, 28, 29, 30, 31, 32, 33, 34, 35, 36, 37, 38, 39, 40, 41, 42, 43, 44] (by decide +kernel) (by decide +kernel)
set_option maxRecDepth 20000 in
theorem gX6_mayRead_X6_may : GoodIn wsX6_mayRead (wsV RX6 429 RX6 yX6_may wsX6_may) := goodIn_app (goodIn_of _ (by decide +kernel)) ggX6_mayRead_X6_may
theorem dX6_mayRead_0 : decode cX6_mayRead 0 = .ok (.aload_n 0, 1) := by decide +kernel
theorem dX6_mayRead_1 : decode cX6_mayRead 1 = .ok (.iload_n 1, 1) := by decide +kernel
theorem dX6_mayRead_2 : decode cX6_mayRead 2 = .ok (.bipush 8, 2) := by decide +kernel
theorem dX6_mayRead_4 : decode cX6_mayRead 4 = .ok (.iconst 2, 1) := by decide +kernel
theorem dX6_mayRead_5 : decode cX6_mayRead 5 = .ok (.invokevirtual 429, 3) := by decide +kernel
theorem dX6_mayRead_8 : decode cX6_mayRead 8 = .ok (.ireturn, 1) := by decide +kernel
def f_X6_mayRead (U : S2) (p1 : Int32) : Option (Int32) := bn (f_X6_may U p1 8 2) (fun z_1 => some (vp_nar .boolean z_1))
def rmX6_mayRead : Room := { frames := 3, cells := 0, slots := 0, locals := 65 }
set_option maxHeartbeats 4000000 in
set_option maxRecDepth 100000 in
theorem c_X6_mayRead (l : Launch) (D : va_G) (cI cZ cJ cT : ClassId) (a : Nat → Nat → Nat) (U : S2) (p1 : Int32) (o : Int32) (hf : f_X6_mayRead U p1 = some o) : Met l yX6_mayRead wsX6_mayRead rmX6_mayRead (va_Pc [.ref (a 0 0), .int p1] (PR D cls (tys cI cZ cJ cT) (wI cI cZ cT a U))) (QR o) 0 0 (fun _ => False) := by
  refine Met.ofW (cc := cX6_mayRead) (maxL := 2) (ret := (some .boolean)) (by decide) rfl ?_
  intro p e s m args below meth c s₁ B hml hv
  obtain ⟨hav, hP, hK⟩ := hv
  have hx := B.exec
  have hb := B.bytes
  have hr := B.returns
  have hlocks := B.notSynchronized
  have hts := atoms_spec (ws := wsX6_mayRead) B.pre
  have hown : s.vm.findClass RX6 = some m.cls := findClass_of_methodNamed B.named
  refine Wq (fun Q hQ => ?_)
  refine W_entry hav (Nat.le_of_ble_eq_true rfl) (fun ls hl => ?_)
  have hl : lv_has ls 2 [(0, .ref (a 0 0)), (1, .int p1)] := hl
  unfold f_X6_mayRead at hf
  refine lv_aload_n hx hb dX6_mayRead_0 rfl (lv_at hl 0 rfl) ?_
  refine lv_iload_n hx hb dX6_mayRead_1 rfl (lv_at hl 1 rfl) ?_
  refine lv_bipush (v := 8) hx hb dX6_mayRead_2 (by decide) ?_
  refine lv_iconst (v := 2) hx hb dX6_mayRead_4 (by decide) ?_
  obtain ⟨z_1, hz_1, hf⟩ := bn_some hf
  refine cRV (As := [.int p1, .int 8, .int 2]) (rest := []) ⟨hx, hb, hml, hown, hts⟩ (c_X6_may l D cI cZ cJ cT a U p1 8 2 z_1 hz_1) (cwV 3 hts gX6_mayRead_X6_may rfl rfl rfl (by decide +kernel) ⟨Nat.le_of_ble_eq_true rfl, Nat.le_of_ble_eq_true rfl⟩) hP hK (va_recv hK (fl_sub hP 0 rfl) (ci := 6) (q0 := 0) rfl rfl) rfl rfl hl.1 (Nat.le_of_ble_eq_true rfl) dX6_mayRead_5 ⟨Nat.le_of_ble_eq_true rfl, Nat.le_of_ble_eq_true rfl⟩ ?_
  rw [hQ]
  exact zretN (v := z_1) (v' := vp_nar .boolean z_1) hx hb hr rfl (fun t ht hW => ⟨_, rfl, Option.some.inj hf, ht⟩) (fun _ h => nomatch h) dX6_mayRead_8 hlocks
set_option maxRecDepth 20000 in
theorem ggX6_open_X3_give : GoodIn wsX6_open wsX3_give := goodIn_r _ [100, 96, 101, 102, 103, 129, 130, 131, 132, 133] (by decide +kernel) (by decide +kernel)
set_option maxRecDepth 20000 in
theorem gX6_open_X3_give : GoodIn wsX6_open (wsV RX6 194 RX3 yX3_give wsX3_give) := goodIn_app (goodIn_of _ (by decide +kernel)) ggX6_open_X3_give
set_option maxRecDepth 20000 in
theorem ggX6_open_X3_isSpent : GoodIn wsX6_open wsX3_isSpent := goodIn_r _ [95, 96, 129, 130, 131, 132, 133] (by decide +kernel) (by decide +kernel)
set_option maxRecDepth 20000 in
theorem gX6_open_X3_isSpent : GoodIn wsX6_open (wsV RX6 188 RX3 yX3_isSpent wsX3_isSpent) := goodIn_app (goodIn_of _ (by decide +kernel)) ggX6_open_X3_isSpent
set_option maxRecDepth 20000 in
theorem ggX6_open_X4_isOfKind : GoodIn wsX6_open wsX4_isOfKind := goodIn_r _ [53, 54, 55, 56, 57, 33, 58, 59, 60, 61, 117, 118, 119, 120, 121, 122, 123, 124, 125, 126, 127, 128] (by decide +kernel) (by decide +kernel)
set_option maxRecDepth 20000 in
theorem gX6_open_X4_isOfKind : GoodIn wsX6_open (wsV RX6 103 RX4 yX4_isOfKind wsX4_isOfKind) := goodIn_app (goodIn_of _ (by decide +kernel)) ggX6_open_X4_isOfKind
set_option maxRecDepth 20000 in
theorem ggX6_open_X5_thingAt : GoodIn wsX6_open wsX5_thingAt := goodIn_r _ [19, 20, 21, 22, 23, 18, 24, 25, 26, 27, 28, 29, 30, 31, 32, 33, 34, 35, 36, 37, 38, 39, 40, 41, 42, 43, 44, 45, 46, 47, 48, 49, 50, 51, 52, 53, 54, 55, 56, 57, 58, 59, 60, 61, 62, 63, 64, 65, 66, 115, 116, 117, 118, 119, 120, 121, 122, 123, 124, 125, 126, 127, 128] (by decide +kernel) (by decide +kernel)
set_option maxRecDepth 20000 in
theorem gX6_open_X5_thingAt : GoodIn wsX6_open (wsV RX6 93 RX5 yX5_thingAt wsX5_thingAt) := goodIn_app (goodIn_of _ (by decide +kernel)) ggX6_open_X5_thingAt
set_option maxRecDepth 20000 in
theorem ggX6_open_X6_isPath : GoodIn wsX6_open wsX6_isPath := goodIn_r _ [13, 14] (by decide +kernel) (by decide +kernel)
set_option maxRecDepth 20000 in
theorem gX6_open_X6_isPath : GoodIn wsX6_open (va_wsS RX6 159 yX6_isPath wsX6_isPath) := goodIn_app (goodIn_of _ (by decide +kernel)) ggX6_open_X6_isPath
set_option maxRecDepth 20000 in
theorem ggX6_open_X6_mayRead : GoodIn wsX6_open wsX6_mayRead := goodIn_r _ [71, 72, 73, 74, 12, 75, 76, 8, 77, 78, 79, 33, 80, 81, 59, 60, 61, 82, 83, 84, 85, 86, 104, 105, 106, 107, 108, 109, 110, 111, 112, 113, 114, 117, 118, 119, 120, 121, 122, 123, 124, 125, 126, 127, 128] (by decide +kernel) (by decide +kernel)
set_option maxRecDepth 20000 in
theorem gX6_open_X6_mayRead : GoodIn wsX6_open (wsV RX6 185 RX6 yX6_mayRead wsX6_mayRead) := goodIn_app (goodIn_of _ (by decide +kernel)) ggX6_open_X6_mayRead
set_option maxRecDepth 20000 in
theorem ggX6_open_X6_mayWrite : GoodIn wsX6_open wsX6_mayWrite := goodIn_r _ [90, 72, 73, 74, 12, 75, 76, 8, 77, 78, 79, 33, 80, 81, 59, 60, 61, 82, 83, 84, 85, 86, 104, 105, 106, 107, 108, 109, 110, 111, 112, 113, 114, 117, 118, 119, 120, 121, 122, 123, 124, 125, 126, 127, 128] (by decide +kernel) (by decide +kernel)
set_option maxRecDepth 20000 in
theorem gX6_open_X6_mayWrite : GoodIn wsX6_open (wsV RX6 139 RX6 yX6_mayWrite wsX6_mayWrite) := goodIn_app (goodIn_of _ (by decide +kernel)) ggX6_open_X6_mayWrite
theorem dX6_open_0 : decode cX6_open 0 = .ok (.iload_n 1, 1) := by decide +kernel
theorem dX6_open_1 : decode cX6_open 1 = .ok (.invokestatic 159, 3) := by decide +kernel
theorem dX6_open_4 : decode cX6_open 4 = .ok (.ifCond .ne 13, 3) := by decide +kernel
theorem dX6_open_7 : decode cX6_open 7 = .ok (.new 88, 3) := by decide +kernel
theorem dX6_open_10 : decode cX6_open 10 = .ok (.dup, 1) := by decide +kernel
theorem dX6_open_11 : decode cX6_open 11 = .ok (.ldc 150, 2) := by decide +kernel
theorem dX6_open_13 : decode cX6_open 13 = .ok (.invokespecial 92, 3) := by decide +kernel
theorem dX6_open_16 : decode cX6_open 16 = .ok (.athrow, 1) := by decide +kernel
theorem dX6_open_17 : decode cX6_open 17 = .ok (.aload_n 0, 1) := by decide +kernel
theorem dX6_open_18 : decode cX6_open 18 = .ok (.getfield 30, 3) := by decide +kernel
theorem dX6_open_21 : decode cX6_open 21 = .ok (.aload_n 0, 1) := by decide +kernel
theorem dX6_open_22 : decode cX6_open 22 = .ok (.getfield 12, 3) := by decide +kernel
theorem dX6_open_25 : decode cX6_open 25 = .ok (.iload_n 1, 1) := by decide +kernel
theorem dX6_open_26 : decode cX6_open 26 = .ok (.iconst 1, 1) := by decide +kernel
theorem dX6_open_27 : decode cX6_open 27 = .ok (.invokevirtual 93, 3) := by decide +kernel
theorem dX6_open_30 : decode cX6_open 30 = .ok (.istore_n 3, 1) := by decide +kernel
theorem dX6_open_31 : decode cX6_open 31 = .ok (.iload_n 3, 1) := by decide +kernel
theorem dX6_open_32 : decode cX6_open 32 = .ok (.iconst (-1), 1) := by decide +kernel
theorem dX6_open_33 : decode cX6_open 33 = .ok (.if_icmp .ne 13, 3) := by decide +kernel
theorem dX6_open_36 : decode cX6_open 36 = .ok (.new 74, 3) := by decide +kernel
theorem dX6_open_39 : decode cX6_open 39 = .ok (.dup, 1) := by decide +kernel
theorem dX6_open_40 : decode cX6_open 40 = .ok (.ldc 152, 2) := by decide +kernel
theorem dX6_open_42 : decode cX6_open 42 = .ok (.invokespecial 78, 3) := by decide +kernel
theorem dX6_open_45 : decode cX6_open 45 = .ok (.athrow, 1) := by decide +kernel
theorem dX6_open_46 : decode cX6_open 46 = .ok (.aload_n 0, 1) := by decide +kernel
theorem dX6_open_47 : decode cX6_open 47 = .ok (.getfield 12, 3) := by decide +kernel
theorem dX6_open_50 : decode cX6_open 50 = .ok (.iload_n 3, 1) := by decide +kernel
theorem dX6_open_51 : decode cX6_open 51 = .ok (.iconst 0, 1) := by decide +kernel
theorem dX6_open_52 : decode cX6_open 52 = .ok (.invokevirtual 103, 3) := by decide +kernel
theorem dX6_open_55 : decode cX6_open 55 = .ok (.ifCond .eq 33, 3) := by decide +kernel
theorem dX6_open_58 : decode cX6_open 58 = .ok (.aload_n 0, 1) := by decide +kernel
theorem dX6_open_59 : decode cX6_open 59 = .ok (.iload_n 3, 1) := by decide +kernel
theorem dX6_open_60 : decode cX6_open 60 = .ok (.invokevirtual 185, 3) := by decide +kernel
theorem dX6_open_63 : decode cX6_open 63 = .ok (.ifCond .eq 25, 3) := by decide +kernel
theorem dX6_open_66 : decode cX6_open 66 = .ok (.iload_n 2, 1) := by decide +kernel
theorem dX6_open_67 : decode cX6_open 67 = .ok (.ifCond .eq 11, 3) := by decide +kernel
theorem dX6_open_70 : decode cX6_open 70 = .ok (.aload_n 0, 1) := by decide +kernel
theorem dX6_open_71 : decode cX6_open 71 = .ok (.iload_n 3, 1) := by decide +kernel
theorem dX6_open_72 : decode cX6_open 72 = .ok (.invokevirtual 139, 3) := by decide +kernel
theorem dX6_open_75 : decode cX6_open 75 = .ok (.ifCond .eq 13, 3) := by decide +kernel
theorem dX6_open_78 : decode cX6_open 78 = .ok (.aload_n 0, 1) := by decide +kernel
theorem dX6_open_79 : decode cX6_open 79 = .ok (.getfield 51, 3) := by decide +kernel
theorem dX6_open_82 : decode cX6_open 82 = .ok (.invokevirtual 188, 3) := by decide +kernel
theorem dX6_open_85 : decode cX6_open 85 = .ok (.ifCond .eq 13, 3) := by decide +kernel
theorem dX6_open_88 : decode cX6_open 88 = .ok (.new 110, 3) := by decide +kernel
theorem dX6_open_91 : decode cX6_open 91 = .ok (.dup, 1) := by decide +kernel
theorem dX6_open_92 : decode cX6_open 92 = .ok (.ldc 192, 2) := by decide +kernel
theorem dX6_open_94 : decode cX6_open 94 = .ok (.invokespecial 114, 3) := by decide +kernel
theorem dX6_open_97 : decode cX6_open 97 = .ok (.athrow, 1) := by decide +kernel
theorem dX6_open_98 : decode cX6_open 98 = .ok (.aload_n 0, 1) := by decide +kernel
theorem dX6_open_99 : decode cX6_open 99 = .ok (.getfield 51, 3) := by decide +kernel
theorem dX6_open_102 : decode cX6_open 102 = .ok (.iload_n 3, 1) := by decide +kernel
theorem dX6_open_103 : decode cX6_open 103 = .ok (.iload_n 2, 1) := by decide +kernel
theorem dX6_open_104 : decode cX6_open 104 = .ok (.invokevirtual 194, 3) := by decide +kernel
theorem dX6_open_107 : decode cX6_open 107 = .ok (.ireturn, 1) := by decide +kernel
def f_X6_open (U : S2) (p1 : Int32) (p2 : Int32) : Option (Nat × Int32 × S2) := bn (f_X6_isPath p1) (fun z_1 => if z_1 = 0 then some (1, 0, U) else bn (f_X5_thingAt (U 6) (U 1) p1 1) (fun z_3 => bv (upc U 6 z_3.2) (fun u_4 => if z_3.1 = (-1) then some (2, 0, u_4) else bn (f_X4_isOfKind (u_4 1) z_3.1 0) (fun z_6 => jn (some (3, 0, u_4)) (fun k88_7 => if z_6 = 0 then k88_7 else bn (f_X6_mayRead u_4 z_3.1) (fun z_9 => if z_9 = 0 then k88_7 else jn (bn (f_X3_isSpent (u_4 9)) (fun z_12 => if z_12 = 0 then bn (f_X3_give (u_4 9) z_3.1 p2) (fun z_14 => bv (upc u_4 9 z_14.2) (fun u_15 => some (0, z_14.1, u_15))) else k88_7)) (fun k78_11 => if p2 = 0 then k78_11 else bn (f_X6_mayWrite u_4 z_3.1) (fun z_17 => if z_17 = 0 then k88_7 else k78_11))))))))
def rmX6_open : Room := { frames := 6, cells := 1, slots := 6, locals := 93 }
set_option maxHeartbeats 4000000 in
set_option maxRecDepth 100000 in
theorem c_X6_open (l : Launch) (hst : l.stackTraces = false) (D : va_G) (cI cZ cJ cT : ClassId) (a : Nat → Nat → Nat) (sz : Nat) (U : S2) (p1 : Int32) (p2 : Int32) (o : Nat × Int32 × S2) (hf : f_X6_open U p1 p2 = some o) : vx_Met l yX6_open wsX6_open rmX6_open (va_Pc [.ref (a 0 0), .int p1, .int p2] (PX D cls (tys cI cZ cJ cT) (wI cI cZ cT a U) sz)) (QXi D cls o.1 o.2.1 (wI cI cZ cT a o.2.2) (va_A (wI cI cZ cT a U) sz)) (XX D cls o.1 (wI cI cZ cT a o.2.2) (va_A (wI cI cZ cT a U) sz)) 1 6 (va_A (wI cI cZ cT a U) sz) := by
  refine vx_ofW (cc := cX6_open) (maxL := 4) (ret := (some .int)) (by decide) rfl ?_
  intro p e s m args below meth c s₁ B hml hxt hv
  obtain ⟨hav, ⟨hsz, hP, hK, hD0⟩, hE⟩ := hv
  have hx := B.exec
  have hb := B.bytes
  have hr := B.returns
  have hlocks := B.notSynchronized
  have hts := atoms_spec (ws := wsX6_open) B.pre
  have hown : s.vm.findClass RX6 = some m.cls := findClass_of_methodNamed B.named
  have i6 : ∀ w ∈ wsX60, w ∈ wsX6_open := fun w h => List.mem_cons_of_mem _ (List.mem_append_left _ (List.mem_append_left _ (List.mem_append_left _ (List.mem_append_left _ (List.mem_append_left _ (List.mem_append_left _ (List.mem_append_right _ h)))))))
  have hk12 := hts (.fieldLink RX6 12 "Inodery" "now" "LInodery$Tree;") (by decide +kernel)
  have hk30 := hts (.fieldLink RX6 30 "Inodery" "walk" "LInodery$Walk;") (by decide +kernel)
  have hk51 := hts (.fieldLink RX6 51 "Inodery" "handles" "LInodery$Handles;") (by decide +kernel)
  subst hsz
  have hD := hD0.self (sz := s.heap.size)
  generalize hAe : va_A (wI cI cZ cT a U) s.heap.size = A at hD hE ⊢
  have hA : ∀ q : Nat, s.heap.size ≤ q → A q := fun q h => by rw [← hAe]; exact Or.inr h
  have hS : va_S A s.heap s.heap [] := va_S.rf
  have hDD : ∀ V : S2, va_D A (wI cI cZ cT a V) := fun _ => D_same (w := (wI cI cZ cT a U)) rfl hD
  refine Wq (fun Q hQ => ?_)
  refine W_entry hav (Nat.le_of_ble_eq_true rfl) (fun ls hl => ?_)
  have hl : lv_has ls 4 [(0, .ref (a 0 0)), (1, .int p1), (2, .int p2)] := hl
  unfold f_X6_open at hf
  refine W_heap hP hS (fun H locs hP hS => ?_)
  refine lv_iload_n hx hb dX6_open_0 rfl (lv_at hl 1 rfl) ?_
  obtain ⟨z_1, hz_1, hf⟩ := bn_some hf
  refine c0S (As := [.int p1]) (rest := []) ⟨hx, hb, hml, hown, hts⟩ (c_X6_isPath l D cI cZ cJ cT p1 z_1 hz_1) (va_cwS 1 hts gX6_open_X6_isPath rfl rfl rfl (by decide +kernel) ⟨Nat.le_of_ble_eq_true rfl, Nat.le_of_ble_eq_true rfl⟩) rfl rfl hl.1 (Nat.le_of_ble_eq_true rfl) dX6_open_1 ⟨Nat.le_of_ble_eq_true rfl, Nat.le_of_ble_eq_true rfl⟩ ?_
  refine lv_if_ne (tgt := 17) hx hb dX6_open_4 (by decide) (fun c_2 => ?_) (fun c_2 => ?_)
  · have hf := ite_f hf c_2
    refine lv_aload_n hx hb dX6_open_17 rfl (lv_at hl 0 rfl) ?_
    refine va_get (D := D) (ci := 6) (v := .ref (a 6 0)) (C := RX6) (T := TX6) (N := 11) hx hb hts i6 hown hK (fl_sub hP 0 rfl) 0 rfl rfl 4 (by decide) hk30 (fun _ h9 => h9) rfl dX6_open_18 ?_
    refine lv_aload_n hx hb dX6_open_21 rfl (lv_at hl 0 rfl) ?_
    refine va_get (D := D) (ci := 6) (v := .ref (a 1 0)) (C := RX6) (T := TX6) (N := 11) hx hb hts i6 hown hK (fl_sub hP 0 rfl) 0 rfl rfl 0 (by decide) hk12 (fun _ h9 => h9) rfl dX6_open_22 ?_
    refine lv_iload_n hx hb dX6_open_25 rfl (lv_at hl 1 rfl) ?_
    refine lv_iconst (v := 1) hx hb dX6_open_26 (by decide) ?_
    obtain ⟨z_3, hz_3, hf⟩ := bn_some hf
    refine cWVi (As := [.ref (a 1 0), .int p1, .int 1]) (rest := []) ⟨hx, hb, hml, hown, hts⟩ (c_X5_thingAt l D cI cZ cJ cT (a 6) (a 1) H.size (U 6) (U 1) p1 1 z_3 hz_3) (cwV 3 hts gX6_open_X5_thingAt rfl rfl rfl (by decide +kernel) ⟨Nat.le_of_ble_eq_true rfl, Nat.le_of_ble_eq_true rfl⟩) (fl_subM hP [6, 1] rfl) hK (fl_subDM (hDD U) [6, 1] rfl rfl) hS (own_free (fl_subDM (hDD U) [6, 1] rfl rfl) hS hA) (va_recv hK (fl_sub hP 6 rfl) (ci := 5) (q0 := 0) rfl rfl) rfl rfl hl.1 (Nat.le_of_ble_eq_true rfl) dX6_open_27 ⟨Nat.le_of_ble_eq_true rfl, Nat.le_of_ble_eq_true rfl⟩ (fun H1 locs hP1 hk1 hS => ?_)
    obtain ⟨u_4, hu_4, hf⟩ := bv_some hf
    have hP : va_P D cls (wI cI cZ cT a u_4) H1 := by rw [hu_4]; exact fl_joinM hP (hDD U) [6, 1] rfl rfl hk1 hP1
    clear hP1 hk1
    generalize H1 = H at hP hS ⊢
    refine lv_istore_n (lv' := [(3, .int z_3.1), (0, .ref (a 0 0)), (1, .int p1), (2, .int p2)]) hx hb dX6_open_30 rfl hl (by decide) rfl (fun ls hl => ?_)
    refine lv_iload_n hx hb dX6_open_31 rfl (lv_at hl 0 rfl) ?_
    refine lv_iconst (v := (-1)) hx hb dX6_open_32 (by decide) ?_
    refine lv_icmp_ne (tgt := 46) hx hb dX6_open_33 (by decide) (fun c_5 => ?_) (fun c_5 => ?_)
    · have hf := ite_f hf c_5
      refine lv_aload_n hx hb dX6_open_46 rfl (lv_at hl 1 rfl) ?_
      refine va_get (D := D) (ci := 6) (v := .ref (a 1 0)) (C := RX6) (T := TX6) (N := 11) hx hb hts i6 hown hK (fl_sub hP 0 rfl) 0 rfl rfl 0 (by decide) hk12 (fun _ h9 => h9) rfl dX6_open_47 ?_
      refine lv_iload_n hx hb dX6_open_50 rfl (lv_at hl 0 rfl) ?_
      refine lv_iconst (v := 0) hx hb dX6_open_51 (by decide) ?_
      obtain ⟨z_6, hz_6, hf⟩ := bn_some hf
      refine cRV (As := [.int z_3.1, .int 0]) (rest := []) ⟨hx, hb, hml, hown, hts⟩ (c_X4_isOfKind l D cI cZ cJ cT (a 1) (u_4 1) z_3.1 0 z_6 hz_6) (cwV 2 hts gX6_open_X4_isOfKind rfl rfl rfl (by decide +kernel) ⟨Nat.le_of_ble_eq_true rfl, Nat.le_of_ble_eq_true rfl⟩) (fl_sub hP 1 rfl) hK (va_recv hK (fl_sub hP 1 rfl) (ci := 4) (q0 := 0) rfl rfl) rfl rfl hl.1 (Nat.le_of_ble_eq_true rfl) dX6_open_52 ⟨Nat.le_of_ble_eq_true rfl, Nat.le_of_ble_eq_true rfl⟩ ?_
      obtain ⟨k88_7, hk88_7, hf⟩ := jn_some hf
      have j88_7 : ∀ (H : Heap) (locs : List Loc) (ls : Array Slot), k88_7 = some o → va_P D cls (wI cI cZ cT a u_4) H → va_S A s.heap H locs → lv_has ls 4 [] → W p l e (headSpec wsX6_open rmX6_open).room s m args below meth c H locs 0 0 Q (F0 m 88 ls []) := by
        intro H locs ls hf hP hS hl
        have hf := qa0 hk88_7 hf
        have eo := Option.some.inj hf
        have hP : va_P D cls (wI cI cZ cT a o.2.2) H := by rw [← eo]; exact hP
        rw [hQ]
        have hk0 : o.1 = 3 := by rw [← eo]
        exact thr o.1 (text := "no file, not allowed, or no handle left") (by rw [hk0]; rfl) (by rw [hk0]; decide) hx hb hst hown (by decide +kernel) (hts (.classLink RX6 110 "java/lang/IllegalStateException") (by decide +kernel)) (hts (.initialized "java/lang/IllegalStateException") (by decide +kernel)) (fun w h => hts w (List.mem_cons_of_mem _ (List.mem_append_right _ h))) (EX_b3 hE) ok3 (by decide +kernel) hE hS hP (hl.1.trans hml.symm) dX6_open_88 dX6_open_91 dX6_open_92 dX6_open_94 dX6_open_97 hxt (Nat.le_of_ble_eq_true rfl) (Nat.le_of_ble_eq_true rfl) (Nat.le_of_ble_eq_true rfl) (Nat.le_of_ble_eq_true rfl) hlocks (Nat.le_of_ble_eq_true rfl) (Nat.le_of_ble_eq_true rfl)
      refine lv_if_eq (tgt := 88) hx hb dX6_open_55 (by decide) (fun c_8 => ?_) (fun c_8 => ?_)
      · have hf := ite_t hf c_8
        refine W.widen (k := 0) (n := 0) (Nat.le_of_ble_eq_true rfl) (Nat.le_of_ble_eq_true rfl) ?_
        exact j88_7 _ _ _ hf hP hS (lv_sub hl [] rfl)
      · have hf := ite_f hf c_8
        refine lv_aload_n hx hb dX6_open_58 rfl (lv_at hl 1 rfl) ?_
        refine lv_iload_n hx hb dX6_open_59 rfl (lv_at hl 0 rfl) ?_
        obtain ⟨z_9, hz_9, hf⟩ := bn_some hf
        refine cRV (As := [.int z_3.1]) (rest := []) ⟨hx, hb, hml, hown, hts⟩ (c_X6_mayRead l D cI cZ cJ cT a u_4 z_3.1 z_9 hz_9) (cwV 1 hts gX6_open_X6_mayRead rfl rfl rfl (by decide +kernel) ⟨Nat.le_of_ble_eq_true rfl, Nat.le_of_ble_eq_true rfl⟩) hP hK (va_recv hK (fl_sub hP 0 rfl) (ci := 6) (q0 := 0) rfl rfl) rfl rfl hl.1 (Nat.le_of_ble_eq_true rfl) dX6_open_60 ⟨Nat.le_of_ble_eq_true rfl, Nat.le_of_ble_eq_true rfl⟩ ?_
        refine lv_if_eq (tgt := 88) hx hb dX6_open_63 (by decide) (fun c_10 => ?_) (fun c_10 => ?_)
        · have hf := ite_t hf c_10
          refine W.widen (k := 0) (n := 0) (Nat.le_of_ble_eq_true rfl) (Nat.le_of_ble_eq_true rfl) ?_
          exact j88_7 _ _ _ hf hP hS (lv_sub hl [] rfl)
        · have hf := ite_f hf c_10
          refine lv_iload_n hx hb dX6_open_66 rfl (lv_at hl 3 rfl) ?_
          obtain ⟨k78_11, hk78_11, hf⟩ := jn_some hf
          have j78_11 : ∀ (H : Heap) (locs : List Loc) (ls : Array Slot), k78_11 = some o → va_P D cls (wI cI cZ cT a u_4) H → va_S A s.heap H locs → lv_has ls 4 [(0, .ref (a 0 0)), (2, .int p2), (3, .int z_3.1)] → W p l e (headSpec wsX6_open rmX6_open).room s m args below meth c H locs 0 0 Q (F0 m 78 ls []) := by
            intro H locs ls hf hP hS hl
            have hf := qa0 hk78_11 hf
            refine lv_aload_n hx hb dX6_open_78 rfl (lv_at hl 0 rfl) ?_
            refine va_get (D := D) (ci := 6) (v := .ref (a 9 0)) (C := RX6) (T := TX6) (N := 11) hx hb hts i6 hown hK (fl_sub hP 0 rfl) 0 rfl rfl 7 (by decide) hk51 (fun _ h9 => h9) rfl dX6_open_79 ?_
            obtain ⟨z_12, hz_12, hf⟩ := bn_some hf
            refine cRV (As := []) (rest := []) ⟨hx, hb, hml, hown, hts⟩ (c_X3_isSpent l D cI cZ cJ cT (a 9) (u_4 9) z_12 hz_12) (cwV 0 hts gX6_open_X3_isSpent rfl rfl rfl (by decide +kernel) ⟨Nat.le_of_ble_eq_true rfl, Nat.le_of_ble_eq_true rfl⟩) (fl_sub hP 9 rfl) hK (va_recv hK (fl_sub hP 9 rfl) (ci := 3) (q0 := 0) rfl rfl) rfl rfl hl.1 (Nat.le_of_ble_eq_true rfl) dX6_open_82 ⟨Nat.le_of_ble_eq_true rfl, Nat.le_of_ble_eq_true rfl⟩ ?_
            refine lv_if_eq (tgt := 98) hx hb dX6_open_85 (by decide) (fun c_13 => ?_) (fun c_13 => ?_)
            · have hf := ite_t hf c_13
              refine lv_aload_n hx hb dX6_open_98 rfl (lv_at hl 0 rfl) ?_
              refine va_get (D := D) (ci := 6) (v := .ref (a 9 0)) (C := RX6) (T := TX6) (N := 11) hx hb hts i6 hown hK (fl_sub hP 0 rfl) 0 rfl rfl 7 (by decide) hk51 (fun _ h9 => h9) rfl dX6_open_99 ?_
              refine lv_iload_n hx hb dX6_open_102 rfl (lv_at hl 2 rfl) ?_
              refine lv_iload_n hx hb dX6_open_103 rfl (lv_at hl 1 rfl) ?_
              obtain ⟨z_14, hz_14, hf⟩ := bn_some hf
              refine cWVi (As := [.int z_3.1, .int p2]) (rest := []) ⟨hx, hb, hml, hown, hts⟩ (c_X3_give l D cI cZ cJ cT (a 9) H.size (u_4 9) z_3.1 p2 z_14 hz_14) (cwV 2 hts gX6_open_X3_give rfl rfl rfl (by decide +kernel) ⟨Nat.le_of_ble_eq_true rfl, Nat.le_of_ble_eq_true rfl⟩) (fl_sub hP 9 rfl) hK (fl_subD (hDD u_4) 9 rfl) hS (fl_free (hDD u_4) hS hA 9 rfl) (va_recv hK (fl_sub hP 9 rfl) (ci := 3) (q0 := 0) rfl rfl) rfl rfl hl.1 (Nat.le_of_ble_eq_true rfl) dX6_open_104 ⟨Nat.le_of_ble_eq_true rfl, Nat.le_of_ble_eq_true rfl⟩ (fun H1 locs hP1 hk1 hS => ?_)
              obtain ⟨u_15, hu_15, hf⟩ := bv_some hf
              have hP : va_P D cls (wI cI cZ cT a u_15) H1 := by rw [hu_15]; exact fl_join hP (hDD u_4) 9 rfl hk1 hP1
              clear hP1 hk1
              generalize H1 = H at hP hS ⊢
              have eo := Option.some.inj hf
              have hP : va_P D cls (wI cI cZ cT a o.2.2) H := by rw [← eo]; exact hP
              rw [hQ]
              refine W.widen (k := 1) (n := 6) (Nat.le_of_ble_eq_true rfl) (Nat.le_of_ble_eq_true rfl) ?_
              exact vx_ret (W.iret hx hb hr (fun t ht hW => ⟨⟨_, (), rfl, ⟨(by rw [← eo]), (by rw [← eo])⟩, P_at ht hP⟩, hS.F ht⟩) hS.2.2 dX6_open_107 hlocks)
            · have hf := ite_f hf c_13
              refine W.widen (k := 0) (n := 0) (Nat.le_of_ble_eq_true rfl) (Nat.le_of_ble_eq_true rfl) ?_
              exact j88_7 _ _ _ hf hP hS (lv_sub hl [] rfl)
          refine lv_if_eq (tgt := 78) hx hb dX6_open_67 (by decide) (fun c_16 => ?_) (fun c_16 => ?_)
          · have hf := ite_t hf c_16
            refine W.widen (k := 0) (n := 0) (Nat.le_of_ble_eq_true rfl) (Nat.le_of_ble_eq_true rfl) ?_
            exact j78_11 _ _ _ hf hP hS (lv_sub hl [1, 3, 0] rfl)
          · have hf := ite_f hf c_16
            refine lv_aload_n hx hb dX6_open_70 rfl (lv_at hl 1 rfl) ?_
            refine lv_iload_n hx hb dX6_open_71 rfl (lv_at hl 0 rfl) ?_
            obtain ⟨z_17, hz_17, hf⟩ := bn_some hf
            refine cRV (As := [.int z_3.1]) (rest := []) ⟨hx, hb, hml, hown, hts⟩ (c_X6_mayWrite l D cI cZ cJ cT a u_4 z_3.1 z_17 hz_17) (cwV 1 hts gX6_open_X6_mayWrite rfl rfl rfl (by decide +kernel) ⟨Nat.le_of_ble_eq_true rfl, Nat.le_of_ble_eq_true rfl⟩) hP hK (va_recv hK (fl_sub hP 0 rfl) (ci := 6) (q0 := 0) rfl rfl) rfl rfl hl.1 (Nat.le_of_ble_eq_true rfl) dX6_open_72 ⟨Nat.le_of_ble_eq_true rfl, Nat.le_of_ble_eq_true rfl⟩ ?_
            refine lv_if_eq (tgt := 88) hx hb dX6_open_75 (by decide) (fun c_18 => ?_) (fun c_18 => ?_)
            · have hf := ite_t hf c_18
              refine W.widen (k := 0) (n := 0) (Nat.le_of_ble_eq_true rfl) (Nat.le_of_ble_eq_true rfl) ?_
              exact j88_7 _ _ _ hf hP hS (lv_sub hl [] rfl)
            · have hf := ite_f hf c_18
              refine W.widen (k := 0) (n := 0) (Nat.le_of_ble_eq_true rfl) (Nat.le_of_ble_eq_true rfl) ?_
              exact j78_11 _ _ _ hf hP hS (lv_sub hl [1, 3, 0] rfl)
    · have hf := ite_t hf c_5
      have eo := Option.some.inj hf
      have hP : va_P D cls (wI cI cZ cT a o.2.2) H := by rw [← eo]; exact hP
      rw [hQ]
      have hk0 : o.1 = 2 := by rw [← eo]
      exact thr o.1 (text := "no such thing") (by rw [hk0]; rfl) (by rw [hk0]; decide) hx hb hst hown (by decide +kernel) (hts (.classLink RX6 74 "java/lang/IndexOutOfBoundsException") (by decide +kernel)) (hts (.initialized "java/lang/IndexOutOfBoundsException") (by decide +kernel)) (fun w h => hts w (List.mem_cons_of_mem _ (List.mem_append_left _ (List.mem_append_right _ h)))) (EX_b2 hE) ok2 (by decide +kernel) hE hS hP (hl.1.trans hml.symm) dX6_open_36 dX6_open_39 dX6_open_40 dX6_open_42 dX6_open_45 hxt (Nat.le_of_ble_eq_true rfl) (Nat.le_of_ble_eq_true rfl) (Nat.le_of_ble_eq_true rfl) (Nat.le_of_ble_eq_true rfl) hlocks (Nat.le_of_ble_eq_true rfl) (Nat.le_of_ble_eq_true rfl)
  · have hf := ite_t hf c_2
    have eo := Option.some.inj hf
    have hP : va_P D cls (wI cI cZ cT a o.2.2) H := by rw [← eo]; exact hP
    rw [hQ]
    have hk0 : o.1 = 1 := by rw [← eo]
    exact thr o.1 (text := "path is out of range") (by rw [hk0]; rfl) (by rw [hk0]; decide) hx hb hst hown (by decide +kernel) (hts (.classLink RX6 88 "java/lang/IllegalArgumentException") (by decide +kernel)) (hts (.initialized "java/lang/IllegalArgumentException") (by decide +kernel)) (fun w h => hts w (List.mem_cons_of_mem _ (List.mem_append_left _ (List.mem_append_left _ (List.mem_append_right _ h))))) (EX_b1 hE) ok1 (by decide +kernel) hE hS hP (hl.1.trans hml.symm) dX6_open_7 dX6_open_10 dX6_open_11 dX6_open_13 dX6_open_16 hxt (Nat.le_of_ble_eq_true rfl) (Nat.le_of_ble_eq_true rfl) (Nat.le_of_ble_eq_true rfl) (Nat.le_of_ble_eq_true rfl) hlocks (Nat.le_of_ble_eq_true rfl) (Nat.le_of_ble_eq_true rfl)
set_option maxRecDepth 20000 in
theorem ggX6_demandHandle_X3_isHandle : GoodIn wsX6_demandHandle wsX3_isHandle := goodIn_r _ [8, 9, 21, 22, 23, 24, 25] (by decide +kernel) (by decide +kernel)
set_option maxRecDepth 20000 in
theorem gX6_demandHandle_X3_isHandle : GoodIn wsX6_demandHandle (wsV RX6 412 RX3 yX3_isHandle wsX3_isHandle) := goodIn_app (goodIn_of _ (by decide +kernel)) ggX6_demandHandle_X3_isHandle
theorem dX6_demandHandle_0 : decode cX6_demandHandle 0 = .ok (.aload_n 0, 1) := by decide +kernel
theorem dX6_demandHandle_1 : decode cX6_demandHandle 1 = .ok (.getfield 51, 3) := by decide +kernel
theorem dX6_demandHandle_4 : decode cX6_demandHandle 4 = .ok (.iload_n 1, 1) := by decide +kernel
theorem dX6_demandHandle_5 : decode cX6_demandHandle 5 = .ok (.invokevirtual 412, 3) := by decide +kernel
theorem dX6_demandHandle_8 : decode cX6_demandHandle 8 = .ok (.ifCond .ne 14, 3) := by decide +kernel
theorem dX6_demandHandle_11 : decode cX6_demandHandle 11 = .ok (.new 74, 3) := by decide +kernel
theorem dX6_demandHandle_14 : decode cX6_demandHandle 14 = .ok (.dup, 1) := by decide +kernel
theorem dX6_demandHandle_15 : decode cX6_demandHandle 15 = .ok (.ldc_w 415, 3) := by decide +kernel
theorem dX6_demandHandle_18 : decode cX6_demandHandle 18 = .ok (.invokespecial 78, 3) := by decide +kernel
theorem dX6_demandHandle_21 : decode cX6_demandHandle 21 = .ok (.athrow, 1) := by decide +kernel
theorem dX6_demandHandle_22 : decode cX6_demandHandle 22 = .ok (.return_, 1) := by decide +kernel
def f_X6_demandHandle (U : S2) (p1 : Int32) : Option (Nat × Int32 × S2) := bn (f_X3_isHandle (U 9) p1) (fun z_1 => if z_1 = 0 then some (2, 0, U) else some (0, 0, U))
def rmX6_demandHandle : Room := { frames := 6, cells := 1, slots := 6, locals := 90 }
set_option maxHeartbeats 4000000 in
set_option maxRecDepth 100000 in
theorem c_X6_demandHandle (l : Launch) (hst : l.stackTraces = false) (D : va_G) (cI cZ cJ cT : ClassId) (a : Nat → Nat → Nat) (sz : Nat) (U : S2) (p1 : Int32) (o : Nat × Int32 × S2) (hf : f_X6_demandHandle U p1 = some o) : vx_Met l yX6_demandHandle wsX6_demandHandle rmX6_demandHandle (va_Pc [.ref (a 0 0), .int p1] (PX D cls (tys cI cZ cJ cT) (wI cI cZ cT a U) sz)) (QXv D cls o.1 (wI cI cZ cT a o.2.2) (va_A (wI cI cZ cT a U) sz)) (XX D cls o.1 (wI cI cZ cT a o.2.2) (va_A (wI cI cZ cT a U) sz)) 1 6 (va_A (wI cI cZ cT a U) sz) := by
  refine vx_ofW (cc := cX6_demandHandle) (maxL := 2) (ret := none) (by decide) rfl ?_
  intro p e s m args below meth c s₁ B hml hxt hv
  obtain ⟨hav, ⟨hsz, hP, hK, hD0⟩, hE⟩ := hv
  have hx := B.exec
  have hb := B.bytes
  have hr := B.returns
  have hlocks := B.notSynchronized
  have hts := atoms_spec (ws := wsX6_demandHandle) B.pre
  have hown : s.vm.findClass RX6 = some m.cls := findClass_of_methodNamed B.named
  have i6 : ∀ w ∈ wsX60, w ∈ wsX6_demandHandle := fun w h => List.mem_cons_of_mem _ (List.mem_append_left _ (List.mem_append_left _ (List.mem_append_right _ h)))
  have hk51 := hts (.fieldLink RX6 51 "Inodery" "handles" "LInodery$Handles;") (by decide +kernel)
  subst hsz
  have hD := hD0.self (sz := s.heap.size)
  generalize hAe : va_A (wI cI cZ cT a U) s.heap.size = A at hD hE ⊢
  have hA : ∀ q : Nat, s.heap.size ≤ q → A q := fun q h => by rw [← hAe]; exact Or.inr h
  have hS : va_S A s.heap s.heap [] := va_S.rf
  have hDD : ∀ V : S2, va_D A (wI cI cZ cT a V) := fun _ => D_same (w := (wI cI cZ cT a U)) rfl hD
  refine Wq (fun Q hQ => ?_)
  refine W_entry hav (Nat.le_of_ble_eq_true rfl) (fun ls hl => ?_)
  have hl : lv_has ls 2 [(0, .ref (a 0 0)), (1, .int p1)] := hl
  unfold f_X6_demandHandle at hf
  refine W_heap hP hS (fun H locs hP hS => ?_)
  refine lv_aload_n hx hb dX6_demandHandle_0 rfl (lv_at hl 0 rfl) ?_
  refine va_get (D := D) (ci := 6) (v := .ref (a 9 0)) (C := RX6) (T := TX6) (N := 11) hx hb hts i6 hown hK (fl_sub hP 0 rfl) 0 rfl rfl 7 (by decide) hk51 (fun _ h9 => h9) rfl dX6_demandHandle_1 ?_
  refine lv_iload_n hx hb dX6_demandHandle_4 rfl (lv_at hl 1 rfl) ?_
  obtain ⟨z_1, hz_1, hf⟩ := bn_some hf
  refine cRV (As := [.int p1]) (rest := []) ⟨hx, hb, hml, hown, hts⟩ (c_X3_isHandle l D cI cZ cJ cT (a 9) (U 9) p1 z_1 hz_1) (cwV 1 hts gX6_demandHandle_X3_isHandle rfl rfl rfl (by decide +kernel) ⟨Nat.le_of_ble_eq_true rfl, Nat.le_of_ble_eq_true rfl⟩) (fl_sub hP 9 rfl) hK (va_recv hK (fl_sub hP 9 rfl) (ci := 3) (q0 := 0) rfl rfl) rfl rfl hl.1 (Nat.le_of_ble_eq_true rfl) dX6_demandHandle_5 ⟨Nat.le_of_ble_eq_true rfl, Nat.le_of_ble_eq_true rfl⟩ ?_
  refine lv_if_ne (tgt := 22) hx hb dX6_demandHandle_8 (by decide) (fun c_2 => ?_) (fun c_2 => ?_)
  · have hf := ite_f hf c_2
    have eo := Option.some.inj hf
    have hP : va_P D cls (wI cI cZ cT a o.2.2) H := by rw [← eo]; exact hP
    rw [hQ]
    refine W.widen (k := 1) (n := 6) (Nat.le_of_ble_eq_true rfl) (Nat.le_of_ble_eq_true rfl) ?_
    exact vx_ret (W.vret hx hb hr (fun t ht hW => ⟨⟨(), rfl, (by rw [← eo]), P_at ht hP⟩, hS.F ht⟩) hS.2.2 dX6_demandHandle_22 hlocks)
  · have hf := ite_t hf c_2
    have eo := Option.some.inj hf
    have hP : va_P D cls (wI cI cZ cT a o.2.2) H := by rw [← eo]; exact hP
    rw [hQ]
    have hk0 : o.1 = 2 := by rw [← eo]
    exact thrW o.1 (text := "no such handle") (by rw [hk0]; rfl) (by rw [hk0]; decide) hx hb hst hown (by decide +kernel) (hts (.classLink RX6 74 "java/lang/IndexOutOfBoundsException") (by decide +kernel)) (hts (.initialized "java/lang/IndexOutOfBoundsException") (by decide +kernel)) (fun w h => hts w (List.mem_cons_of_mem _ (List.mem_append_right _ h))) (EX_b2 hE) ok2 (by decide +kernel) hE hS hP (hl.1.trans hml.symm) dX6_demandHandle_11 dX6_demandHandle_14 dX6_demandHandle_15 dX6_demandHandle_18 dX6_demandHandle_21 hxt (Nat.le_of_ble_eq_true rfl) (Nat.le_of_ble_eq_true rfl) (Nat.le_of_ble_eq_true rfl) (Nat.le_of_ble_eq_true rfl) hlocks (Nat.le_of_ble_eq_true rfl) (Nat.le_of_ble_eq_true rfl)
set_option maxRecDepth 20000 in
theorem ggX6_demandOpen_X3_isOpen : GoodIn wsX6_demandOpen wsX3_isOpen := goodIn_r _ [8, 9, 10, 11, 12, 7, 13, 14, 26, 27, 28, 29, 30] (by decide +kernel) (by decide +kernel)
set_option maxRecDepth 20000 in
theorem gX6_demandOpen_X3_isOpen : GoodIn wsX6_demandOpen (wsV RX6 419 RX3 yX3_isOpen wsX3_isOpen) := goodIn_app (goodIn_of _ (by decide +kernel)) ggX6_demandOpen_X3_isOpen
theorem dX6_demandOpen_0 : decode cX6_demandOpen 0 = .ok (.aload_n 0, 1) := by decide +kernel
theorem dX6_demandOpen_1 : decode cX6_demandOpen 1 = .ok (.getfield 51, 3) := by decide +kernel
theorem dX6_demandOpen_4 : decode cX6_demandOpen 4 = .ok (.iload_n 1, 1) := by decide +kernel
theorem dX6_demandOpen_5 : decode cX6_demandOpen 5 = .ok (.invokevirtual 419, 3) := by decide +kernel
theorem dX6_demandOpen_8 : decode cX6_demandOpen 8 = .ok (.ifCond .ne 14, 3) := by decide +kernel
theorem dX6_demandOpen_11 : decode cX6_demandOpen 11 = .ok (.new 110, 3) := by decide +kernel
theorem dX6_demandOpen_14 : decode cX6_demandOpen 14 = .ok (.dup, 1) := by decide +kernel
theorem dX6_demandOpen_15 : decode cX6_demandOpen 15 = .ok (.ldc_w 422, 3) := by decide +kernel
theorem dX6_demandOpen_18 : decode cX6_demandOpen 18 = .ok (.invokespecial 114, 3) := by decide +kernel
theorem dX6_demandOpen_21 : decode cX6_demandOpen 21 = .ok (.athrow, 1) := by decide +kernel
theorem dX6_demandOpen_22 : decode cX6_demandOpen 22 = .ok (.return_, 1) := by decide +kernel
def f_X6_demandOpen (U : S2) (p1 : Int32) : Option (Nat × Int32 × S2) := bn (f_X3_isOpen (U 9) p1) (fun z_1 => if z_1 = 0 then some (3, 0, U) else some (0, 0, U))
def rmX6_demandOpen : Room := { frames := 6, cells := 1, slots := 6, locals := 90 }
set_option maxHeartbeats 4000000 in
set_option maxRecDepth 100000 in
theorem c_X6_demandOpen (l : Launch) (hst : l.stackTraces = false) (D : va_G) (cI cZ cJ cT : ClassId) (a : Nat → Nat → Nat) (sz : Nat) (U : S2) (p1 : Int32) (o : Nat × Int32 × S2) (hf : f_X6_demandOpen U p1 = some o) : vx_Met l yX6_demandOpen wsX6_demandOpen rmX6_demandOpen (va_Pc [.ref (a 0 0), .int p1] (PX D cls (tys cI cZ cJ cT) (wI cI cZ cT a U) sz)) (QXv D cls o.1 (wI cI cZ cT a o.2.2) (va_A (wI cI cZ cT a U) sz)) (XX D cls o.1 (wI cI cZ cT a o.2.2) (va_A (wI cI cZ cT a U) sz)) 1 6 (va_A (wI cI cZ cT a U) sz) := by
  refine vx_ofW (cc := cX6_demandOpen) (maxL := 2) (ret := none) (by decide) rfl ?_
  intro p e s m args below meth c s₁ B hml hxt hv
  obtain ⟨hav, ⟨hsz, hP, hK, hD0⟩, hE⟩ := hv
  have hx := B.exec
  have hb := B.bytes
  have hr := B.returns
  have hlocks := B.notSynchronized
  have hts := atoms_spec (ws := wsX6_demandOpen) B.pre
  have hown : s.vm.findClass RX6 = some m.cls := findClass_of_methodNamed B.named
  have i6 : ∀ w ∈ wsX60, w ∈ wsX6_demandOpen := fun w h => List.mem_cons_of_mem _ (List.mem_append_left _ (List.mem_append_left _ (List.mem_append_right _ h)))
  have hk51 := hts (.fieldLink RX6 51 "Inodery" "handles" "LInodery$Handles;") (by decide +kernel)
  subst hsz
  have hD := hD0.self (sz := s.heap.size)
  generalize hAe : va_A (wI cI cZ cT a U) s.heap.size = A at hD hE ⊢
  have hA : ∀ q : Nat, s.heap.size ≤ q → A q := fun q h => by rw [← hAe]; exact Or.inr h
  have hS : va_S A s.heap s.heap [] := va_S.rf
  have hDD : ∀ V : S2, va_D A (wI cI cZ cT a V) := fun _ => D_same (w := (wI cI cZ cT a U)) rfl hD
  refine Wq (fun Q hQ => ?_)
  refine W_entry hav (Nat.le_of_ble_eq_true rfl) (fun ls hl => ?_)
  have hl : lv_has ls 2 [(0, .ref (a 0 0)), (1, .int p1)] := hl
  unfold f_X6_demandOpen at hf
  refine W_heap hP hS (fun H locs hP hS => ?_)
  refine lv_aload_n hx hb dX6_demandOpen_0 rfl (lv_at hl 0 rfl) ?_
  refine va_get (D := D) (ci := 6) (v := .ref (a 9 0)) (C := RX6) (T := TX6) (N := 11) hx hb hts i6 hown hK (fl_sub hP 0 rfl) 0 rfl rfl 7 (by decide) hk51 (fun _ h9 => h9) rfl dX6_demandOpen_1 ?_
  refine lv_iload_n hx hb dX6_demandOpen_4 rfl (lv_at hl 1 rfl) ?_
  obtain ⟨z_1, hz_1, hf⟩ := bn_some hf
  refine cRV (As := [.int p1]) (rest := []) ⟨hx, hb, hml, hown, hts⟩ (c_X3_isOpen l D cI cZ cJ cT (a 9) (U 9) p1 z_1 hz_1) (cwV 1 hts gX6_demandOpen_X3_isOpen rfl rfl rfl (by decide +kernel) ⟨Nat.le_of_ble_eq_true rfl, Nat.le_of_ble_eq_true rfl⟩) (fl_sub hP 9 rfl) hK (va_recv hK (fl_sub hP 9 rfl) (ci := 3) (q0 := 0) rfl rfl) rfl rfl hl.1 (Nat.le_of_ble_eq_true rfl) dX6_demandOpen_5 ⟨Nat.le_of_ble_eq_true rfl, Nat.le_of_ble_eq_true rfl⟩ ?_
  refine lv_if_ne (tgt := 22) hx hb dX6_demandOpen_8 (by decide) (fun c_2 => ?_) (fun c_2 => ?_)
  · have hf := ite_f hf c_2
    have eo := Option.some.inj hf
    have hP : va_P D cls (wI cI cZ cT a o.2.2) H := by rw [← eo]; exact hP
    rw [hQ]
    refine W.widen (k := 1) (n := 6) (Nat.le_of_ble_eq_true rfl) (Nat.le_of_ble_eq_true rfl) ?_
    exact vx_ret (W.vret hx hb hr (fun t ht hW => ⟨⟨(), rfl, (by rw [← eo]), P_at ht hP⟩, hS.F ht⟩) hS.2.2 dX6_demandOpen_22 hlocks)
  · have hf := ite_t hf c_2
    have eo := Option.some.inj hf
    have hP : va_P D cls (wI cI cZ cT a o.2.2) H := by rw [← eo]; exact hP
    rw [hQ]
    have hk0 : o.1 = 3 := by rw [← eo]
    exact thrW o.1 (text := "the handle is closed") (by rw [hk0]; rfl) (by rw [hk0]; decide) hx hb hst hown (by decide +kernel) (hts (.classLink RX6 110 "java/lang/IllegalStateException") (by decide +kernel)) (hts (.initialized "java/lang/IllegalStateException") (by decide +kernel)) (fun w h => hts w (List.mem_cons_of_mem _ (List.mem_append_right _ h))) (EX_b3 hE) ok3 (by decide +kernel) hE hS hP (hl.1.trans hml.symm) dX6_demandOpen_11 dX6_demandOpen_14 dX6_demandOpen_15 dX6_demandOpen_18 dX6_demandOpen_21 hxt (Nat.le_of_ble_eq_true rfl) (Nat.le_of_ble_eq_true rfl) (Nat.le_of_ble_eq_true rfl) (Nat.le_of_ble_eq_true rfl) hlocks (Nat.le_of_ble_eq_true rfl) (Nat.le_of_ble_eq_true rfl)
set_option maxRecDepth 20000 in
theorem ggX6_close_X0_tellError : GoodIn wsX6_close wsX0_tellError := goodIn_r _ [38, 39, 40, 41, 42, 37, 43, 127, 128, 129] (by decide +kernel) (by decide +kernel)
set_option maxRecDepth 20000 in
theorem gX6_close_X0_tellError : GoodIn wsX6_close (wsV RX6 208 RX0 yX0_tellError wsX0_tellError) := goodIn_app (goodIn_of _ (by decide +kernel)) ggX6_close_X0_tellError
set_option maxRecDepth 20000 in
theorem ggX6_close_X3_shut : GoodIn wsX6_close wsX3_shut := goodIn_r _ [47, 27, 28, 12, 13, 14, 15, 16, 48, 49, 50, 51, 52, 122, 123, 124, 125, 126] (by decide +kernel) (by decide +kernel)
set_option maxRecDepth 20000 in
theorem gX6_close_X3_shut : GoodIn wsX6_close (wsV RX6 211 RX3 yX3_shut wsX3_shut) := goodIn_app (goodIn_of _ (by decide +kernel)) ggX6_close_X3_shut
set_option maxRecDepth 20000 in
theorem ggX6_close_X3_thingOf : GoodIn wsX6_close wsX3_thingOf := goodIn_r _ [32, 33, 28, 12, 13, 14, 15, 16, 122, 123, 124, 125, 126] (by decide +kernel) (by decide +kernel)
set_option maxRecDepth 20000 in
theorem gX6_close_X3_thingOf : GoodIn wsX6_close (wsV RX6 205 RX3 yX3_thingOf wsX3_thingOf) := goodIn_app (goodIn_of _ (by decide +kernel)) ggX6_close_X3_thingOf
set_option maxRecDepth 20000 in
theorem ggX6_close_X4_countOf : GoodIn wsX6_close wsX4_countOf := goodIn_r _ [57, 58, 59, 60, 56, 61, 130, 131, 132, 133, 134, 135, 136, 137, 138, 139, 140, 141] (by decide +kernel) (by decide +kernel)
set_option maxRecDepth 20000 in
theorem gX6_close_X4_countOf : GoodIn wsX6_close (wsV RX6 119 RX4 yX4_countOf wsX4_countOf) := goodIn_app (goodIn_of _ (by decide +kernel)) ggX6_close_X4_countOf
set_option maxRecDepth 20000 in
theorem ggX6_close_X6_demandHandle : GoodIn wsX6_close wsX6_demandHandle := goodIn_ca (goodIn_r _ [8, 9, 10, 1, 11, 12, 13, 14, 15, 16, 111, 112, 113, 114, 115, 116, 117, 118, 119, 120, 121, 122, 123, 124, 125, 126] (by decide +kernel) (by decide +kernel)) (goodIn_sub (fun _ h => List.mem_cons_of_mem _ (List.mem_append_left _ (List.mem_append_right _ h))) (by decide +kernel))
set_option maxRecDepth 20000 in
theorem gX6_close_X6_demandHandle : GoodIn wsX6_close (wsV RX6 198 RX6 yX6_demandHandle wsX6_demandHandle) := goodIn_app (goodIn_of _ (by decide +kernel)) ggX6_close_X6_demandHandle
set_option maxRecDepth 20000 in
theorem ggX6_close_X6_demandOpen : GoodIn wsX6_close wsX6_demandOpen := goodIn_ca (goodIn_r _ [20, 21, 22, 1, 23, 24, 25, 14, 26, 27, 28, 12, 13, 15, 16, 111, 112, 113, 114, 115, 116, 117, 118, 119, 120, 121, 122, 123, 124, 125, 126] (by decide +kernel) (by decide +kernel)) (goodIn_sub (fun _ h => List.mem_cons_of_mem _ (List.mem_append_right _ h)) (by decide +kernel))
set_option maxRecDepth 20000 in
theorem gX6_close_X6_demandOpen : GoodIn wsX6_close (wsV RX6 202 RX6 yX6_demandOpen wsX6_demandOpen) := goodIn_app (goodIn_of _ (by decide +kernel)) ggX6_close_X6_demandOpen
set_option maxRecDepth 20000 in
theorem ggX6_close_X6_goneUnlessOpen : GoodIn wsX6_close wsX6_goneUnlessOpen := goodIn_r _ [65, 1, 3, 2, 66, 67, 68, 14, 69, 70, 71, 72, 73, 74, 24, 25, 26, 27, 28, 12, 13, 15, 16, 75, 30, 31, 32, 33, 76, 77, 78, 56, 79, 80, 58, 81, 59, 60, 61, 82, 83, 84, 85, 86, 87, 88, 89, 90, 91, 92, 93, 94, 95, 96, 97, 98, 99, 37, 100, 101, 102, 103, 104, 105, 106, 107, 108, 109, 110, 35, 36, 38, 39, 40, 41, 42, 43, 111, 112, 113, 114, 115, 116, 117, 118, 119, 120, 121, 122, 123, 124, 125, 126, 130, 131, 132, 133, 134, 135, 136, 137, 138, 139, 140, 141, 127, 128, 129] (by decide +kernel) (by decide +kernel)
set_option maxRecDepth 20000 in
theorem gX6_close_X6_goneUnlessOpen : GoodIn wsX6_close (wsV RX6 214 RX6 yX6_goneUnlessOpen wsX6_goneUnlessOpen) := goodIn_app (goodIn_of _ (by decide +kernel)) ggX6_close_X6_goneUnlessOpen
theorem dX6_close_0 : decode cX6_close 0 = .ok (.aload_n 0, 1) := by decide +kernel
theorem dX6_close_1 : decode cX6_close 1 = .ok (.iload_n 1, 1) := by decide +kernel
theorem dX6_close_2 : decode cX6_close 2 = .ok (.invokevirtual 198, 3) := by decide +kernel
theorem dX6_close_5 : decode cX6_close 5 = .ok (.aload_n 0, 1) := by decide +kernel
theorem dX6_close_6 : decode cX6_close 6 = .ok (.iload_n 1, 1) := by decide +kernel
theorem dX6_close_7 : decode cX6_close 7 = .ok (.invokevirtual 202, 3) := by decide +kernel
theorem dX6_close_10 : decode cX6_close 10 = .ok (.aload_n 0, 1) := by decide +kernel
theorem dX6_close_11 : decode cX6_close 11 = .ok (.getfield 51, 3) := by decide +kernel
theorem dX6_close_14 : decode cX6_close 14 = .ok (.iload_n 1, 1) := by decide +kernel
theorem dX6_close_15 : decode cX6_close 15 = .ok (.invokevirtual 205, 3) := by decide +kernel
theorem dX6_close_18 : decode cX6_close 18 = .ok (.istore_n 2, 1) := by decide +kernel
theorem dX6_close_19 : decode cX6_close 19 = .ok (.aload_n 0, 1) := by decide +kernel
theorem dX6_close_20 : decode cX6_close 20 = .ok (.getfield 44, 3) := by decide +kernel
theorem dX6_close_23 : decode cX6_close 23 = .ok (.iload_n 2, 1) := by decide +kernel
theorem dX6_close_24 : decode cX6_close 24 = .ok (.invokevirtual 208, 3) := by decide +kernel
theorem dX6_close_27 : decode cX6_close 27 = .ok (.istore_n 3, 1) := by decide +kernel
theorem dX6_close_28 : decode cX6_close 28 = .ok (.aload_n 0, 1) := by decide +kernel
theorem dX6_close_29 : decode cX6_close 29 = .ok (.getfield 51, 3) := by decide +kernel
theorem dX6_close_32 : decode cX6_close 32 = .ok (.iload_n 1, 1) := by decide +kernel
theorem dX6_close_33 : decode cX6_close 33 = .ok (.invokevirtual 211, 3) := by decide +kernel
theorem dX6_close_36 : decode cX6_close 36 = .ok (.aload_n 0, 1) := by decide +kernel
theorem dX6_close_37 : decode cX6_close 37 = .ok (.getfield 12, 3) := by decide +kernel
theorem dX6_close_40 : decode cX6_close 40 = .ok (.iload_n 2, 1) := by decide +kernel
theorem dX6_close_41 : decode cX6_close 41 = .ok (.invokevirtual 119, 3) := by decide +kernel
theorem dX6_close_44 : decode cX6_close 44 = .ok (.ifCond .ne 9, 3) := by decide +kernel
theorem dX6_close_47 : decode cX6_close 47 = .ok (.aload_n 0, 1) := by decide +kernel
theorem dX6_close_48 : decode cX6_close 48 = .ok (.iload_n 2, 1) := by decide +kernel
theorem dX6_close_49 : decode cX6_close 49 = .ok (.invokevirtual 214, 3) := by decide +kernel
theorem dX6_close_52 : decode cX6_close 52 = .ok (.pop, 1) := by decide +kernel
theorem dX6_close_53 : decode cX6_close 53 = .ok (.iload_n 3, 1) := by decide +kernel
theorem dX6_close_54 : decode cX6_close 54 = .ok (.ireturn, 1) := by decide +kernel
def f_X6_close (U : S2) (p1 : Int32) : Option (Nat × Int32 × S2) := bn (f_X6_demandHandle U p1) (fun z_1 => if z_1.1 = 0 then bn (f_X6_demandOpen z_1.2.2 p1) (fun z_3 => if z_3.1 = 0 then bn (f_X3_thingOf (z_3.2.2 9) p1) (fun z_5 => bn (f_X0_tellError (z_3.2.2 8) z_5) (fun z_6 => bv (upc z_3.2.2 8 z_6.2) (fun u_7 => bn (f_X3_shut (u_7 9) p1) (fun z_8 => bv (upc u_7 9 z_8) (fun u_9 => bn (f_X4_countOf (u_9 1) z_5) (fun z_10 => jn (fun (u53_11_0 : S2) => some (0, vp_nar .boolean z_6.1, u53_11_0)) (fun k53_11 => if z_10 = 0 then bn (f_X6_goneUnlessOpen u_9 z_5) (fun z_13 => k53_11 z_13.2) else k53_11 u_9))))))) else some (z_3.1, 0, z_3.2.2)) else some (z_1.1, 0, z_1.2.2))
def rmX6_close : Room := { frames := 7, cells := 2, slots := 12, locals := 111 }
set_option maxHeartbeats 4000000 in
set_option maxRecDepth 100000 in
theorem c_X6_close (l : Launch) (hst : l.stackTraces = false) (D : va_G) (cI cZ cJ cT : ClassId) (a : Nat → Nat → Nat) (sz : Nat) (U : S2) (p1 : Int32) (o : Nat × Int32 × S2) (hf : f_X6_close U p1 = some o) : vx_Met l yX6_close wsX6_close rmX6_close (va_Pc [.ref (a 0 0), .int p1] (PX D cls (tys cI cZ cJ cT) (wI cI cZ cT a U) sz)) (QXi D cls o.1 o.2.1 (wI cI cZ cT a o.2.2) (va_A (wI cI cZ cT a U) sz)) (XX D cls o.1 (wI cI cZ cT a o.2.2) (va_A (wI cI cZ cT a U) sz)) 2 12 (va_A (wI cI cZ cT a U) sz) := by
  refine vx_ofW (cc := cX6_close) (maxL := 4) (ret := (some .boolean)) (by decide) rfl ?_
  intro p e s m args below meth c s₁ B hml hxt hv
  obtain ⟨hav, ⟨hsz, hP, hK, hD0⟩, hE⟩ := hv
  have hx := B.exec
  have hb := B.bytes
  have hr := B.returns
  have hlocks := B.notSynchronized
  have hts := atoms_spec (ws := wsX6_close) B.pre
  have hown : s.vm.findClass RX6 = some m.cls := findClass_of_methodNamed B.named
  have i6 : ∀ w ∈ wsX60, w ∈ wsX6_close := fun w h => List.mem_cons_of_mem _ (List.mem_append_left _ (List.mem_append_left _ (List.mem_append_left _ (List.mem_append_left _ (List.mem_append_left _ (List.mem_append_right _ h))))))
  have hk12 := hts (.fieldLink RX6 12 "Inodery" "now" "LInodery$Tree;") (by decide +kernel)
  have hk44 := hts (.fieldLink RX6 44 "Inodery" "cache" "LInodery$Cache;") (by decide +kernel)
  have hk51 := hts (.fieldLink RX6 51 "Inodery" "handles" "LInodery$Handles;") (by decide +kernel)
  subst hsz
  have hD := hD0.self (sz := s.heap.size)
  generalize hAe : va_A (wI cI cZ cT a U) s.heap.size = A at hD hE ⊢
  have hA : ∀ q : Nat, s.heap.size ≤ q → A q := fun q h => by rw [← hAe]; exact Or.inr h
  have hS : va_S A s.heap s.heap [] := va_S.rf
  have hDD : ∀ V : S2, va_D A (wI cI cZ cT a V) := fun _ => D_same (w := (wI cI cZ cT a U)) rfl hD
  refine Wq (fun Q hQ => ?_)
  refine W_entry hav (Nat.le_of_ble_eq_true rfl) (fun ls hl => ?_)
  have hl : lv_has ls 4 [(0, .ref (a 0 0)), (1, .int p1)] := hl
  unfold f_X6_close at hf
  refine W_heap hP hS (fun H locs hP hS => ?_)
  refine lv_aload_n hx hb dX6_close_0 rfl (lv_at hl 0 rfl) ?_
  refine lv_iload_n hx hb dX6_close_1 rfl (lv_at hl 1 rfl) ?_
  obtain ⟨z_1, hz_1, hf⟩ := bn_some hf
  refine cXVv (As := [.int p1]) (rest := []) ⟨hx, hb, hml, hown, hts⟩ (c_X6_demandHandle l hst D cI cZ cJ cT a H.size U p1 z_1 hz_1) (cwV 1 hts gX6_close_X6_demandHandle rfl rfl rfl (by decide +kernel) ⟨Nat.le_of_ble_eq_true rfl, Nat.le_of_ble_eq_true rfl⟩) hP hK (hDD U) hE hS (own_free (hDD U) hS hA) (va_recv hK (fl_sub hP 0 rfl) (ci := 6) (q0 := 0) rfl rfl) rfl rfl hl.1 (Nat.le_of_ble_eq_true rfl) dX6_close_2 ⟨Nat.le_of_ble_eq_true rfl, Nat.le_of_ble_eq_true rfl⟩ (fun E ce q9 H locs k_2 hE9 hP hS hce hcv hcl => ?_) (fun H locs k_2 hP hS => ?_)
  · have hf := ite_f hf k_2
    have eo := Option.some.inj hf
    have hP : va_P D cls (wI cI cZ cT a o.2.2) H := by rw [← eo]; exact hP
    rw [hQ]
    exact xout (k := o.1) hxt hlocks (by rw [← eo]; exact k_2) (by rw [← eo]; exact hE9) hP hS hce hcv hcl (Nat.le_of_ble_eq_true rfl) (Nat.le_of_ble_eq_true rfl)
  have hf := ite_t hf k_2
  refine lv_aload_n hx hb dX6_close_5 rfl (lv_at hl 0 rfl) ?_
  refine lv_iload_n hx hb dX6_close_6 rfl (lv_at hl 1 rfl) ?_
  obtain ⟨z_3, hz_3, hf⟩ := bn_some hf
  refine cXVv (As := [.int p1]) (rest := []) ⟨hx, hb, hml, hown, hts⟩ (c_X6_demandOpen l hst D cI cZ cJ cT a H.size z_1.2.2 p1 z_3 hz_3) (cwV 1 hts gX6_close_X6_demandOpen rfl rfl rfl (by decide +kernel) ⟨Nat.le_of_ble_eq_true rfl, Nat.le_of_ble_eq_true rfl⟩) hP hK (hDD z_1.2.2) hE hS (own_free (hDD z_1.2.2) hS hA) (va_recv hK (fl_sub hP 0 rfl) (ci := 6) (q0 := 0) rfl rfl) rfl rfl hl.1 (Nat.le_of_ble_eq_true rfl) dX6_close_7 ⟨Nat.le_of_ble_eq_true rfl, Nat.le_of_ble_eq_true rfl⟩ (fun E ce q9 H locs k_4 hE9 hP hS hce hcv hcl => ?_) (fun H locs k_4 hP hS => ?_)
  · have hf := ite_f hf k_4
    have eo := Option.some.inj hf
    have hP : va_P D cls (wI cI cZ cT a o.2.2) H := by rw [← eo]; exact hP
    rw [hQ]
    exact xout (k := o.1) hxt hlocks (by rw [← eo]; exact k_4) (by rw [← eo]; exact hE9) hP hS hce hcv hcl (Nat.le_of_ble_eq_true rfl) (Nat.le_of_ble_eq_true rfl)
  have hf := ite_t hf k_4
  refine lv_aload_n hx hb dX6_close_10 rfl (lv_at hl 0 rfl) ?_
  refine va_get (D := D) (ci := 6) (v := .ref (a 9 0)) (C := RX6) (T := TX6) (N := 11) hx hb hts i6 hown hK (fl_sub hP 0 rfl) 0 rfl rfl 7 (by decide) hk51 (fun _ h9 => h9) rfl dX6_close_11 ?_
  refine lv_iload_n hx hb dX6_close_14 rfl (lv_at hl 1 rfl) ?_
  obtain ⟨z_5, hz_5, hf⟩ := bn_some hf
  refine cRV (As := [.int p1]) (rest := []) ⟨hx, hb, hml, hown, hts⟩ (c_X3_thingOf l D cI cZ cJ cT (a 9) (z_3.2.2 9) p1 z_5 hz_5) (cwV 1 hts gX6_close_X3_thingOf rfl rfl rfl (by decide +kernel) ⟨Nat.le_of_ble_eq_true rfl, Nat.le_of_ble_eq_true rfl⟩) (fl_sub hP 9 rfl) hK (va_recv hK (fl_sub hP 9 rfl) (ci := 3) (q0 := 0) rfl rfl) rfl rfl hl.1 (Nat.le_of_ble_eq_true rfl) dX6_close_15 ⟨Nat.le_of_ble_eq_true rfl, Nat.le_of_ble_eq_true rfl⟩ ?_
  refine lv_istore_n (lv' := [(2, .int z_5), (0, .ref (a 0 0)), (1, .int p1)]) hx hb dX6_close_18 rfl hl (by decide) rfl (fun ls hl => ?_)
  refine lv_aload_n hx hb dX6_close_19 rfl (lv_at hl 1 rfl) ?_
  refine va_get (D := D) (ci := 6) (v := .ref (a 8 0)) (C := RX6) (T := TX6) (N := 11) hx hb hts i6 hown hK (fl_sub hP 0 rfl) 0 rfl rfl 6 (by decide) hk44 (fun _ h9 => h9) rfl dX6_close_20 ?_
  refine lv_iload_n hx hb dX6_close_23 rfl (lv_at hl 0 rfl) ?_
  obtain ⟨z_6, hz_6, hf⟩ := bn_some hf
  refine cWVi (As := [.int z_5]) (rest := []) ⟨hx, hb, hml, hown, hts⟩ (c_X0_tellError l D cI cZ cJ cT (a 8) H.size (z_3.2.2 8) z_5 z_6 hz_6) (cwV 1 hts gX6_close_X0_tellError rfl rfl rfl (by decide +kernel) ⟨Nat.le_of_ble_eq_true rfl, Nat.le_of_ble_eq_true rfl⟩) (fl_sub hP 8 rfl) hK (fl_subD (hDD z_3.2.2) 8 rfl) hS (fl_free (hDD z_3.2.2) hS hA 8 rfl) (va_recv hK (fl_sub hP 8 rfl) (ci := 0) (q0 := 0) rfl rfl) rfl rfl hl.1 (Nat.le_of_ble_eq_true rfl) dX6_close_24 ⟨Nat.le_of_ble_eq_true rfl, Nat.le_of_ble_eq_true rfl⟩ (fun H1 locs hP1 hk1 hS => ?_)
  obtain ⟨u_7, hu_7, hf⟩ := bv_some hf
  have hP : va_P D cls (wI cI cZ cT a u_7) H1 := by rw [hu_7]; exact fl_join hP (hDD z_3.2.2) 8 rfl hk1 hP1
  clear hP1 hk1
  generalize H1 = H at hP hS ⊢
  refine lv_istore_n (lv' := [(3, .int z_6.1), (2, .int z_5), (0, .ref (a 0 0)), (1, .int p1)]) hx hb dX6_close_27 rfl hl (by decide) rfl (fun ls hl => ?_)
  refine lv_aload_n hx hb dX6_close_28 rfl (lv_at hl 2 rfl) ?_
  refine va_get (D := D) (ci := 6) (v := .ref (a 9 0)) (C := RX6) (T := TX6) (N := 11) hx hb hts i6 hown hK (fl_sub hP 0 rfl) 0 rfl rfl 7 (by decide) hk51 (fun _ h9 => h9) rfl dX6_close_29 ?_
  refine lv_iload_n hx hb dX6_close_32 rfl (lv_at hl 3 rfl) ?_
  obtain ⟨z_8, hz_8, hf⟩ := bn_some hf
  refine cWVv (As := [.int p1]) (rest := []) ⟨hx, hb, hml, hown, hts⟩ (c_X3_shut l D cI cZ cJ cT (a 9) H.size (u_7 9) p1 z_8 hz_8) (cwV 1 hts gX6_close_X3_shut rfl rfl rfl (by decide +kernel) ⟨Nat.le_of_ble_eq_true rfl, Nat.le_of_ble_eq_true rfl⟩) (fl_sub hP 9 rfl) hK (fl_subD (hDD u_7) 9 rfl) hS (fl_free (hDD u_7) hS hA 9 rfl) (va_recv hK (fl_sub hP 9 rfl) (ci := 3) (q0 := 0) rfl rfl) rfl rfl hl.1 (Nat.le_of_ble_eq_true rfl) dX6_close_33 ⟨Nat.le_of_ble_eq_true rfl, Nat.le_of_ble_eq_true rfl⟩ (fun H1 locs hP1 hk1 hS => ?_)
  obtain ⟨u_9, hu_9, hf⟩ := bv_some hf
  have hP : va_P D cls (wI cI cZ cT a u_9) H1 := by rw [hu_9]; exact fl_join hP (hDD u_7) 9 rfl hk1 hP1
  clear hP1 hk1
  generalize H1 = H at hP hS ⊢
  refine lv_aload_n hx hb dX6_close_36 rfl (lv_at hl 2 rfl) ?_
  refine va_get (D := D) (ci := 6) (v := .ref (a 1 0)) (C := RX6) (T := TX6) (N := 11) hx hb hts i6 hown hK (fl_sub hP 0 rfl) 0 rfl rfl 0 (by decide) hk12 (fun _ h9 => h9) rfl dX6_close_37 ?_
  refine lv_iload_n hx hb dX6_close_40 rfl (lv_at hl 1 rfl) ?_
  obtain ⟨z_10, hz_10, hf⟩ := bn_some hf
  refine cRV (As := [.int z_5]) (rest := []) ⟨hx, hb, hml, hown, hts⟩ (c_X4_countOf l D cI cZ cJ cT (a 1) (u_9 1) z_5 z_10 hz_10) (cwV 1 hts gX6_close_X4_countOf rfl rfl rfl (by decide +kernel) ⟨Nat.le_of_ble_eq_true rfl, Nat.le_of_ble_eq_true rfl⟩) (fl_sub hP 1 rfl) hK (va_recv hK (fl_sub hP 1 rfl) (ci := 4) (q0 := 0) rfl rfl) rfl rfl hl.1 (Nat.le_of_ble_eq_true rfl) dX6_close_41 ⟨Nat.le_of_ble_eq_true rfl, Nat.le_of_ble_eq_true rfl⟩ ?_
  obtain ⟨k53_11, hk53_11, hf⟩ := jn_some hf
  have j53_11 : ∀ (u53_11_0 : S2) (H : Heap) (locs : List Loc) (ls : Array Slot), k53_11 u53_11_0 = some o → va_P D cls (wI cI cZ cT a u53_11_0) H → va_S A s.heap H locs → lv_has ls 4 [(3, .int z_6.1)] → W p l e (headSpec wsX6_close rmX6_close).room s m args below meth c H locs 2 12 Q (F0 m 53 ls []) := by
    intro u53_11_0 H locs ls hf hP hS hl
    have hf := qa1 hk53_11 hf
    refine lv_iload_n hx hb dX6_close_53 rfl (lv_at hl 0 rfl) ?_
    have eo := Option.some.inj hf
    have hP : va_P D cls (wI cI cZ cT a o.2.2) H := by rw [← eo]; exact hP
    rw [hQ]
    refine W.widen (k := 2) (n := 12) (Nat.le_of_ble_eq_true rfl) (Nat.le_of_ble_eq_true rfl) ?_
    exact vx_ret (zretN (v := z_6.1) (v' := vp_nar .boolean z_6.1) hx hb hr rfl (fun t ht hW => ⟨⟨_, (), rfl, ⟨(by rw [← eo]), (by rw [← eo])⟩, P_at ht hP⟩, hS.F ht⟩) hS.2.2 dX6_close_54 hlocks)
  refine lv_if_ne (tgt := 53) hx hb dX6_close_44 (by decide) (fun c_12 => ?_) (fun c_12 => ?_)
  · have hf := ite_f hf c_12
    refine W.widen (k := 2) (n := 12) (Nat.le_of_ble_eq_true rfl) (Nat.le_of_ble_eq_true rfl) ?_
    exact j53_11 _ _ _ _ hf hP hS (lv_sub hl [0] rfl)
  · have hf := ite_t hf c_12
    refine lv_aload_n hx hb dX6_close_47 rfl (lv_at hl 2 rfl) ?_
    refine lv_iload_n hx hb dX6_close_48 rfl (lv_at hl 1 rfl) ?_
    obtain ⟨z_13, hz_13, hf⟩ := bn_some hf
    refine cWVi (As := [.int z_5]) (rest := []) ⟨hx, hb, hml, hown, hts⟩ (c_X6_goneUnlessOpen l D cI cZ cJ cT a H.size u_9 z_5 z_13 hz_13) (cwV 1 hts gX6_close_X6_goneUnlessOpen rfl rfl rfl (by decide +kernel) ⟨Nat.le_of_ble_eq_true rfl, Nat.le_of_ble_eq_true rfl⟩) hP hK (hDD u_9) hS (own_free (hDD u_9) hS hA) (va_recv hK (fl_sub hP 0 rfl) (ci := 6) (q0 := 0) rfl rfl) rfl rfl hl.1 (Nat.le_of_ble_eq_true rfl) dX6_close_49 ⟨Nat.le_of_ble_eq_true rfl, Nat.le_of_ble_eq_true rfl⟩ (fun H locs hP _ hS => ?_)
    refine lv_pop hx hb dX6_close_52 rfl ?_
    refine W.widen (k := 2) (n := 12) (Nat.le_of_ble_eq_true rfl) (Nat.le_of_ble_eq_true rfl) ?_
    exact j53_11 _ _ _ _ hf hP hS (lv_sub hl [0] rfl)
theorem dX6_isPage_0 : decode cX6_isPage 0 = .ok (.iload_n 0, 1) := by decide +kernel
theorem dX6_isPage_1 : decode cX6_isPage 1 = .ok (.ifCond .lt 13, 3) := by decide +kernel
theorem dX6_isPage_4 : decode cX6_isPage 4 = .ok (.iload_n 0, 1) := by decide +kernel
theorem dX6_isPage_5 : decode cX6_isPage 5 = .ok (.bipush 16, 2) := by decide +kernel
theorem dX6_isPage_7 : decode cX6_isPage 7 = .ok (.if_icmp .ge 7, 3) := by decide +kernel
theorem dX6_isPage_10 : decode cX6_isPage 10 = .ok (.iconst 1, 1) := by decide +kernel
theorem dX6_isPage_11 : decode cX6_isPage 11 = .ok (.goto 4, 3) := by decide +kernel
theorem dX6_isPage_14 : decode cX6_isPage 14 = .ok (.iconst 0, 1) := by decide +kernel
theorem dX6_isPage_15 : decode cX6_isPage 15 = .ok (.ireturn, 1) := by decide +kernel
def f_X6_isPage (p0 : Int32) : Option (Int32) := jn (fun (v15_1_0 : Int32) => some (vp_nar .boolean v15_1_0)) (fun k15_1 => jn (k15_1 0) (fun k14_2 => if p0 < 0 then k14_2 else if 16 ≤ p0 then k14_2 else k15_1 1))
def rmX6_isPage : Room := { frames := 0, cells := 0, slots := 0, locals := 0 }
set_option maxHeartbeats 4000000 in
set_option maxRecDepth 100000 in
theorem c_X6_isPage (l : Launch) (D : va_G) (cI cZ cJ cT : ClassId) (p0 : Int32) (o : Int32) (hf : f_X6_isPage p0 = some o) : Met l yX6_isPage wsX6_isPage rmX6_isPage (va_Pc [.int p0] (fun _ => True)) (QR o) 0 0 (fun _ => False) := by
  refine Met.ofW (cc := cX6_isPage) (maxL := 1) (ret := (some .boolean)) (by decide) rfl ?_
  intro p e s m args below meth c s₁ B hml hv
  obtain ⟨hav, -⟩ := hv
  have hx := B.exec
  have hb := B.bytes
  have hr := B.returns
  have hlocks := B.notSynchronized
  have hts := atoms_spec (ws := wsX6_isPage) B.pre
  have hown : s.vm.findClass RX6 = some m.cls := findClass_of_methodNamed B.named
  refine Wq (fun Q hQ => ?_)
  refine W_entry hav (Nat.le_of_ble_eq_true rfl) (fun ls hl => ?_)
  have hl : lv_has ls 1 [(0, .int p0)] := hl
  unfold f_X6_isPage at hf
  refine lv_iload_n hx hb dX6_isPage_0 rfl (lv_at hl 0 rfl) ?_
  obtain ⟨k15_1, hk15_1, hf⟩ := jn_some hf
  have j15_1 : ∀ (v15_1_0 : Int32) (ls : Array Slot), k15_1 v15_1_0 = some o → lv_has ls 1 [] → W p l e (headSpec wsX6_isPage rmX6_isPage).room s m args below meth c s.heap [] 0 0 Q (F0 m 15 ls [.int v15_1_0]) := by
    intro v15_1_0 ls hf hl
    have hf := qa1 hk15_1 hf
    rw [hQ]
    exact zretN (v := v15_1_0) (v' := vp_nar .boolean v15_1_0) hx hb hr rfl (fun t ht hW => ⟨_, rfl, Option.some.inj hf, ht⟩) (fun _ h => nomatch h) dX6_isPage_15 hlocks
  obtain ⟨k14_2, hk14_2, hf⟩ := jn_some hf
  have j14_2 : ∀ (ls : Array Slot), k14_2 = some o → lv_has ls 1 [] → W p l e (headSpec wsX6_isPage rmX6_isPage).room s m args below meth c s.heap [] 0 0 Q (F0 m 14 ls []) := by
    intro ls hf hl
    have hf := qa0 hk14_2 hf
    refine lv_iconst (v := 0) hx hb dX6_isPage_14 (by decide) ?_
    exact j15_1 _ _ hf (lv_sub hl [] rfl)
  refine lv_if_lt (tgt := 14) hx hb dX6_isPage_1 (by decide) (fun c_3 => ?_) (fun c_3 => ?_)
  · have hf := ite_t hf c_3
    exact j14_2 _ hf (lv_sub hl [] rfl)
  · have hf := ite_f hf c_3
    refine lv_iload_n hx hb dX6_isPage_4 rfl (lv_at hl 0 rfl) ?_
    refine lv_bipush (v := 16) hx hb dX6_isPage_5 (by decide) ?_
    refine lv_icmp_ge (tgt := 14) hx hb dX6_isPage_7 (by decide) (fun c_4 => ?_) (fun c_4 => ?_)
    · have hf := ite_t hf c_4
      exact j14_2 _ hf (lv_sub hl [] rfl)
    · have hf := ite_f hf c_4
      refine lv_iconst (v := 1) hx hb dX6_isPage_10 (by decide) ?_
      refine lv_goto (tgt := 15) hx hb dX6_isPage_11 (by decide) ?_
      exact j15_1 _ _ hf (lv_sub hl [] rfl)
set_option maxRecDepth 20000 in
theorem ggX6_demandHandleAndPage_X6_demandHandle : GoodIn wsX6_demandHandleAndPage wsX6_demandHandle := goodIn_ca (goodIn_r _ [7, 1, 2, 8, 9, 10, 11, 12, 13, 14, 18, 19, 20, 21, 22, 23, 24, 25, 26, 27, 28, 29, 30, 31, 32, 33] (by decide +kernel) (by decide +kernel)) (goodIn_sub (fun _ h => List.mem_cons_of_mem _ (List.mem_append_right _ h)) (by decide +kernel))
set_option maxRecDepth 20000 in
theorem gX6_demandHandleAndPage_X6_demandHandle : GoodIn wsX6_demandHandleAndPage (wsV RX6 198 RX6 yX6_demandHandle wsX6_demandHandle) := goodIn_app (goodIn_of _ (by decide +kernel)) ggX6_demandHandleAndPage_X6_demandHandle
set_option maxRecDepth 20000 in
theorem ggX6_demandHandleAndPage_X6_isPage : GoodIn wsX6_demandHandleAndPage wsX6_isPage := goodIn_r _ [17] (by decide +kernel) (by decide +kernel)
set_option maxRecDepth 20000 in
theorem gX6_demandHandleAndPage_X6_isPage : GoodIn wsX6_demandHandleAndPage (va_wsS RX6 324 yX6_isPage wsX6_isPage) := goodIn_app (goodIn_of _ (by decide +kernel)) ggX6_demandHandleAndPage_X6_isPage
theorem dX6_demandHandleAndPage_0 : decode cX6_demandHandleAndPage 0 = .ok (.aload_n 0, 1) := by decide +kernel
theorem dX6_demandHandleAndPage_1 : decode cX6_demandHandleAndPage 1 = .ok (.iload_n 1, 1) := by decide +kernel
theorem dX6_demandHandleAndPage_2 : decode cX6_demandHandleAndPage 2 = .ok (.invokevirtual 198, 3) := by decide +kernel
theorem dX6_demandHandleAndPage_5 : decode cX6_demandHandleAndPage 5 = .ok (.iload_n 2, 1) := by decide +kernel
theorem dX6_demandHandleAndPage_6 : decode cX6_demandHandleAndPage 6 = .ok (.invokestatic 324, 3) := by decide +kernel
theorem dX6_demandHandleAndPage_9 : decode cX6_demandHandleAndPage 9 = .ok (.ifCond .ne 14, 3) := by decide +kernel
theorem dX6_demandHandleAndPage_12 : decode cX6_demandHandleAndPage 12 = .ok (.new 74, 3) := by decide +kernel
theorem dX6_demandHandleAndPage_15 : decode cX6_demandHandleAndPage 15 = .ok (.dup, 1) := by decide +kernel
theorem dX6_demandHandleAndPage_16 : decode cX6_demandHandleAndPage 16 = .ok (.ldc_w 393, 3) := by decide +kernel
theorem dX6_demandHandleAndPage_19 : decode cX6_demandHandleAndPage 19 = .ok (.invokespecial 78, 3) := by decide +kernel
theorem dX6_demandHandleAndPage_22 : decode cX6_demandHandleAndPage 22 = .ok (.athrow, 1) := by decide +kernel
theorem dX6_demandHandleAndPage_23 : decode cX6_demandHandleAndPage 23 = .ok (.return_, 1) := by decide +kernel
def f_X6_demandHandleAndPage (U : S2) (p1 : Int32) (p2 : Int32) : Option (Nat × Int32 × S2) := bn (f_X6_demandHandle U p1) (fun z_1 => if z_1.1 = 0 then bn (f_X6_isPage p2) (fun z_3 => if z_3 = 0 then some (2, 0, z_1.2.2) else some (0, 0, z_1.2.2)) else some (z_1.1, 0, z_1.2.2))
def rmX6_demandHandleAndPage : Room := { frames := 7, cells := 2, slots := 12, locals := 111 }
set_option maxHeartbeats 4000000 in
set_option maxRecDepth 100000 in
theorem c_X6_demandHandleAndPage (l : Launch) (hst : l.stackTraces = false) (D : va_G) (cI cZ cJ cT : ClassId) (a : Nat → Nat → Nat) (sz : Nat) (U : S2) (p1 : Int32) (p2 : Int32) (o : Nat × Int32 × S2) (hf : f_X6_demandHandleAndPage U p1 p2 = some o) : vx_Met l yX6_demandHandleAndPage wsX6_demandHandleAndPage rmX6_demandHandleAndPage (va_Pc [.ref (a 0 0), .int p1, .int p2] (PX D cls (tys cI cZ cJ cT) (wI cI cZ cT a U) sz)) (QXv D cls o.1 (wI cI cZ cT a o.2.2) (va_A (wI cI cZ cT a U) sz)) (XX D cls o.1 (wI cI cZ cT a o.2.2) (va_A (wI cI cZ cT a U) sz)) 2 12 (va_A (wI cI cZ cT a U) sz) := by
  refine vx_ofW (cc := cX6_demandHandleAndPage) (maxL := 3) (ret := none) (by decide) rfl ?_
  intro p e s m args below meth c s₁ B hml hxt hv
  obtain ⟨hav, ⟨hsz, hP, hK, hD0⟩, hE⟩ := hv
  have hx := B.exec
  have hb := B.bytes
  have hr := B.returns
  have hlocks := B.notSynchronized
  have hts := atoms_spec (ws := wsX6_demandHandleAndPage) B.pre
  have hown : s.vm.findClass RX6 = some m.cls := findClass_of_methodNamed B.named
  subst hsz
  have hD := hD0.self (sz := s.heap.size)
  generalize hAe : va_A (wI cI cZ cT a U) s.heap.size = A at hD hE ⊢
  have hA : ∀ q : Nat, s.heap.size ≤ q → A q := fun q h => by rw [← hAe]; exact Or.inr h
  have hS : va_S A s.heap s.heap [] := va_S.rf
  have hDD : ∀ V : S2, va_D A (wI cI cZ cT a V) := fun _ => D_same (w := (wI cI cZ cT a U)) rfl hD
  refine Wq (fun Q hQ => ?_)
  refine W_entry hav (Nat.le_of_ble_eq_true rfl) (fun ls hl => ?_)
  have hl : lv_has ls 3 [(0, .ref (a 0 0)), (1, .int p1), (2, .int p2)] := hl
  unfold f_X6_demandHandleAndPage at hf
  refine W_heap hP hS (fun H locs hP hS => ?_)
  refine lv_aload_n hx hb dX6_demandHandleAndPage_0 rfl (lv_at hl 0 rfl) ?_
  refine lv_iload_n hx hb dX6_demandHandleAndPage_1 rfl (lv_at hl 1 rfl) ?_
  obtain ⟨z_1, hz_1, hf⟩ := bn_some hf
  refine cXVv (As := [.int p1]) (rest := []) ⟨hx, hb, hml, hown, hts⟩ (c_X6_demandHandle l hst D cI cZ cJ cT a H.size U p1 z_1 hz_1) (cwV 1 hts gX6_demandHandleAndPage_X6_demandHandle rfl rfl rfl (by decide +kernel) ⟨Nat.le_of_ble_eq_true rfl, Nat.le_of_ble_eq_true rfl⟩) hP hK (hDD U) hE hS (own_free (hDD U) hS hA) (va_recv hK (fl_sub hP 0 rfl) (ci := 6) (q0 := 0) rfl rfl) rfl rfl hl.1 (Nat.le_of_ble_eq_true rfl) dX6_demandHandleAndPage_2 ⟨Nat.le_of_ble_eq_true rfl, Nat.le_of_ble_eq_true rfl⟩ (fun E ce q9 H locs k_2 hE9 hP hS hce hcv hcl => ?_) (fun H locs k_2 hP hS => ?_)
  · have hf := ite_f hf k_2
    have eo := Option.some.inj hf
    have hP : va_P D cls (wI cI cZ cT a o.2.2) H := by rw [← eo]; exact hP
    rw [hQ]
    exact xout (k := o.1) hxt hlocks (by rw [← eo]; exact k_2) (by rw [← eo]; exact hE9) hP hS hce hcv hcl (Nat.le_of_ble_eq_true rfl) (Nat.le_of_ble_eq_true rfl)
  have hf := ite_t hf k_2
  refine lv_iload_n hx hb dX6_demandHandleAndPage_5 rfl (lv_at hl 2 rfl) ?_
  obtain ⟨z_3, hz_3, hf⟩ := bn_some hf
  refine c0S (As := [.int p2]) (rest := []) ⟨hx, hb, hml, hown, hts⟩ (c_X6_isPage l D cI cZ cJ cT p2 z_3 hz_3) (va_cwS 1 hts gX6_demandHandleAndPage_X6_isPage rfl rfl rfl (by decide +kernel) ⟨Nat.le_of_ble_eq_true rfl, Nat.le_of_ble_eq_true rfl⟩) rfl rfl hl.1 (Nat.le_of_ble_eq_true rfl) dX6_demandHandleAndPage_6 ⟨Nat.le_of_ble_eq_true rfl, Nat.le_of_ble_eq_true rfl⟩ ?_
  refine lv_if_ne (tgt := 23) hx hb dX6_demandHandleAndPage_9 (by decide) (fun c_4 => ?_) (fun c_4 => ?_)
  · have hf := ite_f hf c_4
    have eo := Option.some.inj hf
    have hP : va_P D cls (wI cI cZ cT a o.2.2) H := by rw [← eo]; exact hP
    rw [hQ]
    refine W.widen (k := 2) (n := 12) (Nat.le_of_ble_eq_true rfl) (Nat.le_of_ble_eq_true rfl) ?_
    exact vx_ret (W.vret hx hb hr (fun t ht hW => ⟨⟨(), rfl, (by rw [← eo]), P_at ht hP⟩, hS.F ht⟩) hS.2.2 dX6_demandHandleAndPage_23 hlocks)
  · have hf := ite_t hf c_4
    have eo := Option.some.inj hf
    have hP : va_P D cls (wI cI cZ cT a o.2.2) H := by rw [← eo]; exact hP
    rw [hQ]
    have hk0 : o.1 = 2 := by rw [← eo]
    exact thrW o.1 (text := "no such page") (by rw [hk0]; rfl) (by rw [hk0]; decide) hx hb hst hown (by decide +kernel) (hts (.classLink RX6 74 "java/lang/IndexOutOfBoundsException") (by decide +kernel)) (hts (.initialized "java/lang/IndexOutOfBoundsException") (by decide +kernel)) (fun w h => hts w (List.mem_cons_of_mem _ (List.mem_append_right _ h))) (EX_b2 hE) ok2 (by decide +kernel) hE hS hP (hl.1.trans hml.symm) dX6_demandHandleAndPage_12 dX6_demandHandleAndPage_15 dX6_demandHandleAndPage_16 dX6_demandHandleAndPage_19 dX6_demandHandleAndPage_22 hxt (Nat.le_of_ble_eq_true rfl) (Nat.le_of_ble_eq_true rfl) (Nat.le_of_ble_eq_true rfl) (Nat.le_of_ble_eq_true rfl) hlocks (Nat.le_of_ble_eq_true rfl) (Nat.le_of_ble_eq_true rfl)
