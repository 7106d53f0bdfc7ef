set_option maxRecDepth 20000 in
theorem ggX7_loses_X7_at : GoodIn wsX7_loses wsX7_at := goodIn_r _ [5] (by decide +kernel) (by decide +kernel)
set_option maxRecDepth 20000 in
theorem gX7_loses_X7_at : GoodIn wsX7_loses (va_wsS RX7 67 yX7_at wsX7_at) := goodIn_app (goodIn_of _ (by decide +kernel)) ggX7_loses_X7_at
set_option maxRecDepth 20000 in
theorem ggX7_loses_X7_goes : GoodIn wsX7_loses wsX7_goes := goodIn_r _ [20, 1, 21, 22, 23, 24, 4, 25, 26, 2, 3, 5, 27, 28, 29, 30, 31, 32, 33, 34, 35, 36, 37, 38, 39, 40, 41, 42, 43, 44, 45] (by decide +kernel) (by decide +kernel)
set_option maxRecDepth 20000 in
theorem gX7_loses_X7_goes : GoodIn wsX7_loses (wsV RX7 101 RX7 yX7_goes wsX7_goes) := goodIn_app (goodIn_of _ (by decide +kernel)) ggX7_loses_X7_goes
set_option maxRecDepth 20000 in
theorem ggX7_loses_X7_isHeld : GoodIn wsX7_loses wsX7_isHeld := goodIn_r _ [9, 10, 11, 12, 4, 13, 14, 15, 16, 27, 28, 29, 30, 31, 32, 33, 34, 35, 36, 37, 38, 39, 40, 41, 42, 43, 44, 45] (by decide +kernel) (by decide +kernel)
set_option maxRecDepth 20000 in
theorem gX7_loses_X7_isHeld : GoodIn wsX7_loses (wsV RX7 97 RX7 yX7_isHeld wsX7_isHeld) := goodIn_app (goodIn_of _ (by decide +kernel)) ggX7_loses_X7_isHeld
theorem dX7_loses_0 : decode cX7_loses 0 = .ok (.aload_n 0, 1) := by decide +kernel
theorem dX7_loses_1 : decode cX7_loses 1 = .ok (.getfield 7, 3) := by decide +kernel
theorem dX7_loses_4 : decode cX7_loses 4 = .ok (.iconst 0, 1) := by decide +kernel
theorem dX7_loses_5 : decode cX7_loses 5 = .ok (.iload_n 1, 1) := by decide +kernel
theorem dX7_loses_6 : decode cX7_loses 6 = .ok (.invokestatic 67, 3) := by decide +kernel
theorem dX7_loses_9 : decode cX7_loses 9 = .ok (.iconst 3, 1) := by decide +kernel
theorem dX7_loses_10 : decode cX7_loses 10 = .ok (.iadd, 1) := by decide +kernel
theorem dX7_loses_11 : decode cX7_loses 11 = .ok (.dup2, 1) := by decide +kernel
theorem dX7_loses_12 : decode cX7_loses 12 = .ok (.iaload, 1) := by decide +kernel
theorem dX7_loses_13 : decode cX7_loses 13 = .ok (.iconst 1, 1) := by decide +kernel
theorem dX7_loses_14 : decode cX7_loses 14 = .ok (.isub, 1) := by decide +kernel
theorem dX7_loses_15 : decode cX7_loses 15 = .ok (.iastore, 1) := by decide +kernel
theorem dX7_loses_16 : decode cX7_loses 16 = .ok (.aload_n 0, 1) := by decide +kernel
theorem dX7_loses_17 : decode cX7_loses 17 = .ok (.getfield 7, 3) := by decide +kernel
theorem dX7_loses_20 : decode cX7_loses 20 = .ok (.iconst 0, 1) := by decide +kernel
theorem dX7_loses_21 : decode cX7_loses 21 = .ok (.iload_n 1, 1) := by decide +kernel
theorem dX7_loses_22 : decode cX7_loses 22 = .ok (.invokestatic 67, 3) := by decide +kernel
theorem dX7_loses_25 : decode cX7_loses 25 = .ok (.iconst 3, 1) := by decide +kernel
theorem dX7_loses_26 : decode cX7_loses 26 = .ok (.iadd, 1) := by decide +kernel
theorem dX7_loses_27 : decode cX7_loses 27 = .ok (.iaload, 1) := by decide +kernel
theorem dX7_loses_28 : decode cX7_loses 28 = .ok (.ifCond .ne 15, 3) := by decide +kernel
theorem dX7_loses_31 : decode cX7_loses 31 = .ok (.aload_n 0, 1) := by decide +kernel
theorem dX7_loses_32 : decode cX7_loses 32 = .ok (.iload_n 1, 1) := by decide +kernel
theorem dX7_loses_33 : decode cX7_loses 33 = .ok (.invokevirtual 97, 3) := by decide +kernel
theorem dX7_loses_36 : decode cX7_loses 36 = .ok (.ifCond .ne 7, 3) := by decide +kernel
theorem dX7_loses_39 : decode cX7_loses 39 = .ok (.iconst 1, 1) := by decide +kernel
theorem dX7_loses_40 : decode cX7_loses 40 = .ok (.goto 4, 3) := by decide +kernel
theorem dX7_loses_43 : decode cX7_loses 43 = .ok (.iconst 0, 1) := by decide +kernel
theorem dX7_loses_44 : decode cX7_loses 44 = .ok (.istore_n 2, 1) := by decide +kernel
theorem dX7_loses_45 : decode cX7_loses 45 = .ok (.iload_n 2, 1) := by decide +kernel
theorem dX7_loses_46 : decode cX7_loses 46 = .ok (.ifCond .eq 8, 3) := by decide +kernel
theorem dX7_loses_49 : decode cX7_loses 49 = .ok (.aload_n 0, 1) := by decide +kernel
theorem dX7_loses_50 : decode cX7_loses 50 = .ok (.iload_n 1, 1) := by decide +kernel
theorem dX7_loses_51 : decode cX7_loses 51 = .ok (.invokevirtual 101, 3) := by decide +kernel
theorem dX7_loses_54 : decode cX7_loses 54 = .ok (.iload_n 2, 1) := by decide +kernel
theorem dX7_loses_55 : decode cX7_loses 55 = .ok (.ireturn, 1) := by decide +kernel
def f_X7_loses (u0 : S1) (p1 : Int32) : Option (Int32 × S1) := bn (f_X7_at 0 p1) (fun z_1 => chk (inb (z_1 + 3) 8480) (chk (inb (z_1 + 3) 8480) (bv (st u0 0 (z_1 + 3) ((u0 0 (z_1 + 3).toNatClampNeg) - 1)) (fun u_2 => bn (f_X7_at 0 p1) (fun z_3 => chk (inb (z_3 + 3) 8480) (jn (fun (v44_4_0 : Int32) => jn (fun (u54_5_0 : S1) => some (vp_nar .boolean v44_4_0, u54_5_0)) (fun k54_5 => if v44_4_0 = 0 then k54_5 u_2 else bn (f_X7_goes u_2 p1) (fun z_7 => k54_5 z_7))) (fun k44_4 => jn (k44_4 0) (fun k43_8 => if (u_2 0 (z_3 + 3).toNatClampNeg) = 0 then bn (f_X7_isHeld u_2 p1) (fun z_10 => if z_10 = 0 then k44_4 1 else k43_8) else k43_8))))))))
def rmX7_loses : Room := { frames := 3, cells := 0, slots := 0, locals := 65 }
set_option maxHeartbeats 4000000 in
set_option maxRecDepth 100000 in
theorem c_X7_loses (l : Launch) (D : va_G) (cI cZ cJ cT : ClassId) (a0 : Nat → Nat) (sz : Nat) (u0 : S1) (p1 : Int32) (o : Int32 × S1) (hf : f_X7_loses u0 p1 = some o) : Met l yX7_loses wsX7_loses rmX7_loses (va_Pc [.ref (a0 0), .int p1] (PW D cls (tys cI cZ cJ cT) ((wX7 cI cZ a0 u0)) sz)) (QWi D cls o.1 ((wX7 cI cZ a0 o.2)) (va_A ((wX7 cI cZ a0 u0)) sz)) 0 0 (va_A ((wX7 cI cZ a0 u0)) sz) := by
  refine Met.ofW (cc := cX7_loses) (maxL := 3) (ret := (some .boolean)) (by decide) rfl ?_
  intro p e s m args below meth c s₁ B hml hv
  obtain ⟨hav, hsz, hP, hK, hD0⟩ := hv
  have hx := B.exec
  have hb := B.bytes
  have hr := B.returns
  have hlocks := B.notSynchronized
  have hts := atoms_spec (ws := wsX7_loses) B.pre
  have hown : s.vm.findClass RX7 = some m.cls := findClass_of_methodNamed B.named
  have i7 : ∀ w ∈ wsX70, w ∈ wsX7_loses := fun w h => List.mem_cons_of_mem _ (List.mem_append_right _ h)
  have hk7 := hts (.fieldLink RX7 7 "InoderyModel" "s" "[I") (by decide +kernel)
  subst hsz
  have hD := hD0.self (sz := s.heap.size)
  generalize hAe : va_A ((wX7 cI cZ a0 u0)) s.heap.size = A at hD ⊢
  have hA : ∀ q : Nat, s.heap.size ≤ q → A q := fun q h => by rw [← hAe]; exact Or.inr h
  have hS : va_S A s.heap s.heap [] := va_S.rf
  have hDD : ∀ w0 : S1, va_D A ((wX7 cI cZ a0 w0)) := fun _ => D_same (w := (wX7 cI cZ a0 u0)) rfl hD
  refine Wq (fun Q hQ => ?_)
  refine W_entry hav (Nat.le_of_ble_eq_true rfl) (fun ls hl => ?_)
  have hl : lv_has ls 3 [(0, .ref (a0 0)), (1, .int p1)] := hl
  unfold f_X7_loses at hf
  refine W_heap hP hS (fun H locs hP hS => ?_)
  refine lv_aload_n hx hb dX7_loses_0 rfl (lv_at hl 0 rfl) ?_
  refine va_get (D := D) (ci := 7) (v := .ref (a0 1)) (C := RX7) (T := TX7) (N := 19) hx hb hts i7 hown hK hP 0 rfl rfl 0 (by decide) hk7 (fun _ h9 => h9) rfl dX7_loses_1 ?_
  refine lv_iconst (v := 0) hx hb dX7_loses_4 (by decide) ?_
  refine lv_iload_n hx hb dX7_loses_5 rfl (lv_at hl 1 rfl) ?_
  obtain ⟨z_1, hz_1, hf⟩ := bn_some hf
  refine c0S (As := [.int 0, .int p1]) (rest := [.ref (a0 1)]) ⟨hx, hb, hml, hown, hts⟩ (c_X7_at l D cI cZ cJ cT 0 p1 z_1 hz_1) (va_cwS 2 hts gX7_loses_X7_at rfl rfl rfl (by decide +kernel) ⟨Nat.le_of_ble_eq_true rfl, Nat.le_of_ble_eq_true rfl⟩) rfl rfl hl.1 (Nat.le_of_ble_eq_true rfl) dX7_loses_6 ⟨Nat.le_of_ble_eq_true rfl, Nat.le_of_ble_eq_true rfl⟩ ?_
  refine lv_iconst (v := 3) hx hb dX7_loses_9 (by decide) ?_
  refine lv_iadd hx hb dX7_loses_10 ?_
  refine lv_dup2_11 hx hb dX7_loses_11 rfl rfl ?_
  obtain ⟨hi, hf⟩ := chk_some hf
  refine va_iald hx hb hK hP 1 0 rfl rfl (inb_in hi) dX7_loses_12 ?_
  refine lv_iconst (v := 1) hx hb dX7_loses_13 (by decide) ?_
  refine lv_isub hx hb dX7_loses_14 ?_
  obtain ⟨hi, hf⟩ := chk_some hf
  obtain ⟨u_2, hu_2, hf⟩ := bv_some hf
  refine va_iast hx hb hK hP (hDD u0) hS 1 0 rfl rfl (inb_in hi) dX7_loses_15 (fun H locs hP _ hS => ?_)
  have hP : va_P D cls (wX7 cI cZ a0 u_2) H := by rw [hu_2]; exact hP
  refine lv_aload_n hx hb dX7_loses_16 rfl (lv_at hl 0 rfl) ?_
  refine va_get (D := D) (ci := 7) (v := .ref (a0 1)) (C := RX7) (T := TX7) (N := 19) hx hb hts i7 hown hK hP 0 rfl rfl 0 (by decide) hk7 (fun _ h9 => h9) rfl dX7_loses_17 ?_
  refine lv_iconst (v := 0) hx hb dX7_loses_20 (by decide) ?_
  refine lv_iload_n hx hb dX7_loses_21 rfl (lv_at hl 1 rfl) ?_
  obtain ⟨z_3, hz_3, hf⟩ := bn_some hf
  refine c0S (As := [.int 0, .int p1]) (rest := [.ref (a0 1)]) ⟨hx, hb, hml, hown, hts⟩ (c_X7_at l D cI cZ cJ cT 0 p1 z_3 hz_3) (va_cwS 2 hts gX7_loses_X7_at rfl rfl rfl (by decide +kernel) ⟨Nat.le_of_ble_eq_true rfl, Nat.le_of_ble_eq_true rfl⟩) rfl rfl hl.1 (Nat.le_of_ble_eq_true rfl) dX7_loses_22 ⟨Nat.le_of_ble_eq_true rfl, Nat.le_of_ble_eq_true rfl⟩ ?_
  refine lv_iconst (v := 3) hx hb dX7_loses_25 (by decide) ?_
  refine lv_iadd hx hb dX7_loses_26 ?_
  obtain ⟨hi, hf⟩ := chk_some hf
  refine va_iald hx hb hK hP 1 0 rfl rfl (inb_in hi) dX7_loses_27 ?_
  obtain ⟨k44_4, hk44_4, hf⟩ := jn_some hf
  have j44_4 : ∀ (v44_4_0 : Int32) (H : Heap) (locs : List Loc) (ls : Array Slot), k44_4 v44_4_0 = some o → va_P D cls (wX7 cI cZ a0 u_2) H → va_S A s.heap H locs → lv_has ls 3 [(0, .ref (a0 0)), (1, .int p1)] → W p l e (headSpec wsX7_loses rmX7_loses).room s m args below meth c H locs 0 0 Q (F0 m 44 ls [.int v44_4_0]) := by
    intro v44_4_0 H locs ls hf hP hS hl
    have hf := qa1 hk44_4 hf
    refine lv_istore_n (lv' := [(2, .int v44_4_0), (0, .ref (a0 0)), (1, .int p1)]) hx hb dX7_loses_44 rfl hl (by decide) rfl (fun ls hl => ?_)
    refine lv_iload_n hx hb dX7_loses_45 rfl (lv_at hl 0 rfl) ?_
    obtain ⟨k54_5, hk54_5, hf⟩ := jn_some hf
    have j54_5 : ∀ (u54_5_0 : S1) (H : Heap) (locs : List Loc) (ls : Array Slot), k54_5 u54_5_0 = some o → va_P D cls (wX7 cI cZ a0 u54_5_0) H → va_S A s.heap H locs → lv_has ls 3 [(2, .int v44_4_0)] → W p l e (headSpec wsX7_loses rmX7_loses).room s m args below meth c H locs 0 0 Q (F0 m 54 ls []) := by
      intro u54_5_0 H locs ls hf hP hS hl
      have hf := qa1 hk54_5 hf
      refine lv_iload_n hx hb dX7_loses_54 rfl (lv_at hl 0 rfl) ?_
      have eo := Option.some.inj hf
      have hP : va_P D cls (wX7 cI cZ a0 o.2) H := by rw [← eo]; exact hP
      rw [hQ]
      exact zretN (v := v44_4_0) (v' := vp_nar .boolean v44_4_0) hx hb hr rfl (fun t ht hW => ⟨⟨_, (), rfl, congrArg Prod.fst eo, P_at ht hP⟩, hS.F ht⟩) hS.2.2 dX7_loses_55 hlocks
    refine lv_if_eq (tgt := 54) hx hb dX7_loses_46 (by decide) (fun c_6 => ?_) (fun c_6 => ?_)
    · have hf := ite_t hf c_6
      exact j54_5 _ _ _ _ hf hP hS (lv_sub hl [0] rfl)
    · have hf := ite_f hf c_6
      refine lv_aload_n hx hb dX7_loses_49 rfl (lv_at hl 1 rfl) ?_
      refine lv_iload_n hx hb dX7_loses_50 rfl (lv_at hl 2 rfl) ?_
      obtain ⟨z_7, hz_7, hf⟩ := bn_some hf
      refine cWVv (As := [.int p1]) (rest := []) ⟨hx, hb, hml, hown, hts⟩ (c_X7_goes l D cI cZ cJ cT a0 H.size u_2 p1 z_7 hz_7) (cwV 1 hts gX7_loses_X7_goes rfl rfl rfl (by decide +kernel) ⟨Nat.le_of_ble_eq_true rfl, Nat.le_of_ble_eq_true rfl⟩) hP hK (hDD u_2) hS (own_free (hDD u_2) hS hA) (va_recv hK hP (ci := 7) (q0 := 0) rfl rfl) rfl rfl hl.1 (Nat.le_of_ble_eq_true rfl) dX7_loses_51 ⟨Nat.le_of_ble_eq_true rfl, Nat.le_of_ble_eq_true rfl⟩ (fun H1 locs hP1 hk1 hS => ?_)
      have hP : va_P D cls (wX7 cI cZ a0 z_7) H1 := hP1
      clear hP1 hk1
      generalize H1 = H at hP hS ⊢
      exact j54_5 _ _ _ _ hf hP hS (lv_sub hl [0] rfl)
  obtain ⟨k43_8, hk43_8, hf⟩ := jn_some hf
  have j43_8 : ∀ (H : Heap) (locs : List Loc) (ls : Array Slot), k43_8 = some o → va_P D cls (wX7 cI cZ a0 u_2) H → va_S A s.heap H locs → lv_has ls 3 [(0, .ref (a0 0)), (1, .int p1)] → W p l e (headSpec wsX7_loses rmX7_loses).room s m args below meth c H locs 0 0 Q (F0 m 43 ls []) := by
    intro H locs ls hf hP hS hl
    have hf := qa0 hk43_8 hf
    refine lv_iconst (v := 0) hx hb dX7_loses_43 (by decide) ?_
    exact j44_4 _ _ _ _ hf hP hS (lv_sub hl [0, 1] rfl)
  refine lv_if_ne (tgt := 43) hx hb dX7_loses_28 (by decide) (fun c_9 => ?_) (fun c_9 => ?_)
  · have hf := ite_f hf c_9
    exact j43_8 _ _ _ hf hP hS (lv_sub hl [0, 1] rfl)
  · have hf := ite_t hf c_9
    refine lv_aload_n hx hb dX7_loses_31 rfl (lv_at hl 0 rfl) ?_
    refine lv_iload_n hx hb dX7_loses_32 rfl (lv_at hl 1 rfl) ?_
    obtain ⟨z_10, hz_10, hf⟩ := bn_some hf
    refine cRV (As := [.int p1]) (rest := []) ⟨hx, hb, hml, hown, hts⟩ (c_X7_isHeld l D cI cZ cJ cT a0 u_2 p1 z_10 hz_10) (cwV 1 hts gX7_loses_X7_isHeld rfl rfl rfl (by decide +kernel) ⟨Nat.le_of_ble_eq_true rfl, Nat.le_of_ble_eq_true rfl⟩) hP hK (va_recv hK hP (ci := 7) (q0 := 0) rfl rfl) rfl rfl hl.1 (Nat.le_of_ble_eq_true rfl) dX7_loses_33 ⟨Nat.le_of_ble_eq_true rfl, Nat.le_of_ble_eq_true rfl⟩ ?_
    refine lv_if_ne (tgt := 43) hx hb dX7_loses_36 (by decide) (fun c_11 => ?_) (fun c_11 => ?_)
    · have hf := ite_f hf c_11
      exact j43_8 _ _ _ hf hP hS (lv_sub hl [0, 1] rfl)
    · have hf := ite_t hf c_11
      refine lv_iconst (v := 1) hx hb dX7_loses_39 (by decide) ?_
      refine lv_goto (tgt := 44) hx hb dX7_loses_40 (by decide) ?_
      exact j44_4 _ _ _ _ hf hP hS (lv_sub hl [0, 1] rfl)
set_option maxRecDepth 20000 in
theorem ggX7_entries_X7_at : GoodIn wsX7_entries wsX7_at := goodIn_r _ [5] (by decide +kernel) (by decide +kernel)
set_option maxRecDepth 20000 in
theorem gX7_entries_X7_at : GoodIn wsX7_entries (va_wsS RX7 67 yX7_at wsX7_at) := goodIn_app (goodIn_of _ (by decide +kernel)) ggX7_entries_X7_at
theorem dX7_entries_0 : decode cX7_entries 0 = .ok (.iconst 0, 1) := by decide +kernel
theorem dX7_entries_1 : decode cX7_entries 1 = .ok (.istore_n 3, 1) := by decide +kernel
theorem dX7_entries_2 : decode cX7_entries 2 = .ok (.iload_n 3, 1) := by decide +kernel
theorem dX7_entries_3 : decode cX7_entries 3 = .ok (.bipush 8, 2) := by decide +kernel
theorem dX7_entries_5 : decode cX7_entries 5 = .ok (.if_icmp .ge 27, 3) := by decide +kernel
theorem dX7_entries_8 : decode cX7_entries 8 = .ok (.aload_n 0, 1) := by decide +kernel
theorem dX7_entries_9 : decode cX7_entries 9 = .ok (.getfield 7, 3) := by decide +kernel
theorem dX7_entries_12 : decode cX7_entries 12 = .ok (.iload_n 1, 1) := by decide +kernel
theorem dX7_entries_13 : decode cX7_entries 13 = .ok (.iload_n 2, 1) := by decide +kernel
theorem dX7_entries_14 : decode cX7_entries 14 = .ok (.invokestatic 67, 3) := by decide +kernel
theorem dX7_entries_17 : decode cX7_entries 17 = .ok (.iconst 5, 1) := by decide +kernel
theorem dX7_entries_18 : decode cX7_entries 18 = .ok (.iadd, 1) := by decide +kernel
theorem dX7_entries_19 : decode cX7_entries 19 = .ok (.iload_n 3, 1) := by decide +kernel
theorem dX7_entries_20 : decode cX7_entries 20 = .ok (.iadd, 1) := by decide +kernel
theorem dX7_entries_21 : decode cX7_entries 21 = .ok (.iaload, 1) := by decide +kernel
theorem dX7_entries_22 : decode cX7_entries 22 = .ok (.iconst (-1), 1) := by decide +kernel
theorem dX7_entries_23 : decode cX7_entries 23 = .ok (.if_icmp .eq 9, 3) := by decide +kernel
theorem dX7_entries_26 : decode cX7_entries 26 = .ok (.iinc 3 1, 3) := by decide +kernel
theorem dX7_entries_29 : decode cX7_entries 29 = .ok (.goto (-27), 3) := by decide +kernel
theorem dX7_entries_32 : decode cX7_entries 32 = .ok (.iload_n 3, 1) := by decide +kernel
theorem dX7_entries_33 : decode cX7_entries 33 = .ok (.ireturn, 1) := by decide +kernel
def f_X7_entries (u0 : S1) (p1 : Int32) (p2 : Int32) : Option (Int32) := qj1 (fun (r2_1 : Int32 → Option (Int32)) (y2_1_3 : Int32) => jn (some y2_1_3) (fun k32_2 => if 8 ≤ y2_1_3 then k32_2 else bn (f_X7_at p1 p2) (fun z_4 => chk (inb ((z_4 + 5) + y2_1_3) 8480) (if (u0 0 ((z_4 + 5) + y2_1_3).toNatClampNeg) = (-1) then k32_2 else r2_1 (y2_1_3 + 1))))) (fun k2_1 => k2_1 0)
def rmX7_entries : Room := { frames := 1, cells := 0, slots := 0, locals := 21 }
set_option maxHeartbeats 4000000 in
set_option maxRecDepth 100000 in
theorem c_X7_entries (l : Launch) (D : va_G) (cI cZ cJ cT : ClassId) (a0 : Nat → Nat) (u0 : S1) (p1 : Int32) (p2 : Int32) (o : Int32) (hf : f_X7_entries u0 p1 p2 = some o) : Met l yX7_entries wsX7_entries rmX7_entries (va_Pc [.ref (a0 0), .int p1, .int p2] (PR D cls (tys cI cZ cJ cT) ((wX7 cI cZ a0 u0)))) (QR o) 0 0 (fun _ => False) := by
  refine Met.ofW (cc := cX7_entries) (maxL := 4) (ret := (some .int)) (by decide) rfl ?_
  intro p e s m args below meth c s₁ B hml hv
  obtain ⟨hav, hP, hK⟩ := hv
  have hx := B.exec
  have hb := B.bytes
  have hr := B.returns
  have hlocks := B.notSynchronized
  have hts := atoms_spec (ws := wsX7_entries) B.pre
  have hown : s.vm.findClass RX7 = some m.cls := findClass_of_methodNamed B.named
  have i7 : ∀ w ∈ wsX70, w ∈ wsX7_entries := fun w h => List.mem_cons_of_mem _ (List.mem_append_right _ h)
  have hk7 := hts (.fieldLink RX7 7 "InoderyModel" "s" "[I") (by decide +kernel)
  refine Wq (fun Q hQ => ?_)
  refine W_entry hav (Nat.le_of_ble_eq_true rfl) (fun ls hl => ?_)
  have hl : lv_has ls 4 [(0, .ref (a0 0)), (1, .int p1), (2, .int p2)] := hl
  unfold f_X7_entries at hf
  refine lv_iconst (v := 0) hx hb dX7_entries_0 (by decide) ?_
  refine lv_istore_n (lv' := [(3, .int 0), (0, .ref (a0 0)), (1, .int p1), (2, .int p2)]) hx hb dX7_entries_1 rfl hl (by decide) rfl (fun ls hl => ?_)
  obtain ⟨G2_1, hG2_1, hf⟩ := qj1_some hf
  have j2_1 : ∀ (n : Nat) (y2_1_3 : Int32) (ls : Array Slot), ql1 G2_1 n y2_1_3 = some o → lv_has ls 4 [(0, .ref (a0 0)), (1, .int p1), (2, .int p2), (3, .int y2_1_3)] → W p l e (headSpec wsX7_entries rmX7_entries).room s m args below meth c s.heap [] 0 0 Q (F0 m 2 ls []) := by
    intro n
    induction n with
    | zero => intro y2_1_3 ls hf hl; exact (ql1_z hf).elim
    | succ n ih2_1 =>
      intro y2_1_3 ls hf hl
      have hf := ql1_s hG2_1 hf
      obtain ⟨r2_1, hr2_1⟩ : ∃ z, z = ql1 G2_1 n := ⟨_, rfl⟩
      rw [← hr2_1] at hf ih2_1
      refine lv_iload_n hx hb dX7_entries_2 rfl (lv_at hl 3 rfl) ?_
      refine lv_bipush (v := 8) hx hb dX7_entries_3 (by decide) ?_
      obtain ⟨k32_2, hk32_2, hf⟩ := jn_some hf
      have j32_2 : ∀ (ls : Array Slot), k32_2 = some o → lv_has ls 4 [(3, .int y2_1_3)] → W p l e (headSpec wsX7_entries rmX7_entries).room s m args below meth c s.heap [] 0 0 Q (F0 m 32 ls []) := by
        intro ls hf hl
        have hf := qa0 hk32_2 hf
        refine lv_iload_n hx hb dX7_entries_32 rfl (lv_at hl 0 rfl) ?_
        rw [hQ]
        exact W.iret hx hb hr (fun t ht hW => ⟨_, rfl, Option.some.inj hf, ht⟩) (fun _ h => nomatch h) dX7_entries_33 hlocks
      refine lv_icmp_ge (tgt := 32) hx hb dX7_entries_5 (by decide) (fun c_3 => ?_) (fun c_3 => ?_)
      · have hf := ite_t hf c_3
        exact j32_2 _ hf (lv_sub hl [3] rfl)
      · have hf := ite_f hf c_3
        refine lv_aload_n hx hb dX7_entries_8 rfl (lv_at hl 0 rfl) ?_
        refine va_get (D := D) (ci := 7) (v := .ref (a0 1)) (C := RX7) (T := TX7) (N := 19) hx hb hts i7 hown hK hP 0 rfl rfl 0 (by decide) hk7 (fun _ h9 => h9) rfl dX7_entries_9 ?_
        refine lv_iload_n hx hb dX7_entries_12 rfl (lv_at hl 1 rfl) ?_
        refine lv_iload_n hx hb dX7_entries_13 rfl (lv_at hl 2 rfl) ?_
        obtain ⟨z_4, hz_4, hf⟩ := bn_some hf
        refine c0S (As := [.int p1, .int p2]) (rest := [.ref (a0 1)]) ⟨hx, hb, hml, hown, hts⟩ (c_X7_at l D cI cZ cJ cT p1 p2 z_4 hz_4) (va_cwS 2 hts gX7_entries_X7_at rfl rfl rfl (by decide +kernel) ⟨Nat.le_of_ble_eq_true rfl, Nat.le_of_ble_eq_true rfl⟩) rfl rfl hl.1 (Nat.le_of_ble_eq_true rfl) dX7_entries_14 ⟨Nat.le_of_ble_eq_true rfl, Nat.le_of_ble_eq_true rfl⟩ ?_
        refine lv_iconst (v := 5) hx hb dX7_entries_17 (by decide) ?_
        refine lv_iadd hx hb dX7_entries_18 ?_
        refine lv_iload_n hx hb dX7_entries_19 rfl (lv_at hl 3 rfl) ?_
        refine lv_iadd hx hb dX7_entries_20 ?_
        obtain ⟨hi, hf⟩ := chk_some hf
        refine va_iald hx hb hK hP 1 0 rfl rfl (inb_in hi) dX7_entries_21 ?_
        refine lv_iconst (v := (-1)) hx hb dX7_entries_22 (by decide) ?_
        refine lv_icmp_eq (tgt := 32) hx hb dX7_entries_23 (by decide) (fun c_5 => ?_) (fun c_5 => ?_)
        · have hf := ite_t hf c_5
          exact j32_2 _ hf (lv_sub hl [3] rfl)
        · have hf := ite_f hf c_5
          refine lv_iinc (v := y2_1_3 + 1) (lv' := [(3, .int (y2_1_3 + 1)), (0, .ref (a0 0)), (1, .int p1), (2, .int p2)]) hx hb dX7_entries_26 hl (k := 3) rfl rfl (by decide) rfl (fun ls hl => ?_)
          refine lv_goto (tgt := 2) hx hb dX7_entries_29 (by decide) ?_
          exact ih2_1 _ _ hf (lv_sub hl [1, 2, 3, 0] rfl)
  exact j2_1 4096 _ _ hf (lv_sub hl [1, 2, 3, 0] rfl)
set_option maxRecDepth 20000 in
theorem ggX7_placeOf_X7_at : GoodIn wsX7_placeOf wsX7_at := goodIn_r _ [5] (by decide +kernel) (by decide +kernel)
set_option maxRecDepth 20000 in
theorem gX7_placeOf_X7_at : GoodIn wsX7_placeOf (va_wsS RX7 67 yX7_at wsX7_at) := goodIn_app (goodIn_of _ (by decide +kernel)) ggX7_placeOf_X7_at
theorem dX7_placeOf_0 : decode cX7_placeOf 0 = .ok (.iconst (-1), 1) := by decide +kernel
theorem dX7_placeOf_1 : decode cX7_placeOf 1 = .ok (.istore 4, 2) := by decide +kernel
theorem dX7_placeOf_3 : decode cX7_placeOf 3 = .ok (.iconst 0, 1) := by decide +kernel
theorem dX7_placeOf_4 : decode cX7_placeOf 4 = .ok (.istore 5, 2) := by decide +kernel
theorem dX7_placeOf_6 : decode cX7_placeOf 6 = .ok (.iload 5, 2) := by decide +kernel
theorem dX7_placeOf_8 : decode cX7_placeOf 8 = .ok (.bipush 8, 2) := by decide +kernel
theorem dX7_placeOf_10 : decode cX7_placeOf 10 = .ok (.if_icmp .ge 41, 3) := by decide +kernel
theorem dX7_placeOf_13 : decode cX7_placeOf 13 = .ok (.iload_n 3, 1) := by decide +kernel
theorem dX7_placeOf_14 : decode cX7_placeOf 14 = .ok (.ifCond .le 27, 3) := by decide +kernel
theorem dX7_placeOf_17 : decode cX7_placeOf 17 = .ok (.aload_n 0, 1) := by decide +kernel
theorem dX7_placeOf_18 : decode cX7_placeOf 18 = .ok (.getfield 7, 3) := by decide +kernel
theorem dX7_placeOf_21 : decode cX7_placeOf 21 = .ok (.iload_n 1, 1) := by decide +kernel
theorem dX7_placeOf_22 : decode cX7_placeOf 22 = .ok (.iload_n 2, 1) := by decide +kernel
theorem dX7_placeOf_23 : decode cX7_placeOf 23 = .ok (.invokestatic 67, 3) := by decide +kernel
theorem dX7_placeOf_26 : decode cX7_placeOf 26 = .ok (.iconst 5, 1) := by decide +kernel
theorem dX7_placeOf_27 : decode cX7_placeOf 27 = .ok (.iadd, 1) := by decide +kernel
theorem dX7_placeOf_28 : decode cX7_placeOf 28 = .ok (.iload 5, 2) := by decide +kernel
theorem dX7_placeOf_30 : decode cX7_placeOf 30 = .ok (.iadd, 1) := by decide +kernel
theorem dX7_placeOf_31 : decode cX7_placeOf 31 = .ok (.iaload, 1) := by decide +kernel
theorem dX7_placeOf_32 : decode cX7_placeOf 32 = .ok (.iload_n 3, 1) := by decide +kernel
theorem dX7_placeOf_33 : decode cX7_placeOf 33 = .ok (.if_icmp .ne 8, 3) := by decide +kernel
theorem dX7_placeOf_36 : decode cX7_placeOf 36 = .ok (.iload 5, 2) := by decide +kernel
theorem dX7_placeOf_38 : decode cX7_placeOf 38 = .ok (.goto 5, 3) := by decide +kernel
theorem dX7_placeOf_41 : decode cX7_placeOf 41 = .ok (.iload 4, 2) := by decide +kernel
theorem dX7_placeOf_43 : decode cX7_placeOf 43 = .ok (.istore 4, 2) := by decide +kernel
theorem dX7_placeOf_45 : decode cX7_placeOf 45 = .ok (.iinc 5 1, 3) := by decide +kernel
theorem dX7_placeOf_48 : decode cX7_placeOf 48 = .ok (.goto (-42), 3) := by decide +kernel
theorem dX7_placeOf_51 : decode cX7_placeOf 51 = .ok (.iload 4, 2) := by decide +kernel
theorem dX7_placeOf_53 : decode cX7_placeOf 53 = .ok (.ireturn, 1) := by decide +kernel
def f_X7_placeOf (u0 : S1) (p1 : Int32) (p2 : Int32) (p3 : Int32) : Option (Int32) := qj2 (fun (r6_1 : Int32 → Int32 → Option (Int32)) (y6_1_4 : Int32) (y6_1_5 : Int32) => if 8 ≤ y6_1_5 then some y6_1_4 else jn (fun (v43_3_0 : Int32) => r6_1 v43_3_0 (y6_1_5 + 1)) (fun k43_3 => jn (k43_3 y6_1_4) (fun k41_4 => if p3 ≤ 0 then k41_4 else bn (f_X7_at p1 p2) (fun z_6 => chk (inb ((z_6 + 5) + y6_1_5) 8480) (if (u0 0 ((z_6 + 5) + y6_1_5).toNatClampNeg) = p3 then k43_3 y6_1_5 else k41_4))))) (fun k6_1 => k6_1 (-1) 0)
def rmX7_placeOf : Room := { frames := 1, cells := 0, slots := 0, locals := 21 }
set_option maxHeartbeats 4000000 in
set_option maxRecDepth 100000 in
theorem c_X7_placeOf (l : Launch) (D : va_G) (cI cZ cJ cT : ClassId) (a0 : Nat → Nat) (u0 : S1) (p1 : Int32) (p2 : Int32) (p3 : Int32) (o : Int32) (hf : f_X7_placeOf u0 p1 p2 p3 = some o) : Met l yX7_placeOf wsX7_placeOf rmX7_placeOf (va_Pc [.ref (a0 0), .int p1, .int p2, .int p3] (PR D cls (tys cI cZ cJ cT) ((wX7 cI cZ a0 u0)))) (QR o) 0 0 (fun _ => False) := by
  refine Met.ofW (cc := cX7_placeOf) (maxL := 6) (ret := (some .int)) (by decide) rfl ?_
  intro p e s m args below meth c s₁ B hml hv
  obtain ⟨hav, hP, hK⟩ := hv
  have hx := B.exec
  have hb := B.bytes
  have hr := B.returns
  have hlocks := B.notSynchronized
  have hts := atoms_spec (ws := wsX7_placeOf) B.pre
  have hown : s.vm.findClass RX7 = some m.cls := findClass_of_methodNamed B.named
  have i7 : ∀ w ∈ wsX70, w ∈ wsX7_placeOf := fun w h => List.mem_cons_of_mem _ (List.mem_append_right _ h)
  have hk7 := hts (.fieldLink RX7 7 "InoderyModel" "s" "[I") (by decide +kernel)
  refine Wq (fun Q hQ => ?_)
  refine W_entry hav (Nat.le_of_ble_eq_true rfl) (fun ls hl => ?_)
  have hl : lv_has ls 6 [(0, .ref (a0 0)), (1, .int p1), (2, .int p2), (3, .int p3)] := hl
  unfold f_X7_placeOf at hf
  refine lv_iconst (v := (-1)) hx hb dX7_placeOf_0 (by decide) ?_
  refine lv_istore (lv' := [(4, .int (-1)), (0, .ref (a0 0)), (1, .int p1), (2, .int p2), (3, .int p3)]) hx hb dX7_placeOf_1 hl (by decide) rfl (fun ls hl => ?_)
  refine lv_iconst (v := 0) hx hb dX7_placeOf_3 (by decide) ?_
  refine lv_istore (lv' := [(5, .int 0), (4, .int (-1)), (0, .ref (a0 0)), (1, .int p1), (2, .int p2), (3, .int p3)]) hx hb dX7_placeOf_4 hl (by decide) rfl (fun ls hl => ?_)
  obtain ⟨G6_1, hG6_1, hf⟩ := qj2_some hf
  have j6_1 : ∀ (n : Nat) (y6_1_4 : Int32) (y6_1_5 : Int32) (ls : Array Slot), ql2 G6_1 n y6_1_4 y6_1_5 = some o → lv_has ls 6 [(0, .ref (a0 0)), (1, .int p1), (2, .int p2), (3, .int p3), (4, .int y6_1_4), (5, .int y6_1_5)] → W p l e (headSpec wsX7_placeOf rmX7_placeOf).room s m args below meth c s.heap [] 0 0 Q (F0 m 6 ls []) := by
    intro n
    induction n with
    | zero => intro y6_1_4 y6_1_5 ls hf hl; exact (ql2_z hf).elim
    | succ n ih6_1 =>
      intro y6_1_4 y6_1_5 ls hf hl
      have hf := ql2_s hG6_1 hf
      obtain ⟨r6_1, hr6_1⟩ : ∃ z, z = ql2 G6_1 n := ⟨_, rfl⟩
      rw [← hr6_1] at hf ih6_1
      refine lv_iload hx hb dX7_placeOf_6 (lv_at hl 5 rfl) ?_
      refine lv_bipush (v := 8) hx hb dX7_placeOf_8 (by decide) ?_
      refine lv_icmp_ge (tgt := 51) hx hb dX7_placeOf_10 (by decide) (fun c_2 => ?_) (fun c_2 => ?_)
      · have hf := ite_t hf c_2
        refine lv_iload hx hb dX7_placeOf_51 (lv_at hl 4 rfl) ?_
        rw [hQ]
        exact W.iret hx hb hr (fun t ht hW => ⟨_, rfl, Option.some.inj hf, ht⟩) (fun _ h => nomatch h) dX7_placeOf_53 hlocks
      · have hf := ite_f hf c_2
        refine lv_iload_n hx hb dX7_placeOf_13 rfl (lv_at hl 3 rfl) ?_
        obtain ⟨k43_3, hk43_3, hf⟩ := jn_some hf
        have j43_3 : ∀ (v43_3_0 : Int32) (ls : Array Slot), k43_3 v43_3_0 = some o → lv_has ls 6 [(0, .ref (a0 0)), (1, .int p1), (2, .int p2), (3, .int p3), (5, .int y6_1_5)] → W p l e (headSpec wsX7_placeOf rmX7_placeOf).room s m args below meth c s.heap [] 0 0 Q (F0 m 43 ls [.int v43_3_0]) := by
          intro v43_3_0 ls hf hl
          have hf := qa1 hk43_3 hf
          refine lv_istore (lv' := [(4, .int v43_3_0), (0, .ref (a0 0)), (1, .int p1), (2, .int p2), (3, .int p3), (5, .int y6_1_5)]) hx hb dX7_placeOf_43 hl (by decide) rfl (fun ls hl => ?_)
          refine lv_iinc (v := y6_1_5 + 1) (lv' := [(5, .int (y6_1_5 + 1)), (4, .int v43_3_0), (0, .ref (a0 0)), (1, .int p1), (2, .int p2), (3, .int p3)]) hx hb dX7_placeOf_45 hl (k := 5) rfl rfl (by decide) rfl (fun ls hl => ?_)
          refine lv_goto (tgt := 6) hx hb dX7_placeOf_48 (by decide) ?_
          exact ih6_1 _ _ _ hf (lv_sub hl [2, 3, 4, 5, 1, 0] rfl)
        obtain ⟨k41_4, hk41_4, hf⟩ := jn_some hf
        have j41_4 : ∀ (ls : Array Slot), k41_4 = some o → lv_has ls 6 [(0, .ref (a0 0)), (1, .int p1), (2, .int p2), (3, .int p3), (4, .int y6_1_4), (5, .int y6_1_5)] → W p l e (headSpec wsX7_placeOf rmX7_placeOf).room s m args below meth c s.heap [] 0 0 Q (F0 m 41 ls []) := by
          intro ls hf hl
          have hf := qa0 hk41_4 hf
          refine lv_iload hx hb dX7_placeOf_41 (lv_at hl 4 rfl) ?_
          exact j43_3 _ _ hf (lv_sub hl [0, 1, 2, 3, 5] rfl)
        refine lv_if_le (tgt := 41) hx hb dX7_placeOf_14 (by decide) (fun c_5 => ?_) (fun c_5 => ?_)
        · have hf := ite_t hf c_5
          exact j41_4 _ hf (lv_sub hl [0, 1, 2, 3, 4, 5] rfl)
        · have hf := ite_f hf c_5
          refine lv_aload_n hx hb dX7_placeOf_17 rfl (lv_at hl 0 rfl) ?_
          refine va_get (D := D) (ci := 7) (v := .ref (a0 1)) (C := RX7) (T := TX7) (N := 19) hx hb hts i7 hown hK hP 0 rfl rfl 0 (by decide) hk7 (fun _ h9 => h9) rfl dX7_placeOf_18 ?_
          refine lv_iload_n hx hb dX7_placeOf_21 rfl (lv_at hl 1 rfl) ?_
          refine lv_iload_n hx hb dX7_placeOf_22 rfl (lv_at hl 2 rfl) ?_
          obtain ⟨z_6, hz_6, hf⟩ := bn_some hf
          refine c0S (As := [.int p1, .int p2]) (rest := [.ref (a0 1)]) ⟨hx, hb, hml, hown, hts⟩ (c_X7_at l D cI cZ cJ cT p1 p2 z_6 hz_6) (va_cwS 2 hts gX7_placeOf_X7_at rfl rfl rfl (by decide +kernel) ⟨Nat.le_of_ble_eq_true rfl, Nat.le_of_ble_eq_true rfl⟩) rfl rfl hl.1 (Nat.le_of_ble_eq_true rfl) dX7_placeOf_23 ⟨Nat.le_of_ble_eq_true rfl, Nat.le_of_ble_eq_true rfl⟩ ?_
          refine lv_iconst (v := 5) hx hb dX7_placeOf_26 (by decide) ?_
          refine lv_iadd hx hb dX7_placeOf_27 ?_
          refine lv_iload hx hb dX7_placeOf_28 (lv_at hl 5 rfl) ?_
          refine lv_iadd hx hb dX7_placeOf_30 ?_
          obtain ⟨hi, hf⟩ := chk_some hf
          refine va_iald hx hb hK hP 1 0 rfl rfl (inb_in hi) dX7_placeOf_31 ?_
          refine lv_iload_n hx hb dX7_placeOf_32 rfl (lv_at hl 3 rfl) ?_
          refine lv_icmp_ne (tgt := 41) hx hb dX7_placeOf_33 (by decide) (fun c_7 => ?_) (fun c_7 => ?_)
          · have hf := ite_f hf c_7
            exact j41_4 _ hf (lv_sub hl [0, 1, 2, 3, 4, 5] rfl)
          · have hf := ite_t hf c_7
            refine lv_iload hx hb dX7_placeOf_36 (lv_at hl 5 rfl) ?_
            refine lv_goto (tgt := 43) hx hb dX7_placeOf_38 (by decide) ?_
            exact j43_3 _ _ hf (lv_sub hl [0, 1, 2, 3, 5] rfl)
  exact j6_1 4096 _ _ _ hf (lv_sub hl [2, 3, 4, 5, 1, 0] rfl)
set_option maxRecDepth 20000 in
theorem ggX7_entryOf_X7_at : GoodIn wsX7_entryOf wsX7_at := goodIn_r _ [9] (by decide +kernel) (by decide +kernel)
set_option maxRecDepth 20000 in
theorem gX7_entryOf_X7_at : GoodIn wsX7_entryOf (va_wsS RX7 67 yX7_at wsX7_at) := goodIn_app (goodIn_of _ (by decide +kernel)) ggX7_entryOf_X7_at
set_option maxRecDepth 20000 in
theorem ggX7_entryOf_X7_placeOf : GoodIn wsX7_entryOf wsX7_placeOf := goodIn_r _ [6, 1, 7, 8, 5, 9, 10, 11, 12, 13, 14, 15, 16, 17, 18, 19, 20, 21, 22, 23, 24, 25, 26, 27, 28] (by decide +kernel) (by decide +kernel)
set_option maxRecDepth 20000 in
theorem gX7_entryOf_X7_placeOf : GoodIn wsX7_entryOf (wsV RX7 105 RX7 yX7_placeOf wsX7_placeOf) := goodIn_app (goodIn_of _ (by decide +kernel)) ggX7_entryOf_X7_placeOf
theorem dX7_entryOf_0 : decode cX7_entryOf 0 = .ok (.aload_n 0, 1) := by decide +kernel
theorem dX7_entryOf_1 : decode cX7_entryOf 1 = .ok (.iload_n 1, 1) := by decide +kernel
theorem dX7_entryOf_2 : decode cX7_entryOf 2 = .ok (.iload_n 2, 1) := by decide +kernel
theorem dX7_entryOf_3 : decode cX7_entryOf 3 = .ok (.iload_n 3, 1) := by decide +kernel
theorem dX7_entryOf_4 : decode cX7_entryOf 4 = .ok (.invokevirtual 105, 3) := by decide +kernel
theorem dX7_entryOf_7 : decode cX7_entryOf 7 = .ok (.istore 4, 2) := by decide +kernel
theorem dX7_entryOf_9 : decode cX7_entryOf 9 = .ok (.iload 4, 2) := by decide +kernel
theorem dX7_entryOf_11 : decode cX7_entryOf 11 = .ok (.iconst (-1), 1) := by decide +kernel
theorem dX7_entryOf_12 : decode cX7_entryOf 12 = .ok (.if_icmp .ne 7, 3) := by decide +kernel
theorem dX7_entryOf_15 : decode cX7_entryOf 15 = .ok (.iconst (-1), 1) := by decide +kernel
theorem dX7_entryOf_16 : decode cX7_entryOf 16 = .ok (.goto 19, 3) := by decide +kernel
theorem dX7_entryOf_19 : decode cX7_entryOf 19 = .ok (.aload_n 0, 1) := by decide +kernel
theorem dX7_entryOf_20 : decode cX7_entryOf 20 = .ok (.getfield 7, 3) := by decide +kernel
theorem dX7_entryOf_23 : decode cX7_entryOf 23 = .ok (.iload_n 1, 1) := by decide +kernel
theorem dX7_entryOf_24 : decode cX7_entryOf 24 = .ok (.iload_n 2, 1) := by decide +kernel
theorem dX7_entryOf_25 : decode cX7_entryOf 25 = .ok (.invokestatic 67, 3) := by decide +kernel
theorem dX7_entryOf_28 : decode cX7_entryOf 28 = .ok (.bipush 13, 2) := by decide +kernel
theorem dX7_entryOf_30 : decode cX7_entryOf 30 = .ok (.iadd, 1) := by decide +kernel
theorem dX7_entryOf_31 : decode cX7_entryOf 31 = .ok (.iload 4, 2) := by decide +kernel
theorem dX7_entryOf_33 : decode cX7_entryOf 33 = .ok (.iadd, 1) := by decide +kernel
theorem dX7_entryOf_34 : decode cX7_entryOf 34 = .ok (.iaload, 1) := by decide +kernel
theorem dX7_entryOf_35 : decode cX7_entryOf 35 = .ok (.ireturn, 1) := by decide +kernel
def f_X7_entryOf (u0 : S1) (p1 : Int32) (p2 : Int32) (p3 : Int32) : Option (Int32) := bn (f_X7_placeOf u0 p1 p2 p3) (fun z_1 => jn (fun (v35_2_0 : Int32) => some v35_2_0) (fun k35_2 => if z_1 = (-1) then k35_2 (-1) else bn (f_X7_at p1 p2) (fun z_4 => chk (inb ((z_4 + 13) + z_1) 8480) (k35_2 (u0 0 ((z_4 + 13) + z_1).toNatClampNeg)))))
def rmX7_entryOf : Room := { frames := 2, cells := 0, slots := 0, locals := 46 }
set_option maxHeartbeats 4000000 in
set_option maxRecDepth 100000 in
theorem c_X7_entryOf (l : Launch) (D : va_G) (cI cZ cJ cT : ClassId) (a0 : Nat → Nat) (u0 : S1) (p1 : Int32) (p2 : Int32) (p3 : Int32) (o : Int32) (hf : f_X7_entryOf u0 p1 p2 p3 = some o) : Met l yX7_entryOf wsX7_entryOf rmX7_entryOf (va_Pc [.ref (a0 0), .int p1, .int p2, .int p3] (PR D cls (tys cI cZ cJ cT) ((wX7 cI cZ a0 u0)))) (QR o) 0 0 (fun _ => False) := by
  refine Met.ofW (cc := cX7_entryOf) (maxL := 5) (ret := (some .int)) (by decide) rfl ?_
  intro p e s m args below meth c s₁ B hml hv
  obtain ⟨hav, hP, hK⟩ := hv
  have hx := B.exec
  have hb := B.bytes
  have hr := B.returns
  have hlocks := B.notSynchronized
  have hts := atoms_spec (ws := wsX7_entryOf) B.pre
  have hown : s.vm.findClass RX7 = some m.cls := findClass_of_methodNamed B.named
  have i7 : ∀ w ∈ wsX70, w ∈ wsX7_entryOf := fun w h => List.mem_cons_of_mem _ (List.mem_append_right _ h)
  have hk7 := hts (.fieldLink RX7 7 "InoderyModel" "s" "[I") (by decide +kernel)
  refine Wq (fun Q hQ => ?_)
  refine W_entry hav (Nat.le_of_ble_eq_true rfl) (fun ls hl => ?_)
  have hl : lv_has ls 5 [(0, .ref (a0 0)), (1, .int p1), (2, .int p2), (3, .int p3)] := hl
  unfold f_X7_entryOf at hf
  refine lv_aload_n hx hb dX7_entryOf_0 rfl (lv_at hl 0 rfl) ?_
  refine lv_iload_n hx hb dX7_entryOf_1 rfl (lv_at hl 1 rfl) ?_
  refine lv_iload_n hx hb dX7_entryOf_2 rfl (lv_at hl 2 rfl) ?_
  refine lv_iload_n hx hb dX7_entryOf_3 rfl (lv_at hl 3 rfl) ?_
  obtain ⟨z_1, hz_1, hf⟩ := bn_some hf
  refine cRV (As := [.int p1, .int p2, .int p3]) (rest := []) ⟨hx, hb, hml, hown, hts⟩ (c_X7_placeOf l D cI cZ cJ cT a0 u0 p1 p2 p3 z_1 hz_1) (cwV 3 hts gX7_entryOf_X7_placeOf rfl rfl rfl (by decide +kernel) ⟨Nat.le_of_ble_eq_true rfl, Nat.le_of_ble_eq_true rfl⟩) hP hK (va_recv hK hP (ci := 7) (q0 := 0) rfl rfl) rfl rfl hl.1 (Nat.le_of_ble_eq_true rfl) dX7_entryOf_4 ⟨Nat.le_of_ble_eq_true rfl, Nat.le_of_ble_eq_true rfl⟩ ?_
  refine lv_istore (lv' := [(4, .int z_1), (0, .ref (a0 0)), (1, .int p1), (2, .int p2), (3, .int p3)]) hx hb dX7_entryOf_7 hl (by decide) rfl (fun ls hl => ?_)
  refine lv_iload hx hb dX7_entryOf_9 (lv_at hl 0 rfl) ?_
  refine lv_iconst (v := (-1)) hx hb dX7_entryOf_11 (by decide) ?_
  obtain ⟨k35_2, hk35_2, hf⟩ := jn_some hf
  have j35_2 : ∀ (v35_2_0 : Int32) (ls : Array Slot), k35_2 v35_2_0 = some o → lv_has ls 5 [] → W p l e (headSpec wsX7_entryOf rmX7_entryOf).room s m args below meth c s.heap [] 0 0 Q (F0 m 35 ls [.int v35_2_0]) := by
    intro v35_2_0 ls hf hl
    have hf := qa1 hk35_2 hf
    rw [hQ]
    exact W.iret hx hb hr (fun t ht hW => ⟨_, rfl, Option.some.inj hf, ht⟩) (fun _ h => nomatch h) dX7_entryOf_35 hlocks
  refine lv_icmp_ne (tgt := 19) hx hb dX7_entryOf_12 (by decide) (fun c_3 => ?_) (fun c_3 => ?_)
  · have hf := ite_f hf c_3
    refine lv_aload_n hx hb dX7_entryOf_19 rfl (lv_at hl 1 rfl) ?_
    refine va_get (D := D) (ci := 7) (v := .ref (a0 1)) (C := RX7) (T := TX7) (N := 19) hx hb hts i7 hown hK hP 0 rfl rfl 0 (by decide) hk7 (fun _ h9 => h9) rfl dX7_entryOf_20 ?_
    refine lv_iload_n hx hb dX7_entryOf_23 rfl (lv_at hl 2 rfl) ?_
    refine lv_iload_n hx hb dX7_entryOf_24 rfl (lv_at hl 3 rfl) ?_
    obtain ⟨z_4, hz_4, hf⟩ := bn_some hf
    refine c0S (As := [.int p1, .int p2]) (rest := [.ref (a0 1)]) ⟨hx, hb, hml, hown, hts⟩ (c_X7_at l D cI cZ cJ cT p1 p2 z_4 hz_4) (va_cwS 2 hts gX7_entryOf_X7_at rfl rfl rfl (by decide +kernel) ⟨Nat.le_of_ble_eq_true rfl, Nat.le_of_ble_eq_true rfl⟩) rfl rfl hl.1 (Nat.le_of_ble_eq_true rfl) dX7_entryOf_25 ⟨Nat.le_of_ble_eq_true rfl, Nat.le_of_ble_eq_true rfl⟩ ?_
    refine lv_bipush (v := 13) hx hb dX7_entryOf_28 (by decide) ?_
    refine lv_iadd hx hb dX7_entryOf_30 ?_
    refine lv_iload hx hb dX7_entryOf_31 (lv_at hl 0 rfl) ?_
    refine lv_iadd hx hb dX7_entryOf_33 ?_
    obtain ⟨hi, hf⟩ := chk_some hf
    refine va_iald hx hb hK hP 1 0 rfl rfl (inb_in hi) dX7_entryOf_34 ?_
    exact j35_2 _ _ hf (lv_sub hl [] rfl)
  · have hf := ite_t hf c_3
    refine lv_iconst (v := (-1)) hx hb dX7_entryOf_15 (by decide) ?_
    refine lv_goto (tgt := 35) hx hb dX7_entryOf_16 (by decide) ?_
    exact j35_2 _ _ hf (lv_sub hl [] rfl)
set_option maxRecDepth 20000 in
theorem ggX7_enters_X7_at : GoodIn wsX7_enters wsX7_at := goodIn_r _ [5] (by decide +kernel) (by decide +kernel)
set_option maxRecDepth 20000 in
theorem gX7_enters_X7_at : GoodIn wsX7_enters (va_wsS RX7 67 yX7_at wsX7_at) := goodIn_app (goodIn_of _ (by decide +kernel)) ggX7_enters_X7_at
set_option maxRecDepth 20000 in
theorem ggX7_enters_X7_entries : GoodIn wsX7_enters wsX7_entries := goodIn_r _ [9, 1, 2, 3, 4, 5, 10, 11, 12, 13, 14, 15, 16, 17, 18, 19, 20, 21, 22, 23, 24, 25, 26, 27, 28] (by decide +kernel) (by decide +kernel)
set_option maxRecDepth 20000 in
theorem gX7_enters_X7_entries : GoodIn wsX7_enters (wsV RX7 109 RX7 yX7_entries wsX7_entries) := goodIn_app (goodIn_of _ (by decide +kernel)) ggX7_enters_X7_entries
theorem dX7_enters_0 : decode cX7_enters 0 = .ok (.iconst 0, 1) := by decide +kernel
theorem dX7_enters_1 : decode cX7_enters 1 = .ok (.iload_n 1, 1) := by decide +kernel
theorem dX7_enters_2 : decode cX7_enters 2 = .ok (.invokestatic 67, 3) := by decide +kernel
theorem dX7_enters_5 : decode cX7_enters 5 = .ok (.istore 4, 2) := by decide +kernel
theorem dX7_enters_7 : decode cX7_enters 7 = .ok (.aload_n 0, 1) := by decide +kernel
theorem dX7_enters_8 : decode cX7_enters 8 = .ok (.iconst 0, 1) := by decide +kernel
theorem dX7_enters_9 : decode cX7_enters 9 = .ok (.iload_n 1, 1) := by decide +kernel
theorem dX7_enters_10 : decode cX7_enters 10 = .ok (.invokevirtual 109, 3) := by decide +kernel
theorem dX7_enters_13 : decode cX7_enters 13 = .ok (.istore 5, 2) := by decide +kernel
theorem dX7_enters_15 : decode cX7_enters 15 = .ok (.iload 5, 2) := by decide +kernel
theorem dX7_enters_17 : decode cX7_enters 17 = .ok (.ifCond .le 81, 3) := by decide +kernel
theorem dX7_enters_20 : decode cX7_enters 20 = .ok (.aload_n 0, 1) := by decide +kernel
theorem dX7_enters_21 : decode cX7_enters 21 = .ok (.getfield 7, 3) := by decide +kernel
theorem dX7_enters_24 : decode cX7_enters 24 = .ok (.iload 4, 2) := by decide +kernel
theorem dX7_enters_26 : decode cX7_enters 26 = .ok (.iconst 5, 1) := by decide +kernel
theorem dX7_enters_27 : decode cX7_enters 27 = .ok (.iadd, 1) := by decide +kernel
theorem dX7_enters_28 : decode cX7_enters 28 = .ok (.iload 5, 2) := by decide +kernel
theorem dX7_enters_30 : decode cX7_enters 30 = .ok (.iadd, 1) := by decide +kernel
theorem dX7_enters_31 : decode cX7_enters 31 = .ok (.iconst 1, 1) := by decide +kernel
theorem dX7_enters_32 : decode cX7_enters 32 = .ok (.isub, 1) := by decide +kernel
theorem dX7_enters_33 : decode cX7_enters 33 = .ok (.iaload, 1) := by decide +kernel
theorem dX7_enters_34 : decode cX7_enters 34 = .ok (.iload_n 2, 1) := by decide +kernel
theorem dX7_enters_35 : decode cX7_enters 35 = .ok (.if_icmp .le 63, 3) := by decide +kernel
theorem dX7_enters_38 : decode cX7_enters 38 = .ok (.aload_n 0, 1) := by decide +kernel
theorem dX7_enters_39 : decode cX7_enters 39 = .ok (.getfield 7, 3) := by decide +kernel
theorem dX7_enters_42 : decode cX7_enters 42 = .ok (.iload 4, 2) := by decide +kernel
theorem dX7_enters_44 : decode cX7_enters 44 = .ok (.iconst 5, 1) := by decide +kernel
theorem dX7_enters_45 : decode cX7_enters 45 = .ok (.iadd, 1) := by decide +kernel
theorem dX7_enters_46 : decode cX7_enters 46 = .ok (.iload 5, 2) := by decide +kernel
theorem dX7_enters_48 : decode cX7_enters 48 = .ok (.iadd, 1) := by decide +kernel
theorem dX7_enters_49 : decode cX7_enters 49 = .ok (.aload_n 0, 1) := by decide +kernel
theorem dX7_enters_50 : decode cX7_enters 50 = .ok (.getfield 7, 3) := by decide +kernel
theorem dX7_enters_53 : decode cX7_enters 53 = .ok (.iload 4, 2) := by decide +kernel
theorem dX7_enters_55 : decode cX7_enters 55 = .ok (.iconst 5, 1) := by decide +kernel
theorem dX7_enters_56 : decode cX7_enters 56 = .ok (.iadd, 1) := by decide +kernel
theorem dX7_enters_57 : decode cX7_enters 57 = .ok (.iload 5, 2) := by decide +kernel
theorem dX7_enters_59 : decode cX7_enters 59 = .ok (.iadd, 1) := by decide +kernel
theorem dX7_enters_60 : decode cX7_enters 60 = .ok (.iconst 1, 1) := by decide +kernel
theorem dX7_enters_61 : decode cX7_enters 61 = .ok (.isub, 1) := by decide +kernel
theorem dX7_enters_62 : decode cX7_enters 62 = .ok (.iaload, 1) := by decide +kernel
theorem dX7_enters_63 : decode cX7_enters 63 = .ok (.iastore, 1) := by decide +kernel
theorem dX7_enters_64 : decode cX7_enters 64 = .ok (.aload_n 0, 1) := by decide +kernel
theorem dX7_enters_65 : decode cX7_enters 65 = .ok (.getfield 7, 3) := by decide +kernel
theorem dX7_enters_68 : decode cX7_enters 68 = .ok (.iload 4, 2) := by decide +kernel
theorem dX7_enters_70 : decode cX7_enters 70 = .ok (.bipush 13, 2) := by decide +kernel
theorem dX7_enters_72 : decode cX7_enters 72 = .ok (.iadd, 1) := by decide +kernel
theorem dX7_enters_73 : decode cX7_enters 73 = .ok (.iload 5, 2) := by decide +kernel
theorem dX7_enters_75 : decode cX7_enters 75 = .ok (.iadd, 1) := by decide +kernel
theorem dX7_enters_76 : decode cX7_enters 76 = .ok (.aload_n 0, 1) := by decide +kernel
theorem dX7_enters_77 : decode cX7_enters 77 = .ok (.getfield 7, 3) := by decide +kernel
theorem dX7_enters_80 : decode cX7_enters 80 = .ok (.iload 4, 2) := by decide +kernel
theorem dX7_enters_82 : decode cX7_enters 82 = .ok (.bipush 13, 2) := by decide +kernel
theorem dX7_enters_84 : decode cX7_enters 84 = .ok (.iadd, 1) := by decide +kernel
theorem dX7_enters_85 : decode cX7_enters 85 = .ok (.iload 5, 2) := by decide +kernel
theorem dX7_enters_87 : decode cX7_enters 87 = .ok (.iadd, 1) := by decide +kernel
theorem dX7_enters_88 : decode cX7_enters 88 = .ok (.iconst 1, 1) := by decide +kernel
theorem dX7_enters_89 : decode cX7_enters 89 = .ok (.isub, 1) := by decide +kernel
theorem dX7_enters_90 : decode cX7_enters 90 = .ok (.iaload, 1) := by decide +kernel
theorem dX7_enters_91 : decode cX7_enters 91 = .ok (.iastore, 1) := by decide +kernel
theorem dX7_enters_92 : decode cX7_enters 92 = .ok (.iinc 5 (-1), 3) := by decide +kernel
theorem dX7_enters_95 : decode cX7_enters 95 = .ok (.goto (-80), 3) := by decide +kernel
theorem dX7_enters_98 : decode cX7_enters 98 = .ok (.aload_n 0, 1) := by decide +kernel
theorem dX7_enters_99 : decode cX7_enters 99 = .ok (.getfield 7, 3) := by decide +kernel
theorem dX7_enters_102 : decode cX7_enters 102 = .ok (.iload 4, 2) := by decide +kernel
theorem dX7_enters_104 : decode cX7_enters 104 = .ok (.iconst 5, 1) := by decide +kernel
theorem dX7_enters_105 : decode cX7_enters 105 = .ok (.iadd, 1) := by decide +kernel
theorem dX7_enters_106 : decode cX7_enters 106 = .ok (.iload 5, 2) := by decide +kernel
theorem dX7_enters_108 : decode cX7_enters 108 = .ok (.iadd, 1) := by decide +kernel
theorem dX7_enters_109 : decode cX7_enters 109 = .ok (.iload_n 2, 1) := by decide +kernel
theorem dX7_enters_110 : decode cX7_enters 110 = .ok (.iastore, 1) := by decide +kernel
theorem dX7_enters_111 : decode cX7_enters 111 = .ok (.aload_n 0, 1) := by decide +kernel
theorem dX7_enters_112 : decode cX7_enters 112 = .ok (.getfield 7, 3) := by decide +kernel
theorem dX7_enters_115 : decode cX7_enters 115 = .ok (.iload 4, 2) := by decide +kernel
theorem dX7_enters_117 : decode cX7_enters 117 = .ok (.bipush 13, 2) := by decide +kernel
theorem dX7_enters_119 : decode cX7_enters 119 = .ok (.iadd, 1) := by decide +kernel
theorem dX7_enters_120 : decode cX7_enters 120 = .ok (.iload 5, 2) := by decide +kernel
theorem dX7_enters_122 : decode cX7_enters 122 = .ok (.iadd, 1) := by decide +kernel
theorem dX7_enters_123 : decode cX7_enters 123 = .ok (.iload_n 3, 1) := by decide +kernel
theorem dX7_enters_124 : decode cX7_enters 124 = .ok (.iastore, 1) := by decide +kernel
theorem dX7_enters_125 : decode cX7_enters 125 = .ok (.return_, 1) := by decide +kernel
def f_X7_enters (u0 : S1) (p1 : Int32) (p2 : Int32) (p3 : Int32) : Option (S1) := bn (f_X7_at 0 p1) (fun z_1 => bn (f_X7_entries u0 0 p1) (fun z_2 => qj2 (fun (r15_3 : Int32 → S1 → Option (S1)) (y15_3_5 : Int32) (u15_3_0 : S1) => jn (chk (inb ((z_1 + 5) + y15_3_5) 8480) (bv (st u15_3_0 0 ((z_1 + 5) + y15_3_5) p2) (fun u_5 => chk (inb ((z_1 + 13) + y15_3_5) 8480) (bv (st u_5 0 ((z_1 + 13) + y15_3_5) p3) (fun u_6 => some (u_6)))))) (fun k98_4 => if y15_3_5 ≤ 0 then k98_4 else chk (inb (((z_1 + 5) + y15_3_5) - 1) 8480) (if (u15_3_0 0 (((z_1 + 5) + y15_3_5) - 1).toNatClampNeg) ≤ p2 then k98_4 else chk (inb (((z_1 + 5) + y15_3_5) - 1) 8480) (chk (inb ((z_1 + 5) + y15_3_5) 8480) (bv (st u15_3_0 0 ((z_1 + 5) + y15_3_5) (u15_3_0 0 (((z_1 + 5) + y15_3_5) - 1).toNatClampNeg)) (fun u_9 => chk (inb (((z_1 + 13) + y15_3_5) - 1) 8480) (chk (inb ((z_1 + 13) + y15_3_5) 8480) (bv (st u_9 0 ((z_1 + 13) + y15_3_5) (u_9 0 (((z_1 + 13) + y15_3_5) - 1).toNatClampNeg)) (fun u_10 => r15_3 (y15_3_5 + (-1)) u_10))))))))) (fun k15_3 => k15_3 z_2 u0)))
def rmX7_enters : Room := { frames := 2, cells := 0, slots := 0, locals := 44 }
set_option maxHeartbeats 4000000 in
set_option maxRecDepth 100000 in
theorem c_X7_enters (l : Launch) (D : va_G) (cI cZ cJ cT : ClassId) (a0 : Nat → Nat) (sz : Nat) (u0 : S1) (p1 : Int32) (p2 : Int32) (p3 : Int32) (o : S1) (hf : f_X7_enters u0 p1 p2 p3 = some o) : Met l yX7_enters wsX7_enters rmX7_enters (va_Pc [.ref (a0 0), .int p1, .int p2, .int p3] (PW D cls (tys cI cZ cJ cT) ((wX7 cI cZ a0 u0)) sz)) (QWv D cls ((wX7 cI cZ a0 o)) (va_A ((wX7 cI cZ a0 u0)) sz)) 0 0 (va_A ((wX7 cI cZ a0 u0)) sz) := by
  refine Met.ofW (cc := cX7_enters) (maxL := 6) (ret := none) (by decide) rfl ?_
  intro p e s m args below meth c s₁ B hml hv
  obtain ⟨hav, hsz, hP, hK, hD0⟩ := hv
  have hx := B.exec
  have hb := B.bytes
  have hr := B.returns
  have hlocks := B.notSynchronized
  have hts := atoms_spec (ws := wsX7_enters) B.pre
  have hown : s.vm.findClass RX7 = some m.cls := findClass_of_methodNamed B.named
  have i7 : ∀ w ∈ wsX70, w ∈ wsX7_enters := fun w h => List.mem_cons_of_mem _ (List.mem_append_right _ h)
  have hk7 := hts (.fieldLink RX7 7 "InoderyModel" "s" "[I") (by decide +kernel)
  subst hsz
  have hD := hD0.self (sz := s.heap.size)
  generalize hAe : va_A ((wX7 cI cZ a0 u0)) s.heap.size = A at hD ⊢
  have hA : ∀ q : Nat, s.heap.size ≤ q → A q := fun q h => by rw [← hAe]; exact Or.inr h
  have hS : va_S A s.heap s.heap [] := va_S.rf
  have hDD : ∀ w0 : S1, va_D A ((wX7 cI cZ a0 w0)) := fun _ => D_same (w := (wX7 cI cZ a0 u0)) rfl hD
  refine Wq (fun Q hQ => ?_)
  refine W_entry hav (Nat.le_of_ble_eq_true rfl) (fun ls hl => ?_)
  have hl : lv_has ls 6 [(0, .ref (a0 0)), (1, .int p1), (2, .int p2), (3, .int p3)] := hl
  unfold f_X7_enters at hf
  refine W_heap hP hS (fun H locs hP hS => ?_)
  refine lv_iconst (v := 0) hx hb dX7_enters_0 (by decide) ?_
  refine lv_iload_n hx hb dX7_enters_1 rfl (lv_at hl 1 rfl) ?_
  obtain ⟨z_1, hz_1, hf⟩ := bn_some hf
  refine c0S (As := [.int 0, .int p1]) (rest := []) ⟨hx, hb, hml, hown, hts⟩ (c_X7_at l D cI cZ cJ cT 0 p1 z_1 hz_1) (va_cwS 2 hts gX7_enters_X7_at rfl rfl rfl (by decide +kernel) ⟨Nat.le_of_ble_eq_true rfl, Nat.le_of_ble_eq_true rfl⟩) rfl rfl hl.1 (Nat.le_of_ble_eq_true rfl) dX7_enters_2 ⟨Nat.le_of_ble_eq_true rfl, Nat.le_of_ble_eq_true rfl⟩ ?_
  refine lv_istore (lv' := [(4, .int z_1), (0, .ref (a0 0)), (1, .int p1), (2, .int p2), (3, .int p3)]) hx hb dX7_enters_5 hl (by decide) rfl (fun ls hl => ?_)
  refine lv_aload_n hx hb dX7_enters_7 rfl (lv_at hl 1 rfl) ?_
  refine lv_iconst (v := 0) hx hb dX7_enters_8 (by decide) ?_
  refine lv_iload_n hx hb dX7_enters_9 rfl (lv_at hl 2 rfl) ?_
  obtain ⟨z_2, hz_2, hf⟩ := bn_some hf
  refine cRV (As := [.int 0, .int p1]) (rest := []) ⟨hx, hb, hml, hown, hts⟩ (c_X7_entries l D cI cZ cJ cT a0 u0 0 p1 z_2 hz_2) (cwV 2 hts gX7_enters_X7_entries rfl rfl rfl (by decide +kernel) ⟨Nat.le_of_ble_eq_true rfl, Nat.le_of_ble_eq_true rfl⟩) hP hK (va_recv hK hP (ci := 7) (q0 := 0) rfl rfl) rfl rfl hl.1 (Nat.le_of_ble_eq_true rfl) dX7_enters_10 ⟨Nat.le_of_ble_eq_true rfl, Nat.le_of_ble_eq_true rfl⟩ ?_
  refine lv_istore (lv' := [(5, .int z_2), (4, .int z_1), (0, .ref (a0 0)), (1, .int p1), (2, .int p2), (3, .int p3)]) hx hb dX7_enters_13 hl (by decide) rfl (fun ls hl => ?_)
  obtain ⟨G15_3, hG15_3, hf⟩ := qj2_some hf
  have j15_3 : ∀ (n : Nat) (y15_3_5 : Int32) (u15_3_0 : S1) (H : Heap) (locs : List Loc) (ls : Array Slot), ql2 G15_3 n y15_3_5 u15_3_0 = some o → va_P D cls (wX7 cI cZ a0 u15_3_0) H → va_S A s.heap H locs → lv_has ls 6 [(0, .ref (a0 0)), (2, .int p2), (3, .int p3), (4, .int z_1), (5, .int y15_3_5)] → W p l e (headSpec wsX7_enters rmX7_enters).room s m args below meth c H locs 0 0 Q (F0 m 15 ls []) := by
    intro n
    induction n with
    | zero => intro y15_3_5 u15_3_0 H locs ls hf hP hS hl; exact (ql2_z hf).elim
    | succ n ih15_3 =>
      intro y15_3_5 u15_3_0 H locs ls hf hP hS hl
      have hf := ql2_s hG15_3 hf
      obtain ⟨r15_3, hr15_3⟩ : ∃ z, z = ql2 G15_3 n := ⟨_, rfl⟩
      rw [← hr15_3] at hf ih15_3
      refine lv_iload hx hb dX7_enters_15 (lv_at hl 4 rfl) ?_
      obtain ⟨k98_4, hk98_4, hf⟩ := jn_some hf
      have j98_4 : ∀ (H : Heap) (locs : List Loc) (ls : Array Slot), k98_4 = some o → va_P D cls (wX7 cI cZ a0 u15_3_0) H → va_S A s.heap H locs → lv_has ls 6 [(0, .ref (a0 0)), (2, .int p2), (3, .int p3), (4, .int z_1), (5, .int y15_3_5)] → W p l e (headSpec wsX7_enters rmX7_enters).room s m args below meth c H locs 0 0 Q (F0 m 98 ls []) := by
        intro H locs ls hf hP hS hl
        have hf := qa0 hk98_4 hf
        refine lv_aload_n hx hb dX7_enters_98 rfl (lv_at hl 0 rfl) ?_
        refine va_get (D := D) (ci := 7) (v := .ref (a0 1)) (C := RX7) (T := TX7) (N := 19) hx hb hts i7 hown hK hP 0 rfl rfl 0 (by decide) hk7 (fun _ h9 => h9) rfl dX7_enters_99 ?_
        refine lv_iload hx hb dX7_enters_102 (lv_at hl 3 rfl) ?_
        refine lv_iconst (v := 5) hx hb dX7_enters_104 (by decide) ?_
        refine lv_iadd hx hb dX7_enters_105 ?_
        refine lv_iload hx hb dX7_enters_106 (lv_at hl 4 rfl) ?_
        refine lv_iadd hx hb dX7_enters_108 ?_
        refine lv_iload_n hx hb dX7_enters_109 rfl (lv_at hl 1 rfl) ?_
        obtain ⟨hi, hf⟩ := chk_some hf
        obtain ⟨u_5, hu_5, hf⟩ := bv_some hf
        refine va_iast hx hb hK hP (hDD u15_3_0) hS 1 0 rfl rfl (inb_in hi) dX7_enters_110 (fun H locs hP _ hS => ?_)
        have hP : va_P D cls (wX7 cI cZ a0 u_5) H := by rw [hu_5]; exact hP
        refine lv_aload_n hx hb dX7_enters_111 rfl (lv_at hl 0 rfl) ?_
        refine va_get (D := D) (ci := 7) (v := .ref (a0 1)) (C := RX7) (T := TX7) (N := 19) hx hb hts i7 hown hK hP 0 rfl rfl 0 (by decide) hk7 (fun _ h9 => h9) rfl dX7_enters_112 ?_
        refine lv_iload hx hb dX7_enters_115 (lv_at hl 3 rfl) ?_
        refine lv_bipush (v := 13) hx hb dX7_enters_117 (by decide) ?_
        refine lv_iadd hx hb dX7_enters_119 ?_
        refine lv_iload hx hb dX7_enters_120 (lv_at hl 4 rfl) ?_
        refine lv_iadd hx hb dX7_enters_122 ?_
        refine lv_iload_n hx hb dX7_enters_123 rfl (lv_at hl 2 rfl) ?_
        obtain ⟨hi, hf⟩ := chk_some hf
        obtain ⟨u_6, hu_6, hf⟩ := bv_some hf
        refine va_iast hx hb hK hP (hDD u_5) hS 1 0 rfl rfl (inb_in hi) dX7_enters_124 (fun H locs hP _ hS => ?_)
        have hP : va_P D cls (wX7 cI cZ a0 u_6) H := by rw [hu_6]; exact hP
        have eo := Option.some.inj hf
        have hP : va_P D cls (wX7 cI cZ a0 o) H := by rw [← eo]; exact hP
        rw [hQ]
        exact W.vret hx hb hr (fun t ht hW => ⟨⟨(), rfl, trivial, P_at ht hP⟩, hS.F ht⟩) hS.2.2 dX7_enters_125 hlocks
      refine lv_if_le (tgt := 98) hx hb dX7_enters_17 (by decide) (fun c_7 => ?_) (fun c_7 => ?_)
      · have hf := ite_t hf c_7
        exact j98_4 _ _ _ hf hP hS (lv_sub hl [0, 1, 2, 3, 4] rfl)
      · have hf := ite_f hf c_7
        refine lv_aload_n hx hb dX7_enters_20 rfl (lv_at hl 0 rfl) ?_
        refine va_get (D := D) (ci := 7) (v := .ref (a0 1)) (C := RX7) (T := TX7) (N := 19) hx hb hts i7 hown hK hP 0 rfl rfl 0 (by decide) hk7 (fun _ h9 => h9) rfl dX7_enters_21 ?_
        refine lv_iload hx hb dX7_enters_24 (lv_at hl 3 rfl) ?_
        refine lv_iconst (v := 5) hx hb dX7_enters_26 (by decide) ?_
        refine lv_iadd hx hb dX7_enters_27 ?_
        refine lv_iload hx hb dX7_enters_28 (lv_at hl 4 rfl) ?_
        refine lv_iadd hx hb dX7_enters_30 ?_
        refine lv_iconst (v := 1) hx hb dX7_enters_31 (by decide) ?_
        refine lv_isub hx hb dX7_enters_32 ?_
        obtain ⟨hi, hf⟩ := chk_some hf
        refine va_iald hx hb hK hP 1 0 rfl rfl (inb_in hi) dX7_enters_33 ?_
        refine lv_iload_n hx hb dX7_enters_34 rfl (lv_at hl 1 rfl) ?_
        refine lv_icmp_le (tgt := 98) hx hb dX7_enters_35 (by decide) (fun c_8 => ?_) (fun c_8 => ?_)
        · have hf := ite_t hf c_8
          exact j98_4 _ _ _ hf hP hS (lv_sub hl [0, 1, 2, 3, 4] rfl)
        · have hf := ite_f hf c_8
          refine lv_aload_n hx hb dX7_enters_38 rfl (lv_at hl 0 rfl) ?_
          refine va_get (D := D) (ci := 7) (v := .ref (a0 1)) (C := RX7) (T := TX7) (N := 19) hx hb hts i7 hown hK hP 0 rfl rfl 0 (by decide) hk7 (fun _ h9 => h9) rfl dX7_enters_39 ?_
          refine lv_iload hx hb dX7_enters_42 (lv_at hl 3 rfl) ?_
          refine lv_iconst (v := 5) hx hb dX7_enters_44 (by decide) ?_
          refine lv_iadd hx hb dX7_enters_45 ?_
          refine lv_iload hx hb dX7_enters_46 (lv_at hl 4 rfl) ?_
          refine lv_iadd hx hb dX7_enters_48 ?_
          refine lv_aload_n hx hb dX7_enters_49 rfl (lv_at hl 0 rfl) ?_
          refine va_get (D := D) (ci := 7) (v := .ref (a0 1)) (C := RX7) (T := TX7) (N := 19) hx hb hts i7 hown hK hP 0 rfl rfl 0 (by decide) hk7 (fun _ h9 => h9) rfl dX7_enters_50 ?_
          refine lv_iload hx hb dX7_enters_53 (lv_at hl 3 rfl) ?_
          refine lv_iconst (v := 5) hx hb dX7_enters_55 (by decide) ?_
          refine lv_iadd hx hb dX7_enters_56 ?_
          refine lv_iload hx hb dX7_enters_57 (lv_at hl 4 rfl) ?_
          refine lv_iadd hx hb dX7_enters_59 ?_
          refine lv_iconst (v := 1) hx hb dX7_enters_60 (by decide) ?_
          refine lv_isub hx hb dX7_enters_61 ?_
          obtain ⟨hi, hf⟩ := chk_some hf
          refine va_iald hx hb hK hP 1 0 rfl rfl (inb_in hi) dX7_enters_62 ?_
          obtain ⟨hi, hf⟩ := chk_some hf
          obtain ⟨u_9, hu_9, hf⟩ := bv_some hf
          refine va_iast hx hb hK hP (hDD u15_3_0) hS 1 0 rfl rfl (inb_in hi) dX7_enters_63 (fun H locs hP _ hS => ?_)
          have hP : va_P D cls (wX7 cI cZ a0 u_9) H := by rw [hu_9]; exact hP
          refine lv_aload_n hx hb dX7_enters_64 rfl (lv_at hl 0 rfl) ?_
          refine va_get (D := D) (ci := 7) (v := .ref (a0 1)) (C := RX7) (T := TX7) (N := 19) hx hb hts i7 hown hK hP 0 rfl rfl 0 (by decide) hk7 (fun _ h9 => h9) rfl dX7_enters_65 ?_
          refine lv_iload hx hb dX7_enters_68 (lv_at hl 3 rfl) ?_
          refine lv_bipush (v := 13) hx hb dX7_enters_70 (by decide) ?_
          refine lv_iadd hx hb dX7_enters_72 ?_
          refine lv_iload hx hb dX7_enters_73 (lv_at hl 4 rfl) ?_
          refine lv_iadd hx hb dX7_enters_75 ?_
          refine lv_aload_n hx hb dX7_enters_76 rfl (lv_at hl 0 rfl) ?_
          refine va_get (D := D) (ci := 7) (v := .ref (a0 1)) (C := RX7) (T := TX7) (N := 19) hx hb hts i7 hown hK hP 0 rfl rfl 0 (by decide) hk7 (fun _ h9 => h9) rfl dX7_enters_77 ?_
          refine lv_iload hx hb dX7_enters_80 (lv_at hl 3 rfl) ?_
          refine lv_bipush (v := 13) hx hb dX7_enters_82 (by decide) ?_
          refine lv_iadd hx hb dX7_enters_84 ?_
          refine lv_iload hx hb dX7_enters_85 (lv_at hl 4 rfl) ?_
          refine lv_iadd hx hb dX7_enters_87 ?_
          refine lv_iconst (v := 1) hx hb dX7_enters_88 (by decide) ?_
          refine lv_isub hx hb dX7_enters_89 ?_
          obtain ⟨hi, hf⟩ := chk_some hf
          refine va_iald hx hb hK hP 1 0 rfl rfl (inb_in hi) dX7_enters_90 ?_
          obtain ⟨hi, hf⟩ := chk_some hf
          obtain ⟨u_10, hu_10, hf⟩ := bv_some hf
          refine va_iast hx hb hK hP (hDD u_9) hS 1 0 rfl rfl (inb_in hi) dX7_enters_91 (fun H locs hP _ hS => ?_)
          have hP : va_P D cls (wX7 cI cZ a0 u_10) H := by rw [hu_10]; exact hP
          refine lv_iinc (v := y15_3_5 + (-1)) (lv' := [(5, .int (y15_3_5 + (-1))), (0, .ref (a0 0)), (2, .int p2), (3, .int p3), (4, .int z_1)]) hx hb dX7_enters_92 hl (k := 4) rfl rfl (by decide) rfl (fun ls hl => ?_)
          refine lv_goto (tgt := 15) hx hb dX7_enters_95 (by decide) ?_
          exact ih15_3 _ _ _ _ _ hf hP hS (lv_sub hl [1, 2, 3, 4, 0] rfl)
  exact j15_3 4096 _ _ _ _ _ hf hP hS (lv_sub hl [2, 4, 5, 1, 0] rfl)
set_option maxRecDepth 20000 in
theorem ggX7_leaves_X7_at : GoodIn wsX7_leaves wsX7_at := goodIn_r _ [5] (by decide +kernel) (by decide +kernel)
set_option maxRecDepth 20000 in
theorem gX7_leaves_X7_at : GoodIn wsX7_leaves (va_wsS RX7 67 yX7_at wsX7_at) := goodIn_app (goodIn_of _ (by decide +kernel)) ggX7_leaves_X7_at
set_option maxRecDepth 20000 in
theorem ggX7_leaves_X7_entries : GoodIn wsX7_leaves wsX7_entries := goodIn_r _ [9, 1, 2, 3, 4, 5, 14, 15, 16, 17, 18, 19, 20, 21, 22, 23, 24, 25, 26, 27, 28, 29, 30, 31, 32] (by decide +kernel) (by decide +kernel)
set_option maxRecDepth 20000 in
theorem gX7_leaves_X7_entries : GoodIn wsX7_leaves (wsV RX7 109 RX7 yX7_entries wsX7_entries) := goodIn_app (goodIn_of _ (by decide +kernel)) ggX7_leaves_X7_entries
set_option maxRecDepth 20000 in
theorem ggX7_leaves_X7_placeOf : GoodIn wsX7_leaves wsX7_placeOf := goodIn_r _ [13, 1, 2, 3, 4, 5, 14, 15, 16, 17, 18, 19, 20, 21, 22, 23, 24, 25, 26, 27, 28, 29, 30, 31, 32] (by decide +kernel) (by decide +kernel)
set_option maxRecDepth 20000 in
theorem gX7_leaves_X7_placeOf : GoodIn wsX7_leaves (wsV RX7 105 RX7 yX7_placeOf wsX7_placeOf) := goodIn_app (goodIn_of _ (by decide +kernel)) ggX7_leaves_X7_placeOf
theorem dX7_leaves_0 : decode cX7_leaves 0 = .ok (.iconst 0, 1) := by decide +kernel
theorem dX7_leaves_1 : decode cX7_leaves 1 = .ok (.iload_n 1, 1) := by decide +kernel
theorem dX7_leaves_2 : decode cX7_leaves 2 = .ok (.invokestatic 67, 3) := by decide +kernel
theorem dX7_leaves_5 : decode cX7_leaves 5 = .ok (.istore_n 3, 1) := by decide +kernel
theorem dX7_leaves_6 : decode cX7_leaves 6 = .ok (.aload_n 0, 1) := by decide +kernel
theorem dX7_leaves_7 : decode cX7_leaves 7 = .ok (.iconst 0, 1) := by decide +kernel
theorem dX7_leaves_8 : decode cX7_leaves 8 = .ok (.iload_n 1, 1) := by decide +kernel
theorem dX7_leaves_9 : decode cX7_leaves 9 = .ok (.invokevirtual 109, 3) := by decide +kernel
theorem dX7_leaves_12 : decode cX7_leaves 12 = .ok (.iconst 1, 1) := by decide +kernel
theorem dX7_leaves_13 : decode cX7_leaves 13 = .ok (.isub, 1) := by decide +kernel
theorem dX7_leaves_14 : decode cX7_leaves 14 = .ok (.istore 4, 2) := by decide +kernel
theorem dX7_leaves_16 : decode cX7_leaves 16 = .ok (.aload_n 0, 1) := by decide +kernel
theorem dX7_leaves_17 : decode cX7_leaves 17 = .ok (.iconst 0, 1) := by decide +kernel
theorem dX7_leaves_18 : decode cX7_leaves 18 = .ok (.iload_n 1, 1) := by decide +kernel
theorem dX7_leaves_19 : decode cX7_leaves 19 = .ok (.iload_n 2, 1) := by decide +kernel
theorem dX7_leaves_20 : decode cX7_leaves 20 = .ok (.invokevirtual 105, 3) := by decide +kernel
theorem dX7_leaves_23 : decode cX7_leaves 23 = .ok (.istore 5, 2) := by decide +kernel
theorem dX7_leaves_25 : decode cX7_leaves 25 = .ok (.iload 5, 2) := by decide +kernel
theorem dX7_leaves_27 : decode cX7_leaves 27 = .ok (.iload 4, 2) := by decide +kernel
theorem dX7_leaves_29 : decode cX7_leaves 29 = .ok (.if_icmp .ge 59, 3) := by decide +kernel
theorem dX7_leaves_32 : decode cX7_leaves 32 = .ok (.aload_n 0, 1) := by decide +kernel
theorem dX7_leaves_33 : decode cX7_leaves 33 = .ok (.getfield 7, 3) := by decide +kernel
theorem dX7_leaves_36 : decode cX7_leaves 36 = .ok (.iload_n 3, 1) := by decide +kernel
theorem dX7_leaves_37 : decode cX7_leaves 37 = .ok (.iconst 5, 1) := by decide +kernel
theorem dX7_leaves_38 : decode cX7_leaves 38 = .ok (.iadd, 1) := by decide +kernel
theorem dX7_leaves_39 : decode cX7_leaves 39 = .ok (.iload 5, 2) := by decide +kernel
theorem dX7_leaves_41 : decode cX7_leaves 41 = .ok (.iadd, 1) := by decide +kernel
theorem dX7_leaves_42 : decode cX7_leaves 42 = .ok (.aload_n 0, 1) := by decide +kernel
theorem dX7_leaves_43 : decode cX7_leaves 43 = .ok (.getfield 7, 3) := by decide +kernel
theorem dX7_leaves_46 : decode cX7_leaves 46 = .ok (.iload_n 3, 1) := by decide +kernel
theorem dX7_leaves_47 : decode cX7_leaves 47 = .ok (.iconst 5, 1) := by decide +kernel
theorem dX7_leaves_48 : decode cX7_leaves 48 = .ok (.iadd, 1) := by decide +kernel
theorem dX7_leaves_49 : decode cX7_leaves 49 = .ok (.iload 5, 2) := by decide +kernel
theorem dX7_leaves_51 : decode cX7_leaves 51 = .ok (.iadd, 1) := by decide +kernel
theorem dX7_leaves_52 : decode cX7_leaves 52 = .ok (.iconst 1, 1) := by decide +kernel
theorem dX7_leaves_53 : decode cX7_leaves 53 = .ok (.iadd, 1) := by decide +kernel
theorem dX7_leaves_54 : decode cX7_leaves 54 = .ok (.iaload, 1) := by decide +kernel
theorem dX7_leaves_55 : decode cX7_leaves 55 = .ok (.iastore, 1) := by decide +kernel
theorem dX7_leaves_56 : decode cX7_leaves 56 = .ok (.aload_n 0, 1) := by decide +kernel
theorem dX7_leaves_57 : decode cX7_leaves 57 = .ok (.getfield 7, 3) := by decide +kernel
theorem dX7_leaves_60 : decode cX7_leaves 60 = .ok (.iload_n 3, 1) := by decide +kernel
theorem dX7_leaves_61 : decode cX7_leaves 61 = .ok (.bipush 13, 2) := by decide +kernel
theorem dX7_leaves_63 : decode cX7_leaves 63 = .ok (.iadd, 1) := by decide +kernel
theorem dX7_leaves_64 : decode cX7_leaves 64 = .ok (.iload 5, 2) := by decide +kernel
theorem dX7_leaves_66 : decode cX7_leaves 66 = .ok (.iadd, 1) := by decide +kernel
theorem dX7_leaves_67 : decode cX7_leaves 67 = .ok (.aload_n 0, 1) := by decide +kernel
theorem dX7_leaves_68 : decode cX7_leaves 68 = .ok (.getfield 7, 3) := by decide +kernel
theorem dX7_leaves_71 : decode cX7_leaves 71 = .ok (.iload_n 3, 1) := by decide +kernel
theorem dX7_leaves_72 : decode cX7_leaves 72 = .ok (.bipush 13, 2) := by decide +kernel
theorem dX7_leaves_74 : decode cX7_leaves 74 = .ok (.iadd, 1) := by decide +kernel
theorem dX7_leaves_75 : decode cX7_leaves 75 = .ok (.iload 5, 2) := by decide +kernel
theorem dX7_leaves_77 : decode cX7_leaves 77 = .ok (.iadd, 1) := by decide +kernel
theorem dX7_leaves_78 : decode cX7_leaves 78 = .ok (.iconst 1, 1) := by decide +kernel
theorem dX7_leaves_79 : decode cX7_leaves 79 = .ok (.iadd, 1) := by decide +kernel
theorem dX7_leaves_80 : decode cX7_leaves 80 = .ok (.iaload, 1) := by decide +kernel
theorem dX7_leaves_81 : decode cX7_leaves 81 = .ok (.iastore, 1) := by decide +kernel
theorem dX7_leaves_82 : decode cX7_leaves 82 = .ok (.iinc 5 1, 3) := by decide +kernel
theorem dX7_leaves_85 : decode cX7_leaves 85 = .ok (.goto (-60), 3) := by decide +kernel
theorem dX7_leaves_88 : decode cX7_leaves 88 = .ok (.aload_n 0, 1) := by decide +kernel
theorem dX7_leaves_89 : decode cX7_leaves 89 = .ok (.getfield 7, 3) := by decide +kernel
theorem dX7_leaves_92 : decode cX7_leaves 92 = .ok (.iload_n 3, 1) := by decide +kernel
theorem dX7_leaves_93 : decode cX7_leaves 93 = .ok (.iconst 5, 1) := by decide +kernel
theorem dX7_leaves_94 : decode cX7_leaves 94 = .ok (.iadd, 1) := by decide +kernel
theorem dX7_leaves_95 : decode cX7_leaves 95 = .ok (.iload 4, 2) := by decide +kernel
theorem dX7_leaves_97 : decode cX7_leaves 97 = .ok (.iadd, 1) := by decide +kernel
theorem dX7_leaves_98 : decode cX7_leaves 98 = .ok (.iconst (-1), 1) := by decide +kernel
theorem dX7_leaves_99 : decode cX7_leaves 99 = .ok (.iastore, 1) := by decide +kernel
theorem dX7_leaves_100 : decode cX7_leaves 100 = .ok (.aload_n 0, 1) := by decide +kernel
theorem dX7_leaves_101 : decode cX7_leaves 101 = .ok (.getfield 7, 3) := by decide +kernel
theorem dX7_leaves_104 : decode cX7_leaves 104 = .ok (.iload_n 3, 1) := by decide +kernel
theorem dX7_leaves_105 : decode cX7_leaves 105 = .ok (.bipush 13, 2) := by decide +kernel
theorem dX7_leaves_107 : decode cX7_leaves 107 = .ok (.iadd, 1) := by decide +kernel
theorem dX7_leaves_108 : decode cX7_leaves 108 = .ok (.iload 4, 2) := by decide +kernel
theorem dX7_leaves_110 : decode cX7_leaves 110 = .ok (.iadd, 1) := by decide +kernel
theorem dX7_leaves_111 : decode cX7_leaves 111 = .ok (.iconst (-1), 1) := by decide +kernel
theorem dX7_leaves_112 : decode cX7_leaves 112 = .ok (.iastore, 1) := by decide +kernel
theorem dX7_leaves_113 : decode cX7_leaves 113 = .ok (.return_, 1) := by decide +kernel
def f_X7_leaves (u0 : S1) (p1 : Int32) (p2 : Int32) : Option (S1) := bn (f_X7_at 0 p1) (fun z_1 => bn (f_X7_entries u0 0 p1) (fun z_2 => bn (f_X7_placeOf u0 0 p1 p2) (fun z_3 => qj2 (fun (r25_4 : Int32 → S1 → Option (S1)) (y25_4_5 : Int32) (u25_4_0 : S1) => if (z_2 - 1) ≤ y25_4_5 then chk (inb ((z_1 + 5) + (z_2 - 1)) 8480) (bv (st u25_4_0 0 ((z_1 + 5) + (z_2 - 1)) (-1)) (fun u_6 => chk (inb ((z_1 + 13) + (z_2 - 1)) 8480) (bv (st u_6 0 ((z_1 + 13) + (z_2 - 1)) (-1)) (fun u_7 => some (u_7))))) else chk (inb (((z_1 + 5) + y25_4_5) + 1) 8480) (chk (inb ((z_1 + 5) + y25_4_5) 8480) (bv (st u25_4_0 0 ((z_1 + 5) + y25_4_5) (u25_4_0 0 (((z_1 + 5) + y25_4_5) + 1).toNatClampNeg)) (fun u_8 => chk (inb (((z_1 + 13) + y25_4_5) + 1) 8480) (chk (inb ((z_1 + 13) + y25_4_5) 8480) (bv (st u_8 0 ((z_1 + 13) + y25_4_5) (u_8 0 (((z_1 + 13) + y25_4_5) + 1).toNatClampNeg)) (fun u_9 => r25_4 (y25_4_5 + 1) u_9))))))) (fun k25_4 => k25_4 z_3 u0))))
def rmX7_leaves : Room := { frames := 2, cells := 0, slots := 0, locals := 46 }
set_option maxHeartbeats 4000000 in
set_option maxRecDepth 100000 in
theorem c_X7_leaves (l : Launch) (D : va_G) (cI cZ cJ cT : ClassId) (a0 : Nat → Nat) (sz : Nat) (u0 : S1) (p1 : Int32) (p2 : Int32) (o : S1) (hf : f_X7_leaves u0 p1 p2 = some o) : Met l yX7_leaves wsX7_leaves rmX7_leaves (va_Pc [.ref (a0 0), .int p1, .int p2] (PW D cls (tys cI cZ cJ cT) ((wX7 cI cZ a0 u0)) sz)) (QWv D cls ((wX7 cI cZ a0 o)) (va_A ((wX7 cI cZ a0 u0)) sz)) 0 0 (va_A ((wX7 cI cZ a0 u0)) sz) := by
  refine Met.ofW (cc := cX7_leaves) (maxL := 6) (ret := none) (by decide) rfl ?_
  intro p e s m args below meth c s₁ B hml hv
  obtain ⟨hav, hsz, hP, hK, hD0⟩ := hv
  have hx := B.exec
  have hb := B.bytes
  have hr := B.returns
  have hlocks := B.notSynchronized
  have hts := atoms_spec (ws := wsX7_leaves) B.pre
  have hown : s.vm.findClass RX7 = some m.cls := findClass_of_methodNamed B.named
  have i7 : ∀ w ∈ wsX70, w ∈ wsX7_leaves := fun w h => List.mem_cons_of_mem _ (List.mem_append_right _ h)
  have hk7 := hts (.fieldLink RX7 7 "InoderyModel" "s" "[I") (by decide +kernel)
  subst hsz
  have hD := hD0.self (sz := s.heap.size)
  generalize hAe : va_A ((wX7 cI cZ a0 u0)) s.heap.size = A at hD ⊢
  have hA : ∀ q : Nat, s.heap.size ≤ q → A q := fun q h => by rw [← hAe]; exact Or.inr h
  have hS : va_S A s.heap s.heap [] := va_S.rf
  have hDD : ∀ w0 : S1, va_D A ((wX7 cI cZ a0 w0)) := fun _ => D_same (w := (wX7 cI cZ a0 u0)) rfl hD
  refine Wq (fun Q hQ => ?_)
  refine W_entry hav (Nat.le_of_ble_eq_true rfl) (fun ls hl => ?_)
  have hl : lv_has ls 6 [(0, .ref (a0 0)), (1, .int p1), (2, .int p2)] := hl
  unfold f_X7_leaves at hf
  refine W_heap hP hS (fun H locs hP hS => ?_)
  refine lv_iconst (v := 0) hx hb dX7_leaves_0 (by decide) ?_
  refine lv_iload_n hx hb dX7_leaves_1 rfl (lv_at hl 1 rfl) ?_
  obtain ⟨z_1, hz_1, hf⟩ := bn_some hf
  refine c0S (As := [.int 0, .int p1]) (rest := []) ⟨hx, hb, hml, hown, hts⟩ (c_X7_at l D cI cZ cJ cT 0 p1 z_1 hz_1) (va_cwS 2 hts gX7_leaves_X7_at rfl rfl rfl (by decide +kernel) ⟨Nat.le_of_ble_eq_true rfl, Nat.le_of_ble_eq_true rfl⟩) rfl rfl hl.1 (Nat.le_of_ble_eq_true rfl) dX7_leaves_2 ⟨Nat.le_of_ble_eq_true rfl, Nat.le_of_ble_eq_true rfl⟩ ?_
  refine lv_istore_n (lv' := [(3, .int z_1), (0, .ref (a0 0)), (1, .int p1), (2, .int p2)]) hx hb dX7_leaves_5 rfl hl (by decide) rfl (fun ls hl => ?_)
  refine lv_aload_n hx hb dX7_leaves_6 rfl (lv_at hl 1 rfl) ?_
  refine lv_iconst (v := 0) hx hb dX7_leaves_7 (by decide) ?_
  refine lv_iload_n hx hb dX7_leaves_8 rfl (lv_at hl 2 rfl) ?_
  obtain ⟨z_2, hz_2, hf⟩ := bn_some hf
  refine cRV (As := [.int 0, .int p1]) (rest := []) ⟨hx, hb, hml, hown, hts⟩ (c_X7_entries l D cI cZ cJ cT a0 u0 0 p1 z_2 hz_2) (cwV 2 hts gX7_leaves_X7_entries rfl rfl rfl (by decide +kernel) ⟨Nat.le_of_ble_eq_true rfl, Nat.le_of_ble_eq_true rfl⟩) hP hK (va_recv hK hP (ci := 7) (q0 := 0) rfl rfl) rfl rfl hl.1 (Nat.le_of_ble_eq_true rfl) dX7_leaves_9 ⟨Nat.le_of_ble_eq_true rfl, Nat.le_of_ble_eq_true rfl⟩ ?_
  refine lv_iconst (v := 1) hx hb dX7_leaves_12 (by decide) ?_
  refine lv_isub hx hb dX7_leaves_13 ?_
  refine lv_istore (lv' := [(4, .int (z_2 - 1)), (3, .int z_1), (0, .ref (a0 0)), (1, .int p1), (2, .int p2)]) hx hb dX7_leaves_14 hl (by decide) rfl (fun ls hl => ?_)
  refine lv_aload_n hx hb dX7_leaves_16 rfl (lv_at hl 2 rfl) ?_
  refine lv_iconst (v := 0) hx hb dX7_leaves_17 (by decide) ?_
  refine lv_iload_n hx hb dX7_leaves_18 rfl (lv_at hl 3 rfl) ?_
  refine lv_iload_n hx hb dX7_leaves_19 rfl (lv_at hl 4 rfl) ?_
  obtain ⟨z_3, hz_3, hf⟩ := bn_some hf
  refine cRV (As := [.int 0, .int p1, .int p2]) (rest := []) ⟨hx, hb, hml, hown, hts⟩ (c_X7_placeOf l D cI cZ cJ cT a0 u0 0 p1 p2 z_3 hz_3) (cwV 3 hts gX7_leaves_X7_placeOf rfl rfl rfl (by decide +kernel) ⟨Nat.le_of_ble_eq_true rfl, Nat.le_of_ble_eq_true rfl⟩) hP hK (va_recv hK hP (ci := 7) (q0 := 0) rfl rfl) rfl rfl hl.1 (Nat.le_of_ble_eq_true rfl) dX7_leaves_20 ⟨Nat.le_of_ble_eq_true rfl, Nat.le_of_ble_eq_true rfl⟩ ?_
  refine lv_istore (lv' := [(5, .int z_3), (4, .int (z_2 - 1)), (3, .int z_1), (0, .ref (a0 0)), (1, .int p1), (2, .int p2)]) hx hb dX7_leaves_23 hl (by decide) rfl (fun ls hl => ?_)
  obtain ⟨G25_4, hG25_4, hf⟩ := qj2_some hf
  have j25_4 : ∀ (n : Nat) (y25_4_5 : Int32) (u25_4_0 : S1) (H : Heap) (locs : List Loc) (ls : Array Slot), ql2 G25_4 n y25_4_5 u25_4_0 = some o → va_P D cls (wX7 cI cZ a0 u25_4_0) H → va_S A s.heap H locs → lv_has ls 6 [(0, .ref (a0 0)), (3, .int z_1), (4, .int (z_2 - 1)), (5, .int y25_4_5)] → W p l e (headSpec wsX7_leaves rmX7_leaves).room s m args below meth c H locs 0 0 Q (F0 m 25 ls []) := by
    intro n
    induction n with
    | zero => intro y25_4_5 u25_4_0 H locs ls hf hP hS hl; exact (ql2_z hf).elim
    | succ n ih25_4 =>
      intro y25_4_5 u25_4_0 H locs ls hf hP hS hl
      have hf := ql2_s hG25_4 hf
      obtain ⟨r25_4, hr25_4⟩ : ∃ z, z = ql2 G25_4 n := ⟨_, rfl⟩
      rw [← hr25_4] at hf ih25_4
      refine lv_iload hx hb dX7_leaves_25 (lv_at hl 3 rfl) ?_
      refine lv_iload hx hb dX7_leaves_27 (lv_at hl 2 rfl) ?_
      refine lv_icmp_ge (tgt := 88) hx hb dX7_leaves_29 (by decide) (fun c_5 => ?_) (fun c_5 => ?_)
      · have hf := ite_t hf c_5
        refine lv_aload_n hx hb dX7_leaves_88 rfl (lv_at hl 0 rfl) ?_
        refine va_get (D := D) (ci := 7) (v := .ref (a0 1)) (C := RX7) (T := TX7) (N := 19) hx hb hts i7 hown hK hP 0 rfl rfl 0 (by decide) hk7 (fun _ h9 => h9) rfl dX7_leaves_89 ?_
        refine lv_iload_n hx hb dX7_leaves_92 rfl (lv_at hl 1 rfl) ?_
        refine lv_iconst (v := 5) hx hb dX7_leaves_93 (by decide) ?_
        refine lv_iadd hx hb dX7_leaves_94 ?_
        refine lv_iload hx hb dX7_leaves_95 (lv_at hl 2 rfl) ?_
        refine lv_iadd hx hb dX7_leaves_97 ?_
        refine lv_iconst (v := (-1)) hx hb dX7_leaves_98 (by decide) ?_
        obtain ⟨hi, hf⟩ := chk_some hf
        obtain ⟨u_6, hu_6, hf⟩ := bv_some hf
        refine va_iast hx hb hK hP (hDD u25_4_0) hS 1 0 rfl rfl (inb_in hi) dX7_leaves_99 (fun H locs hP _ hS => ?_)
        have hP : va_P D cls (wX7 cI cZ a0 u_6) H := by rw [hu_6]; exact hP
        refine lv_aload_n hx hb dX7_leaves_100 rfl (lv_at hl 0 rfl) ?_
        refine va_get (D := D) (ci := 7) (v := .ref (a0 1)) (C := RX7) (T := TX7) (N := 19) hx hb hts i7 hown hK hP 0 rfl rfl 0 (by decide) hk7 (fun _ h9 => h9) rfl dX7_leaves_101 ?_
        refine lv_iload_n hx hb dX7_leaves_104 rfl (lv_at hl 1 rfl) ?_
        refine lv_bipush (v := 13) hx hb dX7_leaves_105 (by decide) ?_
        refine lv_iadd hx hb dX7_leaves_107 ?_
        refine lv_iload hx hb dX7_leaves_108 (lv_at hl 2 rfl) ?_
        refine lv_iadd hx hb dX7_leaves_110 ?_
        refine lv_iconst (v := (-1)) hx hb dX7_leaves_111 (by decide) ?_
        obtain ⟨hi, hf⟩ := chk_some hf
        obtain ⟨u_7, hu_7, hf⟩ := bv_some hf
        refine va_iast hx hb hK hP (hDD u_6) hS 1 0 rfl rfl (inb_in hi) dX7_leaves_112 (fun H locs hP _ hS => ?_)
        have hP : va_P D cls (wX7 cI cZ a0 u_7) H := by rw [hu_7]; exact hP
        have eo := Option.some.inj hf
        have hP : va_P D cls (wX7 cI cZ a0 o) H := by rw [← eo]; exact hP
        rw [hQ]
        exact W.vret hx hb hr (fun t ht hW => ⟨⟨(), rfl, trivial, P_at ht hP⟩, hS.F ht⟩) hS.2.2 dX7_leaves_113 hlocks
      · have hf := ite_f hf c_5
        refine lv_aload_n hx hb dX7_leaves_32 rfl (lv_at hl 0 rfl) ?_
        refine va_get (D := D) (ci := 7) (v := .ref (a0 1)) (C := RX7) (T := TX7) (N := 19) hx hb hts i7 hown hK hP 0 rfl rfl 0 (by decide) hk7 (fun _ h9 => h9) rfl dX7_leaves_33 ?_
        refine lv_iload_n hx hb dX7_leaves_36 rfl (lv_at hl 1 rfl) ?_
        refine lv_iconst (v := 5) hx hb dX7_leaves_37 (by decide) ?_
        refine lv_iadd hx hb dX7_leaves_38 ?_
        refine lv_iload hx hb dX7_leaves_39 (lv_at hl 3 rfl) ?_
        refine lv_iadd hx hb dX7_leaves_41 ?_
        refine lv_aload_n hx hb dX7_leaves_42 rfl (lv_at hl 0 rfl) ?_
        refine va_get (D := D) (ci := 7) (v := .ref (a0 1)) (C := RX7) (T := TX7) (N := 19) hx hb hts i7 hown hK hP 0 rfl rfl 0 (by decide) hk7 (fun _ h9 => h9) rfl dX7_leaves_43 ?_
        refine lv_iload_n hx hb dX7_leaves_46 rfl (lv_at hl 1 rfl) ?_
        refine lv_iconst (v := 5) hx hb dX7_leaves_47 (by decide) ?_
        refine lv_iadd hx hb dX7_leaves_48 ?_
        refine lv_iload hx hb dX7_leaves_49 (lv_at hl 3 rfl) ?_
        refine lv_iadd hx hb dX7_leaves_51 ?_
        refine lv_iconst (v := 1) hx hb dX7_leaves_52 (by decide) ?_
        refine lv_iadd hx hb dX7_leaves_53 ?_
        obtain ⟨hi, hf⟩ := chk_some hf
        refine va_iald hx hb hK hP 1 0 rfl rfl (inb_in hi) dX7_leaves_54 ?_
        obtain ⟨hi, hf⟩ := chk_some hf
        obtain ⟨u_8, hu_8, hf⟩ := bv_some hf
        refine va_iast hx hb hK hP (hDD u25_4_0) hS 1 0 rfl rfl (inb_in hi) dX7_leaves_55 (fun H locs hP _ hS => ?_)
        have hP : va_P D cls (wX7 cI cZ a0 u_8) H := by rw [hu_8]; exact hP
        refine lv_aload_n hx hb dX7_leaves_56 rfl (lv_at hl 0 rfl) ?_
        refine va_get (D := D) (ci := 7) (v := .ref (a0 1)) (C := RX7) (T := TX7) (N := 19) hx hb hts i7 hown hK hP 0 rfl rfl 0 (by decide) hk7 (fun _ h9 => h9) rfl dX7_leaves_57 ?_
        refine lv_iload_n hx hb dX7_leaves_60 rfl (lv_at hl 1 rfl) ?_
        refine lv_bipush (v := 13) hx hb dX7_leaves_61 (by decide) ?_
        refine lv_iadd hx hb dX7_leaves_63 ?_
        refine lv_iload hx hb dX7_leaves_64 (lv_at hl 3 rfl) ?_
        refine lv_iadd hx hb dX7_leaves_66 ?_
        refine lv_aload_n hx hb dX7_leaves_67 rfl (lv_at hl 0 rfl) ?_
        refine va_get (D := D) (ci := 7) (v := .ref (a0 1)) (C := RX7) (T := TX7) (N := 19) hx hb hts i7 hown hK hP 0 rfl rfl 0 (by decide) hk7 (fun _ h9 => h9) rfl dX7_leaves_68 ?_
        refine lv_iload_n hx hb dX7_leaves_71 rfl (lv_at hl 1 rfl) ?_
        refine lv_bipush (v := 13) hx hb dX7_leaves_72 (by decide) ?_
        refine lv_iadd hx hb dX7_leaves_74 ?_
        refine lv_iload hx hb dX7_leaves_75 (lv_at hl 3 rfl) ?_
        refine lv_iadd hx hb dX7_leaves_77 ?_
        refine lv_iconst (v := 1) hx hb dX7_leaves_78 (by decide) ?_
        refine lv_iadd hx hb dX7_leaves_79 ?_
        obtain ⟨hi, hf⟩ := chk_some hf
        refine va_iald hx hb hK hP 1 0 rfl rfl (inb_in hi) dX7_leaves_80 ?_
        obtain ⟨hi, hf⟩ := chk_some hf
        obtain ⟨u_9, hu_9, hf⟩ := bv_some hf
        refine va_iast hx hb hK hP (hDD u_8) hS 1 0 rfl rfl (inb_in hi) dX7_leaves_81 (fun H locs hP _ hS => ?_)
        have hP : va_P D cls (wX7 cI cZ a0 u_9) H := by rw [hu_9]; exact hP
        refine lv_iinc (v := y25_4_5 + 1) (lv' := [(5, .int (y25_4_5 + 1)), (0, .ref (a0 0)), (3, .int z_1), (4, .int (z_2 - 1))]) hx hb dX7_leaves_82 hl (k := 3) rfl rfl (by decide) rfl (fun ls hl => ?_)
        refine lv_goto (tgt := 25) hx hb dX7_leaves_85 (by decide) ?_
        exact ih25_4 _ _ _ _ _ hf hP hS (lv_sub hl [1, 2, 3, 0] rfl)
  exact j25_4 4096 _ _ _ _ _ hf hP hS (lv_sub hl [3, 2, 1, 0] rfl)
theorem dX7_lays_0 : decode cX7_lays 0 = .ok (.iload_n 1, 1) := by decide +kernel
theorem dX7_lays_1 : decode cX7_lays 1 = .ok (.istore_n 2, 1) := by decide +kernel
theorem dX7_lays_2 : decode cX7_lays 2 = .ok (.iload_n 2, 1) := by decide +kernel
theorem dX7_lays_3 : decode cX7_lays 3 = .ok (.ifCond .le 34, 3) := by decide +kernel
theorem dX7_lays_6 : decode cX7_lays 6 = .ok (.aload_n 0, 1) := by decide +kernel
theorem dX7_lays_7 : decode cX7_lays 7 = .ok (.getfield 47, 3) := by decide +kernel
theorem dX7_lays_10 : decode cX7_lays 10 = .ok (.aload_n 0, 1) := by decide +kernel
theorem dX7_lays_11 : decode cX7_lays 11 = .ok (.getfield 112, 3) := by decide +kernel
theorem dX7_lays_14 : decode cX7_lays 14 = .ok (.iload_n 2, 1) := by decide +kernel
theorem dX7_lays_15 : decode cX7_lays 15 = .ok (.bipush 100, 2) := by decide +kernel
theorem dX7_lays_17 : decode cX7_lays 17 = .ok (.irem, 1) := by decide +kernel
theorem dX7_lays_18 : decode cX7_lays 18 = .ok (.iastore, 1) := by decide +kernel
theorem dX7_lays_19 : decode cX7_lays 19 = .ok (.aload_n 0, 1) := by decide +kernel
theorem dX7_lays_20 : decode cX7_lays 20 = .ok (.dup, 1) := by decide +kernel
theorem dX7_lays_21 : decode cX7_lays 21 = .ok (.getfield 112, 3) := by decide +kernel
theorem dX7_lays_24 : decode cX7_lays 24 = .ok (.iconst 1, 1) := by decide +kernel
theorem dX7_lays_25 : decode cX7_lays 25 = .ok (.iadd, 1) := by decide +kernel
theorem dX7_lays_26 : decode cX7_lays 26 = .ok (.putfield 112, 3) := by decide +kernel
theorem dX7_lays_29 : decode cX7_lays 29 = .ok (.iload_n 2, 1) := by decide +kernel
theorem dX7_lays_30 : decode cX7_lays 30 = .ok (.bipush 100, 2) := by decide +kernel
theorem dX7_lays_32 : decode cX7_lays 32 = .ok (.idiv, 1) := by decide +kernel
theorem dX7_lays_33 : decode cX7_lays 33 = .ok (.istore_n 2, 1) := by decide +kernel
theorem dX7_lays_34 : decode cX7_lays 34 = .ok (.goto (-32), 3) := by decide +kernel
theorem dX7_lays_37 : decode cX7_lays 37 = .ok (.return_, 1) := by decide +kernel
def f_X7_lays (u0 : S1) (p1 : Int32) : Option (S1) := qj2 (fun (r2_1 : Int32 → S1 → Option (S1)) (y2_1_2 : Int32) (u2_1_0 : S1) => if y2_1_2 ≤ 0 then some (u2_1_0) else chk (inb (u2_1_0 15 0) 40) (bv (st u2_1_0 14 (u2_1_0 15 0) (y2_1_2 - y2_1_2 / 100 * 100)) (fun u_3 => bv (up u_3 15 (fun _ => (u_3 15 0) + 1)) (fun u_4 => r2_1 (y2_1_2 / 100) u_4)))) (fun k2_1 => k2_1 p1 u0)
def rmX7_lays : Room := { frames := 0, cells := 0, slots := 0, locals := 0 }
set_option maxHeartbeats 4000000 in
set_option maxRecDepth 100000 in
theorem c_X7_lays (l : Launch) (D : va_G) (cI cZ cJ cT : ClassId) (a0 : Nat → Nat) (sz : Nat) (u0 : S1) (p1 : Int32) (o : S1) (hf : f_X7_lays u0 p1 = some o) : Met l yX7_lays wsX7_lays rmX7_lays (va_Pc [.ref (a0 0), .int p1] (PW D cls (tys cI cZ cJ cT) ((wX7 cI cZ a0 u0)) sz)) (QWv D cls ((wX7 cI cZ a0 o)) (va_A ((wX7 cI cZ a0 u0)) sz)) 0 0 (va_A ((wX7 cI cZ a0 u0)) sz) := by
  refine Met.ofW (cc := cX7_lays) (maxL := 3) (ret := none) (by decide) rfl ?_
  intro p e s m args below meth c s₁ B hml hv
  obtain ⟨hav, hsz, hP, hK, hD0⟩ := hv
  have hx := B.exec
  have hb := B.bytes
  have hr := B.returns
  have hlocks := B.notSynchronized
  have hts := atoms_spec (ws := wsX7_lays) B.pre
  have hown : s.vm.findClass RX7 = some m.cls := findClass_of_methodNamed B.named
  have i7 : ∀ w ∈ wsX70, w ∈ wsX7_lays := fun w h => List.mem_cons_of_mem _ (List.mem_append_right _ h)
  have hk47 := hts (.fieldLink RX7 47 "InoderyModel" "left" "[I") (by decide +kernel)
  have hk112 := hts (.fieldLink RX7 112 "InoderyModel" "many" "I") (by decide +kernel)
  subst hsz
  have hD := hD0.self (sz := s.heap.size)
  generalize hAe : va_A ((wX7 cI cZ a0 u0)) s.heap.size = A at hD ⊢
  have hA : ∀ q : Nat, s.heap.size ≤ q → A q := fun q h => by rw [← hAe]; exact Or.inr h
  have hS : va_S A s.heap s.heap [] := va_S.rf
  have hDD : ∀ w0 : S1, va_D A ((wX7 cI cZ a0 w0)) := fun _ => D_same (w := (wX7 cI cZ a0 u0)) rfl hD
  refine Wq (fun Q hQ => ?_)
  refine W_entry hav (Nat.le_of_ble_eq_true rfl) (fun ls hl => ?_)
  have hl : lv_has ls 3 [(0, .ref (a0 0)), (1, .int p1)] := hl
  unfold f_X7_lays at hf
  refine W_heap hP hS (fun H locs hP hS => ?_)
  refine lv_iload_n hx hb dX7_lays_0 rfl (lv_at hl 1 rfl) ?_
  refine lv_istore_n (lv' := [(2, .int p1), (0, .ref (a0 0)), (1, .int p1)]) hx hb dX7_lays_1 rfl hl (by decide) rfl (fun ls hl => ?_)
  obtain ⟨G2_1, hG2_1, hf⟩ := qj2_some hf
  have j2_1 : ∀ (n : Nat) (y2_1_2 : Int32) (u2_1_0 : S1) (H : Heap) (locs : List Loc) (ls : Array Slot), ql2 G2_1 n y2_1_2 u2_1_0 = some o → va_P D cls (wX7 cI cZ a0 u2_1_0) H → va_S A s.heap H locs → lv_has ls 3 [(0, .ref (a0 0)), (2, .int y2_1_2)] → W p l e (headSpec wsX7_lays rmX7_lays).room s m args below meth c H locs 0 0 Q (F0 m 2 ls []) := by
    intro n
    induction n with
    | zero => intro y2_1_2 u2_1_0 H locs ls hf hP hS hl; exact (ql2_z hf).elim
    | succ n ih2_1 =>
      intro y2_1_2 u2_1_0 H locs ls hf hP hS hl
      have hf := ql2_s hG2_1 hf
      obtain ⟨r2_1, hr2_1⟩ : ∃ z, z = ql2 G2_1 n := ⟨_, rfl⟩
      rw [← hr2_1] at hf ih2_1
      refine lv_iload_n hx hb dX7_lays_2 rfl (lv_at hl 1 rfl) ?_
      refine lv_if_le (tgt := 37) hx hb dX7_lays_3 (by decide) (fun c_2 => ?_) (fun c_2 => ?_)
      · have hf := ite_t hf c_2
        have eo := Option.some.inj hf
        have hP : va_P D cls (wX7 cI cZ a0 o) H := by rw [← eo]; exact hP
        rw [hQ]
        exact W.vret hx hb hr (fun t ht hW => ⟨⟨(), rfl, trivial, P_at ht hP⟩, hS.F ht⟩) hS.2.2 dX7_lays_37 hlocks
      · have hf := ite_f hf c_2
        refine lv_aload_n hx hb dX7_lays_6 rfl (lv_at hl 0 rfl) ?_
        refine va_get (D := D) (ci := 7) (v := .ref (a0 15)) (C := RX7) (T := TX7) (N := 19) hx hb hts i7 hown hK hP 0 rfl rfl 14 (by decide) hk47 (fun _ h9 => h9) rfl dX7_lays_7 ?_
        refine lv_aload_n hx hb dX7_lays_10 rfl (lv_at hl 0 rfl) ?_
        refine va_get (D := D) (ci := 7) (v := .int (u2_1_0 15 0)) (C := RX7) (T := TX7) (N := 19) hx hb hts i7 hown hK hP 0 rfl rfl 15 (by decide) hk112 (fun _ h9 => h9) rfl dX7_lays_11 ?_
        refine lv_iload_n hx hb dX7_lays_14 rfl (lv_at hl 1 rfl) ?_
        refine lv_bipush (v := 100) hx hb dX7_lays_15 (by decide) ?_
        refine lv_irem hx hb dX7_lays_17 (by decide) ?_
        obtain ⟨hi, hf⟩ := chk_some hf
        obtain ⟨u_3, hu_3, hf⟩ := bv_some hf
        refine va_iast hx hb hK hP (hDD u2_1_0) hS 13 0 rfl rfl (inb_in hi) dX7_lays_18 (fun H locs hP _ hS => ?_)
        have hP : va_P D cls (wX7 cI cZ a0 u_3) H := by rw [hu_3]; exact hP
        refine lv_aload_n hx hb dX7_lays_19 rfl (lv_at hl 0 rfl) ?_
        refine lv_dup hx hb dX7_lays_20 rfl ?_
        refine va_get (D := D) (ci := 7) (v := .int (u_3 15 0)) (C := RX7) (T := TX7) (N := 19) hx hb hts i7 hown hK hP 0 rfl rfl 15 (by decide) hk112 (fun _ h9 => h9) rfl dX7_lays_21 ?_
        refine lv_iconst (v := 1) hx hb dX7_lays_24 (by decide) ?_
        refine lv_iadd hx hb dX7_lays_25 ?_
        obtain ⟨u_4, hu_4, hf⟩ := bv_some hf
        refine va_put (D := D) (ci := 7) (v := .int ((u_3 15 0) + 1)) (ty := .int) (C := RX7) (T := TX7) (N := 19) hx hb hts i7 tyX7 tyX7_ok nmX7 hown hK hP (hDD u_3) hS 0 rfl rfl 15 (by decide) hk112 (fun _ h9 => h9) rfl (by decide +kernel) rfl rfl (Nat.le_of_ble_eq_true rfl) dX7_lays_26 (fun H locs hP _ hS => ?_)
        have hP : va_P D cls (wX7 cI cZ a0 u_4) H := by rw [hu_4]; exact hP
        refine lv_iload_n hx hb dX7_lays_29 rfl (lv_at hl 1 rfl) ?_
        refine lv_bipush (v := 100) hx hb dX7_lays_30 (by decide) ?_
        refine lv_idiv hx hb dX7_lays_32 (by decide) ?_
        refine lv_istore_n (lv' := [(2, .int (y2_1_2 / 100)), (0, .ref (a0 0))]) hx hb dX7_lays_33 rfl hl (by decide) rfl (fun ls hl => ?_)
        refine lv_goto (tgt := 2) hx hb dX7_lays_34 (by decide) ?_
        exact ih2_1 _ _ _ _ _ hf hP hS (lv_sub hl [1, 0] rfl)
  exact j2_1 4096 _ _ _ _ _ hf hP hS (lv_sub hl [1, 0] rfl)
set_option maxRecDepth 20000 in
theorem ggX7_walks_X7_at : GoodIn wsX7_walks wsX7_at := goodIn_r _ [13] (by decide +kernel) (by decide +kernel)
set_option maxRecDepth 20000 in
theorem gX7_walks_X7_at : GoodIn wsX7_walks (va_wsS RX7 67 yX7_at wsX7_at) := goodIn_app (goodIn_of _ (by decide +kernel)) ggX7_walks_X7_at
set_option maxRecDepth 20000 in
theorem ggX7_walks_X7_entryOf : GoodIn wsX7_walks wsX7_entryOf := goodIn_r _ [17, 5, 18, 19, 20, 9, 21, 11, 12, 13, 22, 23, 24, 25, 26, 27, 28, 29, 30, 31, 32, 33, 34, 35, 36, 37, 38, 39, 40] (by decide +kernel) (by decide +kernel)
set_option maxRecDepth 20000 in
theorem gX7_walks_X7_entryOf : GoodIn wsX7_walks (wsV RX7 124 RX7 yX7_entryOf wsX7_entryOf) := goodIn_app (goodIn_of _ (by decide +kernel)) ggX7_walks_X7_entryOf
set_option maxRecDepth 20000 in
theorem ggX7_walks_X7_lays : GoodIn wsX7_walks wsX7_lays := goodIn_r _ [10, 3, 1, 22, 23, 24, 25, 26, 27, 28, 29, 30, 31, 32, 33, 34, 35, 36, 37, 38, 39, 40] (by decide +kernel) (by decide +kernel)
set_option maxRecDepth 20000 in
theorem gX7_walks_X7_lays : GoodIn wsX7_walks (wsV RX7 115 RX7 yX7_lays wsX7_lays) := goodIn_app (goodIn_of _ (by decide +kernel)) ggX7_walks_X7_lays
theorem dX7_walks_0 : decode cX7_walks 0 = .ok (.aload_n 0, 1) := by decide +kernel
theorem dX7_walks_1 : decode cX7_walks 1 = .ok (.iconst 0, 1) := by decide +kernel
theorem dX7_walks_2 : decode cX7_walks 2 = .ok (.putfield 112, 3) := by decide +kernel
theorem dX7_walks_5 : decode cX7_walks 5 = .ok (.aload_n 0, 1) := by decide +kernel
theorem dX7_walks_6 : decode cX7_walks 6 = .ok (.iload_n 2, 1) := by decide +kernel
theorem dX7_walks_7 : decode cX7_walks 7 = .ok (.invokevirtual 115, 3) := by decide +kernel
theorem dX7_walks_10 : decode cX7_walks 10 = .ok (.iconst 0, 1) := by decide +kernel
theorem dX7_walks_11 : decode cX7_walks 11 = .ok (.istore 4, 2) := by decide +kernel
theorem dX7_walks_13 : decode cX7_walks 13 = .ok (.iconst 0, 1) := by decide +kernel
theorem dX7_walks_14 : decode cX7_walks 14 = .ok (.istore 5, 2) := by decide +kernel
theorem dX7_walks_16 : decode cX7_walks 16 = .ok (.aload_n 0, 1) := by decide +kernel
theorem dX7_walks_17 : decode cX7_walks 17 = .ok (.iconst (-1), 1) := by decide +kernel
theorem dX7_walks_18 : decode cX7_walks 18 = .ok (.putfield 118, 3) := by decide +kernel
theorem dX7_walks_21 : decode cX7_walks 21 = .ok (.aload_n 0, 1) := by decide +kernel
theorem dX7_walks_22 : decode cX7_walks 22 = .ok (.getfield 112, 3) := by decide +kernel
theorem dX7_walks_25 : decode cX7_walks 25 = .ok (.ifCond .le 132, 3) := by decide +kernel
theorem dX7_walks_28 : decode cX7_walks 28 = .ok (.aload_n 0, 1) := by decide +kernel
theorem dX7_walks_29 : decode cX7_walks 29 = .ok (.dup, 1) := by decide +kernel
theorem dX7_walks_30 : decode cX7_walks 30 = .ok (.getfield 112, 3) := by decide +kernel
theorem dX7_walks_33 : decode cX7_walks 33 = .ok (.iconst 1, 1) := by decide +kernel
theorem dX7_walks_34 : decode cX7_walks 34 = .ok (.isub, 1) := by decide +kernel
theorem dX7_walks_35 : decode cX7_walks 35 = .ok (.putfield 112, 3) := by decide +kernel
theorem dX7_walks_38 : decode cX7_walks 38 = .ok (.aload_n 0, 1) := by decide +kernel
theorem dX7_walks_39 : decode cX7_walks 39 = .ok (.iload 5, 2) := by decide +kernel
theorem dX7_walks_41 : decode cX7_walks 41 = .ok (.putfield 118, 3) := by decide +kernel
theorem dX7_walks_44 : decode cX7_walks 44 = .ok (.aload_n 0, 1) := by decide +kernel
theorem dX7_walks_45 : decode cX7_walks 45 = .ok (.aload_n 0, 1) := by decide +kernel
theorem dX7_walks_46 : decode cX7_walks 46 = .ok (.getfield 47, 3) := by decide +kernel
theorem dX7_walks_49 : decode cX7_walks 49 = .ok (.aload_n 0, 1) := by decide +kernel
theorem dX7_walks_50 : decode cX7_walks 50 = .ok (.getfield 112, 3) := by decide +kernel
theorem dX7_walks_53 : decode cX7_walks 53 = .ok (.iaload, 1) := by decide +kernel
theorem dX7_walks_54 : decode cX7_walks 54 = .ok (.putfield 121, 3) := by decide +kernel
theorem dX7_walks_57 : decode cX7_walks 57 = .ok (.aload_n 0, 1) := by decide +kernel
theorem dX7_walks_58 : decode cX7_walks 58 = .ok (.getfield 7, 3) := by decide +kernel
theorem dX7_walks_61 : decode cX7_walks 61 = .ok (.iload_n 1, 1) := by decide +kernel
theorem dX7_walks_62 : decode cX7_walks 62 = .ok (.iload 5, 2) := by decide +kernel
theorem dX7_walks_64 : decode cX7_walks 64 = .ok (.invokestatic 67, 3) := by decide +kernel
theorem dX7_walks_67 : decode cX7_walks 67 = .ok (.iaload, 1) := by decide +kernel
theorem dX7_walks_68 : decode cX7_walks 68 = .ok (.iconst 1, 1) := by decide +kernel
theorem dX7_walks_69 : decode cX7_walks 69 = .ok (.if_icmp .ne 17, 3) := by decide +kernel
theorem dX7_walks_72 : decode cX7_walks 72 = .ok (.aload_n 0, 1) := by decide +kernel
theorem dX7_walks_73 : decode cX7_walks 73 = .ok (.iload_n 1, 1) := by decide +kernel
theorem dX7_walks_74 : decode cX7_walks 74 = .ok (.iload 5, 2) := by decide +kernel
theorem dX7_walks_76 : decode cX7_walks 76 = .ok (.aload_n 0, 1) := by decide +kernel
theorem dX7_walks_77 : decode cX7_walks 77 = .ok (.getfield 121, 3) := by decide +kernel
theorem dX7_walks_80 : decode cX7_walks 80 = .ok (.invokevirtual 124, 3) := by decide +kernel
theorem dX7_walks_83 : decode cX7_walks 83 = .ok (.goto 4, 3) := by decide +kernel
theorem dX7_walks_86 : decode cX7_walks 86 = .ok (.iconst (-1), 1) := by decide +kernel
theorem dX7_walks_87 : decode cX7_walks 87 = .ok (.istore 5, 2) := by decide +kernel
theorem dX7_walks_89 : decode cX7_walks 89 = .ok (.iload 5, 2) := by decide +kernel
theorem dX7_walks_91 : decode cX7_walks 91 = .ok (.iconst (-1), 1) := by decide +kernel
theorem dX7_walks_92 : decode cX7_walks 92 = .ok (.if_icmp .ne 5, 3) := by decide +kernel
theorem dX7_walks_95 : decode cX7_walks 95 = .ok (.iconst (-1), 1) := by decide +kernel
theorem dX7_walks_96 : decode cX7_walks 96 = .ok (.ireturn, 1) := by decide +kernel
theorem dX7_walks_97 : decode cX7_walks 97 = .ok (.aload_n 0, 1) := by decide +kernel
theorem dX7_walks_98 : decode cX7_walks 98 = .ok (.getfield 7, 3) := by decide +kernel
theorem dX7_walks_101 : decode cX7_walks 101 = .ok (.iload_n 1, 1) := by decide +kernel
theorem dX7_walks_102 : decode cX7_walks 102 = .ok (.iload 5, 2) := by decide +kernel
theorem dX7_walks_104 : decode cX7_walks 104 = .ok (.invokestatic 67, 3) := by decide +kernel
theorem dX7_walks_107 : decode cX7_walks 107 = .ok (.iaload, 1) := by decide +kernel
theorem dX7_walks_108 : decode cX7_walks 108 = .ok (.iconst 2, 1) := by decide +kernel
theorem dX7_walks_109 : decode cX7_walks 109 = .ok (.if_icmp .ne (-88), 3) := by decide +kernel
theorem dX7_walks_112 : decode cX7_walks 112 = .ok (.aload_n 0, 1) := by decide +kernel
theorem dX7_walks_113 : decode cX7_walks 113 = .ok (.getfield 112, 3) := by decide +kernel
theorem dX7_walks_116 : decode cX7_walks 116 = .ok (.ifCond .gt 7, 3) := by decide +kernel
theorem dX7_walks_119 : decode cX7_walks 119 = .ok (.iload_n 3, 1) := by decide +kernel
theorem dX7_walks_120 : decode cX7_walks 120 = .ok (.ifCond .eq (-99), 3) := by decide +kernel
theorem dX7_walks_123 : decode cX7_walks 123 = .ok (.iinc 4 1, 3) := by decide +kernel
theorem dX7_walks_126 : decode cX7_walks 126 = .ok (.iload 4, 2) := by decide +kernel
theorem dX7_walks_128 : decode cX7_walks 128 = .ok (.iconst 4, 1) := by decide +kernel
theorem dX7_walks_129 : decode cX7_walks 129 = .ok (.if_icmp .le 5, 3) := by decide +kernel
theorem dX7_walks_132 : decode cX7_walks 132 = .ok (.iconst (-1), 1) := by decide +kernel
theorem dX7_walks_133 : decode cX7_walks 133 = .ok (.ireturn, 1) := by decide +kernel
theorem dX7_walks_134 : decode cX7_walks 134 = .ok (.aload_n 0, 1) := by decide +kernel
theorem dX7_walks_135 : decode cX7_walks 135 = .ok (.aload_n 0, 1) := by decide +kernel
theorem dX7_walks_136 : decode cX7_walks 136 = .ok (.getfield 7, 3) := by decide +kernel
theorem dX7_walks_139 : decode cX7_walks 139 = .ok (.iload_n 1, 1) := by decide +kernel
theorem dX7_walks_140 : decode cX7_walks 140 = .ok (.iload 5, 2) := by decide +kernel
theorem dX7_walks_142 : decode cX7_walks 142 = .ok (.invokestatic 67, 3) := by decide +kernel
theorem dX7_walks_145 : decode cX7_walks 145 = .ok (.iconst 4, 1) := by decide +kernel
theorem dX7_walks_146 : decode cX7_walks 146 = .ok (.iadd, 1) := by decide +kernel
theorem dX7_walks_147 : decode cX7_walks 147 = .ok (.iaload, 1) := by decide +kernel
theorem dX7_walks_148 : decode cX7_walks 148 = .ok (.invokevirtual 115, 3) := by decide +kernel
theorem dX7_walks_151 : decode cX7_walks 151 = .ok (.iconst 0, 1) := by decide +kernel
theorem dX7_walks_152 : decode cX7_walks 152 = .ok (.istore 5, 2) := by decide +kernel
theorem dX7_walks_154 : decode cX7_walks 154 = .ok (.goto (-133), 3) := by decide +kernel
theorem dX7_walks_157 : decode cX7_walks 157 = .ok (.iload 5, 2) := by decide +kernel
theorem dX7_walks_159 : decode cX7_walks 159 = .ok (.ireturn, 1) := by decide +kernel
def f_X7_walks (u0 : S1) (p1 : Int32) (p2 : Int32) (p3 : Int32) : Option (Int32 × S1) := bv (up u0 15 (fun _ => 0)) (fun u_1 => bn (f_X7_lays u_1 p2) (fun z_2 => bv (up z_2 16 (fun _ => (-1))) (fun u_3 => qj3 (fun (r21_4 : Int32 → Int32 → S1 → Option (Int32 × S1)) (y21_4_4 : Int32) (y21_4_5 : Int32) (u21_4_0 : S1) => if (u21_4_0 15 0) ≤ 0 then some (y21_4_5, u21_4_0) else bv (up u21_4_0 15 (fun _ => (u21_4_0 15 0) - 1)) (fun u_6 => bv (up u_6 16 (fun _ => y21_4_5)) (fun u_7 => chk (inb (u_7 15 0) 40) (bv (up u_7 17 (fun _ => (u_7 14 ((u_7 15 0)).toNatClampNeg))) (fun u_8 => bn (f_X7_at p1 y21_4_5) (fun z_9 => chk (inb z_9 8480) (jn (fun (v87_10_0 : Int32) => if v87_10_0 = (-1) then some ((-1), u_8) else bn (f_X7_at p1 v87_10_0) (fun z_12 => chk (inb z_12 8480) (if (u_8 0 (z_12).toNatClampNeg) = 2 then jn (if (y21_4_4 + 1) ≤ 4 then bn (f_X7_at p1 v87_10_0) (fun z_16 => chk (inb (z_16 + 4) 8480) (bn (f_X7_lays u_8 (u_8 0 (z_16 + 4).toNatClampNeg)) (fun z_17 => r21_4 (y21_4_4 + 1) 0 z_17))) else some ((-1), u_8)) (fun k123_14 => if 0 < (u_8 15 0) then k123_14 else if p3 = 0 then r21_4 y21_4_4 v87_10_0 u_8 else k123_14) else r21_4 y21_4_4 v87_10_0 u_8))) (fun k87_10 => if (u_8 0 (z_9).toNatClampNeg) = 1 then bn (f_X7_entryOf u_8 p1 y21_4_5 (u_8 17 0)) (fun z_21 => k87_10 z_21) else k87_10 (-1))))))))) (fun k21_4 => k21_4 0 0 u_3))))
def rmX7_walks : Room := { frames := 3, cells := 0, slots := 0, locals := 70 }
set_option maxHeartbeats 4000000 in
set_option maxRecDepth 100000 in
theorem c_X7_walks (l : Launch) (D : va_G) (cI cZ cJ cT : ClassId) (a0 : Nat → Nat) (sz : Nat) (u0 : S1) (p1 : Int32) (p2 : Int32) (p3 : Int32) (o : Int32 × S1) (hf : f_X7_walks u0 p1 p2 p3 = some o) : Met l yX7_walks wsX7_walks rmX7_walks (va_Pc [.ref (a0 0), .int p1, .int p2, .int p3] (PW D cls (tys cI cZ cJ cT) ((wX7 cI cZ a0 u0)) sz)) (QWi D cls o.1 ((wX7 cI cZ a0 o.2)) (va_A ((wX7 cI cZ a0 u0)) sz)) 0 0 (va_A ((wX7 cI cZ a0 u0)) sz) := by
  refine Met.ofW (cc := cX7_walks) (maxL := 6) (ret := (some .int)) (by decide) rfl ?_
  intro p e s m args below meth c s₁ B hml hv
  obtain ⟨hav, hsz, hP, hK, hD0⟩ := hv
  have hx := B.exec
  have hb := B.bytes
  have hr := B.returns
  have hlocks := B.notSynchronized
  have hts := atoms_spec (ws := wsX7_walks) B.pre
  have hown : s.vm.findClass RX7 = some m.cls := findClass_of_methodNamed B.named
  have i7 : ∀ w ∈ wsX70, w ∈ wsX7_walks := fun w h => List.mem_cons_of_mem _ (List.mem_append_right _ h)
  have hk7 := hts (.fieldLink RX7 7 "InoderyModel" "s" "[I") (by decide +kernel)
  have hk47 := hts (.fieldLink RX7 47 "InoderyModel" "left" "[I") (by decide +kernel)
  have hk112 := hts (.fieldLink RX7 112 "InoderyModel" "many" "I") (by decide +kernel)
  have hk118 := hts (.fieldLink RX7 118 "InoderyModel" "parent" "I") (by decide +kernel)
  have hk121 := hts (.fieldLink RX7 121 "InoderyModel" "lastName" "I") (by decide +kernel)
  subst hsz
  have hD := hD0.self (sz := s.heap.size)
  generalize hAe : va_A ((wX7 cI cZ a0 u0)) s.heap.size = A at hD ⊢
  have hA : ∀ q : Nat, s.heap.size ≤ q → A q := fun q h => by rw [← hAe]; exact Or.inr h
  have hS : va_S A s.heap s.heap [] := va_S.rf
  have hDD : ∀ w0 : S1, va_D A ((wX7 cI cZ a0 w0)) := fun _ => D_same (w := (wX7 cI cZ a0 u0)) rfl hD
  refine Wq (fun Q hQ => ?_)
  refine W_entry hav (Nat.le_of_ble_eq_true rfl) (fun ls hl => ?_)
  have hl : lv_has ls 6 [(0, .ref (a0 0)), (1, .int p1), (2, .int p2), (3, .int p3)] := hl
  unfold f_X7_walks at hf
  refine W_heap hP hS (fun H locs hP hS => ?_)
  refine lv_aload_n hx hb dX7_walks_0 rfl (lv_at hl 0 rfl) ?_
  refine lv_iconst (v := 0) hx hb dX7_walks_1 (by decide) ?_
  obtain ⟨u_1, hu_1, hf⟩ := bv_some hf
  refine va_put (D := D) (ci := 7) (v := .int 0) (ty := .int) (C := RX7) (T := TX7) (N := 19) hx hb hts i7 tyX7 tyX7_ok nmX7 hown hK hP (hDD u0) hS 0 rfl rfl 15 (by decide) hk112 (fun _ h9 => h9) rfl (by decide +kernel) rfl rfl (Nat.le_of_ble_eq_true rfl) dX7_walks_2 (fun H locs hP _ hS => ?_)
  have hP : va_P D cls (wX7 cI cZ a0 u_1) H := by rw [hu_1]; exact hP
  refine lv_aload_n hx hb dX7_walks_5 rfl (lv_at hl 0 rfl) ?_
  refine lv_iload_n hx hb dX7_walks_6 rfl (lv_at hl 2 rfl) ?_
  obtain ⟨z_2, hz_2, hf⟩ := bn_some hf
  refine cWVv (As := [.int p2]) (rest := []) ⟨hx, hb, hml, hown, hts⟩ (c_X7_lays l D cI cZ cJ cT a0 H.size u_1 p2 z_2 hz_2) (cwV 1 hts gX7_walks_X7_lays rfl rfl rfl (by decide +kernel) ⟨Nat.le_of_ble_eq_true rfl, Nat.le_of_ble_eq_true rfl⟩) hP hK (hDD u_1) hS (own_free (hDD u_1) hS hA) (va_recv hK hP (ci := 7) (q0 := 0) rfl rfl) rfl rfl hl.1 (Nat.le_of_ble_eq_true rfl) dX7_walks_7 ⟨Nat.le_of_ble_eq_true rfl, Nat.le_of_ble_eq_true rfl⟩ (fun H1 locs hP1 hk1 hS => ?_)
  have hP : va_P D cls (wX7 cI cZ a0 z_2) H1 := hP1
  clear hP1 hk1
  generalize H1 = H at hP hS ⊢
  refine lv_iconst (v := 0) hx hb dX7_walks_10 (by decide) ?_
  refine lv_istore (lv' := [(4, .int 0), (0, .ref (a0 0)), (1, .int p1), (2, .int p2), (3, .int p3)]) hx hb dX7_walks_11 hl (by decide) rfl (fun ls hl => ?_)
  refine lv_iconst (v := 0) hx hb dX7_walks_13 (by decide) ?_
  refine lv_istore (lv' := [(5, .int 0), (4, .int 0), (0, .ref (a0 0)), (1, .int p1), (2, .int p2), (3, .int p3)]) hx hb dX7_walks_14 hl (by decide) rfl (fun ls hl => ?_)
  refine lv_aload_n hx hb dX7_walks_16 rfl (lv_at hl 2 rfl) ?_
  refine lv_iconst (v := (-1)) hx hb dX7_walks_17 (by decide) ?_
  obtain ⟨u_3, hu_3, hf⟩ := bv_some hf
  refine va_put (D := D) (ci := 7) (v := .int (-1)) (ty := .int) (C := RX7) (T := TX7) (N := 19) hx hb hts i7 tyX7 tyX7_ok nmX7 hown hK hP (hDD z_2) hS 0 rfl rfl 16 (by decide) hk118 (fun _ h9 => h9) rfl (by decide +kernel) rfl rfl (Nat.le_of_ble_eq_true rfl) dX7_walks_18 (fun H locs hP _ hS => ?_)
  have hP : va_P D cls (wX7 cI cZ a0 u_3) H := by rw [hu_3]; exact hP
  obtain ⟨G21_4, hG21_4, hf⟩ := qj3_some hf
  have j21_4 : ∀ (n : Nat) (y21_4_4 : Int32) (y21_4_5 : Int32) (u21_4_0 : S1) (H : Heap) (locs : List Loc) (ls : Array Slot), ql3 G21_4 n y21_4_4 y21_4_5 u21_4_0 = some o → va_P D cls (wX7 cI cZ a0 u21_4_0) H → va_S A s.heap H locs → lv_has ls 6 [(0, .ref (a0 0)), (1, .int p1), (3, .int p3), (4, .int y21_4_4), (5, .int y21_4_5)] → W p l e (headSpec wsX7_walks rmX7_walks).room s m args below meth c H locs 0 0 Q (F0 m 21 ls []) := by
    intro n
    induction n with
    | zero => intro y21_4_4 y21_4_5 u21_4_0 H locs ls hf hP hS hl; exact (ql3_z hf).elim
    | succ n ih21_4 =>
      intro y21_4_4 y21_4_5 u21_4_0 H locs ls hf hP hS hl
      have hf := ql3_s hG21_4 hf
      obtain ⟨r21_4, hr21_4⟩ : ∃ z, z = ql3 G21_4 n := ⟨_, rfl⟩
      rw [← hr21_4] at hf ih21_4
      refine lv_aload_n hx hb dX7_walks_21 rfl (lv_at hl 0 rfl) ?_
      refine va_get (D := D) (ci := 7) (v := .int (u21_4_0 15 0)) (C := RX7) (T := TX7) (N := 19) hx hb hts i7 hown hK hP 0 rfl rfl 15 (by decide) hk112 (fun _ h9 => h9) rfl dX7_walks_22 ?_
      refine lv_if_le (tgt := 157) hx hb dX7_walks_25 (by decide) (fun c_5 => ?_) (fun c_5 => ?_)
      · have hf := ite_t hf c_5
        refine lv_iload hx hb dX7_walks_157 (lv_at hl 4 rfl) ?_
        have eo := Option.some.inj hf
        have hP : va_P D cls (wX7 cI cZ a0 o.2) H := by rw [← eo]; exact hP
        rw [hQ]
        exact W.iret hx hb hr (fun t ht hW => ⟨⟨_, (), rfl, congrArg Prod.fst eo, P_at ht hP⟩, hS.F ht⟩) hS.2.2 dX7_walks_159 hlocks
      · have hf := ite_f hf c_5
        refine lv_aload_n hx hb dX7_walks_28 rfl (lv_at hl 0 rfl) ?_
        refine lv_dup hx hb dX7_walks_29 rfl ?_
        refine va_get (D := D) (ci := 7) (v := .int (u21_4_0 15 0)) (C := RX7) (T := TX7) (N := 19) hx hb hts i7 hown hK hP 0 rfl rfl 15 (by decide) hk112 (fun _ h9 => h9) rfl dX7_walks_30 ?_
        refine lv_iconst (v := 1) hx hb dX7_walks_33 (by decide) ?_
        refine lv_isub hx hb dX7_walks_34 ?_
        obtain ⟨u_6, hu_6, hf⟩ := bv_some hf
        refine va_put (D := D) (ci := 7) (v := .int ((u21_4_0 15 0) - 1)) (ty := .int) (C := RX7) (T := TX7) (N := 19) hx hb hts i7 tyX7 tyX7_ok nmX7 hown hK hP (hDD u21_4_0) hS 0 rfl rfl 15 (by decide) hk112 (fun _ h9 => h9) rfl (by decide +kernel) rfl rfl (Nat.le_of_ble_eq_true rfl) dX7_walks_35 (fun H locs hP _ hS => ?_)
        have hP : va_P D cls (wX7 cI cZ a0 u_6) H := by rw [hu_6]; exact hP
        refine lv_aload_n hx hb dX7_walks_38 rfl (lv_at hl 0 rfl) ?_
        refine lv_iload hx hb dX7_walks_39 (lv_at hl 4 rfl) ?_
        obtain ⟨u_7, hu_7, hf⟩ := bv_some hf
        refine va_put (D := D) (ci := 7) (v := .int y21_4_5) (ty := .int) (C := RX7) (T := TX7) (N := 19) hx hb hts i7 tyX7 tyX7_ok nmX7 hown hK hP (hDD u_6) hS 0 rfl rfl 16 (by decide) hk118 (fun _ h9 => h9) rfl (by decide +kernel) rfl rfl (Nat.le_of_ble_eq_true rfl) dX7_walks_41 (fun H locs hP _ hS => ?_)
        have hP : va_P D cls (wX7 cI cZ a0 u_7) H := by rw [hu_7]; exact hP
        refine lv_aload_n hx hb dX7_walks_44 rfl (lv_at hl 0 rfl) ?_
        refine lv_aload_n hx hb dX7_walks_45 rfl (lv_at hl 0 rfl) ?_
        refine va_get (D := D) (ci := 7) (v := .ref (a0 15)) (C := RX7) (T := TX7) (N := 19) hx hb hts i7 hown hK hP 0 rfl rfl 14 (by decide) hk47 (fun _ h9 => h9) rfl dX7_walks_46 ?_
        refine lv_aload_n hx hb dX7_walks_49 rfl (lv_at hl 0 rfl) ?_
        refine va_get (D := D) (ci := 7) (v := .int (u_7 15 0)) (C := RX7) (T := TX7) (N := 19) hx hb hts i7 hown hK hP 0 rfl rfl 15 (by decide) hk112 (fun _ h9 => h9) rfl dX7_walks_50 ?_
        obtain ⟨hi, hf⟩ := chk_some hf
        refine va_iald hx hb hK hP 13 0 rfl rfl (inb_in hi) dX7_walks_53 ?_
        obtain ⟨u_8, hu_8, hf⟩ := bv_some hf
        refine va_put (D := D) (ci := 7) (v := .int (u_7 14 ((u_7 15 0)).toNatClampNeg)) (ty := .int) (C := RX7) (T := TX7) (N := 19) hx hb hts i7 tyX7 tyX7_ok nmX7 hown hK hP (hDD u_7) hS 0 rfl rfl 17 (by decide) hk121 (fun _ h9 => h9) rfl (by decide +kernel) rfl rfl (Nat.le_of_ble_eq_true rfl) dX7_walks_54 (fun H locs hP _ hS => ?_)
        have hP : va_P D cls (wX7 cI cZ a0 u_8) H := by rw [hu_8]; exact hP
        refine lv_aload_n hx hb dX7_walks_57 rfl (lv_at hl 0 rfl) ?_
        refine va_get (D := D) (ci := 7) (v := .ref (a0 1)) (C := RX7) (T := TX7) (N := 19) hx hb hts i7 hown hK hP 0 rfl rfl 0 (by decide) hk7 (fun _ h9 => h9) rfl dX7_walks_58 ?_
        refine lv_iload_n hx hb dX7_walks_61 rfl (lv_at hl 1 rfl) ?_
        refine lv_iload hx hb dX7_walks_62 (lv_at hl 4 rfl) ?_
        obtain ⟨z_9, hz_9, hf⟩ := bn_some hf
        refine c0S (As := [.int p1, .int y21_4_5]) (rest := [.ref (a0 1)]) ⟨hx, hb, hml, hown, hts⟩ (c_X7_at l D cI cZ cJ cT p1 y21_4_5 z_9 hz_9) (va_cwS 2 hts gX7_walks_X7_at rfl rfl rfl (by decide +kernel) ⟨Nat.le_of_ble_eq_true rfl, Nat.le_of_ble_eq_true rfl⟩) rfl rfl hl.1 (Nat.le_of_ble_eq_true rfl) dX7_walks_64 ⟨Nat.le_of_ble_eq_true rfl, Nat.le_of_ble_eq_true rfl⟩ ?_
        obtain ⟨hi, hf⟩ := chk_some hf
        refine va_iald hx hb hK hP 1 0 rfl rfl (inb_in hi) dX7_walks_67 ?_
        refine lv_iconst (v := 1) hx hb dX7_walks_68 (by decide) ?_
        obtain ⟨k87_10, hk87_10, hf⟩ := jn_some hf
        have j87_10 : ∀ (v87_10_0 : Int32) (H : Heap) (locs : List Loc) (ls : Array Slot), k87_10 v87_10_0 = some o → va_P D cls (wX7 cI cZ a0 u_8) H → va_S A s.heap H locs → lv_has ls 6 [(0, .ref (a0 0)), (1, .int p1), (3, .int p3), (4, .int y21_4_4)] → W p l e (headSpec wsX7_walks rmX7_walks).room s m args below meth c H locs 0 0 Q (F0 m 87 ls [.int v87_10_0]) := by
          intro v87_10_0 H locs ls hf hP hS hl
          have hf := qa1 hk87_10 hf
          refine lv_istore (lv' := [(5, .int v87_10_0), (0, .ref (a0 0)), (1, .int p1), (3, .int p3), (4, .int y21_4_4)]) hx hb dX7_walks_87 hl (by decide) rfl (fun ls hl => ?_)
          refine lv_iload hx hb dX7_walks_89 (lv_at hl 0 rfl) ?_
          refine lv_iconst (v := (-1)) hx hb dX7_walks_91 (by decide) ?_
          refine lv_icmp_ne (tgt := 97) hx hb dX7_walks_92 (by decide) (fun c_11 => ?_) (fun c_11 => ?_)
          · have hf := ite_f hf c_11
            refine lv_aload_n hx hb dX7_walks_97 rfl (lv_at hl 1 rfl) ?_
            refine va_get (D := D) (ci := 7) (v := .ref (a0 1)) (C := RX7) (T := TX7) (N := 19) hx hb hts i7 hown hK hP 0 rfl rfl 0 (by decide) hk7 (fun _ h9 => h9) rfl dX7_walks_98 ?_
            refine lv_iload_n hx hb dX7_walks_101 rfl (lv_at hl 2 rfl) ?_
            refine lv_iload hx hb dX7_walks_102 (lv_at hl 0 rfl) ?_
            obtain ⟨z_12, hz_12, hf⟩ := bn_some hf
            refine c0S (As := [.int p1, .int v87_10_0]) (rest := [.ref (a0 1)]) ⟨hx, hb, hml, hown, hts⟩ (c_X7_at l D cI cZ cJ cT p1 v87_10_0 z_12 hz_12) (va_cwS 2 hts gX7_walks_X7_at rfl rfl rfl (by decide +kernel) ⟨Nat.le_of_ble_eq_true rfl, Nat.le_of_ble_eq_true rfl⟩) rfl rfl hl.1 (Nat.le_of_ble_eq_true rfl) dX7_walks_104 ⟨Nat.le_of_ble_eq_true rfl, Nat.le_of_ble_eq_true rfl⟩ ?_
            obtain ⟨hi, hf⟩ := chk_some hf
            refine va_iald hx hb hK hP 1 0 rfl rfl (inb_in hi) dX7_walks_107 ?_
            refine lv_iconst (v := 2) hx hb dX7_walks_108 (by decide) ?_
            refine lv_icmp_ne (tgt := 21) hx hb dX7_walks_109 (by decide) (fun c_13 => ?_) (fun c_13 => ?_)
            · have hf := ite_f hf c_13
              exact ih21_4 _ _ _ _ _ _ hf hP hS (lv_sub hl [1, 2, 3, 4, 0] rfl)
            · have hf := ite_t hf c_13
              refine lv_aload_n hx hb dX7_walks_112 rfl (lv_at hl 1 rfl) ?_
              refine va_get (D := D) (ci := 7) (v := .int (u_8 15 0)) (C := RX7) (T := TX7) (N := 19) hx hb hts i7 hown hK hP 0 rfl rfl 15 (by decide) hk112 (fun _ h9 => h9) rfl dX7_walks_113 ?_
              obtain ⟨k123_14, hk123_14, hf⟩ := jn_some hf
              have j123_14 : ∀ (H : Heap) (locs : List Loc) (ls : Array Slot), k123_14 = some o → va_P D cls (wX7 cI cZ a0 u_8) H → va_S A s.heap H locs → lv_has ls 6 [(0, .ref (a0 0)), (1, .int p1), (3, .int p3), (4, .int y21_4_4), (5, .int v87_10_0)] → W p l e (headSpec wsX7_walks rmX7_walks).room s m args below meth c H locs 0 0 Q (F0 m 123 ls []) := by
                intro H locs ls hf hP hS hl
                have hf := qa0 hk123_14 hf
                refine lv_iinc (v := y21_4_4 + 1) (lv' := [(4, .int (y21_4_4 + 1)), (0, .ref (a0 0)), (1, .int p1), (3, .int p3), (5, .int v87_10_0)]) hx hb dX7_walks_123 hl (k := 3) rfl rfl (by decide) rfl (fun ls hl => ?_)
                refine lv_iload hx hb dX7_walks_126 (lv_at hl 0 rfl) ?_
                refine lv_iconst (v := 4) hx hb dX7_walks_128 (by decide) ?_
                refine lv_icmp_le (tgt := 134) hx hb dX7_walks_129 (by decide) (fun c_15 => ?_) (fun c_15 => ?_)
                · have hf := ite_t hf c_15
                  refine lv_aload_n hx hb dX7_walks_134 rfl (lv_at hl 1 rfl) ?_
                  refine lv_aload_n hx hb dX7_walks_135 rfl (lv_at hl 1 rfl) ?_
                  refine va_get (D := D) (ci := 7) (v := .ref (a0 1)) (C := RX7) (T := TX7) (N := 19) hx hb hts i7 hown hK hP 0 rfl rfl 0 (by decide) hk7 (fun _ h9 => h9) rfl dX7_walks_136 ?_
                  refine lv_iload_n hx hb dX7_walks_139 rfl (lv_at hl 2 rfl) ?_
                  refine lv_iload hx hb dX7_walks_140 (lv_at hl 4 rfl) ?_
                  obtain ⟨z_16, hz_16, hf⟩ := bn_some hf
                  refine c0S (As := [.int p1, .int v87_10_0]) (rest := [.ref (a0 1), .ref (a0 0)]) ⟨hx, hb, hml, hown, hts⟩ (c_X7_at l D cI cZ cJ cT p1 v87_10_0 z_16 hz_16) (va_cwS 2 hts gX7_walks_X7_at rfl rfl rfl (by decide +kernel) ⟨Nat.le_of_ble_eq_true rfl, Nat.le_of_ble_eq_true rfl⟩) rfl rfl hl.1 (Nat.le_of_ble_eq_true rfl) dX7_walks_142 ⟨Nat.le_of_ble_eq_true rfl, Nat.le_of_ble_eq_true rfl⟩ ?_
                  refine lv_iconst (v := 4) hx hb dX7_walks_145 (by decide) ?_
                  refine lv_iadd hx hb dX7_walks_146 ?_
                  obtain ⟨hi, hf⟩ := chk_some hf
                  refine va_iald hx hb hK hP 1 0 rfl rfl (inb_in hi) dX7_walks_147 ?_
                  obtain ⟨z_17, hz_17, hf⟩ := bn_some hf
                  refine cWVv (As := [.int (u_8 0 (z_16 + 4).toNatClampNeg)]) (rest := []) ⟨hx, hb, hml, hown, hts⟩ (c_X7_lays l D cI cZ cJ cT a0 H.size u_8 (u_8 0 (z_16 + 4).toNatClampNeg) z_17 hz_17) (cwV 1 hts gX7_walks_X7_lays rfl rfl rfl (by decide +kernel) ⟨Nat.le_of_ble_eq_true rfl, Nat.le_of_ble_eq_true rfl⟩) hP hK (hDD u_8) hS (own_free (hDD u_8) hS hA) (va_recv hK hP (ci := 7) (q0 := 0) rfl rfl) rfl rfl hl.1 (Nat.le_of_ble_eq_true rfl) dX7_walks_148 ⟨Nat.le_of_ble_eq_true rfl, Nat.le_of_ble_eq_true rfl⟩ (fun H1 locs hP1 hk1 hS => ?_)
                  have hP : va_P D cls (wX7 cI cZ a0 z_17) H1 := hP1
                  clear hP1 hk1
                  generalize H1 = H at hP hS ⊢
                  refine lv_iconst (v := 0) hx hb dX7_walks_151 (by decide) ?_
                  refine lv_istore (lv' := [(5, .int 0), (4, .int (y21_4_4 + 1)), (0, .ref (a0 0)), (1, .int p1), (3, .int p3)]) hx hb dX7_walks_152 hl (by decide) rfl (fun ls hl => ?_)
                  refine lv_goto (tgt := 21) hx hb dX7_walks_154 (by decide) ?_
                  exact ih21_4 _ _ _ _ _ _ hf hP hS (lv_sub hl [2, 3, 4, 1, 0] rfl)
                · have hf := ite_f hf c_15
                  refine lv_iconst (v := (-1)) hx hb dX7_walks_132 (by decide) ?_
                  have eo := Option.some.inj hf
                  have hP : va_P D cls (wX7 cI cZ a0 o.2) H := by rw [← eo]; exact hP
                  rw [hQ]
                  exact W.iret hx hb hr (fun t ht hW => ⟨⟨_, (), rfl, congrArg Prod.fst eo, P_at ht hP⟩, hS.F ht⟩) hS.2.2 dX7_walks_133 hlocks
              refine lv_if_gt (tgt := 123) hx hb dX7_walks_116 (by decide) (fun c_18 => ?_) (fun c_18 => ?_)
              · have hf := ite_t hf c_18
                exact j123_14 _ _ _ hf hP hS (lv_sub hl [1, 2, 3, 4, 0] rfl)
              · have hf := ite_f hf c_18
                refine lv_iload_n hx hb dX7_walks_119 rfl (lv_at hl 3 rfl) ?_
                refine lv_if_eq (tgt := 21) hx hb dX7_walks_120 (by decide) (fun c_19 => ?_) (fun c_19 => ?_)
                · have hf := ite_t hf c_19
                  exact ih21_4 _ _ _ _ _ _ hf hP hS (lv_sub hl [1, 2, 3, 4, 0] rfl)
                · have hf := ite_f hf c_19
                  exact j123_14 _ _ _ hf hP hS (lv_sub hl [1, 2, 3, 4, 0] rfl)
          · have hf := ite_t hf c_11
            refine lv_iconst (v := (-1)) hx hb dX7_walks_95 (by decide) ?_
            have eo := Option.some.inj hf
            have hP : va_P D cls (wX7 cI cZ a0 o.2) H := by rw [← eo]; exact hP
            rw [hQ]
            exact W.iret hx hb hr (fun t ht hW => ⟨⟨_, (), rfl, congrArg Prod.fst eo, P_at ht hP⟩, hS.F ht⟩) hS.2.2 dX7_walks_96 hlocks
        refine lv_icmp_ne (tgt := 86) hx hb dX7_walks_69 (by decide) (fun c_20 => ?_) (fun c_20 => ?_)
        · have hf := ite_f hf c_20
          refine lv_iconst (v := (-1)) hx hb dX7_walks_86 (by decide) ?_
          exact j87_10 _ _ _ _ hf hP hS (lv_sub hl [0, 1, 2, 3] rfl)
        · have hf := ite_t hf c_20
          refine lv_aload_n hx hb dX7_walks_72 rfl (lv_at hl 0 rfl) ?_
          refine lv_iload_n hx hb dX7_walks_73 rfl (lv_at hl 1 rfl) ?_
          refine lv_iload hx hb dX7_walks_74 (lv_at hl 4 rfl) ?_
          refine lv_aload_n hx hb dX7_walks_76 rfl (lv_at hl 0 rfl) ?_
          refine va_get (D := D) (ci := 7) (v := .int (u_8 17 0)) (C := RX7) (T := TX7) (N := 19) hx hb hts i7 hown hK hP 0 rfl rfl 17 (by decide) hk121 (fun _ h9 => h9) rfl dX7_walks_77 ?_
          obtain ⟨z_21, hz_21, hf⟩ := bn_some hf
          refine cRV (As := [.int p1, .int y21_4_5, .int (u_8 17 0)]) (rest := []) ⟨hx, hb, hml, hown, hts⟩ (c_X7_entryOf l D cI cZ cJ cT a0 u_8 p1 y21_4_5 (u_8 17 0) z_21 hz_21) (cwV 3 hts gX7_walks_X7_entryOf rfl rfl rfl (by decide +kernel) ⟨Nat.le_of_ble_eq_true rfl, Nat.le_of_ble_eq_true rfl⟩) hP hK (va_recv hK hP (ci := 7) (q0 := 0) rfl rfl) rfl rfl hl.1 (Nat.le_of_ble_eq_true rfl) dX7_walks_80 ⟨Nat.le_of_ble_eq_true rfl, Nat.le_of_ble_eq_true rfl⟩ ?_
          refine lv_goto (tgt := 87) hx hb dX7_walks_83 (by decide) ?_
          exact j87_10 _ _ _ _ hf hP hS (lv_sub hl [0, 1, 2, 3] rfl)
  exact j21_4 4096 _ _ _ _ _ _ hf hP hS (lv_sub hl [2, 3, 5, 1, 0] rfl)
set_option maxRecDepth 20000 in
theorem ggX7_folderOf_X7_kindOf : GoodIn wsX7_folderOf wsX7_kindOf := goodIn_r _ [29, 10, 15, 16, 4, 17, 30, 31, 32, 33, 34, 35, 36, 37, 38, 39, 40, 41, 42, 43, 44, 45, 46, 47, 48] (by decide +kernel) (by decide +kernel)
set_option maxRecDepth 20000 in
theorem gX7_folderOf_X7_kindOf : GoodIn wsX7_folderOf (wsV RX7 131 RX7 yX7_kindOf wsX7_kindOf) := goodIn_app (goodIn_of _ (by decide +kernel)) ggX7_folderOf_X7_kindOf
set_option maxRecDepth 20000 in
theorem ggX7_folderOf_X7_walks : GoodIn wsX7_folderOf wsX7_walks := goodIn_r _ [5, 6, 7, 8, 9, 10, 11, 12, 13, 4, 14, 15, 16, 17, 18, 19, 20, 21, 22, 23, 24, 25, 30, 31, 32, 33, 34, 35, 36, 37, 38, 39, 40, 41, 42, 43, 44, 45, 46, 47, 48] (by decide +kernel) (by decide +kernel)
set_option maxRecDepth 20000 in
theorem gX7_folderOf_X7_walks : GoodIn wsX7_folderOf (wsV RX7 127 RX7 yX7_walks wsX7_walks) := goodIn_app (goodIn_of _ (by decide +kernel)) ggX7_folderOf_X7_walks
theorem dX7_folderOf_0 : decode cX7_folderOf 0 = .ok (.aload_n 0, 1) := by decide +kernel
theorem dX7_folderOf_1 : decode cX7_folderOf 1 = .ok (.iconst 0, 1) := by decide +kernel
theorem dX7_folderOf_2 : decode cX7_folderOf 2 = .ok (.iload_n 1, 1) := by decide +kernel
theorem dX7_folderOf_3 : decode cX7_folderOf 3 = .ok (.bipush 100, 2) := by decide +kernel
theorem dX7_folderOf_5 : decode cX7_folderOf 5 = .ok (.idiv, 1) := by decide +kernel
theorem dX7_folderOf_6 : decode cX7_folderOf 6 = .ok (.iconst 1, 1) := by decide +kernel
theorem dX7_folderOf_7 : decode cX7_folderOf 7 = .ok (.invokevirtual 127, 3) := by decide +kernel
theorem dX7_folderOf_10 : decode cX7_folderOf 10 = .ok (.istore_n 2, 1) := by decide +kernel
theorem dX7_folderOf_11 : decode cX7_folderOf 11 = .ok (.iload_n 2, 1) := by decide +kernel
theorem dX7_folderOf_12 : decode cX7_folderOf 12 = .ok (.iconst (-1), 1) := by decide +kernel
theorem dX7_folderOf_13 : decode cX7_folderOf 13 = .ok (.if_icmp .eq 19, 3) := by decide +kernel
theorem dX7_folderOf_16 : decode cX7_folderOf 16 = .ok (.aload_n 0, 1) := by decide +kernel
theorem dX7_folderOf_17 : decode cX7_folderOf 17 = .ok (.iload_n 2, 1) := by decide +kernel
theorem dX7_folderOf_18 : decode cX7_folderOf 18 = .ok (.invokevirtual 131, 3) := by decide +kernel
theorem dX7_folderOf_21 : decode cX7_folderOf 21 = .ok (.iconst 1, 1) := by decide +kernel
theorem dX7_folderOf_22 : decode cX7_folderOf 22 = .ok (.if_icmp .ne 10, 3) := by decide +kernel
theorem dX7_folderOf_25 : decode cX7_folderOf 25 = .ok (.iload_n 1, 1) := by decide +kernel
theorem dX7_folderOf_26 : decode cX7_folderOf 26 = .ok (.bipush 100, 2) := by decide +kernel
theorem dX7_folderOf_28 : decode cX7_folderOf 28 = .ok (.irem, 1) := by decide +kernel
theorem dX7_folderOf_29 : decode cX7_folderOf 29 = .ok (.ifCond .ne 7, 3) := by decide +kernel
theorem dX7_folderOf_32 : decode cX7_folderOf 32 = .ok (.iconst (-1), 1) := by decide +kernel
theorem dX7_folderOf_33 : decode cX7_folderOf 33 = .ok (.goto 4, 3) := by decide +kernel
theorem dX7_folderOf_36 : decode cX7_folderOf 36 = .ok (.iload_n 2, 1) := by decide +kernel
theorem dX7_folderOf_37 : decode cX7_folderOf 37 = .ok (.ireturn, 1) := by decide +kernel
def f_X7_folderOf (u0 : S1) (p1 : Int32) : Option (Int32 × S1) := bn (f_X7_walks u0 0 (p1 / 100) 1) (fun z_1 => jn (fun (v37_2_0 : Int32) => some (v37_2_0, z_1.2)) (fun k37_2 => jn (k37_2 (-1)) (fun k32_3 => if z_1.1 = (-1) then k32_3 else bn (f_X7_kindOf z_1.2 z_1.1) (fun z_5 => if z_5 = 1 then if (p1 - p1 / 100 * 100) = 0 then k32_3 else k37_2 z_1.1 else k32_3))))
def rmX7_folderOf : Room := { frames := 4, cells := 0, slots := 0, locals := 95 }
set_option maxHeartbeats 4000000 in
set_option maxRecDepth 100000 in
theorem c_X7_folderOf (l : Launch) (D : va_G) (cI cZ cJ cT : ClassId) (a0 : Nat → Nat) (sz : Nat) (u0 : S1) (p1 : Int32) (o : Int32 × S1) (hf : f_X7_folderOf u0 p1 = some o) : Met l yX7_folderOf wsX7_folderOf rmX7_folderOf (va_Pc [.ref (a0 0), .int p1] (PW D cls (tys cI cZ cJ cT) ((wX7 cI cZ a0 u0)) sz)) (QWi D cls o.1 ((wX7 cI cZ a0 o.2)) (va_A ((wX7 cI cZ a0 u0)) sz)) 0 0 (va_A ((wX7 cI cZ a0 u0)) sz) := by
  refine Met.ofW (cc := cX7_folderOf) (maxL := 3) (ret := (some .int)) (by decide) rfl ?_
  intro p e s m args below meth c s₁ B hml hv
  obtain ⟨hav, hsz, hP, hK, hD0⟩ := hv
  have hx := B.exec
  have hb := B.bytes
  have hr := B.returns
  have hlocks := B.notSynchronized
  have hts := atoms_spec (ws := wsX7_folderOf) B.pre
  have hown : s.vm.findClass RX7 = some m.cls := findClass_of_methodNamed B.named
  subst hsz
  have hD := hD0.self (sz := s.heap.size)
  generalize hAe : va_A ((wX7 cI cZ a0 u0)) s.heap.size = A at hD ⊢
  have hA : ∀ q : Nat, s.heap.size ≤ q → A q := fun q h => by rw [← hAe]; exact Or.inr h
  have hS : va_S A s.heap s.heap [] := va_S.rf
  have hDD : ∀ w0 : S1, va_D A ((wX7 cI cZ a0 w0)) := fun _ => D_same (w := (wX7 cI cZ a0 u0)) rfl hD
  refine Wq (fun Q hQ => ?_)
  refine W_entry hav (Nat.le_of_ble_eq_true rfl) (fun ls hl => ?_)
  have hl : lv_has ls 3 [(0, .ref (a0 0)), (1, .int p1)] := hl
  unfold f_X7_folderOf at hf
  refine W_heap hP hS (fun H locs hP hS => ?_)
  refine lv_aload_n hx hb dX7_folderOf_0 rfl (lv_at hl 0 rfl) ?_
  refine lv_iconst (v := 0) hx hb dX7_folderOf_1 (by decide) ?_
  refine lv_iload_n hx hb dX7_folderOf_2 rfl (lv_at hl 1 rfl) ?_
  refine lv_bipush (v := 100) hx hb dX7_folderOf_3 (by decide) ?_
  refine lv_idiv hx hb dX7_folderOf_5 (by decide) ?_
  refine lv_iconst (v := 1) hx hb dX7_folderOf_6 (by decide) ?_
  obtain ⟨z_1, hz_1, hf⟩ := bn_some hf
  refine cWVi (As := [.int 0, .int (p1 / 100), .int 1]) (rest := []) ⟨hx, hb, hml, hown, hts⟩ (c_X7_walks l D cI cZ cJ cT a0 H.size u0 0 (p1 / 100) 1 z_1 hz_1) (cwV 3 hts gX7_folderOf_X7_walks rfl rfl rfl (by decide +kernel) ⟨Nat.le_of_ble_eq_true rfl, Nat.le_of_ble_eq_true rfl⟩) hP hK (hDD u0) hS (own_free (hDD u0) hS hA) (va_recv hK hP (ci := 7) (q0 := 0) rfl rfl) rfl rfl hl.1 (Nat.le_of_ble_eq_true rfl) dX7_folderOf_7 ⟨Nat.le_of_ble_eq_true rfl, Nat.le_of_ble_eq_true rfl⟩ (fun H1 locs hP1 hk1 hS => ?_)
  have hP : va_P D cls (wX7 cI cZ a0 z_1.2) H1 := hP1
  clear hP1 hk1
  generalize H1 = H at hP hS ⊢
  refine lv_istore_n (lv' := [(2, .int z_1.1), (0, .ref (a0 0)), (1, .int p1)]) hx hb dX7_folderOf_10 rfl hl (by decide) rfl (fun ls hl => ?_)
  refine lv_iload_n hx hb dX7_folderOf_11 rfl (lv_at hl 0 rfl) ?_
  refine lv_iconst (v := (-1)) hx hb dX7_folderOf_12 (by decide) ?_
  obtain ⟨k37_2, hk37_2, hf⟩ := jn_some hf
  have j37_2 : ∀ (v37_2_0 : Int32) (H : Heap) (locs : List Loc) (ls : Array Slot), k37_2 v37_2_0 = some o → va_P D cls (wX7 cI cZ a0 z_1.2) H → va_S A s.heap H locs → lv_has ls 3 [] → W p l e (headSpec wsX7_folderOf rmX7_folderOf).room s m args below meth c H locs 0 0 Q (F0 m 37 ls [.int v37_2_0]) := by
    intro v37_2_0 H locs ls hf hP hS hl
    have hf := qa1 hk37_2 hf
    have eo := Option.some.inj hf
    have hP : va_P D cls (wX7 cI cZ a0 o.2) H := by rw [← eo]; exact hP
    rw [hQ]
    exact W.iret hx hb hr (fun t ht hW => ⟨⟨_, (), rfl, congrArg Prod.fst eo, P_at ht hP⟩, hS.F ht⟩) hS.2.2 dX7_folderOf_37 hlocks
  obtain ⟨k32_3, hk32_3, hf⟩ := jn_some hf
  have j32_3 : ∀ (H : Heap) (locs : List Loc) (ls : Array Slot), k32_3 = some o → va_P D cls (wX7 cI cZ a0 z_1.2) H → va_S A s.heap H locs → lv_has ls 3 [] → W p l e (headSpec wsX7_folderOf rmX7_folderOf).room s m args below meth c H locs 0 0 Q (F0 m 32 ls []) := by
    intro H locs ls hf hP hS hl
    have hf := qa0 hk32_3 hf
    refine lv_iconst (v := (-1)) hx hb dX7_folderOf_32 (by decide) ?_
    refine lv_goto (tgt := 37) hx hb dX7_folderOf_33 (by decide) ?_
    exact j37_2 _ _ _ _ hf hP hS (lv_sub hl [] rfl)
  refine lv_icmp_eq (tgt := 32) hx hb dX7_folderOf_13 (by decide) (fun c_4 => ?_) (fun c_4 => ?_)
  · have hf := ite_t hf c_4
    exact j32_3 _ _ _ hf hP hS (lv_sub hl [] rfl)
  · have hf := ite_f hf c_4
    refine lv_aload_n hx hb dX7_folderOf_16 rfl (lv_at hl 1 rfl) ?_
    refine lv_iload_n hx hb dX7_folderOf_17 rfl (lv_at hl 0 rfl) ?_
    obtain ⟨z_5, hz_5, hf⟩ := bn_some hf
    refine cRV (As := [.int z_1.1]) (rest := []) ⟨hx, hb, hml, hown, hts⟩ (c_X7_kindOf l D cI cZ cJ cT a0 z_1.2 z_1.1 z_5 hz_5) (cwV 1 hts gX7_folderOf_X7_kindOf rfl rfl rfl (by decide +kernel) ⟨Nat.le_of_ble_eq_true rfl, Nat.le_of_ble_eq_true rfl⟩) hP hK (va_recv hK hP (ci := 7) (q0 := 0) rfl rfl) rfl rfl hl.1 (Nat.le_of_ble_eq_true rfl) dX7_folderOf_18 ⟨Nat.le_of_ble_eq_true rfl, Nat.le_of_ble_eq_true rfl⟩ ?_
    refine lv_iconst (v := 1) hx hb dX7_folderOf_21 (by decide) ?_
    refine lv_icmp_ne (tgt := 32) hx hb dX7_folderOf_22 (by decide) (fun c_6 => ?_) (fun c_6 => ?_)
    · have hf := ite_f hf c_6
      exact j32_3 _ _ _ hf hP hS (lv_sub hl [] rfl)
    · have hf := ite_t hf c_6
      refine lv_iload_n hx hb dX7_folderOf_25 rfl (lv_at hl 2 rfl) ?_
      refine lv_bipush (v := 100) hx hb dX7_folderOf_26 (by decide) ?_
      refine lv_irem hx hb dX7_folderOf_28 (by decide) ?_
      refine lv_if_ne (tgt := 36) hx hb dX7_folderOf_29 (by decide) (fun c_7 => ?_) (fun c_7 => ?_)
      · have hf := ite_f hf c_7
        refine lv_iload_n hx hb dX7_folderOf_36 rfl (lv_at hl 0 rfl) ?_
        exact j37_2 _ _ _ _ hf hP hS (lv_sub hl [] rfl)
      · have hf := ite_t hf c_7
        exact j32_3 _ _ _ hf hP hS (lv_sub hl [] rfl)
set_option maxRecDepth 20000 in
theorem ggX7_may_X7_at : GoodIn wsX7_may wsX7_at := goodIn_r _ [6] (by decide +kernel) (by decide +kernel)
set_option maxRecDepth 20000 in
theorem gX7_may_X7_at : GoodIn wsX7_may (va_wsS RX7 67 yX7_at wsX7_at) := goodIn_app (goodIn_of _ (by decide +kernel)) ggX7_may_X7_at
theorem dX7_may_0 : decode cX7_may 0 = .ok (.iconst 0, 1) := by decide +kernel
theorem dX7_may_1 : decode cX7_may 1 = .ok (.iload_n 1, 1) := by decide +kernel
theorem dX7_may_2 : decode cX7_may 2 = .ok (.invokestatic 67, 3) := by decide +kernel
theorem dX7_may_5 : decode cX7_may 5 = .ok (.istore_n 3, 1) := by decide +kernel
theorem dX7_may_6 : decode cX7_may 6 = .ok (.aload_n 0, 1) := by decide +kernel
theorem dX7_may_7 : decode cX7_may 7 = .ok (.getfield 7, 3) := by decide +kernel
theorem dX7_may_10 : decode cX7_may 10 = .ok (.iload_n 3, 1) := by decide +kernel
theorem dX7_may_11 : decode cX7_may 11 = .ok (.iconst 1, 1) := by decide +kernel
theorem dX7_may_12 : decode cX7_may 12 = .ok (.iadd, 1) := by decide +kernel
theorem dX7_may_13 : decode cX7_may 13 = .ok (.iaload, 1) := by decide +kernel
theorem dX7_may_14 : decode cX7_may 14 = .ok (.aload_n 0, 1) := by decide +kernel
theorem dX7_may_15 : decode cX7_may 15 = .ok (.getfield 85, 3) := by decide +kernel
theorem dX7_may_18 : decode cX7_may 18 = .ok (.if_icmp .ne 16, 3) := by decide +kernel
theorem dX7_may_21 : decode cX7_may 21 = .ok (.aload_n 0, 1) := by decide +kernel
theorem dX7_may_22 : decode cX7_may 22 = .ok (.getfield 7, 3) := by decide +kernel
theorem dX7_may_25 : decode cX7_may 25 = .ok (.iload_n 3, 1) := by decide +kernel
theorem dX7_may_26 : decode cX7_may 26 = .ok (.iconst 2, 1) := by decide +kernel
theorem dX7_may_27 : decode cX7_may 27 = .ok (.iadd, 1) := by decide +kernel
theorem dX7_may_28 : decode cX7_may 28 = .ok (.iaload, 1) := by decide +kernel
theorem dX7_may_29 : decode cX7_may 29 = .ok (.iconst 2, 1) := by decide +kernel
theorem dX7_may_30 : decode cX7_may 30 = .ok (.ishr, 1) := by decide +kernel
theorem dX7_may_31 : decode cX7_may 31 = .ok (.goto 13, 3) := by decide +kernel
theorem dX7_may_34 : decode cX7_may 34 = .ok (.aload_n 0, 1) := by decide +kernel
theorem dX7_may_35 : decode cX7_may 35 = .ok (.getfield 7, 3) := by decide +kernel
theorem dX7_may_38 : decode cX7_may 38 = .ok (.iload_n 3, 1) := by decide +kernel
theorem dX7_may_39 : decode cX7_may 39 = .ok (.iconst 2, 1) := by decide +kernel
theorem dX7_may_40 : decode cX7_may 40 = .ok (.iadd, 1) := by decide +kernel
theorem dX7_may_41 : decode cX7_may 41 = .ok (.iaload, 1) := by decide +kernel
theorem dX7_may_42 : decode cX7_may 42 = .ok (.iconst 3, 1) := by decide +kernel
theorem dX7_may_43 : decode cX7_may 43 = .ok (.iand, 1) := by decide +kernel
theorem dX7_may_44 : decode cX7_may 44 = .ok (.istore 4, 2) := by decide +kernel
theorem dX7_may_46 : decode cX7_may 46 = .ok (.aload_n 0, 1) := by decide +kernel
theorem dX7_may_47 : decode cX7_may 47 = .ok (.getfield 85, 3) := by decide +kernel
theorem dX7_may_50 : decode cX7_may 50 = .ok (.ifCond .eq 11, 3) := by decide +kernel
theorem dX7_may_53 : decode cX7_may 53 = .ok (.iload 4, 2) := by decide +kernel
theorem dX7_may_55 : decode cX7_may 55 = .ok (.iload_n 2, 1) := by decide +kernel
theorem dX7_may_56 : decode cX7_may 56 = .ok (.iand, 1) := by decide +kernel
theorem dX7_may_57 : decode cX7_may 57 = .ok (.iload_n 2, 1) := by decide +kernel
theorem dX7_may_58 : decode cX7_may 58 = .ok (.if_icmp .ne 7, 3) := by decide +kernel
theorem dX7_may_61 : decode cX7_may 61 = .ok (.iconst 1, 1) := by decide +kernel
theorem dX7_may_62 : decode cX7_may 62 = .ok (.goto 4, 3) := by decide +kernel
theorem dX7_may_65 : decode cX7_may 65 = .ok (.iconst 0, 1) := by decide +kernel
theorem dX7_may_66 : decode cX7_may 66 = .ok (.ireturn, 1) := by decide +kernel
def f_X7_may (u0 : S1) (p1 : Int32) (p2 : Int32) : Option (Int32) := bn (f_X7_at 0 p1) (fun z_1 => chk (inb (z_1 + 1) 8480) (jn (fun (v44_2_0 : Int32) => jn (fun (v66_3_0 : Int32) => some (vp_nar .boolean v66_3_0)) (fun k66_3 => jn (k66_3 1) (fun k61_4 => if (u0 7 0) = 0 then k61_4 else if (v44_2_0 &&& p2) = p2 then k61_4 else k66_3 0))) (fun k44_2 => if (u0 0 (z_1 + 1).toNatClampNeg) = (u0 7 0) then chk (inb (z_1 + 2) 8480) (k44_2 ((u0 0 (z_1 + 2).toNatClampNeg) >>> (2 &&& 31))) else chk (inb (z_1 + 2) 8480) (k44_2 ((u0 0 (z_1 + 2).toNatClampNeg) &&& 3)))))
def rmX7_may : Room := { frames := 1, cells := 0, slots := 0, locals := 21 }
set_option maxHeartbeats 4000000 in
set_option maxRecDepth 100000 in
theorem c_X7_may (l : Launch) (D : va_G) (cI cZ cJ cT : ClassId) (a0 : Nat → Nat) (u0 : S1) (p1 : Int32) (p2 : Int32) (o : Int32) (hf : f_X7_may u0 p1 p2 = some o) : Met l yX7_may wsX7_may rmX7_may (va_Pc [.ref (a0 0), .int p1, .int p2] (PR D cls (tys cI cZ cJ cT) ((wX7 cI cZ a0 u0)))) (QR o) 0 0 (fun _ => False) := by
  refine Met.ofW (cc := cX7_may) (maxL := 5) (ret := (some .boolean)) (by decide) rfl ?_
  intro p e s m args below meth c s₁ B hml hv
  obtain ⟨hav, hP, hK⟩ := hv
  have hx := B.exec
  have hb := B.bytes
  have hr := B.returns
  have hlocks := B.notSynchronized
  have hts := atoms_spec (ws := wsX7_may) B.pre
  have hown : s.vm.findClass RX7 = some m.cls := findClass_of_methodNamed B.named
  have i7 : ∀ w ∈ wsX70, w ∈ wsX7_may := fun w h => List.mem_cons_of_mem _ (List.mem_append_right _ h)
  have hk7 := hts (.fieldLink RX7 7 "InoderyModel" "s" "[I") (by decide +kernel)
  have hk85 := hts (.fieldLink RX7 85 "InoderyModel" "user" "I") (by decide +kernel)
  refine Wq (fun Q hQ => ?_)
  refine W_entry hav (Nat.le_of_ble_eq_true rfl) (fun ls hl => ?_)
  have hl : lv_has ls 5 [(0, .ref (a0 0)), (1, .int p1), (2, .int p2)] := hl
  unfold f_X7_may at hf
  refine lv_iconst (v := 0) hx hb dX7_may_0 (by decide) ?_
  refine lv_iload_n hx hb dX7_may_1 rfl (lv_at hl 1 rfl) ?_
  obtain ⟨z_1, hz_1, hf⟩ := bn_some hf
  refine c0S (As := [.int 0, .int p1]) (rest := []) ⟨hx, hb, hml, hown, hts⟩ (c_X7_at l D cI cZ cJ cT 0 p1 z_1 hz_1) (va_cwS 2 hts gX7_may_X7_at rfl rfl rfl (by decide +kernel) ⟨Nat.le_of_ble_eq_true rfl, Nat.le_of_ble_eq_true rfl⟩) rfl rfl hl.1 (Nat.le_of_ble_eq_true rfl) dX7_may_2 ⟨Nat.le_of_ble_eq_true rfl, Nat.le_of_ble_eq_true rfl⟩ ?_
  refine lv_istore_n (lv' := [(3, .int z_1), (0, .ref (a0 0)), (1, .int p1), (2, .int p2)]) hx hb dX7_may_5 rfl hl (by decide) rfl (fun ls hl => ?_)
  refine lv_aload_n hx hb dX7_may_6 rfl (lv_at hl 1 rfl) ?_
  refine va_get (D := D) (ci := 7) (v := .ref (a0 1)) (C := RX7) (T := TX7) (N := 19) hx hb hts i7 hown hK hP 0 rfl rfl 0 (by decide) hk7 (fun _ h9 => h9) rfl dX7_may_7 ?_
  refine lv_iload_n hx hb dX7_may_10 rfl (lv_at hl 0 rfl) ?_
  refine lv_iconst (v := 1) hx hb dX7_may_11 (by decide) ?_
  refine lv_iadd hx hb dX7_may_12 ?_
  obtain ⟨hi, hf⟩ := chk_some hf
  refine va_iald hx hb hK hP 1 0 rfl rfl (inb_in hi) dX7_may_13 ?_
  refine lv_aload_n hx hb dX7_may_14 rfl (lv_at hl 1 rfl) ?_
  refine va_get (D := D) (ci := 7) (v := .int (u0 7 0)) (C := RX7) (T := TX7) (N := 19) hx hb hts i7 hown hK hP 0 rfl rfl 7 (by decide) hk85 (fun _ h9 => h9) rfl dX7_may_15 ?_
  obtain ⟨k44_2, hk44_2, hf⟩ := jn_some hf
  have j44_2 : ∀ (v44_2_0 : Int32) (ls : Array Slot), k44_2 v44_2_0 = some o → lv_has ls 5 [(0, .ref (a0 0)), (2, .int p2)] → W p l e (headSpec wsX7_may rmX7_may).room s m args below meth c s.heap [] 0 0 Q (F0 m 44 ls [.int v44_2_0]) := by
    intro v44_2_0 ls hf hl
    have hf := qa1 hk44_2 hf
    refine lv_istore (lv' := [(4, .int v44_2_0), (0, .ref (a0 0)), (2, .int p2)]) hx hb dX7_may_44 hl (by decide) rfl (fun ls hl => ?_)
    refine lv_aload_n hx hb dX7_may_46 rfl (lv_at hl 1 rfl) ?_
    refine va_get (D := D) (ci := 7) (v := .int (u0 7 0)) (C := RX7) (T := TX7) (N := 19) hx hb hts i7 hown hK hP 0 rfl rfl 7 (by decide) hk85 (fun _ h9 => h9) rfl dX7_may_47 ?_
    obtain ⟨k66_3, hk66_3, hf⟩ := jn_some hf
    have j66_3 : ∀ (v66_3_0 : Int32) (ls : Array Slot), k66_3 v66_3_0 = some o → lv_has ls 5 [] → W p l e (headSpec wsX7_may rmX7_may).room s m args below meth c s.heap [] 0 0 Q (F0 m 66 ls [.int v66_3_0]) := by
      intro v66_3_0 ls hf hl
      have hf := qa1 hk66_3 hf
      rw [hQ]
      exact zretN (v := v66_3_0) (v' := vp_nar .boolean v66_3_0) hx hb hr rfl (fun t ht hW => ⟨_, rfl, Option.some.inj hf, ht⟩) (fun _ h => nomatch h) dX7_may_66 hlocks
    obtain ⟨k61_4, hk61_4, hf⟩ := jn_some hf
    have j61_4 : ∀ (ls : Array Slot), k61_4 = some o → lv_has ls 5 [] → W p l e (headSpec wsX7_may rmX7_may).room s m args below meth c s.heap [] 0 0 Q (F0 m 61 ls []) := by
      intro ls hf hl
      have hf := qa0 hk61_4 hf
      refine lv_iconst (v := 1) hx hb dX7_may_61 (by decide) ?_
      refine lv_goto (tgt := 66) hx hb dX7_may_62 (by decide) ?_
      exact j66_3 _ _ hf (lv_sub hl [] rfl)
    refine lv_if_eq (tgt := 61) hx hb dX7_may_50 (by decide) (fun c_5 => ?_) (fun c_5 => ?_)
    · have hf := ite_t hf c_5
      exact j61_4 _ hf (lv_sub hl [] rfl)
    · have hf := ite_f hf c_5
      refine lv_iload hx hb dX7_may_53 (lv_at hl 0 rfl) ?_
      refine lv_iload_n hx hb dX7_may_55 rfl (lv_at hl 2 rfl) ?_
      refine lv_iand hx hb dX7_may_56 ?_
      refine lv_iload_n hx hb dX7_may_57 rfl (lv_at hl 2 rfl) ?_
      refine lv_icmp_ne (tgt := 65) hx hb dX7_may_58 (by decide) (fun c_6 => ?_) (fun c_6 => ?_)
      · have hf := ite_f hf c_6
        refine lv_iconst (v := 0) hx hb dX7_may_65 (by decide) ?_
        exact j66_3 _ _ hf (lv_sub hl [] rfl)
      · have hf := ite_t hf c_6
        exact j61_4 _ hf (lv_sub hl [] rfl)
  refine lv_icmp_ne (tgt := 34) hx hb dX7_may_18 (by decide) (fun c_7 => ?_) (fun c_7 => ?_)
  · have hf := ite_f hf c_7
    refine lv_aload_n hx hb dX7_may_34 rfl (lv_at hl 1 rfl) ?_
    refine va_get (D := D) (ci := 7) (v := .ref (a0 1)) (C := RX7) (T := TX7) (N := 19) hx hb hts i7 hown hK hP 0 rfl rfl 0 (by decide) hk7 (fun _ h9 => h9) rfl dX7_may_35 ?_
    refine lv_iload_n hx hb dX7_may_38 rfl (lv_at hl 0 rfl) ?_
    refine lv_iconst (v := 2) hx hb dX7_may_39 (by decide) ?_
    refine lv_iadd hx hb dX7_may_40 ?_
    obtain ⟨hi, hf⟩ := chk_some hf
    refine va_iald hx hb hK hP 1 0 rfl rfl (inb_in hi) dX7_may_41 ?_
    refine lv_iconst (v := 3) hx hb dX7_may_42 (by decide) ?_
    refine lv_iand hx hb dX7_may_43 ?_
    exact j44_2 _ _ hf (lv_sub hl [1, 3] rfl)
  · have hf := ite_t hf c_7
    refine lv_aload_n hx hb dX7_may_21 rfl (lv_at hl 1 rfl) ?_
    refine va_get (D := D) (ci := 7) (v := .ref (a0 1)) (C := RX7) (T := TX7) (N := 19) hx hb hts i7 hown hK hP 0 rfl rfl 0 (by decide) hk7 (fun _ h9 => h9) rfl dX7_may_22 ?_
    refine lv_iload_n hx hb dX7_may_25 rfl (lv_at hl 0 rfl) ?_
    refine lv_iconst (v := 2) hx hb dX7_may_26 (by decide) ?_
    refine lv_iadd hx hb dX7_may_27 ?_
    obtain ⟨hi, hf⟩ := chk_some hf
    refine va_iald hx hb hK hP 1 0 rfl rfl (inb_in hi) dX7_may_28 ?_
    refine lv_iconst (v := 2) hx hb dX7_may_29 (by decide) ?_
    refine lv_ishr hx hb dX7_may_30 ?_
    refine lv_goto (tgt := 44) hx hb dX7_may_31 (by decide) ?_
    exact j44_2 _ _ hf (lv_sub hl [1, 3] rfl)
set_option maxRecDepth 20000 in
theorem ggX7_mayChange_X7_may : GoodIn wsX7_mayChange wsX7_may := goodIn_r _ [5, 6, 7, 8, 9, 4, 10, 11, 12, 13, 14, 15, 16, 17, 18, 19, 20, 21, 22, 23, 24, 25, 26, 27, 28, 29] (by decide +kernel) (by decide +kernel)
set_option maxRecDepth 20000 in
theorem gX7_mayChange_X7_may : GoodIn wsX7_mayChange (wsV RX7 134 RX7 yX7_may wsX7_may) := goodIn_app (goodIn_of _ (by decide +kernel)) ggX7_mayChange_X7_may
theorem dX7_mayChange_0 : decode cX7_mayChange 0 = .ok (.aload_n 0, 1) := by decide +kernel
theorem dX7_mayChange_1 : decode cX7_mayChange 1 = .ok (.iload_n 1, 1) := by decide +kernel
theorem dX7_mayChange_2 : decode cX7_mayChange 2 = .ok (.iconst 1, 1) := by decide +kernel
theorem dX7_mayChange_3 : decode cX7_mayChange 3 = .ok (.invokevirtual 134, 3) := by decide +kernel
theorem dX7_mayChange_6 : decode cX7_mayChange 6 = .ok (.ireturn, 1) := by decide +kernel
def f_X7_mayChange (u0 : S1) (p1 : Int32) : Option (Int32) := bn (f_X7_may u0 p1 1) (fun z_1 => some (vp_nar .boolean z_1))
def rmX7_mayChange : Room := { frames := 2, cells := 0, slots := 0, locals := 45 }
set_option maxHeartbeats 4000000 in
set_option maxRecDepth 100000 in
theorem c_X7_mayChange (l : Launch) (D : va_G) (cI cZ cJ cT : ClassId) (a0 : Nat → Nat) (u0 : S1) (p1 : Int32) (o : Int32) (hf : f_X7_mayChange u0 p1 = some o) : Met l yX7_mayChange wsX7_mayChange rmX7_mayChange (va_Pc [.ref (a0 0), .int p1] (PR D cls (tys cI cZ cJ cT) ((wX7 cI cZ a0 u0)))) (QR o) 0 0 (fun _ => False) := by
  refine Met.ofW (cc := cX7_mayChange) (maxL := 2) (ret := (some .boolean)) (by decide) rfl ?_
  intro p e s m args below meth c s₁ B hml hv
  obtain ⟨hav, hP, hK⟩ := hv
  have hx := B.exec
  have hb := B.bytes
  have hr := B.returns
  have hlocks := B.notSynchronized
  have hts := atoms_spec (ws := wsX7_mayChange) B.pre
  have hown : s.vm.findClass RX7 = some m.cls := findClass_of_methodNamed B.named
  refine Wq (fun Q hQ => ?_)
  refine W_entry hav (Nat.le_of_ble_eq_true rfl) (fun ls hl => ?_)
  have hl : lv_has ls 2 [(0, .ref (a0 0)), (1, .int p1)] := hl
  unfold f_X7_mayChange at hf
  refine lv_aload_n hx hb dX7_mayChange_0 rfl (lv_at hl 0 rfl) ?_
  refine lv_iload_n hx hb dX7_mayChange_1 rfl (lv_at hl 1 rfl) ?_
  refine lv_iconst (v := 1) hx hb dX7_mayChange_2 (by decide) ?_
  obtain ⟨z_1, hz_1, hf⟩ := bn_some hf
  refine cRV (As := [.int p1, .int 1]) (rest := []) ⟨hx, hb, hml, hown, hts⟩ (c_X7_may l D cI cZ cJ cT a0 u0 p1 1 z_1 hz_1) (cwV 2 hts gX7_mayChange_X7_may rfl rfl rfl (by decide +kernel) ⟨Nat.le_of_ble_eq_true rfl, Nat.le_of_ble_eq_true rfl⟩) hP hK (va_recv hK hP (ci := 7) (q0 := 0) rfl rfl) rfl rfl hl.1 (Nat.le_of_ble_eq_true rfl) dX7_mayChange_3 ⟨Nat.le_of_ble_eq_true rfl, Nat.le_of_ble_eq_true rfl⟩ ?_
  rw [hQ]
  exact zretN (v := z_1) (v' := vp_nar .boolean z_1) hx hb hr rfl (fun t ht hW => ⟨_, rfl, Option.some.inj hf, ht⟩) (fun _ h => nomatch h) dX7_mayChange_6 hlocks
set_option maxRecDepth 20000 in
theorem ggX7_user_X7_can : GoodIn wsX7_user wsX7_can := goodIn_r _ [12, 13, 14, 15, 16, 17, 18, 19, 20, 21, 22, 23, 24, 25, 26, 27, 28, 29, 30, 31, 32] (by decide +kernel) (by decide +kernel)
set_option maxRecDepth 20000 in
theorem gX7_user_X7_can : GoodIn wsX7_user (wsV RX7 140 RX7 yX7_can wsX7_can) := goodIn_app (goodIn_of _ (by decide +kernel)) ggX7_user_X7_can
set_option maxRecDepth 20000 in
theorem ggX7_user_X7_isUser : GoodIn wsX7_user wsX7_isUser := goodIn_r _ [5, 6, 7, 4, 8] (by decide +kernel) (by decide +kernel)
set_option maxRecDepth 20000 in
theorem gX7_user_X7_isUser : GoodIn wsX7_user (va_wsS RX7 137 yX7_isUser wsX7_isUser) := goodIn_app (goodIn_of _ (by decide +kernel)) ggX7_user_X7_isUser
theorem dX7_user_0 : decode cX7_user 0 = .ok (.aload_n 0, 1) := by decide +kernel
theorem dX7_user_1 : decode cX7_user 1 = .ok (.iload_n 1, 1) := by decide +kernel
theorem dX7_user_2 : decode cX7_user 2 = .ok (.invokestatic 137, 3) := by decide +kernel
theorem dX7_user_5 : decode cX7_user 5 = .ok (.ifCond .eq 7, 3) := by decide +kernel
theorem dX7_user_8 : decode cX7_user 8 = .ok (.iconst 0, 1) := by decide +kernel
theorem dX7_user_9 : decode cX7_user 9 = .ok (.goto 4, 3) := by decide +kernel
theorem dX7_user_12 : decode cX7_user 12 = .ok (.iconst 1, 1) := by decide +kernel
theorem dX7_user_13 : decode cX7_user 13 = .ok (.invokevirtual 140, 3) := by decide +kernel
theorem dX7_user_16 : decode cX7_user 16 = .ok (.ifCond .ne 5, 3) := by decide +kernel
theorem dX7_user_19 : decode cX7_user 19 = .ok (.iconst 0, 1) := by decide +kernel
theorem dX7_user_20 : decode cX7_user 20 = .ok (.ireturn, 1) := by decide +kernel
theorem dX7_user_21 : decode cX7_user 21 = .ok (.aload_n 0, 1) := by decide +kernel
theorem dX7_user_22 : decode cX7_user 22 = .ok (.getfield 85, 3) := by decide +kernel
theorem dX7_user_25 : decode cX7_user 25 = .ok (.istore_n 2, 1) := by decide +kernel
theorem dX7_user_26 : decode cX7_user 26 = .ok (.aload_n 0, 1) := by decide +kernel
theorem dX7_user_27 : decode cX7_user 27 = .ok (.iload_n 1, 1) := by decide +kernel
theorem dX7_user_28 : decode cX7_user 28 = .ok (.putfield 85, 3) := by decide +kernel
theorem dX7_user_31 : decode cX7_user 31 = .ok (.iload_n 2, 1) := by decide +kernel
theorem dX7_user_32 : decode cX7_user 32 = .ok (.ireturn, 1) := by decide +kernel
def f_X7_user (u0 : S1) (p1 : Int32) : Option (Int32 × S1) := bn (f_X7_isUser p1) (fun z_1 => jn (fun (v13_2_0 : Int32) => bn (f_X7_can u0 v13_2_0) (fun z_3 => if z_3.1 = 0 then some (0, z_3.2) else bv (up z_3.2 7 (fun _ => p1)) (fun u_5 => some ((z_3.2 7 0), u_5)))) (fun k13_2 => if z_1 = 0 then k13_2 1 else k13_2 0))
def rmX7_user : Room := { frames := 2, cells := 0, slots := 0, locals := 42 }
set_option maxHeartbeats 4000000 in
set_option maxRecDepth 100000 in
theorem c_X7_user (l : Launch) (D : va_G) (cI cZ cJ cT : ClassId) (a0 : Nat → Nat) (sz : Nat) (u0 : S1) (p1 : Int32) (o : Int32 × S1) (hf : f_X7_user u0 p1 = some o) : Met l yX7_user wsX7_user rmX7_user (va_Pc [.ref (a0 0), .int p1] (PW D cls (tys cI cZ cJ cT) ((wX7 cI cZ a0 u0)) sz)) (QWi D cls o.1 ((wX7 cI cZ a0 o.2)) (va_A ((wX7 cI cZ a0 u0)) sz)) 0 0 (va_A ((wX7 cI cZ a0 u0)) sz) := by
  refine Met.ofW (cc := cX7_user) (maxL := 3) (ret := (some .int)) (by decide) rfl ?_
  intro p e s m args below meth c s₁ B hml hv
  obtain ⟨hav, hsz, hP, hK, hD0⟩ := hv
  have hx := B.exec
  have hb := B.bytes
  have hr := B.returns
  have hlocks := B.notSynchronized
  have hts := atoms_spec (ws := wsX7_user) B.pre
  have hown : s.vm.findClass RX7 = some m.cls := findClass_of_methodNamed B.named
  have i7 : ∀ w ∈ wsX70, w ∈ wsX7_user := fun w h => List.mem_cons_of_mem _ (List.mem_append_right _ h)
  have hk85 := hts (.fieldLink RX7 85 "InoderyModel" "user" "I") (by decide +kernel)
  subst hsz
  have hD := hD0.self (sz := s.heap.size)
  generalize hAe : va_A ((wX7 cI cZ a0 u0)) s.heap.size = A at hD ⊢
  have hA : ∀ q : Nat, s.heap.size ≤ q → A q := fun q h => by rw [← hAe]; exact Or.inr h
  have hS : va_S A s.heap s.heap [] := va_S.rf
  have hDD : ∀ w0 : S1, va_D A ((wX7 cI cZ a0 w0)) := fun _ => D_same (w := (wX7 cI cZ a0 u0)) rfl hD
  refine Wq (fun Q hQ => ?_)
  refine W_entry hav (Nat.le_of_ble_eq_true rfl) (fun ls hl => ?_)
  have hl : lv_has ls 3 [(0, .ref (a0 0)), (1, .int p1)] := hl
  unfold f_X7_user at hf
  refine W_heap hP hS (fun H locs hP hS => ?_)
  refine lv_aload_n hx hb dX7_user_0 rfl (lv_at hl 0 rfl) ?_
  refine lv_iload_n hx hb dX7_user_1 rfl (lv_at hl 1 rfl) ?_
  obtain ⟨z_1, hz_1, hf⟩ := bn_some hf
  refine c0S (As := [.int p1]) (rest := [.ref (a0 0)]) ⟨hx, hb, hml, hown, hts⟩ (c_X7_isUser l D cI cZ cJ cT p1 z_1 hz_1) (va_cwS 1 hts gX7_user_X7_isUser rfl rfl rfl (by decide +kernel) ⟨Nat.le_of_ble_eq_true rfl, Nat.le_of_ble_eq_true rfl⟩) rfl rfl hl.1 (Nat.le_of_ble_eq_true rfl) dX7_user_2 ⟨Nat.le_of_ble_eq_true rfl, Nat.le_of_ble_eq_true rfl⟩ ?_
  obtain ⟨k13_2, hk13_2, hf⟩ := jn_some hf
  have j13_2 : ∀ (v13_2_0 : Int32) (H : Heap) (locs : List Loc) (ls : Array Slot), k13_2 v13_2_0 = some o → va_P D cls (wX7 cI cZ a0 u0) H → va_S A s.heap H locs → lv_has ls 3 [(0, .ref (a0 0)), (1, .int p1)] → W p l e (headSpec wsX7_user rmX7_user).room s m args below meth c H locs 0 0 Q (F0 m 13 ls [.int v13_2_0, .ref (a0 0)]) := by
    intro v13_2_0 H locs ls hf hP hS hl
    have hf := qa1 hk13_2 hf
    obtain ⟨z_3, hz_3, hf⟩ := bn_some hf
    refine cWVi (As := [.int v13_2_0]) (rest := []) ⟨hx, hb, hml, hown, hts⟩ (c_X7_can l D cI cZ cJ cT a0 H.size u0 v13_2_0 z_3 hz_3) (cwV 1 hts gX7_user_X7_can rfl rfl rfl (by decide +kernel) ⟨Nat.le_of_ble_eq_true rfl, Nat.le_of_ble_eq_true rfl⟩) hP hK (hDD u0) hS (own_free (hDD u0) hS hA) (va_recv hK hP (ci := 7) (q0 := 0) rfl rfl) rfl rfl hl.1 (Nat.le_of_ble_eq_true rfl) dX7_user_13 ⟨Nat.le_of_ble_eq_true rfl, Nat.le_of_ble_eq_true rfl⟩ (fun H1 locs hP1 hk1 hS => ?_)
    have hP : va_P D cls (wX7 cI cZ a0 z_3.2) H1 := hP1
    clear hP1 hk1
    generalize H1 = H at hP hS ⊢
    refine lv_if_ne (tgt := 21) hx hb dX7_user_16 (by decide) (fun c_4 => ?_) (fun c_4 => ?_)
    · have hf := ite_f hf c_4
      refine lv_aload_n hx hb dX7_user_21 rfl (lv_at hl 0 rfl) ?_
      refine va_get (D := D) (ci := 7) (v := .int (z_3.2 7 0)) (C := RX7) (T := TX7) (N := 19) hx hb hts i7 hown hK hP 0 rfl rfl 7 (by decide) hk85 (fun _ h9 => h9) rfl dX7_user_22 ?_
      refine lv_istore_n (lv' := [(2, .int (z_3.2 7 0)), (0, .ref (a0 0)), (1, .int p1)]) hx hb dX7_user_25 rfl hl (by decide) rfl (fun ls hl => ?_)
      refine lv_aload_n hx hb dX7_user_26 rfl (lv_at hl 1 rfl) ?_
      refine lv_iload_n hx hb dX7_user_27 rfl (lv_at hl 2 rfl) ?_
      obtain ⟨u_5, hu_5, hf⟩ := bv_some hf
      refine va_put (D := D) (ci := 7) (v := .int p1) (ty := .int) (C := RX7) (T := TX7) (N := 19) hx hb hts i7 tyX7 tyX7_ok nmX7 hown hK hP (hDD z_3.2) hS 0 rfl rfl 7 (by decide) hk85 (fun _ h9 => h9) rfl (by decide +kernel) rfl rfl (Nat.le_of_ble_eq_true rfl) dX7_user_28 (fun H locs hP _ hS => ?_)
      have hP : va_P D cls (wX7 cI cZ a0 u_5) H := by rw [hu_5]; exact hP
      refine lv_iload_n hx hb dX7_user_31 rfl (lv_at hl 0 rfl) ?_
      have eo := Option.some.inj hf
      have hP : va_P D cls (wX7 cI cZ a0 o.2) H := by rw [← eo]; exact hP
      rw [hQ]
      exact W.iret hx hb hr (fun t ht hW => ⟨⟨_, (), rfl, congrArg Prod.fst eo, P_at ht hP⟩, hS.F ht⟩) hS.2.2 dX7_user_32 hlocks
    · have hf := ite_t hf c_4
      refine lv_iconst (v := 0) hx hb dX7_user_19 (by decide) ?_
      have eo := Option.some.inj hf
      have hP : va_P D cls (wX7 cI cZ a0 o.2) H := by rw [← eo]; exact hP
      rw [hQ]
      exact W.iret hx hb hr (fun t ht hW => ⟨⟨_, (), rfl, congrArg Prod.fst eo, P_at ht hP⟩, hS.F ht⟩) hS.2.2 dX7_user_20 hlocks
  refine lv_if_eq (tgt := 12) hx hb dX7_user_5 (by decide) (fun c_6 => ?_) (fun c_6 => ?_)
  · have hf := ite_t hf c_6
    refine lv_iconst (v := 1) hx hb dX7_user_12 (by decide) ?_
    exact j13_2 _ _ _ _ hf hP hS (lv_sub hl [0, 1] rfl)
  · have hf := ite_f hf c_6
    refine lv_iconst (v := 0) hx hb dX7_user_8 (by decide) ?_
    refine lv_goto (tgt := 13) hx hb dX7_user_9 (by decide) ?_
    exact j13_2 _ _ _ _ hf hP hS (lv_sub hl [0, 1] rfl)
set_option maxRecDepth 20000 in
theorem ggX7_lowest_X7_isThing : GoodIn wsX7_lowest wsX7_isThing := goodIn_r _ [5, 6, 7, 8, 4, 9, 10, 11, 12, 13, 14, 15, 16, 17, 18, 19, 20, 21, 22, 23, 24, 25, 26, 27, 28, 29, 30, 31, 32, 33, 34, 35] (by decide +kernel) (by decide +kernel)
set_option maxRecDepth 20000 in
theorem gX7_lowest_X7_isThing : GoodIn wsX7_lowest (wsV RX7 143 RX7 yX7_isThing wsX7_isThing) := goodIn_app (goodIn_of _ (by decide +kernel)) ggX7_lowest_X7_isThing
theorem dX7_lowest_0 : decode cX7_lowest 0 = .ok (.iconst 0, 1) := by decide +kernel
theorem dX7_lowest_1 : decode cX7_lowest 1 = .ok (.istore_n 1, 1) := by decide +kernel
theorem dX7_lowest_2 : decode cX7_lowest 2 = .ok (.iload_n 1, 1) := by decide +kernel
theorem dX7_lowest_3 : decode cX7_lowest 3 = .ok (.bipush 32, 2) := by decide +kernel
theorem dX7_lowest_5 : decode cX7_lowest 5 = .ok (.if_icmp .ge 17, 3) := by decide +kernel
theorem dX7_lowest_8 : decode cX7_lowest 8 = .ok (.aload_n 0, 1) := by decide +kernel
theorem dX7_lowest_9 : decode cX7_lowest 9 = .ok (.iload_n 1, 1) := by decide +kernel
theorem dX7_lowest_10 : decode cX7_lowest 10 = .ok (.invokevirtual 143, 3) := by decide +kernel
theorem dX7_lowest_13 : decode cX7_lowest 13 = .ok (.ifCond .eq 9, 3) := by decide +kernel
theorem dX7_lowest_16 : decode cX7_lowest 16 = .ok (.iinc 1 1, 3) := by decide +kernel
theorem dX7_lowest_19 : decode cX7_lowest 19 = .ok (.goto (-17), 3) := by decide +kernel
theorem dX7_lowest_22 : decode cX7_lowest 22 = .ok (.iload_n 1, 1) := by decide +kernel
theorem dX7_lowest_23 : decode cX7_lowest 23 = .ok (.ireturn, 1) := by decide +kernel
def f_X7_lowest (u0 : S1) : Option (Int32) := qj1 (fun (r2_1 : Int32 → Option (Int32)) (y2_1_1 : Int32) => jn (some y2_1_1) (fun k22_2 => if 32 ≤ y2_1_1 then k22_2 else bn (f_X7_isThing u0 y2_1_1) (fun z_4 => if z_4 = 0 then k22_2 else r2_1 (y2_1_1 + 1)))) (fun k2_1 => k2_1 0)
def rmX7_lowest : Room := { frames := 3, cells := 0, slots := 0, locals := 65 }
set_option maxHeartbeats 4000000 in
set_option maxRecDepth 100000 in
theorem c_X7_lowest (l : Launch) (D : va_G) (cI cZ cJ cT : ClassId) (a0 : Nat → Nat) (u0 : S1) (o : Int32) (hf : f_X7_lowest u0 = some o) : Met l yX7_lowest wsX7_lowest rmX7_lowest (va_Pc [.ref (a0 0)] (PR D cls (tys cI cZ cJ cT) ((wX7 cI cZ a0 u0)))) (QR o) 0 0 (fun _ => False) := by
  refine Met.ofW (cc := cX7_lowest) (maxL := 2) (ret := (some .int)) (by decide) rfl ?_
  intro p e s m args below meth c s₁ B hml hv
  obtain ⟨hav, hP, hK⟩ := hv
  have hx := B.exec
  have hb := B.bytes
  have hr := B.returns
  have hlocks := B.notSynchronized
  have hts := atoms_spec (ws := wsX7_lowest) B.pre
  have hown : s.vm.findClass RX7 = some m.cls := findClass_of_methodNamed B.named
  refine Wq (fun Q hQ => ?_)
  refine W_entry hav (Nat.le_of_ble_eq_true rfl) (fun ls hl => ?_)
  have hl : lv_has ls 2 [(0, .ref (a0 0))] := hl
  unfold f_X7_lowest at hf
  refine lv_iconst (v := 0) hx hb dX7_lowest_0 (by decide) ?_
  refine lv_istore_n (lv' := [(1, .int 0), (0, .ref (a0 0))]) hx hb dX7_lowest_1 rfl hl (by decide) rfl (fun ls hl => ?_)
  obtain ⟨G2_1, hG2_1, hf⟩ := qj1_some hf
  have j2_1 : ∀ (n : Nat) (y2_1_1 : Int32) (ls : Array Slot), ql1 G2_1 n y2_1_1 = some o → lv_has ls 2 [(0, .ref (a0 0)), (1, .int y2_1_1)] → W p l e (headSpec wsX7_lowest rmX7_lowest).room s m args below meth c s.heap [] 0 0 Q (F0 m 2 ls []) := by
    intro n
    induction n with
    | zero => intro y2_1_1 ls hf hl; exact (ql1_z hf).elim
    | succ n ih2_1 =>
      intro y2_1_1 ls hf hl
      have hf := ql1_s hG2_1 hf
      obtain ⟨r2_1, hr2_1⟩ : ∃ z, z = ql1 G2_1 n := ⟨_, rfl⟩
      rw [← hr2_1] at hf ih2_1
      refine lv_iload_n hx hb dX7_lowest_2 rfl (lv_at hl 1 rfl) ?_
      refine lv_bipush (v := 32) hx hb dX7_lowest_3 (by decide) ?_
      obtain ⟨k22_2, hk22_2, hf⟩ := jn_some hf
      have j22_2 : ∀ (ls : Array Slot), k22_2 = some o → lv_has ls 2 [(1, .int y2_1_1)] → W p l e (headSpec wsX7_lowest rmX7_lowest).room s m args below meth c s.heap [] 0 0 Q (F0 m 22 ls []) := by
        intro ls hf hl
        have hf := qa0 hk22_2 hf
        refine lv_iload_n hx hb dX7_lowest_22 rfl (lv_at hl 0 rfl) ?_
        rw [hQ]
        exact W.iret hx hb hr (fun t ht hW => ⟨_, rfl, Option.some.inj hf, ht⟩) (fun _ h => nomatch h) dX7_lowest_23 hlocks
      refine lv_icmp_ge (tgt := 22) hx hb dX7_lowest_5 (by decide) (fun c_3 => ?_) (fun c_3 => ?_)
      · have hf := ite_t hf c_3
        exact j22_2 _ hf (lv_sub hl [1] rfl)
      · have hf := ite_f hf c_3
        refine lv_aload_n hx hb dX7_lowest_8 rfl (lv_at hl 0 rfl) ?_
        refine lv_iload_n hx hb dX7_lowest_9 rfl (lv_at hl 1 rfl) ?_
        obtain ⟨z_4, hz_4, hf⟩ := bn_some hf
        refine cRV (As := [.int y2_1_1]) (rest := []) ⟨hx, hb, hml, hown, hts⟩ (c_X7_isThing l D cI cZ cJ cT a0 u0 y2_1_1 z_4 hz_4) (cwV 1 hts gX7_lowest_X7_isThing rfl rfl rfl (by decide +kernel) ⟨Nat.le_of_ble_eq_true rfl, Nat.le_of_ble_eq_true rfl⟩) hP hK (va_recv hK hP (ci := 7) (q0 := 0) rfl rfl) rfl rfl hl.1 (Nat.le_of_ble_eq_true rfl) dX7_lowest_10 ⟨Nat.le_of_ble_eq_true rfl, Nat.le_of_ble_eq_true rfl⟩ ?_
        refine lv_if_eq (tgt := 22) hx hb dX7_lowest_13 (by decide) (fun c_5 => ?_) (fun c_5 => ?_)
        · have hf := ite_t hf c_5
          exact j22_2 _ hf (lv_sub hl [1] rfl)
        · have hf := ite_f hf c_5
          refine lv_iinc (v := y2_1_1 + 1) (lv' := [(1, .int (y2_1_1 + 1)), (0, .ref (a0 0))]) hx hb dX7_lowest_16 hl (k := 1) rfl rfl (by decide) rfl (fun ls hl => ?_)
          refine lv_goto (tgt := 2) hx hb dX7_lowest_19 (by decide) ?_
          exact ih2_1 _ _ hf (lv_sub hl [1, 0] rfl)
  exact j2_1 4096 _ _ hf (lv_sub hl [1, 0] rfl)
set_option maxRecDepth 20000 in
theorem ggX7_canEnter_X7_entries : GoodIn wsX7_canEnter wsX7_entries := goodIn_r _ [13, 6, 7, 8, 4, 9, 23, 24, 25, 26, 27, 28, 29, 30, 31, 32, 33, 34, 35, 36, 37, 38, 39, 40, 41] (by decide +kernel) (by decide +kernel)
set_option maxRecDepth 20000 in
theorem gX7_canEnter_X7_entries : GoodIn wsX7_canEnter (wsV RX7 109 RX7 yX7_entries wsX7_entries) := goodIn_app (goodIn_of _ (by decide +kernel)) ggX7_canEnter_X7_entries
set_option maxRecDepth 20000 in
theorem ggX7_canEnter_X7_mayChange : GoodIn wsX7_canEnter wsX7_mayChange := goodIn_r _ [17, 18, 19, 20, 4, 21, 6, 22, 7, 8, 9, 23, 24, 25, 26, 27, 28, 29, 30, 31, 32, 33, 34, 35, 36, 37, 38, 39, 40, 41] (by decide +kernel) (by decide +kernel)
set_option maxRecDepth 20000 in
theorem gX7_canEnter_X7_mayChange : GoodIn wsX7_canEnter (wsV RX7 146 RX7 yX7_mayChange wsX7_mayChange) := goodIn_app (goodIn_of _ (by decide +kernel)) ggX7_canEnter_X7_mayChange
set_option maxRecDepth 20000 in
theorem ggX7_canEnter_X7_placeOf : GoodIn wsX7_canEnter wsX7_placeOf := goodIn_r _ [5, 6, 7, 8, 4, 9, 23, 24, 25, 26, 27, 28, 29, 30, 31, 32, 33, 34, 35, 36, 37, 38, 39, 40, 41] (by decide +kernel) (by decide +kernel)
set_option maxRecDepth 20000 in
theorem gX7_canEnter_X7_placeOf : GoodIn wsX7_canEnter (wsV RX7 105 RX7 yX7_placeOf wsX7_placeOf) := goodIn_app (goodIn_of _ (by decide +kernel)) ggX7_canEnter_X7_placeOf
theorem dX7_canEnter_0 : decode cX7_canEnter 0 = .ok (.aload_n 0, 1) := by decide +kernel
theorem dX7_canEnter_1 : decode cX7_canEnter 1 = .ok (.iconst 0, 1) := by decide +kernel
theorem dX7_canEnter_2 : decode cX7_canEnter 2 = .ok (.iload_n 1, 1) := by decide +kernel
theorem dX7_canEnter_3 : decode cX7_canEnter 3 = .ok (.iload_n 2, 1) := by decide +kernel
theorem dX7_canEnter_4 : decode cX7_canEnter 4 = .ok (.invokevirtual 105, 3) := by decide +kernel
theorem dX7_canEnter_7 : decode cX7_canEnter 7 = .ok (.iconst (-1), 1) := by decide +kernel
theorem dX7_canEnter_8 : decode cX7_canEnter 8 = .ok (.if_icmp .ne 26, 3) := by decide +kernel
theorem dX7_canEnter_11 : decode cX7_canEnter 11 = .ok (.aload_n 0, 1) := by decide +kernel
theorem dX7_canEnter_12 : decode cX7_canEnter 12 = .ok (.iconst 0, 1) := by decide +kernel
theorem dX7_canEnter_13 : decode cX7_canEnter 13 = .ok (.iload_n 1, 1) := by decide +kernel
theorem dX7_canEnter_14 : decode cX7_canEnter 14 = .ok (.invokevirtual 109, 3) := by decide +kernel
theorem dX7_canEnter_17 : decode cX7_canEnter 17 = .ok (.bipush 8, 2) := by decide +kernel
theorem dX7_canEnter_19 : decode cX7_canEnter 19 = .ok (.if_icmp .ge 15, 3) := by decide +kernel
theorem dX7_canEnter_22 : decode cX7_canEnter 22 = .ok (.aload_n 0, 1) := by decide +kernel
theorem dX7_canEnter_23 : decode cX7_canEnter 23 = .ok (.iload_n 1, 1) := by decide +kernel
theorem dX7_canEnter_24 : decode cX7_canEnter 24 = .ok (.invokevirtual 146, 3) := by decide +kernel
theorem dX7_canEnter_27 : decode cX7_canEnter 27 = .ok (.ifCond .eq 7, 3) := by decide +kernel
theorem dX7_canEnter_30 : decode cX7_canEnter 30 = .ok (.iconst 1, 1) := by decide +kernel
theorem dX7_canEnter_31 : decode cX7_canEnter 31 = .ok (.goto 4, 3) := by decide +kernel
theorem dX7_canEnter_34 : decode cX7_canEnter 34 = .ok (.iconst 0, 1) := by decide +kernel
theorem dX7_canEnter_35 : decode cX7_canEnter 35 = .ok (.ireturn, 1) := by decide +kernel
def f_X7_canEnter (u0 : S1) (p1 : Int32) (p2 : Int32) : Option (Int32) := bn (f_X7_placeOf u0 0 p1 p2) (fun z_1 => jn (fun (v35_2_0 : Int32) => some (vp_nar .boolean v35_2_0)) (fun k35_2 => jn (k35_2 0) (fun k34_3 => if z_1 = (-1) then bn (f_X7_entries u0 0 p1) (fun z_5 => if 8 ≤ z_5 then k34_3 else bn (f_X7_mayChange u0 p1) (fun z_7 => if z_7 = 0 then k34_3 else k35_2 1)) else k34_3)))
def rmX7_canEnter : Room := { frames := 3, cells := 0, slots := 0, locals := 66 }
set_option maxHeartbeats 4000000 in
set_option maxRecDepth 100000 in
theorem c_X7_canEnter (l : Launch) (D : va_G) (cI cZ cJ cT : ClassId) (a0 : Nat → Nat) (u0 : S1) (p1 : Int32) (p2 : Int32) (o : Int32) (hf : f_X7_canEnter u0 p1 p2 = some o) : Met l yX7_canEnter wsX7_canEnter rmX7_canEnter (va_Pc [.ref (a0 0), .int p1, .int p2] (PR D cls (tys cI cZ cJ cT) ((wX7 cI cZ a0 u0)))) (QR o) 0 0 (fun _ => False) := by
  refine Met.ofW (cc := cX7_canEnter) (maxL := 3) (ret := (some .boolean)) (by decide) rfl ?_
  intro p e s m args below meth c s₁ B hml hv
  obtain ⟨hav, hP, hK⟩ := hv
  have hx := B.exec
  have hb := B.bytes
  have hr := B.returns
  have hlocks := B.notSynchronized
  have hts := atoms_spec (ws := wsX7_canEnter) B.pre
  have hown : s.vm.findClass RX7 = some m.cls := findClass_of_methodNamed B.named
  refine Wq (fun Q hQ => ?_)
  refine W_entry hav (Nat.le_of_ble_eq_true rfl) (fun ls hl => ?_)
  have hl : lv_has ls 3 [(0, .ref (a0 0)), (1, .int p1), (2, .int p2)] := hl
  unfold f_X7_canEnter at hf
  refine lv_aload_n hx hb dX7_canEnter_0 rfl (lv_at hl 0 rfl) ?_
  refine lv_iconst (v := 0) hx hb dX7_canEnter_1 (by decide) ?_
  refine lv_iload_n hx hb dX7_canEnter_2 rfl (lv_at hl 1 rfl) ?_
  refine lv_iload_n hx hb dX7_canEnter_3 rfl (lv_at hl 2 rfl) ?_
  obtain ⟨z_1, hz_1, hf⟩ := bn_some hf
  refine cRV (As := [.int 0, .int p1, .int p2]) (rest := []) ⟨hx, hb, hml, hown, hts⟩ (c_X7_placeOf l D cI cZ cJ cT a0 u0 0 p1 p2 z_1 hz_1) (cwV 3 hts gX7_canEnter_X7_placeOf rfl rfl rfl (by decide +kernel) ⟨Nat.le_of_ble_eq_true rfl, Nat.le_of_ble_eq_true rfl⟩) hP hK (va_recv hK hP (ci := 7) (q0 := 0) rfl rfl) rfl rfl hl.1 (Nat.le_of_ble_eq_true rfl) dX7_canEnter_4 ⟨Nat.le_of_ble_eq_true rfl, Nat.le_of_ble_eq_true rfl⟩ ?_
  refine lv_iconst (v := (-1)) hx hb dX7_canEnter_7 (by decide) ?_
  obtain ⟨k35_2, hk35_2, hf⟩ := jn_some hf
  have j35_2 : ∀ (v35_2_0 : Int32) (ls : Array Slot), k35_2 v35_2_0 = some o → lv_has ls 3 [] → W p l e (headSpec wsX7_canEnter rmX7_canEnter).room s m args below meth c s.heap [] 0 0 Q (F0 m 35 ls [.int v35_2_0]) := by
    intro v35_2_0 ls hf hl
    have hf := qa1 hk35_2 hf
    rw [hQ]
    exact zretN (v := v35_2_0) (v' := vp_nar .boolean v35_2_0) hx hb hr rfl (fun t ht hW => ⟨_, rfl, Option.some.inj hf, ht⟩) (fun _ h => nomatch h) dX7_canEnter_35 hlocks
  obtain ⟨k34_3, hk34_3, hf⟩ := jn_some hf
  have j34_3 : ∀ (ls : Array Slot), k34_3 = some o → lv_has ls 3 [] → W p l e (headSpec wsX7_canEnter rmX7_canEnter).room s m args below meth c s.heap [] 0 0 Q (F0 m 34 ls []) := by
    intro ls hf hl
    have hf := qa0 hk34_3 hf
    refine lv_iconst (v := 0) hx hb dX7_canEnter_34 (by decide) ?_
    exact j35_2 _ _ hf (lv_sub hl [] rfl)
  refine lv_icmp_ne (tgt := 34) hx hb dX7_canEnter_8 (by decide) (fun c_4 => ?_) (fun c_4 => ?_)
  · have hf := ite_f hf c_4
    exact j34_3 _ hf (lv_sub hl [] rfl)
  · have hf := ite_t hf c_4
    refine lv_aload_n hx hb dX7_canEnter_11 rfl (lv_at hl 0 rfl) ?_
    refine lv_iconst (v := 0) hx hb dX7_canEnter_12 (by decide) ?_
    refine lv_iload_n hx hb dX7_canEnter_13 rfl (lv_at hl 1 rfl) ?_
    obtain ⟨z_5, hz_5, hf⟩ := bn_some hf
    refine cRV (As := [.int 0, .int p1]) (rest := []) ⟨hx, hb, hml, hown, hts⟩ (c_X7_entries l D cI cZ cJ cT a0 u0 0 p1 z_5 hz_5) (cwV 2 hts gX7_canEnter_X7_entries rfl rfl rfl (by decide +kernel) ⟨Nat.le_of_ble_eq_true rfl, Nat.le_of_ble_eq_true rfl⟩) hP hK (va_recv hK hP (ci := 7) (q0 := 0) rfl rfl) rfl rfl hl.1 (Nat.le_of_ble_eq_true rfl) dX7_canEnter_14 ⟨Nat.le_of_ble_eq_true rfl, Nat.le_of_ble_eq_true rfl⟩ ?_
    refine lv_bipush (v := 8) hx hb dX7_canEnter_17 (by decide) ?_
    refine lv_icmp_ge (tgt := 34) hx hb dX7_canEnter_19 (by decide) (fun c_6 => ?_) (fun c_6 => ?_)
    · have hf := ite_t hf c_6
      exact j34_3 _ hf (lv_sub hl [] rfl)
    · have hf := ite_f hf c_6
      refine lv_aload_n hx hb dX7_canEnter_22 rfl (lv_at hl 0 rfl) ?_
      refine lv_iload_n hx hb dX7_canEnter_23 rfl (lv_at hl 1 rfl) ?_
      obtain ⟨z_7, hz_7, hf⟩ := bn_some hf
      refine cRV (As := [.int p1]) (rest := []) ⟨hx, hb, hml, hown, hts⟩ (c_X7_mayChange l D cI cZ cJ cT a0 u0 p1 z_7 hz_7) (cwV 1 hts gX7_canEnter_X7_mayChange rfl rfl rfl (by decide +kernel) ⟨Nat.le_of_ble_eq_true rfl, Nat.le_of_ble_eq_true rfl⟩) hP hK (va_recv hK hP (ci := 7) (q0 := 0) rfl rfl) rfl rfl hl.1 (Nat.le_of_ble_eq_true rfl) dX7_canEnter_24 ⟨Nat.le_of_ble_eq_true rfl, Nat.le_of_ble_eq_true rfl⟩ ?_
      refine lv_if_eq (tgt := 34) hx hb dX7_canEnter_27 (by decide) (fun c_8 => ?_) (fun c_8 => ?_)
      · have hf := ite_t hf c_8
        exact j34_3 _ hf (lv_sub hl [] rfl)
      · have hf := ite_f hf c_8
        refine lv_iconst (v := 1) hx hb dX7_canEnter_30 (by decide) ?_
        refine lv_goto (tgt := 35) hx hb dX7_canEnter_31 (by decide) ?_
        exact j35_2 _ _ hf (lv_sub hl [] rfl)
set_option maxRecDepth 20000 in
theorem ggX7_begins_X7_can : GoodIn wsX7_begins wsX7_can := goodIn_r _ [73, 74, 84, 85, 86, 87, 88, 89, 90, 91, 92, 93, 94, 95, 96, 97, 98, 99, 100, 101, 102] (by decide +kernel) (by decide +kernel)
set_option maxRecDepth 20000 in
theorem gX7_begins_X7_can : GoodIn wsX7_begins (wsV RX7 140 RX7 yX7_can wsX7_can) := goodIn_app (goodIn_of _ (by decide +kernel)) ggX7_begins_X7_can
set_option maxRecDepth 20000 in
theorem ggX7_begins_X7_canEnter : GoodIn wsX7_begins wsX7_canEnter := goodIn_r _ [44, 33, 34, 35, 3, 36, 21, 26, 27, 28, 45, 46, 47, 48, 49, 50, 51, 52, 53, 54, 55, 56, 57, 84, 85, 86, 87, 88, 89, 90, 91, 92, 93, 94, 95, 96, 97, 98, 99, 100, 101, 102] (by decide +kernel) (by decide +kernel)
set_option maxRecDepth 20000 in
theorem gX7_begins_X7_canEnter : GoodIn wsX7_begins (wsV RX7 155 RX7 yX7_canEnter wsX7_canEnter) := goodIn_app (goodIn_of _ (by decide +kernel)) ggX7_begins_X7_canEnter
set_option maxRecDepth 20000 in
theorem ggX7_begins_X7_enters : GoodIn wsX7_begins wsX7_enters := goodIn_r _ [83, 21, 26, 27, 3, 28, 45, 46, 47, 48, 84, 85, 86, 87, 88, 89, 90, 91, 92, 93, 94, 95, 96, 97, 98, 99, 100, 101, 102] (by decide +kernel) (by decide +kernel)
set_option maxRecDepth 20000 in
theorem gX7_begins_X7_enters : GoodIn wsX7_begins (wsV RX7 162 RX7 yX7_enters wsX7_enters) := goodIn_app (goodIn_of _ (by decide +kernel)) ggX7_begins_X7_enters
set_option maxRecDepth 20000 in
theorem ggX7_begins_X7_folderOf : GoodIn wsX7_begins wsX7_folderOf := goodIn_r _ [12, 13, 14, 15, 3, 16, 17, 18, 19, 20, 21, 22, 23, 24, 25, 26, 27, 28, 29, 30, 31, 32, 33, 34, 35, 36, 37, 38, 39, 40, 84, 85, 86, 87, 88, 89, 90, 91, 92, 93, 94, 95, 96, 97, 98, 99, 100, 101, 102] (by decide +kernel) (by decide +kernel)
set_option maxRecDepth 20000 in
theorem gX7_begins_X7_folderOf : GoodIn wsX7_begins (wsV RX7 152 RX7 yX7_folderOf wsX7_folderOf) := goodIn_app (goodIn_of _ (by decide +kernel)) ggX7_begins_X7_folderOf
set_option maxRecDepth 20000 in
theorem ggX7_begins_X7_isPath : GoodIn wsX7_begins wsX7_isPath := goodIn_r _ [4, 5, 6, 7, 3, 8] (by decide +kernel) (by decide +kernel)
set_option maxRecDepth 20000 in
theorem gX7_begins_X7_isPath : GoodIn wsX7_begins (va_wsS RX7 149 yX7_isPath wsX7_isPath) := goodIn_app (goodIn_of _ (by decide +kernel)) ggX7_begins_X7_isPath
set_option maxRecDepth 20000 in
theorem ggX7_begins_X7_lowest : GoodIn wsX7_begins wsX7_lowest := goodIn_r _ [61, 62, 63, 64, 3, 65, 66, 67, 68, 69, 21, 6, 7, 8, 26, 27, 28, 84, 85, 86, 87, 88, 89, 90, 91, 92, 93, 94, 95, 96, 97, 98, 99, 100, 101, 102] (by decide +kernel) (by decide +kernel)
set_option maxRecDepth 20000 in
theorem gX7_begins_X7_lowest : GoodIn wsX7_begins (wsV RX7 158 RX7 yX7_lowest wsX7_lowest) := goodIn_app (goodIn_of _ (by decide +kernel)) ggX7_begins_X7_lowest
set_option maxRecDepth 20000 in
theorem ggX7_begins_X7_makes : GoodIn wsX7_begins wsX7_makes := goodIn_r _ [78, 21, 57, 79, 26, 27, 3, 28, 84, 85, 86, 87, 88, 89, 90, 91, 92, 93, 94, 95, 96, 97, 98, 99, 100, 101, 102] (by decide +kernel) (by decide +kernel)
set_option maxRecDepth 20000 in
theorem gX7_begins_X7_makes : GoodIn wsX7_begins (wsV RX7 50 RX7 yX7_makes wsX7_makes) := goodIn_app (goodIn_of _ (by decide +kernel)) ggX7_begins_X7_makes
theorem dX7_begins_0 : decode cX7_begins 0 = .ok (.iload_n 1, 1) := by decide +kernel
theorem dX7_begins_1 : decode cX7_begins 1 = .ok (.invokestatic 149, 3) := by decide +kernel
theorem dX7_begins_4 : decode cX7_begins 4 = .ok (.ifCond .eq 11, 3) := by decide +kernel
theorem dX7_begins_7 : decode cX7_begins 7 = .ok (.aload_n 0, 1) := by decide +kernel
theorem dX7_begins_8 : decode cX7_begins 8 = .ok (.iload_n 1, 1) := by decide +kernel
theorem dX7_begins_9 : decode cX7_begins 9 = .ok (.invokevirtual 152, 3) := by decide +kernel
theorem dX7_begins_12 : decode cX7_begins 12 = .ok (.goto 4, 3) := by decide +kernel
theorem dX7_begins_15 : decode cX7_begins 15 = .ok (.iconst (-1), 1) := by decide +kernel
theorem dX7_begins_16 : decode cX7_begins 16 = .ok (.istore 6, 2) := by decide +kernel
theorem dX7_begins_18 : decode cX7_begins 18 = .ok (.iload 6, 2) := by decide +kernel
theorem dX7_begins_20 : decode cX7_begins 20 = .ok (.iconst (-1), 1) := by decide +kernel
theorem dX7_begins_21 : decode cX7_begins 21 = .ok (.if_icmp .eq 29, 3) := by decide +kernel
theorem dX7_begins_24 : decode cX7_begins 24 = .ok (.aload_n 0, 1) := by decide +kernel
theorem dX7_begins_25 : decode cX7_begins 25 = .ok (.iload 6, 2) := by decide +kernel
theorem dX7_begins_27 : decode cX7_begins 27 = .ok (.iload_n 1, 1) := by decide +kernel
theorem dX7_begins_28 : decode cX7_begins 28 = .ok (.bipush 100, 2) := by decide +kernel
theorem dX7_begins_30 : decode cX7_begins 30 = .ok (.irem, 1) := by decide +kernel
theorem dX7_begins_31 : decode cX7_begins 31 = .ok (.invokevirtual 155, 3) := by decide +kernel
theorem dX7_begins_34 : decode cX7_begins 34 = .ok (.ifCond .eq 16, 3) := by decide +kernel
theorem dX7_begins_37 : decode cX7_begins 37 = .ok (.aload_n 0, 1) := by decide +kernel
theorem dX7_begins_38 : decode cX7_begins 38 = .ok (.invokevirtual 158, 3) := by decide +kernel
theorem dX7_begins_41 : decode cX7_begins 41 = .ok (.bipush 32, 2) := by decide +kernel
theorem dX7_begins_43 : decode cX7_begins 43 = .ok (.if_icmp .ge 7, 3) := by decide +kernel
theorem dX7_begins_46 : decode cX7_begins 46 = .ok (.iconst 1, 1) := by decide +kernel
theorem dX7_begins_47 : decode cX7_begins 47 = .ok (.goto 4, 3) := by decide +kernel
theorem dX7_begins_50 : decode cX7_begins 50 = .ok (.iconst 0, 1) := by decide +kernel
theorem dX7_begins_51 : decode cX7_begins 51 = .ok (.istore 7, 2) := by decide +kernel
theorem dX7_begins_53 : decode cX7_begins 53 = .ok (.aload_n 0, 1) := by decide +kernel
theorem dX7_begins_54 : decode cX7_begins 54 = .ok (.iload_n 1, 1) := by decide +kernel
theorem dX7_begins_55 : decode cX7_begins 55 = .ok (.invokestatic 149, 3) := by decide +kernel
theorem dX7_begins_58 : decode cX7_begins 58 = .ok (.ifCond .eq 8, 3) := by decide +kernel
theorem dX7_begins_61 : decode cX7_begins 61 = .ok (.iload 5, 2) := by decide +kernel
theorem dX7_begins_63 : decode cX7_begins 63 = .ok (.ifCond .ne 7, 3) := by decide +kernel
theorem dX7_begins_66 : decode cX7_begins 66 = .ok (.iconst 1, 1) := by decide +kernel
theorem dX7_begins_67 : decode cX7_begins 67 = .ok (.goto 23, 3) := by decide +kernel
theorem dX7_begins_70 : decode cX7_begins 70 = .ok (.iload 6, 2) := by decide +kernel
theorem dX7_begins_72 : decode cX7_begins 72 = .ok (.iconst (-1), 1) := by decide +kernel
theorem dX7_begins_73 : decode cX7_begins 73 = .ok (.if_icmp .ne 7, 3) := by decide +kernel
theorem dX7_begins_76 : decode cX7_begins 76 = .ok (.iconst 2, 1) := by decide +kernel
theorem dX7_begins_77 : decode cX7_begins 77 = .ok (.goto 13, 3) := by decide +kernel
theorem dX7_begins_80 : decode cX7_begins 80 = .ok (.iload 7, 2) := by decide +kernel
theorem dX7_begins_82 : decode cX7_begins 82 = .ok (.ifCond .eq 7, 3) := by decide +kernel
theorem dX7_begins_85 : decode cX7_begins 85 = .ok (.iconst 0, 1) := by decide +kernel
theorem dX7_begins_86 : decode cX7_begins 86 = .ok (.goto 4, 3) := by decide +kernel
theorem dX7_begins_89 : decode cX7_begins 89 = .ok (.iconst 3, 1) := by decide +kernel
theorem dX7_begins_90 : decode cX7_begins 90 = .ok (.invokevirtual 140, 3) := by decide +kernel
theorem dX7_begins_93 : decode cX7_begins 93 = .ok (.ifCond .ne 5, 3) := by decide +kernel
theorem dX7_begins_96 : decode cX7_begins 96 = .ok (.iconst 0, 1) := by decide +kernel
theorem dX7_begins_97 : decode cX7_begins 97 = .ok (.ireturn, 1) := by decide +kernel
theorem dX7_begins_98 : decode cX7_begins 98 = .ok (.aload_n 0, 1) := by decide +kernel
theorem dX7_begins_99 : decode cX7_begins 99 = .ok (.invokevirtual 158, 3) := by decide +kernel
theorem dX7_begins_102 : decode cX7_begins 102 = .ok (.istore 8, 2) := by decide +kernel
theorem dX7_begins_104 : decode cX7_begins 104 = .ok (.aload_n 0, 1) := by decide +kernel
theorem dX7_begins_105 : decode cX7_begins 105 = .ok (.iload 8, 2) := by decide +kernel
theorem dX7_begins_107 : decode cX7_begins 107 = .ok (.iload_n 2, 1) := by decide +kernel
theorem dX7_begins_108 : decode cX7_begins 108 = .ok (.iload_n 3, 1) := by decide +kernel
theorem dX7_begins_109 : decode cX7_begins 109 = .ok (.iload 4, 2) := by decide +kernel
theorem dX7_begins_111 : decode cX7_begins 111 = .ok (.invokevirtual 50, 3) := by decide +kernel
theorem dX7_begins_114 : decode cX7_begins 114 = .ok (.aload_n 0, 1) := by decide +kernel
theorem dX7_begins_115 : decode cX7_begins 115 = .ok (.iload 6, 2) := by decide +kernel
theorem dX7_begins_117 : decode cX7_begins 117 = .ok (.iload_n 1, 1) := by decide +kernel
theorem dX7_begins_118 : decode cX7_begins 118 = .ok (.bipush 100, 2) := by decide +kernel
theorem dX7_begins_120 : decode cX7_begins 120 = .ok (.irem, 1) := by decide +kernel
theorem dX7_begins_121 : decode cX7_begins 121 = .ok (.iload 8, 2) := by decide +kernel
theorem dX7_begins_123 : decode cX7_begins 123 = .ok (.invokevirtual 162, 3) := by decide +kernel
theorem dX7_begins_126 : decode cX7_begins 126 = .ok (.iload 8, 2) := by decide +kernel
theorem dX7_begins_128 : decode cX7_begins 128 = .ok (.ireturn, 1) := by decide +kernel
def f_X7_begins (u0 : S1) (p1 : Int32) (p2 : Int32) (p3 : Int32) (p4 : Int32) (p5 : Int32) : Option (Int32 × S1) := bn (f_X7_isPath p1) (fun z_1 => jn (fun (v16_2_0 : Int32) (u16_2_0 : S1) => jn (fun (v51_3_0 : Int32) => bn (f_X7_isPath p1) (fun z_4 => jn (fun (v90_5_0 : Int32) => bn (f_X7_can u16_2_0 v90_5_0) (fun z_6 => if z_6.1 = 0 then some (0, z_6.2) else bn (f_X7_lowest z_6.2) (fun z_8 => bn (f_X7_makes z_6.2 z_8 p2 p3 p4) (fun z_9 => bn (f_X7_enters z_9 v16_2_0 (p1 - p1 / 100 * 100) z_8) (fun z_10 => some (z_8, z_10)))))) (fun k90_5 => jn (k90_5 1) (fun k66_11 => if z_4 = 0 then k66_11 else if p5 = 0 then k66_11 else if v16_2_0 = (-1) then k90_5 2 else if v51_3_0 = 0 then k90_5 3 else k90_5 0)))) (fun k51_3 => jn (k51_3 0) (fun k50_16 => if v16_2_0 = (-1) then k50_16 else bn (f_X7_canEnter u16_2_0 v16_2_0 (p1 - p1 / 100 * 100)) (fun z_18 => if z_18 = 0 then k50_16 else bn (f_X7_lowest u16_2_0) (fun z_20 => if 32 ≤ z_20 then k50_16 else k51_3 1))))) (fun k16_2 => if z_1 = 0 then k16_2 (-1) u0 else bn (f_X7_folderOf u0 p1) (fun z_23 => k16_2 z_23.1 z_23.2)))
def rmX7_begins : Room := { frames := 5, cells := 0, slots := 0, locals := 117 }
set_option maxHeartbeats 4000000 in
set_option maxRecDepth 100000 in
theorem c_X7_begins (l : Launch) (D : va_G) (cI cZ cJ cT : ClassId) (a0 : Nat → Nat) (sz : Nat) (u0 : S1) (p1 : Int32) (p2 : Int32) (p3 : Int32) (p4 : Int32) (p5 : Int32) (o : Int32 × S1) (hf : f_X7_begins u0 p1 p2 p3 p4 p5 = some o) : Met l yX7_begins wsX7_begins rmX7_begins (va_Pc [.ref (a0 0), .int p1, .int p2, .int p3, .int p4, .int p5] (PW D cls (tys cI cZ cJ cT) ((wX7 cI cZ a0 u0)) sz)) (QWi D cls o.1 ((wX7 cI cZ a0 o.2)) (va_A ((wX7 cI cZ a0 u0)) sz)) 0 0 (va_A ((wX7 cI cZ a0 u0)) sz) := by
  refine Met.ofW (cc := cX7_begins) (maxL := 9) (ret := (some .int)) (by decide) rfl ?_
  intro p e s m args below meth c s₁ B hml hv
  obtain ⟨hav, hsz, hP, hK, hD0⟩ := hv
  have hx := B.exec
  have hb := B.bytes
  have hr := B.returns
  have hlocks := B.notSynchronized
  have hts := atoms_spec (ws := wsX7_begins) B.pre
  have hown : s.vm.findClass RX7 = some m.cls := findClass_of_methodNamed B.named
  subst hsz
  have hD := hD0.self (sz := s.heap.size)
  generalize hAe : va_A ((wX7 cI cZ a0 u0)) s.heap.size = A at hD ⊢
  have hA : ∀ q : Nat, s.heap.size ≤ q → A q := fun q h => by rw [← hAe]; exact Or.inr h
  have hS : va_S A s.heap s.heap [] := va_S.rf
  have hDD : ∀ w0 : S1, va_D A ((wX7 cI cZ a0 w0)) := fun _ => D_same (w := (wX7 cI cZ a0 u0)) rfl hD
  refine Wq (fun Q hQ => ?_)
  refine W_entry hav (Nat.le_of_ble_eq_true rfl) (fun ls hl => ?_)
  have hl : lv_has ls 9 [(0, .ref (a0 0)), (1, .int p1), (2, .int p2), (3, .int p3), (4, .int p4), (5, .int p5)] := hl
  unfold f_X7_begins at hf
  refine W_heap hP hS (fun H locs hP hS => ?_)
  refine lv_iload_n hx hb dX7_begins_0 rfl (lv_at hl 1 rfl) ?_
  obtain ⟨z_1, hz_1, hf⟩ := bn_some hf
  refine c0S (As := [.int p1]) (rest := []) ⟨hx, hb, hml, hown, hts⟩ (c_X7_isPath l D cI cZ cJ cT p1 z_1 hz_1) (va_cwS 1 hts gX7_begins_X7_isPath rfl rfl rfl (by decide +kernel) ⟨Nat.le_of_ble_eq_true rfl, Nat.le_of_ble_eq_true rfl⟩) rfl rfl hl.1 (Nat.le_of_ble_eq_true rfl) dX7_begins_1 ⟨Nat.le_of_ble_eq_true rfl, Nat.le_of_ble_eq_true rfl⟩ ?_
  obtain ⟨k16_2, hk16_2, hf⟩ := jn_some hf
  have j16_2 : ∀ (v16_2_0 : Int32) (u16_2_0 : S1) (H : Heap) (locs : List Loc) (ls : Array Slot), k16_2 v16_2_0 u16_2_0 = some o → va_P D cls (wX7 cI cZ a0 u16_2_0) H → va_S A s.heap H locs → lv_has ls 9 [(0, .ref (a0 0)), (1, .int p1), (2, .int p2), (3, .int p3), (4, .int p4), (5, .int p5)] → W p l e (headSpec wsX7_begins rmX7_begins).room s m args below meth c H locs 0 0 Q (F0 m 16 ls [.int v16_2_0]) := by
    intro v16_2_0 u16_2_0 H locs ls hf hP hS hl
    have hf := qa2 hk16_2 hf
    refine lv_istore (lv' := [(6, .int v16_2_0), (0, .ref (a0 0)), (1, .int p1), (2, .int p2), (3, .int p3), (4, .int p4), (5, .int p5)]) hx hb dX7_begins_16 hl (by decide) rfl (fun ls hl => ?_)
    refine lv_iload hx hb dX7_begins_18 (lv_at hl 0 rfl) ?_
    refine lv_iconst (v := (-1)) hx hb dX7_begins_20 (by decide) ?_
    obtain ⟨k51_3, hk51_3, hf⟩ := jn_some hf
    have j51_3 : ∀ (v51_3_0 : Int32) (H : Heap) (locs : List Loc) (ls : Array Slot), k51_3 v51_3_0 = some o → va_P D cls (wX7 cI cZ a0 u16_2_0) H → va_S A s.heap H locs → lv_has ls 9 [(0, .ref (a0 0)), (1, .int p1), (2, .int p2), (3, .int p3), (4, .int p4), (5, .int p5), (6, .int v16_2_0)] → W p l e (headSpec wsX7_begins rmX7_begins).room s m args below meth c H locs 0 0 Q (F0 m 51 ls [.int v51_3_0]) := by
      intro v51_3_0 H locs ls hf hP hS hl
      have hf := qa1 hk51_3 hf
      refine lv_istore (lv' := [(7, .int v51_3_0), (0, .ref (a0 0)), (1, .int p1), (2, .int p2), (3, .int p3), (4, .int p4), (5, .int p5), (6, .int v16_2_0)]) hx hb dX7_begins_51 hl (by decide) rfl (fun ls hl => ?_)
      refine lv_aload_n hx hb dX7_begins_53 rfl (lv_at hl 1 rfl) ?_
      refine lv_iload_n hx hb dX7_begins_54 rfl (lv_at hl 2 rfl) ?_
      obtain ⟨z_4, hz_4, hf⟩ := bn_some hf
      refine c0S (As := [.int p1]) (rest := [.ref (a0 0)]) ⟨hx, hb, hml, hown, hts⟩ (c_X7_isPath l D cI cZ cJ cT p1 z_4 hz_4) (va_cwS 1 hts gX7_begins_X7_isPath rfl rfl rfl (by decide +kernel) ⟨Nat.le_of_ble_eq_true rfl, Nat.le_of_ble_eq_true rfl⟩) rfl rfl hl.1 (Nat.le_of_ble_eq_true rfl) dX7_begins_55 ⟨Nat.le_of_ble_eq_true rfl, Nat.le_of_ble_eq_true rfl⟩ ?_
      obtain ⟨k90_5, hk90_5, hf⟩ := jn_some hf
      have j90_5 : ∀ (v90_5_0 : Int32) (H : Heap) (locs : List Loc) (ls : Array Slot), k90_5 v90_5_0 = some o → va_P D cls (wX7 cI cZ a0 u16_2_0) H → va_S A s.heap H locs → lv_has ls 9 [(0, .ref (a0 0)), (1, .int p1), (2, .int p2), (3, .int p3), (4, .int p4), (6, .int v16_2_0)] → W p l e (headSpec wsX7_begins rmX7_begins).room s m args below meth c H locs 0 0 Q (F0 m 90 ls [.int v90_5_0, .ref (a0 0)]) := by
        intro v90_5_0 H locs ls hf hP hS hl
        have hf := qa1 hk90_5 hf
        obtain ⟨z_6, hz_6, hf⟩ := bn_some hf
        refine cWVi (As := [.int v90_5_0]) (rest := []) ⟨hx, hb, hml, hown, hts⟩ (c_X7_can l D cI cZ cJ cT a0 H.size u16_2_0 v90_5_0 z_6 hz_6) (cwV 1 hts gX7_begins_X7_can rfl rfl rfl (by decide +kernel) ⟨Nat.le_of_ble_eq_true rfl, Nat.le_of_ble_eq_true rfl⟩) hP hK (hDD u16_2_0) hS (own_free (hDD u16_2_0) hS hA) (va_recv hK hP (ci := 7) (q0 := 0) rfl rfl) rfl rfl hl.1 (Nat.le_of_ble_eq_true rfl) dX7_begins_90 ⟨Nat.le_of_ble_eq_true rfl, Nat.le_of_ble_eq_true rfl⟩ (fun H1 locs hP1 hk1 hS => ?_)
        have hP : va_P D cls (wX7 cI cZ a0 z_6.2) H1 := hP1
        clear hP1 hk1
        generalize H1 = H at hP hS ⊢
        refine lv_if_ne (tgt := 98) hx hb dX7_begins_93 (by decide) (fun c_7 => ?_) (fun c_7 => ?_)
        · have hf := ite_f hf c_7
          refine lv_aload_n hx hb dX7_begins_98 rfl (lv_at hl 0 rfl) ?_
          obtain ⟨z_8, hz_8, hf⟩ := bn_some hf
          refine cRV (As := []) (rest := []) ⟨hx, hb, hml, hown, hts⟩ (c_X7_lowest l D cI cZ cJ cT a0 z_6.2 z_8 hz_8) (cwV 0 hts gX7_begins_X7_lowest rfl rfl rfl (by decide +kernel) ⟨Nat.le_of_ble_eq_true rfl, Nat.le_of_ble_eq_true rfl⟩) hP hK (va_recv hK hP (ci := 7) (q0 := 0) rfl rfl) rfl rfl hl.1 (Nat.le_of_ble_eq_true rfl) dX7_begins_99 ⟨Nat.le_of_ble_eq_true rfl, Nat.le_of_ble_eq_true rfl⟩ ?_
          refine lv_istore (lv' := [(8, .int z_8), (0, .ref (a0 0)), (1, .int p1), (2, .int p2), (3, .int p3), (4, .int p4), (6, .int v16_2_0)]) hx hb dX7_begins_102 hl (by decide) rfl (fun ls hl => ?_)
          refine lv_aload_n hx hb dX7_begins_104 rfl (lv_at hl 1 rfl) ?_
          refine lv_iload hx hb dX7_begins_105 (lv_at hl 0 rfl) ?_
          refine lv_iload_n hx hb dX7_begins_107 rfl (lv_at hl 3 rfl) ?_
          refine lv_iload_n hx hb dX7_begins_108 rfl (lv_at hl 4 rfl) ?_
          refine lv_iload hx hb dX7_begins_109 (lv_at hl 5 rfl) ?_
          obtain ⟨z_9, hz_9, hf⟩ := bn_some hf
          refine cWVv (As := [.int z_8, .int p2, .int p3, .int p4]) (rest := []) ⟨hx, hb, hml, hown, hts⟩ (c_X7_makes l D cI cZ cJ cT a0 H.size z_6.2 z_8 p2 p3 p4 z_9 hz_9) (cwV 4 hts gX7_begins_X7_makes rfl rfl rfl (by decide +kernel) ⟨Nat.le_of_ble_eq_true rfl, Nat.le_of_ble_eq_true rfl⟩) hP hK (hDD z_6.2) hS (own_free (hDD z_6.2) hS hA) (va_recv hK hP (ci := 7) (q0 := 0) rfl rfl) rfl rfl hl.1 (Nat.le_of_ble_eq_true rfl) dX7_begins_111 ⟨Nat.le_of_ble_eq_true rfl, Nat.le_of_ble_eq_true rfl⟩ (fun H1 locs hP1 hk1 hS => ?_)
          have hP : va_P D cls (wX7 cI cZ a0 z_9) H1 := hP1
          clear hP1 hk1
          generalize H1 = H at hP hS ⊢
          refine lv_aload_n hx hb dX7_begins_114 rfl (lv_at hl 1 rfl) ?_
          refine lv_iload hx hb dX7_begins_115 (lv_at hl 6 rfl) ?_
          refine lv_iload_n hx hb dX7_begins_117 rfl (lv_at hl 2 rfl) ?_
          refine lv_bipush (v := 100) hx hb dX7_begins_118 (by decide) ?_
          refine lv_irem hx hb dX7_begins_120 (by decide) ?_
          refine lv_iload hx hb dX7_begins_121 (lv_at hl 0 rfl) ?_
          obtain ⟨z_10, hz_10, hf⟩ := bn_some hf
          refine cWVv (As := [.int v16_2_0, .int (p1 - p1 / 100 * 100), .int z_8]) (rest := []) ⟨hx, hb, hml, hown, hts⟩ (c_X7_enters l D cI cZ cJ cT a0 H.size z_9 v16_2_0 (p1 - p1 / 100 * 100) z_8 z_10 hz_10) (cwV 3 hts gX7_begins_X7_enters rfl rfl rfl (by decide +kernel) ⟨Nat.le_of_ble_eq_true rfl, Nat.le_of_ble_eq_true rfl⟩) hP hK (hDD z_9) hS (own_free (hDD z_9) hS hA) (va_recv hK hP (ci := 7) (q0 := 0) rfl rfl) rfl rfl hl.1 (Nat.le_of_ble_eq_true rfl) dX7_begins_123 ⟨Nat.le_of_ble_eq_true rfl, Nat.le_of_ble_eq_true rfl⟩ (fun H1 locs hP1 hk1 hS => ?_)
          have hP : va_P D cls (wX7 cI cZ a0 z_10) H1 := hP1
          clear hP1 hk1
          generalize H1 = H at hP hS ⊢
          refine lv_iload hx hb dX7_begins_126 (lv_at hl 0 rfl) ?_
          have eo := Option.some.inj hf
          have hP : va_P D cls (wX7 cI cZ a0 o.2) H := by rw [← eo]; exact hP
          rw [hQ]
          exact W.iret hx hb hr (fun t ht hW => ⟨⟨_, (), rfl, congrArg Prod.fst eo, P_at ht hP⟩, hS.F ht⟩) hS.2.2 dX7_begins_128 hlocks
        · have hf := ite_t hf c_7
          refine lv_iconst (v := 0) hx hb dX7_begins_96 (by decide) ?_
          have eo := Option.some.inj hf
          have hP : va_P D cls (wX7 cI cZ a0 o.2) H := by rw [← eo]; exact hP
          rw [hQ]
          exact W.iret hx hb hr (fun t ht hW => ⟨⟨_, (), rfl, congrArg Prod.fst eo, P_at ht hP⟩, hS.F ht⟩) hS.2.2 dX7_begins_97 hlocks
      obtain ⟨k66_11, hk66_11, hf⟩ := jn_some hf
      have j66_11 : ∀ (H : Heap) (locs : List Loc) (ls : Array Slot), k66_11 = some o → va_P D cls (wX7 cI cZ a0 u16_2_0) H → va_S A s.heap H locs → lv_has ls 9 [(0, .ref (a0 0)), (1, .int p1), (2, .int p2), (3, .int p3), (4, .int p4), (6, .int v16_2_0)] → W p l e (headSpec wsX7_begins rmX7_begins).room s m args below meth c H locs 0 0 Q (F0 m 66 ls [.ref (a0 0)]) := by
        intro H locs ls hf hP hS hl
        have hf := qa0 hk66_11 hf
        refine lv_iconst (v := 1) hx hb dX7_begins_66 (by decide) ?_
        refine lv_goto (tgt := 90) hx hb dX7_begins_67 (by decide) ?_
        exact j90_5 _ _ _ _ hf hP hS (lv_sub hl [0, 1, 2, 3, 4, 5] rfl)
      refine lv_if_eq (tgt := 66) hx hb dX7_begins_58 (by decide) (fun c_12 => ?_) (fun c_12 => ?_)
      · have hf := ite_t hf c_12
        exact j66_11 _ _ _ hf hP hS (lv_sub hl [1, 2, 3, 4, 5, 7] rfl)
      · have hf := ite_f hf c_12
        refine lv_iload hx hb dX7_begins_61 (lv_at hl 6 rfl) ?_
        refine lv_if_ne (tgt := 70) hx hb dX7_begins_63 (by decide) (fun c_13 => ?_) (fun c_13 => ?_)
        · have hf := ite_f hf c_13
          refine lv_iload hx hb dX7_begins_70 (lv_at hl 7 rfl) ?_
          refine lv_iconst (v := (-1)) hx hb dX7_begins_72 (by decide) ?_
          refine lv_icmp_ne (tgt := 80) hx hb dX7_begins_73 (by decide) (fun c_14 => ?_) (fun c_14 => ?_)
          · have hf := ite_f hf c_14
            refine lv_iload hx hb dX7_begins_80 (lv_at hl 0 rfl) ?_
            refine lv_if_eq (tgt := 89) hx hb dX7_begins_82 (by decide) (fun c_15 => ?_) (fun c_15 => ?_)
            · have hf := ite_t hf c_15
              refine lv_iconst (v := 3) hx hb dX7_begins_89 (by decide) ?_
              exact j90_5 _ _ _ _ hf hP hS (lv_sub hl [1, 2, 3, 4, 5, 7] rfl)
            · have hf := ite_f hf c_15
              refine lv_iconst (v := 0) hx hb dX7_begins_85 (by decide) ?_
              refine lv_goto (tgt := 90) hx hb dX7_begins_86 (by decide) ?_
              exact j90_5 _ _ _ _ hf hP hS (lv_sub hl [1, 2, 3, 4, 5, 7] rfl)
          · have hf := ite_t hf c_14
            refine lv_iconst (v := 2) hx hb dX7_begins_76 (by decide) ?_
            refine lv_goto (tgt := 90) hx hb dX7_begins_77 (by decide) ?_
            exact j90_5 _ _ _ _ hf hP hS (lv_sub hl [1, 2, 3, 4, 5, 7] rfl)
        · have hf := ite_t hf c_13
          exact j66_11 _ _ _ hf hP hS (lv_sub hl [1, 2, 3, 4, 5, 7] rfl)
    obtain ⟨k50_16, hk50_16, hf⟩ := jn_some hf
    have j50_16 : ∀ (H : Heap) (locs : List Loc) (ls : Array Slot), k50_16 = some o → va_P D cls (wX7 cI cZ a0 u16_2_0) H → va_S A s.heap H locs → lv_has ls 9 [(0, .ref (a0 0)), (1, .int p1), (2, .int p2), (3, .int p3), (4, .int p4), (5, .int p5), (6, .int v16_2_0)] → W p l e (headSpec wsX7_begins rmX7_begins).room s m args below meth c H locs 0 0 Q (F0 m 50 ls []) := by
      intro H locs ls hf hP hS hl
      have hf := qa0 hk50_16 hf
      refine lv_iconst (v := 0) hx hb dX7_begins_50 (by decide) ?_
      exact j51_3 _ _ _ _ hf hP hS (lv_sub hl [0, 1, 2, 3, 4, 5, 6] rfl)
    refine lv_icmp_eq (tgt := 50) hx hb dX7_begins_21 (by decide) (fun c_17 => ?_) (fun c_17 => ?_)
    · have hf := ite_t hf c_17
      exact j50_16 _ _ _ hf hP hS (lv_sub hl [1, 2, 3, 4, 5, 6, 0] rfl)
    · have hf := ite_f hf c_17
      refine lv_aload_n hx hb dX7_begins_24 rfl (lv_at hl 1 rfl) ?_
      refine lv_iload hx hb dX7_begins_25 (lv_at hl 0 rfl) ?_
      refine lv_iload_n hx hb dX7_begins_27 rfl (lv_at hl 2 rfl) ?_
      refine lv_bipush (v := 100) hx hb dX7_begins_28 (by decide) ?_
      refine lv_irem hx hb dX7_begins_30 (by decide) ?_
      obtain ⟨z_18, hz_18, hf⟩ := bn_some hf
      refine cRV (As := [.int v16_2_0, .int (p1 - p1 / 100 * 100)]) (rest := []) ⟨hx, hb, hml, hown, hts⟩ (c_X7_canEnter l D cI cZ cJ cT a0 u16_2_0 v16_2_0 (p1 - p1 / 100 * 100) z_18 hz_18) (cwV 2 hts gX7_begins_X7_canEnter rfl rfl rfl (by decide +kernel) ⟨Nat.le_of_ble_eq_true rfl, Nat.le_of_ble_eq_true rfl⟩) hP hK (va_recv hK hP (ci := 7) (q0 := 0) rfl rfl) rfl rfl hl.1 (Nat.le_of_ble_eq_true rfl) dX7_begins_31 ⟨Nat.le_of_ble_eq_true rfl, Nat.le_of_ble_eq_true rfl⟩ ?_
      refine lv_if_eq (tgt := 50) hx hb dX7_begins_34 (by decide) (fun c_19 => ?_) (fun c_19 => ?_)
      · have hf := ite_t hf c_19
        exact j50_16 _ _ _ hf hP hS (lv_sub hl [1, 2, 3, 4, 5, 6, 0] rfl)
      · have hf := ite_f hf c_19
        refine lv_aload_n hx hb dX7_begins_37 rfl (lv_at hl 1 rfl) ?_
        obtain ⟨z_20, hz_20, hf⟩ := bn_some hf
        refine cRV (As := []) (rest := []) ⟨hx, hb, hml, hown, hts⟩ (c_X7_lowest l D cI cZ cJ cT a0 u16_2_0 z_20 hz_20) (cwV 0 hts gX7_begins_X7_lowest rfl rfl rfl (by decide +kernel) ⟨Nat.le_of_ble_eq_true rfl, Nat.le_of_ble_eq_true rfl⟩) hP hK (va_recv hK hP (ci := 7) (q0 := 0) rfl rfl) rfl rfl hl.1 (Nat.le_of_ble_eq_true rfl) dX7_begins_38 ⟨Nat.le_of_ble_eq_true rfl, Nat.le_of_ble_eq_true rfl⟩ ?_
        refine lv_bipush (v := 32) hx hb dX7_begins_41 (by decide) ?_
        refine lv_icmp_ge (tgt := 50) hx hb dX7_begins_43 (by decide) (fun c_21 => ?_) (fun c_21 => ?_)
        · have hf := ite_t hf c_21
          exact j50_16 _ _ _ hf hP hS (lv_sub hl [1, 2, 3, 4, 5, 6, 0] rfl)
        · have hf := ite_f hf c_21
          refine lv_iconst (v := 1) hx hb dX7_begins_46 (by decide) ?_
          refine lv_goto (tgt := 51) hx hb dX7_begins_47 (by decide) ?_
          exact j51_3 _ _ _ _ hf hP hS (lv_sub hl [1, 2, 3, 4, 5, 6, 0] rfl)
  refine lv_if_eq (tgt := 15) hx hb dX7_begins_4 (by decide) (fun c_22 => ?_) (fun c_22 => ?_)
  · have hf := ite_t hf c_22
    refine lv_iconst (v := (-1)) hx hb dX7_begins_15 (by decide) ?_
    exact j16_2 _ _ _ _ _ hf hP hS (lv_sub hl [0, 1, 2, 3, 4, 5] rfl)
  · have hf := ite_f hf c_22
    refine lv_aload_n hx hb dX7_begins_7 rfl (lv_at hl 0 rfl) ?_
    refine lv_iload_n hx hb dX7_begins_8 rfl (lv_at hl 1 rfl) ?_
    obtain ⟨z_23, hz_23, hf⟩ := bn_some hf
    refine cWVi (As := [.int p1]) (rest := []) ⟨hx, hb, hml, hown, hts⟩ (c_X7_folderOf l D cI cZ cJ cT a0 H.size u0 p1 z_23 hz_23) (cwV 1 hts gX7_begins_X7_folderOf rfl rfl rfl (by decide +kernel) ⟨Nat.le_of_ble_eq_true rfl, Nat.le_of_ble_eq_true rfl⟩) hP hK (hDD u0) hS (own_free (hDD u0) hS hA) (va_recv hK hP (ci := 7) (q0 := 0) rfl rfl) rfl rfl hl.1 (Nat.le_of_ble_eq_true rfl) dX7_begins_9 ⟨Nat.le_of_ble_eq_true rfl, Nat.le_of_ble_eq_true rfl⟩ (fun H1 locs hP1 hk1 hS => ?_)
    have hP : va_P D cls (wX7 cI cZ a0 z_23.2) H1 := hP1
    clear hP1 hk1
    generalize H1 = H at hP hS ⊢
    refine lv_goto (tgt := 16) hx hb dX7_begins_12 (by decide) ?_
    exact j16_2 _ _ _ _ _ hf hP hS (lv_sub hl [0, 1, 2, 3, 4, 5] rfl)
set_option maxRecDepth 20000 in
theorem ggX7_file_X7_areRights : GoodIn wsX7_file wsX7_areRights := goodIn_r _ [4, 5, 6, 3, 7] (by decide +kernel) (by decide +kernel)
set_option maxRecDepth 20000 in
theorem gX7_file_X7_areRights : GoodIn wsX7_file (va_wsS RX7 166 yX7_areRights wsX7_areRights) := goodIn_app (goodIn_of _ (by decide +kernel)) ggX7_file_X7_areRights
set_option maxRecDepth 20000 in
theorem ggX7_file_X7_begins : GoodIn wsX7_file wsX7_begins := goodIn_r _ [11, 12, 13, 3, 14, 15, 5, 6, 7, 16, 17, 18, 19, 20, 21, 22, 23, 24, 25, 26, 27, 28, 29, 30, 31, 32, 33, 34, 35, 36, 37, 38, 39, 40, 41, 42, 43, 44, 45, 46, 47, 48, 49, 50, 51, 52, 53, 54, 55, 56, 57, 58, 59, 60, 61, 62, 63, 64, 65, 66, 67, 68, 69, 70, 71, 72, 73, 74, 75, 76, 77, 78, 79, 80, 81, 82, 83, 84, 85, 86, 87, 88, 89, 90, 91, 92, 93, 94, 95, 96, 97, 98, 99, 100, 101, 102, 103, 104, 105, 106, 107, 108, 109] (by decide +kernel) (by decide +kernel)
set_option maxRecDepth 20000 in
theorem gX7_file_X7_begins : GoodIn wsX7_file (wsV RX7 169 RX7 yX7_begins wsX7_begins) := goodIn_app (goodIn_of _ (by decide +kernel)) ggX7_file_X7_begins
theorem dX7_file_0 : decode cX7_file 0 = .ok (.aload_n 0, 1) := by decide +kernel
theorem dX7_file_1 : decode cX7_file 1 = .ok (.iload_n 1, 1) := by decide +kernel
theorem dX7_file_2 : decode cX7_file 2 = .ok (.iconst 0, 1) := by decide +kernel
theorem dX7_file_3 : decode cX7_file 3 = .ok (.iload_n 2, 1) := by decide +kernel
theorem dX7_file_4 : decode cX7_file 4 = .ok (.iconst (-1), 1) := by decide +kernel
theorem dX7_file_5 : decode cX7_file 5 = .ok (.iload_n 2, 1) := by decide +kernel
theorem dX7_file_6 : decode cX7_file 6 = .ok (.invokestatic 166, 3) := by decide +kernel
theorem dX7_file_9 : decode cX7_file 9 = .ok (.invokevirtual 169, 3) := by decide +kernel
theorem dX7_file_12 : decode cX7_file 12 = .ok (.ireturn, 1) := by decide +kernel
def f_X7_file (u0 : S1) (p1 : Int32) (p2 : Int32) : Option (Int32 × S1) := bn (f_X7_areRights p2) (fun z_1 => bn (f_X7_begins u0 p1 0 p2 (-1) z_1) (fun z_2 => some (z_2.1, z_2.2)))
def rmX7_file : Room := { frames := 6, cells := 0, slots := 0, locals := 145 }
set_option maxHeartbeats 4000000 in
set_option maxRecDepth 100000 in
theorem c_X7_file (l : Launch) (D : va_G) (cI cZ cJ cT : ClassId) (a0 : Nat → Nat) (sz : Nat) (u0 : S1) (p1 : Int32) (p2 : Int32) (o : Int32 × S1) (hf : f_X7_file u0 p1 p2 = some o) : Met l yX7_file wsX7_file rmX7_file (va_Pc [.ref (a0 0), .int p1, .int p2] (PW D cls (tys cI cZ cJ cT) ((wX7 cI cZ a0 u0)) sz)) (QWi D cls o.1 ((wX7 cI cZ a0 o.2)) (va_A ((wX7 cI cZ a0 u0)) sz)) 0 0 (va_A ((wX7 cI cZ a0 u0)) sz) := by
  refine Met.ofW (cc := cX7_file) (maxL := 3) (ret := (some .int)) (by decide) rfl ?_
  intro p e s m args below meth c s₁ B hml hv
  obtain ⟨hav, hsz, hP, hK, hD0⟩ := hv
  have hx := B.exec
  have hb := B.bytes
  have hr := B.returns
  have hlocks := B.notSynchronized
  have hts := atoms_spec (ws := wsX7_file) B.pre
  have hown : s.vm.findClass RX7 = some m.cls := findClass_of_methodNamed B.named
  subst hsz
  have hD := hD0.self (sz := s.heap.size)
  generalize hAe : va_A ((wX7 cI cZ a0 u0)) s.heap.size = A at hD ⊢
  have hA : ∀ q : Nat, s.heap.size ≤ q → A q := fun q h => by rw [← hAe]; exact Or.inr h
  have hS : va_S A s.heap s.heap [] := va_S.rf
  have hDD : ∀ w0 : S1, va_D A ((wX7 cI cZ a0 w0)) := fun _ => D_same (w := (wX7 cI cZ a0 u0)) rfl hD
  refine Wq (fun Q hQ => ?_)
  refine W_entry hav (Nat.le_of_ble_eq_true rfl) (fun ls hl => ?_)
  have hl : lv_has ls 3 [(0, .ref (a0 0)), (1, .int p1), (2, .int p2)] := hl
  unfold f_X7_file at hf
  refine W_heap hP hS (fun H locs hP hS => ?_)
  refine lv_aload_n hx hb dX7_file_0 rfl (lv_at hl 0 rfl) ?_
  refine lv_iload_n hx hb dX7_file_1 rfl (lv_at hl 1 rfl) ?_
  refine lv_iconst (v := 0) hx hb dX7_file_2 (by decide) ?_
  refine lv_iload_n hx hb dX7_file_3 rfl (lv_at hl 2 rfl) ?_
  refine lv_iconst (v := (-1)) hx hb dX7_file_4 (by decide) ?_
  refine lv_iload_n hx hb dX7_file_5 rfl (lv_at hl 2 rfl) ?_
  obtain ⟨z_1, hz_1, hf⟩ := bn_some hf
  refine c0S (As := [.int p2]) (rest := [.int (-1), .int p2, .int 0, .int p1, .ref (a0 0)]) ⟨hx, hb, hml, hown, hts⟩ (c_X7_areRights l D cI cZ cJ cT p2 z_1 hz_1) (va_cwS 1 hts gX7_file_X7_areRights rfl rfl rfl (by decide +kernel) ⟨Nat.le_of_ble_eq_true rfl, Nat.le_of_ble_eq_true rfl⟩) rfl rfl hl.1 (Nat.le_of_ble_eq_true rfl) dX7_file_6 ⟨Nat.le_of_ble_eq_true rfl, Nat.le_of_ble_eq_true rfl⟩ ?_
  obtain ⟨z_2, hz_2, hf⟩ := bn_some hf
  refine cWVi (As := [.int p1, .int 0, .int p2, .int (-1), .int z_1]) (rest := []) ⟨hx, hb, hml, hown, hts⟩ (c_X7_begins l D cI cZ cJ cT a0 H.size u0 p1 0 p2 (-1) z_1 z_2 hz_2) (cwV 5 hts gX7_file_X7_begins rfl rfl rfl (by decide +kernel) ⟨Nat.le_of_ble_eq_true rfl, Nat.le_of_ble_eq_true rfl⟩) hP hK (hDD u0) hS (own_free (hDD u0) hS hA) (va_recv hK hP (ci := 7) (q0 := 0) rfl rfl) rfl rfl hl.1 (Nat.le_of_ble_eq_true rfl) dX7_file_9 ⟨Nat.le_of_ble_eq_true rfl, Nat.le_of_ble_eq_true rfl⟩ (fun H1 locs hP1 hk1 hS => ?_)
  have hP : va_P D cls (wX7 cI cZ a0 z_2.2) H1 := hP1
  clear hP1 hk1
  generalize H1 = H at hP hS ⊢
  have eo := Option.some.inj hf
  have hP : va_P D cls (wX7 cI cZ a0 o.2) H := by rw [← eo]; exact hP
  rw [hQ]
  exact W.iret hx hb hr (fun t ht hW => ⟨⟨_, (), rfl, (by rw [← eo]), P_at ht hP⟩, hS.F ht⟩) hS.2.2 dX7_file_12 hlocks
set_option maxRecDepth 20000 in
theorem ggX7_folder_X7_areRights : GoodIn wsX7_folder wsX7_areRights := goodIn_r _ [4, 5, 6, 3, 7] (by decide +kernel) (by decide +kernel)
set_option maxRecDepth 20000 in
theorem gX7_folder_X7_areRights : GoodIn wsX7_folder (va_wsS RX7 166 yX7_areRights wsX7_areRights) := goodIn_app (goodIn_of _ (by decide +kernel)) ggX7_folder_X7_areRights
set_option maxRecDepth 20000 in
theorem ggX7_folder_X7_begins : GoodIn wsX7_folder wsX7_begins := goodIn_r _ [11, 12, 13, 3, 14, 15, 5, 6, 7, 16, 17, 18, 19, 20, 21, 22, 23, 24, 25, 26, 27, 28, 29, 30, 31, 32, 33, 34, 35, 36, 37, 38, 39, 40, 41, 42, 43, 44, 45, 46, 47, 48, 49, 50, 51, 52, 53, 54, 55, 56, 57, 58, 59, 60, 61, 62, 63, 64, 65, 66, 67, 68, 69, 70, 71, 72, 73, 74, 75, 76, 77, 78, 79, 80, 81, 82, 83, 84, 85, 86, 87, 88, 89, 90, 91, 92, 93, 94, 95, 96, 97, 98, 99, 100, 101, 102, 103, 104, 105, 106, 107, 108, 109] (by decide +kernel) (by decide +kernel)
set_option maxRecDepth 20000 in
theorem gX7_folder_X7_begins : GoodIn wsX7_folder (wsV RX7 169 RX7 yX7_begins wsX7_begins) := goodIn_app (goodIn_of _ (by decide +kernel)) ggX7_folder_X7_begins
theorem dX7_folder_0 : decode cX7_folder 0 = .ok (.aload_n 0, 1) := by decide +kernel
theorem dX7_folder_1 : decode cX7_folder 1 = .ok (.iload_n 1, 1) := by decide +kernel
theorem dX7_folder_2 : decode cX7_folder 2 = .ok (.iconst 1, 1) := by decide +kernel
theorem dX7_folder_3 : decode cX7_folder 3 = .ok (.iload_n 2, 1) := by decide +kernel
theorem dX7_folder_4 : decode cX7_folder 4 = .ok (.iconst (-1), 1) := by decide +kernel
theorem dX7_folder_5 : decode cX7_folder 5 = .ok (.iload_n 2, 1) := by decide +kernel
theorem dX7_folder_6 : decode cX7_folder 6 = .ok (.invokestatic 166, 3) := by decide +kernel
theorem dX7_folder_9 : decode cX7_folder 9 = .ok (.invokevirtual 169, 3) := by decide +kernel
theorem dX7_folder_12 : decode cX7_folder 12 = .ok (.ireturn, 1) := by decide +kernel
def f_X7_folder (u0 : S1) (p1 : Int32) (p2 : Int32) : Option (Int32 × S1) := bn (f_X7_areRights p2) (fun z_1 => bn (f_X7_begins u0 p1 1 p2 (-1) z_1) (fun z_2 => some (z_2.1, z_2.2)))
def rmX7_folder : Room := { frames := 6, cells := 0, slots := 0, locals := 145 }
set_option maxHeartbeats 4000000 in
set_option maxRecDepth 100000 in
theorem c_X7_folder (l : Launch) (D : va_G) (cI cZ cJ cT : ClassId) (a0 : Nat → Nat) (sz : Nat) (u0 : S1) (p1 : Int32) (p2 : Int32) (o : Int32 × S1) (hf : f_X7_folder u0 p1 p2 = some o) : Met l yX7_folder wsX7_folder rmX7_folder (va_Pc [.ref (a0 0), .int p1, .int p2] (PW D cls (tys cI cZ cJ cT) ((wX7 cI cZ a0 u0)) sz)) (QWi D cls o.1 ((wX7 cI cZ a0 o.2)) (va_A ((wX7 cI cZ a0 u0)) sz)) 0 0 (va_A ((wX7 cI cZ a0 u0)) sz) := by
  refine Met.ofW (cc := cX7_folder) (maxL := 3) (ret := (some .int)) (by decide) rfl ?_
  intro p e s m args below meth c s₁ B hml hv
  obtain ⟨hav, hsz, hP, hK, hD0⟩ := hv
  have hx := B.exec
  have hb := B.bytes
  have hr := B.returns
  have hlocks := B.notSynchronized
  have hts := atoms_spec (ws := wsX7_folder) B.pre
  have hown : s.vm.findClass RX7 = some m.cls := findClass_of_methodNamed B.named
  subst hsz
  have hD := hD0.self (sz := s.heap.size)
  generalize hAe : va_A ((wX7 cI cZ a0 u0)) s.heap.size = A at hD ⊢
  have hA : ∀ q : Nat, s.heap.size ≤ q → A q := fun q h => by rw [← hAe]; exact Or.inr h
  have hS : va_S A s.heap s.heap [] := va_S.rf
  have hDD : ∀ w0 : S1, va_D A ((wX7 cI cZ a0 w0)) := fun _ => D_same (w := (wX7 cI cZ a0 u0)) rfl hD
  refine Wq (fun Q hQ => ?_)
  refine W_entry hav (Nat.le_of_ble_eq_true rfl) (fun ls hl => ?_)
  have hl : lv_has ls 3 [(0, .ref (a0 0)), (1, .int p1), (2, .int p2)] := hl
  unfold f_X7_folder at hf
  refine W_heap hP hS (fun H locs hP hS => ?_)
  refine lv_aload_n hx hb dX7_folder_0 rfl (lv_at hl 0 rfl) ?_
  refine lv_iload_n hx hb dX7_folder_1 rfl (lv_at hl 1 rfl) ?_
  refine lv_iconst (v := 1) hx hb dX7_folder_2 (by decide) ?_
  refine lv_iload_n hx hb dX7_folder_3 rfl (lv_at hl 2 rfl) ?_
  refine lv_iconst (v := (-1)) hx hb dX7_folder_4 (by decide) ?_
  refine lv_iload_n hx hb dX7_folder_5 rfl (lv_at hl 2 rfl) ?_
  obtain ⟨z_1, hz_1, hf⟩ := bn_some hf
  refine c0S (As := [.int p2]) (rest := [.int (-1), .int p2, .int 1, .int p1, .ref (a0 0)]) ⟨hx, hb, hml, hown, hts⟩ (c_X7_areRights l D cI cZ cJ cT p2 z_1 hz_1) (va_cwS 1 hts gX7_folder_X7_areRights rfl rfl rfl (by decide +kernel) ⟨Nat.le_of_ble_eq_true rfl, Nat.le_of_ble_eq_true rfl⟩) rfl rfl hl.1 (Nat.le_of_ble_eq_true rfl) dX7_folder_6 ⟨Nat.le_of_ble_eq_true rfl, Nat.le_of_ble_eq_true rfl⟩ ?_
  obtain ⟨z_2, hz_2, hf⟩ := bn_some hf
  refine cWVi (As := [.int p1, .int 1, .int p2, .int (-1), .int z_1]) (rest := []) ⟨hx, hb, hml, hown, hts⟩ (c_X7_begins l D cI cZ cJ cT a0 H.size u0 p1 1 p2 (-1) z_1 z_2 hz_2) (cwV 5 hts gX7_folder_X7_begins rfl rfl rfl (by decide +kernel) ⟨Nat.le_of_ble_eq_true rfl, Nat.le_of_ble_eq_true rfl⟩) hP hK (hDD u0) hS (own_free (hDD u0) hS hA) (va_recv hK hP (ci := 7) (q0 := 0) rfl rfl) rfl rfl hl.1 (Nat.le_of_ble_eq_true rfl) dX7_folder_9 ⟨Nat.le_of_ble_eq_true rfl, Nat.le_of_ble_eq_true rfl⟩ (fun H1 locs hP1 hk1 hS => ?_)
  have hP : va_P D cls (wX7 cI cZ a0 z_2.2) H1 := hP1
  clear hP1 hk1
  generalize H1 = H at hP hS ⊢
  have eo := Option.some.inj hf
  have hP : va_P D cls (wX7 cI cZ a0 o.2) H := by rw [← eo]; exact hP
  rw [hQ]
  exact W.iret hx hb hr (fun t ht hW => ⟨⟨_, (), rfl, (by rw [← eo]), P_at ht hP⟩, hS.F ht⟩) hS.2.2 dX7_folder_12 hlocks
set_option maxRecDepth 20000 in
theorem ggX7_link_X7_begins : GoodIn wsX7_link wsX7_begins := goodIn_r _ [9, 10, 11, 4, 12, 1, 2, 3, 5, 13, 14, 15, 16, 17, 18, 19, 20, 21, 22, 23, 24, 25, 26, 27, 28, 29, 30, 31, 32, 33, 34, 35, 36, 37, 38, 39, 40, 41, 42, 43, 44, 45, 46, 47, 48, 49, 50, 51, 52, 53, 54, 55, 56, 57, 58, 59, 60, 61, 62, 63, 64, 65, 66, 67, 68, 69, 70, 71, 72, 73, 74, 75, 76, 77, 78, 79, 80, 81, 82, 83, 84, 85, 86, 87, 88, 89, 90, 91, 92, 93, 94, 95, 96, 97, 98, 99, 100, 101, 102, 103, 104, 105, 106] (by decide +kernel) (by decide +kernel)
set_option maxRecDepth 20000 in
theorem gX7_link_X7_begins : GoodIn wsX7_link (wsV RX7 169 RX7 yX7_begins wsX7_begins) := goodIn_app (goodIn_of _ (by decide +kernel)) ggX7_link_X7_begins
set_option maxRecDepth 20000 in
theorem ggX7_link_X7_isIn : GoodIn wsX7_link wsX7_isIn := goodIn_r _ [5] (by decide +kernel) (by decide +kernel)
set_option maxRecDepth 20000 in
theorem gX7_link_X7_isIn : GoodIn wsX7_link (va_wsS RX7 62 yX7_isIn wsX7_isIn) := goodIn_app (goodIn_of _ (by decide +kernel)) ggX7_link_X7_isIn
theorem dX7_link_0 : decode cX7_link 0 = .ok (.aload_n 0, 1) := by decide +kernel
theorem dX7_link_1 : decode cX7_link 1 = .ok (.iload_n 1, 1) := by decide +kernel
theorem dX7_link_2 : decode cX7_link 2 = .ok (.iconst 2, 1) := by decide +kernel
theorem dX7_link_3 : decode cX7_link 3 = .ok (.bipush 15, 2) := by decide +kernel
theorem dX7_link_5 : decode cX7_link 5 = .ok (.iload_n 2, 1) := by decide +kernel
theorem dX7_link_6 : decode cX7_link 6 = .ok (.iload_n 2, 1) := by decide +kernel
theorem dX7_link_7 : decode cX7_link 7 = .ok (.iconst 0, 1) := by decide +kernel
theorem dX7_link_8 : decode cX7_link 8 = .ok (.ldc 66, 2) := by decide +kernel
theorem dX7_link_10 : decode cX7_link 10 = .ok (.invokestatic 62, 3) := by decide +kernel
theorem dX7_link_13 : decode cX7_link 13 = .ok (.invokevirtual 169, 3) := by decide +kernel
theorem dX7_link_16 : decode cX7_link 16 = .ok (.ireturn, 1) := by decide +kernel
def f_X7_link (u0 : S1) (p1 : Int32) (p2 : Int32) : Option (Int32 × S1) := bn (f_X7_isIn p2 0 99999999) (fun z_1 => bn (f_X7_begins u0 p1 2 15 p2 z_1) (fun z_2 => some (z_2.1, z_2.2)))
def rmX7_link : Room := { frames := 6, cells := 0, slots := 0, locals := 145 }
set_option maxHeartbeats 4000000 in
set_option maxRecDepth 100000 in
theorem c_X7_link (l : Launch) (D : va_G) (cI cZ cJ cT : ClassId) (a0 : Nat → Nat) (sz : Nat) (u0 : S1) (p1 : Int32) (p2 : Int32) (o : Int32 × S1) (hf : f_X7_link u0 p1 p2 = some o) : Met l yX7_link wsX7_link rmX7_link (va_Pc [.ref (a0 0), .int p1, .int p2] (PW D cls (tys cI cZ cJ cT) ((wX7 cI cZ a0 u0)) sz)) (QWi D cls o.1 ((wX7 cI cZ a0 o.2)) (va_A ((wX7 cI cZ a0 u0)) sz)) 0 0 (va_A ((wX7 cI cZ a0 u0)) sz) := by
  refine Met.ofW (cc := cX7_link) (maxL := 3) (ret := (some .int)) (by decide) rfl ?_
  intro p e s m args below meth c s₁ B hml hv
  obtain ⟨hav, hsz, hP, hK, hD0⟩ := hv
  have hx := B.exec
  have hb := B.bytes
  have hr := B.returns
  have hlocks := B.notSynchronized
  have hts := atoms_spec (ws := wsX7_link) B.pre
  have hown : s.vm.findClass RX7 = some m.cls := findClass_of_methodNamed B.named
  subst hsz
  have hD := hD0.self (sz := s.heap.size)
  generalize hAe : va_A ((wX7 cI cZ a0 u0)) s.heap.size = A at hD ⊢
  have hA : ∀ q : Nat, s.heap.size ≤ q → A q := fun q h => by rw [← hAe]; exact Or.inr h
  have hS : va_S A s.heap s.heap [] := va_S.rf
  have hDD : ∀ w0 : S1, va_D A ((wX7 cI cZ a0 w0)) := fun _ => D_same (w := (wX7 cI cZ a0 u0)) rfl hD
  refine Wq (fun Q hQ => ?_)
  refine W_entry hav (Nat.le_of_ble_eq_true rfl) (fun ls hl => ?_)
  have hl : lv_has ls 3 [(0, .ref (a0 0)), (1, .int p1), (2, .int p2)] := hl
  unfold f_X7_link at hf
  refine W_heap hP hS (fun H locs hP hS => ?_)
  refine lv_aload_n hx hb dX7_link_0 rfl (lv_at hl 0 rfl) ?_
  refine lv_iload_n hx hb dX7_link_1 rfl (lv_at hl 1 rfl) ?_
  refine lv_iconst (v := 2) hx hb dX7_link_2 (by decide) ?_
  refine lv_bipush (v := 15) hx hb dX7_link_3 (by decide) ?_
  refine lv_iload_n hx hb dX7_link_5 rfl (lv_at hl 2 rfl) ?_
  refine lv_iload_n hx hb dX7_link_6 rfl (lv_at hl 2 rfl) ?_
  refine lv_iconst (v := 0) hx hb dX7_link_7 (by decide) ?_
  refine lv_ldc hx hb hown (hts (.constant RX7 66 (99999999)) (by decide +kernel)) dX7_link_8 ?_
  obtain ⟨z_1, hz_1, hf⟩ := bn_some hf
  refine c0S (As := [.int p2, .int 0, .int 99999999]) (rest := [.int p2, .int 15, .int 2, .int p1, .ref (a0 0)]) ⟨hx, hb, hml, hown, hts⟩ (c_X7_isIn l D cI cZ cJ cT p2 0 99999999 z_1 hz_1) (va_cwS 3 hts gX7_link_X7_isIn rfl rfl rfl (by decide +kernel) ⟨Nat.le_of_ble_eq_true rfl, Nat.le_of_ble_eq_true rfl⟩) rfl rfl hl.1 (Nat.le_of_ble_eq_true rfl) dX7_link_10 ⟨Nat.le_of_ble_eq_true rfl, Nat.le_of_ble_eq_true rfl⟩ ?_
  obtain ⟨z_2, hz_2, hf⟩ := bn_some hf
  refine cWVi (As := [.int p1, .int 2, .int 15, .int p2, .int z_1]) (rest := []) ⟨hx, hb, hml, hown, hts⟩ (c_X7_begins l D cI cZ cJ cT a0 H.size u0 p1 2 15 p2 z_1 z_2 hz_2) (cwV 5 hts gX7_link_X7_begins rfl rfl rfl (by decide +kernel) ⟨Nat.le_of_ble_eq_true rfl, Nat.le_of_ble_eq_true rfl⟩) hP hK (hDD u0) hS (own_free (hDD u0) hS hA) (va_recv hK hP (ci := 7) (q0 := 0) rfl rfl) rfl rfl hl.1 (Nat.le_of_ble_eq_true rfl) dX7_link_13 ⟨Nat.le_of_ble_eq_true rfl, Nat.le_of_ble_eq_true rfl⟩ (fun H1 locs hP1 hk1 hS => ?_)
  have hP : va_P D cls (wX7 cI cZ a0 z_2.2) H1 := hP1
  clear hP1 hk1
  generalize H1 = H at hP hS ⊢
  have eo := Option.some.inj hf
  have hP : va_P D cls (wX7 cI cZ a0 o.2) H := by rw [← eo]; exact hP
  rw [hQ]
  exact W.iret hx hb hr (fun t ht hW => ⟨⟨_, (), rfl, (by rw [← eo]), P_at ht hP⟩, hS.F ht⟩) hS.2.2 dX7_link_16 hlocks
set_option maxRecDepth 20000 in
theorem ggX7_hard_X7_at : GoodIn wsX7_hard wsX7_at := goodIn_r _ [24] (by decide +kernel) (by decide +kernel)
set_option maxRecDepth 20000 in
theorem gX7_hard_X7_at : GoodIn wsX7_hard (va_wsS RX7 67 yX7_at wsX7_at) := goodIn_app (goodIn_of _ (by decide +kernel)) ggX7_hard_X7_at
set_option maxRecDepth 20000 in
theorem ggX7_hard_X7_can : GoodIn wsX7_hard wsX7_can := goodIn_r _ [61, 62, 67, 68, 69, 70, 71, 72, 73, 74, 75, 76, 77, 78, 79, 80, 81, 82, 83, 84, 85] (by decide +kernel) (by decide +kernel)
set_option maxRecDepth 20000 in
theorem gX7_hard_X7_can : GoodIn wsX7_hard (wsV RX7 140 RX7 yX7_can wsX7_can) := goodIn_app (goodIn_of _ (by decide +kernel)) ggX7_hard_X7_can
set_option maxRecDepth 20000 in
theorem ggX7_hard_X7_canEnter : GoodIn wsX7_hard wsX7_canEnter := goodIn_r _ [44, 29, 30, 31, 4, 32, 1, 22, 23, 24, 45, 46, 47, 48, 49, 50, 51, 52, 53, 54, 55, 56, 57, 67, 68, 69, 70, 71, 72, 73, 74, 75, 76, 77, 78, 79, 80, 81, 82, 83, 84, 85] (by decide +kernel) (by decide +kernel)
set_option maxRecDepth 20000 in
theorem gX7_hard_X7_canEnter : GoodIn wsX7_hard (wsV RX7 155 RX7 yX7_canEnter wsX7_canEnter) := goodIn_app (goodIn_of _ (by decide +kernel)) ggX7_hard_X7_canEnter
set_option maxRecDepth 20000 in
theorem ggX7_hard_X7_enters : GoodIn wsX7_hard wsX7_enters := goodIn_r _ [66, 1, 22, 23, 4, 24, 45, 46, 47, 48, 67, 68, 69, 70, 71, 72, 73, 74, 75, 76, 77, 78, 79, 80, 81, 82, 83, 84, 85] (by decide +kernel) (by decide +kernel)
set_option maxRecDepth 20000 in
theorem gX7_hard_X7_enters : GoodIn wsX7_hard (wsV RX7 162 RX7 yX7_enters wsX7_enters) := goodIn_app (goodIn_of _ (by decide +kernel)) ggX7_hard_X7_enters
set_option maxRecDepth 20000 in
theorem ggX7_hard_X7_folderOf : GoodIn wsX7_hard wsX7_folderOf := goodIn_r _ [36, 10, 11, 12, 4, 13, 14, 15, 16, 17, 1, 18, 19, 20, 21, 22, 23, 24, 25, 26, 27, 28, 29, 30, 31, 32, 37, 38, 39, 40, 67, 68, 69, 70, 71, 72, 73, 74, 75, 76, 77, 78, 79, 80, 81, 82, 83, 84, 85] (by decide +kernel) (by decide +kernel)
set_option maxRecDepth 20000 in
theorem gX7_hard_X7_folderOf : GoodIn wsX7_hard (wsV RX7 152 RX7 yX7_folderOf wsX7_folderOf) := goodIn_app (goodIn_of _ (by decide +kernel)) ggX7_hard_X7_folderOf
set_option maxRecDepth 20000 in
theorem ggX7_hard_X7_isPath : GoodIn wsX7_hard wsX7_isPath := goodIn_r _ [5, 6, 7, 8, 4, 9] (by decide +kernel) (by decide +kernel)
set_option maxRecDepth 20000 in
theorem gX7_hard_X7_isPath : GoodIn wsX7_hard (va_wsS RX7 149 yX7_isPath wsX7_isPath) := goodIn_app (goodIn_of _ (by decide +kernel)) ggX7_hard_X7_isPath
set_option maxRecDepth 20000 in
theorem ggX7_hard_X7_kindOf : GoodIn wsX7_hard wsX7_kindOf := goodIn_r _ [40, 1, 22, 23, 4, 24, 67, 68, 69, 70, 71, 72, 73, 74, 75, 76, 77, 78, 79, 80, 81, 82, 83, 84, 85] (by decide +kernel) (by decide +kernel)
set_option maxRecDepth 20000 in
theorem gX7_hard_X7_kindOf : GoodIn wsX7_hard (wsV RX7 131 RX7 yX7_kindOf wsX7_kindOf) := goodIn_app (goodIn_of _ (by decide +kernel)) ggX7_hard_X7_kindOf
set_option maxRecDepth 20000 in
theorem ggX7_hard_X7_walks : GoodIn wsX7_hard wsX7_walks := goodIn_r _ [13, 14, 15, 16, 17, 1, 18, 19, 20, 4, 21, 22, 23, 24, 25, 26, 27, 28, 29, 30, 31, 32, 67, 68, 69, 70, 71, 72, 73, 74, 75, 76, 77, 78, 79, 80, 81, 82, 83, 84, 85] (by decide +kernel) (by decide +kernel)
set_option maxRecDepth 20000 in
theorem gX7_hard_X7_walks : GoodIn wsX7_hard (wsV RX7 127 RX7 yX7_walks wsX7_walks) := goodIn_app (goodIn_of _ (by decide +kernel)) ggX7_hard_X7_walks
theorem dX7_hard_0 : decode cX7_hard 0 = .ok (.iload_n 1, 1) := by decide +kernel
theorem dX7_hard_1 : decode cX7_hard 1 = .ok (.invokestatic 149, 3) := by decide +kernel
theorem dX7_hard_4 : decode cX7_hard 4 = .ok (.ifCond .eq 14, 3) := by decide +kernel
theorem dX7_hard_7 : decode cX7_hard 7 = .ok (.iload_n 2, 1) := by decide +kernel
theorem dX7_hard_8 : decode cX7_hard 8 = .ok (.invokestatic 149, 3) := by decide +kernel
theorem dX7_hard_11 : decode cX7_hard 11 = .ok (.ifCond .eq 7, 3) := by decide +kernel
theorem dX7_hard_14 : decode cX7_hard 14 = .ok (.iconst 1, 1) := by decide +kernel
theorem dX7_hard_15 : decode cX7_hard 15 = .ok (.goto 4, 3) := by decide +kernel
theorem dX7_hard_18 : decode cX7_hard 18 = .ok (.iconst 0, 1) := by decide +kernel
theorem dX7_hard_19 : decode cX7_hard 19 = .ok (.istore_n 3, 1) := by decide +kernel
theorem dX7_hard_20 : decode cX7_hard 20 = .ok (.iload_n 3, 1) := by decide +kernel
theorem dX7_hard_21 : decode cX7_hard 21 = .ok (.ifCond .eq 13, 3) := by decide +kernel
theorem dX7_hard_24 : decode cX7_hard 24 = .ok (.aload_n 0, 1) := by decide +kernel
theorem dX7_hard_25 : decode cX7_hard 25 = .ok (.iconst 0, 1) := by decide +kernel
theorem dX7_hard_26 : decode cX7_hard 26 = .ok (.iload_n 1, 1) := by decide +kernel
theorem dX7_hard_27 : decode cX7_hard 27 = .ok (.iconst 0, 1) := by decide +kernel
theorem dX7_hard_28 : decode cX7_hard 28 = .ok (.invokevirtual 127, 3) := by decide +kernel
theorem dX7_hard_31 : decode cX7_hard 31 = .ok (.goto 4, 3) := by decide +kernel
theorem dX7_hard_34 : decode cX7_hard 34 = .ok (.iconst (-1), 1) := by decide +kernel
theorem dX7_hard_35 : decode cX7_hard 35 = .ok (.istore 4, 2) := by decide +kernel
theorem dX7_hard_37 : decode cX7_hard 37 = .ok (.iload_n 3, 1) := by decide +kernel
theorem dX7_hard_38 : decode cX7_hard 38 = .ok (.ifCond .eq 11, 3) := by decide +kernel
theorem dX7_hard_41 : decode cX7_hard 41 = .ok (.aload_n 0, 1) := by decide +kernel
theorem dX7_hard_42 : decode cX7_hard 42 = .ok (.iload_n 2, 1) := by decide +kernel
theorem dX7_hard_43 : decode cX7_hard 43 = .ok (.invokevirtual 152, 3) := by decide +kernel
theorem dX7_hard_46 : decode cX7_hard 46 = .ok (.goto 4, 3) := by decide +kernel
theorem dX7_hard_49 : decode cX7_hard 49 = .ok (.iconst (-1), 1) := by decide +kernel
theorem dX7_hard_50 : decode cX7_hard 50 = .ok (.istore 5, 2) := by decide +kernel
theorem dX7_hard_52 : decode cX7_hard 52 = .ok (.iload 4, 2) := by decide +kernel
theorem dX7_hard_54 : decode cX7_hard 54 = .ok (.iconst (-1), 1) := by decide +kernel
theorem dX7_hard_55 : decode cX7_hard 55 = .ok (.if_icmp .eq 13, 3) := by decide +kernel
theorem dX7_hard_58 : decode cX7_hard 58 = .ok (.iload 5, 2) := by decide +kernel
theorem dX7_hard_60 : decode cX7_hard 60 = .ok (.iconst (-1), 1) := by decide +kernel
theorem dX7_hard_61 : decode cX7_hard 61 = .ok (.if_icmp .eq 7, 3) := by decide +kernel
theorem dX7_hard_64 : decode cX7_hard 64 = .ok (.iconst 1, 1) := by decide +kernel
theorem dX7_hard_65 : decode cX7_hard 65 = .ok (.goto 4, 3) := by decide +kernel
theorem dX7_hard_68 : decode cX7_hard 68 = .ok (.iconst 0, 1) := by decide +kernel
theorem dX7_hard_69 : decode cX7_hard 69 = .ok (.istore 6, 2) := by decide +kernel
theorem dX7_hard_71 : decode cX7_hard 71 = .ok (.aload_n 0, 1) := by decide +kernel
theorem dX7_hard_72 : decode cX7_hard 72 = .ok (.iload_n 3, 1) := by decide +kernel
theorem dX7_hard_73 : decode cX7_hard 73 = .ok (.ifCond .ne 7, 3) := by decide +kernel
theorem dX7_hard_76 : decode cX7_hard 76 = .ok (.iconst 1, 1) := by decide +kernel
theorem dX7_hard_77 : decode cX7_hard 77 = .ok (.goto 40, 3) := by decide +kernel
theorem dX7_hard_80 : decode cX7_hard 80 = .ok (.iload 6, 2) := by decide +kernel
theorem dX7_hard_82 : decode cX7_hard 82 = .ok (.ifCond .ne 7, 3) := by decide +kernel
theorem dX7_hard_85 : decode cX7_hard 85 = .ok (.iconst 2, 1) := by decide +kernel
theorem dX7_hard_86 : decode cX7_hard 86 = .ok (.goto 31, 3) := by decide +kernel
theorem dX7_hard_89 : decode cX7_hard 89 = .ok (.aload_n 0, 1) := by decide +kernel
theorem dX7_hard_90 : decode cX7_hard 90 = .ok (.iload 4, 2) := by decide +kernel
theorem dX7_hard_92 : decode cX7_hard 92 = .ok (.invokevirtual 131, 3) := by decide +kernel
theorem dX7_hard_95 : decode cX7_hard 95 = .ok (.iconst 1, 1) := by decide +kernel
theorem dX7_hard_96 : decode cX7_hard 96 = .ok (.if_icmp .eq 16, 3) := by decide +kernel
theorem dX7_hard_99 : decode cX7_hard 99 = .ok (.aload_n 0, 1) := by decide +kernel
theorem dX7_hard_100 : decode cX7_hard 100 = .ok (.iload 5, 2) := by decide +kernel
theorem dX7_hard_102 : decode cX7_hard 102 = .ok (.iload_n 2, 1) := by decide +kernel
theorem dX7_hard_103 : decode cX7_hard 103 = .ok (.bipush 100, 2) := by decide +kernel
theorem dX7_hard_105 : decode cX7_hard 105 = .ok (.irem, 1) := by decide +kernel
theorem dX7_hard_106 : decode cX7_hard 106 = .ok (.invokevirtual 155, 3) := by decide +kernel
theorem dX7_hard_109 : decode cX7_hard 109 = .ok (.ifCond .ne 7, 3) := by decide +kernel
theorem dX7_hard_112 : decode cX7_hard 112 = .ok (.iconst 3, 1) := by decide +kernel
theorem dX7_hard_113 : decode cX7_hard 113 = .ok (.goto 4, 3) := by decide +kernel
theorem dX7_hard_116 : decode cX7_hard 116 = .ok (.iconst 0, 1) := by decide +kernel
theorem dX7_hard_117 : decode cX7_hard 117 = .ok (.invokevirtual 140, 3) := by decide +kernel
theorem dX7_hard_120 : decode cX7_hard 120 = .ok (.ifCond .ne 5, 3) := by decide +kernel
theorem dX7_hard_123 : decode cX7_hard 123 = .ok (.iconst 0, 1) := by decide +kernel
theorem dX7_hard_124 : decode cX7_hard 124 = .ok (.ireturn, 1) := by decide +kernel
theorem dX7_hard_125 : decode cX7_hard 125 = .ok (.aload_n 0, 1) := by decide +kernel
theorem dX7_hard_126 : decode cX7_hard 126 = .ok (.iload 5, 2) := by decide +kernel
theorem dX7_hard_128 : decode cX7_hard 128 = .ok (.iload_n 2, 1) := by decide +kernel
theorem dX7_hard_129 : decode cX7_hard 129 = .ok (.bipush 100, 2) := by decide +kernel
theorem dX7_hard_131 : decode cX7_hard 131 = .ok (.irem, 1) := by decide +kernel
theorem dX7_hard_132 : decode cX7_hard 132 = .ok (.iload 4, 2) := by decide +kernel
theorem dX7_hard_134 : decode cX7_hard 134 = .ok (.invokevirtual 162, 3) := by decide +kernel
theorem dX7_hard_137 : decode cX7_hard 137 = .ok (.aload_n 0, 1) := by decide +kernel
theorem dX7_hard_138 : decode cX7_hard 138 = .ok (.getfield 7, 3) := by decide +kernel
theorem dX7_hard_141 : decode cX7_hard 141 = .ok (.iconst 0, 1) := by decide +kernel
theorem dX7_hard_142 : decode cX7_hard 142 = .ok (.iload 4, 2) := by decide +kernel
theorem dX7_hard_144 : decode cX7_hard 144 = .ok (.invokestatic 67, 3) := by decide +kernel
theorem dX7_hard_147 : decode cX7_hard 147 = .ok (.iconst 3, 1) := by decide +kernel
theorem dX7_hard_148 : decode cX7_hard 148 = .ok (.iadd, 1) := by decide +kernel
theorem dX7_hard_149 : decode cX7_hard 149 = .ok (.dup2, 1) := by decide +kernel
theorem dX7_hard_150 : decode cX7_hard 150 = .ok (.iaload, 1) := by decide +kernel
theorem dX7_hard_151 : decode cX7_hard 151 = .ok (.iconst 1, 1) := by decide +kernel
theorem dX7_hard_152 : decode cX7_hard 152 = .ok (.iadd, 1) := by decide +kernel
theorem dX7_hard_153 : decode cX7_hard 153 = .ok (.iastore, 1) := by decide +kernel
theorem dX7_hard_154 : decode cX7_hard 154 = .ok (.aload_n 0, 1) := by decide +kernel
theorem dX7_hard_155 : decode cX7_hard 155 = .ok (.getfield 7, 3) := by decide +kernel
theorem dX7_hard_158 : decode cX7_hard 158 = .ok (.iconst 0, 1) := by decide +kernel
theorem dX7_hard_159 : decode cX7_hard 159 = .ok (.iload 4, 2) := by decide +kernel
theorem dX7_hard_161 : decode cX7_hard 161 = .ok (.invokestatic 67, 3) := by decide +kernel
theorem dX7_hard_164 : decode cX7_hard 164 = .ok (.iconst 3, 1) := by decide +kernel
theorem dX7_hard_165 : decode cX7_hard 165 = .ok (.iadd, 1) := by decide +kernel
theorem dX7_hard_166 : decode cX7_hard 166 = .ok (.iaload, 1) := by decide +kernel
theorem dX7_hard_167 : decode cX7_hard 167 = .ok (.ireturn, 1) := by decide +kernel
def f_X7_hard (u0 : S1) (p1 : Int32) (p2 : Int32) : Option (Int32 × S1) := bn (f_X7_isPath p1) (fun z_1 => jn (fun (v19_2_0 : Int32) => jn (fun (v35_3_0 : Int32) (u35_3_0 : S1) => jn (fun (v50_4_0 : Int32) (u50_4_0 : S1) => jn (fun (v69_5_0 : Int32) => jn (fun (v117_6_0 : Int32) => bn (f_X7_can u50_4_0 v117_6_0) (fun z_7 => if z_7.1 = 0 then some (0, z_7.2) else bn (f_X7_enters z_7.2 v50_4_0 (p2 - p2 / 100 * 100) v35_3_0) (fun z_9 => bn (f_X7_at 0 v35_3_0) (fun z_10 => chk (inb (z_10 + 3) 8480) (chk (inb (z_10 + 3) 8480) (bv (st z_9 0 (z_10 + 3) ((z_9 0 (z_10 + 3).toNatClampNeg) + 1)) (fun u_11 => bn (f_X7_at 0 v35_3_0) (fun z_12 => chk (inb (z_12 + 3) 8480) (some ((u_11 0 (z_12 + 3).toNatClampNeg), u_11)))))))))) (fun k117_6 => if v19_2_0 = 0 then k117_6 1 else if v69_5_0 = 0 then k117_6 2 else bn (f_X7_kindOf u50_4_0 v35_3_0) (fun z_15 => jn (k117_6 3) (fun k112_16 => if z_15 = 1 then k112_16 else bn (f_X7_canEnter u50_4_0 v50_4_0 (p2 - p2 / 100 * 100)) (fun z_18 => if z_18 = 0 then k112_16 else k117_6 0))))) (fun k69_5 => jn (k69_5 0) (fun k68_20 => if v35_3_0 = (-1) then k68_20 else if v50_4_0 = (-1) then k68_20 else k69_5 1))) (fun k50_4 => if v19_2_0 = 0 then k50_4 (-1) u35_3_0 else bn (f_X7_folderOf u35_3_0 p2) (fun z_24 => k50_4 z_24.1 z_24.2))) (fun k35_3 => if v19_2_0 = 0 then k35_3 (-1) u0 else bn (f_X7_walks u0 0 p1 0) (fun z_26 => k35_3 z_26.1 z_26.2))) (fun k19_2 => jn (k19_2 0) (fun k18_27 => if z_1 = 0 then k18_27 else bn (f_X7_isPath p2) (fun z_29 => if z_29 = 0 then k18_27 else k19_2 1))))
def rmX7_hard : Room := { frames := 5, cells := 0, slots := 0, locals := 117 }
set_option maxHeartbeats 4000000 in
set_option maxRecDepth 100000 in
theorem c_X7_hard (l : Launch) (D : va_G) (cI cZ cJ cT : ClassId) (a0 : Nat → Nat) (sz : Nat) (u0 : S1) (p1 : Int32) (p2 : Int32) (o : Int32 × S1) (hf : f_X7_hard u0 p1 p2 = some o) : Met l yX7_hard wsX7_hard rmX7_hard (va_Pc [.ref (a0 0), .int p1, .int p2] (PW D cls (tys cI cZ cJ cT) ((wX7 cI cZ a0 u0)) sz)) (QWi D cls o.1 ((wX7 cI cZ a0 o.2)) (va_A ((wX7 cI cZ a0 u0)) sz)) 0 0 (va_A ((wX7 cI cZ a0 u0)) sz) := by
  refine Met.ofW (cc := cX7_hard) (maxL := 7) (ret := (some .int)) (by decide) rfl ?_
  intro p e s m args below meth c s₁ B hml hv
  obtain ⟨hav, hsz, hP, hK, hD0⟩ := hv
  have hx := B.exec
  have hb := B.bytes
  have hr := B.returns
  have hlocks := B.notSynchronized
  have hts := atoms_spec (ws := wsX7_hard) B.pre
  have hown : s.vm.findClass RX7 = some m.cls := findClass_of_methodNamed B.named
  have i7 : ∀ w ∈ wsX70, w ∈ wsX7_hard := fun w h => List.mem_cons_of_mem _ (List.mem_append_right _ h)
  have hk7 := hts (.fieldLink RX7 7 "InoderyModel" "s" "[I") (by decide +kernel)
  subst hsz
  have hD := hD0.self (sz := s.heap.size)
  generalize hAe : va_A ((wX7 cI cZ a0 u0)) s.heap.size = A at hD ⊢
  have hA : ∀ q : Nat, s.heap.size ≤ q → A q := fun q h => by rw [← hAe]; exact Or.inr h
  have hS : va_S A s.heap s.heap [] := va_S.rf
  have hDD : ∀ w0 : S1, va_D A ((wX7 cI cZ a0 w0)) := fun _ => D_same (w := (wX7 cI cZ a0 u0)) rfl hD
  refine Wq (fun Q hQ => ?_)
  refine W_entry hav (Nat.le_of_ble_eq_true rfl) (fun ls hl => ?_)
  have hl : lv_has ls 7 [(0, .ref (a0 0)), (1, .int p1), (2, .int p2)] := hl
  unfold f_X7_hard at hf
  refine W_heap hP hS (fun H locs hP hS => ?_)
  refine lv_iload_n hx hb dX7_hard_0 rfl (lv_at hl 1 rfl) ?_
  obtain ⟨z_1, hz_1, hf⟩ := bn_some hf
  refine c0S (As := [.int p1]) (rest := []) ⟨hx, hb, hml, hown, hts⟩ (c_X7_isPath l D cI cZ cJ cT p1 z_1 hz_1) (va_cwS 1 hts gX7_hard_X7_isPath rfl rfl rfl (by decide +kernel) ⟨Nat.le_of_ble_eq_true rfl, Nat.le_of_ble_eq_true rfl⟩) rfl rfl hl.1 (Nat.le_of_ble_eq_true rfl) dX7_hard_1 ⟨Nat.le_of_ble_eq_true rfl, Nat.le_of_ble_eq_true rfl⟩ ?_
  obtain ⟨k19_2, hk19_2, hf⟩ := jn_some hf
  have j19_2 : ∀ (v19_2_0 : Int32) (H : Heap) (locs : List Loc) (ls : Array Slot), k19_2 v19_2_0 = some o → va_P D cls (wX7 cI cZ a0 u0) H → va_S A s.heap H locs → lv_has ls 7 [(0, .ref (a0 0)), (1, .int p1), (2, .int p2)] → W p l e (headSpec wsX7_hard rmX7_hard).room s m args below meth c H locs 0 0 Q (F0 m 19 ls [.int v19_2_0]) := by
    intro v19_2_0 H locs ls hf hP hS hl
    have hf := qa1 hk19_2 hf
    refine lv_istore_n (lv' := [(3, .int v19_2_0), (0, .ref (a0 0)), (1, .int p1), (2, .int p2)]) hx hb dX7_hard_19 rfl hl (by decide) rfl (fun ls hl => ?_)
    refine lv_iload_n hx hb dX7_hard_20 rfl (lv_at hl 0 rfl) ?_
    obtain ⟨k35_3, hk35_3, hf⟩ := jn_some hf
    have j35_3 : ∀ (v35_3_0 : Int32) (u35_3_0 : S1) (H : Heap) (locs : List Loc) (ls : Array Slot), k35_3 v35_3_0 u35_3_0 = some o → va_P D cls (wX7 cI cZ a0 u35_3_0) H → va_S A s.heap H locs → lv_has ls 7 [(0, .ref (a0 0)), (2, .int p2), (3, .int v19_2_0)] → W p l e (headSpec wsX7_hard rmX7_hard).room s m args below meth c H locs 0 0 Q (F0 m 35 ls [.int v35_3_0]) := by
      intro v35_3_0 u35_3_0 H locs ls hf hP hS hl
      have hf := qa2 hk35_3 hf
      refine lv_istore (lv' := [(4, .int v35_3_0), (0, .ref (a0 0)), (2, .int p2), (3, .int v19_2_0)]) hx hb dX7_hard_35 hl (by decide) rfl (fun ls hl => ?_)
      refine lv_iload_n hx hb dX7_hard_37 rfl (lv_at hl 3 rfl) ?_
      obtain ⟨k50_4, hk50_4, hf⟩ := jn_some hf
      have j50_4 : ∀ (v50_4_0 : Int32) (u50_4_0 : S1) (H : Heap) (locs : List Loc) (ls : Array Slot), k50_4 v50_4_0 u50_4_0 = some o → va_P D cls (wX7 cI cZ a0 u50_4_0) H → va_S A s.heap H locs → lv_has ls 7 [(0, .ref (a0 0)), (2, .int p2), (3, .int v19_2_0), (4, .int v35_3_0)] → W p l e (headSpec wsX7_hard rmX7_hard).room s m args below meth c H locs 0 0 Q (F0 m 50 ls [.int v50_4_0]) := by
        intro v50_4_0 u50_4_0 H locs ls hf hP hS hl
        have hf := qa2 hk50_4 hf
        refine lv_istore (lv' := [(5, .int v50_4_0), (0, .ref (a0 0)), (2, .int p2), (3, .int v19_2_0), (4, .int v35_3_0)]) hx hb dX7_hard_50 hl (by decide) rfl (fun ls hl => ?_)
        refine lv_iload hx hb dX7_hard_52 (lv_at hl 4 rfl) ?_
        refine lv_iconst (v := (-1)) hx hb dX7_hard_54 (by decide) ?_
        obtain ⟨k69_5, hk69_5, hf⟩ := jn_some hf
        have j69_5 : ∀ (v69_5_0 : Int32) (H : Heap) (locs : List Loc) (ls : Array Slot), k69_5 v69_5_0 = some o → va_P D cls (wX7 cI cZ a0 u50_4_0) H → va_S A s.heap H locs → lv_has ls 7 [(0, .ref (a0 0)), (2, .int p2), (3, .int v19_2_0), (4, .int v35_3_0), (5, .int v50_4_0)] → W p l e (headSpec wsX7_hard rmX7_hard).room s m args below meth c H locs 0 0 Q (F0 m 69 ls [.int v69_5_0]) := by
          intro v69_5_0 H locs ls hf hP hS hl
          have hf := qa1 hk69_5 hf
          refine lv_istore (lv' := [(6, .int v69_5_0), (0, .ref (a0 0)), (2, .int p2), (3, .int v19_2_0), (4, .int v35_3_0), (5, .int v50_4_0)]) hx hb dX7_hard_69 hl (by decide) rfl (fun ls hl => ?_)
          refine lv_aload_n hx hb dX7_hard_71 rfl (lv_at hl 1 rfl) ?_
          refine lv_iload_n hx hb dX7_hard_72 rfl (lv_at hl 3 rfl) ?_
          obtain ⟨k117_6, hk117_6, hf⟩ := jn_some hf
          have j117_6 : ∀ (v117_6_0 : Int32) (H : Heap) (locs : List Loc) (ls : Array Slot), k117_6 v117_6_0 = some o → va_P D cls (wX7 cI cZ a0 u50_4_0) H → va_S A s.heap H locs → lv_has ls 7 [(0, .ref (a0 0)), (2, .int p2), (4, .int v35_3_0), (5, .int v50_4_0)] → W p l e (headSpec wsX7_hard rmX7_hard).room s m args below meth c H locs 0 0 Q (F0 m 117 ls [.int v117_6_0, .ref (a0 0)]) := by
            intro v117_6_0 H locs ls hf hP hS hl
            have hf := qa1 hk117_6 hf
            obtain ⟨z_7, hz_7, hf⟩ := bn_some hf
            refine cWVi (As := [.int v117_6_0]) (rest := []) ⟨hx, hb, hml, hown, hts⟩ (c_X7_can l D cI cZ cJ cT a0 H.size u50_4_0 v117_6_0 z_7 hz_7) (cwV 1 hts gX7_hard_X7_can rfl rfl rfl (by decide +kernel) ⟨Nat.le_of_ble_eq_true rfl, Nat.le_of_ble_eq_true rfl⟩) hP hK (hDD u50_4_0) hS (own_free (hDD u50_4_0) hS hA) (va_recv hK hP (ci := 7) (q0 := 0) rfl rfl) rfl rfl hl.1 (Nat.le_of_ble_eq_true rfl) dX7_hard_117 ⟨Nat.le_of_ble_eq_true rfl, Nat.le_of_ble_eq_true rfl⟩ (fun H1 locs hP1 hk1 hS => ?_)
            have hP : va_P D cls (wX7 cI cZ a0 z_7.2) H1 := hP1
            clear hP1 hk1
            generalize H1 = H at hP hS ⊢
            refine lv_if_ne (tgt := 125) hx hb dX7_hard_120 (by decide) (fun c_8 => ?_) (fun c_8 => ?_)
            · have hf := ite_f hf c_8
              refine lv_aload_n hx hb dX7_hard_125 rfl (lv_at hl 0 rfl) ?_
              refine lv_iload hx hb dX7_hard_126 (lv_at hl 3 rfl) ?_
              refine lv_iload_n hx hb dX7_hard_128 rfl (lv_at hl 1 rfl) ?_
              refine lv_bipush (v := 100) hx hb dX7_hard_129 (by decide) ?_
              refine lv_irem hx hb dX7_hard_131 (by decide) ?_
              refine lv_iload hx hb dX7_hard_132 (lv_at hl 2 rfl) ?_
              obtain ⟨z_9, hz_9, hf⟩ := bn_some hf
              refine cWVv (As := [.int v50_4_0, .int (p2 - p2 / 100 * 100), .int v35_3_0]) (rest := []) ⟨hx, hb, hml, hown, hts⟩ (c_X7_enters l D cI cZ cJ cT a0 H.size z_7.2 v50_4_0 (p2 - p2 / 100 * 100) v35_3_0 z_9 hz_9) (cwV 3 hts gX7_hard_X7_enters rfl rfl rfl (by decide +kernel) ⟨Nat.le_of_ble_eq_true rfl, Nat.le_of_ble_eq_true rfl⟩) hP hK (hDD z_7.2) hS (own_free (hDD z_7.2) hS hA) (va_recv hK hP (ci := 7) (q0 := 0) rfl rfl) rfl rfl hl.1 (Nat.le_of_ble_eq_true rfl) dX7_hard_134 ⟨Nat.le_of_ble_eq_true rfl, Nat.le_of_ble_eq_true rfl⟩ (fun H1 locs hP1 hk1 hS => ?_)
              have hP : va_P D cls (wX7 cI cZ a0 z_9) H1 := hP1
              clear hP1 hk1
              generalize H1 = H at hP hS ⊢
              refine lv_aload_n hx hb dX7_hard_137 rfl (lv_at hl 0 rfl) ?_
              refine va_get (D := D) (ci := 7) (v := .ref (a0 1)) (C := RX7) (T := TX7) (N := 19) hx hb hts i7 hown hK hP 0 rfl rfl 0 (by decide) hk7 (fun _ h9 => h9) rfl dX7_hard_138 ?_
              refine lv_iconst (v := 0) hx hb dX7_hard_141 (by decide) ?_
              refine lv_iload hx hb dX7_hard_142 (lv_at hl 2 rfl) ?_
              obtain ⟨z_10, hz_10, hf⟩ := bn_some hf
              refine c0S (As := [.int 0, .int v35_3_0]) (rest := [.ref (a0 1)]) ⟨hx, hb, hml, hown, hts⟩ (c_X7_at l D cI cZ cJ cT 0 v35_3_0 z_10 hz_10) (va_cwS 2 hts gX7_hard_X7_at rfl rfl rfl (by decide +kernel) ⟨Nat.le_of_ble_eq_true rfl, Nat.le_of_ble_eq_true rfl⟩) rfl rfl hl.1 (Nat.le_of_ble_eq_true rfl) dX7_hard_144 ⟨Nat.le_of_ble_eq_true rfl, Nat.le_of_ble_eq_true rfl⟩ ?_
              refine lv_iconst (v := 3) hx hb dX7_hard_147 (by decide) ?_
              refine lv_iadd hx hb dX7_hard_148 ?_
              refine lv_dup2_11 hx hb dX7_hard_149 rfl rfl ?_
              obtain ⟨hi, hf⟩ := chk_some hf
              refine va_iald hx hb hK hP 1 0 rfl rfl (inb_in hi) dX7_hard_150 ?_
              refine lv_iconst (v := 1) hx hb dX7_hard_151 (by decide) ?_
              refine lv_iadd hx hb dX7_hard_152 ?_
              obtain ⟨hi, hf⟩ := chk_some hf
              obtain ⟨u_11, hu_11, hf⟩ := bv_some hf
              refine va_iast hx hb hK hP (hDD z_9) hS 1 0 rfl rfl (inb_in hi) dX7_hard_153 (fun H locs hP _ hS => ?_)
              have hP : va_P D cls (wX7 cI cZ a0 u_11) H := by rw [hu_11]; exact hP
              refine lv_aload_n hx hb dX7_hard_154 rfl (lv_at hl 0 rfl) ?_
              refine va_get (D := D) (ci := 7) (v := .ref (a0 1)) (C := RX7) (T := TX7) (N := 19) hx hb hts i7 hown hK hP 0 rfl rfl 0 (by decide) hk7 (fun _ h9 => h9) rfl dX7_hard_155 ?_
              refine lv_iconst (v := 0) hx hb dX7_hard_158 (by decide) ?_
              refine lv_iload hx hb dX7_hard_159 (lv_at hl 2 rfl) ?_
              obtain ⟨z_12, hz_12, hf⟩ := bn_some hf
              refine c0S (As := [.int 0, .int v35_3_0]) (rest := [.ref (a0 1)]) ⟨hx, hb, hml, hown, hts⟩ (c_X7_at l D cI cZ cJ cT 0 v35_3_0 z_12 hz_12) (va_cwS 2 hts gX7_hard_X7_at rfl rfl rfl (by decide +kernel) ⟨Nat.le_of_ble_eq_true rfl, Nat.le_of_ble_eq_true rfl⟩) rfl rfl hl.1 (Nat.le_of_ble_eq_true rfl) dX7_hard_161 ⟨Nat.le_of_ble_eq_true rfl, Nat.le_of_ble_eq_true rfl⟩ ?_
              refine lv_iconst (v := 3) hx hb dX7_hard_164 (by decide) ?_
              refine lv_iadd hx hb dX7_hard_165 ?_
              obtain ⟨hi, hf⟩ := chk_some hf
              refine va_iald hx hb hK hP 1 0 rfl rfl (inb_in hi) dX7_hard_166 ?_
              have eo := Option.some.inj hf
              have hP : va_P D cls (wX7 cI cZ a0 o.2) H := by rw [← eo]; exact hP
              rw [hQ]
              exact W.iret hx hb hr (fun t ht hW => ⟨⟨_, (), rfl, congrArg Prod.fst eo, P_at ht hP⟩, hS.F ht⟩) hS.2.2 dX7_hard_167 hlocks
            · have hf := ite_t hf c_8
              refine lv_iconst (v := 0) hx hb dX7_hard_123 (by decide) ?_
              have eo := Option.some.inj hf
              have hP : va_P D cls (wX7 cI cZ a0 o.2) H := by rw [← eo]; exact hP
              rw [hQ]
              exact W.iret hx hb hr (fun t ht hW => ⟨⟨_, (), rfl, congrArg Prod.fst eo, P_at ht hP⟩, hS.F ht⟩) hS.2.2 dX7_hard_124 hlocks
          refine lv_if_ne (tgt := 80) hx hb dX7_hard_73 (by decide) (fun c_13 => ?_) (fun c_13 => ?_)
          · have hf := ite_f hf c_13
            refine lv_iload hx hb dX7_hard_80 (lv_at hl 0 rfl) ?_
            refine lv_if_ne (tgt := 89) hx hb dX7_hard_82 (by decide) (fun c_14 => ?_) (fun c_14 => ?_)
            · have hf := ite_f hf c_14
              refine lv_aload_n hx hb dX7_hard_89 rfl (lv_at hl 1 rfl) ?_
              refine lv_iload hx hb dX7_hard_90 (lv_at hl 4 rfl) ?_
              obtain ⟨z_15, hz_15, hf⟩ := bn_some hf
              refine cRV (As := [.int v35_3_0]) (rest := [.ref (a0 0)]) ⟨hx, hb, hml, hown, hts⟩ (c_X7_kindOf l D cI cZ cJ cT a0 u50_4_0 v35_3_0 z_15 hz_15) (cwV 1 hts gX7_hard_X7_kindOf rfl rfl rfl (by decide +kernel) ⟨Nat.le_of_ble_eq_true rfl, Nat.le_of_ble_eq_true rfl⟩) hP hK (va_recv hK hP (ci := 7) (q0 := 0) rfl rfl) rfl rfl hl.1 (Nat.le_of_ble_eq_true rfl) dX7_hard_92 ⟨Nat.le_of_ble_eq_true rfl, Nat.le_of_ble_eq_true rfl⟩ ?_
              refine lv_iconst (v := 1) hx hb dX7_hard_95 (by decide) ?_
              obtain ⟨k112_16, hk112_16, hf⟩ := jn_some hf
              have j112_16 : ∀ (H : Heap) (locs : List Loc) (ls : Array Slot), k112_16 = some o → va_P D cls (wX7 cI cZ a0 u50_4_0) H → va_S A s.heap H locs → lv_has ls 7 [(0, .ref (a0 0)), (2, .int p2), (4, .int v35_3_0), (5, .int v50_4_0)] → W p l e (headSpec wsX7_hard rmX7_hard).room s m args below meth c H locs 0 0 Q (F0 m 112 ls [.ref (a0 0)]) := by
                intro H locs ls hf hP hS hl
                have hf := qa0 hk112_16 hf
                refine lv_iconst (v := 3) hx hb dX7_hard_112 (by decide) ?_
                refine lv_goto (tgt := 117) hx hb dX7_hard_113 (by decide) ?_
                exact j117_6 _ _ _ _ hf hP hS (lv_sub hl [0, 1, 2, 3] rfl)
              refine lv_icmp_eq (tgt := 112) hx hb dX7_hard_96 (by decide) (fun c_17 => ?_) (fun c_17 => ?_)
              · have hf := ite_t hf c_17
                exact j112_16 _ _ _ hf hP hS (lv_sub hl [1, 2, 4, 5] rfl)
              · have hf := ite_f hf c_17
                refine lv_aload_n hx hb dX7_hard_99 rfl (lv_at hl 1 rfl) ?_
                refine lv_iload hx hb dX7_hard_100 (lv_at hl 5 rfl) ?_
                refine lv_iload_n hx hb dX7_hard_102 rfl (lv_at hl 2 rfl) ?_
                refine lv_bipush (v := 100) hx hb dX7_hard_103 (by decide) ?_
                refine lv_irem hx hb dX7_hard_105 (by decide) ?_
                obtain ⟨z_18, hz_18, hf⟩ := bn_some hf
                refine cRV (As := [.int v50_4_0, .int (p2 - p2 / 100 * 100)]) (rest := [.ref (a0 0)]) ⟨hx, hb, hml, hown, hts⟩ (c_X7_canEnter l D cI cZ cJ cT a0 u50_4_0 v50_4_0 (p2 - p2 / 100 * 100) z_18 hz_18) (cwV 2 hts gX7_hard_X7_canEnter rfl rfl rfl (by decide +kernel) ⟨Nat.le_of_ble_eq_true rfl, Nat.le_of_ble_eq_true rfl⟩) hP hK (va_recv hK hP (ci := 7) (q0 := 0) rfl rfl) rfl rfl hl.1 (Nat.le_of_ble_eq_true rfl) dX7_hard_106 ⟨Nat.le_of_ble_eq_true rfl, Nat.le_of_ble_eq_true rfl⟩ ?_
                refine lv_if_ne (tgt := 116) hx hb dX7_hard_109 (by decide) (fun c_19 => ?_) (fun c_19 => ?_)
                · have hf := ite_f hf c_19
                  refine lv_iconst (v := 0) hx hb dX7_hard_116 (by decide) ?_
                  exact j117_6 _ _ _ _ hf hP hS (lv_sub hl [1, 2, 4, 5] rfl)
                · have hf := ite_t hf c_19
                  exact j112_16 _ _ _ hf hP hS (lv_sub hl [1, 2, 4, 5] rfl)
            · have hf := ite_t hf c_14
              refine lv_iconst (v := 2) hx hb dX7_hard_85 (by decide) ?_
              refine lv_goto (tgt := 117) hx hb dX7_hard_86 (by decide) ?_
              exact j117_6 _ _ _ _ hf hP hS (lv_sub hl [1, 2, 4, 5] rfl)
          · have hf := ite_t hf c_13
            refine lv_iconst (v := 1) hx hb dX7_hard_76 (by decide) ?_
            refine lv_goto (tgt := 117) hx hb dX7_hard_77 (by decide) ?_
            exact j117_6 _ _ _ _ hf hP hS (lv_sub hl [1, 2, 4, 5] rfl)
        obtain ⟨k68_20, hk68_20, hf⟩ := jn_some hf
        have j68_20 : ∀ (H : Heap) (locs : List Loc) (ls : Array Slot), k68_20 = some o → va_P D cls (wX7 cI cZ a0 u50_4_0) H → va_S A s.heap H locs → lv_has ls 7 [(0, .ref (a0 0)), (2, .int p2), (3, .int v19_2_0), (4, .int v35_3_0), (5, .int v50_4_0)] → W p l e (headSpec wsX7_hard rmX7_hard).room s m args below meth c H locs 0 0 Q (F0 m 68 ls []) := by
          intro H locs ls hf hP hS hl
          have hf := qa0 hk68_20 hf
          refine lv_iconst (v := 0) hx hb dX7_hard_68 (by decide) ?_
          exact j69_5 _ _ _ _ hf hP hS (lv_sub hl [0, 1, 2, 3, 4] rfl)
        refine lv_icmp_eq (tgt := 68) hx hb dX7_hard_55 (by decide) (fun c_21 => ?_) (fun c_21 => ?_)
        · have hf := ite_t hf c_21
          exact j68_20 _ _ _ hf hP hS (lv_sub hl [1, 2, 3, 4, 0] rfl)
        · have hf := ite_f hf c_21
          refine lv_iload hx hb dX7_hard_58 (lv_at hl 0 rfl) ?_
          refine lv_iconst (v := (-1)) hx hb dX7_hard_60 (by decide) ?_
          refine lv_icmp_eq (tgt := 68) hx hb dX7_hard_61 (by decide) (fun c_22 => ?_) (fun c_22 => ?_)
          · have hf := ite_t hf c_22
            exact j68_20 _ _ _ hf hP hS (lv_sub hl [1, 2, 3, 4, 0] rfl)
          · have hf := ite_f hf c_22
            refine lv_iconst (v := 1) hx hb dX7_hard_64 (by decide) ?_
            refine lv_goto (tgt := 69) hx hb dX7_hard_65 (by decide) ?_
            exact j69_5 _ _ _ _ hf hP hS (lv_sub hl [1, 2, 3, 4, 0] rfl)
      refine lv_if_eq (tgt := 49) hx hb dX7_hard_38 (by decide) (fun c_23 => ?_) (fun c_23 => ?_)
      · have hf := ite_t hf c_23
        refine lv_iconst (v := (-1)) hx hb dX7_hard_49 (by decide) ?_
        exact j50_4 _ _ _ _ _ hf hP hS (lv_sub hl [1, 2, 3, 0] rfl)
      · have hf := ite_f hf c_23
        refine lv_aload_n hx hb dX7_hard_41 rfl (lv_at hl 1 rfl) ?_
        refine lv_iload_n hx hb dX7_hard_42 rfl (lv_at hl 2 rfl) ?_
        obtain ⟨z_24, hz_24, hf⟩ := bn_some hf
        refine cWVi (As := [.int p2]) (rest := []) ⟨hx, hb, hml, hown, hts⟩ (c_X7_folderOf l D cI cZ cJ cT a0 H.size u35_3_0 p2 z_24 hz_24) (cwV 1 hts gX7_hard_X7_folderOf rfl rfl rfl (by decide +kernel) ⟨Nat.le_of_ble_eq_true rfl, Nat.le_of_ble_eq_true rfl⟩) hP hK (hDD u35_3_0) hS (own_free (hDD u35_3_0) hS hA) (va_recv hK hP (ci := 7) (q0 := 0) rfl rfl) rfl rfl hl.1 (Nat.le_of_ble_eq_true rfl) dX7_hard_43 ⟨Nat.le_of_ble_eq_true rfl, Nat.le_of_ble_eq_true rfl⟩ (fun H1 locs hP1 hk1 hS => ?_)
        have hP : va_P D cls (wX7 cI cZ a0 z_24.2) H1 := hP1
        clear hP1 hk1
        generalize H1 = H at hP hS ⊢
        refine lv_goto (tgt := 50) hx hb dX7_hard_46 (by decide) ?_
        exact j50_4 _ _ _ _ _ hf hP hS (lv_sub hl [1, 2, 3, 0] rfl)
    refine lv_if_eq (tgt := 34) hx hb dX7_hard_21 (by decide) (fun c_25 => ?_) (fun c_25 => ?_)
    · have hf := ite_t hf c_25
      refine lv_iconst (v := (-1)) hx hb dX7_hard_34 (by decide) ?_
      exact j35_3 _ _ _ _ _ hf hP hS (lv_sub hl [1, 3, 0] rfl)
    · have hf := ite_f hf c_25
      refine lv_aload_n hx hb dX7_hard_24 rfl (lv_at hl 1 rfl) ?_
      refine lv_iconst (v := 0) hx hb dX7_hard_25 (by decide) ?_
      refine lv_iload_n hx hb dX7_hard_26 rfl (lv_at hl 2 rfl) ?_
      refine lv_iconst (v := 0) hx hb dX7_hard_27 (by decide) ?_
      obtain ⟨z_26, hz_26, hf⟩ := bn_some hf
      refine cWVi (As := [.int 0, .int p1, .int 0]) (rest := []) ⟨hx, hb, hml, hown, hts⟩ (c_X7_walks l D cI cZ cJ cT a0 H.size u0 0 p1 0 z_26 hz_26) (cwV 3 hts gX7_hard_X7_walks rfl rfl rfl (by decide +kernel) ⟨Nat.le_of_ble_eq_true rfl, Nat.le_of_ble_eq_true rfl⟩) hP hK (hDD u0) hS (own_free (hDD u0) hS hA) (va_recv hK hP (ci := 7) (q0 := 0) rfl rfl) rfl rfl hl.1 (Nat.le_of_ble_eq_true rfl) dX7_hard_28 ⟨Nat.le_of_ble_eq_true rfl, Nat.le_of_ble_eq_true rfl⟩ (fun H1 locs hP1 hk1 hS => ?_)
      have hP : va_P D cls (wX7 cI cZ a0 z_26.2) H1 := hP1
      clear hP1 hk1
      generalize H1 = H at hP hS ⊢
      refine lv_goto (tgt := 35) hx hb dX7_hard_31 (by decide) ?_
      exact j35_3 _ _ _ _ _ hf hP hS (lv_sub hl [1, 3, 0] rfl)
  obtain ⟨k18_27, hk18_27, hf⟩ := jn_some hf
  have j18_27 : ∀ (H : Heap) (locs : List Loc) (ls : Array Slot), k18_27 = some o → va_P D cls (wX7 cI cZ a0 u0) H → va_S A s.heap H locs → lv_has ls 7 [(0, .ref (a0 0)), (1, .int p1), (2, .int p2)] → W p l e (headSpec wsX7_hard rmX7_hard).room s m args below meth c H locs 0 0 Q (F0 m 18 ls []) := by
    intro H locs ls hf hP hS hl
    have hf := qa0 hk18_27 hf
    refine lv_iconst (v := 0) hx hb dX7_hard_18 (by decide) ?_
    exact j19_2 _ _ _ _ hf hP hS (lv_sub hl [0, 1, 2] rfl)
  refine lv_if_eq (tgt := 18) hx hb dX7_hard_4 (by decide) (fun c_28 => ?_) (fun c_28 => ?_)
  · have hf := ite_t hf c_28
    exact j18_27 _ _ _ hf hP hS (lv_sub hl [0, 1, 2] rfl)
  · have hf := ite_f hf c_28
    refine lv_iload_n hx hb dX7_hard_7 rfl (lv_at hl 2 rfl) ?_
    obtain ⟨z_29, hz_29, hf⟩ := bn_some hf
    refine c0S (As := [.int p2]) (rest := []) ⟨hx, hb, hml, hown, hts⟩ (c_X7_isPath l D cI cZ cJ cT p2 z_29 hz_29) (va_cwS 1 hts gX7_hard_X7_isPath rfl rfl rfl (by decide +kernel) ⟨Nat.le_of_ble_eq_true rfl, Nat.le_of_ble_eq_true rfl⟩) rfl rfl hl.1 (Nat.le_of_ble_eq_true rfl) dX7_hard_8 ⟨Nat.le_of_ble_eq_true rfl, Nat.le_of_ble_eq_true rfl⟩ ?_
    refine lv_if_eq (tgt := 18) hx hb dX7_hard_11 (by decide) (fun c_30 => ?_) (fun c_30 => ?_)
    · have hf := ite_t hf c_30
      exact j18_27 _ _ _ hf hP hS (lv_sub hl [0, 1, 2] rfl)
    · have hf := ite_f hf c_30
      refine lv_iconst (v := 1) hx hb dX7_hard_14 (by decide) ?_
      refine lv_goto (tgt := 19) hx hb dX7_hard_15 (by decide) ?_
      exact j19_2 _ _ _ _ hf hP hS (lv_sub hl [0, 1, 2] rfl)
set_option maxRecDepth 20000 in
theorem ggX7_below_X7_at : GoodIn wsX7_below wsX7_at := goodIn_r _ [9] (by decide +kernel) (by decide +kernel)
set_option maxRecDepth 20000 in
theorem gX7_below_X7_at : GoodIn wsX7_below (va_wsS RX7 67 yX7_at wsX7_at) := goodIn_app (goodIn_of _ (by decide +kernel)) ggX7_below_X7_at
set_option maxRecDepth 20000 in
theorem ggX7_below_X7_entries : GoodIn wsX7_below wsX7_entries := goodIn_r _ [13, 1, 7, 8, 5, 9, 14, 15, 16, 17, 18, 19, 20, 21, 22, 23, 24, 25, 26, 27, 28, 29, 30, 31, 32] (by decide +kernel) (by decide +kernel)
set_option maxRecDepth 20000 in
theorem gX7_below_X7_entries : GoodIn wsX7_below (wsV RX7 109 RX7 yX7_entries wsX7_entries) := goodIn_app (goodIn_of _ (by decide +kernel)) ggX7_below_X7_entries
set_option maxRecDepth 20000 in
theorem ggX7_below_X7_kindOf : GoodIn wsX7_below wsX7_kindOf := goodIn_r _ [6, 1, 7, 8, 5, 9, 14, 15, 16, 17, 18, 19, 20, 21, 22, 23, 24, 25, 26, 27, 28, 29, 30, 31, 32] (by decide +kernel) (by decide +kernel)
set_option maxRecDepth 20000 in
theorem gX7_below_X7_kindOf : GoodIn wsX7_below (wsV RX7 131 RX7 yX7_kindOf wsX7_kindOf) := goodIn_app (goodIn_of _ (by decide +kernel)) ggX7_below_X7_kindOf
theorem dX7_below_0 : decode cX7_below 0 = .ok (.iconst 1, 1) := by decide +kernel
theorem dX7_below_1 : decode cX7_below 1 = .ok (.iload_n 1, 1) := by decide +kernel
theorem dX7_below_2 : decode cX7_below 2 = .ok (.ishl, 1) := by decide +kernel
theorem dX7_below_3 : decode cX7_below 3 = .ok (.istore_n 2, 1) := by decide +kernel
theorem dX7_below_4 : decode cX7_below 4 = .ok (.iconst 0, 1) := by decide +kernel
theorem dX7_below_5 : decode cX7_below 5 = .ok (.istore_n 3, 1) := by decide +kernel
theorem dX7_below_6 : decode cX7_below 6 = .ok (.iload_n 2, 1) := by decide +kernel
theorem dX7_below_7 : decode cX7_below 7 = .ok (.iload_n 3, 1) := by decide +kernel
theorem dX7_below_8 : decode cX7_below 8 = .ok (.if_icmp .eq 87, 3) := by decide +kernel
theorem dX7_below_11 : decode cX7_below 11 = .ok (.iload_n 2, 1) := by decide +kernel
theorem dX7_below_12 : decode cX7_below 12 = .ok (.istore_n 3, 1) := by decide +kernel
theorem dX7_below_13 : decode cX7_below 13 = .ok (.iconst 0, 1) := by decide +kernel
theorem dX7_below_14 : decode cX7_below 14 = .ok (.istore 4, 2) := by decide +kernel
theorem dX7_below_16 : decode cX7_below 16 = .ok (.iload 4, 2) := by decide +kernel
theorem dX7_below_18 : decode cX7_below 18 = .ok (.bipush 32, 2) := by decide +kernel
theorem dX7_below_20 : decode cX7_below 20 = .ok (.if_icmp .ge 72, 3) := by decide +kernel
theorem dX7_below_23 : decode cX7_below 23 = .ok (.iconst 0, 1) := by decide +kernel
theorem dX7_below_24 : decode cX7_below 24 = .ok (.istore 5, 2) := by decide +kernel
theorem dX7_below_26 : decode cX7_below 26 = .ok (.iload_n 2, 1) := by decide +kernel
theorem dX7_below_27 : decode cX7_below 27 = .ok (.iload 4, 2) := by decide +kernel
theorem dX7_below_29 : decode cX7_below 29 = .ok (.ishr, 1) := by decide +kernel
theorem dX7_below_30 : decode cX7_below 30 = .ok (.iconst 1, 1) := by decide +kernel
theorem dX7_below_31 : decode cX7_below 31 = .ok (.iand, 1) := by decide +kernel
theorem dX7_below_32 : decode cX7_below 32 = .ok (.iconst 1, 1) := by decide +kernel
theorem dX7_below_33 : decode cX7_below 33 = .ok (.if_icmp .ne 53, 3) := by decide +kernel
theorem dX7_below_36 : decode cX7_below 36 = .ok (.aload_n 0, 1) := by decide +kernel
theorem dX7_below_37 : decode cX7_below 37 = .ok (.iload 4, 2) := by decide +kernel
theorem dX7_below_39 : decode cX7_below 39 = .ok (.invokevirtual 131, 3) := by decide +kernel
theorem dX7_below_42 : decode cX7_below 42 = .ok (.iconst 1, 1) := by decide +kernel
theorem dX7_below_43 : decode cX7_below 43 = .ok (.if_icmp .ne 43, 3) := by decide +kernel
theorem dX7_below_46 : decode cX7_below 46 = .ok (.iload 5, 2) := by decide +kernel
theorem dX7_below_48 : decode cX7_below 48 = .ok (.aload_n 0, 1) := by decide +kernel
theorem dX7_below_49 : decode cX7_below 49 = .ok (.iconst 0, 1) := by decide +kernel
theorem dX7_below_50 : decode cX7_below 50 = .ok (.iload 4, 2) := by decide +kernel
theorem dX7_below_52 : decode cX7_below 52 = .ok (.invokevirtual 109, 3) := by decide +kernel
theorem dX7_below_55 : decode cX7_below 55 = .ok (.if_icmp .ge 31, 3) := by decide +kernel
theorem dX7_below_58 : decode cX7_below 58 = .ok (.iload_n 2, 1) := by decide +kernel
theorem dX7_below_59 : decode cX7_below 59 = .ok (.iconst 1, 1) := by decide +kernel
theorem dX7_below_60 : decode cX7_below 60 = .ok (.aload_n 0, 1) := by decide +kernel
theorem dX7_below_61 : decode cX7_below 61 = .ok (.getfield 7, 3) := by decide +kernel
theorem dX7_below_64 : decode cX7_below 64 = .ok (.iconst 0, 1) := by decide +kernel
theorem dX7_below_65 : decode cX7_below 65 = .ok (.iload 4, 2) := by decide +kernel
theorem dX7_below_67 : decode cX7_below 67 = .ok (.invokestatic 67, 3) := by decide +kernel
theorem dX7_below_70 : decode cX7_below 70 = .ok (.bipush 13, 2) := by decide +kernel
theorem dX7_below_72 : decode cX7_below 72 = .ok (.iadd, 1) := by decide +kernel
theorem dX7_below_73 : decode cX7_below 73 = .ok (.iload 5, 2) := by decide +kernel
theorem dX7_below_75 : decode cX7_below 75 = .ok (.iadd, 1) := by decide +kernel
theorem dX7_below_76 : decode cX7_below 76 = .ok (.iaload, 1) := by decide +kernel
theorem dX7_below_77 : decode cX7_below 77 = .ok (.ishl, 1) := by decide +kernel
theorem dX7_below_78 : decode cX7_below 78 = .ok (.ior, 1) := by decide +kernel
theorem dX7_below_79 : decode cX7_below 79 = .ok (.istore_n 2, 1) := by decide +kernel
theorem dX7_below_80 : decode cX7_below 80 = .ok (.iinc 5 1, 3) := by decide +kernel
theorem dX7_below_83 : decode cX7_below 83 = .ok (.goto (-57), 3) := by decide +kernel
theorem dX7_below_86 : decode cX7_below 86 = .ok (.iinc 4 1, 3) := by decide +kernel
theorem dX7_below_89 : decode cX7_below 89 = .ok (.goto (-73), 3) := by decide +kernel
theorem dX7_below_92 : decode cX7_below 92 = .ok (.goto (-86), 3) := by decide +kernel
theorem dX7_below_95 : decode cX7_below 95 = .ok (.iload_n 2, 1) := by decide +kernel
theorem dX7_below_96 : decode cX7_below 96 = .ok (.ireturn, 1) := by decide +kernel
def f_X7_below (u0 : S1) (p1 : Int32) : Option (Int32) := qj2 (fun (r6_1 : Int32 → Int32 → Option (Int32)) (y6_1_2 : Int32) (y6_1_3 : Int32) => if y6_1_2 = y6_1_3 then some y6_1_2 else qj3 (fun (r16_3 : Int32 → Int32 → Int32 → Option (Int32)) (y16_3_2 : Int32) (y16_3_3 : Int32) (y16_3_4 : Int32) => if 32 ≤ y16_3_4 then r6_1 y16_3_2 y16_3_3 else qj4 (fun (r26_5 : Int32 → Int32 → Int32 → Int32 → Option (Int32)) (y26_5_2 : Int32) (y26_5_3 : Int32) (y26_5_4 : Int32) (y26_5_5 : Int32) => jn (r16_3 y26_5_2 y26_5_3 (y26_5_4 + 1)) (fun k86_6 => if ((y26_5_2 >>> (y26_5_4 &&& 31)) &&& 1) = 1 then bn (f_X7_kindOf u0 y26_5_4) (fun z_8 => if z_8 = 1 then bn (f_X7_entries u0 0 y26_5_4) (fun z_10 => if z_10 ≤ y26_5_5 then k86_6 else bn (f_X7_at 0 y26_5_4) (fun z_12 => chk (inb ((z_12 + 13) + y26_5_5) 8480) (r26_5 (y26_5_2 ||| (1 <<< ((u0 0 ((z_12 + 13) + y26_5_5).toNatClampNeg) &&& 31))) y26_5_3 y26_5_4 (y26_5_5 + 1)))) else k86_6) else k86_6)) (fun k26_5 => k26_5 y16_3_2 y16_3_3 y16_3_4 0)) (fun k16_3 => k16_3 y6_1_2 y6_1_2 0)) (fun k6_1 => k6_1 (1 <<< (p1 &&& 31)) 0)
def rmX7_below : Room := { frames := 2, cells := 0, slots := 0, locals := 44 }
set_option maxHeartbeats 4000000 in
set_option maxRecDepth 100000 in
theorem c_X7_below (l : Launch) (D : va_G) (cI cZ cJ cT : ClassId) (a0 : Nat → Nat) (u0 : S1) (p1 : Int32) (o : Int32) (hf : f_X7_below u0 p1 = some o) : Met l yX7_below wsX7_below rmX7_below (va_Pc [.ref (a0 0), .int p1] (PR D cls (tys cI cZ cJ cT) ((wX7 cI cZ a0 u0)))) (QR o) 0 0 (fun _ => False) := by
  refine Met.ofW (cc := cX7_below) (maxL := 6) (ret := (some .int)) (by decide) rfl ?_
  intro p e s m args below meth c s₁ B hml hv
  obtain ⟨hav, hP, hK⟩ := hv
  have hx := B.exec
  have hb := B.bytes
  have hr := B.returns
  have hlocks := B.notSynchronized
  have hts := atoms_spec (ws := wsX7_below) B.pre
  have hown : s.vm.findClass RX7 = some m.cls := findClass_of_methodNamed B.named
  have i7 : ∀ w ∈ wsX70, w ∈ wsX7_below := fun w h => List.mem_cons_of_mem _ (List.mem_append_right _ h)
  have hk7 := hts (.fieldLink RX7 7 "InoderyModel" "s" "[I") (by decide +kernel)
  refine Wq (fun Q hQ => ?_)
  refine W_entry hav (Nat.le_of_ble_eq_true rfl) (fun ls hl => ?_)
  have hl : lv_has ls 6 [(0, .ref (a0 0)), (1, .int p1)] := hl
  unfold f_X7_below at hf
  refine lv_iconst (v := 1) hx hb dX7_below_0 (by decide) ?_
  refine lv_iload_n hx hb dX7_below_1 rfl (lv_at hl 1 rfl) ?_
  refine lv_ishl hx hb dX7_below_2 ?_
  refine lv_istore_n (lv' := [(2, .int (1 <<< (p1 &&& 31))), (0, .ref (a0 0)), (1, .int p1)]) hx hb dX7_below_3 rfl hl (by decide) rfl (fun ls hl => ?_)
  refine lv_iconst (v := 0) hx hb dX7_below_4 (by decide) ?_
  refine lv_istore_n (lv' := [(3, .int 0), (2, .int (1 <<< (p1 &&& 31))), (0, .ref (a0 0)), (1, .int p1)]) hx hb dX7_below_5 rfl hl (by decide) rfl (fun ls hl => ?_)
  obtain ⟨G6_1, hG6_1, hf⟩ := qj2_some hf
  have j6_1 : ∀ (n : Nat) (y6_1_2 : Int32) (y6_1_3 : Int32) (ls : Array Slot), ql2 G6_1 n y6_1_2 y6_1_3 = some o → lv_has ls 6 [(0, .ref (a0 0)), (2, .int y6_1_2), (3, .int y6_1_3)] → W p l e (headSpec wsX7_below rmX7_below).room s m args below meth c s.heap [] 0 0 Q (F0 m 6 ls []) := by
    intro n
    induction n with
    | zero => intro y6_1_2 y6_1_3 ls hf hl; exact (ql2_z hf).elim
    | succ n ih6_1 =>
      intro y6_1_2 y6_1_3 ls hf hl
      have hf := ql2_s hG6_1 hf
      obtain ⟨r6_1, hr6_1⟩ : ∃ z, z = ql2 G6_1 n := ⟨_, rfl⟩
      rw [← hr6_1] at hf ih6_1
      refine lv_iload_n hx hb dX7_below_6 rfl (lv_at hl 1 rfl) ?_
      refine lv_iload_n hx hb dX7_below_7 rfl (lv_at hl 2 rfl) ?_
      refine lv_icmp_eq (tgt := 95) hx hb dX7_below_8 (by decide) (fun c_2 => ?_) (fun c_2 => ?_)
      · have hf := ite_t hf c_2
        refine lv_iload_n hx hb dX7_below_95 rfl (lv_at hl 1 rfl) ?_
        rw [hQ]
        exact W.iret hx hb hr (fun t ht hW => ⟨_, rfl, Option.some.inj hf, ht⟩) (fun _ h => nomatch h) dX7_below_96 hlocks
      · have hf := ite_f hf c_2
        refine lv_iload_n hx hb dX7_below_11 rfl (lv_at hl 1 rfl) ?_
        refine lv_istore_n (lv' := [(3, .int y6_1_2), (0, .ref (a0 0)), (2, .int y6_1_2)]) hx hb dX7_below_12 rfl hl (by decide) rfl (fun ls hl => ?_)
        refine lv_iconst (v := 0) hx hb dX7_below_13 (by decide) ?_
        refine lv_istore (lv' := [(4, .int 0), (3, .int y6_1_2), (0, .ref (a0 0)), (2, .int y6_1_2)]) hx hb dX7_below_14 hl (by decide) rfl (fun ls hl => ?_)
        obtain ⟨G16_3, hG16_3, hf⟩ := qj3_some hf
        have j16_3 : ∀ (n : Nat) (y16_3_2 : Int32) (y16_3_3 : Int32) (y16_3_4 : Int32) (ls : Array Slot), ql3 G16_3 n y16_3_2 y16_3_3 y16_3_4 = some o → lv_has ls 6 [(0, .ref (a0 0)), (2, .int y16_3_2), (3, .int y16_3_3), (4, .int y16_3_4)] → W p l e (headSpec wsX7_below rmX7_below).room s m args below meth c s.heap [] 0 0 Q (F0 m 16 ls []) := by
          intro n
          induction n with
          | zero => intro y16_3_2 y16_3_3 y16_3_4 ls hf hl; exact (ql3_z hf).elim
          | succ n ih16_3 =>
            intro y16_3_2 y16_3_3 y16_3_4 ls hf hl
            have hf := ql3_s hG16_3 hf
            obtain ⟨r16_3, hr16_3⟩ : ∃ z, z = ql3 G16_3 n := ⟨_, rfl⟩
            rw [← hr16_3] at hf ih16_3
            refine lv_iload hx hb dX7_below_16 (lv_at hl 3 rfl) ?_
            refine lv_bipush (v := 32) hx hb dX7_below_18 (by decide) ?_
            refine lv_icmp_ge (tgt := 92) hx hb dX7_below_20 (by decide) (fun c_4 => ?_) (fun c_4 => ?_)
            · have hf := ite_t hf c_4
              refine lv_goto (tgt := 6) hx hb dX7_below_92 (by decide) ?_
              exact ih6_1 _ _ _ hf (lv_sub hl [0, 1, 2] rfl)
            · have hf := ite_f hf c_4
              refine lv_iconst (v := 0) hx hb dX7_below_23 (by decide) ?_
              refine lv_istore (lv' := [(5, .int 0), (0, .ref (a0 0)), (2, .int y16_3_2), (3, .int y16_3_3), (4, .int y16_3_4)]) hx hb dX7_below_24 hl (by decide) rfl (fun ls hl => ?_)
              obtain ⟨G26_5, hG26_5, hf⟩ := qj4_some hf
              have j26_5 : ∀ (n : Nat) (y26_5_2 : Int32) (y26_5_3 : Int32) (y26_5_4 : Int32) (y26_5_5 : Int32) (ls : Array Slot), ql4 G26_5 n y26_5_2 y26_5_3 y26_5_4 y26_5_5 = some o → lv_has ls 6 [(0, .ref (a0 0)), (2, .int y26_5_2), (3, .int y26_5_3), (4, .int y26_5_4), (5, .int y26_5_5)] → W p l e (headSpec wsX7_below rmX7_below).room s m args below meth c s.heap [] 0 0 Q (F0 m 26 ls []) := by
                intro n
                induction n with
                | zero => intro y26_5_2 y26_5_3 y26_5_4 y26_5_5 ls hf hl; exact (ql4_z hf).elim
                | succ n ih26_5 =>
                  intro y26_5_2 y26_5_3 y26_5_4 y26_5_5 ls hf hl
                  have hf := ql4_s hG26_5 hf
                  obtain ⟨r26_5, hr26_5⟩ : ∃ z, z = ql4 G26_5 n := ⟨_, rfl⟩
                  rw [← hr26_5] at hf ih26_5
                  refine lv_iload_n hx hb dX7_below_26 rfl (lv_at hl 1 rfl) ?_
                  refine lv_iload hx hb dX7_below_27 (lv_at hl 3 rfl) ?_
                  refine lv_ishr hx hb dX7_below_29 ?_
                  refine lv_iconst (v := 1) hx hb dX7_below_30 (by decide) ?_
                  refine lv_iand hx hb dX7_below_31 ?_
                  refine lv_iconst (v := 1) hx hb dX7_below_32 (by decide) ?_
                  obtain ⟨k86_6, hk86_6, hf⟩ := jn_some hf
                  have j86_6 : ∀ (ls : Array Slot), k86_6 = some o → lv_has ls 6 [(0, .ref (a0 0)), (2, .int y26_5_2), (3, .int y26_5_3), (4, .int y26_5_4)] → W p l e (headSpec wsX7_below rmX7_below).room s m args below meth c s.heap [] 0 0 Q (F0 m 86 ls []) := by
                    intro ls hf hl
                    have hf := qa0 hk86_6 hf
                    refine lv_iinc (v := y26_5_4 + 1) (lv' := [(4, .int (y26_5_4 + 1)), (0, .ref (a0 0)), (2, .int y26_5_2), (3, .int y26_5_3)]) hx hb dX7_below_86 hl (k := 3) rfl rfl (by decide) rfl (fun ls hl => ?_)
                    refine lv_goto (tgt := 16) hx hb dX7_below_89 (by decide) ?_
                    exact ih16_3 _ _ _ _ hf (lv_sub hl [1, 2, 3, 0] rfl)
                  refine lv_icmp_ne (tgt := 86) hx hb dX7_below_33 (by decide) (fun c_7 => ?_) (fun c_7 => ?_)
                  · have hf := ite_f hf c_7
                    exact j86_6 _ hf (lv_sub hl [0, 1, 2, 3] rfl)
                  · have hf := ite_t hf c_7
                    refine lv_aload_n hx hb dX7_below_36 rfl (lv_at hl 0 rfl) ?_
                    refine lv_iload hx hb dX7_below_37 (lv_at hl 3 rfl) ?_
                    obtain ⟨z_8, hz_8, hf⟩ := bn_some hf
                    refine cRV (As := [.int y26_5_4]) (rest := []) ⟨hx, hb, hml, hown, hts⟩ (c_X7_kindOf l D cI cZ cJ cT a0 u0 y26_5_4 z_8 hz_8) (cwV 1 hts gX7_below_X7_kindOf rfl rfl rfl (by decide +kernel) ⟨Nat.le_of_ble_eq_true rfl, Nat.le_of_ble_eq_true rfl⟩) hP hK (va_recv hK hP (ci := 7) (q0 := 0) rfl rfl) rfl rfl hl.1 (Nat.le_of_ble_eq_true rfl) dX7_below_39 ⟨Nat.le_of_ble_eq_true rfl, Nat.le_of_ble_eq_true rfl⟩ ?_
                    refine lv_iconst (v := 1) hx hb dX7_below_42 (by decide) ?_
                    refine lv_icmp_ne (tgt := 86) hx hb dX7_below_43 (by decide) (fun c_9 => ?_) (fun c_9 => ?_)
                    · have hf := ite_f hf c_9
                      exact j86_6 _ hf (lv_sub hl [0, 1, 2, 3] rfl)
                    · have hf := ite_t hf c_9
                      refine lv_iload hx hb dX7_below_46 (lv_at hl 4 rfl) ?_
                      refine lv_aload_n hx hb dX7_below_48 rfl (lv_at hl 0 rfl) ?_
                      refine lv_iconst (v := 0) hx hb dX7_below_49 (by decide) ?_
                      refine lv_iload hx hb dX7_below_50 (lv_at hl 3 rfl) ?_
                      obtain ⟨z_10, hz_10, hf⟩ := bn_some hf
                      refine cRV (As := [.int 0, .int y26_5_4]) (rest := [.int y26_5_5]) ⟨hx, hb, hml, hown, hts⟩ (c_X7_entries l D cI cZ cJ cT a0 u0 0 y26_5_4 z_10 hz_10) (cwV 2 hts gX7_below_X7_entries rfl rfl rfl (by decide +kernel) ⟨Nat.le_of_ble_eq_true rfl, Nat.le_of_ble_eq_true rfl⟩) hP hK (va_recv hK hP (ci := 7) (q0 := 0) rfl rfl) rfl rfl hl.1 (Nat.le_of_ble_eq_true rfl) dX7_below_52 ⟨Nat.le_of_ble_eq_true rfl, Nat.le_of_ble_eq_true rfl⟩ ?_
                      refine lv_icmp_ge (tgt := 86) hx hb dX7_below_55 (by decide) (fun c_11 => ?_) (fun c_11 => ?_)
                      · have hf := ite_t hf c_11
                        exact j86_6 _ hf (lv_sub hl [0, 1, 2, 3] rfl)
                      · have hf := ite_f hf c_11
                        refine lv_iload_n hx hb dX7_below_58 rfl (lv_at hl 1 rfl) ?_
                        refine lv_iconst (v := 1) hx hb dX7_below_59 (by decide) ?_
                        refine lv_aload_n hx hb dX7_below_60 rfl (lv_at hl 0 rfl) ?_
                        refine va_get (D := D) (ci := 7) (v := .ref (a0 1)) (C := RX7) (T := TX7) (N := 19) hx hb hts i7 hown hK hP 0 rfl rfl 0 (by decide) hk7 (fun _ h9 => h9) rfl dX7_below_61 ?_
                        refine lv_iconst (v := 0) hx hb dX7_below_64 (by decide) ?_
                        refine lv_iload hx hb dX7_below_65 (lv_at hl 3 rfl) ?_
                        obtain ⟨z_12, hz_12, hf⟩ := bn_some hf
                        refine c0S (As := [.int 0, .int y26_5_4]) (rest := [.ref (a0 1), .int 1, .int y26_5_2]) ⟨hx, hb, hml, hown, hts⟩ (c_X7_at l D cI cZ cJ cT 0 y26_5_4 z_12 hz_12) (va_cwS 2 hts gX7_below_X7_at rfl rfl rfl (by decide +kernel) ⟨Nat.le_of_ble_eq_true rfl, Nat.le_of_ble_eq_true rfl⟩) rfl rfl hl.1 (Nat.le_of_ble_eq_true rfl) dX7_below_67 ⟨Nat.le_of_ble_eq_true rfl, Nat.le_of_ble_eq_true rfl⟩ ?_
                        refine lv_bipush (v := 13) hx hb dX7_below_70 (by decide) ?_
                        refine lv_iadd hx hb dX7_below_72 ?_
                        refine lv_iload hx hb dX7_below_73 (lv_at hl 4 rfl) ?_
                        refine lv_iadd hx hb dX7_below_75 ?_
                        obtain ⟨hi, hf⟩ := chk_some hf
                        refine va_iald hx hb hK hP 1 0 rfl rfl (inb_in hi) dX7_below_76 ?_
                        refine lv_ishl hx hb dX7_below_77 ?_
                        refine lv_ior hx hb dX7_below_78 ?_
                        refine lv_istore_n (lv' := [(2, .int (y26_5_2 ||| (1 <<< ((u0 0 ((z_12 + 13) + y26_5_5).toNatClampNeg) &&& 31)))), (0, .ref (a0 0)), (3, .int y26_5_3), (4, .int y26_5_4), (5, .int y26_5_5)]) hx hb dX7_below_79 rfl hl (by decide) rfl (fun ls hl => ?_)
                        refine lv_iinc (v := y26_5_5 + 1) (lv' := [(5, .int (y26_5_5 + 1)), (2, .int (y26_5_2 ||| (1 <<< ((u0 0 ((z_12 + 13) + y26_5_5).toNatClampNeg) &&& 31)))), (0, .ref (a0 0)), (3, .int y26_5_3), (4, .int y26_5_4)]) hx hb dX7_below_80 hl (k := 4) rfl rfl (by decide) rfl (fun ls hl => ?_)
                        refine lv_goto (tgt := 26) hx hb dX7_below_83 (by decide) ?_
                        exact ih26_5 _ _ _ _ _ hf (lv_sub hl [2, 1, 3, 4, 0] rfl)
              exact j26_5 4096 _ _ _ _ _ hf (lv_sub hl [1, 2, 3, 4, 0] rfl)
        exact j16_3 4096 _ _ _ _ hf (lv_sub hl [2, 3, 1, 0] rfl)
  exact j6_1 4096 _ _ _ hf (lv_sub hl [2, 1, 0] rfl)
set_option maxRecDepth 20000 in
theorem ggX7_canTake_X7_below : GoodIn wsX7_canTake wsX7_below := goodIn_r _ [21, 6, 14, 15, 16, 4, 17, 11, 12, 13, 22, 23, 24, 25, 35, 36, 37, 38, 39, 40, 41, 42, 43, 44, 45, 46, 47, 48, 49, 50, 51, 52, 53] (by decide +kernel) (by decide +kernel)
set_option maxRecDepth 20000 in
theorem gX7_canTake_X7_below : GoodIn wsX7_canTake (wsV RX7 173 RX7 yX7_below wsX7_below) := goodIn_app (goodIn_of _ (by decide +kernel)) ggX7_canTake_X7_below
set_option maxRecDepth 20000 in
theorem ggX7_canTake_X7_entries : GoodIn wsX7_canTake wsX7_entries := goodIn_r _ [25, 6, 11, 12, 4, 13, 35, 36, 37, 38, 39, 40, 41, 42, 43, 44, 45, 46, 47, 48, 49, 50, 51, 52, 53] (by decide +kernel) (by decide +kernel)
set_option maxRecDepth 20000 in
theorem gX7_canTake_X7_entries : GoodIn wsX7_canTake (wsV RX7 109 RX7 yX7_entries wsX7_entries) := goodIn_app (goodIn_of _ (by decide +kernel)) ggX7_canTake_X7_entries
set_option maxRecDepth 20000 in
theorem ggX7_canTake_X7_entryOf : GoodIn wsX7_canTake wsX7_entryOf := goodIn_r _ [5, 6, 7, 8, 9, 4, 10, 11, 12, 13, 35, 36, 37, 38, 39, 40, 41, 42, 43, 44, 45, 46, 47, 48, 49, 50, 51, 52, 53] (by decide +kernel) (by decide +kernel)
set_option maxRecDepth 20000 in
theorem gX7_canTake_X7_entryOf : GoodIn wsX7_canTake (wsV RX7 124 RX7 yX7_entryOf wsX7_entryOf) := goodIn_app (goodIn_of _ (by decide +kernel)) ggX7_canTake_X7_entryOf
set_option maxRecDepth 20000 in
theorem ggX7_canTake_X7_kindOf : GoodIn wsX7_canTake wsX7_kindOf := goodIn_r _ [17, 6, 11, 12, 4, 13, 35, 36, 37, 38, 39, 40, 41, 42, 43, 44, 45, 46, 47, 48, 49, 50, 51, 52, 53] (by decide +kernel) (by decide +kernel)
set_option maxRecDepth 20000 in
theorem gX7_canTake_X7_kindOf : GoodIn wsX7_canTake (wsV RX7 131 RX7 yX7_kindOf wsX7_kindOf) := goodIn_app (goodIn_of _ (by decide +kernel)) ggX7_canTake_X7_kindOf
set_option maxRecDepth 20000 in
theorem ggX7_canTake_X7_mayChange : GoodIn wsX7_canTake wsX7_mayChange := goodIn_r _ [29, 30, 31, 32, 4, 33, 6, 34, 11, 12, 13, 35, 36, 37, 38, 39, 40, 41, 42, 43, 44, 45, 46, 47, 48, 49, 50, 51, 52, 53] (by decide +kernel) (by decide +kernel)
set_option maxRecDepth 20000 in
theorem gX7_canTake_X7_mayChange : GoodIn wsX7_canTake (wsV RX7 146 RX7 yX7_mayChange wsX7_mayChange) := goodIn_app (goodIn_of _ (by decide +kernel)) ggX7_canTake_X7_mayChange
theorem dX7_canTake_0 : decode cX7_canTake 0 = .ok (.aload_n 0, 1) := by decide +kernel
theorem dX7_canTake_1 : decode cX7_canTake 1 = .ok (.iconst 0, 1) := by decide +kernel
theorem dX7_canTake_2 : decode cX7_canTake 2 = .ok (.iload_n 2, 1) := by decide +kernel
theorem dX7_canTake_3 : decode cX7_canTake 3 = .ok (.iload_n 3, 1) := by decide +kernel
theorem dX7_canTake_4 : decode cX7_canTake 4 = .ok (.invokevirtual 124, 3) := by decide +kernel
theorem dX7_canTake_7 : decode cX7_canTake 7 = .ok (.istore 5, 2) := by decide +kernel
theorem dX7_canTake_9 : decode cX7_canTake 9 = .ok (.aload_n 0, 1) := by decide +kernel
theorem dX7_canTake_10 : decode cX7_canTake 10 = .ok (.iload_n 1, 1) := by decide +kernel
theorem dX7_canTake_11 : decode cX7_canTake 11 = .ok (.invokevirtual 131, 3) := by decide +kernel
theorem dX7_canTake_14 : decode cX7_canTake 14 = .ok (.iconst 1, 1) := by decide +kernel
theorem dX7_canTake_15 : decode cX7_canTake 15 = .ok (.if_icmp .ne 7, 3) := by decide +kernel
theorem dX7_canTake_18 : decode cX7_canTake 18 = .ok (.iconst 1, 1) := by decide +kernel
theorem dX7_canTake_19 : decode cX7_canTake 19 = .ok (.goto 4, 3) := by decide +kernel
theorem dX7_canTake_22 : decode cX7_canTake 22 = .ok (.iconst 0, 1) := by decide +kernel
theorem dX7_canTake_23 : decode cX7_canTake 23 = .ok (.istore 6, 2) := by decide +kernel
theorem dX7_canTake_25 : decode cX7_canTake 25 = .ok (.iload 6, 2) := by decide +kernel
theorem dX7_canTake_27 : decode cX7_canTake 27 = .ok (.ifCond .eq 18, 3) := by decide +kernel
theorem dX7_canTake_30 : decode cX7_canTake 30 = .ok (.aload_n 0, 1) := by decide +kernel
theorem dX7_canTake_31 : decode cX7_canTake 31 = .ok (.iload_n 1, 1) := by decide +kernel
theorem dX7_canTake_32 : decode cX7_canTake 32 = .ok (.invokevirtual 173, 3) := by decide +kernel
theorem dX7_canTake_35 : decode cX7_canTake 35 = .ok (.iload_n 2, 1) := by decide +kernel
theorem dX7_canTake_36 : decode cX7_canTake 36 = .ok (.ishr, 1) := by decide +kernel
theorem dX7_canTake_37 : decode cX7_canTake 37 = .ok (.iconst 1, 1) := by decide +kernel
theorem dX7_canTake_38 : decode cX7_canTake 38 = .ok (.iand, 1) := by decide +kernel
theorem dX7_canTake_39 : decode cX7_canTake 39 = .ok (.iconst 1, 1) := by decide +kernel
theorem dX7_canTake_40 : decode cX7_canTake 40 = .ok (.if_icmp .ne 5, 3) := by decide +kernel
theorem dX7_canTake_43 : decode cX7_canTake 43 = .ok (.iconst 0, 1) := by decide +kernel
theorem dX7_canTake_44 : decode cX7_canTake 44 = .ok (.ireturn, 1) := by decide +kernel
theorem dX7_canTake_45 : decode cX7_canTake 45 = .ok (.iload 5, 2) := by decide +kernel
theorem dX7_canTake_47 : decode cX7_canTake 47 = .ok (.iconst (-1), 1) := by decide +kernel
theorem dX7_canTake_48 : decode cX7_canTake 48 = .ok (.if_icmp .ne 28, 3) := by decide +kernel
theorem dX7_canTake_51 : decode cX7_canTake 51 = .ok (.iload_n 2, 1) := by decide +kernel
theorem dX7_canTake_52 : decode cX7_canTake 52 = .ok (.iload 4, 2) := by decide +kernel
theorem dX7_canTake_54 : decode cX7_canTake 54 = .ok (.if_icmp .eq 14, 3) := by decide +kernel
theorem dX7_canTake_57 : decode cX7_canTake 57 = .ok (.aload_n 0, 1) := by decide +kernel
theorem dX7_canTake_58 : decode cX7_canTake 58 = .ok (.iconst 0, 1) := by decide +kernel
theorem dX7_canTake_59 : decode cX7_canTake 59 = .ok (.iload_n 2, 1) := by decide +kernel
theorem dX7_canTake_60 : decode cX7_canTake 60 = .ok (.invokevirtual 109, 3) := by decide +kernel
theorem dX7_canTake_63 : decode cX7_canTake 63 = .ok (.bipush 8, 2) := by decide +kernel
theorem dX7_canTake_65 : decode cX7_canTake 65 = .ok (.if_icmp .ge 7, 3) := by decide +kernel
theorem dX7_canTake_68 : decode cX7_canTake 68 = .ok (.iconst 1, 1) := by decide +kernel
theorem dX7_canTake_69 : decode cX7_canTake 69 = .ok (.goto 47, 3) := by decide +kernel
theorem dX7_canTake_72 : decode cX7_canTake 72 = .ok (.iconst 0, 1) := by decide +kernel
theorem dX7_canTake_73 : decode cX7_canTake 73 = .ok (.goto 43, 3) := by decide +kernel
theorem dX7_canTake_76 : decode cX7_canTake 76 = .ok (.iload 6, 2) := by decide +kernel
theorem dX7_canTake_78 : decode cX7_canTake 78 = .ok (.aload_n 0, 1) := by decide +kernel
theorem dX7_canTake_79 : decode cX7_canTake 79 = .ok (.iload 5, 2) := by decide +kernel
theorem dX7_canTake_81 : decode cX7_canTake 81 = .ok (.invokevirtual 131, 3) := by decide +kernel
theorem dX7_canTake_84 : decode cX7_canTake 84 = .ok (.iconst 1, 1) := by decide +kernel
theorem dX7_canTake_85 : decode cX7_canTake 85 = .ok (.if_icmp .ne 7, 3) := by decide +kernel
theorem dX7_canTake_88 : decode cX7_canTake 88 = .ok (.iconst 1, 1) := by decide +kernel
theorem dX7_canTake_89 : decode cX7_canTake 89 = .ok (.goto 4, 3) := by decide +kernel
theorem dX7_canTake_92 : decode cX7_canTake 92 = .ok (.iconst 0, 1) := by decide +kernel
theorem dX7_canTake_93 : decode cX7_canTake 93 = .ok (.if_icmp .ne 22, 3) := by decide +kernel
theorem dX7_canTake_96 : decode cX7_canTake 96 = .ok (.iload 6, 2) := by decide +kernel
theorem dX7_canTake_98 : decode cX7_canTake 98 = .ok (.ifCond .eq 13, 3) := by decide +kernel
theorem dX7_canTake_101 : decode cX7_canTake 101 = .ok (.aload_n 0, 1) := by decide +kernel
theorem dX7_canTake_102 : decode cX7_canTake 102 = .ok (.iconst 0, 1) := by decide +kernel
theorem dX7_canTake_103 : decode cX7_canTake 103 = .ok (.iload 5, 2) := by decide +kernel
theorem dX7_canTake_105 : decode cX7_canTake 105 = .ok (.invokevirtual 109, 3) := by decide +kernel
theorem dX7_canTake_108 : decode cX7_canTake 108 = .ok (.ifCond .ne 7, 3) := by decide +kernel
theorem dX7_canTake_111 : decode cX7_canTake 111 = .ok (.iconst 1, 1) := by decide +kernel
theorem dX7_canTake_112 : decode cX7_canTake 112 = .ok (.goto 4, 3) := by decide +kernel
theorem dX7_canTake_115 : decode cX7_canTake 115 = .ok (.iconst 0, 1) := by decide +kernel
theorem dX7_canTake_116 : decode cX7_canTake 116 = .ok (.istore 7, 2) := by decide +kernel
theorem dX7_canTake_118 : decode cX7_canTake 118 = .ok (.iload 7, 2) := by decide +kernel
theorem dX7_canTake_120 : decode cX7_canTake 120 = .ok (.ifCond .eq 24, 3) := by decide +kernel
theorem dX7_canTake_123 : decode cX7_canTake 123 = .ok (.aload_n 0, 1) := by decide +kernel
theorem dX7_canTake_124 : decode cX7_canTake 124 = .ok (.iload_n 2, 1) := by decide +kernel
theorem dX7_canTake_125 : decode cX7_canTake 125 = .ok (.invokevirtual 146, 3) := by decide +kernel
theorem dX7_canTake_128 : decode cX7_canTake 128 = .ok (.ifCond .eq 16, 3) := by decide +kernel
theorem dX7_canTake_131 : decode cX7_canTake 131 = .ok (.aload_n 0, 1) := by decide +kernel
theorem dX7_canTake_132 : decode cX7_canTake 132 = .ok (.iload 4, 2) := by decide +kernel
theorem dX7_canTake_134 : decode cX7_canTake 134 = .ok (.invokevirtual 146, 3) := by decide +kernel
theorem dX7_canTake_137 : decode cX7_canTake 137 = .ok (.ifCond .eq 7, 3) := by decide +kernel
theorem dX7_canTake_140 : decode cX7_canTake 140 = .ok (.iconst 1, 1) := by decide +kernel
theorem dX7_canTake_141 : decode cX7_canTake 141 = .ok (.goto 4, 3) := by decide +kernel
theorem dX7_canTake_144 : decode cX7_canTake 144 = .ok (.iconst 0, 1) := by decide +kernel
theorem dX7_canTake_145 : decode cX7_canTake 145 = .ok (.ireturn, 1) := by decide +kernel
def f_X7_canTake (u0 : S1) (p1 : Int32) (p2 : Int32) (p3 : Int32) (p4 : Int32) : Option (Int32) := bn (f_X7_entryOf u0 0 p2 p3) (fun z_1 => bn (f_X7_kindOf u0 p1) (fun z_2 => jn (fun (v23_3_0 : Int32) => jn (jn (fun (v116_5_0 : Int32) => jn (fun (v145_6_0 : Int32) => some (vp_nar .boolean v145_6_0)) (fun k145_6 => jn (k145_6 0) (fun k144_7 => if v116_5_0 = 0 then k144_7 else bn (f_X7_mayChange u0 p2) (fun z_9 => if z_9 = 0 then k144_7 else bn (f_X7_mayChange u0 p4) (fun z_11 => if z_11 = 0 then k144_7 else k145_6 1))))) (fun k116_5 => if z_1 = (-1) then jn (k116_5 1) (fun k68_23 => if p2 = p4 then k68_23 else bn (f_X7_entries u0 0 p2) (fun z_25 => if 8 ≤ z_25 then k116_5 0 else k68_23)) else bn (f_X7_kindOf u0 z_1) (fun z_14 => jn (fun (v93_15_0 : Int32) => jn (k116_5 0) (fun k115_16 => if v23_3_0 = v93_15_0 then jn (k116_5 1) (fun k111_18 => if v23_3_0 = 0 then k111_18 else bn (f_X7_entries u0 0 z_1) (fun z_20 => if z_20 = 0 then k111_18 else k115_16)) else k115_16)) (fun k93_15 => if z_14 = 1 then k93_15 1 else k93_15 0)))) (fun k45_4 => if v23_3_0 = 0 then k45_4 else bn (f_X7_below u0 p1) (fun z_28 => if ((z_28 >>> (p2 &&& 31)) &&& 1) = 1 then some 0 else k45_4))) (fun k23_3 => if z_2 = 1 then k23_3 1 else k23_3 0)))
def rmX7_canTake : Room := { frames := 3, cells := 0, slots := 0, locals := 70 }
set_option maxHeartbeats 4000000 in
set_option maxRecDepth 100000 in
theorem c_X7_canTake (l : Launch) (D : va_G) (cI cZ cJ cT : ClassId) (a0 : Nat → Nat) (u0 : S1) (p1 : Int32) (p2 : Int32) (p3 : Int32) (p4 : Int32) (o : Int32) (hf : f_X7_canTake u0 p1 p2 p3 p4 = some o) : Met l yX7_canTake wsX7_canTake rmX7_canTake (va_Pc [.ref (a0 0), .int p1, .int p2, .int p3, .int p4] (PR D cls (tys cI cZ cJ cT) ((wX7 cI cZ a0 u0)))) (QR o) 0 0 (fun _ => False) := by
  refine Met.ofW (cc := cX7_canTake) (maxL := 8) (ret := (some .boolean)) (by decide) rfl ?_
  intro p e s m args below meth c s₁ B hml hv
  obtain ⟨hav, hP, hK⟩ := hv
  have hx := B.exec
  have hb := B.bytes
  have hr := B.returns
  have hlocks := B.notSynchronized
  have hts := atoms_spec (ws := wsX7_canTake) B.pre
  have hown : s.vm.findClass RX7 = some m.cls := findClass_of_methodNamed B.named
  refine Wq (fun Q hQ => ?_)
  refine W_entry hav (Nat.le_of_ble_eq_true rfl) (fun ls hl => ?_)
  have hl : lv_has ls 8 [(0, .ref (a0 0)), (1, .int p1), (2, .int p2), (3, .int p3), (4, .int p4)] := hl
  unfold f_X7_canTake at hf
  refine lv_aload_n hx hb dX7_canTake_0 rfl (lv_at hl 0 rfl) ?_
  refine lv_iconst (v := 0) hx hb dX7_canTake_1 (by decide) ?_
  refine lv_iload_n hx hb dX7_canTake_2 rfl (lv_at hl 2 rfl) ?_
  refine lv_iload_n hx hb dX7_canTake_3 rfl (lv_at hl 3 rfl) ?_
  obtain ⟨z_1, hz_1, hf⟩ := bn_some hf
  refine cRV (As := [.int 0, .int p2, .int p3]) (rest := []) ⟨hx, hb, hml, hown, hts⟩ (c_X7_entryOf l D cI cZ cJ cT a0 u0 0 p2 p3 z_1 hz_1) (cwV 3 hts gX7_canTake_X7_entryOf rfl rfl rfl (by decide +kernel) ⟨Nat.le_of_ble_eq_true rfl, Nat.le_of_ble_eq_true rfl⟩) hP hK (va_recv hK hP (ci := 7) (q0 := 0) rfl rfl) rfl rfl hl.1 (Nat.le_of_ble_eq_true rfl) dX7_canTake_4 ⟨Nat.le_of_ble_eq_true rfl, Nat.le_of_ble_eq_true rfl⟩ ?_
  refine lv_istore (lv' := [(5, .int z_1), (0, .ref (a0 0)), (1, .int p1), (2, .int p2), (3, .int p3), (4, .int p4)]) hx hb dX7_canTake_7 hl (by decide) rfl (fun ls hl => ?_)
  refine lv_aload_n hx hb dX7_canTake_9 rfl (lv_at hl 1 rfl) ?_
  refine lv_iload_n hx hb dX7_canTake_10 rfl (lv_at hl 2 rfl) ?_
  obtain ⟨z_2, hz_2, hf⟩ := bn_some hf
  refine cRV (As := [.int p1]) (rest := []) ⟨hx, hb, hml, hown, hts⟩ (c_X7_kindOf l D cI cZ cJ cT a0 u0 p1 z_2 hz_2) (cwV 1 hts gX7_canTake_X7_kindOf rfl rfl rfl (by decide +kernel) ⟨Nat.le_of_ble_eq_true rfl, Nat.le_of_ble_eq_true rfl⟩) hP hK (va_recv hK hP (ci := 7) (q0 := 0) rfl rfl) rfl rfl hl.1 (Nat.le_of_ble_eq_true rfl) dX7_canTake_11 ⟨Nat.le_of_ble_eq_true rfl, Nat.le_of_ble_eq_true rfl⟩ ?_
  refine lv_iconst (v := 1) hx hb dX7_canTake_14 (by decide) ?_
  obtain ⟨k23_3, hk23_3, hf⟩ := jn_some hf
  have j23_3 : ∀ (v23_3_0 : Int32) (ls : Array Slot), k23_3 v23_3_0 = some o → lv_has ls 8 [(0, .ref (a0 0)), (1, .int p1), (2, .int p2), (4, .int p4), (5, .int z_1)] → W p l e (headSpec wsX7_canTake rmX7_canTake).room s m args below meth c s.heap [] 0 0 Q (F0 m 23 ls [.int v23_3_0]) := by
    intro v23_3_0 ls hf hl
    have hf := qa1 hk23_3 hf
    refine lv_istore (lv' := [(6, .int v23_3_0), (0, .ref (a0 0)), (1, .int p1), (2, .int p2), (4, .int p4), (5, .int z_1)]) hx hb dX7_canTake_23 hl (by decide) rfl (fun ls hl => ?_)
    refine lv_iload hx hb dX7_canTake_25 (lv_at hl 0 rfl) ?_
    obtain ⟨k45_4, hk45_4, hf⟩ := jn_some hf
    have j45_4 : ∀ (ls : Array Slot), k45_4 = some o → lv_has ls 8 [(0, .ref (a0 0)), (2, .int p2), (4, .int p4), (5, .int z_1), (6, .int v23_3_0)] → W p l e (headSpec wsX7_canTake rmX7_canTake).room s m args below meth c s.heap [] 0 0 Q (F0 m 45 ls []) := by
      intro ls hf hl
      have hf := qa0 hk45_4 hf
      refine lv_iload hx hb dX7_canTake_45 (lv_at hl 3 rfl) ?_
      refine lv_iconst (v := (-1)) hx hb dX7_canTake_47 (by decide) ?_
      obtain ⟨k116_5, hk116_5, hf⟩ := jn_some hf
      have j116_5 : ∀ (v116_5_0 : Int32) (ls : Array Slot), k116_5 v116_5_0 = some o → lv_has ls 8 [(0, .ref (a0 0)), (2, .int p2), (4, .int p4)] → W p l e (headSpec wsX7_canTake rmX7_canTake).room s m args below meth c s.heap [] 0 0 Q (F0 m 116 ls [.int v116_5_0]) := by
        intro v116_5_0 ls hf hl
        have hf := qa1 hk116_5 hf
        refine lv_istore (lv' := [(7, .int v116_5_0), (0, .ref (a0 0)), (2, .int p2), (4, .int p4)]) hx hb dX7_canTake_116 hl (by decide) rfl (fun ls hl => ?_)
        refine lv_iload hx hb dX7_canTake_118 (lv_at hl 0 rfl) ?_
        obtain ⟨k145_6, hk145_6, hf⟩ := jn_some hf
        have j145_6 : ∀ (v145_6_0 : Int32) (ls : Array Slot), k145_6 v145_6_0 = some o → lv_has ls 8 [] → W p l e (headSpec wsX7_canTake rmX7_canTake).room s m args below meth c s.heap [] 0 0 Q (F0 m 145 ls [.int v145_6_0]) := by
          intro v145_6_0 ls hf hl
          have hf := qa1 hk145_6 hf
          rw [hQ]
          exact zretN (v := v145_6_0) (v' := vp_nar .boolean v145_6_0) hx hb hr rfl (fun t ht hW => ⟨_, rfl, Option.some.inj hf, ht⟩) (fun _ h => nomatch h) dX7_canTake_145 hlocks
        obtain ⟨k144_7, hk144_7, hf⟩ := jn_some hf
        have j144_7 : ∀ (ls : Array Slot), k144_7 = some o → lv_has ls 8 [] → W p l e (headSpec wsX7_canTake rmX7_canTake).room s m args below meth c s.heap [] 0 0 Q (F0 m 144 ls []) := by
          intro ls hf hl
          have hf := qa0 hk144_7 hf
          refine lv_iconst (v := 0) hx hb dX7_canTake_144 (by decide) ?_
          exact j145_6 _ _ hf (lv_sub hl [] rfl)
        refine lv_if_eq (tgt := 144) hx hb dX7_canTake_120 (by decide) (fun c_8 => ?_) (fun c_8 => ?_)
        · have hf := ite_t hf c_8
          exact j144_7 _ hf (lv_sub hl [] rfl)
        · have hf := ite_f hf c_8
          refine lv_aload_n hx hb dX7_canTake_123 rfl (lv_at hl 1 rfl) ?_
          refine lv_iload_n hx hb dX7_canTake_124 rfl (lv_at hl 2 rfl) ?_
          obtain ⟨z_9, hz_9, hf⟩ := bn_some hf
          refine cRV (As := [.int p2]) (rest := []) ⟨hx, hb, hml, hown, hts⟩ (c_X7_mayChange l D cI cZ cJ cT a0 u0 p2 z_9 hz_9) (cwV 1 hts gX7_canTake_X7_mayChange rfl rfl rfl (by decide +kernel) ⟨Nat.le_of_ble_eq_true rfl, Nat.le_of_ble_eq_true rfl⟩) hP hK (va_recv hK hP (ci := 7) (q0 := 0) rfl rfl) rfl rfl hl.1 (Nat.le_of_ble_eq_true rfl) dX7_canTake_125 ⟨Nat.le_of_ble_eq_true rfl, Nat.le_of_ble_eq_true rfl⟩ ?_
          refine lv_if_eq (tgt := 144) hx hb dX7_canTake_128 (by decide) (fun c_10 => ?_) (fun c_10 => ?_)
          · have hf := ite_t hf c_10
            exact j144_7 _ hf (lv_sub hl [] rfl)
          · have hf := ite_f hf c_10
            refine lv_aload_n hx hb dX7_canTake_131 rfl (lv_at hl 1 rfl) ?_
            refine lv_iload hx hb dX7_canTake_132 (lv_at hl 3 rfl) ?_
            obtain ⟨z_11, hz_11, hf⟩ := bn_some hf
            refine cRV (As := [.int p4]) (rest := []) ⟨hx, hb, hml, hown, hts⟩ (c_X7_mayChange l D cI cZ cJ cT a0 u0 p4 z_11 hz_11) (cwV 1 hts gX7_canTake_X7_mayChange rfl rfl rfl (by decide +kernel) ⟨Nat.le_of_ble_eq_true rfl, Nat.le_of_ble_eq_true rfl⟩) hP hK (va_recv hK hP (ci := 7) (q0 := 0) rfl rfl) rfl rfl hl.1 (Nat.le_of_ble_eq_true rfl) dX7_canTake_134 ⟨Nat.le_of_ble_eq_true rfl, Nat.le_of_ble_eq_true rfl⟩ ?_
            refine lv_if_eq (tgt := 144) hx hb dX7_canTake_137 (by decide) (fun c_12 => ?_) (fun c_12 => ?_)
            · have hf := ite_t hf c_12
              exact j144_7 _ hf (lv_sub hl [] rfl)
            · have hf := ite_f hf c_12
              refine lv_iconst (v := 1) hx hb dX7_canTake_140 (by decide) ?_
              refine lv_goto (tgt := 145) hx hb dX7_canTake_141 (by decide) ?_
              exact j145_6 _ _ hf (lv_sub hl [] rfl)
      refine lv_icmp_ne (tgt := 76) hx hb dX7_canTake_48 (by decide) (fun c_13 => ?_) (fun c_13 => ?_)
      · have hf := ite_f hf c_13
        refine lv_iload hx hb dX7_canTake_76 (lv_at hl 4 rfl) ?_
        refine lv_aload_n hx hb dX7_canTake_78 rfl (lv_at hl 0 rfl) ?_
        refine lv_iload hx hb dX7_canTake_79 (lv_at hl 3 rfl) ?_
        obtain ⟨z_14, hz_14, hf⟩ := bn_some hf
        refine cRV (As := [.int z_1]) (rest := [.int v23_3_0]) ⟨hx, hb, hml, hown, hts⟩ (c_X7_kindOf l D cI cZ cJ cT a0 u0 z_1 z_14 hz_14) (cwV 1 hts gX7_canTake_X7_kindOf rfl rfl rfl (by decide +kernel) ⟨Nat.le_of_ble_eq_true rfl, Nat.le_of_ble_eq_true rfl⟩) hP hK (va_recv hK hP (ci := 7) (q0 := 0) rfl rfl) rfl rfl hl.1 (Nat.le_of_ble_eq_true rfl) dX7_canTake_81 ⟨Nat.le_of_ble_eq_true rfl, Nat.le_of_ble_eq_true rfl⟩ ?_
        refine lv_iconst (v := 1) hx hb dX7_canTake_84 (by decide) ?_
        obtain ⟨k93_15, hk93_15, hf⟩ := jn_some hf
        have j93_15 : ∀ (v93_15_0 : Int32) (ls : Array Slot), k93_15 v93_15_0 = some o → lv_has ls 8 [(0, .ref (a0 0)), (2, .int p2), (4, .int p4), (5, .int z_1), (6, .int v23_3_0)] → W p l e (headSpec wsX7_canTake rmX7_canTake).room s m args below meth c s.heap [] 0 0 Q (F0 m 93 ls [.int v93_15_0, .int v23_3_0]) := by
          intro v93_15_0 ls hf hl
          have hf := qa1 hk93_15 hf
          obtain ⟨k115_16, hk115_16, hf⟩ := jn_some hf
          have j115_16 : ∀ (ls : Array Slot), k115_16 = some o → lv_has ls 8 [(0, .ref (a0 0)), (2, .int p2), (4, .int p4)] → W p l e (headSpec wsX7_canTake rmX7_canTake).room s m args below meth c s.heap [] 0 0 Q (F0 m 115 ls []) := by
            intro ls hf hl
            have hf := qa0 hk115_16 hf
            refine lv_iconst (v := 0) hx hb dX7_canTake_115 (by decide) ?_
            exact j116_5 _ _ hf (lv_sub hl [0, 1, 2] rfl)
          refine lv_icmp_ne (tgt := 115) hx hb dX7_canTake_93 (by decide) (fun c_17 => ?_) (fun c_17 => ?_)
          · have hf := ite_f hf c_17
            exact j115_16 _ hf (lv_sub hl [0, 1, 2] rfl)
          · have hf := ite_t hf c_17
            refine lv_iload hx hb dX7_canTake_96 (lv_at hl 4 rfl) ?_
            obtain ⟨k111_18, hk111_18, hf⟩ := jn_some hf
            have j111_18 : ∀ (ls : Array Slot), k111_18 = some o → lv_has ls 8 [(0, .ref (a0 0)), (2, .int p2), (4, .int p4)] → W p l e (headSpec wsX7_canTake rmX7_canTake).room s m args below meth c s.heap [] 0 0 Q (F0 m 111 ls []) := by
              intro ls hf hl
              have hf := qa0 hk111_18 hf
              refine lv_iconst (v := 1) hx hb dX7_canTake_111 (by decide) ?_
              refine lv_goto (tgt := 116) hx hb dX7_canTake_112 (by decide) ?_
              exact j116_5 _ _ hf (lv_sub hl [0, 1, 2] rfl)
            refine lv_if_eq (tgt := 111) hx hb dX7_canTake_98 (by decide) (fun c_19 => ?_) (fun c_19 => ?_)
            · have hf := ite_t hf c_19
              exact j111_18 _ hf (lv_sub hl [0, 1, 2] rfl)
            · have hf := ite_f hf c_19
              refine lv_aload_n hx hb dX7_canTake_101 rfl (lv_at hl 0 rfl) ?_
              refine lv_iconst (v := 0) hx hb dX7_canTake_102 (by decide) ?_
              refine lv_iload hx hb dX7_canTake_103 (lv_at hl 3 rfl) ?_
              obtain ⟨z_20, hz_20, hf⟩ := bn_some hf
              refine cRV (As := [.int 0, .int z_1]) (rest := []) ⟨hx, hb, hml, hown, hts⟩ (c_X7_entries l D cI cZ cJ cT a0 u0 0 z_1 z_20 hz_20) (cwV 2 hts gX7_canTake_X7_entries rfl rfl rfl (by decide +kernel) ⟨Nat.le_of_ble_eq_true rfl, Nat.le_of_ble_eq_true rfl⟩) hP hK (va_recv hK hP (ci := 7) (q0 := 0) rfl rfl) rfl rfl hl.1 (Nat.le_of_ble_eq_true rfl) dX7_canTake_105 ⟨Nat.le_of_ble_eq_true rfl, Nat.le_of_ble_eq_true rfl⟩ ?_
              refine lv_if_ne (tgt := 115) hx hb dX7_canTake_108 (by decide) (fun c_21 => ?_) (fun c_21 => ?_)
              · have hf := ite_f hf c_21
                exact j115_16 _ hf (lv_sub hl [0, 1, 2] rfl)
              · have hf := ite_t hf c_21
                exact j111_18 _ hf (lv_sub hl [0, 1, 2] rfl)
        refine lv_icmp_ne (tgt := 92) hx hb dX7_canTake_85 (by decide) (fun c_22 => ?_) (fun c_22 => ?_)
        · have hf := ite_f hf c_22
          refine lv_iconst (v := 0) hx hb dX7_canTake_92 (by decide) ?_
          exact j93_15 _ _ hf (lv_sub hl [0, 1, 2, 3, 4] rfl)
        · have hf := ite_t hf c_22
          refine lv_iconst (v := 1) hx hb dX7_canTake_88 (by decide) ?_
          refine lv_goto (tgt := 93) hx hb dX7_canTake_89 (by decide) ?_
          exact j93_15 _ _ hf (lv_sub hl [0, 1, 2, 3, 4] rfl)
      · have hf := ite_t hf c_13
        refine lv_iload_n hx hb dX7_canTake_51 rfl (lv_at hl 1 rfl) ?_
        refine lv_iload hx hb dX7_canTake_52 (lv_at hl 2 rfl) ?_
        obtain ⟨k68_23, hk68_23, hf⟩ := jn_some hf
        have j68_23 : ∀ (ls : Array Slot), k68_23 = some o → lv_has ls 8 [(0, .ref (a0 0)), (2, .int p2), (4, .int p4)] → W p l e (headSpec wsX7_canTake rmX7_canTake).room s m args below meth c s.heap [] 0 0 Q (F0 m 68 ls []) := by
          intro ls hf hl
          have hf := qa0 hk68_23 hf
          refine lv_iconst (v := 1) hx hb dX7_canTake_68 (by decide) ?_
          refine lv_goto (tgt := 116) hx hb dX7_canTake_69 (by decide) ?_
          exact j116_5 _ _ hf (lv_sub hl [0, 1, 2] rfl)
        refine lv_icmp_eq (tgt := 68) hx hb dX7_canTake_54 (by decide) (fun c_24 => ?_) (fun c_24 => ?_)
        · have hf := ite_t hf c_24
          exact j68_23 _ hf (lv_sub hl [0, 1, 2] rfl)
        · have hf := ite_f hf c_24
          refine lv_aload_n hx hb dX7_canTake_57 rfl (lv_at hl 0 rfl) ?_
          refine lv_iconst (v := 0) hx hb dX7_canTake_58 (by decide) ?_
          refine lv_iload_n hx hb dX7_canTake_59 rfl (lv_at hl 1 rfl) ?_
          obtain ⟨z_25, hz_25, hf⟩ := bn_some hf
          refine cRV (As := [.int 0, .int p2]) (rest := []) ⟨hx, hb, hml, hown, hts⟩ (c_X7_entries l D cI cZ cJ cT a0 u0 0 p2 z_25 hz_25) (cwV 2 hts gX7_canTake_X7_entries rfl rfl rfl (by decide +kernel) ⟨Nat.le_of_ble_eq_true rfl, Nat.le_of_ble_eq_true rfl⟩) hP hK (va_recv hK hP (ci := 7) (q0 := 0) rfl rfl) rfl rfl hl.1 (Nat.le_of_ble_eq_true rfl) dX7_canTake_60 ⟨Nat.le_of_ble_eq_true rfl, Nat.le_of_ble_eq_true rfl⟩ ?_
          refine lv_bipush (v := 8) hx hb dX7_canTake_63 (by decide) ?_
          refine lv_icmp_ge (tgt := 72) hx hb dX7_canTake_65 (by decide) (fun c_26 => ?_) (fun c_26 => ?_)
          · have hf := ite_t hf c_26
            refine lv_iconst (v := 0) hx hb dX7_canTake_72 (by decide) ?_
            refine lv_goto (tgt := 116) hx hb dX7_canTake_73 (by decide) ?_
            exact j116_5 _ _ hf (lv_sub hl [0, 1, 2] rfl)
          · have hf := ite_f hf c_26
            exact j68_23 _ hf (lv_sub hl [0, 1, 2] rfl)
    refine lv_if_eq (tgt := 45) hx hb dX7_canTake_27 (by decide) (fun c_27 => ?_) (fun c_27 => ?_)
    · have hf := ite_t hf c_27
      exact j45_4 _ hf (lv_sub hl [1, 3, 4, 5, 0] rfl)
    · have hf := ite_f hf c_27
      refine lv_aload_n hx hb dX7_canTake_30 rfl (lv_at hl 1 rfl) ?_
      refine lv_iload_n hx hb dX7_canTake_31 rfl (lv_at hl 2 rfl) ?_
      obtain ⟨z_28, hz_28, hf⟩ := bn_some hf
      refine cRV (As := [.int p1]) (rest := []) ⟨hx, hb, hml, hown, hts⟩ (c_X7_below l D cI cZ cJ cT a0 u0 p1 z_28 hz_28) (cwV 1 hts gX7_canTake_X7_below rfl rfl rfl (by decide +kernel) ⟨Nat.le_of_ble_eq_true rfl, Nat.le_of_ble_eq_true rfl⟩) hP hK (va_recv hK hP (ci := 7) (q0 := 0) rfl rfl) rfl rfl hl.1 (Nat.le_of_ble_eq_true rfl) dX7_canTake_32 ⟨Nat.le_of_ble_eq_true rfl, Nat.le_of_ble_eq_true rfl⟩ ?_
      refine lv_iload_n hx hb dX7_canTake_35 rfl (lv_at hl 3 rfl) ?_
      refine lv_ishr hx hb dX7_canTake_36 ?_
      refine lv_iconst (v := 1) hx hb dX7_canTake_37 (by decide) ?_
      refine lv_iand hx hb dX7_canTake_38 ?_
      refine lv_iconst (v := 1) hx hb dX7_canTake_39 (by decide) ?_
      refine lv_icmp_ne (tgt := 45) hx hb dX7_canTake_40 (by decide) (fun c_29 => ?_) (fun c_29 => ?_)
      · have hf := ite_f hf c_29
        exact j45_4 _ hf (lv_sub hl [1, 3, 4, 5, 0] rfl)
      · have hf := ite_t hf c_29
        refine lv_iconst (v := 0) hx hb dX7_canTake_43 (by decide) ?_
        rw [hQ]
        exact zretN (v := 0) (v' := 0) hx hb hr rfl (fun t ht hW => ⟨_, rfl, Option.some.inj hf, ht⟩) (fun _ h => nomatch h) dX7_canTake_44 hlocks
  refine lv_icmp_ne (tgt := 22) hx hb dX7_canTake_15 (by decide) (fun c_30 => ?_) (fun c_30 => ?_)
  · have hf := ite_f hf c_30
    refine lv_iconst (v := 0) hx hb dX7_canTake_22 (by decide) ?_
    exact j23_3 _ _ hf (lv_sub hl [1, 2, 3, 5, 0] rfl)
  · have hf := ite_t hf c_30
    refine lv_iconst (v := 1) hx hb dX7_canTake_18 (by decide) ?_
    refine lv_goto (tgt := 23) hx hb dX7_canTake_19 (by decide) ?_
    exact j23_3 _ _ hf (lv_sub hl [1, 2, 3, 5, 0] rfl)
set_option maxRecDepth 20000 in
theorem ggX7_rename_X7_can : GoodIn wsX7_rename wsX7_can := goodIn_r _ [65, 66, 100, 101, 102, 103, 104, 105, 106, 107, 108, 109, 110, 111, 112, 113, 114, 115, 116, 117, 118] (by decide +kernel) (by decide +kernel)
set_option maxRecDepth 20000 in
theorem gX7_rename_X7_can : GoodIn wsX7_rename (wsV RX7 140 RX7 yX7_can wsX7_can) := goodIn_app (goodIn_of _ (by decide +kernel)) ggX7_rename_X7_can
set_option maxRecDepth 20000 in
theorem ggX7_rename_X7_canTake : GoodIn wsX7_rename wsX7_canTake := goodIn_r _ [44, 25, 26, 27, 5, 28, 17, 29, 30, 31, 32, 22, 23, 24, 37, 38, 39, 40, 45, 46, 47, 48, 49, 50, 51, 52, 53, 54, 55, 56, 57, 58, 59, 60, 61, 100, 101, 102, 103, 104, 105, 106, 107, 108, 109, 110, 111, 112, 113, 114, 115, 116, 117, 118] (by decide +kernel) (by decide +kernel)
set_option maxRecDepth 20000 in
theorem gX7_rename_X7_canTake : GoodIn wsX7_rename (wsV RX7 176 RX7 yX7_canTake wsX7_canTake) := goodIn_app (goodIn_of _ (by decide +kernel)) ggX7_rename_X7_canTake
set_option maxRecDepth 20000 in
theorem ggX7_rename_X7_enters : GoodIn wsX7_rename wsX7_enters := goodIn_r _ [99, 17, 22, 23, 5, 24, 49, 50, 51, 52, 100, 101, 102, 103, 104, 105, 106, 107, 108, 109, 110, 111, 112, 113, 114, 115, 116, 117, 118] (by decide +kernel) (by decide +kernel)
set_option maxRecDepth 20000 in
theorem gX7_rename_X7_enters : GoodIn wsX7_rename (wsV RX7 162 RX7 yX7_enters wsX7_enters) := goodIn_app (goodIn_of _ (by decide +kernel)) ggX7_rename_X7_enters
set_option maxRecDepth 20000 in
theorem ggX7_rename_X7_entryOf : GoodIn wsX7_rename wsX7_entryOf := goodIn_r _ [28, 17, 29, 30, 31, 5, 32, 22, 23, 24, 100, 101, 102, 103, 104, 105, 106, 107, 108, 109, 110, 111, 112, 113, 114, 115, 116, 117, 118] (by decide +kernel) (by decide +kernel)
set_option maxRecDepth 20000 in
theorem gX7_rename_X7_entryOf : GoodIn wsX7_rename (wsV RX7 124 RX7 yX7_entryOf wsX7_entryOf) := goodIn_app (goodIn_of _ (by decide +kernel)) ggX7_rename_X7_entryOf
set_option maxRecDepth 20000 in
theorem ggX7_rename_X7_folderOf : GoodIn wsX7_rename wsX7_folderOf := goodIn_r _ [36, 11, 12, 13, 5, 14, 15, 1, 16, 2, 17, 18, 19, 20, 21, 22, 23, 24, 25, 26, 27, 28, 29, 30, 31, 32, 37, 38, 39, 40, 100, 101, 102, 103, 104, 105, 106, 107, 108, 109, 110, 111, 112, 113, 114, 115, 116, 117, 118] (by decide +kernel) (by decide +kernel)
set_option maxRecDepth 20000 in
theorem gX7_rename_X7_folderOf : GoodIn wsX7_rename (wsV RX7 152 RX7 yX7_folderOf wsX7_folderOf) := goodIn_app (goodIn_of _ (by decide +kernel)) ggX7_rename_X7_folderOf
set_option maxRecDepth 20000 in
theorem ggX7_rename_X7_isPath : GoodIn wsX7_rename wsX7_isPath := goodIn_r _ [6, 7, 8, 9, 5, 10] (by decide +kernel) (by decide +kernel)
set_option maxRecDepth 20000 in
theorem gX7_rename_X7_isPath : GoodIn wsX7_rename (va_wsS RX7 149 yX7_isPath wsX7_isPath) := goodIn_app (goodIn_of _ (by decide +kernel)) ggX7_rename_X7_isPath
set_option maxRecDepth 20000 in
theorem ggX7_rename_X7_leaves : GoodIn wsX7_rename wsX7_leaves := goodIn_r _ [70, 17, 22, 23, 5, 24, 49, 50, 51, 52, 29, 30, 31, 32, 100, 101, 102, 103, 104, 105, 106, 107, 108, 109, 110, 111, 112, 113, 114, 115, 116, 117, 118] (by decide +kernel) (by decide +kernel)
set_option maxRecDepth 20000 in
theorem gX7_rename_X7_leaves : GoodIn wsX7_rename (wsV RX7 180 RX7 yX7_leaves wsX7_leaves) := goodIn_app (goodIn_of _ (by decide +kernel)) ggX7_rename_X7_leaves
set_option maxRecDepth 20000 in
theorem ggX7_rename_X7_loses : GoodIn wsX7_rename wsX7_loses := goodIn_r _ [74, 17, 22, 23, 5, 24, 75, 76, 77, 78, 79, 80, 81, 82, 83, 84, 85, 86, 87, 88, 89, 90, 91, 92, 93, 94, 95, 100, 101, 102, 103, 104, 105, 106, 107, 108, 109, 110, 111, 112, 113, 114, 115, 116, 117, 118] (by decide +kernel) (by decide +kernel)
set_option maxRecDepth 20000 in
theorem gX7_rename_X7_loses : GoodIn wsX7_rename (wsV RX7 183 RX7 yX7_loses wsX7_loses) := goodIn_app (goodIn_of _ (by decide +kernel)) ggX7_rename_X7_loses
set_option maxRecDepth 20000 in
theorem ggX7_rename_X7_walks : GoodIn wsX7_rename wsX7_walks := goodIn_r _ [14, 15, 1, 16, 2, 17, 18, 19, 20, 5, 21, 22, 23, 24, 25, 26, 27, 28, 29, 30, 31, 32, 100, 101, 102, 103, 104, 105, 106, 107, 108, 109, 110, 111, 112, 113, 114, 115, 116, 117, 118] (by decide +kernel) (by decide +kernel)
set_option maxRecDepth 20000 in
theorem gX7_rename_X7_walks : GoodIn wsX7_rename (wsV RX7 127 RX7 yX7_walks wsX7_walks) := goodIn_app (goodIn_of _ (by decide +kernel)) ggX7_rename_X7_walks
theorem dX7_rename_0 : decode cX7_rename 0 = .ok (.iload_n 1, 1) := by decide +kernel
theorem dX7_rename_1 : decode cX7_rename 1 = .ok (.invokestatic 149, 3) := by decide +kernel
theorem dX7_rename_4 : decode cX7_rename 4 = .ok (.ifCond .eq 14, 3) := by decide +kernel
theorem dX7_rename_7 : decode cX7_rename 7 = .ok (.iload_n 2, 1) := by decide +kernel
theorem dX7_rename_8 : decode cX7_rename 8 = .ok (.invokestatic 149, 3) := by decide +kernel
theorem dX7_rename_11 : decode cX7_rename 11 = .ok (.ifCond .eq 7, 3) := by decide +kernel
theorem dX7_rename_14 : decode cX7_rename 14 = .ok (.iconst 1, 1) := by decide +kernel
theorem dX7_rename_15 : decode cX7_rename 15 = .ok (.goto 4, 3) := by decide +kernel
theorem dX7_rename_18 : decode cX7_rename 18 = .ok (.iconst 0, 1) := by decide +kernel
theorem dX7_rename_19 : decode cX7_rename 19 = .ok (.istore_n 3, 1) := by decide +kernel
theorem dX7_rename_20 : decode cX7_rename 20 = .ok (.iload_n 3, 1) := by decide +kernel
theorem dX7_rename_21 : decode cX7_rename 21 = .ok (.ifCond .eq 13, 3) := by decide +kernel
theorem dX7_rename_24 : decode cX7_rename 24 = .ok (.aload_n 0, 1) := by decide +kernel
theorem dX7_rename_25 : decode cX7_rename 25 = .ok (.iconst 0, 1) := by decide +kernel
theorem dX7_rename_26 : decode cX7_rename 26 = .ok (.iload_n 1, 1) := by decide +kernel
theorem dX7_rename_27 : decode cX7_rename 27 = .ok (.iconst 0, 1) := by decide +kernel
theorem dX7_rename_28 : decode cX7_rename 28 = .ok (.invokevirtual 127, 3) := by decide +kernel
theorem dX7_rename_31 : decode cX7_rename 31 = .ok (.goto 4, 3) := by decide +kernel
theorem dX7_rename_34 : decode cX7_rename 34 = .ok (.iconst (-1), 1) := by decide +kernel
theorem dX7_rename_35 : decode cX7_rename 35 = .ok (.istore 4, 2) := by decide +kernel
theorem dX7_rename_37 : decode cX7_rename 37 = .ok (.aload_n 0, 1) := by decide +kernel
theorem dX7_rename_38 : decode cX7_rename 38 = .ok (.getfield 118, 3) := by decide +kernel
theorem dX7_rename_41 : decode cX7_rename 41 = .ok (.istore 5, 2) := by decide +kernel
theorem dX7_rename_43 : decode cX7_rename 43 = .ok (.aload_n 0, 1) := by decide +kernel
theorem dX7_rename_44 : decode cX7_rename 44 = .ok (.getfield 121, 3) := by decide +kernel
theorem dX7_rename_47 : decode cX7_rename 47 = .ok (.istore 6, 2) := by decide +kernel
theorem dX7_rename_49 : decode cX7_rename 49 = .ok (.iload_n 3, 1) := by decide +kernel
theorem dX7_rename_50 : decode cX7_rename 50 = .ok (.ifCond .eq 11, 3) := by decide +kernel
theorem dX7_rename_53 : decode cX7_rename 53 = .ok (.aload_n 0, 1) := by decide +kernel
theorem dX7_rename_54 : decode cX7_rename 54 = .ok (.iload_n 2, 1) := by decide +kernel
theorem dX7_rename_55 : decode cX7_rename 55 = .ok (.invokevirtual 152, 3) := by decide +kernel
theorem dX7_rename_58 : decode cX7_rename 58 = .ok (.goto 4, 3) := by decide +kernel
theorem dX7_rename_61 : decode cX7_rename 61 = .ok (.iconst (-1), 1) := by decide +kernel
theorem dX7_rename_62 : decode cX7_rename 62 = .ok (.istore 7, 2) := by decide +kernel
theorem dX7_rename_64 : decode cX7_rename 64 = .ok (.iload 4, 2) := by decide +kernel
theorem dX7_rename_66 : decode cX7_rename 66 = .ok (.iconst (-1), 1) := by decide +kernel
theorem dX7_rename_67 : decode cX7_rename 67 = .ok (.if_icmp .eq 13, 3) := by decide +kernel
theorem dX7_rename_70 : decode cX7_rename 70 = .ok (.iload 7, 2) := by decide +kernel
theorem dX7_rename_72 : decode cX7_rename 72 = .ok (.iconst (-1), 1) := by decide +kernel
theorem dX7_rename_73 : decode cX7_rename 73 = .ok (.if_icmp .eq 7, 3) := by decide +kernel
theorem dX7_rename_76 : decode cX7_rename 76 = .ok (.iconst 1, 1) := by decide +kernel
theorem dX7_rename_77 : decode cX7_rename 77 = .ok (.goto 4, 3) := by decide +kernel
theorem dX7_rename_80 : decode cX7_rename 80 = .ok (.iconst 0, 1) := by decide +kernel
theorem dX7_rename_81 : decode cX7_rename 81 = .ok (.istore 8, 2) := by decide +kernel
theorem dX7_rename_83 : decode cX7_rename 83 = .ok (.iload_n 2, 1) := by decide +kernel
theorem dX7_rename_84 : decode cX7_rename 84 = .ok (.bipush 100, 2) := by decide +kernel
theorem dX7_rename_86 : decode cX7_rename 86 = .ok (.irem, 1) := by decide +kernel
theorem dX7_rename_87 : decode cX7_rename 87 = .ok (.istore 9, 2) := by decide +kernel
theorem dX7_rename_89 : decode cX7_rename 89 = .ok (.iload 8, 2) := by decide +kernel
theorem dX7_rename_91 : decode cX7_rename 91 = .ok (.ifCond .eq 15, 3) := by decide +kernel
theorem dX7_rename_94 : decode cX7_rename 94 = .ok (.aload_n 0, 1) := by decide +kernel
theorem dX7_rename_95 : decode cX7_rename 95 = .ok (.iconst 0, 1) := by decide +kernel
theorem dX7_rename_96 : decode cX7_rename 96 = .ok (.iload 7, 2) := by decide +kernel
theorem dX7_rename_98 : decode cX7_rename 98 = .ok (.iload 9, 2) := by decide +kernel
theorem dX7_rename_100 : decode cX7_rename 100 = .ok (.invokevirtual 124, 3) := by decide +kernel
theorem dX7_rename_103 : decode cX7_rename 103 = .ok (.goto 4, 3) := by decide +kernel
theorem dX7_rename_106 : decode cX7_rename 106 = .ok (.iconst (-1), 1) := by decide +kernel
theorem dX7_rename_107 : decode cX7_rename 107 = .ok (.istore 10, 2) := by decide +kernel
theorem dX7_rename_109 : decode cX7_rename 109 = .ok (.aload_n 0, 1) := by decide +kernel
theorem dX7_rename_110 : decode cX7_rename 110 = .ok (.iload_n 3, 1) := by decide +kernel
theorem dX7_rename_111 : decode cX7_rename 111 = .ok (.ifCond .ne 7, 3) := by decide +kernel
theorem dX7_rename_114 : decode cX7_rename 114 = .ok (.iconst 1, 1) := by decide +kernel
theorem dX7_rename_115 : decode cX7_rename 115 = .ok (.goto 39, 3) := by decide +kernel
theorem dX7_rename_118 : decode cX7_rename 118 = .ok (.iload 8, 2) := by decide +kernel
theorem dX7_rename_120 : decode cX7_rename 120 = .ok (.ifCond .ne 7, 3) := by decide +kernel
theorem dX7_rename_123 : decode cX7_rename 123 = .ok (.iconst 2, 1) := by decide +kernel
theorem dX7_rename_124 : decode cX7_rename 124 = .ok (.goto 30, 3) := by decide +kernel
theorem dX7_rename_127 : decode cX7_rename 127 = .ok (.iload 10, 2) := by decide +kernel
theorem dX7_rename_129 : decode cX7_rename 129 = .ok (.iload 4, 2) := by decide +kernel
theorem dX7_rename_131 : decode cX7_rename 131 = .ok (.if_icmp .eq 18, 3) := by decide +kernel
theorem dX7_rename_134 : decode cX7_rename 134 = .ok (.aload_n 0, 1) := by decide +kernel
theorem dX7_rename_135 : decode cX7_rename 135 = .ok (.iload 4, 2) := by decide +kernel
theorem dX7_rename_137 : decode cX7_rename 137 = .ok (.iload 7, 2) := by decide +kernel
theorem dX7_rename_139 : decode cX7_rename 139 = .ok (.iload 9, 2) := by decide +kernel
theorem dX7_rename_141 : decode cX7_rename 141 = .ok (.iload 5, 2) := by decide +kernel
theorem dX7_rename_143 : decode cX7_rename 143 = .ok (.invokevirtual 176, 3) := by decide +kernel
theorem dX7_rename_146 : decode cX7_rename 146 = .ok (.ifCond .eq 7, 3) := by decide +kernel
theorem dX7_rename_149 : decode cX7_rename 149 = .ok (.iconst 0, 1) := by decide +kernel
theorem dX7_rename_150 : decode cX7_rename 150 = .ok (.goto 4, 3) := by decide +kernel
theorem dX7_rename_153 : decode cX7_rename 153 = .ok (.iconst 3, 1) := by decide +kernel
theorem dX7_rename_154 : decode cX7_rename 154 = .ok (.invokevirtual 140, 3) := by decide +kernel
theorem dX7_rename_157 : decode cX7_rename 157 = .ok (.ifCond .ne 5, 3) := by decide +kernel
theorem dX7_rename_160 : decode cX7_rename 160 = .ok (.iconst 0, 1) := by decide +kernel
theorem dX7_rename_161 : decode cX7_rename 161 = .ok (.ireturn, 1) := by decide +kernel
theorem dX7_rename_162 : decode cX7_rename 162 = .ok (.iload 10, 2) := by decide +kernel
theorem dX7_rename_164 : decode cX7_rename 164 = .ok (.iload 4, 2) := by decide +kernel
theorem dX7_rename_166 : decode cX7_rename 166 = .ok (.if_icmp .eq 43, 3) := by decide +kernel
theorem dX7_rename_169 : decode cX7_rename 169 = .ok (.aload_n 0, 1) := by decide +kernel
theorem dX7_rename_170 : decode cX7_rename 170 = .ok (.iload 5, 2) := by decide +kernel
theorem dX7_rename_172 : decode cX7_rename 172 = .ok (.iload 6, 2) := by decide +kernel
theorem dX7_rename_174 : decode cX7_rename 174 = .ok (.invokevirtual 180, 3) := by decide +kernel
theorem dX7_rename_177 : decode cX7_rename 177 = .ok (.iload 10, 2) := by decide +kernel
theorem dX7_rename_179 : decode cX7_rename 179 = .ok (.iconst (-1), 1) := by decide +kernel
theorem dX7_rename_180 : decode cX7_rename 180 = .ok (.if_icmp .eq 19, 3) := by decide +kernel
theorem dX7_rename_183 : decode cX7_rename 183 = .ok (.aload_n 0, 1) := by decide +kernel
theorem dX7_rename_184 : decode cX7_rename 184 = .ok (.iload 7, 2) := by decide +kernel
theorem dX7_rename_186 : decode cX7_rename 186 = .ok (.iload 9, 2) := by decide +kernel
theorem dX7_rename_188 : decode cX7_rename 188 = .ok (.invokevirtual 180, 3) := by decide +kernel
theorem dX7_rename_191 : decode cX7_rename 191 = .ok (.aload_n 0, 1) := by decide +kernel
theorem dX7_rename_192 : decode cX7_rename 192 = .ok (.iload 10, 2) := by decide +kernel
theorem dX7_rename_194 : decode cX7_rename 194 = .ok (.invokevirtual 183, 3) := by decide +kernel
theorem dX7_rename_197 : decode cX7_rename 197 = .ok (.istore 11, 2) := by decide +kernel
theorem dX7_rename_199 : decode cX7_rename 199 = .ok (.aload_n 0, 1) := by decide +kernel
theorem dX7_rename_200 : decode cX7_rename 200 = .ok (.iload 7, 2) := by decide +kernel
theorem dX7_rename_202 : decode cX7_rename 202 = .ok (.iload 9, 2) := by decide +kernel
theorem dX7_rename_204 : decode cX7_rename 204 = .ok (.iload 4, 2) := by decide +kernel
theorem dX7_rename_206 : decode cX7_rename 206 = .ok (.invokevirtual 162, 3) := by decide +kernel
theorem dX7_rename_209 : decode cX7_rename 209 = .ok (.iload 4, 2) := by decide +kernel
theorem dX7_rename_211 : decode cX7_rename 211 = .ok (.ireturn, 1) := by decide +kernel
def f_X7_rename (u0 : S1) (p1 : Int32) (p2 : Int32) : Option (Int32 × S1) := bn (f_X7_isPath p1) (fun z_1 => jn (fun (v19_2_0 : Int32) => jn (fun (v35_3_0 : Int32) (u35_3_0 : S1) => jn (fun (v62_4_0 : Int32) (u62_4_0 : S1) => jn (fun (v81_5_0 : Int32) => jn (fun (v107_6_0 : Int32) => jn (fun (v154_7_0 : Int32) => bn (f_X7_can u62_4_0 v154_7_0) (fun z_8 => if z_8.1 = 0 then some (0, z_8.2) else jn (fun (u209_10_0 : S1) => some (v35_3_0, u209_10_0)) (fun k209_10 => if v107_6_0 = v35_3_0 then k209_10 z_8.2 else bn (f_X7_leaves z_8.2 (u35_3_0 16 0) (u35_3_0 17 0)) (fun z_12 => jn (fun (u199_13_0 : S1) => bn (f_X7_enters u199_13_0 v62_4_0 (p2 - p2 / 100 * 100) v35_3_0) (fun z_14 => k209_10 z_14)) (fun k199_13 => if v107_6_0 = (-1) then k199_13 z_12 else bn (f_X7_leaves z_12 v62_4_0 (p2 - p2 / 100 * 100)) (fun z_16 => bn (f_X7_loses z_16 v107_6_0) (fun z_17 => k199_13 z_17.2))))))) (fun k154_7 => if v19_2_0 = 0 then k154_7 1 else if v81_5_0 = 0 then k154_7 2 else jn (k154_7 0) (fun k149_20 => if v107_6_0 = v35_3_0 then k149_20 else bn (f_X7_canTake u62_4_0 v35_3_0 v62_4_0 (p2 - p2 / 100 * 100) (u35_3_0 16 0)) (fun z_22 => if z_22 = 0 then k154_7 3 else k149_20)))) (fun k107_6 => if v81_5_0 = 0 then k107_6 (-1) else bn (f_X7_entryOf u62_4_0 0 v62_4_0 (p2 - p2 / 100 * 100)) (fun z_25 => k107_6 z_25))) (fun k81_5 => jn (k81_5 0) (fun k80_26 => if v35_3_0 = (-1) then k80_26 else if v62_4_0 = (-1) then k80_26 else k81_5 1))) (fun k62_4 => if v19_2_0 = 0 then k62_4 (-1) u35_3_0 else bn (f_X7_folderOf u35_3_0 p2) (fun z_30 => k62_4 z_30.1 z_30.2))) (fun k35_3 => if v19_2_0 = 0 then k35_3 (-1) u0 else bn (f_X7_walks u0 0 p1 0) (fun z_32 => k35_3 z_32.1 z_32.2))) (fun k19_2 => jn (k19_2 0) (fun k18_33 => if z_1 = 0 then k18_33 else bn (f_X7_isPath p2) (fun z_35 => if z_35 = 0 then k18_33 else k19_2 1))))
def rmX7_rename : Room := { frames := 5, cells := 0, slots := 0, locals := 117 }
set_option maxHeartbeats 4000000 in
set_option maxRecDepth 100000 in
theorem c_X7_rename (l : Launch) (D : va_G) (cI cZ cJ cT : ClassId) (a0 : Nat → Nat) (sz : Nat) (u0 : S1) (p1 : Int32) (p2 : Int32) (o : Int32 × S1) (hf : f_X7_rename u0 p1 p2 = some o) : Met l yX7_rename wsX7_rename rmX7_rename (va_Pc [.ref (a0 0), .int p1, .int p2] (PW D cls (tys cI cZ cJ cT) ((wX7 cI cZ a0 u0)) sz)) (QWi D cls o.1 ((wX7 cI cZ a0 o.2)) (va_A ((wX7 cI cZ a0 u0)) sz)) 0 0 (va_A ((wX7 cI cZ a0 u0)) sz) := by
  refine Met.ofW (cc := cX7_rename) (maxL := 12) (ret := (some .int)) (by decide) rfl ?_
  intro p e s m args below meth c s₁ B hml hv
  obtain ⟨hav, hsz, hP, hK, hD0⟩ := hv
  have hx := B.exec
  have hb := B.bytes
  have hr := B.returns
  have hlocks := B.notSynchronized
  have hts := atoms_spec (ws := wsX7_rename) B.pre
  have hown : s.vm.findClass RX7 = some m.cls := findClass_of_methodNamed B.named
  have i7 : ∀ w ∈ wsX70, w ∈ wsX7_rename := fun w h => List.mem_cons_of_mem _ (List.mem_append_right _ h)
  have hk118 := hts (.fieldLink RX7 118 "InoderyModel" "parent" "I") (by decide +kernel)
  have hk121 := hts (.fieldLink RX7 121 "InoderyModel" "lastName" "I") (by decide +kernel)
  subst hsz
  have hD := hD0.self (sz := s.heap.size)
  generalize hAe : va_A ((wX7 cI cZ a0 u0)) s.heap.size = A at hD ⊢
  have hA : ∀ q : Nat, s.heap.size ≤ q → A q := fun q h => by rw [← hAe]; exact Or.inr h
  have hS : va_S A s.heap s.heap [] := va_S.rf
  have hDD : ∀ w0 : S1, va_D A ((wX7 cI cZ a0 w0)) := fun _ => D_same (w := (wX7 cI cZ a0 u0)) rfl hD
  refine Wq (fun Q hQ => ?_)
  refine W_entry hav (Nat.le_of_ble_eq_true rfl) (fun ls hl => ?_)
  have hl : lv_has ls 12 [(0, .ref (a0 0)), (1, .int p1), (2, .int p2)] := hl
  unfold f_X7_rename at hf
  refine W_heap hP hS (fun H locs hP hS => ?_)
  refine lv_iload_n hx hb dX7_rename_0 rfl (lv_at hl 1 rfl) ?_
  obtain ⟨z_1, hz_1, hf⟩ := bn_some hf
  refine c0S (As := [.int p1]) (rest := []) ⟨hx, hb, hml, hown, hts⟩ (c_X7_isPath l D cI cZ cJ cT p1 z_1 hz_1) (va_cwS 1 hts gX7_rename_X7_isPath rfl rfl rfl (by decide +kernel) ⟨Nat.le_of_ble_eq_true rfl, Nat.le_of_ble_eq_true rfl⟩) rfl rfl hl.1 (Nat.le_of_ble_eq_true rfl) dX7_rename_1 ⟨Nat.le_of_ble_eq_true rfl, Nat.le_of_ble_eq_true rfl⟩ ?_
  obtain ⟨k19_2, hk19_2, hf⟩ := jn_some hf
  have j19_2 : ∀ (v19_2_0 : Int32) (H : Heap) (locs : List Loc) (ls : Array Slot), k19_2 v19_2_0 = some o → va_P D cls (wX7 cI cZ a0 u0) H → va_S A s.heap H locs → lv_has ls 12 [(0, .ref (a0 0)), (1, .int p1), (2, .int p2)] → W p l e (headSpec wsX7_rename rmX7_rename).room s m args below meth c H locs 0 0 Q (F0 m 19 ls [.int v19_2_0]) := by
    intro v19_2_0 H locs ls hf hP hS hl
    have hf := qa1 hk19_2 hf
    refine lv_istore_n (lv' := [(3, .int v19_2_0), (0, .ref (a0 0)), (1, .int p1), (2, .int p2)]) hx hb dX7_rename_19 rfl hl (by decide) rfl (fun ls hl => ?_)
    refine lv_iload_n hx hb dX7_rename_20 rfl (lv_at hl 0 rfl) ?_
    obtain ⟨k35_3, hk35_3, hf⟩ := jn_some hf
    have j35_3 : ∀ (v35_3_0 : Int32) (u35_3_0 : S1) (H : Heap) (locs : List Loc) (ls : Array Slot), k35_3 v35_3_0 u35_3_0 = some o → va_P D cls (wX7 cI cZ a0 u35_3_0) H → va_S A s.heap H locs → lv_has ls 12 [(0, .ref (a0 0)), (2, .int p2), (3, .int v19_2_0)] → W p l e (headSpec wsX7_rename rmX7_rename).room s m args below meth c H locs 0 0 Q (F0 m 35 ls [.int v35_3_0]) := by
      intro v35_3_0 u35_3_0 H locs ls hf hP hS hl
      have hf := qa2 hk35_3 hf
      refine lv_istore (lv' := [(4, .int v35_3_0), (0, .ref (a0 0)), (2, .int p2), (3, .int v19_2_0)]) hx hb dX7_rename_35 hl (by decide) rfl (fun ls hl => ?_)
      refine lv_aload_n hx hb dX7_rename_37 rfl (lv_at hl 1 rfl) ?_
      refine va_get (D := D) (ci := 7) (v := .int (u35_3_0 16 0)) (C := RX7) (T := TX7) (N := 19) hx hb hts i7 hown hK hP 0 rfl rfl 16 (by decide) hk118 (fun _ h9 => h9) rfl dX7_rename_38 ?_
      refine lv_istore (lv' := [(5, .int (u35_3_0 16 0)), (4, .int v35_3_0), (0, .ref (a0 0)), (2, .int p2), (3, .int v19_2_0)]) hx hb dX7_rename_41 hl (by decide) rfl (fun ls hl => ?_)
      refine lv_aload_n hx hb dX7_rename_43 rfl (lv_at hl 2 rfl) ?_
      refine va_get (D := D) (ci := 7) (v := .int (u35_3_0 17 0)) (C := RX7) (T := TX7) (N := 19) hx hb hts i7 hown hK hP 0 rfl rfl 17 (by decide) hk121 (fun _ h9 => h9) rfl dX7_rename_44 ?_
      refine lv_istore (lv' := [(6, .int (u35_3_0 17 0)), (5, .int (u35_3_0 16 0)), (4, .int v35_3_0), (0, .ref (a0 0)), (2, .int p2), (3, .int v19_2_0)]) hx hb dX7_rename_47 hl (by decide) rfl (fun ls hl => ?_)
      refine lv_iload_n hx hb dX7_rename_49 rfl (lv_at hl 5 rfl) ?_
      obtain ⟨k62_4, hk62_4, hf⟩ := jn_some hf
      have j62_4 : ∀ (v62_4_0 : Int32) (u62_4_0 : S1) (H : Heap) (locs : List Loc) (ls : Array Slot), k62_4 v62_4_0 u62_4_0 = some o → va_P D cls (wX7 cI cZ a0 u62_4_0) H → va_S A s.heap H locs → lv_has ls 12 [(0, .ref (a0 0)), (2, .int p2), (3, .int v19_2_0), (4, .int v35_3_0), (5, .int (u35_3_0 16 0)), (6, .int (u35_3_0 17 0))] → W p l e (headSpec wsX7_rename rmX7_rename).room s m args below meth c H locs 0 0 Q (F0 m 62 ls [.int v62_4_0]) := by
        intro v62_4_0 u62_4_0 H locs ls hf hP hS hl
        have hf := qa2 hk62_4 hf
        refine lv_istore (lv' := [(7, .int v62_4_0), (0, .ref (a0 0)), (2, .int p2), (3, .int v19_2_0), (4, .int v35_3_0), (5, .int (u35_3_0 16 0)), (6, .int (u35_3_0 17 0))]) hx hb dX7_rename_62 hl (by decide) rfl (fun ls hl => ?_)
        refine lv_iload hx hb dX7_rename_64 (lv_at hl 4 rfl) ?_
        refine lv_iconst (v := (-1)) hx hb dX7_rename_66 (by decide) ?_
        obtain ⟨k81_5, hk81_5, hf⟩ := jn_some hf
        have j81_5 : ∀ (v81_5_0 : Int32) (H : Heap) (locs : List Loc) (ls : Array Slot), k81_5 v81_5_0 = some o → va_P D cls (wX7 cI cZ a0 u62_4_0) H → va_S A s.heap H locs → lv_has ls 12 [(0, .ref (a0 0)), (2, .int p2), (3, .int v19_2_0), (4, .int v35_3_0), (5, .int (u35_3_0 16 0)), (6, .int (u35_3_0 17 0)), (7, .int v62_4_0)] → W p l e (headSpec wsX7_rename rmX7_rename).room s m args below meth c H locs 0 0 Q (F0 m 81 ls [.int v81_5_0]) := by
          intro v81_5_0 H locs ls hf hP hS hl
          have hf := qa1 hk81_5 hf
          refine lv_istore (lv' := [(8, .int v81_5_0), (0, .ref (a0 0)), (2, .int p2), (3, .int v19_2_0), (4, .int v35_3_0), (5, .int (u35_3_0 16 0)), (6, .int (u35_3_0 17 0)), (7, .int v62_4_0)]) hx hb dX7_rename_81 hl (by decide) rfl (fun ls hl => ?_)
          refine lv_iload_n hx hb dX7_rename_83 rfl (lv_at hl 2 rfl) ?_
          refine lv_bipush (v := 100) hx hb dX7_rename_84 (by decide) ?_
          refine lv_irem hx hb dX7_rename_86 (by decide) ?_
          refine lv_istore (lv' := [(9, .int (p2 - p2 / 100 * 100)), (8, .int v81_5_0), (0, .ref (a0 0)), (2, .int p2), (3, .int v19_2_0), (4, .int v35_3_0), (5, .int (u35_3_0 16 0)), (6, .int (u35_3_0 17 0)), (7, .int v62_4_0)]) hx hb dX7_rename_87 hl (by decide) rfl (fun ls hl => ?_)
          refine lv_iload hx hb dX7_rename_89 (lv_at hl 1 rfl) ?_
          obtain ⟨k107_6, hk107_6, hf⟩ := jn_some hf
          have j107_6 : ∀ (v107_6_0 : Int32) (H : Heap) (locs : List Loc) (ls : Array Slot), k107_6 v107_6_0 = some o → va_P D cls (wX7 cI cZ a0 u62_4_0) H → va_S A s.heap H locs → lv_has ls 12 [(0, .ref (a0 0)), (3, .int v19_2_0), (4, .int v35_3_0), (5, .int (u35_3_0 16 0)), (6, .int (u35_3_0 17 0)), (7, .int v62_4_0), (8, .int v81_5_0), (9, .int (p2 - p2 / 100 * 100))] → W p l e (headSpec wsX7_rename rmX7_rename).room s m args below meth c H locs 0 0 Q (F0 m 107 ls [.int v107_6_0]) := by
            intro v107_6_0 H locs ls hf hP hS hl
            have hf := qa1 hk107_6 hf
            refine lv_istore (lv' := [(10, .int v107_6_0), (0, .ref (a0 0)), (3, .int v19_2_0), (4, .int v35_3_0), (5, .int (u35_3_0 16 0)), (6, .int (u35_3_0 17 0)), (7, .int v62_4_0), (8, .int v81_5_0), (9, .int (p2 - p2 / 100 * 100))]) hx hb dX7_rename_107 hl (by decide) rfl (fun ls hl => ?_)
            refine lv_aload_n hx hb dX7_rename_109 rfl (lv_at hl 1 rfl) ?_
            refine lv_iload_n hx hb dX7_rename_110 rfl (lv_at hl 2 rfl) ?_
            obtain ⟨k154_7, hk154_7, hf⟩ := jn_some hf
            have j154_7 : ∀ (v154_7_0 : Int32) (H : Heap) (locs : List Loc) (ls : Array Slot), k154_7 v154_7_0 = some o → va_P D cls (wX7 cI cZ a0 u62_4_0) H → va_S A s.heap H locs → lv_has ls 12 [(0, .ref (a0 0)), (4, .int v35_3_0), (5, .int (u35_3_0 16 0)), (6, .int (u35_3_0 17 0)), (7, .int v62_4_0), (9, .int (p2 - p2 / 100 * 100)), (10, .int v107_6_0)] → W p l e (headSpec wsX7_rename rmX7_rename).room s m args below meth c H locs 0 0 Q (F0 m 154 ls [.int v154_7_0, .ref (a0 0)]) := by
              intro v154_7_0 H locs ls hf hP hS hl
              have hf := qa1 hk154_7 hf
              obtain ⟨z_8, hz_8, hf⟩ := bn_some hf
              refine cWVi (As := [.int v154_7_0]) (rest := []) ⟨hx, hb, hml, hown, hts⟩ (c_X7_can l D cI cZ cJ cT a0 H.size u62_4_0 v154_7_0 z_8 hz_8) (cwV 1 hts gX7_rename_X7_can rfl rfl rfl (by decide +kernel) ⟨Nat.le_of_ble_eq_true rfl, Nat.le_of_ble_eq_true rfl⟩) hP hK (hDD u62_4_0) hS (own_free (hDD u62_4_0) hS hA) (va_recv hK hP (ci := 7) (q0 := 0) rfl rfl) rfl rfl hl.1 (Nat.le_of_ble_eq_true rfl) dX7_rename_154 ⟨Nat.le_of_ble_eq_true rfl, Nat.le_of_ble_eq_true rfl⟩ (fun H1 locs hP1 hk1 hS => ?_)
              have hP : va_P D cls (wX7 cI cZ a0 z_8.2) H1 := hP1
              clear hP1 hk1
              generalize H1 = H at hP hS ⊢
              refine lv_if_ne (tgt := 162) hx hb dX7_rename_157 (by decide) (fun c_9 => ?_) (fun c_9 => ?_)
              · have hf := ite_f hf c_9
                refine lv_iload hx hb dX7_rename_162 (lv_at hl 6 rfl) ?_
                refine lv_iload hx hb dX7_rename_164 (lv_at hl 1 rfl) ?_
                obtain ⟨k209_10, hk209_10, hf⟩ := jn_some hf
                have j209_10 : ∀ (u209_10_0 : S1) (H : Heap) (locs : List Loc) (ls : Array Slot), k209_10 u209_10_0 = some o → va_P D cls (wX7 cI cZ a0 u209_10_0) H → va_S A s.heap H locs → lv_has ls 12 [(4, .int v35_3_0)] → W p l e (headSpec wsX7_rename rmX7_rename).room s m args below meth c H locs 0 0 Q (F0 m 209 ls []) := by
                  intro u209_10_0 H locs ls hf hP hS hl
                  have hf := qa1 hk209_10 hf
                  refine lv_iload hx hb dX7_rename_209 (lv_at hl 0 rfl) ?_
                  have eo := Option.some.inj hf
                  have hP : va_P D cls (wX7 cI cZ a0 o.2) H := by rw [← eo]; exact hP
                  rw [hQ]
                  exact W.iret hx hb hr (fun t ht hW => ⟨⟨_, (), rfl, congrArg Prod.fst eo, P_at ht hP⟩, hS.F ht⟩) hS.2.2 dX7_rename_211 hlocks
                refine lv_icmp_eq (tgt := 209) hx hb dX7_rename_166 (by decide) (fun c_11 => ?_) (fun c_11 => ?_)
                · have hf := ite_t hf c_11
                  exact j209_10 _ _ _ _ hf hP hS (lv_sub hl [1] rfl)
                · have hf := ite_f hf c_11
                  refine lv_aload_n hx hb dX7_rename_169 rfl (lv_at hl 0 rfl) ?_
                  refine lv_iload hx hb dX7_rename_170 (lv_at hl 2 rfl) ?_
                  refine lv_iload hx hb dX7_rename_172 (lv_at hl 3 rfl) ?_
                  obtain ⟨z_12, hz_12, hf⟩ := bn_some hf
                  refine cWVv (As := [.int (u35_3_0 16 0), .int (u35_3_0 17 0)]) (rest := []) ⟨hx, hb, hml, hown, hts⟩ (c_X7_leaves l D cI cZ cJ cT a0 H.size z_8.2 (u35_3_0 16 0) (u35_3_0 17 0) z_12 hz_12) (cwV 2 hts gX7_rename_X7_leaves rfl rfl rfl (by decide +kernel) ⟨Nat.le_of_ble_eq_true rfl, Nat.le_of_ble_eq_true rfl⟩) hP hK (hDD z_8.2) hS (own_free (hDD z_8.2) hS hA) (va_recv hK hP (ci := 7) (q0 := 0) rfl rfl) rfl rfl hl.1 (Nat.le_of_ble_eq_true rfl) dX7_rename_174 ⟨Nat.le_of_ble_eq_true rfl, Nat.le_of_ble_eq_true rfl⟩ (fun H1 locs hP1 hk1 hS => ?_)
                  have hP : va_P D cls (wX7 cI cZ a0 z_12) H1 := hP1
                  clear hP1 hk1
                  generalize H1 = H at hP hS ⊢
                  refine lv_iload hx hb dX7_rename_177 (lv_at hl 6 rfl) ?_
                  refine lv_iconst (v := (-1)) hx hb dX7_rename_179 (by decide) ?_
                  obtain ⟨k199_13, hk199_13, hf⟩ := jn_some hf
                  have j199_13 : ∀ (u199_13_0 : S1) (H : Heap) (locs : List Loc) (ls : Array Slot), k199_13 u199_13_0 = some o → va_P D cls (wX7 cI cZ a0 u199_13_0) H → va_S A s.heap H locs → lv_has ls 12 [(0, .ref (a0 0)), (4, .int v35_3_0), (7, .int v62_4_0), (9, .int (p2 - p2 / 100 * 100))] → W p l e (headSpec wsX7_rename rmX7_rename).room s m args below meth c H locs 0 0 Q (F0 m 199 ls []) := by
                    intro u199_13_0 H locs ls hf hP hS hl
                    have hf := qa1 hk199_13 hf
                    refine lv_aload_n hx hb dX7_rename_199 rfl (lv_at hl 0 rfl) ?_
                    refine lv_iload hx hb dX7_rename_200 (lv_at hl 2 rfl) ?_
                    refine lv_iload hx hb dX7_rename_202 (lv_at hl 3 rfl) ?_
                    refine lv_iload hx hb dX7_rename_204 (lv_at hl 1 rfl) ?_
                    obtain ⟨z_14, hz_14, hf⟩ := bn_some hf
                    refine cWVv (As := [.int v62_4_0, .int (p2 - p2 / 100 * 100), .int v35_3_0]) (rest := []) ⟨hx, hb, hml, hown, hts⟩ (c_X7_enters l D cI cZ cJ cT a0 H.size u199_13_0 v62_4_0 (p2 - p2 / 100 * 100) v35_3_0 z_14 hz_14) (cwV 3 hts gX7_rename_X7_enters rfl rfl rfl (by decide +kernel) ⟨Nat.le_of_ble_eq_true rfl, Nat.le_of_ble_eq_true rfl⟩) hP hK (hDD u199_13_0) hS (own_free (hDD u199_13_0) hS hA) (va_recv hK hP (ci := 7) (q0 := 0) rfl rfl) rfl rfl hl.1 (Nat.le_of_ble_eq_true rfl) dX7_rename_206 ⟨Nat.le_of_ble_eq_true rfl, Nat.le_of_ble_eq_true rfl⟩ (fun H1 locs hP1 hk1 hS => ?_)
                    have hP : va_P D cls (wX7 cI cZ a0 z_14) H1 := hP1
                    clear hP1 hk1
                    generalize H1 = H at hP hS ⊢
                    exact j209_10 _ _ _ _ hf hP hS (lv_sub hl [1] rfl)
                  refine lv_icmp_eq (tgt := 199) hx hb dX7_rename_180 (by decide) (fun c_15 => ?_) (fun c_15 => ?_)
                  · have hf := ite_t hf c_15
                    exact j199_13 _ _ _ _ hf hP hS (lv_sub hl [0, 1, 4, 5] rfl)
                  · have hf := ite_f hf c_15
                    refine lv_aload_n hx hb dX7_rename_183 rfl (lv_at hl 0 rfl) ?_
                    refine lv_iload hx hb dX7_rename_184 (lv_at hl 4 rfl) ?_
                    refine lv_iload hx hb dX7_rename_186 (lv_at hl 5 rfl) ?_
                    obtain ⟨z_16, hz_16, hf⟩ := bn_some hf
                    refine cWVv (As := [.int v62_4_0, .int (p2 - p2 / 100 * 100)]) (rest := []) ⟨hx, hb, hml, hown, hts⟩ (c_X7_leaves l D cI cZ cJ cT a0 H.size z_12 v62_4_0 (p2 - p2 / 100 * 100) z_16 hz_16) (cwV 2 hts gX7_rename_X7_leaves rfl rfl rfl (by decide +kernel) ⟨Nat.le_of_ble_eq_true rfl, Nat.le_of_ble_eq_true rfl⟩) hP hK (hDD z_12) hS (own_free (hDD z_12) hS hA) (va_recv hK hP (ci := 7) (q0 := 0) rfl rfl) rfl rfl hl.1 (Nat.le_of_ble_eq_true rfl) dX7_rename_188 ⟨Nat.le_of_ble_eq_true rfl, Nat.le_of_ble_eq_true rfl⟩ (fun H1 locs hP1 hk1 hS => ?_)
                    have hP : va_P D cls (wX7 cI cZ a0 z_16) H1 := hP1
                    clear hP1 hk1
                    generalize H1 = H at hP hS ⊢
                    refine lv_aload_n hx hb dX7_rename_191 rfl (lv_at hl 0 rfl) ?_
                    refine lv_iload hx hb dX7_rename_192 (lv_at hl 6 rfl) ?_
                    obtain ⟨z_17, hz_17, hf⟩ := bn_some hf
                    refine cWVi (As := [.int v107_6_0]) (rest := []) ⟨hx, hb, hml, hown, hts⟩ (c_X7_loses l D cI cZ cJ cT a0 H.size z_16 v107_6_0 z_17 hz_17) (cwV 1 hts gX7_rename_X7_loses rfl rfl rfl (by decide +kernel) ⟨Nat.le_of_ble_eq_true rfl, Nat.le_of_ble_eq_true rfl⟩) hP hK (hDD z_16) hS (own_free (hDD z_16) hS hA) (va_recv hK hP (ci := 7) (q0 := 0) rfl rfl) rfl rfl hl.1 (Nat.le_of_ble_eq_true rfl) dX7_rename_194 ⟨Nat.le_of_ble_eq_true rfl, Nat.le_of_ble_eq_true rfl⟩ (fun H1 locs hP1 hk1 hS => ?_)
                    have hP : va_P D cls (wX7 cI cZ a0 z_17.2) H1 := hP1
                    clear hP1 hk1
                    generalize H1 = H at hP hS ⊢
                    refine lv_istore (lv' := [(11, .int z_17.1), (0, .ref (a0 0)), (4, .int v35_3_0), (5, .int (u35_3_0 16 0)), (6, .int (u35_3_0 17 0)), (7, .int v62_4_0), (9, .int (p2 - p2 / 100 * 100)), (10, .int v107_6_0)]) hx hb dX7_rename_197 hl (by decide) rfl (fun ls hl => ?_)
                    exact j199_13 _ _ _ _ hf hP hS (lv_sub hl [1, 2, 5, 6] rfl)
              · have hf := ite_t hf c_9
                refine lv_iconst (v := 0) hx hb dX7_rename_160 (by decide) ?_
                have eo := Option.some.inj hf
                have hP : va_P D cls (wX7 cI cZ a0 o.2) H := by rw [← eo]; exact hP
                rw [hQ]
                exact W.iret hx hb hr (fun t ht hW => ⟨⟨_, (), rfl, congrArg Prod.fst eo, P_at ht hP⟩, hS.F ht⟩) hS.2.2 dX7_rename_161 hlocks
            refine lv_if_ne (tgt := 118) hx hb dX7_rename_111 (by decide) (fun c_18 => ?_) (fun c_18 => ?_)
            · have hf := ite_f hf c_18
              refine lv_iload hx hb dX7_rename_118 (lv_at hl 7 rfl) ?_
              refine lv_if_ne (tgt := 127) hx hb dX7_rename_120 (by decide) (fun c_19 => ?_) (fun c_19 => ?_)
              · have hf := ite_f hf c_19
                refine lv_iload hx hb dX7_rename_127 (lv_at hl 0 rfl) ?_
                refine lv_iload hx hb dX7_rename_129 (lv_at hl 3 rfl) ?_
                obtain ⟨k149_20, hk149_20, hf⟩ := jn_some hf
                have j149_20 : ∀ (H : Heap) (locs : List Loc) (ls : Array Slot), k149_20 = some o → va_P D cls (wX7 cI cZ a0 u62_4_0) H → va_S A s.heap H locs → lv_has ls 12 [(0, .ref (a0 0)), (4, .int v35_3_0), (5, .int (u35_3_0 16 0)), (6, .int (u35_3_0 17 0)), (7, .int v62_4_0), (9, .int (p2 - p2 / 100 * 100)), (10, .int v107_6_0)] → W p l e (headSpec wsX7_rename rmX7_rename).room s m args below meth c H locs 0 0 Q (F0 m 149 ls [.ref (a0 0)]) := by
                  intro H locs ls hf hP hS hl
                  have hf := qa0 hk149_20 hf
                  refine lv_iconst (v := 0) hx hb dX7_rename_149 (by decide) ?_
                  refine lv_goto (tgt := 154) hx hb dX7_rename_150 (by decide) ?_
                  exact j154_7 _ _ _ _ hf hP hS (lv_sub hl [0, 1, 2, 3, 4, 5, 6] rfl)
                refine lv_icmp_eq (tgt := 149) hx hb dX7_rename_131 (by decide) (fun c_21 => ?_) (fun c_21 => ?_)
                · have hf := ite_t hf c_21
                  exact j149_20 _ _ _ hf hP hS (lv_sub hl [1, 3, 4, 5, 6, 8, 0] rfl)
                · have hf := ite_f hf c_21
                  refine lv_aload_n hx hb dX7_rename_134 rfl (lv_at hl 1 rfl) ?_
                  refine lv_iload hx hb dX7_rename_135 (lv_at hl 3 rfl) ?_
                  refine lv_iload hx hb dX7_rename_137 (lv_at hl 6 rfl) ?_
                  refine lv_iload hx hb dX7_rename_139 (lv_at hl 8 rfl) ?_
                  refine lv_iload hx hb dX7_rename_141 (lv_at hl 4 rfl) ?_
                  obtain ⟨z_22, hz_22, hf⟩ := bn_some hf
                  refine cRV (As := [.int v35_3_0, .int v62_4_0, .int (p2 - p2 / 100 * 100), .int (u35_3_0 16 0)]) (rest := [.ref (a0 0)]) ⟨hx, hb, hml, hown, hts⟩ (c_X7_canTake l D cI cZ cJ cT a0 u62_4_0 v35_3_0 v62_4_0 (p2 - p2 / 100 * 100) (u35_3_0 16 0) z_22 hz_22) (cwV 4 hts gX7_rename_X7_canTake rfl rfl rfl (by decide +kernel) ⟨Nat.le_of_ble_eq_true rfl, Nat.le_of_ble_eq_true rfl⟩) hP hK (va_recv hK hP (ci := 7) (q0 := 0) rfl rfl) rfl rfl hl.1 (Nat.le_of_ble_eq_true rfl) dX7_rename_143 ⟨Nat.le_of_ble_eq_true rfl, Nat.le_of_ble_eq_true rfl⟩ ?_
                  refine lv_if_eq (tgt := 153) hx hb dX7_rename_146 (by decide) (fun c_23 => ?_) (fun c_23 => ?_)
                  · have hf := ite_t hf c_23
                    refine lv_iconst (v := 3) hx hb dX7_rename_153 (by decide) ?_
                    exact j154_7 _ _ _ _ hf hP hS (lv_sub hl [1, 3, 4, 5, 6, 8, 0] rfl)
                  · have hf := ite_f hf c_23
                    exact j149_20 _ _ _ hf hP hS (lv_sub hl [1, 3, 4, 5, 6, 8, 0] rfl)
              · have hf := ite_t hf c_19
                refine lv_iconst (v := 2) hx hb dX7_rename_123 (by decide) ?_
                refine lv_goto (tgt := 154) hx hb dX7_rename_124 (by decide) ?_
                exact j154_7 _ _ _ _ hf hP hS (lv_sub hl [1, 3, 4, 5, 6, 8, 0] rfl)
            · have hf := ite_t hf c_18
              refine lv_iconst (v := 1) hx hb dX7_rename_114 (by decide) ?_
              refine lv_goto (tgt := 154) hx hb dX7_rename_115 (by decide) ?_
              exact j154_7 _ _ _ _ hf hP hS (lv_sub hl [1, 3, 4, 5, 6, 8, 0] rfl)
          refine lv_if_eq (tgt := 106) hx hb dX7_rename_91 (by decide) (fun c_24 => ?_) (fun c_24 => ?_)
          · have hf := ite_t hf c_24
            refine lv_iconst (v := (-1)) hx hb dX7_rename_106 (by decide) ?_
            exact j107_6 _ _ _ _ hf hP hS (lv_sub hl [2, 4, 5, 6, 7, 8, 1, 0] rfl)
          · have hf := ite_f hf c_24
            refine lv_aload_n hx hb dX7_rename_94 rfl (lv_at hl 2 rfl) ?_
            refine lv_iconst (v := 0) hx hb dX7_rename_95 (by decide) ?_
            refine lv_iload hx hb dX7_rename_96 (lv_at hl 8 rfl) ?_
            refine lv_iload hx hb dX7_rename_98 (lv_at hl 0 rfl) ?_
            obtain ⟨z_25, hz_25, hf⟩ := bn_some hf
            refine cRV (As := [.int 0, .int v62_4_0, .int (p2 - p2 / 100 * 100)]) (rest := []) ⟨hx, hb, hml, hown, hts⟩ (c_X7_entryOf l D cI cZ cJ cT a0 u62_4_0 0 v62_4_0 (p2 - p2 / 100 * 100) z_25 hz_25) (cwV 3 hts gX7_rename_X7_entryOf rfl rfl rfl (by decide +kernel) ⟨Nat.le_of_ble_eq_true rfl, Nat.le_of_ble_eq_true rfl⟩) hP hK (va_recv hK hP (ci := 7) (q0 := 0) rfl rfl) rfl rfl hl.1 (Nat.le_of_ble_eq_true rfl) dX7_rename_100 ⟨Nat.le_of_ble_eq_true rfl, Nat.le_of_ble_eq_true rfl⟩ ?_
            refine lv_goto (tgt := 107) hx hb dX7_rename_103 (by decide) ?_
            exact j107_6 _ _ _ _ hf hP hS (lv_sub hl [2, 4, 5, 6, 7, 8, 1, 0] rfl)
        obtain ⟨k80_26, hk80_26, hf⟩ := jn_some hf
        have j80_26 : ∀ (H : Heap) (locs : List Loc) (ls : Array Slot), k80_26 = some o → va_P D cls (wX7 cI cZ a0 u62_4_0) H → va_S A s.heap H locs → lv_has ls 12 [(0, .ref (a0 0)), (2, .int p2), (3, .int v19_2_0), (4, .int v35_3_0), (5, .int (u35_3_0 16 0)), (6, .int (u35_3_0 17 0)), (7, .int v62_4_0)] → W p l e (headSpec wsX7_rename rmX7_rename).room s m args below meth c H locs 0 0 Q (F0 m 80 ls []) := by
          intro H locs ls hf hP hS hl
          have hf := qa0 hk80_26 hf
          refine lv_iconst (v := 0) hx hb dX7_rename_80 (by decide) ?_
          exact j81_5 _ _ _ _ hf hP hS (lv_sub hl [0, 1, 2, 3, 4, 5, 6] rfl)
        refine lv_icmp_eq (tgt := 80) hx hb dX7_rename_67 (by decide) (fun c_27 => ?_) (fun c_27 => ?_)
        · have hf := ite_t hf c_27
          exact j80_26 _ _ _ hf hP hS (lv_sub hl [1, 2, 3, 4, 5, 6, 0] rfl)
        · have hf := ite_f hf c_27
          refine lv_iload hx hb dX7_rename_70 (lv_at hl 0 rfl) ?_
          refine lv_iconst (v := (-1)) hx hb dX7_rename_72 (by decide) ?_
          refine lv_icmp_eq (tgt := 80) hx hb dX7_rename_73 (by decide) (fun c_28 => ?_) (fun c_28 => ?_)
          · have hf := ite_t hf c_28
            exact j80_26 _ _ _ hf hP hS (lv_sub hl [1, 2, 3, 4, 5, 6, 0] rfl)
          · have hf := ite_f hf c_28
            refine lv_iconst (v := 1) hx hb dX7_rename_76 (by decide) ?_
            refine lv_goto (tgt := 81) hx hb dX7_rename_77 (by decide) ?_
            exact j81_5 _ _ _ _ hf hP hS (lv_sub hl [1, 2, 3, 4, 5, 6, 0] rfl)
      refine lv_if_eq (tgt := 61) hx hb dX7_rename_50 (by decide) (fun c_29 => ?_) (fun c_29 => ?_)
      · have hf := ite_t hf c_29
        refine lv_iconst (v := (-1)) hx hb dX7_rename_61 (by decide) ?_
        exact j62_4 _ _ _ _ _ hf hP hS (lv_sub hl [3, 4, 5, 2, 1, 0] rfl)
      · have hf := ite_f hf c_29
        refine lv_aload_n hx hb dX7_rename_53 rfl (lv_at hl 3 rfl) ?_
        refine lv_iload_n hx hb dX7_rename_54 rfl (lv_at hl 4 rfl) ?_
        obtain ⟨z_30, hz_30, hf⟩ := bn_some hf
        refine cWVi (As := [.int p2]) (rest := []) ⟨hx, hb, hml, hown, hts⟩ (c_X7_folderOf l D cI cZ cJ cT a0 H.size u35_3_0 p2 z_30 hz_30) (cwV 1 hts gX7_rename_X7_folderOf rfl rfl rfl (by decide +kernel) ⟨Nat.le_of_ble_eq_true rfl, Nat.le_of_ble_eq_true rfl⟩) hP hK (hDD u35_3_0) hS (own_free (hDD u35_3_0) hS hA) (va_recv hK hP (ci := 7) (q0 := 0) rfl rfl) rfl rfl hl.1 (Nat.le_of_ble_eq_true rfl) dX7_rename_55 ⟨Nat.le_of_ble_eq_true rfl, Nat.le_of_ble_eq_true rfl⟩ (fun H1 locs hP1 hk1 hS => ?_)
        have hP : va_P D cls (wX7 cI cZ a0 z_30.2) H1 := hP1
        clear hP1 hk1
        generalize H1 = H at hP hS ⊢
        refine lv_goto (tgt := 62) hx hb dX7_rename_58 (by decide) ?_
        exact j62_4 _ _ _ _ _ hf hP hS (lv_sub hl [3, 4, 5, 2, 1, 0] rfl)
    refine lv_if_eq (tgt := 34) hx hb dX7_rename_21 (by decide) (fun c_31 => ?_) (fun c_31 => ?_)
    · have hf := ite_t hf c_31
      refine lv_iconst (v := (-1)) hx hb dX7_rename_34 (by decide) ?_
      exact j35_3 _ _ _ _ _ hf hP hS (lv_sub hl [1, 3, 0] rfl)
    · have hf := ite_f hf c_31
      refine lv_aload_n hx hb dX7_rename_24 rfl (lv_at hl 1 rfl) ?_
      refine lv_iconst (v := 0) hx hb dX7_rename_25 (by decide) ?_
      refine lv_iload_n hx hb dX7_rename_26 rfl (lv_at hl 2 rfl) ?_
      refine lv_iconst (v := 0) hx hb dX7_rename_27 (by decide) ?_
      obtain ⟨z_32, hz_32, hf⟩ := bn_some hf
      refine cWVi (As := [.int 0, .int p1, .int 0]) (rest := []) ⟨hx, hb, hml, hown, hts⟩ (c_X7_walks l D cI cZ cJ cT a0 H.size u0 0 p1 0 z_32 hz_32) (cwV 3 hts gX7_rename_X7_walks rfl rfl rfl (by decide +kernel) ⟨Nat.le_of_ble_eq_true rfl, Nat.le_of_ble_eq_true rfl⟩) hP hK (hDD u0) hS (own_free (hDD u0) hS hA) (va_recv hK hP (ci := 7) (q0 := 0) rfl rfl) rfl rfl hl.1 (Nat.le_of_ble_eq_true rfl) dX7_rename_28 ⟨Nat.le_of_ble_eq_true rfl, Nat.le_of_ble_eq_true rfl⟩ (fun H1 locs hP1 hk1 hS => ?_)
      have hP : va_P D cls (wX7 cI cZ a0 z_32.2) H1 := hP1
      clear hP1 hk1
      generalize H1 = H at hP hS ⊢
      refine lv_goto (tgt := 35) hx hb dX7_rename_31 (by decide) ?_
      exact j35_3 _ _ _ _ _ hf hP hS (lv_sub hl [1, 3, 0] rfl)
  obtain ⟨k18_33, hk18_33, hf⟩ := jn_some hf
  have j18_33 : ∀ (H : Heap) (locs : List Loc) (ls : Array Slot), k18_33 = some o → va_P D cls (wX7 cI cZ a0 u0) H → va_S A s.heap H locs → lv_has ls 12 [(0, .ref (a0 0)), (1, .int p1), (2, .int p2)] → W p l e (headSpec wsX7_rename rmX7_rename).room s m args below meth c H locs 0 0 Q (F0 m 18 ls []) := by
    intro H locs ls hf hP hS hl
    have hf := qa0 hk18_33 hf
    refine lv_iconst (v := 0) hx hb dX7_rename_18 (by decide) ?_
    exact j19_2 _ _ _ _ hf hP hS (lv_sub hl [0, 1, 2] rfl)
  refine lv_if_eq (tgt := 18) hx hb dX7_rename_4 (by decide) (fun c_34 => ?_) (fun c_34 => ?_)
  · have hf := ite_t hf c_34
    exact j18_33 _ _ _ hf hP hS (lv_sub hl [0, 1, 2] rfl)
  · have hf := ite_f hf c_34
    refine lv_iload_n hx hb dX7_rename_7 rfl (lv_at hl 2 rfl) ?_
    obtain ⟨z_35, hz_35, hf⟩ := bn_some hf
    refine c0S (As := [.int p2]) (rest := []) ⟨hx, hb, hml, hown, hts⟩ (c_X7_isPath l D cI cZ cJ cT p2 z_35 hz_35) (va_cwS 1 hts gX7_rename_X7_isPath rfl rfl rfl (by decide +kernel) ⟨Nat.le_of_ble_eq_true rfl, Nat.le_of_ble_eq_true rfl⟩) rfl rfl hl.1 (Nat.le_of_ble_eq_true rfl) dX7_rename_8 ⟨Nat.le_of_ble_eq_true rfl, Nat.le_of_ble_eq_true rfl⟩ ?_
    refine lv_if_eq (tgt := 18) hx hb dX7_rename_11 (by decide) (fun c_36 => ?_) (fun c_36 => ?_)
    · have hf := ite_t hf c_36
      exact j18_33 _ _ _ hf hP hS (lv_sub hl [0, 1, 2] rfl)
    · have hf := ite_f hf c_36
      refine lv_iconst (v := 1) hx hb dX7_rename_14 (by decide) ?_
      refine lv_goto (tgt := 19) hx hb dX7_rename_15 (by decide) ?_
      exact j19_2 _ _ _ _ hf hP hS (lv_sub hl [0, 1, 2] rfl)
set_option maxRecDepth 20000 in
theorem ggX7_remove_X7_can : GoodIn wsX7_remove wsX7_can := goodIn_r _ [53, 54, 84, 85, 86, 87, 88, 89, 90, 91, 92, 93, 94, 95, 96, 97, 98, 99, 100, 101, 102] (by decide +kernel) (by decide +kernel)
set_option maxRecDepth 20000 in
theorem gX7_remove_X7_can : GoodIn wsX7_remove (wsV RX7 140 RX7 yX7_can wsX7_can) := goodIn_app (goodIn_of _ (by decide +kernel)) ggX7_remove_X7_can
set_option maxRecDepth 20000 in
theorem ggX7_remove_X7_entries : GoodIn wsX7_remove wsX7_entries := goodIn_r _ [40, 17, 22, 23, 5, 24, 84, 85, 86, 87, 88, 89, 90, 91, 92, 93, 94, 95, 96, 97, 98, 99, 100, 101, 102] (by decide +kernel) (by decide +kernel)
set_option maxRecDepth 20000 in
theorem gX7_remove_X7_entries : GoodIn wsX7_remove (wsV RX7 109 RX7 yX7_entries wsX7_entries) := goodIn_app (goodIn_of _ (by decide +kernel)) ggX7_remove_X7_entries
set_option maxRecDepth 20000 in
theorem ggX7_remove_X7_isPath : GoodIn wsX7_remove wsX7_isPath := goodIn_r _ [6, 7, 8, 9, 5, 10] (by decide +kernel) (by decide +kernel)
set_option maxRecDepth 20000 in
theorem gX7_remove_X7_isPath : GoodIn wsX7_remove (va_wsS RX7 149 yX7_isPath wsX7_isPath) := goodIn_app (goodIn_of _ (by decide +kernel)) ggX7_remove_X7_isPath
set_option maxRecDepth 20000 in
theorem ggX7_remove_X7_kindOf : GoodIn wsX7_remove wsX7_kindOf := goodIn_r _ [36, 17, 22, 23, 5, 24, 84, 85, 86, 87, 88, 89, 90, 91, 92, 93, 94, 95, 96, 97, 98, 99, 100, 101, 102] (by decide +kernel) (by decide +kernel)
set_option maxRecDepth 20000 in
theorem gX7_remove_X7_kindOf : GoodIn wsX7_remove (wsV RX7 131 RX7 yX7_kindOf wsX7_kindOf) := goodIn_app (goodIn_of _ (by decide +kernel)) ggX7_remove_X7_kindOf
set_option maxRecDepth 20000 in
theorem ggX7_remove_X7_leaves : GoodIn wsX7_remove wsX7_leaves := goodIn_r _ [58, 17, 22, 23, 5, 24, 37, 38, 39, 40, 29, 30, 31, 32, 84, 85, 86, 87, 88, 89, 90, 91, 92, 93, 94, 95, 96, 97, 98, 99, 100, 101, 102] (by decide +kernel) (by decide +kernel)
set_option maxRecDepth 20000 in
theorem gX7_remove_X7_leaves : GoodIn wsX7_remove (wsV RX7 180 RX7 yX7_leaves wsX7_leaves) := goodIn_app (goodIn_of _ (by decide +kernel)) ggX7_remove_X7_leaves
set_option maxRecDepth 20000 in
theorem ggX7_remove_X7_loses : GoodIn wsX7_remove wsX7_loses := goodIn_r _ [62, 17, 22, 23, 5, 24, 63, 64, 65, 66, 67, 68, 69, 70, 71, 72, 73, 74, 75, 76, 77, 78, 79, 80, 81, 82, 83, 84, 85, 86, 87, 88, 89, 90, 91, 92, 93, 94, 95, 96, 97, 98, 99, 100, 101, 102] (by decide +kernel) (by decide +kernel)
set_option maxRecDepth 20000 in
theorem gX7_remove_X7_loses : GoodIn wsX7_remove (wsV RX7 183 RX7 yX7_loses wsX7_loses) := goodIn_app (goodIn_of _ (by decide +kernel)) ggX7_remove_X7_loses
set_option maxRecDepth 20000 in
theorem ggX7_remove_X7_mayChange : GoodIn wsX7_remove wsX7_mayChange := goodIn_r _ [44, 45, 46, 47, 5, 48, 17, 49, 22, 23, 24, 84, 85, 86, 87, 88, 89, 90, 91, 92, 93, 94, 95, 96, 97, 98, 99, 100, 101, 102] (by decide +kernel) (by decide +kernel)
set_option maxRecDepth 20000 in
theorem gX7_remove_X7_mayChange : GoodIn wsX7_remove (wsV RX7 146 RX7 yX7_mayChange wsX7_mayChange) := goodIn_app (goodIn_of _ (by decide +kernel)) ggX7_remove_X7_mayChange
set_option maxRecDepth 20000 in
theorem ggX7_remove_X7_walks : GoodIn wsX7_remove wsX7_walks := goodIn_r _ [14, 15, 1, 16, 2, 17, 18, 19, 20, 5, 21, 22, 23, 24, 25, 26, 27, 28, 29, 30, 31, 32, 84, 85, 86, 87, 88, 89, 90, 91, 92, 93, 94, 95, 96, 97, 98, 99, 100, 101, 102] (by decide +kernel) (by decide +kernel)
set_option maxRecDepth 20000 in
theorem gX7_remove_X7_walks : GoodIn wsX7_remove (wsV RX7 127 RX7 yX7_walks wsX7_walks) := goodIn_app (goodIn_of _ (by decide +kernel)) ggX7_remove_X7_walks
theorem dX7_remove_0 : decode cX7_remove 0 = .ok (.iload_n 1, 1) := by decide +kernel
theorem dX7_remove_1 : decode cX7_remove 1 = .ok (.invokestatic 149, 3) := by decide +kernel
theorem dX7_remove_4 : decode cX7_remove 4 = .ok (.istore_n 2, 1) := by decide +kernel
theorem dX7_remove_5 : decode cX7_remove 5 = .ok (.iload_n 2, 1) := by decide +kernel
theorem dX7_remove_6 : decode cX7_remove 6 = .ok (.ifCond .eq 13, 3) := by decide +kernel
theorem dX7_remove_9 : decode cX7_remove 9 = .ok (.aload_n 0, 1) := by decide +kernel
theorem dX7_remove_10 : decode cX7_remove 10 = .ok (.iconst 0, 1) := by decide +kernel
theorem dX7_remove_11 : decode cX7_remove 11 = .ok (.iload_n 1, 1) := by decide +kernel
theorem dX7_remove_12 : decode cX7_remove 12 = .ok (.iconst 0, 1) := by decide +kernel
theorem dX7_remove_13 : decode cX7_remove 13 = .ok (.invokevirtual 127, 3) := by decide +kernel
theorem dX7_remove_16 : decode cX7_remove 16 = .ok (.goto 4, 3) := by decide +kernel
theorem dX7_remove_19 : decode cX7_remove 19 = .ok (.iconst (-1), 1) := by decide +kernel
theorem dX7_remove_20 : decode cX7_remove 20 = .ok (.istore_n 3, 1) := by decide +kernel
theorem dX7_remove_21 : decode cX7_remove 21 = .ok (.aload_n 0, 1) := by decide +kernel
theorem dX7_remove_22 : decode cX7_remove 22 = .ok (.getfield 118, 3) := by decide +kernel
theorem dX7_remove_25 : decode cX7_remove 25 = .ok (.istore 4, 2) := by decide +kernel
theorem dX7_remove_27 : decode cX7_remove 27 = .ok (.iload_n 3, 1) := by decide +kernel
theorem dX7_remove_28 : decode cX7_remove 28 = .ok (.iconst (-1), 1) := by decide +kernel
theorem dX7_remove_29 : decode cX7_remove 29 = .ok (.if_icmp .eq 34, 3) := by decide +kernel
theorem dX7_remove_32 : decode cX7_remove 32 = .ok (.aload_n 0, 1) := by decide +kernel
theorem dX7_remove_33 : decode cX7_remove 33 = .ok (.iload_n 3, 1) := by decide +kernel
theorem dX7_remove_34 : decode cX7_remove 34 = .ok (.invokevirtual 131, 3) := by decide +kernel
theorem dX7_remove_37 : decode cX7_remove 37 = .ok (.iconst 1, 1) := by decide +kernel
theorem dX7_remove_38 : decode cX7_remove 38 = .ok (.if_icmp .ne 12, 3) := by decide +kernel
theorem dX7_remove_41 : decode cX7_remove 41 = .ok (.aload_n 0, 1) := by decide +kernel
theorem dX7_remove_42 : decode cX7_remove 42 = .ok (.iconst 0, 1) := by decide +kernel
theorem dX7_remove_43 : decode cX7_remove 43 = .ok (.iload_n 3, 1) := by decide +kernel
theorem dX7_remove_44 : decode cX7_remove 44 = .ok (.invokevirtual 109, 3) := by decide +kernel
theorem dX7_remove_47 : decode cX7_remove 47 = .ok (.ifCond .ne 16, 3) := by decide +kernel
theorem dX7_remove_50 : decode cX7_remove 50 = .ok (.aload_n 0, 1) := by decide +kernel
theorem dX7_remove_51 : decode cX7_remove 51 = .ok (.iload 4, 2) := by decide +kernel
theorem dX7_remove_53 : decode cX7_remove 53 = .ok (.invokevirtual 146, 3) := by decide +kernel
theorem dX7_remove_56 : decode cX7_remove 56 = .ok (.ifCond .eq 7, 3) := by decide +kernel
theorem dX7_remove_59 : decode cX7_remove 59 = .ok (.iconst 1, 1) := by decide +kernel
theorem dX7_remove_60 : decode cX7_remove 60 = .ok (.goto 4, 3) := by decide +kernel
theorem dX7_remove_63 : decode cX7_remove 63 = .ok (.iconst 0, 1) := by decide +kernel
theorem dX7_remove_64 : decode cX7_remove 64 = .ok (.istore 5, 2) := by decide +kernel
theorem dX7_remove_66 : decode cX7_remove 66 = .ok (.aload_n 0, 1) := by decide +kernel
theorem dX7_remove_67 : decode cX7_remove 67 = .ok (.iload_n 2, 1) := by decide +kernel
theorem dX7_remove_68 : decode cX7_remove 68 = .ok (.ifCond .ne 7, 3) := by decide +kernel
theorem dX7_remove_71 : decode cX7_remove 71 = .ok (.iconst 1, 1) := by decide +kernel
theorem dX7_remove_72 : decode cX7_remove 72 = .ok (.goto 22, 3) := by decide +kernel
theorem dX7_remove_75 : decode cX7_remove 75 = .ok (.iload_n 3, 1) := by decide +kernel
theorem dX7_remove_76 : decode cX7_remove 76 = .ok (.iconst (-1), 1) := by decide +kernel
theorem dX7_remove_77 : decode cX7_remove 77 = .ok (.if_icmp .ne 7, 3) := by decide +kernel
theorem dX7_remove_80 : decode cX7_remove 80 = .ok (.iconst 2, 1) := by decide +kernel
theorem dX7_remove_81 : decode cX7_remove 81 = .ok (.goto 13, 3) := by decide +kernel
theorem dX7_remove_84 : decode cX7_remove 84 = .ok (.iload 5, 2) := by decide +kernel
theorem dX7_remove_86 : decode cX7_remove 86 = .ok (.ifCond .eq 7, 3) := by decide +kernel
theorem dX7_remove_89 : decode cX7_remove 89 = .ok (.iconst 0, 1) := by decide +kernel
theorem dX7_remove_90 : decode cX7_remove 90 = .ok (.goto 4, 3) := by decide +kernel
theorem dX7_remove_93 : decode cX7_remove 93 = .ok (.iconst 3, 1) := by decide +kernel
theorem dX7_remove_94 : decode cX7_remove 94 = .ok (.invokevirtual 140, 3) := by decide +kernel
theorem dX7_remove_97 : decode cX7_remove 97 = .ok (.ifCond .ne 5, 3) := by decide +kernel
theorem dX7_remove_100 : decode cX7_remove 100 = .ok (.iconst 0, 1) := by decide +kernel
theorem dX7_remove_101 : decode cX7_remove 101 = .ok (.ireturn, 1) := by decide +kernel
theorem dX7_remove_102 : decode cX7_remove 102 = .ok (.aload_n 0, 1) := by decide +kernel
theorem dX7_remove_103 : decode cX7_remove 103 = .ok (.iload 4, 2) := by decide +kernel
theorem dX7_remove_105 : decode cX7_remove 105 = .ok (.aload_n 0, 1) := by decide +kernel
theorem dX7_remove_106 : decode cX7_remove 106 = .ok (.getfield 121, 3) := by decide +kernel
theorem dX7_remove_109 : decode cX7_remove 109 = .ok (.invokevirtual 180, 3) := by decide +kernel
theorem dX7_remove_112 : decode cX7_remove 112 = .ok (.aload_n 0, 1) := by decide +kernel
theorem dX7_remove_113 : decode cX7_remove 113 = .ok (.iload_n 3, 1) := by decide +kernel
theorem dX7_remove_114 : decode cX7_remove 114 = .ok (.invokevirtual 183, 3) := by decide +kernel
theorem dX7_remove_117 : decode cX7_remove 117 = .ok (.ireturn, 1) := by decide +kernel
def f_X7_remove (u0 : S1) (p1 : Int32) : Option (Int32 × S1) := bn (f_X7_isPath p1) (fun z_1 => jn (fun (v20_2_0 : Int32) (u20_2_0 : S1) => jn (fun (v64_3_0 : Int32) => jn (fun (v94_4_0 : Int32) => bn (f_X7_can u20_2_0 v94_4_0) (fun z_5 => if z_5.1 = 0 then some (0, z_5.2) else bn (f_X7_leaves z_5.2 (u20_2_0 16 0) (z_5.2 17 0)) (fun z_7 => bn (f_X7_loses z_7 v20_2_0) (fun z_8 => some (vp_nar .boolean z_8.1, z_8.2))))) (fun k94_4 => if z_1 = 0 then k94_4 1 else if v20_2_0 = (-1) then k94_4 2 else if v64_3_0 = 0 then k94_4 3 else k94_4 0)) (fun k64_3 => jn (k64_3 0) (fun k63_12 => if v20_2_0 = (-1) then k63_12 else bn (f_X7_kindOf u20_2_0 v20_2_0) (fun z_14 => jn (bn (f_X7_mayChange u20_2_0 (u20_2_0 16 0)) (fun z_16 => if z_16 = 0 then k63_12 else k64_3 1)) (fun k50_15 => if z_14 = 1 then bn (f_X7_entries u20_2_0 0 v20_2_0) (fun z_19 => if z_19 = 0 then k50_15 else k63_12) else k50_15))))) (fun k20_2 => if z_1 = 0 then k20_2 (-1) u0 else bn (f_X7_walks u0 0 p1 0) (fun z_22 => k20_2 z_22.1 z_22.2)))
def rmX7_remove : Room := { frames := 4, cells := 0, slots := 0, locals := 95 }
set_option maxHeartbeats 4000000 in
set_option maxRecDepth 100000 in
theorem c_X7_remove (l : Launch) (D : va_G) (cI cZ cJ cT : ClassId) (a0 : Nat → Nat) (sz : Nat) (u0 : S1) (p1 : Int32) (o : Int32 × S1) (hf : f_X7_remove u0 p1 = some o) : Met l yX7_remove wsX7_remove rmX7_remove (va_Pc [.ref (a0 0), .int p1] (PW D cls (tys cI cZ cJ cT) ((wX7 cI cZ a0 u0)) sz)) (QWi D cls o.1 ((wX7 cI cZ a0 o.2)) (va_A ((wX7 cI cZ a0 u0)) sz)) 0 0 (va_A ((wX7 cI cZ a0 u0)) sz) := by
  refine Met.ofW (cc := cX7_remove) (maxL := 6) (ret := (some .boolean)) (by decide) rfl ?_
  intro p e s m args below meth c s₁ B hml hv
  obtain ⟨hav, hsz, hP, hK, hD0⟩ := hv
  have hx := B.exec
  have hb := B.bytes
  have hr := B.returns
  have hlocks := B.notSynchronized
  have hts := atoms_spec (ws := wsX7_remove) B.pre
  have hown : s.vm.findClass RX7 = some m.cls := findClass_of_methodNamed B.named
  have i7 : ∀ w ∈ wsX70, w ∈ wsX7_remove := fun w h => List.mem_cons_of_mem _ (List.mem_append_right _ h)
  have hk118 := hts (.fieldLink RX7 118 "InoderyModel" "parent" "I") (by decide +kernel)
  have hk121 := hts (.fieldLink RX7 121 "InoderyModel" "lastName" "I") (by decide +kernel)
  subst hsz
  have hD := hD0.self (sz := s.heap.size)
  generalize hAe : va_A ((wX7 cI cZ a0 u0)) s.heap.size = A at hD ⊢
  have hA : ∀ q : Nat, s.heap.size ≤ q → A q := fun q h => by rw [← hAe]; exact Or.inr h
  have hS : va_S A s.heap s.heap [] := va_S.rf
  have hDD : ∀ w0 : S1, va_D A ((wX7 cI cZ a0 w0)) := fun _ => D_same (w := (wX7 cI cZ a0 u0)) rfl hD
  refine Wq (fun Q hQ => ?_)
  refine W_entry hav (Nat.le_of_ble_eq_true rfl) (fun ls hl => ?_)
  have hl : lv_has ls 6 [(0, .ref (a0 0)), (1, .int p1)] := hl
  unfold f_X7_remove at hf
  refine W_heap hP hS (fun H locs hP hS => ?_)
  refine lv_iload_n hx hb dX7_remove_0 rfl (lv_at hl 1 rfl) ?_
  obtain ⟨z_1, hz_1, hf⟩ := bn_some hf
  refine c0S (As := [.int p1]) (rest := []) ⟨hx, hb, hml, hown, hts⟩ (c_X7_isPath l D cI cZ cJ cT p1 z_1 hz_1) (va_cwS 1 hts gX7_remove_X7_isPath rfl rfl rfl (by decide +kernel) ⟨Nat.le_of_ble_eq_true rfl, Nat.le_of_ble_eq_true rfl⟩) rfl rfl hl.1 (Nat.le_of_ble_eq_true rfl) dX7_remove_1 ⟨Nat.le_of_ble_eq_true rfl, Nat.le_of_ble_eq_true rfl⟩ ?_
  refine lv_istore_n (lv' := [(2, .int z_1), (0, .ref (a0 0)), (1, .int p1)]) hx hb dX7_remove_4 rfl hl (by decide) rfl (fun ls hl => ?_)
  refine lv_iload_n hx hb dX7_remove_5 rfl (lv_at hl 0 rfl) ?_
  obtain ⟨k20_2, hk20_2, hf⟩ := jn_some hf
  have j20_2 : ∀ (v20_2_0 : Int32) (u20_2_0 : S1) (H : Heap) (locs : List Loc) (ls : Array Slot), k20_2 v20_2_0 u20_2_0 = some o → va_P D cls (wX7 cI cZ a0 u20_2_0) H → va_S A s.heap H locs → lv_has ls 6 [(0, .ref (a0 0)), (2, .int z_1)] → W p l e (headSpec wsX7_remove rmX7_remove).room s m args below meth c H locs 0 0 Q (F0 m 20 ls [.int v20_2_0]) := by
    intro v20_2_0 u20_2_0 H locs ls hf hP hS hl
    have hf := qa2 hk20_2 hf
    refine lv_istore_n (lv' := [(3, .int v20_2_0), (0, .ref (a0 0)), (2, .int z_1)]) hx hb dX7_remove_20 rfl hl (by decide) rfl (fun ls hl => ?_)
    refine lv_aload_n hx hb dX7_remove_21 rfl (lv_at hl 1 rfl) ?_
    refine va_get (D := D) (ci := 7) (v := .int (u20_2_0 16 0)) (C := RX7) (T := TX7) (N := 19) hx hb hts i7 hown hK hP 0 rfl rfl 16 (by decide) hk118 (fun _ h9 => h9) rfl dX7_remove_22 ?_
    refine lv_istore (lv' := [(4, .int (u20_2_0 16 0)), (3, .int v20_2_0), (0, .ref (a0 0)), (2, .int z_1)]) hx hb dX7_remove_25 hl (by decide) rfl (fun ls hl => ?_)
    refine lv_iload_n hx hb dX7_remove_27 rfl (lv_at hl 1 rfl) ?_
    refine lv_iconst (v := (-1)) hx hb dX7_remove_28 (by decide) ?_
    obtain ⟨k64_3, hk64_3, hf⟩ := jn_some hf
    have j64_3 : ∀ (v64_3_0 : Int32) (H : Heap) (locs : List Loc) (ls : Array Slot), k64_3 v64_3_0 = some o → va_P D cls (wX7 cI cZ a0 u20_2_0) H → va_S A s.heap H locs → lv_has ls 6 [(0, .ref (a0 0)), (2, .int z_1), (3, .int v20_2_0), (4, .int (u20_2_0 16 0))] → W p l e (headSpec wsX7_remove rmX7_remove).room s m args below meth c H locs 0 0 Q (F0 m 64 ls [.int v64_3_0]) := by
      intro v64_3_0 H locs ls hf hP hS hl
      have hf := qa1 hk64_3 hf
      refine lv_istore (lv' := [(5, .int v64_3_0), (0, .ref (a0 0)), (2, .int z_1), (3, .int v20_2_0), (4, .int (u20_2_0 16 0))]) hx hb dX7_remove_64 hl (by decide) rfl (fun ls hl => ?_)
      refine lv_aload_n hx hb dX7_remove_66 rfl (lv_at hl 1 rfl) ?_
      refine lv_iload_n hx hb dX7_remove_67 rfl (lv_at hl 2 rfl) ?_
      obtain ⟨k94_4, hk94_4, hf⟩ := jn_some hf
      have j94_4 : ∀ (v94_4_0 : Int32) (H : Heap) (locs : List Loc) (ls : Array Slot), k94_4 v94_4_0 = some o → va_P D cls (wX7 cI cZ a0 u20_2_0) H → va_S A s.heap H locs → lv_has ls 6 [(0, .ref (a0 0)), (3, .int v20_2_0), (4, .int (u20_2_0 16 0))] → W p l e (headSpec wsX7_remove rmX7_remove).room s m args below meth c H locs 0 0 Q (F0 m 94 ls [.int v94_4_0, .ref (a0 0)]) := by
        intro v94_4_0 H locs ls hf hP hS hl
        have hf := qa1 hk94_4 hf
        obtain ⟨z_5, hz_5, hf⟩ := bn_some hf
        refine cWVi (As := [.int v94_4_0]) (rest := []) ⟨hx, hb, hml, hown, hts⟩ (c_X7_can l D cI cZ cJ cT a0 H.size u20_2_0 v94_4_0 z_5 hz_5) (cwV 1 hts gX7_remove_X7_can rfl rfl rfl (by decide +kernel) ⟨Nat.le_of_ble_eq_true rfl, Nat.le_of_ble_eq_true rfl⟩) hP hK (hDD u20_2_0) hS (own_free (hDD u20_2_0) hS hA) (va_recv hK hP (ci := 7) (q0 := 0) rfl rfl) rfl rfl hl.1 (Nat.le_of_ble_eq_true rfl) dX7_remove_94 ⟨Nat.le_of_ble_eq_true rfl, Nat.le_of_ble_eq_true rfl⟩ (fun H1 locs hP1 hk1 hS => ?_)
        have hP : va_P D cls (wX7 cI cZ a0 z_5.2) H1 := hP1
        clear hP1 hk1
        generalize H1 = H at hP hS ⊢
        refine lv_if_ne (tgt := 102) hx hb dX7_remove_97 (by decide) (fun c_6 => ?_) (fun c_6 => ?_)
        · have hf := ite_f hf c_6
          refine lv_aload_n hx hb dX7_remove_102 rfl (lv_at hl 0 rfl) ?_
          refine lv_iload hx hb dX7_remove_103 (lv_at hl 2 rfl) ?_
          refine lv_aload_n hx hb dX7_remove_105 rfl (lv_at hl 0 rfl) ?_
          refine va_get (D := D) (ci := 7) (v := .int (z_5.2 17 0)) (C := RX7) (T := TX7) (N := 19) hx hb hts i7 hown hK hP 0 rfl rfl 17 (by decide) hk121 (fun _ h9 => h9) rfl dX7_remove_106 ?_
          obtain ⟨z_7, hz_7, hf⟩ := bn_some hf
          refine cWVv (As := [.int (u20_2_0 16 0), .int (z_5.2 17 0)]) (rest := []) ⟨hx, hb, hml, hown, hts⟩ (c_X7_leaves l D cI cZ cJ cT a0 H.size z_5.2 (u20_2_0 16 0) (z_5.2 17 0) z_7 hz_7) (cwV 2 hts gX7_remove_X7_leaves rfl rfl rfl (by decide +kernel) ⟨Nat.le_of_ble_eq_true rfl, Nat.le_of_ble_eq_true rfl⟩) hP hK (hDD z_5.2) hS (own_free (hDD z_5.2) hS hA) (va_recv hK hP (ci := 7) (q0 := 0) rfl rfl) rfl rfl hl.1 (Nat.le_of_ble_eq_true rfl) dX7_remove_109 ⟨Nat.le_of_ble_eq_true rfl, Nat.le_of_ble_eq_true rfl⟩ (fun H1 locs hP1 hk1 hS => ?_)
          have hP : va_P D cls (wX7 cI cZ a0 z_7) H1 := hP1
          clear hP1 hk1
          generalize H1 = H at hP hS ⊢
          refine lv_aload_n hx hb dX7_remove_112 rfl (lv_at hl 0 rfl) ?_
          refine lv_iload_n hx hb dX7_remove_113 rfl (lv_at hl 1 rfl) ?_
          obtain ⟨z_8, hz_8, hf⟩ := bn_some hf
          refine cWVi (As := [.int v20_2_0]) (rest := []) ⟨hx, hb, hml, hown, hts⟩ (c_X7_loses l D cI cZ cJ cT a0 H.size z_7 v20_2_0 z_8 hz_8) (cwV 1 hts gX7_remove_X7_loses rfl rfl rfl (by decide +kernel) ⟨Nat.le_of_ble_eq_true rfl, Nat.le_of_ble_eq_true rfl⟩) hP hK (hDD z_7) hS (own_free (hDD z_7) hS hA) (va_recv hK hP (ci := 7) (q0 := 0) rfl rfl) rfl rfl hl.1 (Nat.le_of_ble_eq_true rfl) dX7_remove_114 ⟨Nat.le_of_ble_eq_true rfl, Nat.le_of_ble_eq_true rfl⟩ (fun H1 locs hP1 hk1 hS => ?_)
          have hP : va_P D cls (wX7 cI cZ a0 z_8.2) H1 := hP1
          clear hP1 hk1
          generalize H1 = H at hP hS ⊢
          have eo := Option.some.inj hf
          have hP : va_P D cls (wX7 cI cZ a0 o.2) H := by rw [← eo]; exact hP
          rw [hQ]
          exact zretN (v := z_8.1) (v' := vp_nar .boolean z_8.1) hx hb hr rfl (fun t ht hW => ⟨⟨_, (), rfl, (by rw [← eo]), P_at ht hP⟩, hS.F ht⟩) hS.2.2 dX7_remove_117 hlocks
        · have hf := ite_t hf c_6
          refine lv_iconst (v := 0) hx hb dX7_remove_100 (by decide) ?_
          have eo := Option.some.inj hf
          have hP : va_P D cls (wX7 cI cZ a0 o.2) H := by rw [← eo]; exact hP
          rw [hQ]
          exact zretN (v := 0) (v' := 0) hx hb hr rfl (fun t ht hW => ⟨⟨_, (), rfl, congrArg Prod.fst eo, P_at ht hP⟩, hS.F ht⟩) hS.2.2 dX7_remove_101 hlocks
      refine lv_if_ne (tgt := 75) hx hb dX7_remove_68 (by decide) (fun c_9 => ?_) (fun c_9 => ?_)
      · have hf := ite_f hf c_9
        refine lv_iload_n hx hb dX7_remove_75 rfl (lv_at hl 3 rfl) ?_
        refine lv_iconst (v := (-1)) hx hb dX7_remove_76 (by decide) ?_
        refine lv_icmp_ne (tgt := 84) hx hb dX7_remove_77 (by decide) (fun c_10 => ?_) (fun c_10 => ?_)
        · have hf := ite_f hf c_10
          refine lv_iload hx hb dX7_remove_84 (lv_at hl 0 rfl) ?_
          refine lv_if_eq (tgt := 93) hx hb dX7_remove_86 (by decide) (fun c_11 => ?_) (fun c_11 => ?_)
          · have hf := ite_t hf c_11
            refine lv_iconst (v := 3) hx hb dX7_remove_93 (by decide) ?_
            exact j94_4 _ _ _ _ hf hP hS (lv_sub hl [1, 3, 4] rfl)
          · have hf := ite_f hf c_11
            refine lv_iconst (v := 0) hx hb dX7_remove_89 (by decide) ?_
            refine lv_goto (tgt := 94) hx hb dX7_remove_90 (by decide) ?_
            exact j94_4 _ _ _ _ hf hP hS (lv_sub hl [1, 3, 4] rfl)
        · have hf := ite_t hf c_10
          refine lv_iconst (v := 2) hx hb dX7_remove_80 (by decide) ?_
          refine lv_goto (tgt := 94) hx hb dX7_remove_81 (by decide) ?_
          exact j94_4 _ _ _ _ hf hP hS (lv_sub hl [1, 3, 4] rfl)
      · have hf := ite_t hf c_9
        refine lv_iconst (v := 1) hx hb dX7_remove_71 (by decide) ?_
        refine lv_goto (tgt := 94) hx hb dX7_remove_72 (by decide) ?_
        exact j94_4 _ _ _ _ hf hP hS (lv_sub hl [1, 3, 4] rfl)
    obtain ⟨k63_12, hk63_12, hf⟩ := jn_some hf
    have j63_12 : ∀ (H : Heap) (locs : List Loc) (ls : Array Slot), k63_12 = some o → va_P D cls (wX7 cI cZ a0 u20_2_0) H → va_S A s.heap H locs → lv_has ls 6 [(0, .ref (a0 0)), (2, .int z_1), (3, .int v20_2_0), (4, .int (u20_2_0 16 0))] → W p l e (headSpec wsX7_remove rmX7_remove).room s m args below meth c H locs 0 0 Q (F0 m 63 ls []) := by
      intro H locs ls hf hP hS hl
      have hf := qa0 hk63_12 hf
      refine lv_iconst (v := 0) hx hb dX7_remove_63 (by decide) ?_
      exact j64_3 _ _ _ _ hf hP hS (lv_sub hl [0, 1, 2, 3] rfl)
    refine lv_icmp_eq (tgt := 63) hx hb dX7_remove_29 (by decide) (fun c_13 => ?_) (fun c_13 => ?_)
    · have hf := ite_t hf c_13
      exact j63_12 _ _ _ hf hP hS (lv_sub hl [2, 3, 1, 0] rfl)
    · have hf := ite_f hf c_13
      refine lv_aload_n hx hb dX7_remove_32 rfl (lv_at hl 2 rfl) ?_
      refine lv_iload_n hx hb dX7_remove_33 rfl (lv_at hl 1 rfl) ?_
      obtain ⟨z_14, hz_14, hf⟩ := bn_some hf
      refine cRV (As := [.int v20_2_0]) (rest := []) ⟨hx, hb, hml, hown, hts⟩ (c_X7_kindOf l D cI cZ cJ cT a0 u20_2_0 v20_2_0 z_14 hz_14) (cwV 1 hts gX7_remove_X7_kindOf rfl rfl rfl (by decide +kernel) ⟨Nat.le_of_ble_eq_true rfl, Nat.le_of_ble_eq_true rfl⟩) hP hK (va_recv hK hP (ci := 7) (q0 := 0) rfl rfl) rfl rfl hl.1 (Nat.le_of_ble_eq_true rfl) dX7_remove_34 ⟨Nat.le_of_ble_eq_true rfl, Nat.le_of_ble_eq_true rfl⟩ ?_
      refine lv_iconst (v := 1) hx hb dX7_remove_37 (by decide) ?_
      obtain ⟨k50_15, hk50_15, hf⟩ := jn_some hf
      have j50_15 : ∀ (H : Heap) (locs : List Loc) (ls : Array Slot), k50_15 = some o → va_P D cls (wX7 cI cZ a0 u20_2_0) H → va_S A s.heap H locs → lv_has ls 6 [(0, .ref (a0 0)), (2, .int z_1), (3, .int v20_2_0), (4, .int (u20_2_0 16 0))] → W p l e (headSpec wsX7_remove rmX7_remove).room s m args below meth c H locs 0 0 Q (F0 m 50 ls []) := by
        intro H locs ls hf hP hS hl
        have hf := qa0 hk50_15 hf
        refine lv_aload_n hx hb dX7_remove_50 rfl (lv_at hl 0 rfl) ?_
        refine lv_iload hx hb dX7_remove_51 (lv_at hl 3 rfl) ?_
        obtain ⟨z_16, hz_16, hf⟩ := bn_some hf
        refine cRV (As := [.int (u20_2_0 16 0)]) (rest := []) ⟨hx, hb, hml, hown, hts⟩ (c_X7_mayChange l D cI cZ cJ cT a0 u20_2_0 (u20_2_0 16 0) z_16 hz_16) (cwV 1 hts gX7_remove_X7_mayChange rfl rfl rfl (by decide +kernel) ⟨Nat.le_of_ble_eq_true rfl, Nat.le_of_ble_eq_true rfl⟩) hP hK (va_recv hK hP (ci := 7) (q0 := 0) rfl rfl) rfl rfl hl.1 (Nat.le_of_ble_eq_true rfl) dX7_remove_53 ⟨Nat.le_of_ble_eq_true rfl, Nat.le_of_ble_eq_true rfl⟩ ?_
        refine lv_if_eq (tgt := 63) hx hb dX7_remove_56 (by decide) (fun c_17 => ?_) (fun c_17 => ?_)
        · have hf := ite_t hf c_17
          exact j63_12 _ _ _ hf hP hS (lv_sub hl [0, 1, 2, 3] rfl)
        · have hf := ite_f hf c_17
          refine lv_iconst (v := 1) hx hb dX7_remove_59 (by decide) ?_
          refine lv_goto (tgt := 64) hx hb dX7_remove_60 (by decide) ?_
          exact j64_3 _ _ _ _ hf hP hS (lv_sub hl [0, 1, 2, 3] rfl)
      refine lv_icmp_ne (tgt := 50) hx hb dX7_remove_38 (by decide) (fun c_18 => ?_) (fun c_18 => ?_)
      · have hf := ite_f hf c_18
        exact j50_15 _ _ _ hf hP hS (lv_sub hl [2, 3, 1, 0] rfl)
      · have hf := ite_t hf c_18
        refine lv_aload_n hx hb dX7_remove_41 rfl (lv_at hl 2 rfl) ?_
        refine lv_iconst (v := 0) hx hb dX7_remove_42 (by decide) ?_
        refine lv_iload_n hx hb dX7_remove_43 rfl (lv_at hl 1 rfl) ?_
        obtain ⟨z_19, hz_19, hf⟩ := bn_some hf
        refine cRV (As := [.int 0, .int v20_2_0]) (rest := []) ⟨hx, hb, hml, hown, hts⟩ (c_X7_entries l D cI cZ cJ cT a0 u20_2_0 0 v20_2_0 z_19 hz_19) (cwV 2 hts gX7_remove_X7_entries rfl rfl rfl (by decide +kernel) ⟨Nat.le_of_ble_eq_true rfl, Nat.le_of_ble_eq_true rfl⟩) hP hK (va_recv hK hP (ci := 7) (q0 := 0) rfl rfl) rfl rfl hl.1 (Nat.le_of_ble_eq_true rfl) dX7_remove_44 ⟨Nat.le_of_ble_eq_true rfl, Nat.le_of_ble_eq_true rfl⟩ ?_
        refine lv_if_ne (tgt := 63) hx hb dX7_remove_47 (by decide) (fun c_20 => ?_) (fun c_20 => ?_)
        · have hf := ite_f hf c_20
          exact j63_12 _ _ _ hf hP hS (lv_sub hl [2, 3, 1, 0] rfl)
        · have hf := ite_t hf c_20
          exact j50_15 _ _ _ hf hP hS (lv_sub hl [2, 3, 1, 0] rfl)
  refine lv_if_eq (tgt := 19) hx hb dX7_remove_6 (by decide) (fun c_21 => ?_) (fun c_21 => ?_)
  · have hf := ite_t hf c_21
    refine lv_iconst (v := (-1)) hx hb dX7_remove_19 (by decide) ?_
    exact j20_2 _ _ _ _ _ hf hP hS (lv_sub hl [1, 0] rfl)
  · have hf := ite_f hf c_21
    refine lv_aload_n hx hb dX7_remove_9 rfl (lv_at hl 1 rfl) ?_
    refine lv_iconst (v := 0) hx hb dX7_remove_10 (by decide) ?_
    refine lv_iload_n hx hb dX7_remove_11 rfl (lv_at hl 2 rfl) ?_
    refine lv_iconst (v := 0) hx hb dX7_remove_12 (by decide) ?_
    obtain ⟨z_22, hz_22, hf⟩ := bn_some hf
    refine cWVi (As := [.int 0, .int p1, .int 0]) (rest := []) ⟨hx, hb, hml, hown, hts⟩ (c_X7_walks l D cI cZ cJ cT a0 H.size u0 0 p1 0 z_22 hz_22) (cwV 3 hts gX7_remove_X7_walks rfl rfl rfl (by decide +kernel) ⟨Nat.le_of_ble_eq_true rfl, Nat.le_of_ble_eq_true rfl⟩) hP hK (hDD u0) hS (own_free (hDD u0) hS hA) (va_recv hK hP (ci := 7) (q0 := 0) rfl rfl) rfl rfl hl.1 (Nat.le_of_ble_eq_true rfl) dX7_remove_13 ⟨Nat.le_of_ble_eq_true rfl, Nat.le_of_ble_eq_true rfl⟩ (fun H1 locs hP1 hk1 hS => ?_)
    have hP : va_P D cls (wX7 cI cZ a0 z_22.2) H1 := hP1
    clear hP1 hk1
    generalize H1 = H at hP hS ⊢
    refine lv_goto (tgt := 20) hx hb dX7_remove_16 (by decide) ?_
    exact j20_2 _ _ _ _ _ hf hP hS (lv_sub hl [1, 0] rfl)
