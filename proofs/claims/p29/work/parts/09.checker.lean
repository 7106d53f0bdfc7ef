theorem dX1_isSeenAgain_0 : decode cX1_isSeenAgain 0 = .ok (.iload_n 1, 1) := by decide +kernel
theorem dX1_isSeenAgain_1 : decode cX1_isSeenAgain 1 = .ok (.ifCond .lt 9, 3) := by decide +kernel
theorem dX1_isSeenAgain_4 : decode cX1_isSeenAgain 4 = .ok (.iload_n 1, 1) := by decide +kernel
theorem dX1_isSeenAgain_5 : decode cX1_isSeenAgain 5 = .ok (.bipush 64, 2) := by decide +kernel
theorem dX1_isSeenAgain_7 : decode cX1_isSeenAgain 7 = .ok (.if_icmp .lt 5, 3) := by decide +kernel
theorem dX1_isSeenAgain_10 : decode cX1_isSeenAgain 10 = .ok (.iconst 0, 1) := by decide +kernel
theorem dX1_isSeenAgain_11 : decode cX1_isSeenAgain 11 = .ok (.ireturn, 1) := by decide +kernel
theorem dX1_isSeenAgain_12 : decode cX1_isSeenAgain 12 = .ok (.aload_n 0, 1) := by decide +kernel
theorem dX1_isSeenAgain_13 : decode cX1_isSeenAgain 13 = .ok (.getfield 9, 3) := by decide +kernel
theorem dX1_isSeenAgain_16 : decode cX1_isSeenAgain 16 = .ok (.iload_n 1, 1) := by decide +kernel
theorem dX1_isSeenAgain_17 : decode cX1_isSeenAgain 17 = .ok (.baload, 1) := by decide +kernel
theorem dX1_isSeenAgain_18 : decode cX1_isSeenAgain 18 = .ok (.istore_n 2, 1) := by decide +kernel
theorem dX1_isSeenAgain_19 : decode cX1_isSeenAgain 19 = .ok (.aload_n 0, 1) := by decide +kernel
theorem dX1_isSeenAgain_20 : decode cX1_isSeenAgain 20 = .ok (.getfield 9, 3) := by decide +kernel
theorem dX1_isSeenAgain_23 : decode cX1_isSeenAgain 23 = .ok (.iload_n 1, 1) := by decide +kernel
theorem dX1_isSeenAgain_24 : decode cX1_isSeenAgain 24 = .ok (.iconst 1, 1) := by decide +kernel
theorem dX1_isSeenAgain_25 : decode cX1_isSeenAgain 25 = .ok (.bastore, 1) := by decide +kernel
theorem dX1_isSeenAgain_26 : decode cX1_isSeenAgain 26 = .ok (.iload_n 2, 1) := by decide +kernel
theorem dX1_isSeenAgain_27 : decode cX1_isSeenAgain 27 = .ok (.ireturn, 1) := by decide +kernel
def f_X1_isSeenAgain (u0 : S1) (p1 : Int32) : Option (Int32 × S1) := jn (some (0, u0)) (fun k10_1 => if p1 < 0 then k10_1 else if p1 < 64 then chk (inb p1 64) (chk (inb p1 64) (bv (stz u0 0 p1 1) (fun u_4 => some (vp_nar .boolean (u0 0 (p1).toNatClampNeg), u_4)))) else k10_1)
def rmX1_isSeenAgain : Room := { frames := 0, cells := 0, slots := 0, locals := 0 }
set_option maxHeartbeats 4000000 in
set_option maxRecDepth 100000 in
theorem c_X1_isSeenAgain (l : Launch) (D : va_G) (cI cZ cJ cT : ClassId) (a0 : Nat → Nat) (sz : Nat) (u0 : S1) (p1 : Int32) (o : Int32 × S1) (hf : f_X1_isSeenAgain u0 p1 = some o) : Met l yX1_isSeenAgain wsX1_isSeenAgain rmX1_isSeenAgain (va_Pc [.ref (a0 0), .int p1] (PW D cls (tys cI cZ cJ cT) ((wX1 cI cZ a0 u0)) sz)) (QWi D cls o.1 ((wX1 cI cZ a0 o.2)) (va_A ((wX1 cI cZ a0 u0)) sz)) 0 0 (va_A ((wX1 cI cZ a0 u0)) sz) := by
  refine Met.ofW (cc := cX1_isSeenAgain) (maxL := 3) (ret := (some .boolean)) (by decide) rfl ?_
  intro p e s m args below meth c s₁ B hml hv
  obtain ⟨hav, hsz, hP, hK, hD0⟩ := hv
  have hx := B.exec
  have hb := B.bytes
  have hr := B.returns
  have hlocks := B.notSynchronized
  have hts := atoms_spec (ws := wsX1_isSeenAgain) B.pre
  have hown : s.vm.findClass RX1 = some m.cls := findClass_of_methodNamed B.named
  have i1 : ∀ w ∈ wsX10, w ∈ wsX1_isSeenAgain := fun w h => List.mem_cons_of_mem _ (List.mem_append_right _ h)
  have hk9 := hts (.fieldLink RX1 9 "Inodery$Checker" "isSeen" "[Z") (by decide +kernel)
  subst hsz
  have hD := hD0.self (sz := s.heap.size)
  generalize hAe : va_A ((wX1 cI cZ a0 u0)) s.heap.size = A at hD ⊢
  have hA : ∀ q : Nat, s.heap.size ≤ q → A q := fun q h => by rw [← hAe]; exact Or.inr h
  have hS : va_S A s.heap s.heap [] := va_S.rf
  have hDD : ∀ w0 : S1, va_D A ((wX1 cI cZ a0 w0)) := fun _ => D_same (w := (wX1 cI cZ a0 u0)) rfl hD
  refine Wq (fun Q hQ => ?_)
  refine W_entry hav (Nat.le_of_ble_eq_true rfl) (fun ls hl => ?_)
  have hl : lv_has ls 3 [(0, .ref (a0 0)), (1, .int p1)] := hl
  unfold f_X1_isSeenAgain at hf
  refine W_heap hP hS (fun H locs hP hS => ?_)
  refine lv_iload_n hx hb dX1_isSeenAgain_0 rfl (lv_at hl 1 rfl) ?_
  obtain ⟨k10_1, hk10_1, hf⟩ := jn_some hf
  have j10_1 : ∀ (H : Heap) (locs : List Loc) (ls : Array Slot), k10_1 = some o → va_P D cls (wX1 cI cZ a0 u0) H → va_S A s.heap H locs → lv_has ls 3 [] → W p l e (headSpec wsX1_isSeenAgain rmX1_isSeenAgain).room s m args below meth c H locs 0 0 Q (F0 m 10 ls []) := by
    intro H locs ls hf hP hS hl
    have hf := qa0 hk10_1 hf
    refine lv_iconst (v := 0) hx hb dX1_isSeenAgain_10 (by decide) ?_
    have eo := Option.some.inj hf
    have hP : va_P D cls (wX1 cI cZ a0 o.2) H := by rw [← eo]; exact hP
    rw [hQ]
    exact zretN (v := 0) (v' := 0) hx hb hr rfl (fun t ht hW => ⟨⟨_, (), rfl, congrArg Prod.fst eo, P_at ht hP⟩, hS.F ht⟩) hS.2.2 dX1_isSeenAgain_11 hlocks
  refine lv_if_lt (tgt := 10) hx hb dX1_isSeenAgain_1 (by decide) (fun c_2 => ?_) (fun c_2 => ?_)
  · have hf := ite_t hf c_2
    exact j10_1 _ _ _ hf hP hS (lv_sub hl [] rfl)
  · have hf := ite_f hf c_2
    refine lv_iload_n hx hb dX1_isSeenAgain_4 rfl (lv_at hl 1 rfl) ?_
    refine lv_bipush (v := 64) hx hb dX1_isSeenAgain_5 (by decide) ?_
    refine lv_icmp_lt (tgt := 12) hx hb dX1_isSeenAgain_7 (by decide) (fun c_3 => ?_) (fun c_3 => ?_)
    · have hf := ite_t hf c_3
      refine lv_aload_n hx hb dX1_isSeenAgain_12 rfl (lv_at hl 0 rfl) ?_
      refine va_get (D := D) (ci := 1) (v := .ref (a0 1)) (C := RX1) (T := TX1) (N := 4) hx hb hts i1 hown hK hP 0 rfl rfl 0 (by decide) hk9 (fun _ h9 => h9) rfl dX1_isSeenAgain_13 ?_
      refine lv_iload_n hx hb dX1_isSeenAgain_16 rfl (lv_at hl 1 rfl) ?_
      obtain ⟨hi, hf⟩ := chk_some hf
      refine va_zald hx hb hK hP 1 1 rfl rfl (inb_in hi) dX1_isSeenAgain_17 ?_
      refine lv_istore_n (lv' := [(2, .int (u0 0 (p1).toNatClampNeg)), (0, .ref (a0 0)), (1, .int p1)]) hx hb dX1_isSeenAgain_18 rfl hl (by decide) rfl (fun ls hl => ?_)
      refine lv_aload_n hx hb dX1_isSeenAgain_19 rfl (lv_at hl 1 rfl) ?_
      refine va_get (D := D) (ci := 1) (v := .ref (a0 1)) (C := RX1) (T := TX1) (N := 4) hx hb hts i1 hown hK hP 0 rfl rfl 0 (by decide) hk9 (fun _ h9 => h9) rfl dX1_isSeenAgain_20 ?_
      refine lv_iload_n hx hb dX1_isSeenAgain_23 rfl (lv_at hl 2 rfl) ?_
      refine lv_iconst (v := 1) hx hb dX1_isSeenAgain_24 (by decide) ?_
      obtain ⟨hi, hf⟩ := chk_some hf
      obtain ⟨u_4, hu_4, hf⟩ := bv_some hf
      refine va_zast hx hb hK hP (hDD u0) hS 1 1 rfl rfl (inb_in hi) dX1_isSeenAgain_25 (fun H locs hP _ hS => ?_)
      have hP : va_P D cls (wX1 cI cZ a0 u_4) H := by rw [hu_4]; exact hP
      refine lv_iload_n hx hb dX1_isSeenAgain_26 rfl (lv_at hl 0 rfl) ?_
      have eo := Option.some.inj hf
      have hP : va_P D cls (wX1 cI cZ a0 o.2) H := by rw [← eo]; exact hP
      rw [hQ]
      exact zretN (v := (u0 0 (p1).toNatClampNeg)) (v' := vp_nar .boolean (u0 0 (p1).toNatClampNeg)) hx hb hr rfl (fun t ht hW => ⟨⟨_, (), rfl, congrArg Prod.fst eo, P_at ht hP⟩, hS.F ht⟩) hS.2.2 dX1_isSeenAgain_27 hlocks
    · have hf := ite_f hf c_3
      exact j10_1 _ _ _ hf hP hS (lv_sub hl [] rfl)
set_option maxRecDepth 20000 in
theorem ggX1_mendPages_X0_letGo : GoodIn wsX1_mendPages wsX0_letGo := goodIn_r _ [34, 35, 36, 37, 38, 33, 39, 56, 57, 58] (by decide +kernel) (by decide +kernel)
set_option maxRecDepth 20000 in
theorem gX1_mendPages_X0_letGo : GoodIn wsX1_mendPages (wsV RX1 40 RX0 yX0_letGo wsX0_letGo) := goodIn_app (goodIn_of _ (by decide +kernel)) ggX1_mendPages_X0_letGo
set_option maxRecDepth 20000 in
theorem ggX1_mendPages_X1_isSeenAgain : GoodIn wsX1_mendPages wsX1_isSeenAgain := goodIn_r _ [18, 1, 40, 41, 42, 43] (by decide +kernel) (by decide +kernel)
set_option maxRecDepth 20000 in
theorem gX1_mendPages_X1_isSeenAgain : GoodIn wsX1_mendPages (wsV RX1 32 RX1 yX1_isSeenAgain wsX1_isSeenAgain) := goodIn_app (goodIn_of _ (by decide +kernel)) ggX1_mendPages_X1_isSeenAgain
set_option maxRecDepth 20000 in
theorem ggX1_mendPages_X4_blockOf : GoodIn wsX1_mendPages wsX4_blockOf := goodIn_r _ [6, 7, 8, 9, 5, 10, 11, 12, 13, 44, 45, 46, 47, 48, 49, 50, 51, 52, 53, 54, 55] (by decide +kernel) (by decide +kernel)
set_option maxRecDepth 20000 in
theorem gX1_mendPages_X4_blockOf : GoodIn wsX1_mendPages (wsV RX1 26 RX4 yX4_blockOf wsX4_blockOf) := goodIn_app (goodIn_of _ (by decide +kernel)) ggX1_mendPages_X4_blockOf
set_option maxRecDepth 20000 in
theorem ggX1_mendPages_X4_setPage : GoodIn wsX1_mendPages wsX4_setPage := goodIn_r _ [22, 7, 23, 8, 9, 5, 10, 11, 12, 13, 24, 25, 26, 27, 28, 29, 44, 45, 46, 47, 48, 49, 50, 51, 52, 53, 54, 55] (by decide +kernel) (by decide +kernel)
set_option maxRecDepth 20000 in
theorem gX1_mendPages_X4_setPage : GoodIn wsX1_mendPages (wsV RX1 36 RX4 yX4_setPage wsX4_setPage) := goodIn_app (goodIn_of _ (by decide +kernel)) ggX1_mendPages_X4_setPage
theorem dX1_mendPages_0 : decode cX1_mendPages 0 = .ok (.iconst 0, 1) := by decide +kernel
theorem dX1_mendPages_1 : decode cX1_mendPages 1 = .ok (.istore_n 3, 1) := by decide +kernel
theorem dX1_mendPages_2 : decode cX1_mendPages 2 = .ok (.iload_n 3, 1) := by decide +kernel
theorem dX1_mendPages_3 : decode cX1_mendPages 3 = .ok (.bipush 64, 2) := by decide +kernel
theorem dX1_mendPages_5 : decode cX1_mendPages 5 = .ok (.if_icmp .ge 16, 3) := by decide +kernel
theorem dX1_mendPages_8 : decode cX1_mendPages 8 = .ok (.aload_n 0, 1) := by decide +kernel
theorem dX1_mendPages_9 : decode cX1_mendPages 9 = .ok (.getfield 9, 3) := by decide +kernel
theorem dX1_mendPages_12 : decode cX1_mendPages 12 = .ok (.iload_n 3, 1) := by decide +kernel
theorem dX1_mendPages_13 : decode cX1_mendPages 13 = .ok (.iconst 0, 1) := by decide +kernel
theorem dX1_mendPages_14 : decode cX1_mendPages 14 = .ok (.bastore, 1) := by decide +kernel
theorem dX1_mendPages_15 : decode cX1_mendPages 15 = .ok (.iinc 3 1, 3) := by decide +kernel
theorem dX1_mendPages_18 : decode cX1_mendPages 18 = .ok (.goto (-16), 3) := by decide +kernel
theorem dX1_mendPages_21 : decode cX1_mendPages 21 = .ok (.iconst 0, 1) := by decide +kernel
theorem dX1_mendPages_22 : decode cX1_mendPages 22 = .ok (.istore_n 3, 1) := by decide +kernel
theorem dX1_mendPages_23 : decode cX1_mendPages 23 = .ok (.iconst 0, 1) := by decide +kernel
theorem dX1_mendPages_24 : decode cX1_mendPages 24 = .ok (.istore 4, 2) := by decide +kernel
theorem dX1_mendPages_26 : decode cX1_mendPages 26 = .ok (.iload 4, 2) := by decide +kernel
theorem dX1_mendPages_28 : decode cX1_mendPages 28 = .ok (.bipush 32, 2) := by decide +kernel
theorem dX1_mendPages_30 : decode cX1_mendPages 30 = .ok (.if_icmp .ge 61, 3) := by decide +kernel
theorem dX1_mendPages_33 : decode cX1_mendPages 33 = .ok (.iconst 0, 1) := by decide +kernel
theorem dX1_mendPages_34 : decode cX1_mendPages 34 = .ok (.istore 5, 2) := by decide +kernel
theorem dX1_mendPages_36 : decode cX1_mendPages 36 = .ok (.iload 5, 2) := by decide +kernel
theorem dX1_mendPages_38 : decode cX1_mendPages 38 = .ok (.bipush 16, 2) := by decide +kernel
theorem dX1_mendPages_40 : decode cX1_mendPages 40 = .ok (.if_icmp .ge 45, 3) := by decide +kernel
theorem dX1_mendPages_43 : decode cX1_mendPages 43 = .ok (.aload_n 0, 1) := by decide +kernel
theorem dX1_mendPages_44 : decode cX1_mendPages 44 = .ok (.aload_n 1, 1) := by decide +kernel
theorem dX1_mendPages_45 : decode cX1_mendPages 45 = .ok (.iload 4, 2) := by decide +kernel
theorem dX1_mendPages_47 : decode cX1_mendPages 47 = .ok (.iload 5, 2) := by decide +kernel
theorem dX1_mendPages_49 : decode cX1_mendPages 49 = .ok (.invokevirtual 26, 3) := by decide +kernel
theorem dX1_mendPages_52 : decode cX1_mendPages 52 = .ok (.invokevirtual 32, 3) := by decide +kernel
theorem dX1_mendPages_55 : decode cX1_mendPages 55 = .ok (.ifCond .eq 24, 3) := by decide +kernel
theorem dX1_mendPages_58 : decode cX1_mendPages 58 = .ok (.aload_n 1, 1) := by decide +kernel
theorem dX1_mendPages_59 : decode cX1_mendPages 59 = .ok (.iload 4, 2) := by decide +kernel
theorem dX1_mendPages_61 : decode cX1_mendPages 61 = .ok (.iload 5, 2) := by decide +kernel
theorem dX1_mendPages_63 : decode cX1_mendPages 63 = .ok (.iconst 0, 1) := by decide +kernel
theorem dX1_mendPages_64 : decode cX1_mendPages 64 = .ok (.iconst (-1), 1) := by decide +kernel
theorem dX1_mendPages_65 : decode cX1_mendPages 65 = .ok (.invokevirtual 36, 3) := by decide +kernel
theorem dX1_mendPages_68 : decode cX1_mendPages 68 = .ok (.aload_n 2, 1) := by decide +kernel
theorem dX1_mendPages_69 : decode cX1_mendPages 69 = .ok (.iload 4, 2) := by decide +kernel
theorem dX1_mendPages_71 : decode cX1_mendPages 71 = .ok (.iload 5, 2) := by decide +kernel
theorem dX1_mendPages_73 : decode cX1_mendPages 73 = .ok (.invokevirtual 40, 3) := by decide +kernel
theorem dX1_mendPages_76 : decode cX1_mendPages 76 = .ok (.iinc 3 1, 3) := by decide +kernel
theorem dX1_mendPages_79 : decode cX1_mendPages 79 = .ok (.iinc 5 1, 3) := by decide +kernel
theorem dX1_mendPages_82 : decode cX1_mendPages 82 = .ok (.goto (-46), 3) := by decide +kernel
theorem dX1_mendPages_85 : decode cX1_mendPages 85 = .ok (.iinc 4 1, 3) := by decide +kernel
theorem dX1_mendPages_88 : decode cX1_mendPages 88 = .ok (.goto (-62), 3) := by decide +kernel
theorem dX1_mendPages_91 : decode cX1_mendPages 91 = .ok (.iload_n 3, 1) := by decide +kernel
theorem dX1_mendPages_92 : decode cX1_mendPages 92 = .ok (.ireturn, 1) := by decide +kernel
def f_X1_mendPages (u0 : S1) (u1 : S1) (u2 : S1) : Option (Int32 × S1 × S1 × S1) := qj2 (fun (r2_1 : Int32 → S1 → Option (Int32 × S1 × S1 × S1)) (y2_1_3 : Int32) (u2_1_0 : S1) => if 64 ≤ y2_1_3 then qj5 (fun (r26_3 : Int32 → Int32 → S1 → S1 → S1 → Option (Int32 × S1 × S1 × S1)) (y26_3_3 : Int32) (y26_3_4 : Int32) (u26_3_0 : S1) (u26_3_1 : S1) (u26_3_2 : S1) => if 32 ≤ y26_3_4 then some (y26_3_3, u26_3_0, u26_3_1, u26_3_2) else qj6 (fun (r36_5 : Int32 → Int32 → Int32 → S1 → S1 → S1 → Option (Int32 × S1 × S1 × S1)) (y36_5_3 : Int32) (y36_5_4 : Int32) (y36_5_5 : Int32) (u36_5_0 : S1) (u36_5_1 : S1) (u36_5_2 : S1) => if 16 ≤ y36_5_5 then r26_3 y36_5_3 (y36_5_4 + 1) u36_5_0 u36_5_1 u36_5_2 else bn (f_X4_blockOf u36_5_1 y36_5_4 y36_5_5) (fun z_7 => bn (f_X1_isSeenAgain u36_5_0 z_7) (fun z_8 => jn (fun (y79_9_3 : Int32) (u79_9_0 : S1) (u79_9_1 : S1) (u79_9_2 : S1) => r36_5 y79_9_3 y36_5_4 (y36_5_5 + 1) u79_9_0 u79_9_1 u79_9_2) (fun k79_9 => if z_8.1 = 0 then k79_9 y36_5_3 z_8.2 u36_5_1 u36_5_2 else bn (f_X4_setPage u36_5_1 y36_5_4 y36_5_5 0 (-1)) (fun z_11 => bn (f_X0_letGo u36_5_2 y36_5_4 y36_5_5) (fun z_12 => k79_9 (y36_5_3 + 1) z_8.2 z_11 z_12)))))) (fun k36_5 => k36_5 y26_3_3 y26_3_4 0 u26_3_0 u26_3_1 u26_3_2)) (fun k26_3 => k26_3 0 0 u2_1_0 u1 u2) else chk (inb y2_1_3 64) (bv (stz u2_1_0 0 y2_1_3 0) (fun u_13 => r2_1 (y2_1_3 + 1) u_13))) (fun k2_1 => k2_1 0 u0)
def rmX1_mendPages : Room := { frames := 3, cells := 0, slots := 0, locals := 67 }
set_option maxHeartbeats 4000000 in
set_option maxRecDepth 100000 in
theorem c_X1_mendPages (l : Launch) (D : va_G) (cI cZ cJ cT : ClassId) (a0 : Nat → Nat) (a1 : Nat → Nat) (a2 : Nat → Nat) (sz : Nat) (u0 : S1) (u1 : S1) (u2 : S1) (o : Int32 × S1 × S1 × S1) (hf : f_X1_mendPages u0 u1 u2 = some o) : Met l yX1_mendPages wsX1_mendPages rmX1_mendPages (va_Pc [.ref (a0 0), .ref (a1 0), .ref (a2 0)] (PW D cls (tys cI cZ cJ cT) ((List.flatten [(wX1 cI cZ a0 u0), (wX4 cI cZ a1 u1), (wX0 cI cZ a2 u2)])) sz)) (QWi D cls o.1 ((List.flatten [(wX1 cI cZ a0 o.2.1), (wX4 cI cZ a1 o.2.2.1), (wX0 cI cZ a2 o.2.2.2)])) (va_A ((List.flatten [(wX1 cI cZ a0 u0), (wX4 cI cZ a1 u1), (wX0 cI cZ a2 u2)])) sz)) 0 0 (va_A ((List.flatten [(wX1 cI cZ a0 u0), (wX4 cI cZ a1 u1), (wX0 cI cZ a2 u2)])) sz) := by
  refine Met.ofW (cc := cX1_mendPages) (maxL := 6) (ret := (some .int)) (by decide) rfl ?_
  intro p e s m args below meth c s₁ B hml hv
  obtain ⟨hav, hsz, hP, hK, hD0⟩ := hv
  have hx := B.exec
  have hb := B.bytes
  have hr := B.returns
  have hlocks := B.notSynchronized
  have hts := atoms_spec (ws := wsX1_mendPages) B.pre
  have hown : s.vm.findClass RX1 = some m.cls := findClass_of_methodNamed B.named
  have i1 : ∀ w ∈ wsX10, w ∈ wsX1_mendPages := fun w h => List.mem_cons_of_mem _ (List.mem_append_left _ (List.mem_append_left _ (List.mem_append_right _ h)))
  have hk9 := hts (.fieldLink RX1 9 "Inodery$Checker" "isSeen" "[Z") (by decide +kernel)
  subst hsz
  have hD := hD0.self (sz := s.heap.size)
  generalize hAe : va_A ((List.flatten [(wX1 cI cZ a0 u0), (wX4 cI cZ a1 u1), (wX0 cI cZ a2 u2)])) s.heap.size = A at hD ⊢
  have hA : ∀ q : Nat, s.heap.size ≤ q → A q := fun q h => by rw [← hAe]; exact Or.inr h
  have hS : va_S A s.heap s.heap [] := va_S.rf
  have hDD : ∀ w0 w1 w2 : S1, va_D A ((List.flatten [(wX1 cI cZ a0 w0), (wX4 cI cZ a1 w1), (wX0 cI cZ a2 w2)])) := fun _ _ _ => D_same (w := (List.flatten [(wX1 cI cZ a0 u0), (wX4 cI cZ a1 u1), (wX0 cI cZ a2 u2)])) rfl hD
  refine Wq (fun Q hQ => ?_)
  refine W_entry hav (Nat.le_of_ble_eq_true rfl) (fun ls hl => ?_)
  have hl : lv_has ls 6 [(0, .ref (a0 0)), (1, .ref (a1 0)), (2, .ref (a2 0))] := hl
  unfold f_X1_mendPages at hf
  refine W_heap hP hS (fun H locs hP hS => ?_)
  refine lv_iconst (v := 0) hx hb dX1_mendPages_0 (by decide) ?_
  refine lv_istore_n (lv' := [(3, .int 0), (0, .ref (a0 0)), (1, .ref (a1 0)), (2, .ref (a2 0))]) hx hb dX1_mendPages_1 rfl hl (by decide) rfl (fun ls hl => ?_)
  obtain ⟨G2_1, hG2_1, hf⟩ := qj2_some hf
  have j2_1 : ∀ (n : Nat) (y2_1_3 : Int32) (u2_1_0 : S1) (H : Heap) (locs : List Loc) (ls : Array Slot), ql2 G2_1 n y2_1_3 u2_1_0 = some o → va_P D cls (List.flatten [(wX1 cI cZ a0 u2_1_0), (wX4 cI cZ a1 u1), (wX0 cI cZ a2 u2)]) H → va_S A s.heap H locs → lv_has ls 6 [(0, .ref (a0 0)), (1, .ref (a1 0)), (2, .ref (a2 0)), (3, .int y2_1_3)] → W p l e (headSpec wsX1_mendPages rmX1_mendPages).room s m args below meth c H locs 0 0 Q (F0 m 2 ls []) := by
    intro n
    induction n with
    | zero => intro y2_1_3 u2_1_0 H locs ls hf hP hS hl; exact (ql2_z hf).elim
    | succ n ih2_1 =>
      intro y2_1_3 u2_1_0 H locs ls hf hP hS hl
      have hf := ql2_s hG2_1 hf
      obtain ⟨r2_1, hr2_1⟩ : ∃ z, z = ql2 G2_1 n := ⟨_, rfl⟩
      rw [← hr2_1] at hf ih2_1
      refine lv_iload_n hx hb dX1_mendPages_2 rfl (lv_at hl 3 rfl) ?_
      refine lv_bipush (v := 64) hx hb dX1_mendPages_3 (by decide) ?_
      refine lv_icmp_ge (tgt := 21) hx hb dX1_mendPages_5 (by decide) (fun c_2 => ?_) (fun c_2 => ?_)
      · have hf := ite_t hf c_2
        refine lv_iconst (v := 0) hx hb dX1_mendPages_21 (by decide) ?_
        refine lv_istore_n (lv' := [(3, .int 0), (0, .ref (a0 0)), (1, .ref (a1 0)), (2, .ref (a2 0))]) hx hb dX1_mendPages_22 rfl hl (by decide) rfl (fun ls hl => ?_)
        refine lv_iconst (v := 0) hx hb dX1_mendPages_23 (by decide) ?_
        refine lv_istore (lv' := [(4, .int 0), (3, .int 0), (0, .ref (a0 0)), (1, .ref (a1 0)), (2, .ref (a2 0))]) hx hb dX1_mendPages_24 hl (by decide) rfl (fun ls hl => ?_)
        obtain ⟨G26_3, hG26_3, hf⟩ := qj5_some hf
        have j26_3 : ∀ (n : Nat) (y26_3_3 : Int32) (y26_3_4 : Int32) (u26_3_0 : S1) (u26_3_1 : S1) (u26_3_2 : S1) (H : Heap) (locs : List Loc) (ls : Array Slot), ql5 G26_3 n y26_3_3 y26_3_4 u26_3_0 u26_3_1 u26_3_2 = some o → va_P D cls (List.flatten [(wX1 cI cZ a0 u26_3_0), (wX4 cI cZ a1 u26_3_1), (wX0 cI cZ a2 u26_3_2)]) H → va_S A s.heap H locs → lv_has ls 6 [(0, .ref (a0 0)), (1, .ref (a1 0)), (2, .ref (a2 0)), (3, .int y26_3_3), (4, .int y26_3_4)] → W p l e (headSpec wsX1_mendPages rmX1_mendPages).room s m args below meth c H locs 0 0 Q (F0 m 26 ls []) := by
          intro n
          induction n with
          | zero => intro y26_3_3 y26_3_4 u26_3_0 u26_3_1 u26_3_2 H locs ls hf hP hS hl; exact (ql5_z hf).elim
          | succ n ih26_3 =>
            intro y26_3_3 y26_3_4 u26_3_0 u26_3_1 u26_3_2 H locs ls hf hP hS hl
            have hf := ql5_s hG26_3 hf
            obtain ⟨r26_3, hr26_3⟩ : ∃ z, z = ql5 G26_3 n := ⟨_, rfl⟩
            rw [← hr26_3] at hf ih26_3
            refine lv_iload hx hb dX1_mendPages_26 (lv_at hl 4 rfl) ?_
            refine lv_bipush (v := 32) hx hb dX1_mendPages_28 (by decide) ?_
            refine lv_icmp_ge (tgt := 91) hx hb dX1_mendPages_30 (by decide) (fun c_4 => ?_) (fun c_4 => ?_)
            · have hf := ite_t hf c_4
              refine lv_iload_n hx hb dX1_mendPages_91 rfl (lv_at hl 3 rfl) ?_
              have eo := Option.some.inj hf
              have hP : va_P D cls (List.flatten [(wX1 cI cZ a0 o.2.1), (wX4 cI cZ a1 o.2.2.1), (wX0 cI cZ a2 o.2.2.2)]) H := by rw [← eo]; exact hP
              rw [hQ]
              exact W.iret hx hb hr (fun t ht hW => ⟨⟨_, (), rfl, congrArg Prod.fst eo, P_at ht hP⟩, hS.F ht⟩) hS.2.2 dX1_mendPages_92 hlocks
            · have hf := ite_f hf c_4
              refine lv_iconst (v := 0) hx hb dX1_mendPages_33 (by decide) ?_
              refine lv_istore (lv' := [(5, .int 0), (0, .ref (a0 0)), (1, .ref (a1 0)), (2, .ref (a2 0)), (3, .int y26_3_3), (4, .int y26_3_4)]) hx hb dX1_mendPages_34 hl (by decide) rfl (fun ls hl => ?_)
              obtain ⟨G36_5, hG36_5, hf⟩ := qj6_some hf
              have j36_5 : ∀ (n : Nat) (y36_5_3 : Int32) (y36_5_4 : Int32) (y36_5_5 : Int32) (u36_5_0 : S1) (u36_5_1 : S1) (u36_5_2 : S1) (H : Heap) (locs : List Loc) (ls : Array Slot), ql6 G36_5 n y36_5_3 y36_5_4 y36_5_5 u36_5_0 u36_5_1 u36_5_2 = some o → va_P D cls (List.flatten [(wX1 cI cZ a0 u36_5_0), (wX4 cI cZ a1 u36_5_1), (wX0 cI cZ a2 u36_5_2)]) H → va_S A s.heap H locs → lv_has ls 6 [(0, .ref (a0 0)), (1, .ref (a1 0)), (2, .ref (a2 0)), (3, .int y36_5_3), (4, .int y36_5_4), (5, .int y36_5_5)] → W p l e (headSpec wsX1_mendPages rmX1_mendPages).room s m args below meth c H locs 0 0 Q (F0 m 36 ls []) := by
                intro n
                induction n with
                | zero => intro y36_5_3 y36_5_4 y36_5_5 u36_5_0 u36_5_1 u36_5_2 H locs ls hf hP hS hl; exact (ql6_z hf).elim
                | succ n ih36_5 =>
                  intro y36_5_3 y36_5_4 y36_5_5 u36_5_0 u36_5_1 u36_5_2 H locs ls hf hP hS hl
                  have hf := ql6_s hG36_5 hf
                  obtain ⟨r36_5, hr36_5⟩ : ∃ z, z = ql6 G36_5 n := ⟨_, rfl⟩
                  rw [← hr36_5] at hf ih36_5
                  refine lv_iload hx hb dX1_mendPages_36 (lv_at hl 5 rfl) ?_
                  refine lv_bipush (v := 16) hx hb dX1_mendPages_38 (by decide) ?_
                  refine lv_icmp_ge (tgt := 85) hx hb dX1_mendPages_40 (by decide) (fun c_6 => ?_) (fun c_6 => ?_)
                  · have hf := ite_t hf c_6
                    refine lv_iinc (v := y36_5_4 + 1) (lv' := [(4, .int (y36_5_4 + 1)), (0, .ref (a0 0)), (1, .ref (a1 0)), (2, .ref (a2 0)), (3, .int y36_5_3), (5, .int y36_5_5)]) hx hb dX1_mendPages_85 hl (k := 4) rfl rfl (by decide) rfl (fun ls hl => ?_)
                    refine lv_goto (tgt := 26) hx hb dX1_mendPages_88 (by decide) ?_
                    exact ih26_3 _ _ _ _ _ _ _ _ hf hP hS (lv_sub hl [1, 2, 3, 4, 0] rfl)
                  · have hf := ite_f hf c_6
                    refine lv_aload_n hx hb dX1_mendPages_43 rfl (lv_at hl 0 rfl) ?_
                    refine lv_aload_n hx hb dX1_mendPages_44 rfl (lv_at hl 1 rfl) ?_
                    refine lv_iload hx hb dX1_mendPages_45 (lv_at hl 4 rfl) ?_
                    refine lv_iload hx hb dX1_mendPages_47 (lv_at hl 5 rfl) ?_
                    obtain ⟨z_7, hz_7, hf⟩ := bn_some hf
                    refine cRV (As := [.int y36_5_4, .int y36_5_5]) (rest := [.ref (a0 0)]) ⟨hx, hb, hml, hown, hts⟩ (c_X4_blockOf l D cI cZ cJ cT a1 u36_5_1 y36_5_4 y36_5_5 z_7 hz_7) (cwV 2 hts gX1_mendPages_X4_blockOf rfl rfl rfl (by decide +kernel) ⟨Nat.le_of_ble_eq_true rfl, Nat.le_of_ble_eq_true rfl⟩) (fl_sub hP 1 rfl) hK (va_recv hK (fl_sub hP 1 rfl) (ci := 4) (q0 := 0) rfl rfl) rfl rfl hl.1 (Nat.le_of_ble_eq_true rfl) dX1_mendPages_49 ⟨Nat.le_of_ble_eq_true rfl, Nat.le_of_ble_eq_true rfl⟩ ?_
                    obtain ⟨z_8, hz_8, hf⟩ := bn_some hf
                    refine cWVi (As := [.int z_7]) (rest := []) ⟨hx, hb, hml, hown, hts⟩ (c_X1_isSeenAgain l D cI cZ cJ cT a0 H.size u36_5_0 z_7 z_8 hz_8) (cwV 1 hts gX1_mendPages_X1_isSeenAgain rfl rfl rfl (by decide +kernel) ⟨Nat.le_of_ble_eq_true rfl, Nat.le_of_ble_eq_true rfl⟩) (fl_sub hP 0 rfl) hK (fl_subD (hDD u36_5_0 u36_5_1 u36_5_2) 0 rfl) hS (fl_free (hDD u36_5_0 u36_5_1 u36_5_2) hS hA 0 rfl) (va_recv hK (fl_sub hP 0 rfl) (ci := 1) (q0 := 0) rfl rfl) rfl rfl hl.1 (Nat.le_of_ble_eq_true rfl) dX1_mendPages_52 ⟨Nat.le_of_ble_eq_true rfl, Nat.le_of_ble_eq_true rfl⟩ (fun H1 locs hP1 hk1 hS => ?_)
                    have hP : va_P D cls (List.flatten [(wX1 cI cZ a0 z_8.2), (wX4 cI cZ a1 u36_5_1), (wX0 cI cZ a2 u36_5_2)]) H1 := fl_join hP (hDD u36_5_0 u36_5_1 u36_5_2) 0 rfl hk1 hP1
                    clear hP1 hk1
                    generalize H1 = H at hP hS ⊢
                    obtain ⟨k79_9, hk79_9, hf⟩ := jn_some hf
                    have j79_9 : ∀ (y79_9_3 : Int32) (u79_9_0 : S1) (u79_9_1 : S1) (u79_9_2 : S1) (H : Heap) (locs : List Loc) (ls : Array Slot), k79_9 y79_9_3 u79_9_0 u79_9_1 u79_9_2 = some o → va_P D cls (List.flatten [(wX1 cI cZ a0 u79_9_0), (wX4 cI cZ a1 u79_9_1), (wX0 cI cZ a2 u79_9_2)]) H → va_S A s.heap H locs → lv_has ls 6 [(0, .ref (a0 0)), (1, .ref (a1 0)), (2, .ref (a2 0)), (3, .int y79_9_3), (4, .int y36_5_4), (5, .int y36_5_5)] → W p l e (headSpec wsX1_mendPages rmX1_mendPages).room s m args below meth c H locs 0 0 Q (F0 m 79 ls []) := by
                      intro y79_9_3 u79_9_0 u79_9_1 u79_9_2 H locs ls hf hP hS hl
                      have hf := qa4 hk79_9 hf
                      refine lv_iinc (v := y36_5_5 + 1) (lv' := [(5, .int (y36_5_5 + 1)), (0, .ref (a0 0)), (1, .ref (a1 0)), (2, .ref (a2 0)), (3, .int y79_9_3), (4, .int y36_5_4)]) hx hb dX1_mendPages_79 hl (k := 5) rfl rfl (by decide) rfl (fun ls hl => ?_)
                      refine lv_goto (tgt := 36) hx hb dX1_mendPages_82 (by decide) ?_
                      exact ih36_5 _ _ _ _ _ _ _ _ _ hf hP hS (lv_sub hl [1, 2, 3, 4, 5, 0] rfl)
                    refine lv_if_eq (tgt := 79) hx hb dX1_mendPages_55 (by decide) (fun c_10 => ?_) (fun c_10 => ?_)
                    · have hf := ite_t hf c_10
                      exact j79_9 _ _ _ _ _ _ _ hf hP hS (lv_sub hl [0, 1, 2, 3, 4, 5] rfl)
                    · have hf := ite_f hf c_10
                      refine lv_aload_n hx hb dX1_mendPages_58 rfl (lv_at hl 1 rfl) ?_
                      refine lv_iload hx hb dX1_mendPages_59 (lv_at hl 4 rfl) ?_
                      refine lv_iload hx hb dX1_mendPages_61 (lv_at hl 5 rfl) ?_
                      refine lv_iconst (v := 0) hx hb dX1_mendPages_63 (by decide) ?_
                      refine lv_iconst (v := (-1)) hx hb dX1_mendPages_64 (by decide) ?_
                      obtain ⟨z_11, hz_11, hf⟩ := bn_some hf
                      refine cWVv (As := [.int y36_5_4, .int y36_5_5, .int 0, .int (-1)]) (rest := []) ⟨hx, hb, hml, hown, hts⟩ (c_X4_setPage l D cI cZ cJ cT a1 H.size u36_5_1 y36_5_4 y36_5_5 0 (-1) z_11 hz_11) (cwV 4 hts gX1_mendPages_X4_setPage rfl rfl rfl (by decide +kernel) ⟨Nat.le_of_ble_eq_true rfl, Nat.le_of_ble_eq_true rfl⟩) (fl_sub hP 1 rfl) hK (fl_subD (hDD z_8.2 u36_5_1 u36_5_2) 1 rfl) hS (fl_free (hDD z_8.2 u36_5_1 u36_5_2) hS hA 1 rfl) (va_recv hK (fl_sub hP 1 rfl) (ci := 4) (q0 := 0) rfl rfl) rfl rfl hl.1 (Nat.le_of_ble_eq_true rfl) dX1_mendPages_65 ⟨Nat.le_of_ble_eq_true rfl, Nat.le_of_ble_eq_true rfl⟩ (fun H1 locs hP1 hk1 hS => ?_)
                      have hP : va_P D cls (List.flatten [(wX1 cI cZ a0 z_8.2), (wX4 cI cZ a1 z_11), (wX0 cI cZ a2 u36_5_2)]) H1 := fl_join hP (hDD z_8.2 u36_5_1 u36_5_2) 1 rfl hk1 hP1
                      clear hP1 hk1
                      generalize H1 = H at hP hS ⊢
                      refine lv_aload_n hx hb dX1_mendPages_68 rfl (lv_at hl 2 rfl) ?_
                      refine lv_iload hx hb dX1_mendPages_69 (lv_at hl 4 rfl) ?_
                      refine lv_iload hx hb dX1_mendPages_71 (lv_at hl 5 rfl) ?_
                      obtain ⟨z_12, hz_12, hf⟩ := bn_some hf
                      refine cWVv (As := [.int y36_5_4, .int y36_5_5]) (rest := []) ⟨hx, hb, hml, hown, hts⟩ (c_X0_letGo l D cI cZ cJ cT a2 H.size u36_5_2 y36_5_4 y36_5_5 z_12 hz_12) (cwV 2 hts gX1_mendPages_X0_letGo rfl rfl rfl (by decide +kernel) ⟨Nat.le_of_ble_eq_true rfl, Nat.le_of_ble_eq_true rfl⟩) (fl_sub hP 2 rfl) hK (fl_subD (hDD z_8.2 z_11 u36_5_2) 2 rfl) hS (fl_free (hDD z_8.2 z_11 u36_5_2) hS hA 2 rfl) (va_recv hK (fl_sub hP 2 rfl) (ci := 0) (q0 := 0) rfl rfl) rfl rfl hl.1 (Nat.le_of_ble_eq_true rfl) dX1_mendPages_73 ⟨Nat.le_of_ble_eq_true rfl, Nat.le_of_ble_eq_true rfl⟩ (fun H1 locs hP1 hk1 hS => ?_)
                      have hP : va_P D cls (List.flatten [(wX1 cI cZ a0 z_8.2), (wX4 cI cZ a1 z_11), (wX0 cI cZ a2 z_12)]) H1 := fl_join hP (hDD z_8.2 z_11 u36_5_2) 2 rfl hk1 hP1
                      clear hP1 hk1
                      generalize H1 = H at hP hS ⊢
                      refine lv_iinc (v := y36_5_3 + 1) (lv' := [(3, .int (y36_5_3 + 1)), (0, .ref (a0 0)), (1, .ref (a1 0)), (2, .ref (a2 0)), (4, .int y36_5_4), (5, .int y36_5_5)]) hx hb dX1_mendPages_76 hl (k := 3) rfl rfl (by decide) rfl (fun ls hl => ?_)
                      exact j79_9 _ _ _ _ _ _ _ hf hP hS (lv_sub hl [1, 2, 3, 0, 4, 5] rfl)
              exact j36_5 4096 _ _ _ _ _ _ _ _ _ hf hP hS (lv_sub hl [1, 2, 3, 4, 5, 0] rfl)
        exact j26_3 4096 _ _ _ _ _ _ _ _ hf hP hS (lv_sub hl [2, 3, 4, 1, 0] rfl)
      · have hf := ite_f hf c_2
        refine lv_aload_n hx hb dX1_mendPages_8 rfl (lv_at hl 0 rfl) ?_
        refine va_get (D := D) (ci := 1) (v := .ref (a0 1)) (C := RX1) (T := TX1) (N := 4) hx hb hts i1 hown hK (fl_sub hP 0 rfl) 0 rfl rfl 0 (by decide) hk9 (fun _ h9 => h9) rfl dX1_mendPages_9 ?_
        refine lv_iload_n hx hb dX1_mendPages_12 rfl (lv_at hl 3 rfl) ?_
        refine lv_iconst (v := 0) hx hb dX1_mendPages_13 (by decide) ?_
        obtain ⟨hi, hf⟩ := chk_some hf
        obtain ⟨u_13, hu_13, hf⟩ := bv_some hf
        refine va_zast hx hb hK hP (hDD u2_1_0 u1 u2) hS 1 1 rfl rfl (inb_in hi) dX1_mendPages_14 (fun H locs hP _ hS => ?_)
        have hP : va_P D cls (List.flatten [(wX1 cI cZ a0 u_13), (wX4 cI cZ a1 u1), (wX0 cI cZ a2 u2)]) H := by rw [hu_13]; exact hP
        refine lv_iinc (v := y2_1_3 + 1) (lv' := [(3, .int (y2_1_3 + 1)), (0, .ref (a0 0)), (1, .ref (a1 0)), (2, .ref (a2 0))]) hx hb dX1_mendPages_15 hl (k := 3) rfl rfl (by decide) rfl (fun ls hl => ?_)
        refine lv_goto (tgt := 2) hx hb dX1_mendPages_18 (by decide) ?_
        exact ih2_1 _ _ _ _ _ hf hP hS (lv_sub hl [1, 2, 3, 0] rfl)
  exact j2_1 4096 _ _ _ _ _ hf hP hS (lv_sub hl [1, 2, 3, 0] rfl)
theorem dX1_reach_0 : decode cX1_reach 0 = .ok (.iload_n 1, 1) := by decide +kernel
theorem dX1_reach_1 : decode cX1_reach 1 = .ok (.ifCond .lt 61, 3) := by decide +kernel
theorem dX1_reach_4 : decode cX1_reach 4 = .ok (.iload_n 1, 1) := by decide +kernel
theorem dX1_reach_5 : decode cX1_reach 5 = .ok (.bipush 32, 2) := by decide +kernel
theorem dX1_reach_7 : decode cX1_reach 7 = .ok (.if_icmp .ge 55, 3) := by decide +kernel
theorem dX1_reach_10 : decode cX1_reach 10 = .ok (.aload_n 0, 1) := by decide +kernel
theorem dX1_reach_11 : decode cX1_reach 11 = .ok (.getfield 15, 3) := by decide +kernel
theorem dX1_reach_14 : decode cX1_reach 14 = .ok (.iload_n 1, 1) := by decide +kernel
theorem dX1_reach_15 : decode cX1_reach 15 = .ok (.baload, 1) := by decide +kernel
theorem dX1_reach_16 : decode cX1_reach 16 = .ok (.ifCond .ne 46, 3) := by decide +kernel
theorem dX1_reach_19 : decode cX1_reach 19 = .ok (.aload_n 0, 1) := by decide +kernel
theorem dX1_reach_20 : decode cX1_reach 20 = .ok (.getfield 22, 3) := by decide +kernel
theorem dX1_reach_23 : decode cX1_reach 23 = .ok (.ifCond .lt 39, 3) := by decide +kernel
theorem dX1_reach_26 : decode cX1_reach 26 = .ok (.aload_n 0, 1) := by decide +kernel
theorem dX1_reach_27 : decode cX1_reach 27 = .ok (.getfield 22, 3) := by decide +kernel
theorem dX1_reach_30 : decode cX1_reach 30 = .ok (.bipush 32, 2) := by decide +kernel
theorem dX1_reach_32 : decode cX1_reach 32 = .ok (.if_icmp .ge 30, 3) := by decide +kernel
theorem dX1_reach_35 : decode cX1_reach 35 = .ok (.aload_n 0, 1) := by decide +kernel
theorem dX1_reach_36 : decode cX1_reach 36 = .ok (.getfield 15, 3) := by decide +kernel
theorem dX1_reach_39 : decode cX1_reach 39 = .ok (.iload_n 1, 1) := by decide +kernel
theorem dX1_reach_40 : decode cX1_reach 40 = .ok (.iconst 1, 1) := by decide +kernel
theorem dX1_reach_41 : decode cX1_reach 41 = .ok (.bastore, 1) := by decide +kernel
theorem dX1_reach_42 : decode cX1_reach 42 = .ok (.aload_n 0, 1) := by decide +kernel
theorem dX1_reach_43 : decode cX1_reach 43 = .ok (.getfield 18, 3) := by decide +kernel
theorem dX1_reach_46 : decode cX1_reach 46 = .ok (.aload_n 0, 1) := by decide +kernel
theorem dX1_reach_47 : decode cX1_reach 47 = .ok (.getfield 22, 3) := by decide +kernel
theorem dX1_reach_50 : decode cX1_reach 50 = .ok (.iload_n 1, 1) := by decide +kernel
theorem dX1_reach_51 : decode cX1_reach 51 = .ok (.iastore, 1) := by decide +kernel
theorem dX1_reach_52 : decode cX1_reach 52 = .ok (.aload_n 0, 1) := by decide +kernel
theorem dX1_reach_53 : decode cX1_reach 53 = .ok (.dup, 1) := by decide +kernel
theorem dX1_reach_54 : decode cX1_reach 54 = .ok (.getfield 22, 3) := by decide +kernel
theorem dX1_reach_57 : decode cX1_reach 57 = .ok (.iconst 1, 1) := by decide +kernel
theorem dX1_reach_58 : decode cX1_reach 58 = .ok (.iadd, 1) := by decide +kernel
theorem dX1_reach_59 : decode cX1_reach 59 = .ok (.putfield 22, 3) := by decide +kernel
theorem dX1_reach_62 : decode cX1_reach 62 = .ok (.return_, 1) := by decide +kernel
def f_X1_reach (u0 : S1) (p1 : Int32) : Option (S1) := jn (fun (u62_1_0 : S1) => some (u62_1_0)) (fun k62_1 => if p1 < 0 then k62_1 u0 else if 32 ≤ p1 then k62_1 u0 else chk (inb p1 32) (if (u0 1 (p1).toNatClampNeg) = 0 then if (u0 3 0) < 0 then k62_1 u0 else if 32 ≤ (u0 3 0) then k62_1 u0 else chk (inb p1 32) (bv (stz u0 1 p1 1) (fun u_7 => chk (inb (u_7 3 0) 32) (bv (st u_7 2 (u_7 3 0) p1) (fun u_8 => bv (up u_8 3 (fun _ => (u_8 3 0) + 1)) (fun u_9 => k62_1 u_9))))) else k62_1 u0))
def rmX1_reach : Room := { frames := 0, cells := 0, slots := 0, locals := 0 }
set_option maxHeartbeats 4000000 in
set_option maxRecDepth 100000 in
theorem c_X1_reach (l : Launch) (D : va_G) (cI cZ cJ cT : ClassId) (a0 : Nat → Nat) (sz : Nat) (u0 : S1) (p1 : Int32) (o : S1) (hf : f_X1_reach u0 p1 = some o) : Met l yX1_reach wsX1_reach rmX1_reach (va_Pc [.ref (a0 0), .int p1] (PW D cls (tys cI cZ cJ cT) ((wX1 cI cZ a0 u0)) sz)) (QWv D cls ((wX1 cI cZ a0 o)) (va_A ((wX1 cI cZ a0 u0)) sz)) 0 0 (va_A ((wX1 cI cZ a0 u0)) sz) := by
  refine Met.ofW (cc := cX1_reach) (maxL := 2) (ret := none) (by decide) rfl ?_
  intro p e s m args below meth c s₁ B hml hv
  obtain ⟨hav, hsz, hP, hK, hD0⟩ := hv
  have hx := B.exec
  have hb := B.bytes
  have hr := B.returns
  have hlocks := B.notSynchronized
  have hts := atoms_spec (ws := wsX1_reach) B.pre
  have hown : s.vm.findClass RX1 = some m.cls := findClass_of_methodNamed B.named
  have i1 : ∀ w ∈ wsX10, w ∈ wsX1_reach := fun w h => List.mem_cons_of_mem _ (List.mem_append_right _ h)
  have hk15 := hts (.fieldLink RX1 15 "Inodery$Checker" "isReached" "[Z") (by decide +kernel)
  have hk18 := hts (.fieldLink RX1 18 "Inodery$Checker" "reached" "[I") (by decide +kernel)
  have hk22 := hts (.fieldLink RX1 22 "Inodery$Checker" "many" "I") (by decide +kernel)
  subst hsz
  have hD := hD0.self (sz := s.heap.size)
  generalize hAe : va_A ((wX1 cI cZ a0 u0)) s.heap.size = A at hD ⊢
  have hA : ∀ q : Nat, s.heap.size ≤ q → A q := fun q h => by rw [← hAe]; exact Or.inr h
  have hS : va_S A s.heap s.heap [] := va_S.rf
  have hDD : ∀ w0 : S1, va_D A ((wX1 cI cZ a0 w0)) := fun _ => D_same (w := (wX1 cI cZ a0 u0)) rfl hD
  refine Wq (fun Q hQ => ?_)
  refine W_entry hav (Nat.le_of_ble_eq_true rfl) (fun ls hl => ?_)
  have hl : lv_has ls 2 [(0, .ref (a0 0)), (1, .int p1)] := hl
  unfold f_X1_reach at hf
  refine W_heap hP hS (fun H locs hP hS => ?_)
  refine lv_iload_n hx hb dX1_reach_0 rfl (lv_at hl 1 rfl) ?_
  obtain ⟨k62_1, hk62_1, hf⟩ := jn_some hf
  have j62_1 : ∀ (u62_1_0 : S1) (H : Heap) (locs : List Loc) (ls : Array Slot), k62_1 u62_1_0 = some o → va_P D cls (wX1 cI cZ a0 u62_1_0) H → va_S A s.heap H locs → lv_has ls 2 [] → W p l e (headSpec wsX1_reach rmX1_reach).room s m args below meth c H locs 0 0 Q (F0 m 62 ls []) := by
    intro u62_1_0 H locs ls hf hP hS hl
    have hf := qa1 hk62_1 hf
    have eo := Option.some.inj hf
    have hP : va_P D cls (wX1 cI cZ a0 o) H := by rw [← eo]; exact hP
    rw [hQ]
    exact W.vret hx hb hr (fun t ht hW => ⟨⟨(), rfl, trivial, P_at ht hP⟩, hS.F ht⟩) hS.2.2 dX1_reach_62 hlocks
  refine lv_if_lt (tgt := 62) hx hb dX1_reach_1 (by decide) (fun c_2 => ?_) (fun c_2 => ?_)
  · have hf := ite_t hf c_2
    exact j62_1 _ _ _ _ hf hP hS (lv_sub hl [] rfl)
  · have hf := ite_f hf c_2
    refine lv_iload_n hx hb dX1_reach_4 rfl (lv_at hl 1 rfl) ?_
    refine lv_bipush (v := 32) hx hb dX1_reach_5 (by decide) ?_
    refine lv_icmp_ge (tgt := 62) hx hb dX1_reach_7 (by decide) (fun c_3 => ?_) (fun c_3 => ?_)
    · have hf := ite_t hf c_3
      exact j62_1 _ _ _ _ hf hP hS (lv_sub hl [] rfl)
    · have hf := ite_f hf c_3
      refine lv_aload_n hx hb dX1_reach_10 rfl (lv_at hl 0 rfl) ?_
      refine va_get (D := D) (ci := 1) (v := .ref (a0 2)) (C := RX1) (T := TX1) (N := 4) hx hb hts i1 hown hK hP 0 rfl rfl 1 (by decide) hk15 (fun _ h9 => h9) rfl dX1_reach_11 ?_
      refine lv_iload_n hx hb dX1_reach_14 rfl (lv_at hl 1 rfl) ?_
      obtain ⟨hi, hf⟩ := chk_some hf
      refine va_zald hx hb hK hP 2 1 rfl rfl (inb_in hi) dX1_reach_15 ?_
      refine lv_if_ne (tgt := 62) hx hb dX1_reach_16 (by decide) (fun c_4 => ?_) (fun c_4 => ?_)
      · have hf := ite_f hf c_4
        exact j62_1 _ _ _ _ hf hP hS (lv_sub hl [] rfl)
      · have hf := ite_t hf c_4
        refine lv_aload_n hx hb dX1_reach_19 rfl (lv_at hl 0 rfl) ?_
        refine va_get (D := D) (ci := 1) (v := .int (u0 3 0)) (C := RX1) (T := TX1) (N := 4) hx hb hts i1 hown hK hP 0 rfl rfl 3 (by decide) hk22 (fun _ h9 => h9) rfl dX1_reach_20 ?_
        refine lv_if_lt (tgt := 62) hx hb dX1_reach_23 (by decide) (fun c_5 => ?_) (fun c_5 => ?_)
        · have hf := ite_t hf c_5
          exact j62_1 _ _ _ _ hf hP hS (lv_sub hl [] rfl)
        · have hf := ite_f hf c_5
          refine lv_aload_n hx hb dX1_reach_26 rfl (lv_at hl 0 rfl) ?_
          refine va_get (D := D) (ci := 1) (v := .int (u0 3 0)) (C := RX1) (T := TX1) (N := 4) hx hb hts i1 hown hK hP 0 rfl rfl 3 (by decide) hk22 (fun _ h9 => h9) rfl dX1_reach_27 ?_
          refine lv_bipush (v := 32) hx hb dX1_reach_30 (by decide) ?_
          refine lv_icmp_ge (tgt := 62) hx hb dX1_reach_32 (by decide) (fun c_6 => ?_) (fun c_6 => ?_)
          · have hf := ite_t hf c_6
            exact j62_1 _ _ _ _ hf hP hS (lv_sub hl [] rfl)
          · have hf := ite_f hf c_6
            refine lv_aload_n hx hb dX1_reach_35 rfl (lv_at hl 0 rfl) ?_
            refine va_get (D := D) (ci := 1) (v := .ref (a0 2)) (C := RX1) (T := TX1) (N := 4) hx hb hts i1 hown hK hP 0 rfl rfl 1 (by decide) hk15 (fun _ h9 => h9) rfl dX1_reach_36 ?_
            refine lv_iload_n hx hb dX1_reach_39 rfl (lv_at hl 1 rfl) ?_
            refine lv_iconst (v := 1) hx hb dX1_reach_40 (by decide) ?_
            obtain ⟨hi, hf⟩ := chk_some hf
            obtain ⟨u_7, hu_7, hf⟩ := bv_some hf
            refine va_zast hx hb hK hP (hDD u0) hS 2 1 rfl rfl (inb_in hi) dX1_reach_41 (fun H locs hP _ hS => ?_)
            have hP : va_P D cls (wX1 cI cZ a0 u_7) H := by rw [hu_7]; exact hP
            refine lv_aload_n hx hb dX1_reach_42 rfl (lv_at hl 0 rfl) ?_
            refine va_get (D := D) (ci := 1) (v := .ref (a0 3)) (C := RX1) (T := TX1) (N := 4) hx hb hts i1 hown hK hP 0 rfl rfl 2 (by decide) hk18 (fun _ h9 => h9) rfl dX1_reach_43 ?_
            refine lv_aload_n hx hb dX1_reach_46 rfl (lv_at hl 0 rfl) ?_
            refine va_get (D := D) (ci := 1) (v := .int (u_7 3 0)) (C := RX1) (T := TX1) (N := 4) hx hb hts i1 hown hK hP 0 rfl rfl 3 (by decide) hk22 (fun _ h9 => h9) rfl dX1_reach_47 ?_
            refine lv_iload_n hx hb dX1_reach_50 rfl (lv_at hl 1 rfl) ?_
            obtain ⟨hi, hf⟩ := chk_some hf
            obtain ⟨u_8, hu_8, hf⟩ := bv_some hf
            refine va_iast hx hb hK hP (hDD u_7) hS 3 0 rfl rfl (inb_in hi) dX1_reach_51 (fun H locs hP _ hS => ?_)
            have hP : va_P D cls (wX1 cI cZ a0 u_8) H := by rw [hu_8]; exact hP
            refine lv_aload_n hx hb dX1_reach_52 rfl (lv_at hl 0 rfl) ?_
            refine lv_dup hx hb dX1_reach_53 rfl ?_
            refine va_get (D := D) (ci := 1) (v := .int (u_8 3 0)) (C := RX1) (T := TX1) (N := 4) hx hb hts i1 hown hK hP 0 rfl rfl 3 (by decide) hk22 (fun _ h9 => h9) rfl dX1_reach_54 ?_
            refine lv_iconst (v := 1) hx hb dX1_reach_57 (by decide) ?_
            refine lv_iadd hx hb dX1_reach_58 ?_
            obtain ⟨u_9, hu_9, hf⟩ := bv_some hf
            refine va_put (D := D) (ci := 1) (v := .int ((u_8 3 0) + 1)) (ty := .int) (C := RX1) (T := TX1) (N := 4) hx hb hts i1 tyX1 tyX1_ok nmX1 hown hK hP (hDD u_8) hS 0 rfl rfl 3 (by decide) hk22 (fun _ h9 => h9) rfl (by decide +kernel) rfl rfl (Nat.le_of_ble_eq_true rfl) dX1_reach_59 (fun H locs hP _ hS => ?_)
            have hP : va_P D cls (wX1 cI cZ a0 u_9) H := by rw [hu_9]; exact hP
            exact j62_1 _ _ _ _ hf hP hS (lv_sub hl [] rfl)
set_option maxRecDepth 20000 in
theorem ggX1_reachAll_X1_reach : GoodIn wsX1_reachAll wsX1_reach := goodIn_r _ [8, 1, 2, 3, 27, 28, 29, 30] (by decide +kernel) (by decide +kernel)
set_option maxRecDepth 20000 in
theorem gX1_reachAll_X1_reach : GoodIn wsX1_reachAll (wsV RX1 60 RX1 yX1_reach wsX1_reach) := goodIn_app (goodIn_of _ (by decide +kernel)) ggX1_reachAll_X1_reach
set_option maxRecDepth 20000 in
theorem ggX1_reachAll_X4_entryThing : GoodIn wsX1_reachAll wsX4_entryThing := goodIn_r _ [21, 22, 23, 24, 25, 12, 26, 14, 31, 32, 33, 34, 35, 36, 37, 38, 39, 40, 41, 42] (by decide +kernel) (by decide +kernel)
set_option maxRecDepth 20000 in
theorem gX1_reachAll_X4_entryThing : GoodIn wsX1_reachAll (wsV RX1 67 RX4 yX4_entryThing wsX4_entryThing) := goodIn_app (goodIn_of _ (by decide +kernel)) ggX1_reachAll_X4_entryThing
set_option maxRecDepth 20000 in
theorem ggX1_reachAll_X4_sizeOf : GoodIn wsX1_reachAll wsX4_sizeOf := goodIn_r _ [13, 14, 15, 16, 12, 17, 31, 32, 33, 34, 35, 36, 37, 38, 39, 40, 41, 42] (by decide +kernel) (by decide +kernel)
set_option maxRecDepth 20000 in
theorem gX1_reachAll_X4_sizeOf : GoodIn wsX1_reachAll (wsV RX1 63 RX4 yX4_sizeOf wsX4_sizeOf) := goodIn_app (goodIn_of _ (by decide +kernel)) ggX1_reachAll_X4_sizeOf
theorem dX1_reachAll_0 : decode cX1_reachAll 0 = .ok (.iconst 0, 1) := by decide +kernel
theorem dX1_reachAll_1 : decode cX1_reachAll 1 = .ok (.istore_n 2, 1) := by decide +kernel
theorem dX1_reachAll_2 : decode cX1_reachAll 2 = .ok (.iload_n 2, 1) := by decide +kernel
theorem dX1_reachAll_3 : decode cX1_reachAll 3 = .ok (.bipush 32, 2) := by decide +kernel
theorem dX1_reachAll_5 : decode cX1_reachAll 5 = .ok (.if_icmp .ge 16, 3) := by decide +kernel
theorem dX1_reachAll_8 : decode cX1_reachAll 8 = .ok (.aload_n 0, 1) := by decide +kernel
theorem dX1_reachAll_9 : decode cX1_reachAll 9 = .ok (.getfield 15, 3) := by decide +kernel
theorem dX1_reachAll_12 : decode cX1_reachAll 12 = .ok (.iload_n 2, 1) := by decide +kernel
theorem dX1_reachAll_13 : decode cX1_reachAll 13 = .ok (.iconst 0, 1) := by decide +kernel
theorem dX1_reachAll_14 : decode cX1_reachAll 14 = .ok (.bastore, 1) := by decide +kernel
theorem dX1_reachAll_15 : decode cX1_reachAll 15 = .ok (.iinc 2 1, 3) := by decide +kernel
theorem dX1_reachAll_18 : decode cX1_reachAll 18 = .ok (.goto (-16), 3) := by decide +kernel
theorem dX1_reachAll_21 : decode cX1_reachAll 21 = .ok (.aload_n 0, 1) := by decide +kernel
theorem dX1_reachAll_22 : decode cX1_reachAll 22 = .ok (.iconst 0, 1) := by decide +kernel
theorem dX1_reachAll_23 : decode cX1_reachAll 23 = .ok (.putfield 22, 3) := by decide +kernel
theorem dX1_reachAll_26 : decode cX1_reachAll 26 = .ok (.aload_n 0, 1) := by decide +kernel
theorem dX1_reachAll_27 : decode cX1_reachAll 27 = .ok (.iconst 0, 1) := by decide +kernel
theorem dX1_reachAll_28 : decode cX1_reachAll 28 = .ok (.invokevirtual 60, 3) := by decide +kernel
theorem dX1_reachAll_31 : decode cX1_reachAll 31 = .ok (.iconst 0, 1) := by decide +kernel
theorem dX1_reachAll_32 : decode cX1_reachAll 32 = .ok (.istore_n 2, 1) := by decide +kernel
theorem dX1_reachAll_33 : decode cX1_reachAll 33 = .ok (.iload_n 2, 1) := by decide +kernel
theorem dX1_reachAll_34 : decode cX1_reachAll 34 = .ok (.aload_n 0, 1) := by decide +kernel
theorem dX1_reachAll_35 : decode cX1_reachAll 35 = .ok (.getfield 22, 3) := by decide +kernel
theorem dX1_reachAll_38 : decode cX1_reachAll 38 = .ok (.if_icmp .ge 57, 3) := by decide +kernel
theorem dX1_reachAll_41 : decode cX1_reachAll 41 = .ok (.iload_n 2, 1) := by decide +kernel
theorem dX1_reachAll_42 : decode cX1_reachAll 42 = .ok (.bipush 32, 2) := by decide +kernel
theorem dX1_reachAll_44 : decode cX1_reachAll 44 = .ok (.if_icmp .ge 51, 3) := by decide +kernel
theorem dX1_reachAll_47 : decode cX1_reachAll 47 = .ok (.aload_n 1, 1) := by decide +kernel
theorem dX1_reachAll_48 : decode cX1_reachAll 48 = .ok (.aload_n 0, 1) := by decide +kernel
theorem dX1_reachAll_49 : decode cX1_reachAll 49 = .ok (.getfield 18, 3) := by decide +kernel
theorem dX1_reachAll_52 : decode cX1_reachAll 52 = .ok (.iload_n 2, 1) := by decide +kernel
theorem dX1_reachAll_53 : decode cX1_reachAll 53 = .ok (.iaload, 1) := by decide +kernel
theorem dX1_reachAll_54 : decode cX1_reachAll 54 = .ok (.invokevirtual 63, 3) := by decide +kernel
theorem dX1_reachAll_57 : decode cX1_reachAll 57 = .ok (.istore_n 3, 1) := by decide +kernel
theorem dX1_reachAll_58 : decode cX1_reachAll 58 = .ok (.iconst 0, 1) := by decide +kernel
theorem dX1_reachAll_59 : decode cX1_reachAll 59 = .ok (.istore 4, 2) := by decide +kernel
theorem dX1_reachAll_61 : decode cX1_reachAll 61 = .ok (.iload 4, 2) := by decide +kernel
theorem dX1_reachAll_63 : decode cX1_reachAll 63 = .ok (.iload_n 3, 1) := by decide +kernel
theorem dX1_reachAll_64 : decode cX1_reachAll 64 = .ok (.if_icmp .ge 25, 3) := by decide +kernel
theorem dX1_reachAll_67 : decode cX1_reachAll 67 = .ok (.aload_n 0, 1) := by decide +kernel
theorem dX1_reachAll_68 : decode cX1_reachAll 68 = .ok (.aload_n 1, 1) := by decide +kernel
theorem dX1_reachAll_69 : decode cX1_reachAll 69 = .ok (.aload_n 0, 1) := by decide +kernel
theorem dX1_reachAll_70 : decode cX1_reachAll 70 = .ok (.getfield 18, 3) := by decide +kernel
theorem dX1_reachAll_73 : decode cX1_reachAll 73 = .ok (.iload_n 2, 1) := by decide +kernel
theorem dX1_reachAll_74 : decode cX1_reachAll 74 = .ok (.iaload, 1) := by decide +kernel
theorem dX1_reachAll_75 : decode cX1_reachAll 75 = .ok (.iload 4, 2) := by decide +kernel
theorem dX1_reachAll_77 : decode cX1_reachAll 77 = .ok (.invokevirtual 67, 3) := by decide +kernel
theorem dX1_reachAll_80 : decode cX1_reachAll 80 = .ok (.invokevirtual 60, 3) := by decide +kernel
theorem dX1_reachAll_83 : decode cX1_reachAll 83 = .ok (.iinc 4 1, 3) := by decide +kernel
theorem dX1_reachAll_86 : decode cX1_reachAll 86 = .ok (.goto (-25), 3) := by decide +kernel
theorem dX1_reachAll_89 : decode cX1_reachAll 89 = .ok (.iinc 2 1, 3) := by decide +kernel
theorem dX1_reachAll_92 : decode cX1_reachAll 92 = .ok (.goto (-59), 3) := by decide +kernel
theorem dX1_reachAll_95 : decode cX1_reachAll 95 = .ok (.return_, 1) := by decide +kernel
def f_X1_reachAll (u0 : S1) (u1 : S1) : Option (S1) := qj2 (fun (r2_1 : Int32 → S1 → Option (S1)) (y2_1_2 : Int32) (u2_1_0 : S1) => if 32 ≤ y2_1_2 then bv (up u2_1_0 3 (fun _ => 0)) (fun u_3 => bn (f_X1_reach u_3 0) (fun z_4 => qj2 (fun (r33_5 : Int32 → S1 → Option (S1)) (y33_5_2 : Int32) (u33_5_0 : S1) => jn (some (u33_5_0)) (fun k95_6 => if (u33_5_0 3 0) ≤ y33_5_2 then k95_6 else if 32 ≤ y33_5_2 then k95_6 else chk (inb y33_5_2 32) (bn (f_X4_sizeOf u1 (u33_5_0 2 (y33_5_2).toNatClampNeg)) (fun z_9 => qj4 (fun (r61_10 : Int32 → Int32 → Int32 → S1 → Option (S1)) (y61_10_2 : Int32) (y61_10_3 : Int32) (y61_10_4 : Int32) (u61_10_0 : S1) => if y61_10_3 ≤ y61_10_4 then r33_5 (y61_10_2 + 1) u61_10_0 else chk (inb y61_10_2 32) (bn (f_X4_entryThing u1 (u61_10_0 2 (y61_10_2).toNatClampNeg) y61_10_4) (fun z_12 => bn (f_X1_reach u61_10_0 z_12) (fun z_13 => r61_10 y61_10_2 y61_10_3 (y61_10_4 + 1) z_13)))) (fun k61_10 => k61_10 y33_5_2 z_9 0 u33_5_0))))) (fun k33_5 => k33_5 0 z_4))) else chk (inb y2_1_2 32) (bv (stz u2_1_0 1 y2_1_2 0) (fun u_14 => r2_1 (y2_1_2 + 1) u_14))) (fun k2_1 => k2_1 0 u0)
def rmX1_reachAll : Room := { frames := 2, cells := 0, slots := 0, locals := 44 }
set_option maxHeartbeats 4000000 in
set_option maxRecDepth 100000 in
theorem c_X1_reachAll (l : Launch) (D : va_G) (cI cZ cJ cT : ClassId) (a0 : Nat → Nat) (a1 : Nat → Nat) (sz : Nat) (u0 : S1) (u1 : S1) (o : S1) (hf : f_X1_reachAll u0 u1 = some o) : Met l yX1_reachAll wsX1_reachAll rmX1_reachAll (va_Pc [.ref (a0 0), .ref (a1 0)] (PW D cls (tys cI cZ cJ cT) ((List.flatten [(wX1 cI cZ a0 u0), (wX4 cI cZ a1 u1)])) sz)) (QWv D cls ((List.flatten [(wX1 cI cZ a0 o), (wX4 cI cZ a1 u1)])) (va_A ((List.flatten [(wX1 cI cZ a0 u0), (wX4 cI cZ a1 u1)])) sz)) 0 0 (va_A ((List.flatten [(wX1 cI cZ a0 u0), (wX4 cI cZ a1 u1)])) sz) := by
  refine Met.ofW (cc := cX1_reachAll) (maxL := 5) (ret := none) (by decide) rfl ?_
  intro p e s m args below meth c s₁ B hml hv
  obtain ⟨hav, hsz, hP, hK, hD0⟩ := hv
  have hx := B.exec
  have hb := B.bytes
  have hr := B.returns
  have hlocks := B.notSynchronized
  have hts := atoms_spec (ws := wsX1_reachAll) B.pre
  have hown : s.vm.findClass RX1 = some m.cls := findClass_of_methodNamed B.named
  have i1 : ∀ w ∈ wsX10, w ∈ wsX1_reachAll := fun w h => List.mem_cons_of_mem _ (List.mem_append_left _ (List.mem_append_right _ h))
  have hk15 := hts (.fieldLink RX1 15 "Inodery$Checker" "isReached" "[Z") (by decide +kernel)
  have hk18 := hts (.fieldLink RX1 18 "Inodery$Checker" "reached" "[I") (by decide +kernel)
  have hk22 := hts (.fieldLink RX1 22 "Inodery$Checker" "many" "I") (by decide +kernel)
  subst hsz
  have hD := hD0.self (sz := s.heap.size)
  generalize hAe : va_A ((List.flatten [(wX1 cI cZ a0 u0), (wX4 cI cZ a1 u1)])) s.heap.size = A at hD ⊢
  have hA : ∀ q : Nat, s.heap.size ≤ q → A q := fun q h => by rw [← hAe]; exact Or.inr h
  have hS : va_S A s.heap s.heap [] := va_S.rf
  have hDD : ∀ w0 w1 : S1, va_D A ((List.flatten [(wX1 cI cZ a0 w0), (wX4 cI cZ a1 w1)])) := fun _ _ => D_same (w := (List.flatten [(wX1 cI cZ a0 u0), (wX4 cI cZ a1 u1)])) rfl hD
  refine Wq (fun Q hQ => ?_)
  refine W_entry hav (Nat.le_of_ble_eq_true rfl) (fun ls hl => ?_)
  have hl : lv_has ls 5 [(0, .ref (a0 0)), (1, .ref (a1 0))] := hl
  unfold f_X1_reachAll at hf
  refine W_heap hP hS (fun H locs hP hS => ?_)
  refine lv_iconst (v := 0) hx hb dX1_reachAll_0 (by decide) ?_
  refine lv_istore_n (lv' := [(2, .int 0), (0, .ref (a0 0)), (1, .ref (a1 0))]) hx hb dX1_reachAll_1 rfl hl (by decide) rfl (fun ls hl => ?_)
  obtain ⟨G2_1, hG2_1, hf⟩ := qj2_some hf
  have j2_1 : ∀ (n : Nat) (y2_1_2 : Int32) (u2_1_0 : S1) (H : Heap) (locs : List Loc) (ls : Array Slot), ql2 G2_1 n y2_1_2 u2_1_0 = some o → va_P D cls (List.flatten [(wX1 cI cZ a0 u2_1_0), (wX4 cI cZ a1 u1)]) H → va_S A s.heap H locs → lv_has ls 5 [(0, .ref (a0 0)), (1, .ref (a1 0)), (2, .int y2_1_2)] → W p l e (headSpec wsX1_reachAll rmX1_reachAll).room s m args below meth c H locs 0 0 Q (F0 m 2 ls []) := by
    intro n
    induction n with
    | zero => intro y2_1_2 u2_1_0 H locs ls hf hP hS hl; exact (ql2_z hf).elim
    | succ n ih2_1 =>
      intro y2_1_2 u2_1_0 H locs ls hf hP hS hl
      have hf := ql2_s hG2_1 hf
      obtain ⟨r2_1, hr2_1⟩ : ∃ z, z = ql2 G2_1 n := ⟨_, rfl⟩
      rw [← hr2_1] at hf ih2_1
      refine lv_iload_n hx hb dX1_reachAll_2 rfl (lv_at hl 2 rfl) ?_
      refine lv_bipush (v := 32) hx hb dX1_reachAll_3 (by decide) ?_
      refine lv_icmp_ge (tgt := 21) hx hb dX1_reachAll_5 (by decide) (fun c_2 => ?_) (fun c_2 => ?_)
      · have hf := ite_t hf c_2
        refine lv_aload_n hx hb dX1_reachAll_21 rfl (lv_at hl 0 rfl) ?_
        refine lv_iconst (v := 0) hx hb dX1_reachAll_22 (by decide) ?_
        obtain ⟨u_3, hu_3, hf⟩ := bv_some hf
        refine va_put (D := D) (ci := 1) (v := .int 0) (ty := .int) (C := RX1) (T := TX1) (N := 4) hx hb hts i1 tyX1 tyX1_ok nmX1 hown hK hP (hDD u2_1_0 u1) hS 0 rfl rfl 3 (by decide) hk22 (fun _ h9 => h9) rfl (by decide +kernel) rfl rfl (Nat.le_of_ble_eq_true rfl) dX1_reachAll_23 (fun H locs hP _ hS => ?_)
        have hP : va_P D cls (List.flatten [(wX1 cI cZ a0 u_3), (wX4 cI cZ a1 u1)]) H := by rw [hu_3]; exact hP
        refine lv_aload_n hx hb dX1_reachAll_26 rfl (lv_at hl 0 rfl) ?_
        refine lv_iconst (v := 0) hx hb dX1_reachAll_27 (by decide) ?_
        obtain ⟨z_4, hz_4, hf⟩ := bn_some hf
        refine cWVv (As := [.int 0]) (rest := []) ⟨hx, hb, hml, hown, hts⟩ (c_X1_reach l D cI cZ cJ cT a0 H.size u_3 0 z_4 hz_4) (cwV 1 hts gX1_reachAll_X1_reach rfl rfl rfl (by decide +kernel) ⟨Nat.le_of_ble_eq_true rfl, Nat.le_of_ble_eq_true rfl⟩) (fl_sub hP 0 rfl) hK (fl_subD (hDD u_3 u1) 0 rfl) hS (fl_free (hDD u_3 u1) hS hA 0 rfl) (va_recv hK (fl_sub hP 0 rfl) (ci := 1) (q0 := 0) rfl rfl) rfl rfl hl.1 (Nat.le_of_ble_eq_true rfl) dX1_reachAll_28 ⟨Nat.le_of_ble_eq_true rfl, Nat.le_of_ble_eq_true rfl⟩ (fun H1 locs hP1 hk1 hS => ?_)
        have hP : va_P D cls (List.flatten [(wX1 cI cZ a0 z_4), (wX4 cI cZ a1 u1)]) H1 := fl_join hP (hDD u_3 u1) 0 rfl hk1 hP1
        clear hP1 hk1
        generalize H1 = H at hP hS ⊢
        refine lv_iconst (v := 0) hx hb dX1_reachAll_31 (by decide) ?_
        refine lv_istore_n (lv' := [(2, .int 0), (0, .ref (a0 0)), (1, .ref (a1 0))]) hx hb dX1_reachAll_32 rfl hl (by decide) rfl (fun ls hl => ?_)
        obtain ⟨G33_5, hG33_5, hf⟩ := qj2_some hf
        have j33_5 : ∀ (n : Nat) (y33_5_2 : Int32) (u33_5_0 : S1) (H : Heap) (locs : List Loc) (ls : Array Slot), ql2 G33_5 n y33_5_2 u33_5_0 = some o → va_P D cls (List.flatten [(wX1 cI cZ a0 u33_5_0), (wX4 cI cZ a1 u1)]) H → va_S A s.heap H locs → lv_has ls 5 [(0, .ref (a0 0)), (1, .ref (a1 0)), (2, .int y33_5_2)] → W p l e (headSpec wsX1_reachAll rmX1_reachAll).room s m args below meth c H locs 0 0 Q (F0 m 33 ls []) := by
          intro n
          induction n with
          | zero => intro y33_5_2 u33_5_0 H locs ls hf hP hS hl; exact (ql2_z hf).elim
          | succ n ih33_5 =>
            intro y33_5_2 u33_5_0 H locs ls hf hP hS hl
            have hf := ql2_s hG33_5 hf
            obtain ⟨r33_5, hr33_5⟩ : ∃ z, z = ql2 G33_5 n := ⟨_, rfl⟩
            rw [← hr33_5] at hf ih33_5
            refine lv_iload_n hx hb dX1_reachAll_33 rfl (lv_at hl 2 rfl) ?_
            refine lv_aload_n hx hb dX1_reachAll_34 rfl (lv_at hl 0 rfl) ?_
            refine va_get (D := D) (ci := 1) (v := .int (u33_5_0 3 0)) (C := RX1) (T := TX1) (N := 4) hx hb hts i1 hown hK (fl_sub hP 0 rfl) 0 rfl rfl 3 (by decide) hk22 (fun _ h9 => h9) rfl dX1_reachAll_35 ?_
            obtain ⟨k95_6, hk95_6, hf⟩ := jn_some hf
            have j95_6 : ∀ (H : Heap) (locs : List Loc) (ls : Array Slot), k95_6 = some o → va_P D cls (List.flatten [(wX1 cI cZ a0 u33_5_0), (wX4 cI cZ a1 u1)]) H → va_S A s.heap H locs → lv_has ls 5 [] → W p l e (headSpec wsX1_reachAll rmX1_reachAll).room s m args below meth c H locs 0 0 Q (F0 m 95 ls []) := by
              intro H locs ls hf hP hS hl
              have hf := qa0 hk95_6 hf
              have eo := Option.some.inj hf
              have hP : va_P D cls (List.flatten [(wX1 cI cZ a0 o), (wX4 cI cZ a1 u1)]) H := by rw [← eo]; exact hP
              rw [hQ]
              exact W.vret hx hb hr (fun t ht hW => ⟨⟨(), rfl, trivial, P_at ht hP⟩, hS.F ht⟩) hS.2.2 dX1_reachAll_95 hlocks
            refine lv_icmp_ge (tgt := 95) hx hb dX1_reachAll_38 (by decide) (fun c_7 => ?_) (fun c_7 => ?_)
            · have hf := ite_t hf c_7
              exact j95_6 _ _ _ hf hP hS (lv_sub hl [] rfl)
            · have hf := ite_f hf c_7
              refine lv_iload_n hx hb dX1_reachAll_41 rfl (lv_at hl 2 rfl) ?_
              refine lv_bipush (v := 32) hx hb dX1_reachAll_42 (by decide) ?_
              refine lv_icmp_ge (tgt := 95) hx hb dX1_reachAll_44 (by decide) (fun c_8 => ?_) (fun c_8 => ?_)
              · have hf := ite_t hf c_8
                exact j95_6 _ _ _ hf hP hS (lv_sub hl [] rfl)
              · have hf := ite_f hf c_8
                refine lv_aload_n hx hb dX1_reachAll_47 rfl (lv_at hl 1 rfl) ?_
                refine lv_aload_n hx hb dX1_reachAll_48 rfl (lv_at hl 0 rfl) ?_
                refine va_get (D := D) (ci := 1) (v := .ref (a0 3)) (C := RX1) (T := TX1) (N := 4) hx hb hts i1 hown hK (fl_sub hP 0 rfl) 0 rfl rfl 2 (by decide) hk18 (fun _ h9 => h9) rfl dX1_reachAll_49 ?_
                refine lv_iload_n hx hb dX1_reachAll_52 rfl (lv_at hl 2 rfl) ?_
                obtain ⟨hi, hf⟩ := chk_some hf
                refine va_iald hx hb hK (fl_sub hP 0 rfl) 3 0 rfl rfl (inb_in hi) dX1_reachAll_53 ?_
                obtain ⟨z_9, hz_9, hf⟩ := bn_some hf
                refine cRV (As := [.int (u33_5_0 2 (y33_5_2).toNatClampNeg)]) (rest := []) ⟨hx, hb, hml, hown, hts⟩ (c_X4_sizeOf l D cI cZ cJ cT a1 u1 (u33_5_0 2 (y33_5_2).toNatClampNeg) z_9 hz_9) (cwV 1 hts gX1_reachAll_X4_sizeOf rfl rfl rfl (by decide +kernel) ⟨Nat.le_of_ble_eq_true rfl, Nat.le_of_ble_eq_true rfl⟩) (fl_sub hP 1 rfl) hK (va_recv hK (fl_sub hP 1 rfl) (ci := 4) (q0 := 0) rfl rfl) rfl rfl hl.1 (Nat.le_of_ble_eq_true rfl) dX1_reachAll_54 ⟨Nat.le_of_ble_eq_true rfl, Nat.le_of_ble_eq_true rfl⟩ ?_
                refine lv_istore_n (lv' := [(3, .int z_9), (0, .ref (a0 0)), (1, .ref (a1 0)), (2, .int y33_5_2)]) hx hb dX1_reachAll_57 rfl hl (by decide) rfl (fun ls hl => ?_)
                refine lv_iconst (v := 0) hx hb dX1_reachAll_58 (by decide) ?_
                refine lv_istore (lv' := [(4, .int 0), (3, .int z_9), (0, .ref (a0 0)), (1, .ref (a1 0)), (2, .int y33_5_2)]) hx hb dX1_reachAll_59 hl (by decide) rfl (fun ls hl => ?_)
                obtain ⟨G61_10, hG61_10, hf⟩ := qj4_some hf
                have j61_10 : ∀ (n : Nat) (y61_10_2 : Int32) (y61_10_3 : Int32) (y61_10_4 : Int32) (u61_10_0 : S1) (H : Heap) (locs : List Loc) (ls : Array Slot), ql4 G61_10 n y61_10_2 y61_10_3 y61_10_4 u61_10_0 = some o → va_P D cls (List.flatten [(wX1 cI cZ a0 u61_10_0), (wX4 cI cZ a1 u1)]) H → va_S A s.heap H locs → lv_has ls 5 [(0, .ref (a0 0)), (1, .ref (a1 0)), (2, .int y61_10_2), (3, .int y61_10_3), (4, .int y61_10_4)] → W p l e (headSpec wsX1_reachAll rmX1_reachAll).room s m args below meth c H locs 0 0 Q (F0 m 61 ls []) := by
                  intro n
                  induction n with
                  | zero => intro y61_10_2 y61_10_3 y61_10_4 u61_10_0 H locs ls hf hP hS hl; exact (ql4_z hf).elim
                  | succ n ih61_10 =>
                    intro y61_10_2 y61_10_3 y61_10_4 u61_10_0 H locs ls hf hP hS hl
                    have hf := ql4_s hG61_10 hf
                    obtain ⟨r61_10, hr61_10⟩ : ∃ z, z = ql4 G61_10 n := ⟨_, rfl⟩
                    rw [← hr61_10] at hf ih61_10
                    refine lv_iload hx hb dX1_reachAll_61 (lv_at hl 4 rfl) ?_
                    refine lv_iload_n hx hb dX1_reachAll_63 rfl (lv_at hl 3 rfl) ?_
                    refine lv_icmp_ge (tgt := 89) hx hb dX1_reachAll_64 (by decide) (fun c_11 => ?_) (fun c_11 => ?_)
                    · have hf := ite_t hf c_11
                      refine lv_iinc (v := y61_10_2 + 1) (lv' := [(2, .int (y61_10_2 + 1)), (0, .ref (a0 0)), (1, .ref (a1 0)), (3, .int y61_10_3), (4, .int y61_10_4)]) hx hb dX1_reachAll_89 hl (k := 2) rfl rfl (by decide) rfl (fun ls hl => ?_)
                      refine lv_goto (tgt := 33) hx hb dX1_reachAll_92 (by decide) ?_
                      exact ih33_5 _ _ _ _ _ hf hP hS (lv_sub hl [1, 2, 0] rfl)
                    · have hf := ite_f hf c_11
                      refine lv_aload_n hx hb dX1_reachAll_67 rfl (lv_at hl 0 rfl) ?_
                      refine lv_aload_n hx hb dX1_reachAll_68 rfl (lv_at hl 1 rfl) ?_
                      refine lv_aload_n hx hb dX1_reachAll_69 rfl (lv_at hl 0 rfl) ?_
                      refine va_get (D := D) (ci := 1) (v := .ref (a0 3)) (C := RX1) (T := TX1) (N := 4) hx hb hts i1 hown hK (fl_sub hP 0 rfl) 0 rfl rfl 2 (by decide) hk18 (fun _ h9 => h9) rfl dX1_reachAll_70 ?_
                      refine lv_iload_n hx hb dX1_reachAll_73 rfl (lv_at hl 2 rfl) ?_
                      obtain ⟨hi, hf⟩ := chk_some hf
                      refine va_iald hx hb hK (fl_sub hP 0 rfl) 3 0 rfl rfl (inb_in hi) dX1_reachAll_74 ?_
                      refine lv_iload hx hb dX1_reachAll_75 (lv_at hl 4 rfl) ?_
                      obtain ⟨z_12, hz_12, hf⟩ := bn_some hf
                      refine cRV (As := [.int (u61_10_0 2 (y61_10_2).toNatClampNeg), .int y61_10_4]) (rest := [.ref (a0 0)]) ⟨hx, hb, hml, hown, hts⟩ (c_X4_entryThing l D cI cZ cJ cT a1 u1 (u61_10_0 2 (y61_10_2).toNatClampNeg) y61_10_4 z_12 hz_12) (cwV 2 hts gX1_reachAll_X4_entryThing rfl rfl rfl (by decide +kernel) ⟨Nat.le_of_ble_eq_true rfl, Nat.le_of_ble_eq_true rfl⟩) (fl_sub hP 1 rfl) hK (va_recv hK (fl_sub hP 1 rfl) (ci := 4) (q0 := 0) rfl rfl) rfl rfl hl.1 (Nat.le_of_ble_eq_true rfl) dX1_reachAll_77 ⟨Nat.le_of_ble_eq_true rfl, Nat.le_of_ble_eq_true rfl⟩ ?_
                      obtain ⟨z_13, hz_13, hf⟩ := bn_some hf
                      refine cWVv (As := [.int z_12]) (rest := []) ⟨hx, hb, hml, hown, hts⟩ (c_X1_reach l D cI cZ cJ cT a0 H.size u61_10_0 z_12 z_13 hz_13) (cwV 1 hts gX1_reachAll_X1_reach rfl rfl rfl (by decide +kernel) ⟨Nat.le_of_ble_eq_true rfl, Nat.le_of_ble_eq_true rfl⟩) (fl_sub hP 0 rfl) hK (fl_subD (hDD u61_10_0 u1) 0 rfl) hS (fl_free (hDD u61_10_0 u1) hS hA 0 rfl) (va_recv hK (fl_sub hP 0 rfl) (ci := 1) (q0 := 0) rfl rfl) rfl rfl hl.1 (Nat.le_of_ble_eq_true rfl) dX1_reachAll_80 ⟨Nat.le_of_ble_eq_true rfl, Nat.le_of_ble_eq_true rfl⟩ (fun H1 locs hP1 hk1 hS => ?_)
                      have hP : va_P D cls (List.flatten [(wX1 cI cZ a0 z_13), (wX4 cI cZ a1 u1)]) H1 := fl_join hP (hDD u61_10_0 u1) 0 rfl hk1 hP1
                      clear hP1 hk1
                      generalize H1 = H at hP hS ⊢
                      refine lv_iinc (v := y61_10_4 + 1) (lv' := [(4, .int (y61_10_4 + 1)), (0, .ref (a0 0)), (1, .ref (a1 0)), (2, .int y61_10_2), (3, .int y61_10_3)]) hx hb dX1_reachAll_83 hl (k := 4) rfl rfl (by decide) rfl (fun ls hl => ?_)
                      refine lv_goto (tgt := 61) hx hb dX1_reachAll_86 (by decide) ?_
                      exact ih61_10 _ _ _ _ _ _ _ hf hP hS (lv_sub hl [1, 2, 3, 4, 0] rfl)
                exact j61_10 4096 _ _ _ _ _ _ _ hf hP hS (lv_sub hl [2, 3, 4, 1, 0] rfl)
        exact j33_5 4096 _ _ _ _ _ hf hP hS (lv_sub hl [1, 2, 0] rfl)
      · have hf := ite_f hf c_2
        refine lv_aload_n hx hb dX1_reachAll_8 rfl (lv_at hl 0 rfl) ?_
        refine va_get (D := D) (ci := 1) (v := .ref (a0 2)) (C := RX1) (T := TX1) (N := 4) hx hb hts i1 hown hK (fl_sub hP 0 rfl) 0 rfl rfl 1 (by decide) hk15 (fun _ h9 => h9) rfl dX1_reachAll_9 ?_
        refine lv_iload_n hx hb dX1_reachAll_12 rfl (lv_at hl 2 rfl) ?_
        refine lv_iconst (v := 0) hx hb dX1_reachAll_13 (by decide) ?_
        obtain ⟨hi, hf⟩ := chk_some hf
        obtain ⟨u_14, hu_14, hf⟩ := bv_some hf
        refine va_zast hx hb hK hP (hDD u2_1_0 u1) hS 2 1 rfl rfl (inb_in hi) dX1_reachAll_14 (fun H locs hP _ hS => ?_)
        have hP : va_P D cls (List.flatten [(wX1 cI cZ a0 u_14), (wX4 cI cZ a1 u1)]) H := by rw [hu_14]; exact hP
        refine lv_iinc (v := y2_1_2 + 1) (lv' := [(2, .int (y2_1_2 + 1)), (0, .ref (a0 0)), (1, .ref (a1 0))]) hx hb dX1_reachAll_15 hl (k := 2) rfl rfl (by decide) rfl (fun ls hl => ?_)
        refine lv_goto (tgt := 2) hx hb dX1_reachAll_18 (by decide) ?_
        exact ih2_1 _ _ _ _ _ hf hP hS (lv_sub hl [1, 2, 0] rfl)
  exact j2_1 4096 _ _ _ _ _ hf hP hS (lv_sub hl [1, 2, 0] rfl)
set_option maxRecDepth 20000 in
theorem ggX1_mendThings_X0_forgetThing : GoodIn wsX1_mendThings wsX0_forgetThing := goodIn_r _ [60, 61, 62, 63, 59, 64, 65, 66, 67, 68, 69, 70, 71, 72, 73, 74, 75, 76, 77, 78, 95, 96, 97] (by decide +kernel) (by decide +kernel)
set_option maxRecDepth 20000 in
theorem gX1_mendThings_X0_forgetThing : GoodIn wsX1_mendThings (wsV RX1 57 RX0 yX0_forgetThing wsX0_forgetThing) := goodIn_app (goodIn_of _ (by decide +kernel)) ggX1_mendThings_X0_forgetThing
set_option maxRecDepth 20000 in
theorem ggX1_mendThings_X1_reachAll : GoodIn wsX1_mendThings wsX1_reachAll := goodIn_r _ [6, 1, 7, 8, 9, 10, 11, 5, 12, 13, 14, 15, 16, 17, 18, 19, 20, 21, 22, 23, 24, 25, 26, 27, 28, 29, 30, 79, 80, 81, 82, 83, 84, 85, 86, 87, 88, 89, 90, 91, 92, 93, 94] (by decide +kernel) (by decide +kernel)
set_option maxRecDepth 20000 in
theorem gX1_mendThings_X1_reachAll : GoodIn wsX1_mendThings (wsV RX1 46 RX1 yX1_reachAll wsX1_reachAll) := goodIn_app (goodIn_of _ (by decide +kernel)) ggX1_mendThings_X1_reachAll
set_option maxRecDepth 20000 in
theorem ggX1_mendThings_X4_clearThing : GoodIn wsX1_mendThings wsX4_clearThing := goodIn_r _ [39, 35, 40, 18, 19, 20, 16, 21, 41, 42, 43, 44, 45, 46, 47, 48, 49, 50, 51, 52, 53, 54, 55, 83, 84, 85, 86, 87, 88, 89, 90, 91, 92, 93, 94] (by decide +kernel) (by decide +kernel)
set_option maxRecDepth 20000 in
theorem gX1_mendThings_X4_clearThing : GoodIn wsX1_mendThings (wsV RX1 53 RX4 yX4_clearThing wsX4_clearThing) := goodIn_app (goodIn_of _ (by decide +kernel)) ggX1_mendThings_X4_clearThing
set_option maxRecDepth 20000 in
theorem ggX1_mendThings_X4_isThing : GoodIn wsX1_mendThings wsX4_isThing := goodIn_r _ [34, 35, 19, 20, 16, 21, 83, 84, 85, 86, 87, 88, 89, 90, 91, 92, 93, 94] (by decide +kernel) (by decide +kernel)
set_option maxRecDepth 20000 in
theorem gX1_mendThings_X4_isThing : GoodIn wsX1_mendThings (wsV RX1 50 RX4 yX4_isThing wsX4_isThing) := goodIn_app (goodIn_of _ (by decide +kernel)) ggX1_mendThings_X4_isThing
theorem dX1_mendThings_0 : decode cX1_mendThings 0 = .ok (.aload_n 0, 1) := by decide +kernel
theorem dX1_mendThings_1 : decode cX1_mendThings 1 = .ok (.aload_n 1, 1) := by decide +kernel
theorem dX1_mendThings_2 : decode cX1_mendThings 2 = .ok (.invokevirtual 46, 3) := by decide +kernel
theorem dX1_mendThings_5 : decode cX1_mendThings 5 = .ok (.iconst 0, 1) := by decide +kernel
theorem dX1_mendThings_6 : decode cX1_mendThings 6 = .ok (.istore_n 3, 1) := by decide +kernel
theorem dX1_mendThings_7 : decode cX1_mendThings 7 = .ok (.iconst 0, 1) := by decide +kernel
theorem dX1_mendThings_8 : decode cX1_mendThings 8 = .ok (.istore 4, 2) := by decide +kernel
theorem dX1_mendThings_10 : decode cX1_mendThings 10 = .ok (.iload 4, 2) := by decide +kernel
theorem dX1_mendThings_12 : decode cX1_mendThings 12 = .ok (.bipush 32, 2) := by decide +kernel
theorem dX1_mendThings_14 : decode cX1_mendThings 14 = .ok (.if_icmp .ge 43, 3) := by decide +kernel
theorem dX1_mendThings_17 : decode cX1_mendThings 17 = .ok (.aload_n 1, 1) := by decide +kernel
theorem dX1_mendThings_18 : decode cX1_mendThings 18 = .ok (.iload 4, 2) := by decide +kernel
theorem dX1_mendThings_20 : decode cX1_mendThings 20 = .ok (.invokevirtual 50, 3) := by decide +kernel
theorem dX1_mendThings_23 : decode cX1_mendThings 23 = .ok (.ifCond .eq 28, 3) := by decide +kernel
theorem dX1_mendThings_26 : decode cX1_mendThings 26 = .ok (.aload_n 0, 1) := by decide +kernel
theorem dX1_mendThings_27 : decode cX1_mendThings 27 = .ok (.getfield 15, 3) := by decide +kernel
theorem dX1_mendThings_30 : decode cX1_mendThings 30 = .ok (.iload 4, 2) := by decide +kernel
theorem dX1_mendThings_32 : decode cX1_mendThings 32 = .ok (.baload, 1) := by decide +kernel
theorem dX1_mendThings_33 : decode cX1_mendThings 33 = .ok (.ifCond .ne 18, 3) := by decide +kernel
theorem dX1_mendThings_36 : decode cX1_mendThings 36 = .ok (.aload_n 1, 1) := by decide +kernel
theorem dX1_mendThings_37 : decode cX1_mendThings 37 = .ok (.iload 4, 2) := by decide +kernel
theorem dX1_mendThings_39 : decode cX1_mendThings 39 = .ok (.invokevirtual 53, 3) := by decide +kernel
theorem dX1_mendThings_42 : decode cX1_mendThings 42 = .ok (.aload_n 2, 1) := by decide +kernel
theorem dX1_mendThings_43 : decode cX1_mendThings 43 = .ok (.iload 4, 2) := by decide +kernel
theorem dX1_mendThings_45 : decode cX1_mendThings 45 = .ok (.invokevirtual 57, 3) := by decide +kernel
theorem dX1_mendThings_48 : decode cX1_mendThings 48 = .ok (.iinc 3 1, 3) := by decide +kernel
theorem dX1_mendThings_51 : decode cX1_mendThings 51 = .ok (.iinc 4 1, 3) := by decide +kernel
theorem dX1_mendThings_54 : decode cX1_mendThings 54 = .ok (.goto (-44), 3) := by decide +kernel
theorem dX1_mendThings_57 : decode cX1_mendThings 57 = .ok (.iload_n 3, 1) := by decide +kernel
theorem dX1_mendThings_58 : decode cX1_mendThings 58 = .ok (.ireturn, 1) := by decide +kernel
def f_X1_mendThings (u0 : S1) (u1 : S1) (u2 : S1) : Option (Int32 × S1 × S1 × S1) := bn (f_X1_reachAll u0 u1) (fun z_1 => qj5 (fun (r10_2 : Int32 → Int32 → S1 → S1 → S1 → Option (Int32 × S1 × S1 × S1)) (y10_2_3 : Int32) (y10_2_4 : Int32) (u10_2_0 : S1) (u10_2_1 : S1) (u10_2_2 : S1) => if 32 ≤ y10_2_4 then some (y10_2_3, u10_2_0, u10_2_1, u10_2_2) else bn (f_X4_isThing u10_2_1 y10_2_4) (fun z_4 => jn (fun (y51_5_3 : Int32) (u51_5_0 : S1) (u51_5_1 : S1) (u51_5_2 : S1) => r10_2 y51_5_3 (y10_2_4 + 1) u51_5_0 u51_5_1 u51_5_2) (fun k51_5 => if z_4 = 0 then k51_5 y10_2_3 u10_2_0 u10_2_1 u10_2_2 else chk (inb y10_2_4 32) (if (u10_2_0 1 (y10_2_4).toNatClampNeg) = 0 then bn (f_X4_clearThing u10_2_1 y10_2_4) (fun z_8 => bn (f_X0_forgetThing u10_2_2 y10_2_4) (fun z_9 => k51_5 (y10_2_3 + 1) u10_2_0 z_8 z_9)) else k51_5 y10_2_3 u10_2_0 u10_2_1 u10_2_2)))) (fun k10_2 => k10_2 0 0 z_1 u1 u2))
def rmX1_mendThings : Room := { frames := 4, cells := 0, slots := 0, locals := 89 }
set_option maxHeartbeats 4000000 in
set_option maxRecDepth 100000 in
theorem c_X1_mendThings (l : Launch) (D : va_G) (cI cZ cJ cT : ClassId) (a0 : Nat → Nat) (a1 : Nat → Nat) (a2 : Nat → Nat) (sz : Nat) (u0 : S1) (u1 : S1) (u2 : S1) (o : Int32 × S1 × S1 × S1) (hf : f_X1_mendThings u0 u1 u2 = some o) : Met l yX1_mendThings wsX1_mendThings rmX1_mendThings (va_Pc [.ref (a0 0), .ref (a1 0), .ref (a2 0)] (PW D cls (tys cI cZ cJ cT) ((List.flatten [(wX1 cI cZ a0 u0), (wX4 cI cZ a1 u1), (wX0 cI cZ a2 u2)])) sz)) (QWi D cls o.1 ((List.flatten [(wX1 cI cZ a0 o.2.1), (wX4 cI cZ a1 o.2.2.1), (wX0 cI cZ a2 o.2.2.2)])) (va_A ((List.flatten [(wX1 cI cZ a0 u0), (wX4 cI cZ a1 u1), (wX0 cI cZ a2 u2)])) sz)) 0 0 (va_A ((List.flatten [(wX1 cI cZ a0 u0), (wX4 cI cZ a1 u1), (wX0 cI cZ a2 u2)])) sz) := by
  refine Met.ofW (cc := cX1_mendThings) (maxL := 5) (ret := (some .int)) (by decide) rfl ?_
  intro p e s m args below meth c s₁ B hml hv
  obtain ⟨hav, hsz, hP, hK, hD0⟩ := hv
  have hx := B.exec
  have hb := B.bytes
  have hr := B.returns
  have hlocks := B.notSynchronized
  have hts := atoms_spec (ws := wsX1_mendThings) B.pre
  have hown : s.vm.findClass RX1 = some m.cls := findClass_of_methodNamed B.named
  have i1 : ∀ w ∈ wsX10, w ∈ wsX1_mendThings := fun w h => List.mem_cons_of_mem _ (List.mem_append_left _ (List.mem_append_left _ (List.mem_append_right _ h)))
  have hk15 := hts (.fieldLink RX1 15 "Inodery$Checker" "isReached" "[Z") (by decide +kernel)
  subst hsz
  have hD := hD0.self (sz := s.heap.size)
  generalize hAe : va_A ((List.flatten [(wX1 cI cZ a0 u0), (wX4 cI cZ a1 u1), (wX0 cI cZ a2 u2)])) s.heap.size = A at hD ⊢
  have hA : ∀ q : Nat, s.heap.size ≤ q → A q := fun q h => by rw [← hAe]; exact Or.inr h
  have hS : va_S A s.heap s.heap [] := va_S.rf
  have hDD : ∀ w0 w1 w2 : S1, va_D A ((List.flatten [(wX1 cI cZ a0 w0), (wX4 cI cZ a1 w1), (wX0 cI cZ a2 w2)])) := fun _ _ _ => D_same (w := (List.flatten [(wX1 cI cZ a0 u0), (wX4 cI cZ a1 u1), (wX0 cI cZ a2 u2)])) rfl hD
  refine Wq (fun Q hQ => ?_)
  refine W_entry hav (Nat.le_of_ble_eq_true rfl) (fun ls hl => ?_)
  have hl : lv_has ls 5 [(0, .ref (a0 0)), (1, .ref (a1 0)), (2, .ref (a2 0))] := hl
  unfold f_X1_mendThings at hf
  refine W_heap hP hS (fun H locs hP hS => ?_)
  refine lv_aload_n hx hb dX1_mendThings_0 rfl (lv_at hl 0 rfl) ?_
  refine lv_aload_n hx hb dX1_mendThings_1 rfl (lv_at hl 1 rfl) ?_
  obtain ⟨z_1, hz_1, hf⟩ := bn_some hf
  refine cWVv (As := [.ref (a1 0)]) (rest := []) ⟨hx, hb, hml, hown, hts⟩ (c_X1_reachAll l D cI cZ cJ cT a0 a1 H.size u0 u1 z_1 hz_1) (cwV 1 hts gX1_mendThings_X1_reachAll rfl rfl rfl (by decide +kernel) ⟨Nat.le_of_ble_eq_true rfl, Nat.le_of_ble_eq_true rfl⟩) (fl_subM hP [0, 1] rfl) hK (fl_subDM (hDD u0 u1 u2) [0, 1] rfl rfl) hS (own_free (fl_subDM (hDD u0 u1 u2) [0, 1] rfl rfl) hS hA) (va_recv hK (fl_sub hP 0 rfl) (ci := 1) (q0 := 0) rfl rfl) rfl rfl hl.1 (Nat.le_of_ble_eq_true rfl) dX1_mendThings_2 ⟨Nat.le_of_ble_eq_true rfl, Nat.le_of_ble_eq_true rfl⟩ (fun H1 locs hP1 hk1 hS => ?_)
  have hP : va_P D cls (List.flatten [(wX1 cI cZ a0 z_1), (wX4 cI cZ a1 u1), (wX0 cI cZ a2 u2)]) H1 := fl_joinM hP (hDD u0 u1 u2) [0, 1] rfl rfl hk1 hP1
  clear hP1 hk1
  generalize H1 = H at hP hS ⊢
  refine lv_iconst (v := 0) hx hb dX1_mendThings_5 (by decide) ?_
  refine lv_istore_n (lv' := [(3, .int 0), (0, .ref (a0 0)), (1, .ref (a1 0)), (2, .ref (a2 0))]) hx hb dX1_mendThings_6 rfl hl (by decide) rfl (fun ls hl => ?_)
  refine lv_iconst (v := 0) hx hb dX1_mendThings_7 (by decide) ?_
  refine lv_istore (lv' := [(4, .int 0), (3, .int 0), (0, .ref (a0 0)), (1, .ref (a1 0)), (2, .ref (a2 0))]) hx hb dX1_mendThings_8 hl (by decide) rfl (fun ls hl => ?_)
  obtain ⟨G10_2, hG10_2, hf⟩ := qj5_some hf
  have j10_2 : ∀ (n : Nat) (y10_2_3 : Int32) (y10_2_4 : Int32) (u10_2_0 : S1) (u10_2_1 : S1) (u10_2_2 : S1) (H : Heap) (locs : List Loc) (ls : Array Slot), ql5 G10_2 n y10_2_3 y10_2_4 u10_2_0 u10_2_1 u10_2_2 = some o → va_P D cls (List.flatten [(wX1 cI cZ a0 u10_2_0), (wX4 cI cZ a1 u10_2_1), (wX0 cI cZ a2 u10_2_2)]) H → va_S A s.heap H locs → lv_has ls 5 [(0, .ref (a0 0)), (1, .ref (a1 0)), (2, .ref (a2 0)), (3, .int y10_2_3), (4, .int y10_2_4)] → W p l e (headSpec wsX1_mendThings rmX1_mendThings).room s m args below meth c H locs 0 0 Q (F0 m 10 ls []) := by
    intro n
    induction n with
    | zero => intro y10_2_3 y10_2_4 u10_2_0 u10_2_1 u10_2_2 H locs ls hf hP hS hl; exact (ql5_z hf).elim
    | succ n ih10_2 =>
      intro y10_2_3 y10_2_4 u10_2_0 u10_2_1 u10_2_2 H locs ls hf hP hS hl
      have hf := ql5_s hG10_2 hf
      obtain ⟨r10_2, hr10_2⟩ : ∃ z, z = ql5 G10_2 n := ⟨_, rfl⟩
      rw [← hr10_2] at hf ih10_2
      refine lv_iload hx hb dX1_mendThings_10 (lv_at hl 4 rfl) ?_
      refine lv_bipush (v := 32) hx hb dX1_mendThings_12 (by decide) ?_
      refine lv_icmp_ge (tgt := 57) hx hb dX1_mendThings_14 (by decide) (fun c_3 => ?_) (fun c_3 => ?_)
      · have hf := ite_t hf c_3
        refine lv_iload_n hx hb dX1_mendThings_57 rfl (lv_at hl 3 rfl) ?_
        have eo := Option.some.inj hf
        have hP : va_P D cls (List.flatten [(wX1 cI cZ a0 o.2.1), (wX4 cI cZ a1 o.2.2.1), (wX0 cI cZ a2 o.2.2.2)]) H := by rw [← eo]; exact hP
        rw [hQ]
        exact W.iret hx hb hr (fun t ht hW => ⟨⟨_, (), rfl, congrArg Prod.fst eo, P_at ht hP⟩, hS.F ht⟩) hS.2.2 dX1_mendThings_58 hlocks
      · have hf := ite_f hf c_3
        refine lv_aload_n hx hb dX1_mendThings_17 rfl (lv_at hl 1 rfl) ?_
        refine lv_iload hx hb dX1_mendThings_18 (lv_at hl 4 rfl) ?_
        obtain ⟨z_4, hz_4, hf⟩ := bn_some hf
        refine cRV (As := [.int y10_2_4]) (rest := []) ⟨hx, hb, hml, hown, hts⟩ (c_X4_isThing l D cI cZ cJ cT a1 u10_2_1 y10_2_4 z_4 hz_4) (cwV 1 hts gX1_mendThings_X4_isThing rfl rfl rfl (by decide +kernel) ⟨Nat.le_of_ble_eq_true rfl, Nat.le_of_ble_eq_true rfl⟩) (fl_sub hP 1 rfl) hK (va_recv hK (fl_sub hP 1 rfl) (ci := 4) (q0 := 0) rfl rfl) rfl rfl hl.1 (Nat.le_of_ble_eq_true rfl) dX1_mendThings_20 ⟨Nat.le_of_ble_eq_true rfl, Nat.le_of_ble_eq_true rfl⟩ ?_
        obtain ⟨k51_5, hk51_5, hf⟩ := jn_some hf
        have j51_5 : ∀ (y51_5_3 : Int32) (u51_5_0 : S1) (u51_5_1 : S1) (u51_5_2 : S1) (H : Heap) (locs : List Loc) (ls : Array Slot), k51_5 y51_5_3 u51_5_0 u51_5_1 u51_5_2 = some o → va_P D cls (List.flatten [(wX1 cI cZ a0 u51_5_0), (wX4 cI cZ a1 u51_5_1), (wX0 cI cZ a2 u51_5_2)]) H → va_S A s.heap H locs → lv_has ls 5 [(0, .ref (a0 0)), (1, .ref (a1 0)), (2, .ref (a2 0)), (3, .int y51_5_3), (4, .int y10_2_4)] → W p l e (headSpec wsX1_mendThings rmX1_mendThings).room s m args below meth c H locs 0 0 Q (F0 m 51 ls []) := by
          intro y51_5_3 u51_5_0 u51_5_1 u51_5_2 H locs ls hf hP hS hl
          have hf := qa4 hk51_5 hf
          refine lv_iinc (v := y10_2_4 + 1) (lv' := [(4, .int (y10_2_4 + 1)), (0, .ref (a0 0)), (1, .ref (a1 0)), (2, .ref (a2 0)), (3, .int y51_5_3)]) hx hb dX1_mendThings_51 hl (k := 4) rfl rfl (by decide) rfl (fun ls hl => ?_)
          refine lv_goto (tgt := 10) hx hb dX1_mendThings_54 (by decide) ?_
          exact ih10_2 _ _ _ _ _ _ _ _ hf hP hS (lv_sub hl [1, 2, 3, 4, 0] rfl)
        refine lv_if_eq (tgt := 51) hx hb dX1_mendThings_23 (by decide) (fun c_6 => ?_) (fun c_6 => ?_)
        · have hf := ite_t hf c_6
          exact j51_5 _ _ _ _ _ _ _ hf hP hS (lv_sub hl [0, 1, 2, 3, 4] rfl)
        · have hf := ite_f hf c_6
          refine lv_aload_n hx hb dX1_mendThings_26 rfl (lv_at hl 0 rfl) ?_
          refine va_get (D := D) (ci := 1) (v := .ref (a0 2)) (C := RX1) (T := TX1) (N := 4) hx hb hts i1 hown hK (fl_sub hP 0 rfl) 0 rfl rfl 1 (by decide) hk15 (fun _ h9 => h9) rfl dX1_mendThings_27 ?_
          refine lv_iload hx hb dX1_mendThings_30 (lv_at hl 4 rfl) ?_
          obtain ⟨hi, hf⟩ := chk_some hf
          refine va_zald hx hb hK (fl_sub hP 0 rfl) 2 1 rfl rfl (inb_in hi) dX1_mendThings_32 ?_
          refine lv_if_ne (tgt := 51) hx hb dX1_mendThings_33 (by decide) (fun c_7 => ?_) (fun c_7 => ?_)
          · have hf := ite_f hf c_7
            exact j51_5 _ _ _ _ _ _ _ hf hP hS (lv_sub hl [0, 1, 2, 3, 4] rfl)
          · have hf := ite_t hf c_7
            refine lv_aload_n hx hb dX1_mendThings_36 rfl (lv_at hl 1 rfl) ?_
            refine lv_iload hx hb dX1_mendThings_37 (lv_at hl 4 rfl) ?_
            obtain ⟨z_8, hz_8, hf⟩ := bn_some hf
            refine cWVv (As := [.int y10_2_4]) (rest := []) ⟨hx, hb, hml, hown, hts⟩ (c_X4_clearThing l D cI cZ cJ cT a1 H.size u10_2_1 y10_2_4 z_8 hz_8) (cwV 1 hts gX1_mendThings_X4_clearThing rfl rfl rfl (by decide +kernel) ⟨Nat.le_of_ble_eq_true rfl, Nat.le_of_ble_eq_true rfl⟩) (fl_sub hP 1 rfl) hK (fl_subD (hDD u10_2_0 u10_2_1 u10_2_2) 1 rfl) hS (fl_free (hDD u10_2_0 u10_2_1 u10_2_2) hS hA 1 rfl) (va_recv hK (fl_sub hP 1 rfl) (ci := 4) (q0 := 0) rfl rfl) rfl rfl hl.1 (Nat.le_of_ble_eq_true rfl) dX1_mendThings_39 ⟨Nat.le_of_ble_eq_true rfl, Nat.le_of_ble_eq_true rfl⟩ (fun H1 locs hP1 hk1 hS => ?_)
            have hP : va_P D cls (List.flatten [(wX1 cI cZ a0 u10_2_0), (wX4 cI cZ a1 z_8), (wX0 cI cZ a2 u10_2_2)]) H1 := fl_join hP (hDD u10_2_0 u10_2_1 u10_2_2) 1 rfl hk1 hP1
            clear hP1 hk1
            generalize H1 = H at hP hS ⊢
            refine lv_aload_n hx hb dX1_mendThings_42 rfl (lv_at hl 2 rfl) ?_
            refine lv_iload hx hb dX1_mendThings_43 (lv_at hl 4 rfl) ?_
            obtain ⟨z_9, hz_9, hf⟩ := bn_some hf
            refine cWVv (As := [.int y10_2_4]) (rest := []) ⟨hx, hb, hml, hown, hts⟩ (c_X0_forgetThing l D cI cZ cJ cT a2 H.size u10_2_2 y10_2_4 z_9 hz_9) (cwV 1 hts gX1_mendThings_X0_forgetThing rfl rfl rfl (by decide +kernel) ⟨Nat.le_of_ble_eq_true rfl, Nat.le_of_ble_eq_true rfl⟩) (fl_sub hP 2 rfl) hK (fl_subD (hDD u10_2_0 z_8 u10_2_2) 2 rfl) hS (fl_free (hDD u10_2_0 z_8 u10_2_2) hS hA 2 rfl) (va_recv hK (fl_sub hP 2 rfl) (ci := 0) (q0 := 0) rfl rfl) rfl rfl hl.1 (Nat.le_of_ble_eq_true rfl) dX1_mendThings_45 ⟨Nat.le_of_ble_eq_true rfl, Nat.le_of_ble_eq_true rfl⟩ (fun H1 locs hP1 hk1 hS => ?_)
            have hP : va_P D cls (List.flatten [(wX1 cI cZ a0 u10_2_0), (wX4 cI cZ a1 z_8), (wX0 cI cZ a2 z_9)]) H1 := fl_join hP (hDD u10_2_0 z_8 u10_2_2) 2 rfl hk1 hP1
            clear hP1 hk1
            generalize H1 = H at hP hS ⊢
            refine lv_iinc (v := y10_2_3 + 1) (lv' := [(3, .int (y10_2_3 + 1)), (0, .ref (a0 0)), (1, .ref (a1 0)), (2, .ref (a2 0)), (4, .int y10_2_4)]) hx hb dX1_mendThings_48 hl (k := 3) rfl rfl (by decide) rfl (fun ls hl => ?_)
            exact j51_5 _ _ _ _ _ _ _ hf hP hS (lv_sub hl [1, 2, 3, 0, 4] rfl)
  exact j10_2 4096 _ _ _ _ _ _ _ _ hf hP hS (lv_sub hl [2, 3, 4, 1, 0] rfl)
set_option maxRecDepth 20000 in
theorem ggX1_mendCounts_X4_countEntriesOf : GoodIn wsX1_mendCounts wsX4_countEntriesOf := goodIn_r _ [5, 6, 7, 8, 9, 4, 10, 11, 12, 13, 14, 15, 33, 34, 35, 36, 37, 38, 39, 40, 41, 42, 43, 44] (by decide +kernel) (by decide +kernel)
set_option maxRecDepth 20000 in
theorem gX1_mendCounts_X4_countEntriesOf : GoodIn wsX1_mendCounts (wsV RX1 70 RX4 yX4_countEntriesOf wsX4_countEntriesOf) := goodIn_app (goodIn_of _ (by decide +kernel)) ggX1_mendCounts_X4_countEntriesOf
set_option maxRecDepth 20000 in
theorem ggX1_mendCounts_X4_countOf : GoodIn wsX1_mendCounts wsX4_countOf := goodIn_r _ [27, 28, 21, 22, 4, 23, 33, 34, 35, 36, 37, 38, 39, 40, 41, 42, 43, 44] (by decide +kernel) (by decide +kernel)
set_option maxRecDepth 20000 in
theorem gX1_mendCounts_X4_countOf : GoodIn wsX1_mendCounts (wsV RX1 73 RX4 yX4_countOf wsX4_countOf) := goodIn_app (goodIn_of _ (by decide +kernel)) ggX1_mendCounts_X4_countOf
set_option maxRecDepth 20000 in
theorem ggX1_mendCounts_X4_isThing : GoodIn wsX1_mendCounts wsX4_isThing := goodIn_r _ [19, 20, 21, 22, 4, 23, 33, 34, 35, 36, 37, 38, 39, 40, 41, 42, 43, 44] (by decide +kernel) (by decide +kernel)
set_option maxRecDepth 20000 in
theorem gX1_mendCounts_X4_isThing : GoodIn wsX1_mendCounts (wsV RX1 50 RX4 yX4_isThing wsX4_isThing) := goodIn_app (goodIn_of _ (by decide +kernel)) ggX1_mendCounts_X4_isThing
set_option maxRecDepth 20000 in
theorem ggX1_mendCounts_X4_setCount : GoodIn wsX1_mendCounts wsX4_setCount := goodIn_r _ [32, 28, 21, 22, 4, 23, 33, 34, 35, 36, 37, 38, 39, 40, 41, 42, 43, 44] (by decide +kernel) (by decide +kernel)
set_option maxRecDepth 20000 in
theorem gX1_mendCounts_X4_setCount : GoodIn wsX1_mendCounts (wsV RX1 76 RX4 yX4_setCount wsX4_setCount) := goodIn_app (goodIn_of _ (by decide +kernel)) ggX1_mendCounts_X4_setCount
theorem dX1_mendCounts_0 : decode cX1_mendCounts 0 = .ok (.iconst 0, 1) := by decide +kernel
theorem dX1_mendCounts_1 : decode cX1_mendCounts 1 = .ok (.istore_n 2, 1) := by decide +kernel
theorem dX1_mendCounts_2 : decode cX1_mendCounts 2 = .ok (.iconst 0, 1) := by decide +kernel
theorem dX1_mendCounts_3 : decode cX1_mendCounts 3 = .ok (.istore_n 3, 1) := by decide +kernel
theorem dX1_mendCounts_4 : decode cX1_mendCounts 4 = .ok (.iload_n 3, 1) := by decide +kernel
theorem dX1_mendCounts_5 : decode cX1_mendCounts 5 = .ok (.bipush 32, 2) := by decide +kernel
theorem dX1_mendCounts_7 : decode cX1_mendCounts 7 = .ok (.if_icmp .ge 44, 3) := by decide +kernel
theorem dX1_mendCounts_10 : decode cX1_mendCounts 10 = .ok (.aload_n 1, 1) := by decide +kernel
theorem dX1_mendCounts_11 : decode cX1_mendCounts 11 = .ok (.iload_n 3, 1) := by decide +kernel
theorem dX1_mendCounts_12 : decode cX1_mendCounts 12 = .ok (.invokevirtual 70, 3) := by decide +kernel
theorem dX1_mendCounts_15 : decode cX1_mendCounts 15 = .ok (.istore 4, 2) := by decide +kernel
theorem dX1_mendCounts_17 : decode cX1_mendCounts 17 = .ok (.aload_n 1, 1) := by decide +kernel
theorem dX1_mendCounts_18 : decode cX1_mendCounts 18 = .ok (.iload_n 3, 1) := by decide +kernel
theorem dX1_mendCounts_19 : decode cX1_mendCounts 19 = .ok (.invokevirtual 50, 3) := by decide +kernel
theorem dX1_mendCounts_22 : decode cX1_mendCounts 22 = .ok (.ifCond .eq 23, 3) := by decide +kernel
theorem dX1_mendCounts_25 : decode cX1_mendCounts 25 = .ok (.aload_n 1, 1) := by decide +kernel
theorem dX1_mendCounts_26 : decode cX1_mendCounts 26 = .ok (.iload_n 3, 1) := by decide +kernel
theorem dX1_mendCounts_27 : decode cX1_mendCounts 27 = .ok (.invokevirtual 73, 3) := by decide +kernel
theorem dX1_mendCounts_30 : decode cX1_mendCounts 30 = .ok (.iload 4, 2) := by decide +kernel
theorem dX1_mendCounts_32 : decode cX1_mendCounts 32 = .ok (.if_icmp .eq 13, 3) := by decide +kernel
theorem dX1_mendCounts_35 : decode cX1_mendCounts 35 = .ok (.aload_n 1, 1) := by decide +kernel
theorem dX1_mendCounts_36 : decode cX1_mendCounts 36 = .ok (.iload_n 3, 1) := by decide +kernel
theorem dX1_mendCounts_37 : decode cX1_mendCounts 37 = .ok (.iload 4, 2) := by decide +kernel
theorem dX1_mendCounts_39 : decode cX1_mendCounts 39 = .ok (.invokevirtual 76, 3) := by decide +kernel
theorem dX1_mendCounts_42 : decode cX1_mendCounts 42 = .ok (.iinc 2 1, 3) := by decide +kernel
theorem dX1_mendCounts_45 : decode cX1_mendCounts 45 = .ok (.iinc 3 1, 3) := by decide +kernel
theorem dX1_mendCounts_48 : decode cX1_mendCounts 48 = .ok (.goto (-44), 3) := by decide +kernel
theorem dX1_mendCounts_51 : decode cX1_mendCounts 51 = .ok (.iload_n 2, 1) := by decide +kernel
theorem dX1_mendCounts_52 : decode cX1_mendCounts 52 = .ok (.ireturn, 1) := by decide +kernel
def f_X1_mendCounts (u0 : S1) (u1 : S1) : Option (Int32 × S1) := qj3 (fun (r4_1 : Int32 → Int32 → S1 → Option (Int32 × S1)) (y4_1_2 : Int32) (y4_1_3 : Int32) (u4_1_1 : S1) => if 32 ≤ y4_1_3 then some (y4_1_2, u4_1_1) else bn (f_X4_countEntriesOf u4_1_1 y4_1_3) (fun z_3 => bn (f_X4_isThing u4_1_1 y4_1_3) (fun z_4 => jn (fun (y45_5_2 : Int32) (u45_5_1 : S1) => r4_1 y45_5_2 (y4_1_3 + 1) u45_5_1) (fun k45_5 => if z_4 = 0 then k45_5 y4_1_2 u4_1_1 else bn (f_X4_countOf u4_1_1 y4_1_3) (fun z_7 => if z_7 = z_3 then k45_5 y4_1_2 u4_1_1 else bn (f_X4_setCount u4_1_1 y4_1_3 z_3) (fun z_9 => k45_5 (y4_1_2 + 1) z_9)))))) (fun k4_1 => k4_1 0 0 u1)
def rmX1_mendCounts : Room := { frames := 3, cells := 0, slots := 0, locals := 68 }
set_option maxHeartbeats 4000000 in
set_option maxRecDepth 100000 in
theorem c_X1_mendCounts (l : Launch) (D : va_G) (cI cZ cJ cT : ClassId) (a0 : Nat → Nat) (a1 : Nat → Nat) (sz : Nat) (u0 : S1) (u1 : S1) (o : Int32 × S1) (hf : f_X1_mendCounts u0 u1 = some o) : Met l yX1_mendCounts wsX1_mendCounts rmX1_mendCounts (va_Pc [.ref (a0 0), .ref (a1 0)] (PW D cls (tys cI cZ cJ cT) ((List.flatten [(wX1 cI cZ a0 u0), (wX4 cI cZ a1 u1)])) sz)) (QWi D cls o.1 ((List.flatten [(wX1 cI cZ a0 u0), (wX4 cI cZ a1 o.2)])) (va_A ((List.flatten [(wX1 cI cZ a0 u0), (wX4 cI cZ a1 u1)])) sz)) 0 0 (va_A ((List.flatten [(wX1 cI cZ a0 u0), (wX4 cI cZ a1 u1)])) sz) := by
  refine Met.ofW (cc := cX1_mendCounts) (maxL := 5) (ret := (some .int)) (by decide) rfl ?_
  intro p e s m args below meth c s₁ B hml hv
  obtain ⟨hav, hsz, hP, hK, hD0⟩ := hv
  have hx := B.exec
  have hb := B.bytes
  have hr := B.returns
  have hlocks := B.notSynchronized
  have hts := atoms_spec (ws := wsX1_mendCounts) B.pre
  have hown : s.vm.findClass RX1 = some m.cls := findClass_of_methodNamed B.named
  subst hsz
  have hD := hD0.self (sz := s.heap.size)
  generalize hAe : va_A ((List.flatten [(wX1 cI cZ a0 u0), (wX4 cI cZ a1 u1)])) s.heap.size = A at hD ⊢
  have hA : ∀ q : Nat, s.heap.size ≤ q → A q := fun q h => by rw [← hAe]; exact Or.inr h
  have hS : va_S A s.heap s.heap [] := va_S.rf
  have hDD : ∀ w0 w1 : S1, va_D A ((List.flatten [(wX1 cI cZ a0 w0), (wX4 cI cZ a1 w1)])) := fun _ _ => D_same (w := (List.flatten [(wX1 cI cZ a0 u0), (wX4 cI cZ a1 u1)])) rfl hD
  refine Wq (fun Q hQ => ?_)
  refine W_entry hav (Nat.le_of_ble_eq_true rfl) (fun ls hl => ?_)
  have hl : lv_has ls 5 [(0, .ref (a0 0)), (1, .ref (a1 0))] := hl
  unfold f_X1_mendCounts at hf
  refine W_heap hP hS (fun H locs hP hS => ?_)
  refine lv_iconst (v := 0) hx hb dX1_mendCounts_0 (by decide) ?_
  refine lv_istore_n (lv' := [(2, .int 0), (0, .ref (a0 0)), (1, .ref (a1 0))]) hx hb dX1_mendCounts_1 rfl hl (by decide) rfl (fun ls hl => ?_)
  refine lv_iconst (v := 0) hx hb dX1_mendCounts_2 (by decide) ?_
  refine lv_istore_n (lv' := [(3, .int 0), (2, .int 0), (0, .ref (a0 0)), (1, .ref (a1 0))]) hx hb dX1_mendCounts_3 rfl hl (by decide) rfl (fun ls hl => ?_)
  obtain ⟨G4_1, hG4_1, hf⟩ := qj3_some hf
  have j4_1 : ∀ (n : Nat) (y4_1_2 : Int32) (y4_1_3 : Int32) (u4_1_1 : S1) (H : Heap) (locs : List Loc) (ls : Array Slot), ql3 G4_1 n y4_1_2 y4_1_3 u4_1_1 = some o → va_P D cls (List.flatten [(wX1 cI cZ a0 u0), (wX4 cI cZ a1 u4_1_1)]) H → va_S A s.heap H locs → lv_has ls 5 [(1, .ref (a1 0)), (2, .int y4_1_2), (3, .int y4_1_3)] → W p l e (headSpec wsX1_mendCounts rmX1_mendCounts).room s m args below meth c H locs 0 0 Q (F0 m 4 ls []) := by
    intro n
    induction n with
    | zero => intro y4_1_2 y4_1_3 u4_1_1 H locs ls hf hP hS hl; exact (ql3_z hf).elim
    | succ n ih4_1 =>
      intro y4_1_2 y4_1_3 u4_1_1 H locs ls hf hP hS hl
      have hf := ql3_s hG4_1 hf
      obtain ⟨r4_1, hr4_1⟩ : ∃ z, z = ql3 G4_1 n := ⟨_, rfl⟩
      rw [← hr4_1] at hf ih4_1
      refine lv_iload_n hx hb dX1_mendCounts_4 rfl (lv_at hl 2 rfl) ?_
      refine lv_bipush (v := 32) hx hb dX1_mendCounts_5 (by decide) ?_
      refine lv_icmp_ge (tgt := 51) hx hb dX1_mendCounts_7 (by decide) (fun c_2 => ?_) (fun c_2 => ?_)
      · have hf := ite_t hf c_2
        refine lv_iload_n hx hb dX1_mendCounts_51 rfl (lv_at hl 1 rfl) ?_
        have eo := Option.some.inj hf
        have hP : va_P D cls (List.flatten [(wX1 cI cZ a0 u0), (wX4 cI cZ a1 o.2)]) H := by rw [← eo]; exact hP
        rw [hQ]
        exact W.iret hx hb hr (fun t ht hW => ⟨⟨_, (), rfl, congrArg Prod.fst eo, P_at ht hP⟩, hS.F ht⟩) hS.2.2 dX1_mendCounts_52 hlocks
      · have hf := ite_f hf c_2
        refine lv_aload_n hx hb dX1_mendCounts_10 rfl (lv_at hl 0 rfl) ?_
        refine lv_iload_n hx hb dX1_mendCounts_11 rfl (lv_at hl 2 rfl) ?_
        obtain ⟨z_3, hz_3, hf⟩ := bn_some hf
        refine cRV (As := [.int y4_1_3]) (rest := []) ⟨hx, hb, hml, hown, hts⟩ (c_X4_countEntriesOf l D cI cZ cJ cT a1 u4_1_1 y4_1_3 z_3 hz_3) (cwV 1 hts gX1_mendCounts_X4_countEntriesOf rfl rfl rfl (by decide +kernel) ⟨Nat.le_of_ble_eq_true rfl, Nat.le_of_ble_eq_true rfl⟩) (fl_sub hP 1 rfl) hK (va_recv hK (fl_sub hP 1 rfl) (ci := 4) (q0 := 0) rfl rfl) rfl rfl hl.1 (Nat.le_of_ble_eq_true rfl) dX1_mendCounts_12 ⟨Nat.le_of_ble_eq_true rfl, Nat.le_of_ble_eq_true rfl⟩ ?_
        refine lv_istore (lv' := [(4, .int z_3), (1, .ref (a1 0)), (2, .int y4_1_2), (3, .int y4_1_3)]) hx hb dX1_mendCounts_15 hl (by decide) rfl (fun ls hl => ?_)
        refine lv_aload_n hx hb dX1_mendCounts_17 rfl (lv_at hl 1 rfl) ?_
        refine lv_iload_n hx hb dX1_mendCounts_18 rfl (lv_at hl 3 rfl) ?_
        obtain ⟨z_4, hz_4, hf⟩ := bn_some hf
        refine cRV (As := [.int y4_1_3]) (rest := []) ⟨hx, hb, hml, hown, hts⟩ (c_X4_isThing l D cI cZ cJ cT a1 u4_1_1 y4_1_3 z_4 hz_4) (cwV 1 hts gX1_mendCounts_X4_isThing rfl rfl rfl (by decide +kernel) ⟨Nat.le_of_ble_eq_true rfl, Nat.le_of_ble_eq_true rfl⟩) (fl_sub hP 1 rfl) hK (va_recv hK (fl_sub hP 1 rfl) (ci := 4) (q0 := 0) rfl rfl) rfl rfl hl.1 (Nat.le_of_ble_eq_true rfl) dX1_mendCounts_19 ⟨Nat.le_of_ble_eq_true rfl, Nat.le_of_ble_eq_true rfl⟩ ?_
        obtain ⟨k45_5, hk45_5, hf⟩ := jn_some hf
        have j45_5 : ∀ (y45_5_2 : Int32) (u45_5_1 : S1) (H : Heap) (locs : List Loc) (ls : Array Slot), k45_5 y45_5_2 u45_5_1 = some o → va_P D cls (List.flatten [(wX1 cI cZ a0 u0), (wX4 cI cZ a1 u45_5_1)]) H → va_S A s.heap H locs → lv_has ls 5 [(1, .ref (a1 0)), (2, .int y45_5_2), (3, .int y4_1_3)] → W p l e (headSpec wsX1_mendCounts rmX1_mendCounts).room s m args below meth c H locs 0 0 Q (F0 m 45 ls []) := by
          intro y45_5_2 u45_5_1 H locs ls hf hP hS hl
          have hf := qa2 hk45_5 hf
          refine lv_iinc (v := y4_1_3 + 1) (lv' := [(3, .int (y4_1_3 + 1)), (1, .ref (a1 0)), (2, .int y45_5_2)]) hx hb dX1_mendCounts_45 hl (k := 2) rfl rfl (by decide) rfl (fun ls hl => ?_)
          refine lv_goto (tgt := 4) hx hb dX1_mendCounts_48 (by decide) ?_
          exact ih4_1 _ _ _ _ _ _ hf hP hS (lv_sub hl [1, 2, 0] rfl)
        refine lv_if_eq (tgt := 45) hx hb dX1_mendCounts_22 (by decide) (fun c_6 => ?_) (fun c_6 => ?_)
        · have hf := ite_t hf c_6
          exact j45_5 _ _ _ _ _ hf hP hS (lv_sub hl [1, 2, 3] rfl)
        · have hf := ite_f hf c_6
          refine lv_aload_n hx hb dX1_mendCounts_25 rfl (lv_at hl 1 rfl) ?_
          refine lv_iload_n hx hb dX1_mendCounts_26 rfl (lv_at hl 3 rfl) ?_
          obtain ⟨z_7, hz_7, hf⟩ := bn_some hf
          refine cRV (As := [.int y4_1_3]) (rest := []) ⟨hx, hb, hml, hown, hts⟩ (c_X4_countOf l D cI cZ cJ cT a1 u4_1_1 y4_1_3 z_7 hz_7) (cwV 1 hts gX1_mendCounts_X4_countOf rfl rfl rfl (by decide +kernel) ⟨Nat.le_of_ble_eq_true rfl, Nat.le_of_ble_eq_true rfl⟩) (fl_sub hP 1 rfl) hK (va_recv hK (fl_sub hP 1 rfl) (ci := 4) (q0 := 0) rfl rfl) rfl rfl hl.1 (Nat.le_of_ble_eq_true rfl) dX1_mendCounts_27 ⟨Nat.le_of_ble_eq_true rfl, Nat.le_of_ble_eq_true rfl⟩ ?_
          refine lv_iload hx hb dX1_mendCounts_30 (lv_at hl 0 rfl) ?_
          refine lv_icmp_eq (tgt := 45) hx hb dX1_mendCounts_32 (by decide) (fun c_8 => ?_) (fun c_8 => ?_)
          · have hf := ite_t hf c_8
            exact j45_5 _ _ _ _ _ hf hP hS (lv_sub hl [1, 2, 3] rfl)
          · have hf := ite_f hf c_8
            refine lv_aload_n hx hb dX1_mendCounts_35 rfl (lv_at hl 1 rfl) ?_
            refine lv_iload_n hx hb dX1_mendCounts_36 rfl (lv_at hl 3 rfl) ?_
            refine lv_iload hx hb dX1_mendCounts_37 (lv_at hl 0 rfl) ?_
            obtain ⟨z_9, hz_9, hf⟩ := bn_some hf
            refine cWVv (As := [.int y4_1_3, .int z_3]) (rest := []) ⟨hx, hb, hml, hown, hts⟩ (c_X4_setCount l D cI cZ cJ cT a1 H.size u4_1_1 y4_1_3 z_3 z_9 hz_9) (cwV 2 hts gX1_mendCounts_X4_setCount rfl rfl rfl (by decide +kernel) ⟨Nat.le_of_ble_eq_true rfl, Nat.le_of_ble_eq_true rfl⟩) (fl_sub hP 1 rfl) hK (fl_subD (hDD u0 u4_1_1) 1 rfl) hS (fl_free (hDD u0 u4_1_1) hS hA 1 rfl) (va_recv hK (fl_sub hP 1 rfl) (ci := 4) (q0 := 0) rfl rfl) rfl rfl hl.1 (Nat.le_of_ble_eq_true rfl) dX1_mendCounts_39 ⟨Nat.le_of_ble_eq_true rfl, Nat.le_of_ble_eq_true rfl⟩ (fun H1 locs hP1 hk1 hS => ?_)
            have hP : va_P D cls (List.flatten [(wX1 cI cZ a0 u0), (wX4 cI cZ a1 z_9)]) H1 := fl_join hP (hDD u0 u4_1_1) 1 rfl hk1 hP1
            clear hP1 hk1
            generalize H1 = H at hP hS ⊢
            refine lv_iinc (v := y4_1_2 + 1) (lv' := [(2, .int (y4_1_2 + 1)), (4, .int z_3), (1, .ref (a1 0)), (3, .int y4_1_3)]) hx hb dX1_mendCounts_42 hl (k := 2) rfl rfl (by decide) rfl (fun ls hl => ?_)
            exact j45_5 _ _ _ _ _ hf hP hS (lv_sub hl [2, 0, 3] rfl)
  exact j4_1 4096 _ _ _ _ _ _ hf hP hS (lv_sub hl [3, 1, 0] rfl)
