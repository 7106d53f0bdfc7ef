set_option maxRecDepth 20000 in
theorem ggX6_demandWriting_X3_isToWrite : GoodIn wsX6_demandWriting wsX3_isToWrite := goodIn_r _ [23, 24, 15, 16, 17, 12, 18, 19, 36, 37, 38, 39, 40] (by decide +kernel) (by decide +kernel)
set_option maxRecDepth 20000 in
theorem gX6_demandWriting_X3_isToWrite : GoodIn wsX6_demandWriting (wsV RX6 424 RX3 yX3_isToWrite wsX3_isToWrite) := goodIn_app (goodIn_of _ (by decide +kernel)) ggX6_demandWriting_X3_isToWrite
set_option maxRecDepth 20000 in
theorem ggX6_demandWriting_X6_demandOpen : GoodIn wsX6_demandWriting wsX6_demandOpen := goodIn_ca (goodIn_r _ [8, 1, 2, 3, 9, 10, 11, 12, 13, 14, 15, 16, 17, 18, 19, 25, 26, 27, 28, 29, 30, 31, 32, 33, 34, 35, 36, 37, 38, 39, 40] (by decide +kernel) (by decide +kernel)) (goodIn_sub (fun _ h => List.mem_cons_of_mem _ (List.mem_append_right _ h)) (by decide +kernel))
set_option maxRecDepth 20000 in
theorem gX6_demandWriting_X6_demandOpen : GoodIn wsX6_demandWriting (wsV RX6 202 RX6 yX6_demandOpen wsX6_demandOpen) := goodIn_app (goodIn_of _ (by decide +kernel)) ggX6_demandWriting_X6_demandOpen
theorem dX6_demandWriting_0 : decode cX6_demandWriting 0 = .ok (.aload_n 0, 1) := by decide +kernel
theorem dX6_demandWriting_1 : decode cX6_demandWriting 1 = .ok (.iload_n 1, 1) := by decide +kernel
theorem dX6_demandWriting_2 : decode cX6_demandWriting 2 = .ok (.invokevirtual 202, 3) := by decide +kernel
theorem dX6_demandWriting_5 : decode cX6_demandWriting 5 = .ok (.aload_n 0, 1) := by decide +kernel
theorem dX6_demandWriting_6 : decode cX6_demandWriting 6 = .ok (.getfield 51, 3) := by decide +kernel
theorem dX6_demandWriting_9 : decode cX6_demandWriting 9 = .ok (.iload_n 1, 1) := by decide +kernel
theorem dX6_demandWriting_10 : decode cX6_demandWriting 10 = .ok (.invokevirtual 424, 3) := by decide +kernel
theorem dX6_demandWriting_13 : decode cX6_demandWriting 13 = .ok (.ifCond .ne 14, 3) := by decide +kernel
theorem dX6_demandWriting_16 : decode cX6_demandWriting 16 = .ok (.new 110, 3) := by decide +kernel
theorem dX6_demandWriting_19 : decode cX6_demandWriting 19 = .ok (.dup, 1) := by decide +kernel
theorem dX6_demandWriting_20 : decode cX6_demandWriting 20 = .ok (.ldc_w 427, 3) := by decide +kernel
theorem dX6_demandWriting_23 : decode cX6_demandWriting 23 = .ok (.invokespecial 114, 3) := by decide +kernel
theorem dX6_demandWriting_26 : decode cX6_demandWriting 26 = .ok (.athrow, 1) := by decide +kernel
theorem dX6_demandWriting_27 : decode cX6_demandWriting 27 = .ok (.return_, 1) := by decide +kernel
def f_X6_demandWriting (U : S2) (p1 : Int32) : Option (Nat × Int32 × S2) := bn (f_X6_demandOpen U p1) (fun z_1 => if z_1.1 = 0 then bn (f_X3_isToWrite (z_1.2.2 9) p1) (fun z_3 => if z_3 = 0 then some (3, 0, z_1.2.2) else some (0, 0, z_1.2.2)) else some (z_1.1, 0, z_1.2.2))
def rmX6_demandWriting : Room := { frames := 7, cells := 2, slots := 12, locals := 111 }
set_option maxHeartbeats 4000000 in
set_option maxRecDepth 100000 in
theorem c_X6_demandWriting (l : Launch) (hst : l.stackTraces = false) (D : va_G) (cI cZ cJ cT : ClassId) (a : Nat → Nat → Nat) (sz : Nat) (U : S2) (p1 : Int32) (o : Nat × Int32 × S2) (hf : f_X6_demandWriting U p1 = some o) : vx_Met l yX6_demandWriting wsX6_demandWriting rmX6_demandWriting (va_Pc [.ref (a 0 0), .int p1] (PX D cls (tys cI cZ cJ cT) (wI cI cZ cT a U) sz)) (QXv D cls o.1 (wI cI cZ cT a o.2.2) (va_A (wI cI cZ cT a U) sz)) (XX D cls o.1 (wI cI cZ cT a o.2.2) (va_A (wI cI cZ cT a U) sz)) 2 12 (va_A (wI cI cZ cT a U) sz) := by
  refine vx_ofW (cc := cX6_demandWriting) (maxL := 2) (ret := none) (by decide) rfl ?_
  intro p e s m args below meth c s₁ B hml hxt hv
  obtain ⟨hav, ⟨hsz, hP, hK, hD0⟩, hE⟩ := hv
  have hx := B.exec
  have hb := B.bytes
  have hr := B.returns
  have hlocks := B.notSynchronized
  have hts := atoms_spec (ws := wsX6_demandWriting) B.pre
  have hown : s.vm.findClass RX6 = some m.cls := findClass_of_methodNamed B.named
  have i6 : ∀ w ∈ wsX60, w ∈ wsX6_demandWriting := fun w h => List.mem_cons_of_mem _ (List.mem_append_left _ (List.mem_append_left _ (List.mem_append_right _ h)))
  have hk51 := hts (.fieldLink RX6 51 "Inodery" "handles" "LInodery$Handles;") (by decide +kernel)
  subst hsz
  have hD := hD0.self (sz := s.heap.size)
  generalize hAe : va_A (wI cI cZ cT a U) s.heap.size = A at hD hE ⊢
  have hA : ∀ q : Nat, s.heap.size ≤ q → A q := fun q h => by rw [← hAe]; exact Or.inr h
  have hS : va_S A s.heap s.heap [] := va_S.rf
  have hDD : ∀ V : S2, va_D A (wI cI cZ cT a V) := fun _ => D_same (w := (wI cI cZ cT a U)) rfl hD
  refine Wq (fun Q hQ => ?_)
  refine W_entry hav (Nat.le_of_ble_eq_true rfl) (fun ls hl => ?_)
  have hl : lv_has ls 2 [(0, .ref (a 0 0)), (1, .int p1)] := hl
  unfold f_X6_demandWriting at hf
  refine W_heap hP hS (fun H locs hP hS => ?_)
  refine lv_aload_n hx hb dX6_demandWriting_0 rfl (lv_at hl 0 rfl) ?_
  refine lv_iload_n hx hb dX6_demandWriting_1 rfl (lv_at hl 1 rfl) ?_
  obtain ⟨z_1, hz_1, hf⟩ := bn_some hf
  refine cXVv (As := [.int p1]) (rest := []) ⟨hx, hb, hml, hown, hts⟩ (c_X6_demandOpen l hst D cI cZ cJ cT a H.size U p1 z_1 hz_1) (cwV 1 hts gX6_demandWriting_X6_demandOpen rfl rfl rfl (by decide +kernel) ⟨Nat.le_of_ble_eq_true rfl, Nat.le_of_ble_eq_true rfl⟩) hP hK (hDD U) hE hS (own_free (hDD U) hS hA) (va_recv hK (fl_sub hP 0 rfl) (ci := 6) (q0 := 0) rfl rfl) rfl rfl hl.1 (Nat.le_of_ble_eq_true rfl) dX6_demandWriting_2 ⟨Nat.le_of_ble_eq_true rfl, Nat.le_of_ble_eq_true rfl⟩ (fun E ce q9 H locs k_2 hE9 hP hS hce hcv hcl => ?_) (fun H locs k_2 hP hS => ?_)
  · have hf := ite_f hf k_2
    have eo := Option.some.inj hf
    have hP : va_P D cls (wI cI cZ cT a o.2.2) H := by rw [← eo]; exact hP
    rw [hQ]
    exact xout (k := o.1) hxt hlocks (by rw [← eo]; exact k_2) (by rw [← eo]; exact hE9) hP hS hce hcv hcl (Nat.le_of_ble_eq_true rfl) (Nat.le_of_ble_eq_true rfl)
  have hf := ite_t hf k_2
  refine lv_aload_n hx hb dX6_demandWriting_5 rfl (lv_at hl 0 rfl) ?_
  refine va_get (D := D) (ci := 6) (v := .ref (a 9 0)) (C := RX6) (T := TX6) (N := 11) hx hb hts i6 hown hK (fl_sub hP 0 rfl) 0 rfl rfl 7 (by decide) hk51 (fun _ h9 => h9) rfl dX6_demandWriting_6 ?_
  refine lv_iload_n hx hb dX6_demandWriting_9 rfl (lv_at hl 1 rfl) ?_
  obtain ⟨z_3, hz_3, hf⟩ := bn_some hf
  refine cRV (As := [.int p1]) (rest := []) ⟨hx, hb, hml, hown, hts⟩ (c_X3_isToWrite l D cI cZ cJ cT (a 9) (z_1.2.2 9) p1 z_3 hz_3) (cwV 1 hts gX6_demandWriting_X3_isToWrite rfl rfl rfl (by decide +kernel) ⟨Nat.le_of_ble_eq_true rfl, Nat.le_of_ble_eq_true rfl⟩) (fl_sub hP 9 rfl) hK (va_recv hK (fl_sub hP 9 rfl) (ci := 3) (q0 := 0) rfl rfl) rfl rfl hl.1 (Nat.le_of_ble_eq_true rfl) dX6_demandWriting_10 ⟨Nat.le_of_ble_eq_true rfl, Nat.le_of_ble_eq_true rfl⟩ ?_
  refine lv_if_ne (tgt := 27) hx hb dX6_demandWriting_13 (by decide) (fun c_4 => ?_) (fun c_4 => ?_)
  · have hf := ite_f hf c_4
    have eo := Option.some.inj hf
    have hP : va_P D cls (wI cI cZ cT a o.2.2) H := by rw [← eo]; exact hP
    rw [hQ]
    refine W.widen (k := 2) (n := 12) (Nat.le_of_ble_eq_true rfl) (Nat.le_of_ble_eq_true rfl) ?_
    exact vx_ret (W.vret hx hb hr (fun t ht hW => ⟨⟨(), rfl, (by rw [← eo]), P_at ht hP⟩, hS.F ht⟩) hS.2.2 dX6_demandWriting_27 hlocks)
  · have hf := ite_t hf c_4
    have eo := Option.some.inj hf
    have hP : va_P D cls (wI cI cZ cT a o.2.2) H := by rw [← eo]; exact hP
    rw [hQ]
    have hk0 : o.1 = 3 := by rw [← eo]
    exact thrW o.1 (text := "the handle is only to read") (by rw [hk0]; rfl) (by rw [hk0]; decide) hx hb hst hown (by decide +kernel) (hts (.classLink RX6 110 "java/lang/IllegalStateException") (by decide +kernel)) (hts (.initialized "java/lang/IllegalStateException") (by decide +kernel)) (fun w h => hts w (List.mem_cons_of_mem _ (List.mem_append_right _ h))) (EX_b3 hE) ok3 (by decide +kernel) hE hS hP (hl.1.trans hml.symm) dX6_demandWriting_16 dX6_demandWriting_19 dX6_demandWriting_20 dX6_demandWriting_23 dX6_demandWriting_26 hxt (Nat.le_of_ble_eq_true rfl) (Nat.le_of_ble_eq_true rfl) (Nat.le_of_ble_eq_true rfl) (Nat.le_of_ble_eq_true rfl) hlocks (Nat.le_of_ble_eq_true rfl) (Nat.le_of_ble_eq_true rfl)
set_option maxRecDepth 20000 in
theorem ggX6_isWithinQuota_X4_blocksOf : GoodIn wsX6_isWithinQuota wsX4_blocksOf := goodIn_r _ [19, 8, 20, 21, 22, 23, 6, 24, 25, 26, 27, 28, 29, 9, 10, 11, 41, 42, 43, 44, 45, 46, 47, 48, 49, 50, 51, 52] (by decide +kernel) (by decide +kernel)
set_option maxRecDepth 20000 in
theorem gX6_isWithinQuota_X4_blocksOf : GoodIn wsX6_isWithinQuota (wsV RX6 403 RX4 yX4_blocksOf wsX4_blocksOf) := goodIn_app (goodIn_of _ (by decide +kernel)) ggX6_isWithinQuota_X4_blocksOf
set_option maxRecDepth 20000 in
theorem ggX6_isWithinQuota_X4_ownerOf : GoodIn wsX6_isWithinQuota wsX4_ownerOf := goodIn_r _ [7, 8, 9, 10, 6, 11, 41, 42, 43, 44, 45, 46, 47, 48, 49, 50, 51, 52] (by decide +kernel) (by decide +kernel)
set_option maxRecDepth 20000 in
theorem gX6_isWithinQuota_X4_ownerOf : GoodIn wsX6_isWithinQuota (wsV RX6 167 RX4 yX4_ownerOf wsX4_ownerOf) := goodIn_app (goodIn_of _ (by decide +kernel)) ggX6_isWithinQuota_X4_ownerOf
set_option maxRecDepth 20000 in
theorem ggX6_isWithinQuota_X6_isUser : GoodIn wsX6_isWithinQuota wsX6_isUser := goodIn_r _ [15] (by decide +kernel) (by decide +kernel)
set_option maxRecDepth 20000 in
theorem gX6_isWithinQuota_X6_isUser : GoodIn wsX6_isWithinQuota (va_wsS RX6 70 yX6_isUser wsX6_isUser) := goodIn_app (goodIn_of _ (by decide +kernel)) ggX6_isWithinQuota_X6_isUser
theorem dX6_isWithinQuota_0 : decode cX6_isWithinQuota 0 = .ok (.aload_n 0, 1) := by decide +kernel
theorem dX6_isWithinQuota_1 : decode cX6_isWithinQuota 1 = .ok (.getfield 12, 3) := by decide +kernel
theorem dX6_isWithinQuota_4 : decode cX6_isWithinQuota 4 = .ok (.iload_n 1, 1) := by decide +kernel
theorem dX6_isWithinQuota_5 : decode cX6_isWithinQuota 5 = .ok (.invokevirtual 167, 3) := by decide +kernel
theorem dX6_isWithinQuota_8 : decode cX6_isWithinQuota 8 = .ok (.istore_n 3, 1) := by decide +kernel
theorem dX6_isWithinQuota_9 : decode cX6_isWithinQuota 9 = .ok (.iload_n 3, 1) := by decide +kernel
theorem dX6_isWithinQuota_10 : decode cX6_isWithinQuota 10 = .ok (.invokestatic 70, 3) := by decide +kernel
theorem dX6_isWithinQuota_13 : decode cX6_isWithinQuota 13 = .ok (.ifCond .eq 26, 3) := by decide +kernel
theorem dX6_isWithinQuota_16 : decode cX6_isWithinQuota 16 = .ok (.aload_n 0, 1) := by decide +kernel
theorem dX6_isWithinQuota_17 : decode cX6_isWithinQuota 17 = .ok (.getfield 12, 3) := by decide +kernel
theorem dX6_isWithinQuota_20 : decode cX6_isWithinQuota 20 = .ok (.iload_n 3, 1) := by decide +kernel
theorem dX6_isWithinQuota_21 : decode cX6_isWithinQuota 21 = .ok (.invokevirtual 403, 3) := by decide +kernel
theorem dX6_isWithinQuota_24 : decode cX6_isWithinQuota 24 = .ok (.iload_n 2, 1) := by decide +kernel
theorem dX6_isWithinQuota_25 : decode cX6_isWithinQuota 25 = .ok (.iadd, 1) := by decide +kernel
theorem dX6_isWithinQuota_26 : decode cX6_isWithinQuota 26 = .ok (.aload_n 0, 1) := by decide +kernel
theorem dX6_isWithinQuota_27 : decode cX6_isWithinQuota 27 = .ok (.getfield 62, 3) := by decide +kernel
theorem dX6_isWithinQuota_30 : decode cX6_isWithinQuota 30 = .ok (.iload_n 3, 1) := by decide +kernel
theorem dX6_isWithinQuota_31 : decode cX6_isWithinQuota 31 = .ok (.iaload, 1) := by decide +kernel
theorem dX6_isWithinQuota_32 : decode cX6_isWithinQuota 32 = .ok (.if_icmp .gt 7, 3) := by decide +kernel
theorem dX6_isWithinQuota_35 : decode cX6_isWithinQuota 35 = .ok (.iconst 1, 1) := by decide +kernel
theorem dX6_isWithinQuota_36 : decode cX6_isWithinQuota 36 = .ok (.goto 4, 3) := by decide +kernel
theorem dX6_isWithinQuota_39 : decode cX6_isWithinQuota 39 = .ok (.iconst 0, 1) := by decide +kernel
theorem dX6_isWithinQuota_40 : decode cX6_isWithinQuota 40 = .ok (.ireturn, 1) := by decide +kernel
def f_X6_isWithinQuota (U : S2) (p1 : Int32) (p2 : Int32) : Option (Int32) := bn (f_X4_ownerOf (U 1) p1) (fun z_1 => bn (f_X6_isUser z_1) (fun z_2 => jn (fun (v40_3_0 : Int32) => some (vp_nar .boolean v40_3_0)) (fun k40_3 => jn (k40_3 0) (fun k39_4 => if z_2 = 0 then k39_4 else bn (f_X4_blocksOf (U 1) z_1) (fun z_6 => chk (inb z_1 4) (if (U 0 9 (z_1).toNatClampNeg) < (z_6 + p2) then k39_4 else k40_3 1))))))
def rmX6_isWithinQuota : Room := { frames := 4, cells := 0, slots := 0, locals := 86 }
set_option maxHeartbeats 4000000 in
set_option maxRecDepth 100000 in
theorem c_X6_isWithinQuota (l : Launch) (D : va_G) (cI cZ cJ cT : ClassId) (a : Nat → Nat → Nat) (U : S2) (p1 : Int32) (p2 : Int32) (o : Int32) (hf : f_X6_isWithinQuota U p1 p2 = some o) : Met l yX6_isWithinQuota wsX6_isWithinQuota rmX6_isWithinQuota (va_Pc [.ref (a 0 0), .int p1, .int p2] (PR D cls (tys cI cZ cJ cT) (wI cI cZ cT a U))) (QR o) 0 0 (fun _ => False) := by
  refine Met.ofW (cc := cX6_isWithinQuota) (maxL := 4) (ret := (some .boolean)) (by decide) rfl ?_
  intro p e s m args below meth c s₁ B hml hv
  obtain ⟨hav, hP, hK⟩ := hv
  have hx := B.exec
  have hb := B.bytes
  have hr := B.returns
  have hlocks := B.notSynchronized
  have hts := atoms_spec (ws := wsX6_isWithinQuota) B.pre
  have hown : s.vm.findClass RX6 = some m.cls := findClass_of_methodNamed B.named
  have i6 : ∀ w ∈ wsX60, w ∈ wsX6_isWithinQuota := fun w h => List.mem_cons_of_mem _ (List.mem_append_left _ (List.mem_append_right _ h))
  have hk12 := hts (.fieldLink RX6 12 "Inodery" "now" "LInodery$Tree;") (by decide +kernel)
  have hk62 := hts (.fieldLink RX6 62 "Inodery" "quotas" "[I") (by decide +kernel)
  refine Wq (fun Q hQ => ?_)
  refine W_entry hav (Nat.le_of_ble_eq_true rfl) (fun ls hl => ?_)
  have hl : lv_has ls 4 [(0, .ref (a 0 0)), (1, .int p1), (2, .int p2)] := hl
  unfold f_X6_isWithinQuota at hf
  refine lv_aload_n hx hb dX6_isWithinQuota_0 rfl (lv_at hl 0 rfl) ?_
  refine va_get (D := D) (ci := 6) (v := .ref (a 1 0)) (C := RX6) (T := TX6) (N := 11) hx hb hts i6 hown hK (fl_sub hP 0 rfl) 0 rfl rfl 0 (by decide) hk12 (fun _ h9 => h9) rfl dX6_isWithinQuota_1 ?_
  refine lv_iload_n hx hb dX6_isWithinQuota_4 rfl (lv_at hl 1 rfl) ?_
  obtain ⟨z_1, hz_1, hf⟩ := bn_some hf
  refine cRV (As := [.int p1]) (rest := []) ⟨hx, hb, hml, hown, hts⟩ (c_X4_ownerOf l D cI cZ cJ cT (a 1) (U 1) p1 z_1 hz_1) (cwV 1 hts gX6_isWithinQuota_X4_ownerOf rfl rfl rfl (by decide +kernel) ⟨Nat.le_of_ble_eq_true rfl, Nat.le_of_ble_eq_true rfl⟩) (fl_sub hP 1 rfl) hK (va_recv hK (fl_sub hP 1 rfl) (ci := 4) (q0 := 0) rfl rfl) rfl rfl hl.1 (Nat.le_of_ble_eq_true rfl) dX6_isWithinQuota_5 ⟨Nat.le_of_ble_eq_true rfl, Nat.le_of_ble_eq_true rfl⟩ ?_
  refine lv_istore_n (lv' := [(3, .int z_1), (0, .ref (a 0 0)), (1, .int p1), (2, .int p2)]) hx hb dX6_isWithinQuota_8 rfl hl (by decide) rfl (fun ls hl => ?_)
  refine lv_iload_n hx hb dX6_isWithinQuota_9 rfl (lv_at hl 0 rfl) ?_
  obtain ⟨z_2, hz_2, hf⟩ := bn_some hf
  refine c0S (As := [.int z_1]) (rest := []) ⟨hx, hb, hml, hown, hts⟩ (c_X6_isUser l D cI cZ cJ cT z_1 z_2 hz_2) (va_cwS 1 hts gX6_isWithinQuota_X6_isUser rfl rfl rfl (by decide +kernel) ⟨Nat.le_of_ble_eq_true rfl, Nat.le_of_ble_eq_true rfl⟩) rfl rfl hl.1 (Nat.le_of_ble_eq_true rfl) dX6_isWithinQuota_10 ⟨Nat.le_of_ble_eq_true rfl, Nat.le_of_ble_eq_true rfl⟩ ?_
  obtain ⟨k40_3, hk40_3, hf⟩ := jn_some hf
  have j40_3 : ∀ (v40_3_0 : Int32) (ls : Array Slot), k40_3 v40_3_0 = some o → lv_has ls 4 [] → W p l e (headSpec wsX6_isWithinQuota rmX6_isWithinQuota).room s m args below meth c s.heap [] 0 0 Q (F0 m 40 ls [.int v40_3_0]) := by
    intro v40_3_0 ls hf hl
    have hf := qa1 hk40_3 hf
    rw [hQ]
    exact zretN (v := v40_3_0) (v' := vp_nar .boolean v40_3_0) hx hb hr rfl (fun t ht hW => ⟨_, rfl, Option.some.inj hf, ht⟩) (fun _ h => nomatch h) dX6_isWithinQuota_40 hlocks
  obtain ⟨k39_4, hk39_4, hf⟩ := jn_some hf
  have j39_4 : ∀ (ls : Array Slot), k39_4 = some o → lv_has ls 4 [] → W p l e (headSpec wsX6_isWithinQuota rmX6_isWithinQuota).room s m args below meth c s.heap [] 0 0 Q (F0 m 39 ls []) := by
    intro ls hf hl
    have hf := qa0 hk39_4 hf
    refine lv_iconst (v := 0) hx hb dX6_isWithinQuota_39 (by decide) ?_
    exact j40_3 _ _ hf (lv_sub hl [] rfl)
  refine lv_if_eq (tgt := 39) hx hb dX6_isWithinQuota_13 (by decide) (fun c_5 => ?_) (fun c_5 => ?_)
  · have hf := ite_t hf c_5
    exact j39_4 _ hf (lv_sub hl [] rfl)
  · have hf := ite_f hf c_5
    refine lv_aload_n hx hb dX6_isWithinQuota_16 rfl (lv_at hl 1 rfl) ?_
    refine va_get (D := D) (ci := 6) (v := .ref (a 1 0)) (C := RX6) (T := TX6) (N := 11) hx hb hts i6 hown hK (fl_sub hP 0 rfl) 0 rfl rfl 0 (by decide) hk12 (fun _ h9 => h9) rfl dX6_isWithinQuota_17 ?_
    refine lv_iload_n hx hb dX6_isWithinQuota_20 rfl (lv_at hl 0 rfl) ?_
    obtain ⟨z_6, hz_6, hf⟩ := bn_some hf
    refine cRV (As := [.int z_1]) (rest := []) ⟨hx, hb, hml, hown, hts⟩ (c_X4_blocksOf l D cI cZ cJ cT (a 1) (U 1) z_1 z_6 hz_6) (cwV 1 hts gX6_isWithinQuota_X4_blocksOf rfl rfl rfl (by decide +kernel) ⟨Nat.le_of_ble_eq_true rfl, Nat.le_of_ble_eq_true rfl⟩) (fl_sub hP 1 rfl) hK (va_recv hK (fl_sub hP 1 rfl) (ci := 4) (q0 := 0) rfl rfl) rfl rfl hl.1 (Nat.le_of_ble_eq_true rfl) dX6_isWithinQuota_21 ⟨Nat.le_of_ble_eq_true rfl, Nat.le_of_ble_eq_true rfl⟩ ?_
    refine lv_iload_n hx hb dX6_isWithinQuota_24 rfl (lv_at hl 3 rfl) ?_
    refine lv_iadd hx hb dX6_isWithinQuota_25 ?_
    refine lv_aload_n hx hb dX6_isWithinQuota_26 rfl (lv_at hl 1 rfl) ?_
    refine va_get (D := D) (ci := 6) (v := .ref (a 0 3)) (C := RX6) (T := TX6) (N := 11) hx hb hts i6 hown hK (fl_sub hP 0 rfl) 0 rfl rfl 9 (by decide) hk62 (fun _ h9 => h9) rfl dX6_isWithinQuota_27 ?_
    refine lv_iload_n hx hb dX6_isWithinQuota_30 rfl (lv_at hl 0 rfl) ?_
    obtain ⟨hi, hf⟩ := chk_some hf
    refine va_iald hx hb hK (fl_sub hP 0 rfl) 3 0 rfl rfl (inb_in hi) dX6_isWithinQuota_31 ?_
    refine lv_icmp_gt (tgt := 39) hx hb dX6_isWithinQuota_32 (by decide) (fun c_7 => ?_) (fun c_7 => ?_)
    · have hf := ite_t hf c_7
      exact j39_4 _ hf (lv_sub hl [] rfl)
    · have hf := ite_f hf c_7
      refine lv_iconst (v := 1) hx hb dX6_isWithinQuota_35 (by decide) ?_
      refine lv_goto (tgt := 40) hx hb dX6_isWithinQuota_36 (by decide) ?_
      exact j40_3 _ _ hf (lv_sub hl [] rfl)
set_option maxRecDepth 20000 in
theorem ggX6_isInSnapshot_X4_hasBlock : GoodIn wsX6_isInSnapshot wsX4_hasBlock := goodIn_r _ [7, 8, 20, 21, 22, 23, 24, 25, 26, 27, 28, 29, 30, 31] (by decide +kernel) (by decide +kernel)
set_option maxRecDepth 20000 in
theorem gX6_isInSnapshot_X4_hasBlock : GoodIn wsX6_isInSnapshot (wsV RX6 452 RX4 yX4_hasBlock wsX4_hasBlock) := goodIn_app (goodIn_of _ (by decide +kernel)) ggX6_isInSnapshot_X4_hasBlock
theorem dX6_isInSnapshot_0 : decode cX6_isInSnapshot 0 = .ok (.iconst 0, 1) := by decide +kernel
theorem dX6_isInSnapshot_1 : decode cX6_isInSnapshot 1 = .ok (.istore_n 2, 1) := by decide +kernel
theorem dX6_isInSnapshot_2 : decode cX6_isInSnapshot 2 = .ok (.iload_n 2, 1) := by decide +kernel
theorem dX6_isInSnapshot_3 : decode cX6_isInSnapshot 3 = .ok (.iconst 3, 1) := by decide +kernel
theorem dX6_isInSnapshot_4 : decode cX6_isInSnapshot 4 = .ok (.if_icmp .ge 33, 3) := by decide +kernel
theorem dX6_isInSnapshot_7 : decode cX6_isInSnapshot 7 = .ok (.aload_n 0, 1) := by decide +kernel
theorem dX6_isInSnapshot_8 : decode cX6_isInSnapshot 8 = .ok (.getfield 23, 3) := by decide +kernel
theorem dX6_isInSnapshot_11 : decode cX6_isInSnapshot 11 = .ok (.iload_n 2, 1) := by decide +kernel
theorem dX6_isInSnapshot_12 : decode cX6_isInSnapshot 12 = .ok (.baload, 1) := by decide +kernel
theorem dX6_isInSnapshot_13 : decode cX6_isInSnapshot 13 = .ok (.ifCond .eq 18, 3) := by decide +kernel
theorem dX6_isInSnapshot_16 : decode cX6_isInSnapshot 16 = .ok (.aload_n 0, 1) := by decide +kernel
theorem dX6_isInSnapshot_17 : decode cX6_isInSnapshot 17 = .ok (.getfield 19, 3) := by decide +kernel
theorem dX6_isInSnapshot_20 : decode cX6_isInSnapshot 20 = .ok (.iload_n 2, 1) := by decide +kernel
theorem dX6_isInSnapshot_21 : decode cX6_isInSnapshot 21 = .ok (.aaload, 1) := by decide +kernel
theorem dX6_isInSnapshot_22 : decode cX6_isInSnapshot 22 = .ok (.iload_n 1, 1) := by decide +kernel
theorem dX6_isInSnapshot_23 : decode cX6_isInSnapshot 23 = .ok (.invokevirtual 452, 3) := by decide +kernel
theorem dX6_isInSnapshot_26 : decode cX6_isInSnapshot 26 = .ok (.ifCond .eq 5, 3) := by decide +kernel
theorem dX6_isInSnapshot_29 : decode cX6_isInSnapshot 29 = .ok (.iconst 1, 1) := by decide +kernel
theorem dX6_isInSnapshot_30 : decode cX6_isInSnapshot 30 = .ok (.ireturn, 1) := by decide +kernel
theorem dX6_isInSnapshot_31 : decode cX6_isInSnapshot 31 = .ok (.iinc 2 1, 3) := by decide +kernel
theorem dX6_isInSnapshot_34 : decode cX6_isInSnapshot 34 = .ok (.goto (-32), 3) := by decide +kernel
theorem dX6_isInSnapshot_37 : decode cX6_isInSnapshot 37 = .ok (.iconst 0, 1) := by decide +kernel
theorem dX6_isInSnapshot_38 : decode cX6_isInSnapshot 38 = .ok (.ireturn, 1) := by decide +kernel
def f_X6_isInSnapshot (U : S2) (p1 : Int32) : Option (Int32) := qj1 (fun (r2_1 : Int32 → Option (Int32)) (y2_1_2 : Int32) => if 3 ≤ y2_1_2 then some 0 else chk (inb y2_1_2 3) (jn (r2_1 (y2_1_2 + 1)) (fun k31_3 => if (U 0 3 (y2_1_2).toNatClampNeg) = 0 then k31_3 else chk (inb y2_1_2 3) (if y2_1_2 = 0 then bn (f_X4_hasBlock (U 3) p1) (fun z_6 => if z_6 = 0 then k31_3 else some 1) else if y2_1_2 = 1 then bn (f_X4_hasBlock (U 4) p1) (fun z_9 => if z_9 = 0 then k31_3 else some 1) else if y2_1_2 = 2 then bn (f_X4_hasBlock (U 5) p1) (fun z_12 => if z_12 = 0 then k31_3 else some 1) else none)))) (fun k2_1 => k2_1 0)
def rmX6_isInSnapshot : Room := { frames := 1, cells := 0, slots := 0, locals := 21 }
set_option maxHeartbeats 4000000 in
set_option maxRecDepth 100000 in
theorem c_X6_isInSnapshot (l : Launch) (D : va_G) (cI cZ cJ cT : ClassId) (a : Nat → Nat → Nat) (U : S2) (p1 : Int32) (o : Int32) (hf : f_X6_isInSnapshot U p1 = some o) : Met l yX6_isInSnapshot wsX6_isInSnapshot rmX6_isInSnapshot (va_Pc [.ref (a 0 0), .int p1] (PR D cls (tys cI cZ cJ cT) (wI cI cZ cT a U))) (QR o) 0 0 (fun _ => False) := by
  refine Met.ofW (cc := cX6_isInSnapshot) (maxL := 3) (ret := (some .boolean)) (by decide) rfl ?_
  intro p e s m args below meth c s₁ B hml hv
  obtain ⟨hav, hP, hK⟩ := hv
  have hx := B.exec
  have hb := B.bytes
  have hr := B.returns
  have hlocks := B.notSynchronized
  have hts := atoms_spec (ws := wsX6_isInSnapshot) B.pre
  have hown : s.vm.findClass RX6 = some m.cls := findClass_of_methodNamed B.named
  have i6 : ∀ w ∈ wsX60, w ∈ wsX6_isInSnapshot := fun w h => List.mem_cons_of_mem _ (List.mem_append_left _ (List.mem_append_right _ h))
  have hk19 := hts (.fieldLink RX6 19 "Inodery" "snapshots" "[LInodery$Tree;") (by decide +kernel)
  have hk23 := hts (.fieldLink RX6 23 "Inodery" "isGiven" "[Z") (by decide +kernel)
  refine Wq (fun Q hQ => ?_)
  refine W_entry hav (Nat.le_of_ble_eq_true rfl) (fun ls hl => ?_)
  have hl : lv_has ls 3 [(0, .ref (a 0 0)), (1, .int p1)] := hl
  unfold f_X6_isInSnapshot at hf
  refine lv_iconst (v := 0) hx hb dX6_isInSnapshot_0 (by decide) ?_
  refine lv_istore_n (lv' := [(2, .int 0), (0, .ref (a 0 0)), (1, .int p1)]) hx hb dX6_isInSnapshot_1 rfl hl (by decide) rfl (fun ls hl => ?_)
  obtain ⟨G2_1, hG2_1, hf⟩ := qj1_some hf
  have j2_1 : ∀ (n : Nat) (y2_1_2 : Int32) (ls : Array Slot), ql1 G2_1 n y2_1_2 = some o → lv_has ls 3 [(0, .ref (a 0 0)), (1, .int p1), (2, .int y2_1_2)] → W p l e (headSpec wsX6_isInSnapshot rmX6_isInSnapshot).room s m args below meth c s.heap [] 0 0 Q (F0 m 2 ls []) := by
    intro n
    induction n with
    | zero => intro y2_1_2 ls hf hl; exact (ql1_z hf).elim
    | succ n ih2_1 =>
      intro y2_1_2 ls hf hl
      have hf := ql1_s hG2_1 hf
      obtain ⟨r2_1, hr2_1⟩ : ∃ z, z = ql1 G2_1 n := ⟨_, rfl⟩
      rw [← hr2_1] at hf ih2_1
      refine lv_iload_n hx hb dX6_isInSnapshot_2 rfl (lv_at hl 2 rfl) ?_
      refine lv_iconst (v := 3) hx hb dX6_isInSnapshot_3 (by decide) ?_
      refine lv_icmp_ge (tgt := 37) hx hb dX6_isInSnapshot_4 (by decide) (fun c_2 => ?_) (fun c_2 => ?_)
      · have hf := ite_t hf c_2
        refine lv_iconst (v := 0) hx hb dX6_isInSnapshot_37 (by decide) ?_
        rw [hQ]
        exact zretN (v := 0) (v' := 0) hx hb hr rfl (fun t ht hW => ⟨_, rfl, Option.some.inj hf, ht⟩) (fun _ h => nomatch h) dX6_isInSnapshot_38 hlocks
      · have hf := ite_f hf c_2
        refine lv_aload_n hx hb dX6_isInSnapshot_7 rfl (lv_at hl 0 rfl) ?_
        refine va_get (D := D) (ci := 6) (v := .ref (a 0 2)) (C := RX6) (T := TX6) (N := 11) hx hb hts i6 hown hK (fl_sub hP 0 rfl) 0 rfl rfl 3 (by decide) hk23 (fun _ h9 => h9) rfl dX6_isInSnapshot_8 ?_
        refine lv_iload_n hx hb dX6_isInSnapshot_11 rfl (lv_at hl 2 rfl) ?_
        obtain ⟨hi, hf⟩ := chk_some hf
        refine va_zald hx hb hK (fl_sub hP 0 rfl) 2 1 rfl rfl (inb_in hi) dX6_isInSnapshot_12 ?_
        obtain ⟨k31_3, hk31_3, hf⟩ := jn_some hf
        have j31_3 : ∀ (ls : Array Slot), k31_3 = some o → lv_has ls 3 [(0, .ref (a 0 0)), (1, .int p1), (2, .int y2_1_2)] → W p l e (headSpec wsX6_isInSnapshot rmX6_isInSnapshot).room s m args below meth c s.heap [] 0 0 Q (F0 m 31 ls []) := by
          intro ls hf hl
          have hf := qa0 hk31_3 hf
          refine lv_iinc (v := y2_1_2 + 1) (lv' := [(2, .int (y2_1_2 + 1)), (0, .ref (a 0 0)), (1, .int p1)]) hx hb dX6_isInSnapshot_31 hl (k := 2) rfl rfl (by decide) rfl (fun ls hl => ?_)
          refine lv_goto (tgt := 2) hx hb dX6_isInSnapshot_34 (by decide) ?_
          exact ih2_1 _ _ hf (lv_sub hl [1, 2, 0] rfl)
        refine lv_if_eq (tgt := 31) hx hb dX6_isInSnapshot_13 (by decide) (fun c_4 => ?_) (fun c_4 => ?_)
        · have hf := ite_t hf c_4
          exact j31_3 _ hf (lv_sub hl [0, 1, 2] rfl)
        · have hf := ite_f hf c_4
          refine lv_aload_n hx hb dX6_isInSnapshot_16 rfl (lv_at hl 0 rfl) ?_
          refine va_get (D := D) (ci := 6) (v := .ref (a 0 1)) (C := RX6) (T := TX6) (N := 11) hx hb hts i6 hown hK (fl_sub hP 0 rfl) 0 rfl rfl 2 (by decide) hk19 (fun _ h9 => h9) rfl dX6_isInSnapshot_17 ?_
          refine lv_iload_n hx hb dX6_isInSnapshot_20 rfl (lv_at hl 2 rfl) ?_
          obtain ⟨hi, hf⟩ := chk_some hf
          refine va_aldq hx hb hK (fl_sub hP 0 rfl) 1 3 rfl rfl (inb_in hi) dX6_isInSnapshot_21 ?_
          by_cases e_5 : y2_1_2 = 0
          · have hf := ite_t hf e_5
            refine W_top (v2 := .ref (a 3 0)) (by rw [e_5]; rfl) ?_
            refine lv_iload_n hx hb dX6_isInSnapshot_22 rfl (lv_at hl 1 rfl) ?_
            obtain ⟨z_6, hz_6, hf⟩ := bn_some hf
            refine cRV (As := [.int p1]) (rest := []) ⟨hx, hb, hml, hown, hts⟩ (c_X4_hasBlock l D cI cZ cJ cT (a 3) (U 3) p1 z_6 hz_6) (cwV 1 hts gX6_isInSnapshot_X4_hasBlock rfl rfl rfl (by decide +kernel) ⟨Nat.le_of_ble_eq_true rfl, Nat.le_of_ble_eq_true rfl⟩) (fl_sub hP 3 rfl) hK (va_recv hK (fl_sub hP 3 rfl) (ci := 4) (q0 := 0) rfl rfl) rfl rfl hl.1 (Nat.le_of_ble_eq_true rfl) dX6_isInSnapshot_23 ⟨Nat.le_of_ble_eq_true rfl, Nat.le_of_ble_eq_true rfl⟩ ?_
            refine lv_if_eq (tgt := 31) hx hb dX6_isInSnapshot_26 (by decide) (fun c_7 => ?_) (fun c_7 => ?_)
            · have hf := ite_t hf c_7
              exact j31_3 _ hf (lv_sub hl [0, 1, 2] rfl)
            · have hf := ite_f hf c_7
              refine lv_iconst (v := 1) hx hb dX6_isInSnapshot_29 (by decide) ?_
              rw [hQ]
              exact zretN (v := 1) (v' := 1) hx hb hr rfl (fun t ht hW => ⟨_, rfl, Option.some.inj hf, ht⟩) (fun _ h => nomatch h) dX6_isInSnapshot_30 hlocks
          have hf := ite_f hf e_5
          by_cases e_8 : y2_1_2 = 1
          · have hf := ite_t hf e_8
            refine W_top (v2 := .ref (a 4 0)) (by rw [e_8]; rfl) ?_
            refine lv_iload_n hx hb dX6_isInSnapshot_22 rfl (lv_at hl 1 rfl) ?_
            obtain ⟨z_9, hz_9, hf⟩ := bn_some hf
            refine cRV (As := [.int p1]) (rest := []) ⟨hx, hb, hml, hown, hts⟩ (c_X4_hasBlock l D cI cZ cJ cT (a 4) (U 4) p1 z_9 hz_9) (cwV 1 hts gX6_isInSnapshot_X4_hasBlock rfl rfl rfl (by decide +kernel) ⟨Nat.le_of_ble_eq_true rfl, Nat.le_of_ble_eq_true rfl⟩) (fl_sub hP 4 rfl) hK (va_recv hK (fl_sub hP 4 rfl) (ci := 4) (q0 := 0) rfl rfl) rfl rfl hl.1 (Nat.le_of_ble_eq_true rfl) dX6_isInSnapshot_23 ⟨Nat.le_of_ble_eq_true rfl, Nat.le_of_ble_eq_true rfl⟩ ?_
            refine lv_if_eq (tgt := 31) hx hb dX6_isInSnapshot_26 (by decide) (fun c_10 => ?_) (fun c_10 => ?_)
            · have hf := ite_t hf c_10
              exact j31_3 _ hf (lv_sub hl [0, 1, 2] rfl)
            · have hf := ite_f hf c_10
              refine lv_iconst (v := 1) hx hb dX6_isInSnapshot_29 (by decide) ?_
              rw [hQ]
              exact zretN (v := 1) (v' := 1) hx hb hr rfl (fun t ht hW => ⟨_, rfl, Option.some.inj hf, ht⟩) (fun _ h => nomatch h) dX6_isInSnapshot_30 hlocks
          have hf := ite_f hf e_8
          by_cases e_11 : y2_1_2 = 2
          · have hf := ite_t hf e_11
            refine W_top (v2 := .ref (a 5 0)) (by rw [e_11]; rfl) ?_
            refine lv_iload_n hx hb dX6_isInSnapshot_22 rfl (lv_at hl 1 rfl) ?_
            obtain ⟨z_12, hz_12, hf⟩ := bn_some hf
            refine cRV (As := [.int p1]) (rest := []) ⟨hx, hb, hml, hown, hts⟩ (c_X4_hasBlock l D cI cZ cJ cT (a 5) (U 5) p1 z_12 hz_12) (cwV 1 hts gX6_isInSnapshot_X4_hasBlock rfl rfl rfl (by decide +kernel) ⟨Nat.le_of_ble_eq_true rfl, Nat.le_of_ble_eq_true rfl⟩) (fl_sub hP 5 rfl) hK (va_recv hK (fl_sub hP 5 rfl) (ci := 4) (q0 := 0) rfl rfl) rfl rfl hl.1 (Nat.le_of_ble_eq_true rfl) dX6_isInSnapshot_23 ⟨Nat.le_of_ble_eq_true rfl, Nat.le_of_ble_eq_true rfl⟩ ?_
            refine lv_if_eq (tgt := 31) hx hb dX6_isInSnapshot_26 (by decide) (fun c_13 => ?_) (fun c_13 => ?_)
            · have hf := ite_t hf c_13
              exact j31_3 _ hf (lv_sub hl [0, 1, 2] rfl)
            · have hf := ite_f hf c_13
              refine lv_iconst (v := 1) hx hb dX6_isInSnapshot_29 (by decide) ?_
              rw [hQ]
              exact zretN (v := 1) (v' := 1) hx hb hr rfl (fun t ht hW => ⟨_, rfl, Option.some.inj hf, ht⟩) (fun _ h => nomatch h) dX6_isInSnapshot_30 hlocks
          have hf := ite_f hf e_11
          exact nomatch hf
  exact j2_1 4096 _ _ hf (lv_sub hl [1, 2, 0] rfl)
set_option maxRecDepth 20000 in
theorem ggX6_isUnused_X4_hasBlock : GoodIn wsX6_isUnused wsX4_hasBlock := goodIn_r _ [7, 8, 27, 28, 29, 30, 31, 32, 33, 34, 35, 36, 37, 38] (by decide +kernel) (by decide +kernel)
set_option maxRecDepth 20000 in
theorem gX6_isUnused_X4_hasBlock : GoodIn wsX6_isUnused (wsV RX6 452 RX4 yX4_hasBlock wsX4_hasBlock) := goodIn_app (goodIn_of _ (by decide +kernel)) ggX6_isUnused_X4_hasBlock
set_option maxRecDepth 20000 in
theorem ggX6_isUnused_X6_isInSnapshot : GoodIn wsX6_isUnused wsX6_isInSnapshot := goodIn_r _ [13, 14, 15, 3, 4, 5, 6, 7, 8, 16, 17, 18, 19, 20, 21, 22, 23, 24, 25, 26, 27, 28, 29, 30, 31, 32, 33, 34, 35, 36, 37, 38] (by decide +kernel) (by decide +kernel)
set_option maxRecDepth 20000 in
theorem gX6_isUnused_X6_isInSnapshot : GoodIn wsX6_isUnused (wsV RX6 455 RX6 yX6_isInSnapshot wsX6_isInSnapshot) := goodIn_app (goodIn_of _ (by decide +kernel)) ggX6_isUnused_X6_isInSnapshot
theorem dX6_isUnused_0 : decode cX6_isUnused 0 = .ok (.aload_n 0, 1) := by decide +kernel
theorem dX6_isUnused_1 : decode cX6_isUnused 1 = .ok (.getfield 12, 3) := by decide +kernel
theorem dX6_isUnused_4 : decode cX6_isUnused 4 = .ok (.iload_n 1, 1) := by decide +kernel
theorem dX6_isUnused_5 : decode cX6_isUnused 5 = .ok (.invokevirtual 452, 3) := by decide +kernel
theorem dX6_isUnused_8 : decode cX6_isUnused 8 = .ok (.ifCond .ne 26, 3) := by decide +kernel
theorem dX6_isUnused_11 : decode cX6_isUnused 11 = .ok (.aload_n 0, 1) := by decide +kernel
theorem dX6_isUnused_12 : decode cX6_isUnused 12 = .ok (.getfield 16, 3) := by decide +kernel
theorem dX6_isUnused_15 : decode cX6_isUnused 15 = .ok (.iload_n 1, 1) := by decide +kernel
theorem dX6_isUnused_16 : decode cX6_isUnused 16 = .ok (.invokevirtual 452, 3) := by decide +kernel
theorem dX6_isUnused_19 : decode cX6_isUnused 19 = .ok (.ifCond .ne 15, 3) := by decide +kernel
theorem dX6_isUnused_22 : decode cX6_isUnused 22 = .ok (.aload_n 0, 1) := by decide +kernel
theorem dX6_isUnused_23 : decode cX6_isUnused 23 = .ok (.iload_n 1, 1) := by decide +kernel
theorem dX6_isUnused_24 : decode cX6_isUnused 24 = .ok (.invokevirtual 455, 3) := by decide +kernel
theorem dX6_isUnused_27 : decode cX6_isUnused 27 = .ok (.ifCond .ne 7, 3) := by decide +kernel
theorem dX6_isUnused_30 : decode cX6_isUnused 30 = .ok (.iconst 1, 1) := by decide +kernel
theorem dX6_isUnused_31 : decode cX6_isUnused 31 = .ok (.goto 4, 3) := by decide +kernel
theorem dX6_isUnused_34 : decode cX6_isUnused 34 = .ok (.iconst 0, 1) := by decide +kernel
theorem dX6_isUnused_35 : decode cX6_isUnused 35 = .ok (.ireturn, 1) := by decide +kernel
def f_X6_isUnused (U : S2) (p1 : Int32) : Option (Int32) := bn (f_X4_hasBlock (U 1) p1) (fun z_1 => jn (fun (v35_2_0 : Int32) => some (vp_nar .boolean v35_2_0)) (fun k35_2 => jn (k35_2 0) (fun k34_3 => if z_1 = 0 then bn (f_X4_hasBlock (U 2) p1) (fun z_5 => if z_5 = 0 then bn (f_X6_isInSnapshot U p1) (fun z_7 => if z_7 = 0 then k35_2 1 else k34_3) else k34_3) else k34_3)))
def rmX6_isUnused : Room := { frames := 2, cells := 0, slots := 0, locals := 43 }
set_option maxHeartbeats 4000000 in
set_option maxRecDepth 100000 in
theorem c_X6_isUnused (l : Launch) (D : va_G) (cI cZ cJ cT : ClassId) (a : Nat → Nat → Nat) (U : S2) (p1 : Int32) (o : Int32) (hf : f_X6_isUnused U p1 = some o) : Met l yX6_isUnused wsX6_isUnused rmX6_isUnused (va_Pc [.ref (a 0 0), .int p1] (PR D cls (tys cI cZ cJ cT) (wI cI cZ cT a U))) (QR o) 0 0 (fun _ => False) := by
  refine Met.ofW (cc := cX6_isUnused) (maxL := 2) (ret := (some .boolean)) (by decide) rfl ?_
  intro p e s m args below meth c s₁ B hml hv
  obtain ⟨hav, hP, hK⟩ := hv
  have hx := B.exec
  have hb := B.bytes
  have hr := B.returns
  have hlocks := B.notSynchronized
  have hts := atoms_spec (ws := wsX6_isUnused) B.pre
  have hown : s.vm.findClass RX6 = some m.cls := findClass_of_methodNamed B.named
  have i6 : ∀ w ∈ wsX60, w ∈ wsX6_isUnused := fun w h => List.mem_cons_of_mem _ (List.mem_append_left _ (List.mem_append_right _ h))
  have hk12 := hts (.fieldLink RX6 12 "Inodery" "now" "LInodery$Tree;") (by decide +kernel)
  have hk16 := hts (.fieldLink RX6 16 "Inodery" "committed" "LInodery$Tree;") (by decide +kernel)
  refine Wq (fun Q hQ => ?_)
  refine W_entry hav (Nat.le_of_ble_eq_true rfl) (fun ls hl => ?_)
  have hl : lv_has ls 2 [(0, .ref (a 0 0)), (1, .int p1)] := hl
  unfold f_X6_isUnused at hf
  refine lv_aload_n hx hb dX6_isUnused_0 rfl (lv_at hl 0 rfl) ?_
  refine va_get (D := D) (ci := 6) (v := .ref (a 1 0)) (C := RX6) (T := TX6) (N := 11) hx hb hts i6 hown hK (fl_sub hP 0 rfl) 0 rfl rfl 0 (by decide) hk12 (fun _ h9 => h9) rfl dX6_isUnused_1 ?_
  refine lv_iload_n hx hb dX6_isUnused_4 rfl (lv_at hl 1 rfl) ?_
  obtain ⟨z_1, hz_1, hf⟩ := bn_some hf
  refine cRV (As := [.int p1]) (rest := []) ⟨hx, hb, hml, hown, hts⟩ (c_X4_hasBlock l D cI cZ cJ cT (a 1) (U 1) p1 z_1 hz_1) (cwV 1 hts gX6_isUnused_X4_hasBlock rfl rfl rfl (by decide +kernel) ⟨Nat.le_of_ble_eq_true rfl, Nat.le_of_ble_eq_true rfl⟩) (fl_sub hP 1 rfl) hK (va_recv hK (fl_sub hP 1 rfl) (ci := 4) (q0 := 0) rfl rfl) rfl rfl hl.1 (Nat.le_of_ble_eq_true rfl) dX6_isUnused_5 ⟨Nat.le_of_ble_eq_true rfl, Nat.le_of_ble_eq_true rfl⟩ ?_
  obtain ⟨k35_2, hk35_2, hf⟩ := jn_some hf
  have j35_2 : ∀ (v35_2_0 : Int32) (ls : Array Slot), k35_2 v35_2_0 = some o → lv_has ls 2 [] → W p l e (headSpec wsX6_isUnused rmX6_isUnused).room s m args below meth c s.heap [] 0 0 Q (F0 m 35 ls [.int v35_2_0]) := by
    intro v35_2_0 ls hf hl
    have hf := qa1 hk35_2 hf
    rw [hQ]
    exact zretN (v := v35_2_0) (v' := vp_nar .boolean v35_2_0) hx hb hr rfl (fun t ht hW => ⟨_, rfl, Option.some.inj hf, ht⟩) (fun _ h => nomatch h) dX6_isUnused_35 hlocks
  obtain ⟨k34_3, hk34_3, hf⟩ := jn_some hf
  have j34_3 : ∀ (ls : Array Slot), k34_3 = some o → lv_has ls 2 [] → W p l e (headSpec wsX6_isUnused rmX6_isUnused).room s m args below meth c s.heap [] 0 0 Q (F0 m 34 ls []) := by
    intro ls hf hl
    have hf := qa0 hk34_3 hf
    refine lv_iconst (v := 0) hx hb dX6_isUnused_34 (by decide) ?_
    exact j35_2 _ _ hf (lv_sub hl [] rfl)
  refine lv_if_ne (tgt := 34) hx hb dX6_isUnused_8 (by decide) (fun c_4 => ?_) (fun c_4 => ?_)
  · have hf := ite_f hf c_4
    exact j34_3 _ hf (lv_sub hl [] rfl)
  · have hf := ite_t hf c_4
    refine lv_aload_n hx hb dX6_isUnused_11 rfl (lv_at hl 0 rfl) ?_
    refine va_get (D := D) (ci := 6) (v := .ref (a 2 0)) (C := RX6) (T := TX6) (N := 11) hx hb hts i6 hown hK (fl_sub hP 0 rfl) 0 rfl rfl 1 (by decide) hk16 (fun _ h9 => h9) rfl dX6_isUnused_12 ?_
    refine lv_iload_n hx hb dX6_isUnused_15 rfl (lv_at hl 1 rfl) ?_
    obtain ⟨z_5, hz_5, hf⟩ := bn_some hf
    refine cRV (As := [.int p1]) (rest := []) ⟨hx, hb, hml, hown, hts⟩ (c_X4_hasBlock l D cI cZ cJ cT (a 2) (U 2) p1 z_5 hz_5) (cwV 1 hts gX6_isUnused_X4_hasBlock rfl rfl rfl (by decide +kernel) ⟨Nat.le_of_ble_eq_true rfl, Nat.le_of_ble_eq_true rfl⟩) (fl_sub hP 2 rfl) hK (va_recv hK (fl_sub hP 2 rfl) (ci := 4) (q0 := 0) rfl rfl) rfl rfl hl.1 (Nat.le_of_ble_eq_true rfl) dX6_isUnused_16 ⟨Nat.le_of_ble_eq_true rfl, Nat.le_of_ble_eq_true rfl⟩ ?_
    refine lv_if_ne (tgt := 34) hx hb dX6_isUnused_19 (by decide) (fun c_6 => ?_) (fun c_6 => ?_)
    · have hf := ite_f hf c_6
      exact j34_3 _ hf (lv_sub hl [] rfl)
    · have hf := ite_t hf c_6
      refine lv_aload_n hx hb dX6_isUnused_22 rfl (lv_at hl 0 rfl) ?_
      refine lv_iload_n hx hb dX6_isUnused_23 rfl (lv_at hl 1 rfl) ?_
      obtain ⟨z_7, hz_7, hf⟩ := bn_some hf
      refine cRV (As := [.int p1]) (rest := []) ⟨hx, hb, hml, hown, hts⟩ (c_X6_isInSnapshot l D cI cZ cJ cT a U p1 z_7 hz_7) (cwV 1 hts gX6_isUnused_X6_isInSnapshot rfl rfl rfl (by decide +kernel) ⟨Nat.le_of_ble_eq_true rfl, Nat.le_of_ble_eq_true rfl⟩) hP hK (va_recv hK (fl_sub hP 0 rfl) (ci := 6) (q0 := 0) rfl rfl) rfl rfl hl.1 (Nat.le_of_ble_eq_true rfl) dX6_isUnused_24 ⟨Nat.le_of_ble_eq_true rfl, Nat.le_of_ble_eq_true rfl⟩ ?_
      refine lv_if_ne (tgt := 34) hx hb dX6_isUnused_27 (by decide) (fun c_8 => ?_) (fun c_8 => ?_)
      · have hf := ite_f hf c_8
        exact j34_3 _ hf (lv_sub hl [] rfl)
      · have hf := ite_t hf c_8
        refine lv_iconst (v := 1) hx hb dX6_isUnused_30 (by decide) ?_
        refine lv_goto (tgt := 35) hx hb dX6_isUnused_31 (by decide) ?_
        exact j35_2 _ _ hf (lv_sub hl [] rfl)
set_option maxRecDepth 20000 in
theorem ggX6_lowestOfGroup_X6_isUnused : GoodIn wsX6_lowestOfGroup wsX6_isUnused := goodIn_r _ [5, 6, 7, 8, 9, 10, 11, 12, 13, 14, 15, 16, 4, 17, 18, 19, 20, 21, 22, 23, 24, 25, 26, 27, 28, 29, 30, 31, 32, 33, 34, 35, 36, 37, 38, 39, 40, 41, 42] (by decide +kernel) (by decide +kernel)
set_option maxRecDepth 20000 in
theorem gX6_lowestOfGroup_X6_isUnused : GoodIn wsX6_lowestOfGroup (wsV RX6 400 RX6 yX6_isUnused wsX6_isUnused) := goodIn_app (goodIn_of _ (by decide +kernel)) ggX6_lowestOfGroup_X6_isUnused
theorem dX6_lowestOfGroup_0 : decode cX6_lowestOfGroup 0 = .ok (.iconst 0, 1) := by decide +kernel
theorem dX6_lowestOfGroup_1 : decode cX6_lowestOfGroup 1 = .ok (.istore_n 2, 1) := by decide +kernel
theorem dX6_lowestOfGroup_2 : decode cX6_lowestOfGroup 2 = .ok (.iload_n 2, 1) := by decide +kernel
theorem dX6_lowestOfGroup_3 : decode cX6_lowestOfGroup 3 = .ok (.bipush 16, 2) := by decide +kernel
theorem dX6_lowestOfGroup_5 : decode cX6_lowestOfGroup 5 = .ok (.if_icmp .ge 29, 3) := by decide +kernel
theorem dX6_lowestOfGroup_8 : decode cX6_lowestOfGroup 8 = .ok (.aload_n 0, 1) := by decide +kernel
theorem dX6_lowestOfGroup_9 : decode cX6_lowestOfGroup 9 = .ok (.iload_n 1, 1) := by decide +kernel
theorem dX6_lowestOfGroup_10 : decode cX6_lowestOfGroup 10 = .ok (.bipush 16, 2) := by decide +kernel
theorem dX6_lowestOfGroup_12 : decode cX6_lowestOfGroup 12 = .ok (.imul, 1) := by decide +kernel
theorem dX6_lowestOfGroup_13 : decode cX6_lowestOfGroup 13 = .ok (.iload_n 2, 1) := by decide +kernel
theorem dX6_lowestOfGroup_14 : decode cX6_lowestOfGroup 14 = .ok (.iadd, 1) := by decide +kernel
theorem dX6_lowestOfGroup_15 : decode cX6_lowestOfGroup 15 = .ok (.invokevirtual 400, 3) := by decide +kernel
theorem dX6_lowestOfGroup_18 : decode cX6_lowestOfGroup 18 = .ok (.ifCond .eq 10, 3) := by decide +kernel
theorem dX6_lowestOfGroup_21 : decode cX6_lowestOfGroup 21 = .ok (.iload_n 1, 1) := by decide +kernel
theorem dX6_lowestOfGroup_22 : decode cX6_lowestOfGroup 22 = .ok (.bipush 16, 2) := by decide +kernel
theorem dX6_lowestOfGroup_24 : decode cX6_lowestOfGroup 24 = .ok (.imul, 1) := by decide +kernel
theorem dX6_lowestOfGroup_25 : decode cX6_lowestOfGroup 25 = .ok (.iload_n 2, 1) := by decide +kernel
theorem dX6_lowestOfGroup_26 : decode cX6_lowestOfGroup 26 = .ok (.iadd, 1) := by decide +kernel
theorem dX6_lowestOfGroup_27 : decode cX6_lowestOfGroup 27 = .ok (.ireturn, 1) := by decide +kernel
theorem dX6_lowestOfGroup_28 : decode cX6_lowestOfGroup 28 = .ok (.iinc 2 1, 3) := by decide +kernel
theorem dX6_lowestOfGroup_31 : decode cX6_lowestOfGroup 31 = .ok (.goto (-29), 3) := by decide +kernel
theorem dX6_lowestOfGroup_34 : decode cX6_lowestOfGroup 34 = .ok (.iconst (-1), 1) := by decide +kernel
theorem dX6_lowestOfGroup_35 : decode cX6_lowestOfGroup 35 = .ok (.ireturn, 1) := by decide +kernel
def f_X6_lowestOfGroup (U : S2) (p1 : Int32) : Option (Int32) := qj1 (fun (r2_1 : Int32 → Option (Int32)) (y2_1_2 : Int32) => if 16 ≤ y2_1_2 then some (-1) else bn (f_X6_isUnused U ((p1 * 16) + y2_1_2)) (fun z_3 => if z_3 = 0 then r2_1 (y2_1_2 + 1) else some ((p1 * 16) + y2_1_2))) (fun k2_1 => k2_1 0)
def rmX6_lowestOfGroup : Room := { frames := 3, cells := 0, slots := 0, locals := 64 }
set_option maxHeartbeats 4000000 in
set_option maxRecDepth 100000 in
theorem c_X6_lowestOfGroup (l : Launch) (D : va_G) (cI cZ cJ cT : ClassId) (a : Nat → Nat → Nat) (U : S2) (p1 : Int32) (o : Int32) (hf : f_X6_lowestOfGroup U p1 = some o) : Met l yX6_lowestOfGroup wsX6_lowestOfGroup rmX6_lowestOfGroup (va_Pc [.ref (a 0 0), .int p1] (PR D cls (tys cI cZ cJ cT) (wI cI cZ cT a U))) (QR o) 0 0 (fun _ => False) := by
  refine Met.ofW (cc := cX6_lowestOfGroup) (maxL := 3) (ret := (some .int)) (by decide) rfl ?_
  intro p e s m args below meth c s₁ B hml hv
  obtain ⟨hav, hP, hK⟩ := hv
  have hx := B.exec
  have hb := B.bytes
  have hr := B.returns
  have hlocks := B.notSynchronized
  have hts := atoms_spec (ws := wsX6_lowestOfGroup) B.pre
  have hown : s.vm.findClass RX6 = some m.cls := findClass_of_methodNamed B.named
  refine Wq (fun Q hQ => ?_)
  refine W_entry hav (Nat.le_of_ble_eq_true rfl) (fun ls hl => ?_)
  have hl : lv_has ls 3 [(0, .ref (a 0 0)), (1, .int p1)] := hl
  unfold f_X6_lowestOfGroup at hf
  refine lv_iconst (v := 0) hx hb dX6_lowestOfGroup_0 (by decide) ?_
  refine lv_istore_n (lv' := [(2, .int 0), (0, .ref (a 0 0)), (1, .int p1)]) hx hb dX6_lowestOfGroup_1 rfl hl (by decide) rfl (fun ls hl => ?_)
  obtain ⟨G2_1, hG2_1, hf⟩ := qj1_some hf
  have j2_1 : ∀ (n : Nat) (y2_1_2 : Int32) (ls : Array Slot), ql1 G2_1 n y2_1_2 = some o → lv_has ls 3 [(0, .ref (a 0 0)), (1, .int p1), (2, .int y2_1_2)] → W p l e (headSpec wsX6_lowestOfGroup rmX6_lowestOfGroup).room s m args below meth c s.heap [] 0 0 Q (F0 m 2 ls []) := by
    intro n
    induction n with
    | zero => intro y2_1_2 ls hf hl; exact (ql1_z hf).elim
    | succ n ih2_1 =>
      intro y2_1_2 ls hf hl
      have hf := ql1_s hG2_1 hf
      obtain ⟨r2_1, hr2_1⟩ : ∃ z, z = ql1 G2_1 n := ⟨_, rfl⟩
      rw [← hr2_1] at hf ih2_1
      refine lv_iload_n hx hb dX6_lowestOfGroup_2 rfl (lv_at hl 2 rfl) ?_
      refine lv_bipush (v := 16) hx hb dX6_lowestOfGroup_3 (by decide) ?_
      refine lv_icmp_ge (tgt := 34) hx hb dX6_lowestOfGroup_5 (by decide) (fun c_2 => ?_) (fun c_2 => ?_)
      · have hf := ite_t hf c_2
        refine lv_iconst (v := (-1)) hx hb dX6_lowestOfGroup_34 (by decide) ?_
        rw [hQ]
        exact W.iret hx hb hr (fun t ht hW => ⟨_, rfl, Option.some.inj hf, ht⟩) (fun _ h => nomatch h) dX6_lowestOfGroup_35 hlocks
      · have hf := ite_f hf c_2
        refine lv_aload_n hx hb dX6_lowestOfGroup_8 rfl (lv_at hl 0 rfl) ?_
        refine lv_iload_n hx hb dX6_lowestOfGroup_9 rfl (lv_at hl 1 rfl) ?_
        refine lv_bipush (v := 16) hx hb dX6_lowestOfGroup_10 (by decide) ?_
        refine lv_imul hx hb dX6_lowestOfGroup_12 ?_
        refine lv_iload_n hx hb dX6_lowestOfGroup_13 rfl (lv_at hl 2 rfl) ?_
        refine lv_iadd hx hb dX6_lowestOfGroup_14 ?_
        obtain ⟨z_3, hz_3, hf⟩ := bn_some hf
        refine cRV (As := [.int ((p1 * 16) + y2_1_2)]) (rest := []) ⟨hx, hb, hml, hown, hts⟩ (c_X6_isUnused l D cI cZ cJ cT a U ((p1 * 16) + y2_1_2) z_3 hz_3) (cwV 1 hts gX6_lowestOfGroup_X6_isUnused rfl rfl rfl (by decide +kernel) ⟨Nat.le_of_ble_eq_true rfl, Nat.le_of_ble_eq_true rfl⟩) hP hK (va_recv hK (fl_sub hP 0 rfl) (ci := 6) (q0 := 0) rfl rfl) rfl rfl hl.1 (Nat.le_of_ble_eq_true rfl) dX6_lowestOfGroup_15 ⟨Nat.le_of_ble_eq_true rfl, Nat.le_of_ble_eq_true rfl⟩ ?_
        refine lv_if_eq (tgt := 28) hx hb dX6_lowestOfGroup_18 (by decide) (fun c_4 => ?_) (fun c_4 => ?_)
        · have hf := ite_t hf c_4
          refine lv_iinc (v := y2_1_2 + 1) (lv' := [(2, .int (y2_1_2 + 1)), (0, .ref (a 0 0)), (1, .int p1)]) hx hb dX6_lowestOfGroup_28 hl (k := 2) rfl rfl (by decide) rfl (fun ls hl => ?_)
          refine lv_goto (tgt := 2) hx hb dX6_lowestOfGroup_31 (by decide) ?_
          exact ih2_1 _ _ hf (lv_sub hl [1, 2, 0] rfl)
        · have hf := ite_f hf c_4
          refine lv_iload_n hx hb dX6_lowestOfGroup_21 rfl (lv_at hl 1 rfl) ?_
          refine lv_bipush (v := 16) hx hb dX6_lowestOfGroup_22 (by decide) ?_
          refine lv_imul hx hb dX6_lowestOfGroup_24 ?_
          refine lv_iload_n hx hb dX6_lowestOfGroup_25 rfl (lv_at hl 2 rfl) ?_
          refine lv_iadd hx hb dX6_lowestOfGroup_26 ?_
          rw [hQ]
          exact W.iret hx hb hr (fun t ht hW => ⟨_, rfl, Option.some.inj hf, ht⟩) (fun _ h => nomatch h) dX6_lowestOfGroup_27 hlocks
  exact j2_1 4096 _ _ hf (lv_sub hl [1, 2, 0] rfl)
set_option maxRecDepth 20000 in
theorem ggX6_blockFor_X4_blockOf : GoodIn wsX6_blockFor wsX4_blockOf := goodIn_r _ [6, 7, 8, 9, 5, 10, 11, 12, 13, 46, 47, 48, 49, 50, 51, 52, 53, 54, 55, 56, 57] (by decide +kernel) (by decide +kernel)
set_option maxRecDepth 20000 in
theorem gX6_blockFor_X4_blockOf : GoodIn wsX6_blockFor (wsV RX6 395 RX4 yX4_blockOf wsX4_blockOf) := goodIn_app (goodIn_of _ (by decide +kernel)) ggX6_blockFor_X4_blockOf
set_option maxRecDepth 20000 in
theorem ggX6_blockFor_X6_isUnused : GoodIn wsX6_blockFor wsX6_isUnused := goodIn_r _ [18, 1, 19, 20, 21, 22, 5, 23, 24, 25, 26, 27, 17, 28, 29, 30, 35, 36, 37, 38, 39, 40, 41, 42, 43, 44, 45, 46, 47, 48, 49, 50, 51, 52, 53, 54, 55, 56, 57] (by decide +kernel) (by decide +kernel)
set_option maxRecDepth 20000 in
theorem gX6_blockFor_X6_isUnused : GoodIn wsX6_blockFor (wsV RX6 400 RX6 yX6_isUnused wsX6_isUnused) := goodIn_app (goodIn_of _ (by decide +kernel)) ggX6_blockFor_X6_isUnused
set_option maxRecDepth 20000 in
theorem ggX6_blockFor_X6_lowestOfGroup : GoodIn wsX6_blockFor wsX6_lowestOfGroup := goodIn_r _ [34, 14, 15, 16, 17, 18, 1, 19, 20, 21, 22, 5, 23, 24, 25, 26, 27, 28, 29, 30, 35, 36, 37, 38, 39, 40, 41, 42, 43, 44, 45, 46, 47, 48, 49, 50, 51, 52, 53, 54, 55, 56, 57] (by decide +kernel) (by decide +kernel)
set_option maxRecDepth 20000 in
theorem gX6_blockFor_X6_lowestOfGroup : GoodIn wsX6_blockFor (wsV RX6 458 RX6 yX6_lowestOfGroup wsX6_lowestOfGroup) := goodIn_app (goodIn_of _ (by decide +kernel)) ggX6_blockFor_X6_lowestOfGroup
theorem dX6_blockFor_0 : decode cX6_blockFor 0 = .ok (.aload_n 0, 1) := by decide +kernel
theorem dX6_blockFor_1 : decode cX6_blockFor 1 = .ok (.getfield 12, 3) := by decide +kernel
theorem dX6_blockFor_4 : decode cX6_blockFor 4 = .ok (.iload_n 1, 1) := by decide +kernel
theorem dX6_blockFor_5 : decode cX6_blockFor 5 = .ok (.iload_n 2, 1) := by decide +kernel
theorem dX6_blockFor_6 : decode cX6_blockFor 6 = .ok (.iconst 1, 1) := by decide +kernel
theorem dX6_blockFor_7 : decode cX6_blockFor 7 = .ok (.isub, 1) := by decide +kernel
theorem dX6_blockFor_8 : decode cX6_blockFor 8 = .ok (.invokevirtual 395, 3) := by decide +kernel
theorem dX6_blockFor_11 : decode cX6_blockFor 11 = .ok (.istore_n 3, 1) := by decide +kernel
theorem dX6_blockFor_12 : decode cX6_blockFor 12 = .ok (.iload_n 3, 1) := by decide +kernel
theorem dX6_blockFor_13 : decode cX6_blockFor 13 = .ok (.iconst (-1), 1) := by decide +kernel
theorem dX6_blockFor_14 : decode cX6_blockFor 14 = .ok (.if_icmp .eq 26, 3) := by decide +kernel
theorem dX6_blockFor_17 : decode cX6_blockFor 17 = .ok (.iload_n 3, 1) := by decide +kernel
theorem dX6_blockFor_18 : decode cX6_blockFor 18 = .ok (.bipush 16, 2) := by decide +kernel
theorem dX6_blockFor_20 : decode cX6_blockFor 20 = .ok (.irem, 1) := by decide +kernel
theorem dX6_blockFor_21 : decode cX6_blockFor 21 = .ok (.bipush 15, 2) := by decide +kernel
theorem dX6_blockFor_23 : decode cX6_blockFor 23 = .ok (.if_icmp .ge 17, 3) := by decide +kernel
theorem dX6_blockFor_26 : decode cX6_blockFor 26 = .ok (.aload_n 0, 1) := by decide +kernel
theorem dX6_blockFor_27 : decode cX6_blockFor 27 = .ok (.iload_n 3, 1) := by decide +kernel
theorem dX6_blockFor_28 : decode cX6_blockFor 28 = .ok (.iconst 1, 1) := by decide +kernel
theorem dX6_blockFor_29 : decode cX6_blockFor 29 = .ok (.iadd, 1) := by decide +kernel
theorem dX6_blockFor_30 : decode cX6_blockFor 30 = .ok (.invokevirtual 400, 3) := by decide +kernel
theorem dX6_blockFor_33 : decode cX6_blockFor 33 = .ok (.ifCond .eq 7, 3) := by decide +kernel
theorem dX6_blockFor_36 : decode cX6_blockFor 36 = .ok (.iload_n 3, 1) := by decide +kernel
theorem dX6_blockFor_37 : decode cX6_blockFor 37 = .ok (.iconst 1, 1) := by decide +kernel
theorem dX6_blockFor_38 : decode cX6_blockFor 38 = .ok (.iadd, 1) := by decide +kernel
theorem dX6_blockFor_39 : decode cX6_blockFor 39 = .ok (.ireturn, 1) := by decide +kernel
theorem dX6_blockFor_40 : decode cX6_blockFor 40 = .ok (.iconst (-1), 1) := by decide +kernel
theorem dX6_blockFor_41 : decode cX6_blockFor 41 = .ok (.istore 4, 2) := by decide +kernel
theorem dX6_blockFor_43 : decode cX6_blockFor 43 = .ok (.iconst 0, 1) := by decide +kernel
theorem dX6_blockFor_44 : decode cX6_blockFor 44 = .ok (.istore 5, 2) := by decide +kernel
theorem dX6_blockFor_46 : decode cX6_blockFor 46 = .ok (.iload 5, 2) := by decide +kernel
theorem dX6_blockFor_48 : decode cX6_blockFor 48 = .ok (.iconst 4, 1) := by decide +kernel
theorem dX6_blockFor_49 : decode cX6_blockFor 49 = .ok (.if_icmp .ge 27, 3) := by decide +kernel
theorem dX6_blockFor_52 : decode cX6_blockFor 52 = .ok (.iload 4, 2) := by decide +kernel
theorem dX6_blockFor_54 : decode cX6_blockFor 54 = .ok (.iconst (-1), 1) := by decide +kernel
theorem dX6_blockFor_55 : decode cX6_blockFor 55 = .ok (.if_icmp .ne 21, 3) := by decide +kernel
theorem dX6_blockFor_58 : decode cX6_blockFor 58 = .ok (.aload_n 0, 1) := by decide +kernel
theorem dX6_blockFor_59 : decode cX6_blockFor 59 = .ok (.iload_n 1, 1) := by decide +kernel
theorem dX6_blockFor_60 : decode cX6_blockFor 60 = .ok (.iload 5, 2) := by decide +kernel
theorem dX6_blockFor_62 : decode cX6_blockFor 62 = .ok (.iadd, 1) := by decide +kernel
theorem dX6_blockFor_63 : decode cX6_blockFor 63 = .ok (.iconst 4, 1) := by decide +kernel
theorem dX6_blockFor_64 : decode cX6_blockFor 64 = .ok (.irem, 1) := by decide +kernel
theorem dX6_blockFor_65 : decode cX6_blockFor 65 = .ok (.invokevirtual 458, 3) := by decide +kernel
theorem dX6_blockFor_68 : decode cX6_blockFor 68 = .ok (.istore 4, 2) := by decide +kernel
theorem dX6_blockFor_70 : decode cX6_blockFor 70 = .ok (.iinc 5 1, 3) := by decide +kernel
theorem dX6_blockFor_73 : decode cX6_blockFor 73 = .ok (.goto (-27), 3) := by decide +kernel
theorem dX6_blockFor_76 : decode cX6_blockFor 76 = .ok (.iload 4, 2) := by decide +kernel
theorem dX6_blockFor_78 : decode cX6_blockFor 78 = .ok (.ireturn, 1) := by decide +kernel
def f_X6_blockFor (U : S2) (p1 : Int32) (p2 : Int32) : Option (Int32) := bn (f_X4_blockOf (U 1) p1 (p2 - 1)) (fun z_1 => jn (qj2 (fun (r46_3 : Int32 → Int32 → Option (Int32)) (y46_3_4 : Int32) (y46_3_5 : Int32) => jn (some y46_3_4) (fun k76_4 => if 4 ≤ y46_3_5 then k76_4 else if y46_3_4 = (-1) then bn (f_X6_lowestOfGroup U ((p1 + y46_3_5) - (p1 + y46_3_5) / 4 * 4)) (fun z_7 => r46_3 z_7 (y46_3_5 + 1)) else k76_4)) (fun k46_3 => k46_3 (-1) 0)) (fun k40_2 => if z_1 = (-1) then k40_2 else if 15 ≤ (z_1 - z_1 / 16 * 16) then k40_2 else bn (f_X6_isUnused U (z_1 + 1)) (fun z_10 => if z_10 = 0 then k40_2 else some (z_1 + 1))))
def rmX6_blockFor : Room := { frames := 4, cells := 0, slots := 0, locals := 86 }
set_option maxHeartbeats 4000000 in
set_option maxRecDepth 100000 in
theorem c_X6_blockFor (l : Launch) (D : va_G) (cI cZ cJ cT : ClassId) (a : Nat → Nat → Nat) (U : S2) (p1 : Int32) (p2 : Int32) (o : Int32) (hf : f_X6_blockFor U p1 p2 = some o) : Met l yX6_blockFor wsX6_blockFor rmX6_blockFor (va_Pc [.ref (a 0 0), .int p1, .int p2] (PR D cls (tys cI cZ cJ cT) (wI cI cZ cT a U))) (QR o) 0 0 (fun _ => False) := by
  refine Met.ofW (cc := cX6_blockFor) (maxL := 6) (ret := (some .int)) (by decide) rfl ?_
  intro p e s m args below meth c s₁ B hml hv
  obtain ⟨hav, hP, hK⟩ := hv
  have hx := B.exec
  have hb := B.bytes
  have hr := B.returns
  have hlocks := B.notSynchronized
  have hts := atoms_spec (ws := wsX6_blockFor) B.pre
  have hown : s.vm.findClass RX6 = some m.cls := findClass_of_methodNamed B.named
  have i6 : ∀ w ∈ wsX60, w ∈ wsX6_blockFor := fun w h => List.mem_cons_of_mem _ (List.mem_append_left _ (List.mem_append_right _ h))
  have hk12 := hts (.fieldLink RX6 12 "Inodery" "now" "LInodery$Tree;") (by decide +kernel)
  refine Wq (fun Q hQ => ?_)
  refine W_entry hav (Nat.le_of_ble_eq_true rfl) (fun ls hl => ?_)
  have hl : lv_has ls 6 [(0, .ref (a 0 0)), (1, .int p1), (2, .int p2)] := hl
  unfold f_X6_blockFor at hf
  refine lv_aload_n hx hb dX6_blockFor_0 rfl (lv_at hl 0 rfl) ?_
  refine va_get (D := D) (ci := 6) (v := .ref (a 1 0)) (C := RX6) (T := TX6) (N := 11) hx hb hts i6 hown hK (fl_sub hP 0 rfl) 0 rfl rfl 0 (by decide) hk12 (fun _ h9 => h9) rfl dX6_blockFor_1 ?_
  refine lv_iload_n hx hb dX6_blockFor_4 rfl (lv_at hl 1 rfl) ?_
  refine lv_iload_n hx hb dX6_blockFor_5 rfl (lv_at hl 2 rfl) ?_
  refine lv_iconst (v := 1) hx hb dX6_blockFor_6 (by decide) ?_
  refine lv_isub hx hb dX6_blockFor_7 ?_
  obtain ⟨z_1, hz_1, hf⟩ := bn_some hf
  refine cRV (As := [.int p1, .int (p2 - 1)]) (rest := []) ⟨hx, hb, hml, hown, hts⟩ (c_X4_blockOf l D cI cZ cJ cT (a 1) (U 1) p1 (p2 - 1) z_1 hz_1) (cwV 2 hts gX6_blockFor_X4_blockOf rfl rfl rfl (by decide +kernel) ⟨Nat.le_of_ble_eq_true rfl, Nat.le_of_ble_eq_true rfl⟩) (fl_sub hP 1 rfl) hK (va_recv hK (fl_sub hP 1 rfl) (ci := 4) (q0 := 0) rfl rfl) rfl rfl hl.1 (Nat.le_of_ble_eq_true rfl) dX6_blockFor_8 ⟨Nat.le_of_ble_eq_true rfl, Nat.le_of_ble_eq_true rfl⟩ ?_
  refine lv_istore_n (lv' := [(3, .int z_1), (0, .ref (a 0 0)), (1, .int p1), (2, .int p2)]) hx hb dX6_blockFor_11 rfl hl (by decide) rfl (fun ls hl => ?_)
  refine lv_iload_n hx hb dX6_blockFor_12 rfl (lv_at hl 0 rfl) ?_
  refine lv_iconst (v := (-1)) hx hb dX6_blockFor_13 (by decide) ?_
  obtain ⟨k40_2, hk40_2, hf⟩ := jn_some hf
  have j40_2 : ∀ (ls : Array Slot), k40_2 = some o → lv_has ls 6 [(0, .ref (a 0 0)), (1, .int p1)] → W p l e (headSpec wsX6_blockFor rmX6_blockFor).room s m args below meth c s.heap [] 0 0 Q (F0 m 40 ls []) := by
    intro ls hf hl
    have hf := qa0 hk40_2 hf
    refine lv_iconst (v := (-1)) hx hb dX6_blockFor_40 (by decide) ?_
    refine lv_istore (lv' := [(4, .int (-1)), (0, .ref (a 0 0)), (1, .int p1)]) hx hb dX6_blockFor_41 hl (by decide) rfl (fun ls hl => ?_)
    refine lv_iconst (v := 0) hx hb dX6_blockFor_43 (by decide) ?_
    refine lv_istore (lv' := [(5, .int 0), (4, .int (-1)), (0, .ref (a 0 0)), (1, .int p1)]) hx hb dX6_blockFor_44 hl (by decide) rfl (fun ls hl => ?_)
    obtain ⟨G46_3, hG46_3, hf⟩ := qj2_some hf
    have j46_3 : ∀ (n : Nat) (y46_3_4 : Int32) (y46_3_5 : Int32) (ls : Array Slot), ql2 G46_3 n y46_3_4 y46_3_5 = some o → lv_has ls 6 [(0, .ref (a 0 0)), (1, .int p1), (4, .int y46_3_4), (5, .int y46_3_5)] → W p l e (headSpec wsX6_blockFor rmX6_blockFor).room s m args below meth c s.heap [] 0 0 Q (F0 m 46 ls []) := by
      intro n
      induction n with
      | zero => intro y46_3_4 y46_3_5 ls hf hl; exact (ql2_z hf).elim
      | succ n ih46_3 =>
        intro y46_3_4 y46_3_5 ls hf hl
        have hf := ql2_s hG46_3 hf
        obtain ⟨r46_3, hr46_3⟩ : ∃ z, z = ql2 G46_3 n := ⟨_, rfl⟩
        rw [← hr46_3] at hf ih46_3
        refine lv_iload hx hb dX6_blockFor_46 (lv_at hl 3 rfl) ?_
        refine lv_iconst (v := 4) hx hb dX6_blockFor_48 (by decide) ?_
        obtain ⟨k76_4, hk76_4, hf⟩ := jn_some hf
        have j76_4 : ∀ (ls : Array Slot), k76_4 = some o → lv_has ls 6 [(4, .int y46_3_4)] → W p l e (headSpec wsX6_blockFor rmX6_blockFor).room s m args below meth c s.heap [] 0 0 Q (F0 m 76 ls []) := by
          intro ls hf hl
          have hf := qa0 hk76_4 hf
          refine lv_iload hx hb dX6_blockFor_76 (lv_at hl 0 rfl) ?_
          rw [hQ]
          exact W.iret hx hb hr (fun t ht hW => ⟨_, rfl, Option.some.inj hf, ht⟩) (fun _ h => nomatch h) dX6_blockFor_78 hlocks
        refine lv_icmp_ge (tgt := 76) hx hb dX6_blockFor_49 (by decide) (fun c_5 => ?_) (fun c_5 => ?_)
        · have hf := ite_t hf c_5
          exact j76_4 _ hf (lv_sub hl [2] rfl)
        · have hf := ite_f hf c_5
          refine lv_iload hx hb dX6_blockFor_52 (lv_at hl 2 rfl) ?_
          refine lv_iconst (v := (-1)) hx hb dX6_blockFor_54 (by decide) ?_
          refine lv_icmp_ne (tgt := 76) hx hb dX6_blockFor_55 (by decide) (fun c_6 => ?_) (fun c_6 => ?_)
          · have hf := ite_f hf c_6
            exact j76_4 _ hf (lv_sub hl [2] rfl)
          · have hf := ite_t hf c_6
            refine lv_aload_n hx hb dX6_blockFor_58 rfl (lv_at hl 0 rfl) ?_
            refine lv_iload_n hx hb dX6_blockFor_59 rfl (lv_at hl 1 rfl) ?_
            refine lv_iload hx hb dX6_blockFor_60 (lv_at hl 3 rfl) ?_
            refine lv_iadd hx hb dX6_blockFor_62 ?_
            refine lv_iconst (v := 4) hx hb dX6_blockFor_63 (by decide) ?_
            refine lv_irem hx hb dX6_blockFor_64 (by decide) ?_
            obtain ⟨z_7, hz_7, hf⟩ := bn_some hf
            refine cRV (As := [.int ((p1 + y46_3_5) - (p1 + y46_3_5) / 4 * 4)]) (rest := []) ⟨hx, hb, hml, hown, hts⟩ (c_X6_lowestOfGroup l D cI cZ cJ cT a U ((p1 + y46_3_5) - (p1 + y46_3_5) / 4 * 4) z_7 hz_7) (cwV 1 hts gX6_blockFor_X6_lowestOfGroup rfl rfl rfl (by decide +kernel) ⟨Nat.le_of_ble_eq_true rfl, Nat.le_of_ble_eq_true rfl⟩) hP hK (va_recv hK (fl_sub hP 0 rfl) (ci := 6) (q0 := 0) rfl rfl) rfl rfl hl.1 (Nat.le_of_ble_eq_true rfl) dX6_blockFor_65 ⟨Nat.le_of_ble_eq_true rfl, Nat.le_of_ble_eq_true rfl⟩ ?_
            refine lv_istore (lv' := [(4, .int z_7), (0, .ref (a 0 0)), (1, .int p1), (5, .int y46_3_5)]) hx hb dX6_blockFor_68 hl (by decide) rfl (fun ls hl => ?_)
            refine lv_iinc (v := y46_3_5 + 1) (lv' := [(5, .int (y46_3_5 + 1)), (4, .int z_7), (0, .ref (a 0 0)), (1, .int p1)]) hx hb dX6_blockFor_70 hl (k := 3) rfl rfl (by decide) rfl (fun ls hl => ?_)
            refine lv_goto (tgt := 46) hx hb dX6_blockFor_73 (by decide) ?_
            exact ih46_3 _ _ _ hf (lv_sub hl [2, 3, 1, 0] rfl)
    exact j46_3 4096 _ _ _ hf (lv_sub hl [2, 3, 1, 0] rfl)
  refine lv_icmp_eq (tgt := 40) hx hb dX6_blockFor_14 (by decide) (fun c_8 => ?_) (fun c_8 => ?_)
  · have hf := ite_t hf c_8
    exact j40_2 _ hf (lv_sub hl [1, 2] rfl)
  · have hf := ite_f hf c_8
    refine lv_iload_n hx hb dX6_blockFor_17 rfl (lv_at hl 0 rfl) ?_
    refine lv_bipush (v := 16) hx hb dX6_blockFor_18 (by decide) ?_
    refine lv_irem hx hb dX6_blockFor_20 (by decide) ?_
    refine lv_bipush (v := 15) hx hb dX6_blockFor_21 (by decide) ?_
    refine lv_icmp_ge (tgt := 40) hx hb dX6_blockFor_23 (by decide) (fun c_9 => ?_) (fun c_9 => ?_)
    · have hf := ite_t hf c_9
      exact j40_2 _ hf (lv_sub hl [1, 2] rfl)
    · have hf := ite_f hf c_9
      refine lv_aload_n hx hb dX6_blockFor_26 rfl (lv_at hl 1 rfl) ?_
      refine lv_iload_n hx hb dX6_blockFor_27 rfl (lv_at hl 0 rfl) ?_
      refine lv_iconst (v := 1) hx hb dX6_blockFor_28 (by decide) ?_
      refine lv_iadd hx hb dX6_blockFor_29 ?_
      obtain ⟨z_10, hz_10, hf⟩ := bn_some hf
      refine cRV (As := [.int (z_1 + 1)]) (rest := []) ⟨hx, hb, hml, hown, hts⟩ (c_X6_isUnused l D cI cZ cJ cT a U (z_1 + 1) z_10 hz_10) (cwV 1 hts gX6_blockFor_X6_isUnused rfl rfl rfl (by decide +kernel) ⟨Nat.le_of_ble_eq_true rfl, Nat.le_of_ble_eq_true rfl⟩) hP hK (va_recv hK (fl_sub hP 0 rfl) (ci := 6) (q0 := 0) rfl rfl) rfl rfl hl.1 (Nat.le_of_ble_eq_true rfl) dX6_blockFor_30 ⟨Nat.le_of_ble_eq_true rfl, Nat.le_of_ble_eq_true rfl⟩ ?_
      refine lv_if_eq (tgt := 40) hx hb dX6_blockFor_33 (by decide) (fun c_11 => ?_) (fun c_11 => ?_)
      · have hf := ite_t hf c_11
        exact j40_2 _ hf (lv_sub hl [1, 2] rfl)
      · have hf := ite_f hf c_11
        refine lv_iload_n hx hb dX6_blockFor_36 rfl (lv_at hl 0 rfl) ?_
        refine lv_iconst (v := 1) hx hb dX6_blockFor_37 (by decide) ?_
        refine lv_iadd hx hb dX6_blockFor_38 ?_
        rw [hQ]
        exact W.iret hx hb hr (fun t ht hW => ⟨_, rfl, Option.some.inj hf, ht⟩) (fun _ h => nomatch h) dX6_blockFor_39 hlocks
set_option maxRecDepth 20000 in
theorem ggX6_blockToWrite_X4_blockOf : GoodIn wsX6_blockToWrite wsX4_blockOf := goodIn_r _ [6, 7, 8, 9, 5, 10, 11, 12, 13, 77, 78, 79, 80, 81, 82, 83, 84, 85, 86, 87, 88] (by decide +kernel) (by decide +kernel)
set_option maxRecDepth 20000 in
theorem gX6_blockToWrite_X4_blockOf : GoodIn wsX6_blockToWrite (wsV RX6 395 RX4 yX4_blockOf wsX4_blockOf) := goodIn_app (goodIn_of _ (by decide +kernel)) ggX6_blockToWrite_X4_blockOf
set_option maxRecDepth 20000 in
theorem ggX6_blockToWrite_X6_blockFor : GoodIn wsX6_blockToWrite wsX6_blockFor := goodIn_r _ [45, 1, 2, 3, 4, 5, 6, 7, 8, 9, 10, 11, 12, 13, 46, 47, 48, 17, 49, 50, 51, 52, 53, 54, 55, 56, 57, 58, 59, 60, 61, 62, 63, 64, 65, 66, 67, 68, 69, 70, 71, 72, 73, 74, 75, 76, 77, 78, 79, 80, 81, 82, 83, 84, 85, 86, 87, 88] (by decide +kernel) (by decide +kernel)
set_option maxRecDepth 20000 in
theorem gX6_blockToWrite_X6_blockFor : GoodIn wsX6_blockToWrite (wsV RX6 266 RX6 yX6_blockFor wsX6_blockFor) := goodIn_app (goodIn_of _ (by decide +kernel)) ggX6_blockToWrite_X6_blockFor
set_option maxRecDepth 20000 in
theorem ggX6_blockToWrite_X6_isInSnapshot : GoodIn wsX6_blockToWrite wsX6_isInSnapshot := goodIn_r _ [59, 60, 61, 51, 52, 53, 5, 54, 55, 66, 67, 68, 69, 70, 71, 72, 73, 74, 75, 76, 77, 78, 79, 80, 81, 82, 83, 84, 85, 86, 87, 88] (by decide +kernel) (by decide +kernel)
set_option maxRecDepth 20000 in
theorem gX6_blockToWrite_X6_isInSnapshot : GoodIn wsX6_blockToWrite (wsV RX6 455 RX6 yX6_isInSnapshot wsX6_isInSnapshot) := goodIn_app (goodIn_of _ (by decide +kernel)) ggX6_blockToWrite_X6_isInSnapshot
set_option maxRecDepth 20000 in
theorem ggX6_blockToWrite_X6_isWithinQuota : GoodIn wsX6_blockToWrite wsX6_isWithinQuota := goodIn_r _ [18, 1, 19, 20, 21, 22, 5, 23, 24, 11, 12, 13, 25, 26, 17, 27, 28, 29, 30, 31, 32, 33, 34, 35, 36, 37, 38, 39, 40, 41, 66, 67, 68, 69, 70, 71, 72, 73, 74, 75, 76, 77, 78, 79, 80, 81, 82, 83, 84, 85, 86, 87, 88] (by decide +kernel) (by decide +kernel)
set_option maxRecDepth 20000 in
theorem gX6_blockToWrite_X6_isWithinQuota : GoodIn wsX6_blockToWrite (wsV RX6 254 RX6 yX6_isWithinQuota wsX6_isWithinQuota) := goodIn_app (goodIn_of _ (by decide +kernel)) ggX6_blockToWrite_X6_isWithinQuota
theorem dX6_blockToWrite_0 : decode cX6_blockToWrite 0 = .ok (.aload_n 0, 1) := by decide +kernel
theorem dX6_blockToWrite_1 : decode cX6_blockToWrite 1 = .ok (.getfield 12, 3) := by decide +kernel
theorem dX6_blockToWrite_4 : decode cX6_blockToWrite 4 = .ok (.iload_n 1, 1) := by decide +kernel
theorem dX6_blockToWrite_5 : decode cX6_blockToWrite 5 = .ok (.iload_n 2, 1) := by decide +kernel
theorem dX6_blockToWrite_6 : decode cX6_blockToWrite 6 = .ok (.invokevirtual 395, 3) := by decide +kernel
theorem dX6_blockToWrite_9 : decode cX6_blockToWrite 9 = .ok (.istore_n 3, 1) := by decide +kernel
theorem dX6_blockToWrite_10 : decode cX6_blockToWrite 10 = .ok (.iload_n 3, 1) := by decide +kernel
theorem dX6_blockToWrite_11 : decode cX6_blockToWrite 11 = .ok (.iconst (-1), 1) := by decide +kernel
theorem dX6_blockToWrite_12 : decode cX6_blockToWrite 12 = .ok (.if_icmp .ne 23, 3) := by decide +kernel
theorem dX6_blockToWrite_15 : decode cX6_blockToWrite 15 = .ok (.aload_n 0, 1) := by decide +kernel
theorem dX6_blockToWrite_16 : decode cX6_blockToWrite 16 = .ok (.iload_n 1, 1) := by decide +kernel
theorem dX6_blockToWrite_17 : decode cX6_blockToWrite 17 = .ok (.iconst 1, 1) := by decide +kernel
theorem dX6_blockToWrite_18 : decode cX6_blockToWrite 18 = .ok (.invokevirtual 254, 3) := by decide +kernel
theorem dX6_blockToWrite_21 : decode cX6_blockToWrite 21 = .ok (.ifCond .eq 12, 3) := by decide +kernel
theorem dX6_blockToWrite_24 : decode cX6_blockToWrite 24 = .ok (.aload_n 0, 1) := by decide +kernel
theorem dX6_blockToWrite_25 : decode cX6_blockToWrite 25 = .ok (.iload_n 1, 1) := by decide +kernel
theorem dX6_blockToWrite_26 : decode cX6_blockToWrite 26 = .ok (.iload_n 2, 1) := by decide +kernel
theorem dX6_blockToWrite_27 : decode cX6_blockToWrite 27 = .ok (.invokevirtual 266, 3) := by decide +kernel
theorem dX6_blockToWrite_30 : decode cX6_blockToWrite 30 = .ok (.goto 4, 3) := by decide +kernel
theorem dX6_blockToWrite_33 : decode cX6_blockToWrite 33 = .ok (.iconst (-1), 1) := by decide +kernel
theorem dX6_blockToWrite_34 : decode cX6_blockToWrite 34 = .ok (.ireturn, 1) := by decide +kernel
theorem dX6_blockToWrite_35 : decode cX6_blockToWrite 35 = .ok (.aload_n 0, 1) := by decide +kernel
theorem dX6_blockToWrite_36 : decode cX6_blockToWrite 36 = .ok (.iload_n 3, 1) := by decide +kernel
theorem dX6_blockToWrite_37 : decode cX6_blockToWrite 37 = .ok (.invokevirtual 455, 3) := by decide +kernel
theorem dX6_blockToWrite_40 : decode cX6_blockToWrite 40 = .ok (.ifCond .eq 12, 3) := by decide +kernel
theorem dX6_blockToWrite_43 : decode cX6_blockToWrite 43 = .ok (.aload_n 0, 1) := by decide +kernel
theorem dX6_blockToWrite_44 : decode cX6_blockToWrite 44 = .ok (.iload_n 1, 1) := by decide +kernel
theorem dX6_blockToWrite_45 : decode cX6_blockToWrite 45 = .ok (.iload_n 2, 1) := by decide +kernel
theorem dX6_blockToWrite_46 : decode cX6_blockToWrite 46 = .ok (.invokevirtual 266, 3) := by decide +kernel
theorem dX6_blockToWrite_49 : decode cX6_blockToWrite 49 = .ok (.goto 4, 3) := by decide +kernel
theorem dX6_blockToWrite_52 : decode cX6_blockToWrite 52 = .ok (.iload_n 3, 1) := by decide +kernel
theorem dX6_blockToWrite_53 : decode cX6_blockToWrite 53 = .ok (.ireturn, 1) := by decide +kernel
def f_X6_blockToWrite (U : S2) (p1 : Int32) (p2 : Int32) : Option (Int32) := bn (f_X4_blockOf (U 1) p1 p2) (fun z_1 => if z_1 = (-1) then bn (f_X6_isWithinQuota U p1 1) (fun z_7 => jn (fun (v34_8_0 : Int32) => some v34_8_0) (fun k34_8 => if z_7 = 0 then k34_8 (-1) else bn (f_X6_blockFor U p1 p2) (fun z_10 => k34_8 z_10))) else bn (f_X6_isInSnapshot U z_1) (fun z_3 => jn (fun (v53_4_0 : Int32) => some v53_4_0) (fun k53_4 => if z_3 = 0 then k53_4 z_1 else bn (f_X6_blockFor U p1 p2) (fun z_6 => k53_4 z_6))))
def rmX6_blockToWrite : Room := { frames := 5, cells := 0, slots := 0, locals := 111 }
set_option maxHeartbeats 4000000 in
set_option maxRecDepth 100000 in
theorem c_X6_blockToWrite (l : Launch) (D : va_G) (cI cZ cJ cT : ClassId) (a : Nat → Nat → Nat) (U : S2) (p1 : Int32) (p2 : Int32) (o : Int32) (hf : f_X6_blockToWrite U p1 p2 = some o) : Met l yX6_blockToWrite wsX6_blockToWrite rmX6_blockToWrite (va_Pc [.ref (a 0 0), .int p1, .int p2] (PR D cls (tys cI cZ cJ cT) (wI cI cZ cT a U))) (QR o) 0 0 (fun _ => False) := by
  refine Met.ofW (cc := cX6_blockToWrite) (maxL := 4) (ret := (some .int)) (by decide) rfl ?_
  intro p e s m args below meth c s₁ B hml hv
  obtain ⟨hav, hP, hK⟩ := hv
  have hx := B.exec
  have hb := B.bytes
  have hr := B.returns
  have hlocks := B.notSynchronized
  have hts := atoms_spec (ws := wsX6_blockToWrite) B.pre
  have hown : s.vm.findClass RX6 = some m.cls := findClass_of_methodNamed B.named
  have i6 : ∀ w ∈ wsX60, w ∈ wsX6_blockToWrite := fun w h => List.mem_cons_of_mem _ (List.mem_append_left _ (List.mem_append_right _ h))
  have hk12 := hts (.fieldLink RX6 12 "Inodery" "now" "LInodery$Tree;") (by decide +kernel)
  refine Wq (fun Q hQ => ?_)
  refine W_entry hav (Nat.le_of_ble_eq_true rfl) (fun ls hl => ?_)
  have hl : lv_has ls 4 [(0, .ref (a 0 0)), (1, .int p1), (2, .int p2)] := hl
  unfold f_X6_blockToWrite at hf
  refine lv_aload_n hx hb dX6_blockToWrite_0 rfl (lv_at hl 0 rfl) ?_
  refine va_get (D := D) (ci := 6) (v := .ref (a 1 0)) (C := RX6) (T := TX6) (N := 11) hx hb hts i6 hown hK (fl_sub hP 0 rfl) 0 rfl rfl 0 (by decide) hk12 (fun _ h9 => h9) rfl dX6_blockToWrite_1 ?_
  refine lv_iload_n hx hb dX6_blockToWrite_4 rfl (lv_at hl 1 rfl) ?_
  refine lv_iload_n hx hb dX6_blockToWrite_5 rfl (lv_at hl 2 rfl) ?_
  obtain ⟨z_1, hz_1, hf⟩ := bn_some hf
  refine cRV (As := [.int p1, .int p2]) (rest := []) ⟨hx, hb, hml, hown, hts⟩ (c_X4_blockOf l D cI cZ cJ cT (a 1) (U 1) p1 p2 z_1 hz_1) (cwV 2 hts gX6_blockToWrite_X4_blockOf rfl rfl rfl (by decide +kernel) ⟨Nat.le_of_ble_eq_true rfl, Nat.le_of_ble_eq_true rfl⟩) (fl_sub hP 1 rfl) hK (va_recv hK (fl_sub hP 1 rfl) (ci := 4) (q0 := 0) rfl rfl) rfl rfl hl.1 (Nat.le_of_ble_eq_true rfl) dX6_blockToWrite_6 ⟨Nat.le_of_ble_eq_true rfl, Nat.le_of_ble_eq_true rfl⟩ ?_
  refine lv_istore_n (lv' := [(3, .int z_1), (0, .ref (a 0 0)), (1, .int p1), (2, .int p2)]) hx hb dX6_blockToWrite_9 rfl hl (by decide) rfl (fun ls hl => ?_)
  refine lv_iload_n hx hb dX6_blockToWrite_10 rfl (lv_at hl 0 rfl) ?_
  refine lv_iconst (v := (-1)) hx hb dX6_blockToWrite_11 (by decide) ?_
  refine lv_icmp_ne (tgt := 35) hx hb dX6_blockToWrite_12 (by decide) (fun c_2 => ?_) (fun c_2 => ?_)
  · have hf := ite_f hf c_2
    refine lv_aload_n hx hb dX6_blockToWrite_35 rfl (lv_at hl 1 rfl) ?_
    refine lv_iload_n hx hb dX6_blockToWrite_36 rfl (lv_at hl 0 rfl) ?_
    obtain ⟨z_3, hz_3, hf⟩ := bn_some hf
    refine cRV (As := [.int z_1]) (rest := []) ⟨hx, hb, hml, hown, hts⟩ (c_X6_isInSnapshot l D cI cZ cJ cT a U z_1 z_3 hz_3) (cwV 1 hts gX6_blockToWrite_X6_isInSnapshot rfl rfl rfl (by decide +kernel) ⟨Nat.le_of_ble_eq_true rfl, Nat.le_of_ble_eq_true rfl⟩) hP hK (va_recv hK (fl_sub hP 0 rfl) (ci := 6) (q0 := 0) rfl rfl) rfl rfl hl.1 (Nat.le_of_ble_eq_true rfl) dX6_blockToWrite_37 ⟨Nat.le_of_ble_eq_true rfl, Nat.le_of_ble_eq_true rfl⟩ ?_
    obtain ⟨k53_4, hk53_4, hf⟩ := jn_some hf
    have j53_4 : ∀ (v53_4_0 : Int32) (ls : Array Slot), k53_4 v53_4_0 = some o → lv_has ls 4 [] → W p l e (headSpec wsX6_blockToWrite rmX6_blockToWrite).room s m args below meth c s.heap [] 0 0 Q (F0 m 53 ls [.int v53_4_0]) := by
      intro v53_4_0 ls hf hl
      have hf := qa1 hk53_4 hf
      rw [hQ]
      exact W.iret hx hb hr (fun t ht hW => ⟨_, rfl, Option.some.inj hf, ht⟩) (fun _ h => nomatch h) dX6_blockToWrite_53 hlocks
    refine lv_if_eq (tgt := 52) hx hb dX6_blockToWrite_40 (by decide) (fun c_5 => ?_) (fun c_5 => ?_)
    · have hf := ite_t hf c_5
      refine lv_iload_n hx hb dX6_blockToWrite_52 rfl (lv_at hl 0 rfl) ?_
      exact j53_4 _ _ hf (lv_sub hl [] rfl)
    · have hf := ite_f hf c_5
      refine lv_aload_n hx hb dX6_blockToWrite_43 rfl (lv_at hl 1 rfl) ?_
      refine lv_iload_n hx hb dX6_blockToWrite_44 rfl (lv_at hl 2 rfl) ?_
      refine lv_iload_n hx hb dX6_blockToWrite_45 rfl (lv_at hl 3 rfl) ?_
      obtain ⟨z_6, hz_6, hf⟩ := bn_some hf
      refine cRV (As := [.int p1, .int p2]) (rest := []) ⟨hx, hb, hml, hown, hts⟩ (c_X6_blockFor l D cI cZ cJ cT a U p1 p2 z_6 hz_6) (cwV 2 hts gX6_blockToWrite_X6_blockFor rfl rfl rfl (by decide +kernel) ⟨Nat.le_of_ble_eq_true rfl, Nat.le_of_ble_eq_true rfl⟩) hP hK (va_recv hK (fl_sub hP 0 rfl) (ci := 6) (q0 := 0) rfl rfl) rfl rfl hl.1 (Nat.le_of_ble_eq_true rfl) dX6_blockToWrite_46 ⟨Nat.le_of_ble_eq_true rfl, Nat.le_of_ble_eq_true rfl⟩ ?_
      refine lv_goto (tgt := 53) hx hb dX6_blockToWrite_49 (by decide) ?_
      exact j53_4 _ _ hf (lv_sub hl [] rfl)
  · have hf := ite_t hf c_2
    refine lv_aload_n hx hb dX6_blockToWrite_15 rfl (lv_at hl 1 rfl) ?_
    refine lv_iload_n hx hb dX6_blockToWrite_16 rfl (lv_at hl 2 rfl) ?_
    refine lv_iconst (v := 1) hx hb dX6_blockToWrite_17 (by decide) ?_
    obtain ⟨z_7, hz_7, hf⟩ := bn_some hf
    refine cRV (As := [.int p1, .int 1]) (rest := []) ⟨hx, hb, hml, hown, hts⟩ (c_X6_isWithinQuota l D cI cZ cJ cT a U p1 1 z_7 hz_7) (cwV 2 hts gX6_blockToWrite_X6_isWithinQuota rfl rfl rfl (by decide +kernel) ⟨Nat.le_of_ble_eq_true rfl, Nat.le_of_ble_eq_true rfl⟩) hP hK (va_recv hK (fl_sub hP 0 rfl) (ci := 6) (q0 := 0) rfl rfl) rfl rfl hl.1 (Nat.le_of_ble_eq_true rfl) dX6_blockToWrite_18 ⟨Nat.le_of_ble_eq_true rfl, Nat.le_of_ble_eq_true rfl⟩ ?_
    obtain ⟨k34_8, hk34_8, hf⟩ := jn_some hf
    have j34_8 : ∀ (v34_8_0 : Int32) (ls : Array Slot), k34_8 v34_8_0 = some o → lv_has ls 4 [] → W p l e (headSpec wsX6_blockToWrite rmX6_blockToWrite).room s m args below meth c s.heap [] 0 0 Q (F0 m 34 ls [.int v34_8_0]) := by
      intro v34_8_0 ls hf hl
      have hf := qa1 hk34_8 hf
      rw [hQ]
      exact W.iret hx hb hr (fun t ht hW => ⟨_, rfl, Option.some.inj hf, ht⟩) (fun _ h => nomatch h) dX6_blockToWrite_34 hlocks
    refine lv_if_eq (tgt := 33) hx hb dX6_blockToWrite_21 (by decide) (fun c_9 => ?_) (fun c_9 => ?_)
    · have hf := ite_t hf c_9
      refine lv_iconst (v := (-1)) hx hb dX6_blockToWrite_33 (by decide) ?_
      exact j34_8 _ _ hf (lv_sub hl [] rfl)
    · have hf := ite_f hf c_9
      refine lv_aload_n hx hb dX6_blockToWrite_24 rfl (lv_at hl 1 rfl) ?_
      refine lv_iload_n hx hb dX6_blockToWrite_25 rfl (lv_at hl 2 rfl) ?_
      refine lv_iload_n hx hb dX6_blockToWrite_26 rfl (lv_at hl 3 rfl) ?_
      obtain ⟨z_10, hz_10, hf⟩ := bn_some hf
      refine cRV (As := [.int p1, .int p2]) (rest := []) ⟨hx, hb, hml, hown, hts⟩ (c_X6_blockFor l D cI cZ cJ cT a U p1 p2 z_10 hz_10) (cwV 2 hts gX6_blockToWrite_X6_blockFor rfl rfl rfl (by decide +kernel) ⟨Nat.le_of_ble_eq_true rfl, Nat.le_of_ble_eq_true rfl⟩) hP hK (va_recv hK (fl_sub hP 0 rfl) (ci := 6) (q0 := 0) rfl rfl) rfl rfl hl.1 (Nat.le_of_ble_eq_true rfl) dX6_blockToWrite_27 ⟨Nat.le_of_ble_eq_true rfl, Nat.le_of_ble_eq_true rfl⟩ ?_
      refine lv_goto (tgt := 34) hx hb dX6_blockToWrite_30 (by decide) ?_
      exact j34_8 _ _ hf (lv_sub hl [] rfl)
set_option maxRecDepth 20000 in
theorem ggX6_write_X0_put : GoodIn wsX6_write wsX0_put := goodIn_r _ [132, 133, 134, 135, 136, 131, 137, 138, 139, 140, 141, 170, 171, 172] (by decide +kernel) (by decide +kernel)
set_option maxRecDepth 20000 in
theorem gX6_write_X0_put : GoodIn wsX6_write (wsV RX6 234 RX0 yX0_put wsX0_put) := goodIn_app (goodIn_of _ (by decide +kernel)) ggX6_write_X0_put
set_option maxRecDepth 20000 in
theorem ggX6_write_X3_thingOf : GoodIn wsX6_write wsX3_thingOf := goodIn_r _ [50, 51, 41, 20, 21, 22, 23, 24, 153, 154, 155, 156, 157] (by decide +kernel) (by decide +kernel)
set_option maxRecDepth 20000 in
theorem gX6_write_X3_thingOf : GoodIn wsX6_write (wsV RX6 205 RX3 yX3_thingOf wsX3_thingOf) := goodIn_app (goodIn_of _ (by decide +kernel)) ggX6_write_X3_thingOf
set_option maxRecDepth 20000 in
theorem ggX6_write_X4_setPage : GoodIn wsX6_write wsX4_setPage := goodIn_r _ [122, 61, 123, 62, 63, 59, 64, 65, 66, 67, 124, 125, 126, 127, 108, 85, 158, 159, 160, 161, 162, 163, 164, 165, 166, 167, 168, 169] (by decide +kernel) (by decide +kernel)
set_option maxRecDepth 20000 in
theorem gX6_write_X4_setPage : GoodIn wsX6_write (wsV RX6 230 RX4 yX4_setPage wsX4_setPage) := goodIn_app (goodIn_of _ (by decide +kernel)) ggX6_write_X4_setPage
set_option maxRecDepth 20000 in
theorem ggX6_write_X6_blockToWrite : GoodIn wsX6_write wsX6_blockToWrite := goodIn_r _ [55, 6, 56, 57, 58, 59, 60, 61, 62, 63, 64, 65, 66, 67, 68, 69, 70, 11, 71, 72, 73, 74, 75, 76, 77, 78, 79, 80, 81, 82, 83, 84, 85, 86, 87, 88, 89, 90, 91, 92, 93, 94, 95, 96, 97, 98, 99, 100, 101, 102, 103, 104, 105, 106, 107, 108, 109, 110, 111, 112, 113, 114, 115, 116, 117, 118, 142, 143, 144, 145, 146, 147, 148, 149, 150, 151, 152, 158, 159, 160, 161, 162, 163, 164, 165, 166, 167, 168, 169] (by decide +kernel) (by decide +kernel)
set_option maxRecDepth 20000 in
theorem gX6_write_X6_blockToWrite : GoodIn wsX6_write (wsV RX6 225 RX6 yX6_blockToWrite wsX6_blockToWrite) := goodIn_app (goodIn_of _ (by decide +kernel)) ggX6_write_X6_blockToWrite
set_option maxRecDepth 20000 in
theorem ggX6_write_X6_demandHandleAndPage : GoodIn wsX6_write wsX6_demandHandleAndPage := goodIn_ca (goodIn_r _ [12, 13, 14, 15, 16, 17, 11, 18, 5, 19, 20, 21, 22, 23, 24, 25, 26, 27, 142, 143, 144, 145, 146, 147, 148, 149, 150, 151, 152, 153, 154, 155, 156, 157] (by decide +kernel) (by decide +kernel)) (goodIn_sub (fun _ h => List.mem_cons_of_mem _ (List.mem_append_right _ h)) (by decide +kernel))
set_option maxRecDepth 20000 in
theorem gX6_write_X6_demandHandleAndPage : GoodIn wsX6_write (wsV RX6 217 RX6 yX6_demandHandleAndPage wsX6_demandHandleAndPage) := goodIn_app (goodIn_of _ (by decide +kernel)) ggX6_write_X6_demandHandleAndPage
set_option maxRecDepth 20000 in
theorem ggX6_write_X6_demandWriting : GoodIn wsX6_write wsX6_demandWriting := goodIn_ca (goodIn_r _ [31, 3, 4, 5, 32, 33, 34, 11, 35, 36, 37, 38, 22, 39, 40, 41, 20, 21, 23, 24, 42, 43, 44, 45, 46, 142, 143, 144, 145, 146, 147, 148, 149, 150, 151, 152, 153, 154, 155, 156, 157] (by decide +kernel) (by decide +kernel)) (goodIn_sub (fun _ h => List.mem_cons_of_mem _ (List.mem_append_left _ (List.mem_append_right _ h))) (by decide +kernel))
set_option maxRecDepth 20000 in
theorem gX6_write_X6_demandWriting : GoodIn wsX6_write (wsV RX6 222 RX6 yX6_demandWriting wsX6_demandWriting) := goodIn_app (goodIn_of _ (by decide +kernel)) ggX6_write_X6_demandWriting
theorem dX6_write_0 : decode cX6_write 0 = .ok (.aload_n 0, 1) := by decide +kernel
theorem dX6_write_1 : decode cX6_write 1 = .ok (.iload_n 1, 1) := by decide +kernel
theorem dX6_write_2 : decode cX6_write 2 = .ok (.iload_n 2, 1) := by decide +kernel
theorem dX6_write_3 : decode cX6_write 3 = .ok (.invokevirtual 217, 3) := by decide +kernel
theorem dX6_write_6 : decode cX6_write 6 = .ok (.iload_n 3, 1) := by decide +kernel
theorem dX6_write_7 : decode cX6_write 7 = .ok (.ifCond .lt 10, 3) := by decide +kernel
theorem dX6_write_10 : decode cX6_write 10 = .ok (.iload_n 3, 1) := by decide +kernel
theorem dX6_write_11 : decode cX6_write 11 = .ok (.sipush 255, 3) := by decide +kernel
theorem dX6_write_14 : decode cX6_write 14 = .ok (.if_icmp .le 13, 3) := by decide +kernel
theorem dX6_write_17 : decode cX6_write 17 = .ok (.new 88, 3) := by decide +kernel
theorem dX6_write_20 : decode cX6_write 20 = .ok (.dup, 1) := by decide +kernel
theorem dX6_write_21 : decode cX6_write 21 = .ok (.ldc 220, 2) := by decide +kernel
theorem dX6_write_23 : decode cX6_write 23 = .ok (.invokespecial 92, 3) := by decide +kernel
theorem dX6_write_26 : decode cX6_write 26 = .ok (.athrow, 1) := by decide +kernel
theorem dX6_write_27 : decode cX6_write 27 = .ok (.aload_n 0, 1) := by decide +kernel
theorem dX6_write_28 : decode cX6_write 28 = .ok (.iload_n 1, 1) := by decide +kernel
theorem dX6_write_29 : decode cX6_write 29 = .ok (.invokevirtual 222, 3) := by decide +kernel
theorem dX6_write_32 : decode cX6_write 32 = .ok (.aload_n 0, 1) := by decide +kernel
theorem dX6_write_33 : decode cX6_write 33 = .ok (.getfield 51, 3) := by decide +kernel
theorem dX6_write_36 : decode cX6_write 36 = .ok (.iload_n 1, 1) := by decide +kernel
theorem dX6_write_37 : decode cX6_write 37 = .ok (.invokevirtual 205, 3) := by decide +kernel
theorem dX6_write_40 : decode cX6_write 40 = .ok (.istore 4, 2) := by decide +kernel
theorem dX6_write_42 : decode cX6_write 42 = .ok (.aload_n 0, 1) := by decide +kernel
theorem dX6_write_43 : decode cX6_write 43 = .ok (.iload 4, 2) := by decide +kernel
theorem dX6_write_45 : decode cX6_write 45 = .ok (.iload_n 2, 1) := by decide +kernel
theorem dX6_write_46 : decode cX6_write 46 = .ok (.invokevirtual 225, 3) := by decide +kernel
theorem dX6_write_49 : decode cX6_write 49 = .ok (.istore 5, 2) := by decide +kernel
theorem dX6_write_51 : decode cX6_write 51 = .ok (.iload 5, 2) := by decide +kernel
theorem dX6_write_53 : decode cX6_write 53 = .ok (.iconst (-1), 1) := by decide +kernel
theorem dX6_write_54 : decode cX6_write 54 = .ok (.if_icmp .ne 13, 3) := by decide +kernel
theorem dX6_write_57 : decode cX6_write 57 = .ok (.new 110, 3) := by decide +kernel
theorem dX6_write_60 : decode cX6_write 60 = .ok (.dup, 1) := by decide +kernel
theorem dX6_write_61 : decode cX6_write 61 = .ok (.ldc 228, 2) := by decide +kernel
theorem dX6_write_63 : decode cX6_write 63 = .ok (.invokespecial 114, 3) := by decide +kernel
theorem dX6_write_66 : decode cX6_write 66 = .ok (.athrow, 1) := by decide +kernel
theorem dX6_write_67 : decode cX6_write 67 = .ok (.aload_n 0, 1) := by decide +kernel
theorem dX6_write_68 : decode cX6_write 68 = .ok (.getfield 12, 3) := by decide +kernel
theorem dX6_write_71 : decode cX6_write 71 = .ok (.iload 4, 2) := by decide +kernel
theorem dX6_write_73 : decode cX6_write 73 = .ok (.iload_n 2, 1) := by decide +kernel
theorem dX6_write_74 : decode cX6_write 74 = .ok (.iconst 2, 1) := by decide +kernel
theorem dX6_write_75 : decode cX6_write 75 = .ok (.iload 5, 2) := by decide +kernel
theorem dX6_write_77 : decode cX6_write 77 = .ok (.invokevirtual 230, 3) := by decide +kernel
theorem dX6_write_80 : decode cX6_write 80 = .ok (.aload_n 0, 1) := by decide +kernel
theorem dX6_write_81 : decode cX6_write 81 = .ok (.getfield 44, 3) := by decide +kernel
theorem dX6_write_84 : decode cX6_write 84 = .ok (.iload 4, 2) := by decide +kernel
theorem dX6_write_86 : decode cX6_write 86 = .ok (.iload_n 2, 1) := by decide +kernel
theorem dX6_write_87 : decode cX6_write 87 = .ok (.iload_n 3, 1) := by decide +kernel
theorem dX6_write_88 : decode cX6_write 88 = .ok (.invokevirtual 234, 3) := by decide +kernel
theorem dX6_write_91 : decode cX6_write 91 = .ok (.iload 5, 2) := by decide +kernel
theorem dX6_write_93 : decode cX6_write 93 = .ok (.ireturn, 1) := by decide +kernel
def f_X6_write (U : S2) (p1 : Int32) (p2 : Int32) (p3 : Int32) : Option (Nat × Int32 × S2) := bn (f_X6_demandHandleAndPage U p1 p2) (fun z_1 => if z_1.1 = 0 then jn (some (1, 0, z_1.2.2)) (fun k17_3 => if p3 < 0 then k17_3 else if p3 ≤ 255 then bn (f_X6_demandWriting z_1.2.2 p1) (fun z_6 => if z_6.1 = 0 then bn (f_X3_thingOf (z_6.2.2 9) p1) (fun z_8 => bn (f_X6_blockToWrite z_6.2.2 z_8 p2) (fun z_9 => if z_9 = (-1) then some (3, 0, z_6.2.2) else bn (f_X4_setPage (z_6.2.2 1) z_8 p2 2 z_9) (fun z_11 => bv (upc z_6.2.2 1 z_11) (fun u_12 => bn (f_X0_put (u_12 8) z_8 p2 p3) (fun z_13 => bv (upc u_12 8 z_13) (fun u_14 => some (0, z_9, u_14))))))) else some (z_6.1, 0, z_6.2.2)) else k17_3) else some (z_1.1, 0, z_1.2.2))
def rmX6_write : Room := { frames := 8, cells := 5, slots := 30, locals := 134 }
set_option maxHeartbeats 4000000 in
set_option maxRecDepth 100000 in
theorem c_X6_write (l : Launch) (hst : l.stackTraces = false) (D : va_G) (cI cZ cJ cT : ClassId) (a : Nat → Nat → Nat) (sz : Nat) (U : S2) (p1 : Int32) (p2 : Int32) (p3 : Int32) (o : Nat × Int32 × S2) (hf : f_X6_write U p1 p2 p3 = some o) : vx_Met l yX6_write wsX6_write rmX6_write (va_Pc [.ref (a 0 0), .int p1, .int p2, .int p3] (PX D cls (tys cI cZ cJ cT) (wI cI cZ cT a U) sz)) (QXi D cls o.1 o.2.1 (wI cI cZ cT a o.2.2) (va_A (wI cI cZ cT a U) sz)) (XX D cls o.1 (wI cI cZ cT a o.2.2) (va_A (wI cI cZ cT a U) sz)) 5 30 (va_A (wI cI cZ cT a U) sz) := by
  refine vx_ofW (cc := cX6_write) (maxL := 6) (ret := (some .int)) (by decide) rfl ?_
  intro p e s m args below meth c s₁ B hml hxt hv
  obtain ⟨hav, ⟨hsz, hP, hK, hD0⟩, hE⟩ := hv
  have hx := B.exec
  have hb := B.bytes
  have hr := B.returns
  have hlocks := B.notSynchronized
  have hts := atoms_spec (ws := wsX6_write) B.pre
  have hown : s.vm.findClass RX6 = some m.cls := findClass_of_methodNamed B.named
  have i6 : ∀ w ∈ wsX60, w ∈ wsX6_write := fun w h => List.mem_cons_of_mem _ (List.mem_append_left _ (List.mem_append_left _ (List.mem_append_left _ (List.mem_append_left _ (List.mem_append_left _ (List.mem_append_left _ (List.mem_append_right _ h)))))))
  have hk12 := hts (.fieldLink RX6 12 "Inodery" "now" "LInodery$Tree;") (by decide +kernel)
  have hk44 := hts (.fieldLink RX6 44 "Inodery" "cache" "LInodery$Cache;") (by decide +kernel)
  have hk51 := hts (.fieldLink RX6 51 "Inodery" "handles" "LInodery$Handles;") (by decide +kernel)
  subst hsz
  have hD := hD0.self (sz := s.heap.size)
  generalize hAe : va_A (wI cI cZ cT a U) s.heap.size = A at hD hE ⊢
  have hA : ∀ q : Nat, s.heap.size ≤ q → A q := fun q h => by rw [← hAe]; exact Or.inr h
  have hS : va_S A s.heap s.heap [] := va_S.rf
  have hDD : ∀ V : S2, va_D A (wI cI cZ cT a V) := fun _ => D_same (w := (wI cI cZ cT a U)) rfl hD
  refine Wq (fun Q hQ => ?_)
  refine W_entry hav (Nat.le_of_ble_eq_true rfl) (fun ls hl => ?_)
  have hl : lv_has ls 6 [(0, .ref (a 0 0)), (1, .int p1), (2, .int p2), (3, .int p3)] := hl
  unfold f_X6_write at hf
  refine W_heap hP hS (fun H locs hP hS => ?_)
  refine lv_aload_n hx hb dX6_write_0 rfl (lv_at hl 0 rfl) ?_
  refine lv_iload_n hx hb dX6_write_1 rfl (lv_at hl 1 rfl) ?_
  refine lv_iload_n hx hb dX6_write_2 rfl (lv_at hl 2 rfl) ?_
  obtain ⟨z_1, hz_1, hf⟩ := bn_some hf
  refine cXVv (As := [.int p1, .int p2]) (rest := []) ⟨hx, hb, hml, hown, hts⟩ (c_X6_demandHandleAndPage l hst D cI cZ cJ cT a H.size U p1 p2 z_1 hz_1) (cwV 2 hts gX6_write_X6_demandHandleAndPage rfl rfl rfl (by decide +kernel) ⟨Nat.le_of_ble_eq_true rfl, Nat.le_of_ble_eq_true rfl⟩) hP hK (hDD U) hE hS (own_free (hDD U) hS hA) (va_recv hK (fl_sub hP 0 rfl) (ci := 6) (q0 := 0) rfl rfl) rfl rfl hl.1 (Nat.le_of_ble_eq_true rfl) dX6_write_3 ⟨Nat.le_of_ble_eq_true rfl, Nat.le_of_ble_eq_true rfl⟩ (fun E ce q9 H locs k_2 hE9 hP hS hce hcv hcl => ?_) (fun H locs k_2 hP hS => ?_)
  · have hf := ite_f hf k_2
    have eo := Option.some.inj hf
    have hP : va_P D cls (wI cI cZ cT a o.2.2) H := by rw [← eo]; exact hP
    rw [hQ]
    exact xout (k := o.1) hxt hlocks (by rw [← eo]; exact k_2) (by rw [← eo]; exact hE9) hP hS hce hcv hcl (Nat.le_of_ble_eq_true rfl) (Nat.le_of_ble_eq_true rfl)
  have hf := ite_t hf k_2
  refine lv_iload_n hx hb dX6_write_6 rfl (lv_at hl 3 rfl) ?_
  obtain ⟨k17_3, hk17_3, hf⟩ := jn_some hf
  have j17_3 : ∀ (H : Heap) (locs : List Loc) (ls : Array Slot), k17_3 = some o → va_P D cls (wI cI cZ cT a z_1.2.2) H → va_S A s.heap H locs → lv_has ls 6 [] → W p l e (headSpec wsX6_write rmX6_write).room s m args below meth c H locs 2 12 Q (F0 m 17 ls []) := by
    intro H locs ls hf hP hS hl
    have hf := qa0 hk17_3 hf
    have eo := Option.some.inj hf
    have hP : va_P D cls (wI cI cZ cT a o.2.2) H := by rw [← eo]; exact hP
    rw [hQ]
    have hk0 : o.1 = 1 := by rw [← eo]
    exact thr o.1 (text := "number is out of range") (by rw [hk0]; rfl) (by rw [hk0]; decide) hx hb hst hown (by decide +kernel) (hts (.classLink RX6 88 "java/lang/IllegalArgumentException") (by decide +kernel)) (hts (.initialized "java/lang/IllegalArgumentException") (by decide +kernel)) (fun w h => hts w (List.mem_cons_of_mem _ (List.mem_append_left _ (List.mem_append_left _ (List.mem_append_right _ h))))) (EX_b1 hE) ok1 (by decide +kernel) hE hS hP (hl.1.trans hml.symm) dX6_write_17 dX6_write_20 dX6_write_21 dX6_write_23 dX6_write_26 hxt (Nat.le_of_ble_eq_true rfl) (Nat.le_of_ble_eq_true rfl) (Nat.le_of_ble_eq_true rfl) (Nat.le_of_ble_eq_true rfl) hlocks (Nat.le_of_ble_eq_true rfl) (Nat.le_of_ble_eq_true rfl)
  refine lv_if_lt (tgt := 17) hx hb dX6_write_7 (by decide) (fun c_4 => ?_) (fun c_4 => ?_)
  · have hf := ite_t hf c_4
    refine W.widen (k := 2) (n := 12) (Nat.le_of_ble_eq_true rfl) (Nat.le_of_ble_eq_true rfl) ?_
    exact j17_3 _ _ _ hf hP hS (lv_sub hl [] rfl)
  · have hf := ite_f hf c_4
    refine lv_iload_n hx hb dX6_write_10 rfl (lv_at hl 3 rfl) ?_
    refine lv_sipush (v := 255) hx hb dX6_write_11 (by decide) ?_
    refine lv_icmp_le (tgt := 27) hx hb dX6_write_14 (by decide) (fun c_5 => ?_) (fun c_5 => ?_)
    · have hf := ite_t hf c_5
      refine lv_aload_n hx hb dX6_write_27 rfl (lv_at hl 0 rfl) ?_
      refine lv_iload_n hx hb dX6_write_28 rfl (lv_at hl 1 rfl) ?_
      obtain ⟨z_6, hz_6, hf⟩ := bn_some hf
      refine cXVv (As := [.int p1]) (rest := []) ⟨hx, hb, hml, hown, hts⟩ (c_X6_demandWriting l hst D cI cZ cJ cT a H.size z_1.2.2 p1 z_6 hz_6) (cwV 1 hts gX6_write_X6_demandWriting rfl rfl rfl (by decide +kernel) ⟨Nat.le_of_ble_eq_true rfl, Nat.le_of_ble_eq_true rfl⟩) hP hK (hDD z_1.2.2) hE hS (own_free (hDD z_1.2.2) hS hA) (va_recv hK (fl_sub hP 0 rfl) (ci := 6) (q0 := 0) rfl rfl) rfl rfl hl.1 (Nat.le_of_ble_eq_true rfl) dX6_write_29 ⟨Nat.le_of_ble_eq_true rfl, Nat.le_of_ble_eq_true rfl⟩ (fun E ce q9 H locs k_7 hE9 hP hS hce hcv hcl => ?_) (fun H locs k_7 hP hS => ?_)
      · have hf := ite_f hf k_7
        have eo := Option.some.inj hf
        have hP : va_P D cls (wI cI cZ cT a o.2.2) H := by rw [← eo]; exact hP
        rw [hQ]
        exact xout (k := o.1) hxt hlocks (by rw [← eo]; exact k_7) (by rw [← eo]; exact hE9) hP hS hce hcv hcl (Nat.le_of_ble_eq_true rfl) (Nat.le_of_ble_eq_true rfl)
      have hf := ite_t hf k_7
      refine lv_aload_n hx hb dX6_write_32 rfl (lv_at hl 0 rfl) ?_
      refine va_get (D := D) (ci := 6) (v := .ref (a 9 0)) (C := RX6) (T := TX6) (N := 11) hx hb hts i6 hown hK (fl_sub hP 0 rfl) 0 rfl rfl 7 (by decide) hk51 (fun _ h9 => h9) rfl dX6_write_33 ?_
      refine lv_iload_n hx hb dX6_write_36 rfl (lv_at hl 1 rfl) ?_
      obtain ⟨z_8, hz_8, hf⟩ := bn_some hf
      refine cRV (As := [.int p1]) (rest := []) ⟨hx, hb, hml, hown, hts⟩ (c_X3_thingOf l D cI cZ cJ cT (a 9) (z_6.2.2 9) p1 z_8 hz_8) (cwV 1 hts gX6_write_X3_thingOf rfl rfl rfl (by decide +kernel) ⟨Nat.le_of_ble_eq_true rfl, Nat.le_of_ble_eq_true rfl⟩) (fl_sub hP 9 rfl) hK (va_recv hK (fl_sub hP 9 rfl) (ci := 3) (q0 := 0) rfl rfl) rfl rfl hl.1 (Nat.le_of_ble_eq_true rfl) dX6_write_37 ⟨Nat.le_of_ble_eq_true rfl, Nat.le_of_ble_eq_true rfl⟩ ?_
      refine lv_istore (lv' := [(4, .int z_8), (0, .ref (a 0 0)), (1, .int p1), (2, .int p2), (3, .int p3)]) hx hb dX6_write_40 hl (by decide) rfl (fun ls hl => ?_)
      refine lv_aload_n hx hb dX6_write_42 rfl (lv_at hl 1 rfl) ?_
      refine lv_iload hx hb dX6_write_43 (lv_at hl 0 rfl) ?_
      refine lv_iload_n hx hb dX6_write_45 rfl (lv_at hl 3 rfl) ?_
      obtain ⟨z_9, hz_9, hf⟩ := bn_some hf
      refine cRV (As := [.int z_8, .int p2]) (rest := []) ⟨hx, hb, hml, hown, hts⟩ (c_X6_blockToWrite l D cI cZ cJ cT a z_6.2.2 z_8 p2 z_9 hz_9) (cwV 2 hts gX6_write_X6_blockToWrite rfl rfl rfl (by decide +kernel) ⟨Nat.le_of_ble_eq_true rfl, Nat.le_of_ble_eq_true rfl⟩) hP hK (va_recv hK (fl_sub hP 0 rfl) (ci := 6) (q0 := 0) rfl rfl) rfl rfl hl.1 (Nat.le_of_ble_eq_true rfl) dX6_write_46 ⟨Nat.le_of_ble_eq_true rfl, Nat.le_of_ble_eq_true rfl⟩ ?_
      refine lv_istore (lv' := [(5, .int z_9), (4, .int z_8), (0, .ref (a 0 0)), (1, .int p1), (2, .int p2), (3, .int p3)]) hx hb dX6_write_49 hl (by decide) rfl (fun ls hl => ?_)
      refine lv_iload hx hb dX6_write_51 (lv_at hl 0 rfl) ?_
      refine lv_iconst (v := (-1)) hx hb dX6_write_53 (by decide) ?_
      refine lv_icmp_ne (tgt := 67) hx hb dX6_write_54 (by decide) (fun c_10 => ?_) (fun c_10 => ?_)
      · have hf := ite_f hf c_10
        refine lv_aload_n hx hb dX6_write_67 rfl (lv_at hl 2 rfl) ?_
        refine va_get (D := D) (ci := 6) (v := .ref (a 1 0)) (C := RX6) (T := TX6) (N := 11) hx hb hts i6 hown hK (fl_sub hP 0 rfl) 0 rfl rfl 0 (by decide) hk12 (fun _ h9 => h9) rfl dX6_write_68 ?_
        refine lv_iload hx hb dX6_write_71 (lv_at hl 1 rfl) ?_
        refine lv_iload_n hx hb dX6_write_73 rfl (lv_at hl 4 rfl) ?_
        refine lv_iconst (v := 2) hx hb dX6_write_74 (by decide) ?_
        refine lv_iload hx hb dX6_write_75 (lv_at hl 0 rfl) ?_
        obtain ⟨z_11, hz_11, hf⟩ := bn_some hf
        refine cWVv (As := [.int z_8, .int p2, .int 2, .int z_9]) (rest := []) ⟨hx, hb, hml, hown, hts⟩ (c_X4_setPage l D cI cZ cJ cT (a 1) H.size (z_6.2.2 1) z_8 p2 2 z_9 z_11 hz_11) (cwV 4 hts gX6_write_X4_setPage rfl rfl rfl (by decide +kernel) ⟨Nat.le_of_ble_eq_true rfl, Nat.le_of_ble_eq_true rfl⟩) (fl_sub hP 1 rfl) hK (fl_subD (hDD z_6.2.2) 1 rfl) hS (fl_free (hDD z_6.2.2) hS hA 1 rfl) (va_recv hK (fl_sub hP 1 rfl) (ci := 4) (q0 := 0) rfl rfl) rfl rfl hl.1 (Nat.le_of_ble_eq_true rfl) dX6_write_77 ⟨Nat.le_of_ble_eq_true rfl, Nat.le_of_ble_eq_true rfl⟩ (fun H1 locs hP1 hk1 hS => ?_)
        obtain ⟨u_12, hu_12, hf⟩ := bv_some hf
        have hP : va_P D cls (wI cI cZ cT a u_12) H1 := by rw [hu_12]; exact fl_join hP (hDD z_6.2.2) 1 rfl hk1 hP1
        clear hP1 hk1
        generalize H1 = H at hP hS ⊢
        refine lv_aload_n hx hb dX6_write_80 rfl (lv_at hl 2 rfl) ?_
        refine va_get (D := D) (ci := 6) (v := .ref (a 8 0)) (C := RX6) (T := TX6) (N := 11) hx hb hts i6 hown hK (fl_sub hP 0 rfl) 0 rfl rfl 6 (by decide) hk44 (fun _ h9 => h9) rfl dX6_write_81 ?_
        refine lv_iload hx hb dX6_write_84 (lv_at hl 1 rfl) ?_
        refine lv_iload_n hx hb dX6_write_86 rfl (lv_at hl 4 rfl) ?_
        refine lv_iload_n hx hb dX6_write_87 rfl (lv_at hl 5 rfl) ?_
        obtain ⟨z_13, hz_13, hf⟩ := bn_some hf
        refine cWVv (As := [.int z_8, .int p2, .int p3]) (rest := []) ⟨hx, hb, hml, hown, hts⟩ (c_X0_put l D cI cZ cJ cT (a 8) H.size (u_12 8) z_8 p2 p3 z_13 hz_13) (cwV 3 hts gX6_write_X0_put rfl rfl rfl (by decide +kernel) ⟨Nat.le_of_ble_eq_true rfl, Nat.le_of_ble_eq_true rfl⟩) (fl_sub hP 8 rfl) hK (fl_subD (hDD u_12) 8 rfl) hS (fl_free (hDD u_12) hS hA 8 rfl) (va_recv hK (fl_sub hP 8 rfl) (ci := 0) (q0 := 0) rfl rfl) rfl rfl hl.1 (Nat.le_of_ble_eq_true rfl) dX6_write_88 ⟨Nat.le_of_ble_eq_true rfl, Nat.le_of_ble_eq_true rfl⟩ (fun H1 locs hP1 hk1 hS => ?_)
        obtain ⟨u_14, hu_14, hf⟩ := bv_some hf
        have hP : va_P D cls (wI cI cZ cT a u_14) H1 := by rw [hu_14]; exact fl_join hP (hDD u_12) 8 rfl hk1 hP1
        clear hP1 hk1
        generalize H1 = H at hP hS ⊢
        refine lv_iload hx hb dX6_write_91 (lv_at hl 0 rfl) ?_
        have eo := Option.some.inj hf
        have hP : va_P D cls (wI cI cZ cT a o.2.2) H := by rw [← eo]; exact hP
        rw [hQ]
        refine W.widen (k := 5) (n := 30) (Nat.le_of_ble_eq_true rfl) (Nat.le_of_ble_eq_true rfl) ?_
        exact vx_ret (W.iret hx hb hr (fun t ht hW => ⟨⟨_, (), rfl, ⟨(by rw [← eo]), (by rw [← eo])⟩, P_at ht hP⟩, hS.F ht⟩) hS.2.2 dX6_write_93 hlocks)
      · have hf := ite_t hf c_10
        have eo := Option.some.inj hf
        have hP : va_P D cls (wI cI cZ cT a o.2.2) H := by rw [← eo]; exact hP
        rw [hQ]
        have hk0 : o.1 = 3 := by rw [← eo]
        exact thr o.1 (text := "no block for the page") (by rw [hk0]; rfl) (by rw [hk0]; decide) hx hb hst hown (by decide +kernel) (hts (.classLink RX6 110 "java/lang/IllegalStateException") (by decide +kernel)) (hts (.initialized "java/lang/IllegalStateException") (by decide +kernel)) (fun w h => hts w (List.mem_cons_of_mem _ (List.mem_append_left _ (List.mem_append_right _ h)))) (EX_b3 hE) ok3 (by decide +kernel) hE hS hP (hl.1.trans hml.symm) dX6_write_57 dX6_write_60 dX6_write_61 dX6_write_63 dX6_write_66 hxt (Nat.le_of_ble_eq_true rfl) (Nat.le_of_ble_eq_true rfl) (Nat.le_of_ble_eq_true rfl) (Nat.le_of_ble_eq_true rfl) hlocks (Nat.le_of_ble_eq_true rfl) (Nat.le_of_ble_eq_true rfl)
    · have hf := ite_f hf c_5
      refine W.widen (k := 2) (n := 12) (Nat.le_of_ble_eq_true rfl) (Nat.le_of_ble_eq_true rfl) ?_
      exact j17_3 _ _ _ hf hP hS (lv_sub hl [] rfl)
set_option maxRecDepth 20000 in
theorem ggX6_writtenNumber_X2_numberOf : GoodIn wsX6_writtenNumber wsX2_numberOf := goodIn_r _ [23, 24, 25, 26, 22, 27, 51, 52] (by decide +kernel) (by decide +kernel)
set_option maxRecDepth 20000 in
theorem gX6_writtenNumber_X2_numberOf : GoodIn wsX6_writtenNumber (wsV RX6 398 RX2 yX2_numberOf wsX2_numberOf) := goodIn_app (goodIn_of _ (by decide +kernel)) ggX6_writtenNumber_X2_numberOf
set_option maxRecDepth 20000 in
theorem ggX6_writtenNumber_X4_blockOf : GoodIn wsX6_writtenNumber wsX4_blockOf := goodIn_r _ [17, 18, 8, 9, 5, 10, 11, 12, 13, 39, 40, 41, 42, 43, 44, 45, 46, 47, 48, 49, 50] (by decide +kernel) (by decide +kernel)
set_option maxRecDepth 20000 in
theorem gX6_writtenNumber_X4_blockOf : GoodIn wsX6_writtenNumber (wsV RX6 395 RX4 yX4_blockOf wsX4_blockOf) := goodIn_app (goodIn_of _ (by decide +kernel)) ggX6_writtenNumber_X4_blockOf
set_option maxRecDepth 20000 in
theorem ggX6_writtenNumber_X4_pageKindOf : GoodIn wsX6_writtenNumber wsX4_pageKindOf := goodIn_r _ [6, 7, 8, 9, 5, 10, 11, 12, 13, 39, 40, 41, 42, 43, 44, 45, 46, 47, 48, 49, 50] (by decide +kernel) (by decide +kernel)
set_option maxRecDepth 20000 in
theorem gX6_writtenNumber_X4_pageKindOf : GoodIn wsX6_writtenNumber (wsV RX6 263 RX4 yX4_pageKindOf wsX4_pageKindOf) := goodIn_app (goodIn_of _ (by decide +kernel)) ggX6_writtenNumber_X4_pageKindOf
theorem dX6_writtenNumber_0 : decode cX6_writtenNumber 0 = .ok (.aload_n 1, 1) := by decide +kernel
theorem dX6_writtenNumber_1 : decode cX6_writtenNumber 1 = .ok (.iload_n 2, 1) := by decide +kernel
theorem dX6_writtenNumber_2 : decode cX6_writtenNumber 2 = .ok (.iload_n 3, 1) := by decide +kernel
theorem dX6_writtenNumber_3 : decode cX6_writtenNumber 3 = .ok (.invokevirtual 263, 3) := by decide +kernel
theorem dX6_writtenNumber_6 : decode cX6_writtenNumber 6 = .ok (.iconst 2, 1) := by decide +kernel
theorem dX6_writtenNumber_7 : decode cX6_writtenNumber 7 = .ok (.if_icmp .ne 19, 3) := by decide +kernel
theorem dX6_writtenNumber_10 : decode cX6_writtenNumber 10 = .ok (.aload_n 0, 1) := by decide +kernel
theorem dX6_writtenNumber_11 : decode cX6_writtenNumber 11 = .ok (.getfield 37, 3) := by decide +kernel
theorem dX6_writtenNumber_14 : decode cX6_writtenNumber 14 = .ok (.aload_n 1, 1) := by decide +kernel
theorem dX6_writtenNumber_15 : decode cX6_writtenNumber 15 = .ok (.iload_n 2, 1) := by decide +kernel
theorem dX6_writtenNumber_16 : decode cX6_writtenNumber 16 = .ok (.iload_n 3, 1) := by decide +kernel
theorem dX6_writtenNumber_17 : decode cX6_writtenNumber 17 = .ok (.invokevirtual 395, 3) := by decide +kernel
theorem dX6_writtenNumber_20 : decode cX6_writtenNumber 20 = .ok (.invokevirtual 398, 3) := by decide +kernel
theorem dX6_writtenNumber_23 : decode cX6_writtenNumber 23 = .ok (.goto 4, 3) := by decide +kernel
theorem dX6_writtenNumber_26 : decode cX6_writtenNumber 26 = .ok (.iconst 0, 1) := by decide +kernel
theorem dX6_writtenNumber_27 : decode cX6_writtenNumber 27 = .ok (.ireturn, 1) := by decide +kernel
def f_X6_writtenNumber (u7 u4 : S1) (p2 : Int32) (p3 : Int32) : Option (Int32) := bn (f_X4_pageKindOf u4 p2 p3) (fun z_1 => jn (fun (v27_2_0 : Int32) => some v27_2_0) (fun k27_2 => if z_1 = 2 then bn (f_X4_blockOf u4 p2 p3) (fun z_4 => bn (f_X2_numberOf u7 z_4) (fun z_5 => k27_2 z_5)) else k27_2 0))
def rmX6_writtenNumber : Room := { frames := 3, cells := 0, slots := 0, locals := 63 }
set_option maxHeartbeats 4000000 in
set_option maxRecDepth 100000 in
theorem c_X6_writtenNumber (l : Launch) (D : va_G) (cI cZ cJ cT : ClassId) (a : Nat → Nat → Nat) (b : Nat → Nat) (u0 : S1) (u7 u4 : S1) (p2 : Int32) (p3 : Int32) (o : Int32) (hf : f_X6_writtenNumber u7 u4 p2 p3 = some o) : Met l yX6_writtenNumber wsX6_writtenNumber rmX6_writtenNumber (va_Pc [.ref (a 0 0), .ref (b 0), .int p2, .int p3] (PR D cls (tys cI cZ cJ cT) (List.flatten [wX6o cI cZ cT a u0, wX2 cI cZ (a 7) u7, wX4 cI cZ b u4]))) (QR o) 0 0 (fun _ => False) := by
  refine Met.ofW (cc := cX6_writtenNumber) (maxL := 4) (ret := (some .int)) (by decide) rfl ?_
  intro p e s m args below meth c s₁ B hml hv
  obtain ⟨hav, hP, hK⟩ := hv
  have hx := B.exec
  have hb := B.bytes
  have hr := B.returns
  have hlocks := B.notSynchronized
  have hts := atoms_spec (ws := wsX6_writtenNumber) B.pre
  have hown : s.vm.findClass RX6 = some m.cls := findClass_of_methodNamed B.named
  have i6 : ∀ w ∈ wsX60, w ∈ wsX6_writtenNumber := fun w h => List.mem_cons_of_mem _ (List.mem_append_left _ (List.mem_append_left _ (List.mem_append_right _ h)))
  have hk37 := hts (.fieldLink RX6 37 "Inodery" "disk" "LInodery$Disk;") (by decide +kernel)
  refine Wq (fun Q hQ => ?_)
  refine W_entry hav (Nat.le_of_ble_eq_true rfl) (fun ls hl => ?_)
  have hl : lv_has ls 4 [(0, .ref (a 0 0)), (1, .ref (b 0)), (2, .int p2), (3, .int p3)] := hl
  unfold f_X6_writtenNumber at hf
  refine lv_aload_n hx hb dX6_writtenNumber_0 rfl (lv_at hl 1 rfl) ?_
  refine lv_iload_n hx hb dX6_writtenNumber_1 rfl (lv_at hl 2 rfl) ?_
  refine lv_iload_n hx hb dX6_writtenNumber_2 rfl (lv_at hl 3 rfl) ?_
  obtain ⟨z_1, hz_1, hf⟩ := bn_some hf
  refine cRV (As := [.int p2, .int p3]) (rest := []) ⟨hx, hb, hml, hown, hts⟩ (c_X4_pageKindOf l D cI cZ cJ cT b u4 p2 p3 z_1 hz_1) (cwV 2 hts gX6_writtenNumber_X4_pageKindOf rfl rfl rfl (by decide +kernel) ⟨Nat.le_of_ble_eq_true rfl, Nat.le_of_ble_eq_true rfl⟩) (fl_sub hP 2 rfl) hK (va_recv hK (fl_sub hP 2 rfl) (ci := 4) (q0 := 0) rfl rfl) rfl rfl hl.1 (Nat.le_of_ble_eq_true rfl) dX6_writtenNumber_3 ⟨Nat.le_of_ble_eq_true rfl, Nat.le_of_ble_eq_true rfl⟩ ?_
  refine lv_iconst (v := 2) hx hb dX6_writtenNumber_6 (by decide) ?_
  obtain ⟨k27_2, hk27_2, hf⟩ := jn_some hf
  have j27_2 : ∀ (v27_2_0 : Int32) (ls : Array Slot), k27_2 v27_2_0 = some o → lv_has ls 4 [] → W p l e (headSpec wsX6_writtenNumber rmX6_writtenNumber).room s m args below meth c s.heap [] 0 0 Q (F0 m 27 ls [.int v27_2_0]) := by
    intro v27_2_0 ls hf hl
    have hf := qa1 hk27_2 hf
    rw [hQ]
    exact W.iret hx hb hr (fun t ht hW => ⟨_, rfl, Option.some.inj hf, ht⟩) (fun _ h => nomatch h) dX6_writtenNumber_27 hlocks
  refine lv_icmp_ne (tgt := 26) hx hb dX6_writtenNumber_7 (by decide) (fun c_3 => ?_) (fun c_3 => ?_)
  · have hf := ite_f hf c_3
    refine lv_iconst (v := 0) hx hb dX6_writtenNumber_26 (by decide) ?_
    exact j27_2 _ _ hf (lv_sub hl [] rfl)
  · have hf := ite_t hf c_3
    refine lv_aload_n hx hb dX6_writtenNumber_10 rfl (lv_at hl 0 rfl) ?_
    refine va_get (D := D) (ci := 6) (v := .ref (a 7 0)) (C := RX6) (T := TX6) (N := 11) hx hb hts i6 hown hK (fl_sub hP 0 rfl) 0 rfl rfl 5 (by decide) hk37 (fun _ h9 => h9) rfl dX6_writtenNumber_11 ?_
    refine lv_aload_n hx hb dX6_writtenNumber_14 rfl (lv_at hl 1 rfl) ?_
    refine lv_iload_n hx hb dX6_writtenNumber_15 rfl (lv_at hl 2 rfl) ?_
    refine lv_iload_n hx hb dX6_writtenNumber_16 rfl (lv_at hl 3 rfl) ?_
    obtain ⟨z_4, hz_4, hf⟩ := bn_some hf
    refine cRV (As := [.int p2, .int p3]) (rest := [.ref (a 7 0)]) ⟨hx, hb, hml, hown, hts⟩ (c_X4_blockOf l D cI cZ cJ cT b u4 p2 p3 z_4 hz_4) (cwV 2 hts gX6_writtenNumber_X4_blockOf rfl rfl rfl (by decide +kernel) ⟨Nat.le_of_ble_eq_true rfl, Nat.le_of_ble_eq_true rfl⟩) (fl_sub hP 2 rfl) hK (va_recv hK (fl_sub hP 2 rfl) (ci := 4) (q0 := 0) rfl rfl) rfl rfl hl.1 (Nat.le_of_ble_eq_true rfl) dX6_writtenNumber_17 ⟨Nat.le_of_ble_eq_true rfl, Nat.le_of_ble_eq_true rfl⟩ ?_
    obtain ⟨z_5, hz_5, hf⟩ := bn_some hf
    refine cRV (As := [.int z_4]) (rest := []) ⟨hx, hb, hml, hown, hts⟩ (c_X2_numberOf l D cI cZ cJ cT (a 7) u7 z_4 z_5 hz_5) (cwV 1 hts gX6_writtenNumber_X2_numberOf rfl rfl rfl (by decide +kernel) ⟨Nat.le_of_ble_eq_true rfl, Nat.le_of_ble_eq_true rfl⟩) (fl_sub hP 1 rfl) hK (va_recv hK (fl_sub hP 1 rfl) (ci := 2) (q0 := 0) rfl rfl) rfl rfl hl.1 (Nat.le_of_ble_eq_true rfl) dX6_writtenNumber_20 ⟨Nat.le_of_ble_eq_true rfl, Nat.le_of_ble_eq_true rfl⟩ ?_
    refine lv_goto (tgt := 27) hx hb dX6_writtenNumber_23 (by decide) ?_
    exact j27_2 _ _ hf (lv_sub hl [] rfl)
set_option maxRecDepth 20000 in
theorem ggX6_read_X0_isDirty : GoodIn wsX6_read wsX0_isDirty := goodIn_r _ [45, 46, 47, 48, 44, 49, 50, 51, 52, 53, 102, 103, 104] (by decide +kernel) (by decide +kernel)
set_option maxRecDepth 20000 in
theorem gX6_read_X0_isDirty : GoodIn wsX6_read (wsV RX6 237 RX0 yX0_isDirty wsX0_isDirty) := goodIn_app (goodIn_of _ (by decide +kernel)) ggX6_read_X0_isDirty
set_option maxRecDepth 20000 in
theorem ggX6_read_X0_numberOf : GoodIn wsX6_read wsX0_numberOf := goodIn_r _ [49, 50, 51, 52, 44, 53, 102, 103, 104] (by decide +kernel) (by decide +kernel)
set_option maxRecDepth 20000 in
theorem gX6_read_X0_numberOf : GoodIn wsX6_read (wsV RX6 240 RX0 yX0_numberOf wsX0_numberOf) := goodIn_app (goodIn_of _ (by decide +kernel)) ggX6_read_X0_numberOf
set_option maxRecDepth 20000 in
theorem ggX6_read_X3_thingOf : GoodIn wsX6_read wsX3_thingOf := goodIn_r _ [39, 40, 35, 16, 17, 18, 19, 20, 97, 98, 99, 100, 101] (by decide +kernel) (by decide +kernel)
set_option maxRecDepth 20000 in
theorem gX6_read_X3_thingOf : GoodIn wsX6_read (wsV RX6 205 RX3 yX3_thingOf wsX3_thingOf) := goodIn_app (goodIn_of _ (by decide +kernel)) ggX6_read_X3_thingOf
set_option maxRecDepth 20000 in
theorem ggX6_read_X6_demandHandleAndPage : GoodIn wsX6_read wsX6_demandHandleAndPage := goodIn_ca (goodIn_r _ [8, 9, 10, 11, 12, 13, 7, 14, 1, 15, 16, 17, 18, 19, 20, 21, 22, 23, 86, 87, 88, 89, 90, 91, 92, 93, 94, 95, 96, 97, 98, 99, 100, 101] (by decide +kernel) (by decide +kernel)) (goodIn_sub (fun _ h => List.mem_cons_of_mem _ (List.mem_append_left _ (List.mem_append_right _ h))) (by decide +kernel))
set_option maxRecDepth 20000 in
theorem gX6_read_X6_demandHandleAndPage : GoodIn wsX6_read (wsV RX6 217 RX6 yX6_demandHandleAndPage wsX6_demandHandleAndPage) := goodIn_app (goodIn_of _ (by decide +kernel)) ggX6_read_X6_demandHandleAndPage
set_option maxRecDepth 20000 in
theorem ggX6_read_X6_demandOpen : GoodIn wsX6_read wsX6_demandOpen := goodIn_ca (goodIn_r _ [27, 28, 29, 1, 30, 31, 32, 18, 33, 34, 35, 16, 17, 19, 20, 86, 87, 88, 89, 90, 91, 92, 93, 94, 95, 96, 97, 98, 99, 100, 101] (by decide +kernel) (by decide +kernel)) (goodIn_sub (fun _ h => List.mem_cons_of_mem _ (List.mem_append_right _ h)) (by decide +kernel))
set_option maxRecDepth 20000 in
theorem gX6_read_X6_demandOpen : GoodIn wsX6_read (wsV RX6 202 RX6 yX6_demandOpen wsX6_demandOpen) := goodIn_app (goodIn_of _ (by decide +kernel)) ggX6_read_X6_demandOpen
set_option maxRecDepth 20000 in
theorem ggX6_read_X6_writtenNumber : GoodIn wsX6_read wsX6_writtenNumber := goodIn_r _ [58, 59, 60, 61, 62, 63, 64, 65, 66, 67, 68, 69, 70, 71, 72, 73, 74, 75, 76, 77, 78, 79, 80, 81, 82, 83, 84, 85, 86, 87, 88, 89, 90, 91, 92, 93, 94, 95, 96, 105, 106, 107, 108, 109, 110, 111, 112, 113, 114, 115, 116, 117, 118] (by decide +kernel) (by decide +kernel)
set_option maxRecDepth 20000 in
theorem gX6_read_X6_writtenNumber : GoodIn wsX6_read (wsV RX6 243 RX6 yX6_writtenNumber wsX6_writtenNumber) := goodIn_app (goodIn_of _ (by decide +kernel)) ggX6_read_X6_writtenNumber
theorem dX6_read_0 : decode cX6_read 0 = .ok (.aload_n 0, 1) := by decide +kernel
theorem dX6_read_1 : decode cX6_read 1 = .ok (.iload_n 1, 1) := by decide +kernel
theorem dX6_read_2 : decode cX6_read 2 = .ok (.iload_n 2, 1) := by decide +kernel
theorem dX6_read_3 : decode cX6_read 3 = .ok (.invokevirtual 217, 3) := by decide +kernel
theorem dX6_read_6 : decode cX6_read 6 = .ok (.aload_n 0, 1) := by decide +kernel
theorem dX6_read_7 : decode cX6_read 7 = .ok (.iload_n 1, 1) := by decide +kernel
theorem dX6_read_8 : decode cX6_read 8 = .ok (.invokevirtual 202, 3) := by decide +kernel
theorem dX6_read_11 : decode cX6_read 11 = .ok (.aload_n 0, 1) := by decide +kernel
theorem dX6_read_12 : decode cX6_read 12 = .ok (.getfield 51, 3) := by decide +kernel
theorem dX6_read_15 : decode cX6_read 15 = .ok (.iload_n 1, 1) := by decide +kernel
theorem dX6_read_16 : decode cX6_read 16 = .ok (.invokevirtual 205, 3) := by decide +kernel
theorem dX6_read_19 : decode cX6_read 19 = .ok (.istore_n 3, 1) := by decide +kernel
theorem dX6_read_20 : decode cX6_read 20 = .ok (.aload_n 0, 1) := by decide +kernel
theorem dX6_read_21 : decode cX6_read 21 = .ok (.getfield 44, 3) := by decide +kernel
theorem dX6_read_24 : decode cX6_read 24 = .ok (.iload_n 3, 1) := by decide +kernel
theorem dX6_read_25 : decode cX6_read 25 = .ok (.iload_n 2, 1) := by decide +kernel
theorem dX6_read_26 : decode cX6_read 26 = .ok (.invokevirtual 237, 3) := by decide +kernel
theorem dX6_read_29 : decode cX6_read 29 = .ok (.ifCond .eq 13, 3) := by decide +kernel
theorem dX6_read_32 : decode cX6_read 32 = .ok (.aload_n 0, 1) := by decide +kernel
theorem dX6_read_33 : decode cX6_read 33 = .ok (.getfield 44, 3) := by decide +kernel
theorem dX6_read_36 : decode cX6_read 36 = .ok (.iload_n 3, 1) := by decide +kernel
theorem dX6_read_37 : decode cX6_read 37 = .ok (.iload_n 2, 1) := by decide +kernel
theorem dX6_read_38 : decode cX6_read 38 = .ok (.invokevirtual 240, 3) := by decide +kernel
theorem dX6_read_41 : decode cX6_read 41 = .ok (.ireturn, 1) := by decide +kernel
theorem dX6_read_42 : decode cX6_read 42 = .ok (.aload_n 0, 1) := by decide +kernel
theorem dX6_read_43 : decode cX6_read 43 = .ok (.aload_n 0, 1) := by decide +kernel
theorem dX6_read_44 : decode cX6_read 44 = .ok (.getfield 12, 3) := by decide +kernel
theorem dX6_read_47 : decode cX6_read 47 = .ok (.iload_n 3, 1) := by decide +kernel
theorem dX6_read_48 : decode cX6_read 48 = .ok (.iload_n 2, 1) := by decide +kernel
theorem dX6_read_49 : decode cX6_read 49 = .ok (.invokevirtual 243, 3) := by decide +kernel
theorem dX6_read_52 : decode cX6_read 52 = .ok (.ireturn, 1) := by decide +kernel
def f_X6_read (U : S2) (p1 : Int32) (p2 : Int32) : Option (Nat × Int32 × S2) := bn (f_X6_demandHandleAndPage U p1 p2) (fun z_1 => if z_1.1 = 0 then bn (f_X6_demandOpen z_1.2.2 p1) (fun z_3 => if z_3.1 = 0 then bn (f_X3_thingOf (z_3.2.2 9) p1) (fun z_5 => bn (f_X0_isDirty (z_3.2.2 8) z_5 p2) (fun z_6 => if z_6 = 0 then bn (f_X6_writtenNumber (z_3.2.2 7) (z_3.2.2 1) z_5 p2) (fun z_8 => some (0, z_8, z_3.2.2)) else bn (f_X0_numberOf (z_3.2.2 8) z_5 p2) (fun z_9 => some (0, z_9, z_3.2.2)))) else some (z_3.1, 0, z_3.2.2)) else some (z_1.1, 0, z_1.2.2))
def rmX6_read : Room := { frames := 8, cells := 3, slots := 18, locals := 133 }
set_option maxHeartbeats 4000000 in
set_option maxRecDepth 100000 in
theorem c_X6_read (l : Launch) (hst : l.stackTraces = false) (D : va_G) (cI cZ cJ cT : ClassId) (a : Nat → Nat → Nat) (sz : Nat) (U : S2) (p1 : Int32) (p2 : Int32) (o : Nat × Int32 × S2) (hf : f_X6_read U p1 p2 = some o) : vx_Met l yX6_read wsX6_read rmX6_read (va_Pc [.ref (a 0 0), .int p1, .int p2] (PX D cls (tys cI cZ cJ cT) (wI cI cZ cT a U) sz)) (QXi D cls o.1 o.2.1 (wI cI cZ cT a o.2.2) (va_A (wI cI cZ cT a U) sz)) (XX D cls o.1 (wI cI cZ cT a o.2.2) (va_A (wI cI cZ cT a U) sz)) 3 18 (va_A (wI cI cZ cT a U) sz) := by
  refine vx_ofW (cc := cX6_read) (maxL := 4) (ret := (some .int)) (by decide) rfl ?_
  intro p e s m args below meth c s₁ B hml hxt hv
  obtain ⟨hav, ⟨hsz, hP, hK, hD0⟩, hE⟩ := hv
  have hx := B.exec
  have hb := B.bytes
  have hr := B.returns
  have hlocks := B.notSynchronized
  have hts := atoms_spec (ws := wsX6_read) B.pre
  have hown : s.vm.findClass RX6 = some m.cls := findClass_of_methodNamed B.named
  have i6 : ∀ w ∈ wsX60, w ∈ wsX6_read := fun w h => List.mem_cons_of_mem _ (List.mem_append_left _ (List.mem_append_left _ (List.mem_append_left _ (List.mem_append_left _ (List.mem_append_left _ (List.mem_append_left _ (List.mem_append_right _ h)))))))
  have hk12 := hts (.fieldLink RX6 12 "Inodery" "now" "LInodery$Tree;") (by decide +kernel)
  have hk44 := hts (.fieldLink RX6 44 "Inodery" "cache" "LInodery$Cache;") (by decide +kernel)
  have hk51 := hts (.fieldLink RX6 51 "Inodery" "handles" "LInodery$Handles;") (by decide +kernel)
  subst hsz
  have hD := hD0.self (sz := s.heap.size)
  generalize hAe : va_A (wI cI cZ cT a U) s.heap.size = A at hD hE ⊢
  have hA : ∀ q : Nat, s.heap.size ≤ q → A q := fun q h => by rw [← hAe]; exact Or.inr h
  have hS : va_S A s.heap s.heap [] := va_S.rf
  have hDD : ∀ V : S2, va_D A (wI cI cZ cT a V) := fun _ => D_same (w := (wI cI cZ cT a U)) rfl hD
  refine Wq (fun Q hQ => ?_)
  refine W_entry hav (Nat.le_of_ble_eq_true rfl) (fun ls hl => ?_)
  have hl : lv_has ls 4 [(0, .ref (a 0 0)), (1, .int p1), (2, .int p2)] := hl
  unfold f_X6_read at hf
  refine W_heap hP hS (fun H locs hP hS => ?_)
  refine lv_aload_n hx hb dX6_read_0 rfl (lv_at hl 0 rfl) ?_
  refine lv_iload_n hx hb dX6_read_1 rfl (lv_at hl 1 rfl) ?_
  refine lv_iload_n hx hb dX6_read_2 rfl (lv_at hl 2 rfl) ?_
  obtain ⟨z_1, hz_1, hf⟩ := bn_some hf
  refine cXVv (As := [.int p1, .int p2]) (rest := []) ⟨hx, hb, hml, hown, hts⟩ (c_X6_demandHandleAndPage l hst D cI cZ cJ cT a H.size U p1 p2 z_1 hz_1) (cwV 2 hts gX6_read_X6_demandHandleAndPage rfl rfl rfl (by decide +kernel) ⟨Nat.le_of_ble_eq_true rfl, Nat.le_of_ble_eq_true rfl⟩) hP hK (hDD U) hE hS (own_free (hDD U) hS hA) (va_recv hK (fl_sub hP 0 rfl) (ci := 6) (q0 := 0) rfl rfl) rfl rfl hl.1 (Nat.le_of_ble_eq_true rfl) dX6_read_3 ⟨Nat.le_of_ble_eq_true rfl, Nat.le_of_ble_eq_true rfl⟩ (fun E ce q9 H locs k_2 hE9 hP hS hce hcv hcl => ?_) (fun H locs k_2 hP hS => ?_)
  · have hf := ite_f hf k_2
    have eo := Option.some.inj hf
    have hP : va_P D cls (wI cI cZ cT a o.2.2) H := by rw [← eo]; exact hP
    rw [hQ]
    exact xout (k := o.1) hxt hlocks (by rw [← eo]; exact k_2) (by rw [← eo]; exact hE9) hP hS hce hcv hcl (Nat.le_of_ble_eq_true rfl) (Nat.le_of_ble_eq_true rfl)
  have hf := ite_t hf k_2
  refine lv_aload_n hx hb dX6_read_6 rfl (lv_at hl 0 rfl) ?_
  refine lv_iload_n hx hb dX6_read_7 rfl (lv_at hl 1 rfl) ?_
  obtain ⟨z_3, hz_3, hf⟩ := bn_some hf
  refine cXVv (As := [.int p1]) (rest := []) ⟨hx, hb, hml, hown, hts⟩ (c_X6_demandOpen l hst D cI cZ cJ cT a H.size z_1.2.2 p1 z_3 hz_3) (cwV 1 hts gX6_read_X6_demandOpen rfl rfl rfl (by decide +kernel) ⟨Nat.le_of_ble_eq_true rfl, Nat.le_of_ble_eq_true rfl⟩) hP hK (hDD z_1.2.2) hE hS (own_free (hDD z_1.2.2) hS hA) (va_recv hK (fl_sub hP 0 rfl) (ci := 6) (q0 := 0) rfl rfl) rfl rfl hl.1 (Nat.le_of_ble_eq_true rfl) dX6_read_8 ⟨Nat.le_of_ble_eq_true rfl, Nat.le_of_ble_eq_true rfl⟩ (fun E ce q9 H locs k_4 hE9 hP hS hce hcv hcl => ?_) (fun H locs k_4 hP hS => ?_)
  · have hf := ite_f hf k_4
    have eo := Option.some.inj hf
    have hP : va_P D cls (wI cI cZ cT a o.2.2) H := by rw [← eo]; exact hP
    rw [hQ]
    exact xout (k := o.1) hxt hlocks (by rw [← eo]; exact k_4) (by rw [← eo]; exact hE9) hP hS hce hcv hcl (Nat.le_of_ble_eq_true rfl) (Nat.le_of_ble_eq_true rfl)
  have hf := ite_t hf k_4
  refine lv_aload_n hx hb dX6_read_11 rfl (lv_at hl 0 rfl) ?_
  refine va_get (D := D) (ci := 6) (v := .ref (a 9 0)) (C := RX6) (T := TX6) (N := 11) hx hb hts i6 hown hK (fl_sub hP 0 rfl) 0 rfl rfl 7 (by decide) hk51 (fun _ h9 => h9) rfl dX6_read_12 ?_
  refine lv_iload_n hx hb dX6_read_15 rfl (lv_at hl 1 rfl) ?_
  obtain ⟨z_5, hz_5, hf⟩ := bn_some hf
  refine cRV (As := [.int p1]) (rest := []) ⟨hx, hb, hml, hown, hts⟩ (c_X3_thingOf l D cI cZ cJ cT (a 9) (z_3.2.2 9) p1 z_5 hz_5) (cwV 1 hts gX6_read_X3_thingOf rfl rfl rfl (by decide +kernel) ⟨Nat.le_of_ble_eq_true rfl, Nat.le_of_ble_eq_true rfl⟩) (fl_sub hP 9 rfl) hK (va_recv hK (fl_sub hP 9 rfl) (ci := 3) (q0 := 0) rfl rfl) rfl rfl hl.1 (Nat.le_of_ble_eq_true rfl) dX6_read_16 ⟨Nat.le_of_ble_eq_true rfl, Nat.le_of_ble_eq_true rfl⟩ ?_
  refine lv_istore_n (lv' := [(3, .int z_5), (0, .ref (a 0 0)), (1, .int p1), (2, .int p2)]) hx hb dX6_read_19 rfl hl (by decide) rfl (fun ls hl => ?_)
  refine lv_aload_n hx hb dX6_read_20 rfl (lv_at hl 1 rfl) ?_
  refine va_get (D := D) (ci := 6) (v := .ref (a 8 0)) (C := RX6) (T := TX6) (N := 11) hx hb hts i6 hown hK (fl_sub hP 0 rfl) 0 rfl rfl 6 (by decide) hk44 (fun _ h9 => h9) rfl dX6_read_21 ?_
  refine lv_iload_n hx hb dX6_read_24 rfl (lv_at hl 0 rfl) ?_
  refine lv_iload_n hx hb dX6_read_25 rfl (lv_at hl 3 rfl) ?_
  obtain ⟨z_6, hz_6, hf⟩ := bn_some hf
  refine cRV (As := [.int z_5, .int p2]) (rest := []) ⟨hx, hb, hml, hown, hts⟩ (c_X0_isDirty l D cI cZ cJ cT (a 8) (z_3.2.2 8) z_5 p2 z_6 hz_6) (cwV 2 hts gX6_read_X0_isDirty rfl rfl rfl (by decide +kernel) ⟨Nat.le_of_ble_eq_true rfl, Nat.le_of_ble_eq_true rfl⟩) (fl_sub hP 8 rfl) hK (va_recv hK (fl_sub hP 8 rfl) (ci := 0) (q0 := 0) rfl rfl) rfl rfl hl.1 (Nat.le_of_ble_eq_true rfl) dX6_read_26 ⟨Nat.le_of_ble_eq_true rfl, Nat.le_of_ble_eq_true rfl⟩ ?_
  refine lv_if_eq (tgt := 42) hx hb dX6_read_29 (by decide) (fun c_7 => ?_) (fun c_7 => ?_)
  · have hf := ite_t hf c_7
    refine lv_aload_n hx hb dX6_read_42 rfl (lv_at hl 1 rfl) ?_
    refine lv_aload_n hx hb dX6_read_43 rfl (lv_at hl 1 rfl) ?_
    refine va_get (D := D) (ci := 6) (v := .ref (a 1 0)) (C := RX6) (T := TX6) (N := 11) hx hb hts i6 hown hK (fl_sub hP 0 rfl) 0 rfl rfl 0 (by decide) hk12 (fun _ h9 => h9) rfl dX6_read_44 ?_
    refine lv_iload_n hx hb dX6_read_47 rfl (lv_at hl 0 rfl) ?_
    refine lv_iload_n hx hb dX6_read_48 rfl (lv_at hl 3 rfl) ?_
    obtain ⟨z_8, hz_8, hf⟩ := bn_some hf
    refine cRV (As := [.ref (a 1 0), .int z_5, .int p2]) (rest := []) ⟨hx, hb, hml, hown, hts⟩ (c_X6_writtenNumber l D cI cZ cJ cT a (a 1) (z_3.2.2 0) (z_3.2.2 7) (z_3.2.2 1) z_5 p2 z_8 hz_8) (cwV 3 hts gX6_read_X6_writtenNumber rfl rfl rfl (by decide +kernel) ⟨Nat.le_of_ble_eq_true rfl, Nat.le_of_ble_eq_true rfl⟩) (fl_subM hP [0, 7, 1] rfl) hK (va_recv hK (fl_sub hP 0 rfl) (ci := 6) (q0 := 0) rfl rfl) rfl rfl hl.1 (Nat.le_of_ble_eq_true rfl) dX6_read_49 ⟨Nat.le_of_ble_eq_true rfl, Nat.le_of_ble_eq_true rfl⟩ ?_
    have eo := Option.some.inj hf
    have hP : va_P D cls (wI cI cZ cT a o.2.2) H := by rw [← eo]; exact hP
    rw [hQ]
    refine W.widen (k := 3) (n := 18) (Nat.le_of_ble_eq_true rfl) (Nat.le_of_ble_eq_true rfl) ?_
    exact vx_ret (W.iret hx hb hr (fun t ht hW => ⟨⟨_, (), rfl, ⟨(by rw [← eo]), (by rw [← eo])⟩, P_at ht hP⟩, hS.F ht⟩) hS.2.2 dX6_read_52 hlocks)
  · have hf := ite_f hf c_7
    refine lv_aload_n hx hb dX6_read_32 rfl (lv_at hl 1 rfl) ?_
    refine va_get (D := D) (ci := 6) (v := .ref (a 8 0)) (C := RX6) (T := TX6) (N := 11) hx hb hts i6 hown hK (fl_sub hP 0 rfl) 0 rfl rfl 6 (by decide) hk44 (fun _ h9 => h9) rfl dX6_read_33 ?_
    refine lv_iload_n hx hb dX6_read_36 rfl (lv_at hl 0 rfl) ?_
    refine lv_iload_n hx hb dX6_read_37 rfl (lv_at hl 3 rfl) ?_
    obtain ⟨z_9, hz_9, hf⟩ := bn_some hf
    refine cRV (As := [.int z_5, .int p2]) (rest := []) ⟨hx, hb, hml, hown, hts⟩ (c_X0_numberOf l D cI cZ cJ cT (a 8) (z_3.2.2 8) z_5 p2 z_9 hz_9) (cwV 2 hts gX6_read_X0_numberOf rfl rfl rfl (by decide +kernel) ⟨Nat.le_of_ble_eq_true rfl, Nat.le_of_ble_eq_true rfl⟩) (fl_sub hP 8 rfl) hK (va_recv hK (fl_sub hP 8 rfl) (ci := 0) (q0 := 0) rfl rfl) rfl rfl hl.1 (Nat.le_of_ble_eq_true rfl) dX6_read_38 ⟨Nat.le_of_ble_eq_true rfl, Nat.le_of_ble_eq_true rfl⟩ ?_
    have eo := Option.some.inj hf
    have hP : va_P D cls (wI cI cZ cT a o.2.2) H := by rw [← eo]; exact hP
    rw [hQ]
    refine W.widen (k := 3) (n := 18) (Nat.le_of_ble_eq_true rfl) (Nat.le_of_ble_eq_true rfl) ?_
    exact vx_ret (W.iret hx hb hr (fun t ht hW => ⟨⟨_, (), rfl, ⟨(by rw [← eo]), (by rw [← eo])⟩, P_at ht hP⟩, hS.F ht⟩) hS.2.2 dX6_read_41 hlocks)
set_option maxRecDepth 20000 in
theorem ggX6_demandHandleAndPages_X6_demandHandleAndPage : GoodIn wsX6_demandHandleAndPages wsX6_demandHandleAndPage := goodIn_ca (goodIn_r _ [7, 8, 9, 10, 11, 12, 6, 13, 14, 15, 16, 17, 18, 19, 20, 21, 22, 23, 24, 25, 26, 27, 28, 29, 30, 31, 32, 33, 34, 35, 36, 37, 38, 39] (by decide +kernel) (by decide +kernel)) (goodIn_sub (fun _ h => List.mem_cons_of_mem _ (List.mem_append_right _ h)) (by decide +kernel))
set_option maxRecDepth 20000 in
theorem gX6_demandHandleAndPages_X6_demandHandleAndPage : GoodIn wsX6_demandHandleAndPages (wsV RX6 217 RX6 yX6_demandHandleAndPage wsX6_demandHandleAndPage) := goodIn_app (goodIn_of _ (by decide +kernel)) ggX6_demandHandleAndPages_X6_demandHandleAndPage
theorem dX6_demandHandleAndPages_0 : decode cX6_demandHandleAndPages 0 = .ok (.aload_n 0, 1) := by decide +kernel
theorem dX6_demandHandleAndPages_1 : decode cX6_demandHandleAndPages 1 = .ok (.iload_n 1, 1) := by decide +kernel
theorem dX6_demandHandleAndPages_2 : decode cX6_demandHandleAndPages 2 = .ok (.iload_n 2, 1) := by decide +kernel
theorem dX6_demandHandleAndPages_3 : decode cX6_demandHandleAndPages 3 = .ok (.invokevirtual 217, 3) := by decide +kernel
theorem dX6_demandHandleAndPages_6 : decode cX6_demandHandleAndPages 6 = .ok (.aload_n 0, 1) := by decide +kernel
theorem dX6_demandHandleAndPages_7 : decode cX6_demandHandleAndPages 7 = .ok (.iload_n 1, 1) := by decide +kernel
theorem dX6_demandHandleAndPages_8 : decode cX6_demandHandleAndPages 8 = .ok (.iload_n 3, 1) := by decide +kernel
theorem dX6_demandHandleAndPages_9 : decode cX6_demandHandleAndPages 9 = .ok (.invokevirtual 217, 3) := by decide +kernel
theorem dX6_demandHandleAndPages_12 : decode cX6_demandHandleAndPages 12 = .ok (.iload_n 3, 1) := by decide +kernel
theorem dX6_demandHandleAndPages_13 : decode cX6_demandHandleAndPages 13 = .ok (.iload_n 2, 1) := by decide +kernel
theorem dX6_demandHandleAndPages_14 : decode cX6_demandHandleAndPages 14 = .ok (.if_icmp .ge 14, 3) := by decide +kernel
theorem dX6_demandHandleAndPages_17 : decode cX6_demandHandleAndPages 17 = .ok (.new 88, 3) := by decide +kernel
theorem dX6_demandHandleAndPages_20 : decode cX6_demandHandleAndPages 20 = .ok (.dup, 1) := by decide +kernel
theorem dX6_demandHandleAndPages_21 : decode cX6_demandHandleAndPages 21 = .ok (.ldc_w 417, 3) := by decide +kernel
theorem dX6_demandHandleAndPages_24 : decode cX6_demandHandleAndPages 24 = .ok (.invokespecial 92, 3) := by decide +kernel
theorem dX6_demandHandleAndPages_27 : decode cX6_demandHandleAndPages 27 = .ok (.athrow, 1) := by decide +kernel
theorem dX6_demandHandleAndPages_28 : decode cX6_demandHandleAndPages 28 = .ok (.return_, 1) := by decide +kernel
def f_X6_demandHandleAndPages (U : S2) (p1 : Int32) (p2 : Int32) (p3 : Int32) : Option (Nat × Int32 × S2) := bn (f_X6_demandHandleAndPage U p1 p2) (fun z_1 => if z_1.1 = 0 then bn (f_X6_demandHandleAndPage z_1.2.2 p1 p3) (fun z_3 => if z_3.1 = 0 then if p2 ≤ p3 then some (0, 0, z_3.2.2) else some (1, 0, z_3.2.2) else some (z_3.1, 0, z_3.2.2)) else some (z_1.1, 0, z_1.2.2))
def rmX6_demandHandleAndPages : Room := { frames := 8, cells := 5, slots := 30, locals := 133 }
set_option maxHeartbeats 4000000 in
set_option maxRecDepth 100000 in
theorem c_X6_demandHandleAndPages (l : Launch) (hst : l.stackTraces = false) (D : va_G) (cI cZ cJ cT : ClassId) (a : Nat → Nat → Nat) (sz : Nat) (U : S2) (p1 : Int32) (p2 : Int32) (p3 : Int32) (o : Nat × Int32 × S2) (hf : f_X6_demandHandleAndPages U p1 p2 p3 = some o) : vx_Met l yX6_demandHandleAndPages wsX6_demandHandleAndPages rmX6_demandHandleAndPages (va_Pc [.ref (a 0 0), .int p1, .int p2, .int p3] (PX D cls (tys cI cZ cJ cT) (wI cI cZ cT a U) sz)) (QXv D cls o.1 (wI cI cZ cT a o.2.2) (va_A (wI cI cZ cT a U) sz)) (XX D cls o.1 (wI cI cZ cT a o.2.2) (va_A (wI cI cZ cT a U) sz)) 5 30 (va_A (wI cI cZ cT a U) sz) := by
  refine vx_ofW (cc := cX6_demandHandleAndPages) (maxL := 4) (ret := none) (by decide) rfl ?_
  intro p e s m args below meth c s₁ B hml hxt hv
  obtain ⟨hav, ⟨hsz, hP, hK, hD0⟩, hE⟩ := hv
  have hx := B.exec
  have hb := B.bytes
  have hr := B.returns
  have hlocks := B.notSynchronized
  have hts := atoms_spec (ws := wsX6_demandHandleAndPages) B.pre
  have hown : s.vm.findClass RX6 = some m.cls := findClass_of_methodNamed B.named
  subst hsz
  have hD := hD0.self (sz := s.heap.size)
  generalize hAe : va_A (wI cI cZ cT a U) s.heap.size = A at hD hE ⊢
  have hA : ∀ q : Nat, s.heap.size ≤ q → A q := fun q h => by rw [← hAe]; exact Or.inr h
  have hS : va_S A s.heap s.heap [] := va_S.rf
  have hDD : ∀ V : S2, va_D A (wI cI cZ cT a V) := fun _ => D_same (w := (wI cI cZ cT a U)) rfl hD
  refine Wq (fun Q hQ => ?_)
  refine W_entry hav (Nat.le_of_ble_eq_true rfl) (fun ls hl => ?_)
  have hl : lv_has ls 4 [(0, .ref (a 0 0)), (1, .int p1), (2, .int p2), (3, .int p3)] := hl
  unfold f_X6_demandHandleAndPages at hf
  refine W_heap hP hS (fun H locs hP hS => ?_)
  refine lv_aload_n hx hb dX6_demandHandleAndPages_0 rfl (lv_at hl 0 rfl) ?_
  refine lv_iload_n hx hb dX6_demandHandleAndPages_1 rfl (lv_at hl 1 rfl) ?_
  refine lv_iload_n hx hb dX6_demandHandleAndPages_2 rfl (lv_at hl 2 rfl) ?_
  obtain ⟨z_1, hz_1, hf⟩ := bn_some hf
  refine cXVv (As := [.int p1, .int p2]) (rest := []) ⟨hx, hb, hml, hown, hts⟩ (c_X6_demandHandleAndPage l hst D cI cZ cJ cT a H.size U p1 p2 z_1 hz_1) (cwV 2 hts gX6_demandHandleAndPages_X6_demandHandleAndPage rfl rfl rfl (by decide +kernel) ⟨Nat.le_of_ble_eq_true rfl, Nat.le_of_ble_eq_true rfl⟩) hP hK (hDD U) hE hS (own_free (hDD U) hS hA) (va_recv hK (fl_sub hP 0 rfl) (ci := 6) (q0 := 0) rfl rfl) rfl rfl hl.1 (Nat.le_of_ble_eq_true rfl) dX6_demandHandleAndPages_3 ⟨Nat.le_of_ble_eq_true rfl, Nat.le_of_ble_eq_true rfl⟩ (fun E ce q9 H locs k_2 hE9 hP hS hce hcv hcl => ?_) (fun H locs k_2 hP hS => ?_)
  · have hf := ite_f hf k_2
    have eo := Option.some.inj hf
    have hP : va_P D cls (wI cI cZ cT a o.2.2) H := by rw [← eo]; exact hP
    rw [hQ]
    exact xout (k := o.1) hxt hlocks (by rw [← eo]; exact k_2) (by rw [← eo]; exact hE9) hP hS hce hcv hcl (Nat.le_of_ble_eq_true rfl) (Nat.le_of_ble_eq_true rfl)
  have hf := ite_t hf k_2
  refine lv_aload_n hx hb dX6_demandHandleAndPages_6 rfl (lv_at hl 0 rfl) ?_
  refine lv_iload_n hx hb dX6_demandHandleAndPages_7 rfl (lv_at hl 1 rfl) ?_
  refine lv_iload_n hx hb dX6_demandHandleAndPages_8 rfl (lv_at hl 3 rfl) ?_
  obtain ⟨z_3, hz_3, hf⟩ := bn_some hf
  refine cXVv (As := [.int p1, .int p3]) (rest := []) ⟨hx, hb, hml, hown, hts⟩ (c_X6_demandHandleAndPage l hst D cI cZ cJ cT a H.size z_1.2.2 p1 p3 z_3 hz_3) (cwV 2 hts gX6_demandHandleAndPages_X6_demandHandleAndPage rfl rfl rfl (by decide +kernel) ⟨Nat.le_of_ble_eq_true rfl, Nat.le_of_ble_eq_true rfl⟩) hP hK (hDD z_1.2.2) hE hS (own_free (hDD z_1.2.2) hS hA) (va_recv hK (fl_sub hP 0 rfl) (ci := 6) (q0 := 0) rfl rfl) rfl rfl hl.1 (Nat.le_of_ble_eq_true rfl) dX6_demandHandleAndPages_9 ⟨Nat.le_of_ble_eq_true rfl, Nat.le_of_ble_eq_true rfl⟩ (fun E ce q9 H locs k_4 hE9 hP hS hce hcv hcl => ?_) (fun H locs k_4 hP hS => ?_)
  · have hf := ite_f hf k_4
    have eo := Option.some.inj hf
    have hP : va_P D cls (wI cI cZ cT a o.2.2) H := by rw [← eo]; exact hP
    rw [hQ]
    exact xout (k := o.1) hxt hlocks (by rw [← eo]; exact k_4) (by rw [← eo]; exact hE9) hP hS hce hcv hcl (Nat.le_of_ble_eq_true rfl) (Nat.le_of_ble_eq_true rfl)
  have hf := ite_t hf k_4
  refine lv_iload_n hx hb dX6_demandHandleAndPages_12 rfl (lv_at hl 3 rfl) ?_
  refine lv_iload_n hx hb dX6_demandHandleAndPages_13 rfl (lv_at hl 2 rfl) ?_
  refine lv_icmp_ge (tgt := 28) hx hb dX6_demandHandleAndPages_14 (by decide) (fun c_5 => ?_) (fun c_5 => ?_)
  · have hf := ite_t hf c_5
    have eo := Option.some.inj hf
    have hP : va_P D cls (wI cI cZ cT a o.2.2) H := by rw [← eo]; exact hP
    rw [hQ]
    refine W.widen (k := 5) (n := 30) (Nat.le_of_ble_eq_true rfl) (Nat.le_of_ble_eq_true rfl) ?_
    exact vx_ret (W.vret hx hb hr (fun t ht hW => ⟨⟨(), rfl, (by rw [← eo]), P_at ht hP⟩, hS.F ht⟩) hS.2.2 dX6_demandHandleAndPages_28 hlocks)
  · have hf := ite_f hf c_5
    have eo := Option.some.inj hf
    have hP : va_P D cls (wI cI cZ cT a o.2.2) H := by rw [← eo]; exact hP
    rw [hQ]
    have hk0 : o.1 = 1 := by rw [← eo]
    exact thrW o.1 (text := "last is below first") (by rw [hk0]; rfl) (by rw [hk0]; decide) hx hb hst hown (by decide +kernel) (hts (.classLink RX6 88 "java/lang/IllegalArgumentException") (by decide +kernel)) (hts (.initialized "java/lang/IllegalArgumentException") (by decide +kernel)) (fun w h => hts w (List.mem_cons_of_mem _ (List.mem_append_left _ (List.mem_append_right _ h)))) (EX_b1 hE) ok1 (by decide +kernel) hE hS hP (hl.1.trans hml.symm) dX6_demandHandleAndPages_17 dX6_demandHandleAndPages_20 dX6_demandHandleAndPages_21 dX6_demandHandleAndPages_24 dX6_demandHandleAndPages_27 hxt (Nat.le_of_ble_eq_true rfl) (Nat.le_of_ble_eq_true rfl) (Nat.le_of_ble_eq_true rfl) (Nat.le_of_ble_eq_true rfl) hlocks (Nat.le_of_ble_eq_true rfl) (Nat.le_of_ble_eq_true rfl)
set_option maxRecDepth 20000 in
theorem ggX6_countOfUnused_X6_isUnused : GoodIn wsX6_countOfUnused wsX6_isUnused := goodIn_r _ [5, 6, 7, 8, 9, 10, 11, 12, 13, 14, 15, 16, 4, 17, 18, 19, 20, 21, 22, 23, 24, 25, 26, 27, 28, 29, 30, 31, 32, 33, 34, 35, 36, 37, 38, 39, 40, 41, 42] (by decide +kernel) (by decide +kernel)
set_option maxRecDepth 20000 in
theorem gX6_countOfUnused_X6_isUnused : GoodIn wsX6_countOfUnused (wsV RX6 400 RX6 yX6_isUnused wsX6_isUnused) := goodIn_app (goodIn_of _ (by decide +kernel)) ggX6_countOfUnused_X6_isUnused
theorem dX6_countOfUnused_0 : decode cX6_countOfUnused 0 = .ok (.iconst 0, 1) := by decide +kernel
theorem dX6_countOfUnused_1 : decode cX6_countOfUnused 1 = .ok (.istore_n 1, 1) := by decide +kernel
theorem dX6_countOfUnused_2 : decode cX6_countOfUnused 2 = .ok (.iconst 0, 1) := by decide +kernel
theorem dX6_countOfUnused_3 : decode cX6_countOfUnused 3 = .ok (.istore_n 2, 1) := by decide +kernel
theorem dX6_countOfUnused_4 : decode cX6_countOfUnused 4 = .ok (.iload_n 2, 1) := by decide +kernel
theorem dX6_countOfUnused_5 : decode cX6_countOfUnused 5 = .ok (.bipush 64, 2) := by decide +kernel
theorem dX6_countOfUnused_7 : decode cX6_countOfUnused 7 = .ok (.if_icmp .ge 20, 3) := by decide +kernel
theorem dX6_countOfUnused_10 : decode cX6_countOfUnused 10 = .ok (.aload_n 0, 1) := by decide +kernel
theorem dX6_countOfUnused_11 : decode cX6_countOfUnused 11 = .ok (.iload_n 2, 1) := by decide +kernel
theorem dX6_countOfUnused_12 : decode cX6_countOfUnused 12 = .ok (.invokevirtual 400, 3) := by decide +kernel
theorem dX6_countOfUnused_15 : decode cX6_countOfUnused 15 = .ok (.ifCond .eq 6, 3) := by decide +kernel
theorem dX6_countOfUnused_18 : decode cX6_countOfUnused 18 = .ok (.iinc 1 1, 3) := by decide +kernel
theorem dX6_countOfUnused_21 : decode cX6_countOfUnused 21 = .ok (.iinc 2 1, 3) := by decide +kernel
theorem dX6_countOfUnused_24 : decode cX6_countOfUnused 24 = .ok (.goto (-20), 3) := by decide +kernel
theorem dX6_countOfUnused_27 : decode cX6_countOfUnused 27 = .ok (.iload_n 1, 1) := by decide +kernel
theorem dX6_countOfUnused_28 : decode cX6_countOfUnused 28 = .ok (.ireturn, 1) := by decide +kernel
def f_X6_countOfUnused (U : S2) : Option (Int32) := qj2 (fun (r4_1 : Int32 → Int32 → Option (Int32)) (y4_1_1 : Int32) (y4_1_2 : Int32) => if 64 ≤ y4_1_2 then some y4_1_1 else bn (f_X6_isUnused U y4_1_2) (fun z_3 => jn (fun (y21_4_1 : Int32) => r4_1 y21_4_1 (y4_1_2 + 1)) (fun k21_4 => if z_3 = 0 then k21_4 y4_1_1 else k21_4 (y4_1_1 + 1)))) (fun k4_1 => k4_1 0 0)
def rmX6_countOfUnused : Room := { frames := 3, cells := 0, slots := 0, locals := 64 }
set_option maxHeartbeats 4000000 in
set_option maxRecDepth 100000 in
theorem c_X6_countOfUnused (l : Launch) (D : va_G) (cI cZ cJ cT : ClassId) (a : Nat → Nat → Nat) (U : S2) (o : Int32) (hf : f_X6_countOfUnused U = some o) : Met l yX6_countOfUnused wsX6_countOfUnused rmX6_countOfUnused (va_Pc [.ref (a 0 0)] (PR D cls (tys cI cZ cJ cT) (wI cI cZ cT a U))) (QR o) 0 0 (fun _ => False) := by
  refine Met.ofW (cc := cX6_countOfUnused) (maxL := 3) (ret := (some .int)) (by decide) rfl ?_
  intro p e s m args below meth c s₁ B hml hv
  obtain ⟨hav, hP, hK⟩ := hv
  have hx := B.exec
  have hb := B.bytes
  have hr := B.returns
  have hlocks := B.notSynchronized
  have hts := atoms_spec (ws := wsX6_countOfUnused) B.pre
  have hown : s.vm.findClass RX6 = some m.cls := findClass_of_methodNamed B.named
  refine Wq (fun Q hQ => ?_)
  refine W_entry hav (Nat.le_of_ble_eq_true rfl) (fun ls hl => ?_)
  have hl : lv_has ls 3 [(0, .ref (a 0 0))] := hl
  unfold f_X6_countOfUnused at hf
  refine lv_iconst (v := 0) hx hb dX6_countOfUnused_0 (by decide) ?_
  refine lv_istore_n (lv' := [(1, .int 0), (0, .ref (a 0 0))]) hx hb dX6_countOfUnused_1 rfl hl (by decide) rfl (fun ls hl => ?_)
  refine lv_iconst (v := 0) hx hb dX6_countOfUnused_2 (by decide) ?_
  refine lv_istore_n (lv' := [(2, .int 0), (1, .int 0), (0, .ref (a 0 0))]) hx hb dX6_countOfUnused_3 rfl hl (by decide) rfl (fun ls hl => ?_)
  obtain ⟨G4_1, hG4_1, hf⟩ := qj2_some hf
  have j4_1 : ∀ (n : Nat) (y4_1_1 : Int32) (y4_1_2 : Int32) (ls : Array Slot), ql2 G4_1 n y4_1_1 y4_1_2 = some o → lv_has ls 3 [(0, .ref (a 0 0)), (1, .int y4_1_1), (2, .int y4_1_2)] → W p l e (headSpec wsX6_countOfUnused rmX6_countOfUnused).room s m args below meth c s.heap [] 0 0 Q (F0 m 4 ls []) := by
    intro n
    induction n with
    | zero => intro y4_1_1 y4_1_2 ls hf hl; exact (ql2_z hf).elim
    | succ n ih4_1 =>
      intro y4_1_1 y4_1_2 ls hf hl
      have hf := ql2_s hG4_1 hf
      obtain ⟨r4_1, hr4_1⟩ : ∃ z, z = ql2 G4_1 n := ⟨_, rfl⟩
      rw [← hr4_1] at hf ih4_1
      refine lv_iload_n hx hb dX6_countOfUnused_4 rfl (lv_at hl 2 rfl) ?_
      refine lv_bipush (v := 64) hx hb dX6_countOfUnused_5 (by decide) ?_
      refine lv_icmp_ge (tgt := 27) hx hb dX6_countOfUnused_7 (by decide) (fun c_2 => ?_) (fun c_2 => ?_)
      · have hf := ite_t hf c_2
        refine lv_iload_n hx hb dX6_countOfUnused_27 rfl (lv_at hl 1 rfl) ?_
        rw [hQ]
        exact W.iret hx hb hr (fun t ht hW => ⟨_, rfl, Option.some.inj hf, ht⟩) (fun _ h => nomatch h) dX6_countOfUnused_28 hlocks
      · have hf := ite_f hf c_2
        refine lv_aload_n hx hb dX6_countOfUnused_10 rfl (lv_at hl 0 rfl) ?_
        refine lv_iload_n hx hb dX6_countOfUnused_11 rfl (lv_at hl 2 rfl) ?_
        obtain ⟨z_3, hz_3, hf⟩ := bn_some hf
        refine cRV (As := [.int y4_1_2]) (rest := []) ⟨hx, hb, hml, hown, hts⟩ (c_X6_isUnused l D cI cZ cJ cT a U y4_1_2 z_3 hz_3) (cwV 1 hts gX6_countOfUnused_X6_isUnused rfl rfl rfl (by decide +kernel) ⟨Nat.le_of_ble_eq_true rfl, Nat.le_of_ble_eq_true rfl⟩) hP hK (va_recv hK (fl_sub hP 0 rfl) (ci := 6) (q0 := 0) rfl rfl) rfl rfl hl.1 (Nat.le_of_ble_eq_true rfl) dX6_countOfUnused_12 ⟨Nat.le_of_ble_eq_true rfl, Nat.le_of_ble_eq_true rfl⟩ ?_
        obtain ⟨k21_4, hk21_4, hf⟩ := jn_some hf
        have j21_4 : ∀ (y21_4_1 : Int32) (ls : Array Slot), k21_4 y21_4_1 = some o → lv_has ls 3 [(0, .ref (a 0 0)), (1, .int y21_4_1), (2, .int y4_1_2)] → W p l e (headSpec wsX6_countOfUnused rmX6_countOfUnused).room s m args below meth c s.heap [] 0 0 Q (F0 m 21 ls []) := by
          intro y21_4_1 ls hf hl
          have hf := qa1 hk21_4 hf
          refine lv_iinc (v := y4_1_2 + 1) (lv' := [(2, .int (y4_1_2 + 1)), (0, .ref (a 0 0)), (1, .int y21_4_1)]) hx hb dX6_countOfUnused_21 hl (k := 2) rfl rfl (by decide) rfl (fun ls hl => ?_)
          refine lv_goto (tgt := 4) hx hb dX6_countOfUnused_24 (by decide) ?_
          exact ih4_1 _ _ _ hf (lv_sub hl [1, 2, 0] rfl)
        refine lv_if_eq (tgt := 21) hx hb dX6_countOfUnused_15 (by decide) (fun c_5 => ?_) (fun c_5 => ?_)
        · have hf := ite_t hf c_5
          exact j21_4 _ _ hf (lv_sub hl [0, 1, 2] rfl)
        · have hf := ite_f hf c_5
          refine lv_iinc (v := y4_1_1 + 1) (lv' := [(1, .int (y4_1_1 + 1)), (0, .ref (a 0 0)), (2, .int y4_1_2)]) hx hb dX6_countOfUnused_18 hl (k := 1) rfl rfl (by decide) rfl (fun ls hl => ?_)
          exact j21_4 _ _ hf (lv_sub hl [1, 0, 2] rfl)
  exact j4_1 4096 _ _ _ hf (lv_sub hl [2, 1, 0] rfl)
set_option maxRecDepth 20000 in
theorem ggX6_ahead_X3_thingOf : GoodIn wsX6_ahead wsX3_thingOf := goodIn_r _ [53, 54, 44, 23, 24, 25, 26, 27, 151, 152, 153, 154, 155] (by decide +kernel) (by decide +kernel)
set_option maxRecDepth 20000 in
theorem gX6_ahead_X3_thingOf : GoodIn wsX6_ahead (wsV RX6 205 RX3 yX3_thingOf wsX3_thingOf) := goodIn_app (goodIn_of _ (by decide +kernel)) ggX6_ahead_X3_thingOf
set_option maxRecDepth 20000 in
theorem ggX6_ahead_X4_holesOf : GoodIn wsX6_ahead wsX4_holesOf := goodIn_r _ [59, 60, 61, 62, 58, 63, 64, 65, 66, 67, 68, 69, 70, 156, 157, 158, 159, 160, 161, 162, 163, 164, 165, 166, 167] (by decide +kernel) (by decide +kernel)
set_option maxRecDepth 20000 in
theorem gX6_ahead_X4_holesOf : GoodIn wsX6_ahead (wsV RX6 250 RX4 yX4_holesOf wsX4_holesOf) := goodIn_app (goodIn_of _ (by decide +kernel)) ggX6_ahead_X4_holesOf
set_option maxRecDepth 20000 in
theorem ggX6_ahead_X4_pageKindOf : GoodIn wsX6_ahead wsX4_pageKindOf := goodIn_r _ [63, 64, 65, 66, 58, 67, 68, 69, 70, 156, 157, 158, 159, 160, 161, 162, 163, 164, 165, 166, 167] (by decide +kernel) (by decide +kernel)
set_option maxRecDepth 20000 in
theorem gX6_ahead_X4_pageKindOf : GoodIn wsX6_ahead (wsV RX6 263 RX4 yX4_pageKindOf wsX4_pageKindOf) := goodIn_app (goodIn_of _ (by decide +kernel)) ggX6_ahead_X4_pageKindOf
set_option maxRecDepth 20000 in
theorem ggX6_ahead_X4_setPage : GoodIn wsX6_ahead wsX4_setPage := goodIn_r _ [135, 127, 64, 65, 66, 58, 67, 68, 69, 70, 136, 137, 138, 139, 111, 88, 156, 157, 158, 159, 160, 161, 162, 163, 164, 165, 166, 167] (by decide +kernel) (by decide +kernel)
set_option maxRecDepth 20000 in
theorem gX6_ahead_X4_setPage : GoodIn wsX6_ahead (wsV RX6 230 RX4 yX4_setPage wsX4_setPage) := goodIn_app (goodIn_of _ (by decide +kernel)) ggX6_ahead_X4_setPage
set_option maxRecDepth 20000 in
theorem ggX6_ahead_X6_blockFor : GoodIn wsX6_ahead wsX6_blockFor := goodIn_r _ [122, 4, 123, 124, 125, 58, 126, 127, 65, 66, 67, 68, 69, 70, 102, 103, 104, 8, 105, 106, 107, 108, 109, 110, 111, 112, 113, 114, 115, 116, 117, 128, 129, 130, 131, 140, 141, 142, 143, 144, 145, 146, 147, 148, 149, 150, 156, 157, 158, 159, 160, 161, 162, 163, 164, 165, 166, 167] (by decide +kernel) (by decide +kernel)
set_option maxRecDepth 20000 in
theorem gX6_ahead_X6_blockFor : GoodIn wsX6_ahead (wsV RX6 266 RX6 yX6_blockFor wsX6_blockFor) := goodIn_app (goodIn_of _ (by decide +kernel)) ggX6_ahead_X6_blockFor
set_option maxRecDepth 20000 in
theorem ggX6_ahead_X6_countOfUnused : GoodIn wsX6_ahead wsX6_countOfUnused := goodIn_r _ [101, 102, 103, 104, 8, 105, 4, 106, 107, 108, 109, 58, 110, 111, 112, 113, 114, 115, 116, 117, 140, 141, 142, 143, 144, 145, 146, 147, 148, 149, 150, 156, 157, 158, 159, 160, 161, 162, 163, 164, 165, 166, 167] (by decide +kernel) (by decide +kernel)
set_option maxRecDepth 20000 in
theorem gX6_ahead_X6_countOfUnused : GoodIn wsX6_ahead (wsV RX6 257 RX6 yX6_countOfUnused wsX6_countOfUnused) := goodIn_app (goodIn_of _ (by decide +kernel)) ggX6_ahead_X6_countOfUnused
set_option maxRecDepth 20000 in
theorem ggX6_ahead_X6_demandHandleAndPages : GoodIn wsX6_ahead wsX6_demandHandleAndPages := goodIn_ca (goodIn_ca (goodIn_r _ [9, 10, 11, 12, 13, 14, 8, 15, 16, 17, 18, 19, 20, 21, 3, 22, 23, 24, 25, 26, 27, 28, 29, 30, 140, 141, 142, 143, 144, 145, 146, 147, 148, 149, 150, 151, 152, 153, 154, 155] (by decide +kernel) (by decide +kernel)) (goodIn_sub (fun _ h => List.mem_cons_of_mem _ (List.mem_append_left _ (List.mem_append_right _ h))) (by decide +kernel))) (goodIn_sub (fun _ h => List.mem_cons_of_mem _ (List.mem_append_right _ h)) (by decide +kernel))
set_option maxRecDepth 20000 in
theorem gX6_ahead_X6_demandHandleAndPages : GoodIn wsX6_ahead (wsV RX6 247 RX6 yX6_demandHandleAndPages wsX6_demandHandleAndPages) := goodIn_app (goodIn_of _ (by decide +kernel)) ggX6_ahead_X6_demandHandleAndPages
set_option maxRecDepth 20000 in
theorem ggX6_ahead_X6_demandWriting : GoodIn wsX6_ahead wsX6_demandWriting := goodIn_ca (goodIn_r _ [34, 1, 2, 3, 35, 36, 37, 8, 38, 39, 40, 41, 25, 42, 43, 44, 23, 24, 26, 27, 45, 46, 47, 48, 49, 140, 141, 142, 143, 144, 145, 146, 147, 148, 149, 150, 151, 152, 153, 154, 155] (by decide +kernel) (by decide +kernel)) (goodIn_sub (fun _ h => List.mem_cons_of_mem _ (List.mem_append_left _ (List.mem_append_left _ (List.mem_append_right _ h)))) (by decide +kernel))
set_option maxRecDepth 20000 in
theorem gX6_ahead_X6_demandWriting : GoodIn wsX6_ahead (wsV RX6 222 RX6 yX6_demandWriting wsX6_demandWriting) := goodIn_app (goodIn_of _ (by decide +kernel)) ggX6_ahead_X6_demandWriting
set_option maxRecDepth 20000 in
theorem ggX6_ahead_X6_isWithinQuota : GoodIn wsX6_ahead wsX6_isWithinQuota := goodIn_r _ [74, 4, 75, 76, 77, 78, 58, 79, 80, 68, 69, 70, 81, 82, 8, 83, 84, 85, 86, 87, 88, 89, 90, 91, 92, 93, 94, 95, 96, 97, 140, 141, 142, 143, 144, 145, 146, 147, 148, 149, 150, 156, 157, 158, 159, 160, 161, 162, 163, 164, 165, 166, 167] (by decide +kernel) (by decide +kernel)
set_option maxRecDepth 20000 in
theorem gX6_ahead_X6_isWithinQuota : GoodIn wsX6_ahead (wsV RX6 254 RX6 yX6_isWithinQuota wsX6_isWithinQuota) := goodIn_app (goodIn_of _ (by decide +kernel)) ggX6_ahead_X6_isWithinQuota
theorem dX6_ahead_0 : decode cX6_ahead 0 = .ok (.aload_n 0, 1) := by decide +kernel
theorem dX6_ahead_1 : decode cX6_ahead 1 = .ok (.iload_n 1, 1) := by decide +kernel
theorem dX6_ahead_2 : decode cX6_ahead 2 = .ok (.iload_n 2, 1) := by decide +kernel
theorem dX6_ahead_3 : decode cX6_ahead 3 = .ok (.iload_n 3, 1) := by decide +kernel
theorem dX6_ahead_4 : decode cX6_ahead 4 = .ok (.invokevirtual 247, 3) := by decide +kernel
theorem dX6_ahead_7 : decode cX6_ahead 7 = .ok (.aload_n 0, 1) := by decide +kernel
theorem dX6_ahead_8 : decode cX6_ahead 8 = .ok (.iload_n 1, 1) := by decide +kernel
theorem dX6_ahead_9 : decode cX6_ahead 9 = .ok (.invokevirtual 222, 3) := by decide +kernel
theorem dX6_ahead_12 : decode cX6_ahead 12 = .ok (.aload_n 0, 1) := by decide +kernel
theorem dX6_ahead_13 : decode cX6_ahead 13 = .ok (.getfield 51, 3) := by decide +kernel
theorem dX6_ahead_16 : decode cX6_ahead 16 = .ok (.iload_n 1, 1) := by decide +kernel
theorem dX6_ahead_17 : decode cX6_ahead 17 = .ok (.invokevirtual 205, 3) := by decide +kernel
theorem dX6_ahead_20 : decode cX6_ahead 20 = .ok (.istore 4, 2) := by decide +kernel
theorem dX6_ahead_22 : decode cX6_ahead 22 = .ok (.aload_n 0, 1) := by decide +kernel
theorem dX6_ahead_23 : decode cX6_ahead 23 = .ok (.getfield 12, 3) := by decide +kernel
theorem dX6_ahead_26 : decode cX6_ahead 26 = .ok (.iload 4, 2) := by decide +kernel
theorem dX6_ahead_28 : decode cX6_ahead 28 = .ok (.iload_n 2, 1) := by decide +kernel
theorem dX6_ahead_29 : decode cX6_ahead 29 = .ok (.iload_n 3, 1) := by decide +kernel
theorem dX6_ahead_30 : decode cX6_ahead 30 = .ok (.invokevirtual 250, 3) := by decide +kernel
theorem dX6_ahead_33 : decode cX6_ahead 33 = .ok (.istore 5, 2) := by decide +kernel
theorem dX6_ahead_35 : decode cX6_ahead 35 = .ok (.iload 5, 2) := by decide +kernel
theorem dX6_ahead_37 : decode cX6_ahead 37 = .ok (.ifCond .le 34, 3) := by decide +kernel
theorem dX6_ahead_40 : decode cX6_ahead 40 = .ok (.aload_n 0, 1) := by decide +kernel
theorem dX6_ahead_41 : decode cX6_ahead 41 = .ok (.iload 4, 2) := by decide +kernel
theorem dX6_ahead_43 : decode cX6_ahead 43 = .ok (.iload 5, 2) := by decide +kernel
theorem dX6_ahead_45 : decode cX6_ahead 45 = .ok (.invokevirtual 254, 3) := by decide +kernel
theorem dX6_ahead_48 : decode cX6_ahead 48 = .ok (.ifCond .eq 12, 3) := by decide +kernel
theorem dX6_ahead_51 : decode cX6_ahead 51 = .ok (.iload 5, 2) := by decide +kernel
theorem dX6_ahead_53 : decode cX6_ahead 53 = .ok (.aload_n 0, 1) := by decide +kernel
theorem dX6_ahead_54 : decode cX6_ahead 54 = .ok (.invokevirtual 257, 3) := by decide +kernel
theorem dX6_ahead_57 : decode cX6_ahead 57 = .ok (.if_icmp .le 14, 3) := by decide +kernel
theorem dX6_ahead_60 : decode cX6_ahead 60 = .ok (.new 110, 3) := by decide +kernel
theorem dX6_ahead_63 : decode cX6_ahead 63 = .ok (.dup, 1) := by decide +kernel
theorem dX6_ahead_64 : decode cX6_ahead 64 = .ok (.ldc_w 261, 3) := by decide +kernel
theorem dX6_ahead_67 : decode cX6_ahead 67 = .ok (.invokespecial 114, 3) := by decide +kernel
theorem dX6_ahead_70 : decode cX6_ahead 70 = .ok (.athrow, 1) := by decide +kernel
theorem dX6_ahead_71 : decode cX6_ahead 71 = .ok (.iload_n 2, 1) := by decide +kernel
theorem dX6_ahead_72 : decode cX6_ahead 72 = .ok (.istore 6, 2) := by decide +kernel
theorem dX6_ahead_74 : decode cX6_ahead 74 = .ok (.iload 6, 2) := by decide +kernel
theorem dX6_ahead_76 : decode cX6_ahead 76 = .ok (.iload_n 3, 1) := by decide +kernel
theorem dX6_ahead_77 : decode cX6_ahead 77 = .ok (.if_icmp .gt 50, 3) := by decide +kernel
theorem dX6_ahead_80 : decode cX6_ahead 80 = .ok (.iload 6, 2) := by decide +kernel
theorem dX6_ahead_82 : decode cX6_ahead 82 = .ok (.bipush 16, 2) := by decide +kernel
theorem dX6_ahead_84 : decode cX6_ahead 84 = .ok (.if_icmp .ge 43, 3) := by decide +kernel
theorem dX6_ahead_87 : decode cX6_ahead 87 = .ok (.aload_n 0, 1) := by decide +kernel
theorem dX6_ahead_88 : decode cX6_ahead 88 = .ok (.getfield 12, 3) := by decide +kernel
theorem dX6_ahead_91 : decode cX6_ahead 91 = .ok (.iload 4, 2) := by decide +kernel
theorem dX6_ahead_93 : decode cX6_ahead 93 = .ok (.iload 6, 2) := by decide +kernel
theorem dX6_ahead_95 : decode cX6_ahead 95 = .ok (.invokevirtual 263, 3) := by decide +kernel
theorem dX6_ahead_98 : decode cX6_ahead 98 = .ok (.ifCond .ne 23, 3) := by decide +kernel
theorem dX6_ahead_101 : decode cX6_ahead 101 = .ok (.aload_n 0, 1) := by decide +kernel
theorem dX6_ahead_102 : decode cX6_ahead 102 = .ok (.getfield 12, 3) := by decide +kernel
theorem dX6_ahead_105 : decode cX6_ahead 105 = .ok (.iload 4, 2) := by decide +kernel
theorem dX6_ahead_107 : decode cX6_ahead 107 = .ok (.iload 6, 2) := by decide +kernel
theorem dX6_ahead_109 : decode cX6_ahead 109 = .ok (.iconst 1, 1) := by decide +kernel
theorem dX6_ahead_110 : decode cX6_ahead 110 = .ok (.aload_n 0, 1) := by decide +kernel
theorem dX6_ahead_111 : decode cX6_ahead 111 = .ok (.iload 4, 2) := by decide +kernel
theorem dX6_ahead_113 : decode cX6_ahead 113 = .ok (.iload 6, 2) := by decide +kernel
theorem dX6_ahead_115 : decode cX6_ahead 115 = .ok (.invokevirtual 266, 3) := by decide +kernel
theorem dX6_ahead_118 : decode cX6_ahead 118 = .ok (.invokevirtual 230, 3) := by decide +kernel
theorem dX6_ahead_121 : decode cX6_ahead 121 = .ok (.iinc 6 1, 3) := by decide +kernel
theorem dX6_ahead_124 : decode cX6_ahead 124 = .ok (.goto (-50), 3) := by decide +kernel
theorem dX6_ahead_127 : decode cX6_ahead 127 = .ok (.iload 5, 2) := by decide +kernel
theorem dX6_ahead_129 : decode cX6_ahead 129 = .ok (.ireturn, 1) := by decide +kernel
def f_X6_ahead (U : S2) (p1 : Int32) (p2 : Int32) (p3 : Int32) : Option (Nat × Int32 × S2) := bn (f_X6_demandHandleAndPages U p1 p2 p3) (fun z_1 => if z_1.1 = 0 then bn (f_X6_demandWriting z_1.2.2 p1) (fun z_3 => if z_3.1 = 0 then bn (f_X3_thingOf (z_3.2.2 9) p1) (fun z_5 => bn (f_X4_holesOf (z_3.2.2 1) z_5 p2 p3) (fun z_6 => jn (qj2 (fun (r74_8 : Int32 → S2 → Option (Nat × Int32 × S2)) (y74_8_6 : Int32) (u74_8_0 : S2) => jn (some (0, z_6, u74_8_0)) (fun k127_9 => if p3 < y74_8_6 then k127_9 else if 16 ≤ y74_8_6 then k127_9 else bn (f_X4_pageKindOf (u74_8_0 1) z_5 y74_8_6) (fun z_12 => jn (fun (u121_13_0 : S2) => r74_8 (y74_8_6 + 1) u121_13_0) (fun k121_13 => if z_12 = 0 then bn (f_X6_blockFor u74_8_0 z_5 y74_8_6) (fun z_15 => bn (f_X4_setPage (u74_8_0 1) z_5 y74_8_6 1 z_15) (fun z_16 => bv (upc u74_8_0 1 z_16) (fun u_17 => k121_13 u_17))) else k121_13 u74_8_0)))) (fun k74_8 => k74_8 p2 z_3.2.2)) (fun k71_7 => if z_6 ≤ 0 then k71_7 else bn (f_X6_isWithinQuota z_3.2.2 z_5 z_6) (fun z_19 => jn (some (3, 0, z_3.2.2)) (fun k60_20 => if z_19 = 0 then k60_20 else bn (f_X6_countOfUnused z_3.2.2) (fun z_22 => if z_6 ≤ z_22 then k71_7 else k60_20)))))) else some (z_3.1, 0, z_3.2.2)) else some (z_1.1, 0, z_1.2.2))
def rmX6_ahead : Room := { frames := 9, cells := 8, slots := 48, locals := 156 }
set_option maxHeartbeats 4000000 in
set_option maxRecDepth 100000 in
theorem c_X6_ahead (l : Launch) (hst : l.stackTraces = false) (D : va_G) (cI cZ cJ cT : ClassId) (a : Nat → Nat → Nat) (sz : Nat) (U : S2) (p1 : Int32) (p2 : Int32) (p3 : Int32) (o : Nat × Int32 × S2) (hf : f_X6_ahead U p1 p2 p3 = some o) : vx_Met l yX6_ahead wsX6_ahead rmX6_ahead (va_Pc [.ref (a 0 0), .int p1, .int p2, .int p3] (PX D cls (tys cI cZ cJ cT) (wI cI cZ cT a U) sz)) (QXi D cls o.1 o.2.1 (wI cI cZ cT a o.2.2) (va_A (wI cI cZ cT a U) sz)) (XX D cls o.1 (wI cI cZ cT a o.2.2) (va_A (wI cI cZ cT a U) sz)) 8 48 (va_A (wI cI cZ cT a U) sz) := by
  refine vx_ofW (cc := cX6_ahead) (maxL := 7) (ret := (some .int)) (by decide) rfl ?_
  intro p e s m args below meth c s₁ B hml hxt hv
  obtain ⟨hav, ⟨hsz, hP, hK, hD0⟩, hE⟩ := hv
  have hx := B.exec
  have hb := B.bytes
  have hr := B.returns
  have hlocks := B.notSynchronized
  have hts := atoms_spec (ws := wsX6_ahead) B.pre
  have hown : s.vm.findClass RX6 = some m.cls := findClass_of_methodNamed B.named
  have i6 : ∀ w ∈ wsX60, w ∈ wsX6_ahead := fun w h => List.mem_cons_of_mem _ (List.mem_append_left _ (List.mem_append_left _ (List.mem_append_left _ (List.mem_append_left _ (List.mem_append_left _ (List.mem_append_right _ h))))))
  have hk12 := hts (.fieldLink RX6 12 "Inodery" "now" "LInodery$Tree;") (by decide +kernel)
  have hk51 := hts (.fieldLink RX6 51 "Inodery" "handles" "LInodery$Handles;") (by decide +kernel)
  subst hsz
  have hD := hD0.self (sz := s.heap.size)
  generalize hAe : va_A (wI cI cZ cT a U) s.heap.size = A at hD hE ⊢
  have hA : ∀ q : Nat, s.heap.size ≤ q → A q := fun q h => by rw [← hAe]; exact Or.inr h
  have hS : va_S A s.heap s.heap [] := va_S.rf
  have hDD : ∀ V : S2, va_D A (wI cI cZ cT a V) := fun _ => D_same (w := (wI cI cZ cT a U)) rfl hD
  refine Wq (fun Q hQ => ?_)
  refine W_entry hav (Nat.le_of_ble_eq_true rfl) (fun ls hl => ?_)
  have hl : lv_has ls 7 [(0, .ref (a 0 0)), (1, .int p1), (2, .int p2), (3, .int p3)] := hl
  unfold f_X6_ahead at hf
  refine W_heap hP hS (fun H locs hP hS => ?_)
  refine lv_aload_n hx hb dX6_ahead_0 rfl (lv_at hl 0 rfl) ?_
  refine lv_iload_n hx hb dX6_ahead_1 rfl (lv_at hl 1 rfl) ?_
  refine lv_iload_n hx hb dX6_ahead_2 rfl (lv_at hl 2 rfl) ?_
  refine lv_iload_n hx hb dX6_ahead_3 rfl (lv_at hl 3 rfl) ?_
  obtain ⟨z_1, hz_1, hf⟩ := bn_some hf
  refine cXVv (As := [.int p1, .int p2, .int p3]) (rest := []) ⟨hx, hb, hml, hown, hts⟩ (c_X6_demandHandleAndPages l hst D cI cZ cJ cT a H.size U p1 p2 p3 z_1 hz_1) (cwV 3 hts gX6_ahead_X6_demandHandleAndPages rfl rfl rfl (by decide +kernel) ⟨Nat.le_of_ble_eq_true rfl, Nat.le_of_ble_eq_true rfl⟩) hP hK (hDD U) hE hS (own_free (hDD U) hS hA) (va_recv hK (fl_sub hP 0 rfl) (ci := 6) (q0 := 0) rfl rfl) rfl rfl hl.1 (Nat.le_of_ble_eq_true rfl) dX6_ahead_4 ⟨Nat.le_of_ble_eq_true rfl, Nat.le_of_ble_eq_true rfl⟩ (fun E ce q9 H locs k_2 hE9 hP hS hce hcv hcl => ?_) (fun H locs k_2 hP hS => ?_)
  · have hf := ite_f hf k_2
    have eo := Option.some.inj hf
    have hP : va_P D cls (wI cI cZ cT a o.2.2) H := by rw [← eo]; exact hP
    rw [hQ]
    exact xout (k := o.1) hxt hlocks (by rw [← eo]; exact k_2) (by rw [← eo]; exact hE9) hP hS hce hcv hcl (Nat.le_of_ble_eq_true rfl) (Nat.le_of_ble_eq_true rfl)
  have hf := ite_t hf k_2
  refine lv_aload_n hx hb dX6_ahead_7 rfl (lv_at hl 0 rfl) ?_
  refine lv_iload_n hx hb dX6_ahead_8 rfl (lv_at hl 1 rfl) ?_
  obtain ⟨z_3, hz_3, hf⟩ := bn_some hf
  refine cXVv (As := [.int p1]) (rest := []) ⟨hx, hb, hml, hown, hts⟩ (c_X6_demandWriting l hst D cI cZ cJ cT a H.size z_1.2.2 p1 z_3 hz_3) (cwV 1 hts gX6_ahead_X6_demandWriting rfl rfl rfl (by decide +kernel) ⟨Nat.le_of_ble_eq_true rfl, Nat.le_of_ble_eq_true rfl⟩) hP hK (hDD z_1.2.2) hE hS (own_free (hDD z_1.2.2) hS hA) (va_recv hK (fl_sub hP 0 rfl) (ci := 6) (q0 := 0) rfl rfl) rfl rfl hl.1 (Nat.le_of_ble_eq_true rfl) dX6_ahead_9 ⟨Nat.le_of_ble_eq_true rfl, Nat.le_of_ble_eq_true rfl⟩ (fun E ce q9 H locs k_4 hE9 hP hS hce hcv hcl => ?_) (fun H locs k_4 hP hS => ?_)
  · have hf := ite_f hf k_4
    have eo := Option.some.inj hf
    have hP : va_P D cls (wI cI cZ cT a o.2.2) H := by rw [← eo]; exact hP
    rw [hQ]
    exact xout (k := o.1) hxt hlocks (by rw [← eo]; exact k_4) (by rw [← eo]; exact hE9) hP hS hce hcv hcl (Nat.le_of_ble_eq_true rfl) (Nat.le_of_ble_eq_true rfl)
  have hf := ite_t hf k_4
  refine lv_aload_n hx hb dX6_ahead_12 rfl (lv_at hl 0 rfl) ?_
  refine va_get (D := D) (ci := 6) (v := .ref (a 9 0)) (C := RX6) (T := TX6) (N := 11) hx hb hts i6 hown hK (fl_sub hP 0 rfl) 0 rfl rfl 7 (by decide) hk51 (fun _ h9 => h9) rfl dX6_ahead_13 ?_
  refine lv_iload_n hx hb dX6_ahead_16 rfl (lv_at hl 1 rfl) ?_
  obtain ⟨z_5, hz_5, hf⟩ := bn_some hf
  refine cRV (As := [.int p1]) (rest := []) ⟨hx, hb, hml, hown, hts⟩ (c_X3_thingOf l D cI cZ cJ cT (a 9) (z_3.2.2 9) p1 z_5 hz_5) (cwV 1 hts gX6_ahead_X3_thingOf rfl rfl rfl (by decide +kernel) ⟨Nat.le_of_ble_eq_true rfl, Nat.le_of_ble_eq_true rfl⟩) (fl_sub hP 9 rfl) hK (va_recv hK (fl_sub hP 9 rfl) (ci := 3) (q0 := 0) rfl rfl) rfl rfl hl.1 (Nat.le_of_ble_eq_true rfl) dX6_ahead_17 ⟨Nat.le_of_ble_eq_true rfl, Nat.le_of_ble_eq_true rfl⟩ ?_
  refine lv_istore (lv' := [(4, .int z_5), (0, .ref (a 0 0)), (1, .int p1), (2, .int p2), (3, .int p3)]) hx hb dX6_ahead_20 hl (by decide) rfl (fun ls hl => ?_)
  refine lv_aload_n hx hb dX6_ahead_22 rfl (lv_at hl 1 rfl) ?_
  refine va_get (D := D) (ci := 6) (v := .ref (a 1 0)) (C := RX6) (T := TX6) (N := 11) hx hb hts i6 hown hK (fl_sub hP 0 rfl) 0 rfl rfl 0 (by decide) hk12 (fun _ h9 => h9) rfl dX6_ahead_23 ?_
  refine lv_iload hx hb dX6_ahead_26 (lv_at hl 0 rfl) ?_
  refine lv_iload_n hx hb dX6_ahead_28 rfl (lv_at hl 3 rfl) ?_
  refine lv_iload_n hx hb dX6_ahead_29 rfl (lv_at hl 4 rfl) ?_
  obtain ⟨z_6, hz_6, hf⟩ := bn_some hf
  refine cRV (As := [.int z_5, .int p2, .int p3]) (rest := []) ⟨hx, hb, hml, hown, hts⟩ (c_X4_holesOf l D cI cZ cJ cT (a 1) (z_3.2.2 1) z_5 p2 p3 z_6 hz_6) (cwV 3 hts gX6_ahead_X4_holesOf rfl rfl rfl (by decide +kernel) ⟨Nat.le_of_ble_eq_true rfl, Nat.le_of_ble_eq_true rfl⟩) (fl_sub hP 1 rfl) hK (va_recv hK (fl_sub hP 1 rfl) (ci := 4) (q0 := 0) rfl rfl) rfl rfl hl.1 (Nat.le_of_ble_eq_true rfl) dX6_ahead_30 ⟨Nat.le_of_ble_eq_true rfl, Nat.le_of_ble_eq_true rfl⟩ ?_
  refine lv_istore (lv' := [(5, .int z_6), (4, .int z_5), (0, .ref (a 0 0)), (1, .int p1), (2, .int p2), (3, .int p3)]) hx hb dX6_ahead_33 hl (by decide) rfl (fun ls hl => ?_)
  refine lv_iload hx hb dX6_ahead_35 (lv_at hl 0 rfl) ?_
  obtain ⟨k71_7, hk71_7, hf⟩ := jn_some hf
  have j71_7 : ∀ (H : Heap) (locs : List Loc) (ls : Array Slot), k71_7 = some o → va_P D cls (wI cI cZ cT a z_3.2.2) H → va_S A s.heap H locs → lv_has ls 7 [(0, .ref (a 0 0)), (2, .int p2), (3, .int p3), (4, .int z_5), (5, .int z_6)] → W p l e (headSpec wsX6_ahead rmX6_ahead).room s m args below meth c H locs 7 42 Q (F0 m 71 ls []) := by
    intro H locs ls hf hP hS hl
    have hf := qa0 hk71_7 hf
    refine lv_iload_n hx hb dX6_ahead_71 rfl (lv_at hl 1 rfl) ?_
    refine lv_istore (lv' := [(6, .int p2), (0, .ref (a 0 0)), (2, .int p2), (3, .int p3), (4, .int z_5), (5, .int z_6)]) hx hb dX6_ahead_72 hl (by decide) rfl (fun ls hl => ?_)
    obtain ⟨G74_8, hG74_8, hf⟩ := qj2_some hf
    have j74_8 : ∀ (n : Nat) (y74_8_6 : Int32) (u74_8_0 : S2) (H : Heap) (locs : List Loc) (ls : Array Slot), ql2 G74_8 n y74_8_6 u74_8_0 = some o → va_P D cls (wI cI cZ cT a u74_8_0) H → va_S A s.heap H locs → lv_has ls 7 [(0, .ref (a 0 0)), (3, .int p3), (4, .int z_5), (5, .int z_6), (6, .int y74_8_6)] → W p l e (headSpec wsX6_ahead rmX6_ahead).room s m args below meth c H locs 7 42 Q (F0 m 74 ls []) := by
      intro n
      induction n with
      | zero => intro y74_8_6 u74_8_0 H locs ls hf hP hS hl; exact (ql2_z hf).elim
      | succ n ih74_8 =>
        intro y74_8_6 u74_8_0 H locs ls hf hP hS hl
        have hf := ql2_s hG74_8 hf
        obtain ⟨r74_8, hr74_8⟩ : ∃ z, z = ql2 G74_8 n := ⟨_, rfl⟩
        rw [← hr74_8] at hf ih74_8
        refine lv_iload hx hb dX6_ahead_74 (lv_at hl 4 rfl) ?_
        refine lv_iload_n hx hb dX6_ahead_76 rfl (lv_at hl 1 rfl) ?_
        obtain ⟨k127_9, hk127_9, hf⟩ := jn_some hf
        have j127_9 : ∀ (H : Heap) (locs : List Loc) (ls : Array Slot), k127_9 = some o → va_P D cls (wI cI cZ cT a u74_8_0) H → va_S A s.heap H locs → lv_has ls 7 [(5, .int z_6)] → W p l e (headSpec wsX6_ahead rmX6_ahead).room s m args below meth c H locs 7 42 Q (F0 m 127 ls []) := by
          intro H locs ls hf hP hS hl
          have hf := qa0 hk127_9 hf
          refine lv_iload hx hb dX6_ahead_127 (lv_at hl 0 rfl) ?_
          have eo := Option.some.inj hf
          have hP : va_P D cls (wI cI cZ cT a o.2.2) H := by rw [← eo]; exact hP
          rw [hQ]
          refine W.widen (k := 8) (n := 48) (Nat.le_of_ble_eq_true rfl) (Nat.le_of_ble_eq_true rfl) ?_
          exact vx_ret (W.iret hx hb hr (fun t ht hW => ⟨⟨_, (), rfl, ⟨(by rw [← eo]), (by rw [← eo])⟩, P_at ht hP⟩, hS.F ht⟩) hS.2.2 dX6_ahead_129 hlocks)
        refine lv_icmp_gt (tgt := 127) hx hb dX6_ahead_77 (by decide) (fun c_10 => ?_) (fun c_10 => ?_)
        · have hf := ite_t hf c_10
          refine W.widen (k := 7) (n := 42) (Nat.le_of_ble_eq_true rfl) (Nat.le_of_ble_eq_true rfl) ?_
          exact j127_9 _ _ _ hf hP hS (lv_sub hl [3] rfl)
        · have hf := ite_f hf c_10
          refine lv_iload hx hb dX6_ahead_80 (lv_at hl 4 rfl) ?_
          refine lv_bipush (v := 16) hx hb dX6_ahead_82 (by decide) ?_
          refine lv_icmp_ge (tgt := 127) hx hb dX6_ahead_84 (by decide) (fun c_11 => ?_) (fun c_11 => ?_)
          · have hf := ite_t hf c_11
            refine W.widen (k := 7) (n := 42) (Nat.le_of_ble_eq_true rfl) (Nat.le_of_ble_eq_true rfl) ?_
            exact j127_9 _ _ _ hf hP hS (lv_sub hl [3] rfl)
          · have hf := ite_f hf c_11
            refine lv_aload_n hx hb dX6_ahead_87 rfl (lv_at hl 0 rfl) ?_
            refine va_get (D := D) (ci := 6) (v := .ref (a 1 0)) (C := RX6) (T := TX6) (N := 11) hx hb hts i6 hown hK (fl_sub hP 0 rfl) 0 rfl rfl 0 (by decide) hk12 (fun _ h9 => h9) rfl dX6_ahead_88 ?_
            refine lv_iload hx hb dX6_ahead_91 (lv_at hl 2 rfl) ?_
            refine lv_iload hx hb dX6_ahead_93 (lv_at hl 4 rfl) ?_
            obtain ⟨z_12, hz_12, hf⟩ := bn_some hf
            refine cRV (As := [.int z_5, .int y74_8_6]) (rest := []) ⟨hx, hb, hml, hown, hts⟩ (c_X4_pageKindOf l D cI cZ cJ cT (a 1) (u74_8_0 1) z_5 y74_8_6 z_12 hz_12) (cwV 2 hts gX6_ahead_X4_pageKindOf rfl rfl rfl (by decide +kernel) ⟨Nat.le_of_ble_eq_true rfl, Nat.le_of_ble_eq_true rfl⟩) (fl_sub hP 1 rfl) hK (va_recv hK (fl_sub hP 1 rfl) (ci := 4) (q0 := 0) rfl rfl) rfl rfl hl.1 (Nat.le_of_ble_eq_true rfl) dX6_ahead_95 ⟨Nat.le_of_ble_eq_true rfl, Nat.le_of_ble_eq_true rfl⟩ ?_
            obtain ⟨k121_13, hk121_13, hf⟩ := jn_some hf
            have j121_13 : ∀ (u121_13_0 : S2) (H : Heap) (locs : List Loc) (ls : Array Slot), k121_13 u121_13_0 = some o → va_P D cls (wI cI cZ cT a u121_13_0) H → va_S A s.heap H locs → lv_has ls 7 [(0, .ref (a 0 0)), (3, .int p3), (4, .int z_5), (5, .int z_6), (6, .int y74_8_6)] → W p l e (headSpec wsX6_ahead rmX6_ahead).room s m args below meth c H locs 7 42 Q (F0 m 121 ls []) := by
              intro u121_13_0 H locs ls hf hP hS hl
              have hf := qa1 hk121_13 hf
              refine lv_iinc (v := y74_8_6 + 1) (lv' := [(6, .int (y74_8_6 + 1)), (0, .ref (a 0 0)), (3, .int p3), (4, .int z_5), (5, .int z_6)]) hx hb dX6_ahead_121 hl (k := 4) rfl rfl (by decide) rfl (fun ls hl => ?_)
              refine lv_goto (tgt := 74) hx hb dX6_ahead_124 (by decide) ?_
              refine W.widen (k := 7) (n := 42) (Nat.le_of_ble_eq_true rfl) (Nat.le_of_ble_eq_true rfl) ?_
              exact ih74_8 _ _ _ _ _ hf hP hS (lv_sub hl [1, 2, 3, 4, 0] rfl)
            refine lv_if_ne (tgt := 121) hx hb dX6_ahead_98 (by decide) (fun c_14 => ?_) (fun c_14 => ?_)
            · have hf := ite_f hf c_14
              refine W.widen (k := 7) (n := 42) (Nat.le_of_ble_eq_true rfl) (Nat.le_of_ble_eq_true rfl) ?_
              exact j121_13 _ _ _ _ hf hP hS (lv_sub hl [0, 1, 2, 3, 4] rfl)
            · have hf := ite_t hf c_14
              refine lv_aload_n hx hb dX6_ahead_101 rfl (lv_at hl 0 rfl) ?_
              refine va_get (D := D) (ci := 6) (v := .ref (a 1 0)) (C := RX6) (T := TX6) (N := 11) hx hb hts i6 hown hK (fl_sub hP 0 rfl) 0 rfl rfl 0 (by decide) hk12 (fun _ h9 => h9) rfl dX6_ahead_102 ?_
              refine lv_iload hx hb dX6_ahead_105 (lv_at hl 2 rfl) ?_
              refine lv_iload hx hb dX6_ahead_107 (lv_at hl 4 rfl) ?_
              refine lv_iconst (v := 1) hx hb dX6_ahead_109 (by decide) ?_
              refine lv_aload_n hx hb dX6_ahead_110 rfl (lv_at hl 0 rfl) ?_
              refine lv_iload hx hb dX6_ahead_111 (lv_at hl 2 rfl) ?_
              refine lv_iload hx hb dX6_ahead_113 (lv_at hl 4 rfl) ?_
              obtain ⟨z_15, hz_15, hf⟩ := bn_some hf
              refine cRV (As := [.int z_5, .int y74_8_6]) (rest := [.int 1, .int y74_8_6, .int z_5, .ref (a 1 0)]) ⟨hx, hb, hml, hown, hts⟩ (c_X6_blockFor l D cI cZ cJ cT a u74_8_0 z_5 y74_8_6 z_15 hz_15) (cwV 2 hts gX6_ahead_X6_blockFor rfl rfl rfl (by decide +kernel) ⟨Nat.le_of_ble_eq_true rfl, Nat.le_of_ble_eq_true rfl⟩) hP hK (va_recv hK (fl_sub hP 0 rfl) (ci := 6) (q0 := 0) rfl rfl) rfl rfl hl.1 (Nat.le_of_ble_eq_true rfl) dX6_ahead_115 ⟨Nat.le_of_ble_eq_true rfl, Nat.le_of_ble_eq_true rfl⟩ ?_
              obtain ⟨z_16, hz_16, hf⟩ := bn_some hf
              refine cWVv (As := [.int z_5, .int y74_8_6, .int 1, .int z_15]) (rest := []) ⟨hx, hb, hml, hown, hts⟩ (c_X4_setPage l D cI cZ cJ cT (a 1) H.size (u74_8_0 1) z_5 y74_8_6 1 z_15 z_16 hz_16) (cwV 4 hts gX6_ahead_X4_setPage rfl rfl rfl (by decide +kernel) ⟨Nat.le_of_ble_eq_true rfl, Nat.le_of_ble_eq_true rfl⟩) (fl_sub hP 1 rfl) hK (fl_subD (hDD u74_8_0) 1 rfl) hS (fl_free (hDD u74_8_0) hS hA 1 rfl) (va_recv hK (fl_sub hP 1 rfl) (ci := 4) (q0 := 0) rfl rfl) rfl rfl hl.1 (Nat.le_of_ble_eq_true rfl) dX6_ahead_118 ⟨Nat.le_of_ble_eq_true rfl, Nat.le_of_ble_eq_true rfl⟩ (fun H1 locs hP1 hk1 hS => ?_)
              obtain ⟨u_17, hu_17, hf⟩ := bv_some hf
              have hP : va_P D cls (wI cI cZ cT a u_17) H1 := by rw [hu_17]; exact fl_join hP (hDD u74_8_0) 1 rfl hk1 hP1
              clear hP1 hk1
              generalize H1 = H at hP hS ⊢
              refine W.widen (k := 7) (n := 42) (Nat.le_of_ble_eq_true rfl) (Nat.le_of_ble_eq_true rfl) ?_
              exact j121_13 _ _ _ _ hf hP hS (lv_sub hl [0, 1, 2, 3, 4] rfl)
    refine W.widen (k := 7) (n := 42) (Nat.le_of_ble_eq_true rfl) (Nat.le_of_ble_eq_true rfl) ?_
    exact j74_8 4096 _ _ _ _ _ hf hP hS (lv_sub hl [1, 3, 4, 5, 0] rfl)
  refine lv_if_le (tgt := 71) hx hb dX6_ahead_37 (by decide) (fun c_18 => ?_) (fun c_18 => ?_)
  · have hf := ite_t hf c_18
    refine W.widen (k := 7) (n := 42) (Nat.le_of_ble_eq_true rfl) (Nat.le_of_ble_eq_true rfl) ?_
    exact j71_7 _ _ _ hf hP hS (lv_sub hl [2, 4, 5, 1, 0] rfl)
  · have hf := ite_f hf c_18
    refine lv_aload_n hx hb dX6_ahead_40 rfl (lv_at hl 2 rfl) ?_
    refine lv_iload hx hb dX6_ahead_41 (lv_at hl 1 rfl) ?_
    refine lv_iload hx hb dX6_ahead_43 (lv_at hl 0 rfl) ?_
    obtain ⟨z_19, hz_19, hf⟩ := bn_some hf
    refine cRV (As := [.int z_5, .int z_6]) (rest := []) ⟨hx, hb, hml, hown, hts⟩ (c_X6_isWithinQuota l D cI cZ cJ cT a z_3.2.2 z_5 z_6 z_19 hz_19) (cwV 2 hts gX6_ahead_X6_isWithinQuota rfl rfl rfl (by decide +kernel) ⟨Nat.le_of_ble_eq_true rfl, Nat.le_of_ble_eq_true rfl⟩) hP hK (va_recv hK (fl_sub hP 0 rfl) (ci := 6) (q0 := 0) rfl rfl) rfl rfl hl.1 (Nat.le_of_ble_eq_true rfl) dX6_ahead_45 ⟨Nat.le_of_ble_eq_true rfl, Nat.le_of_ble_eq_true rfl⟩ ?_
    obtain ⟨k60_20, hk60_20, hf⟩ := jn_some hf
    have j60_20 : ∀ (H : Heap) (locs : List Loc) (ls : Array Slot), k60_20 = some o → va_P D cls (wI cI cZ cT a z_3.2.2) H → va_S A s.heap H locs → lv_has ls 7 [] → W p l e (headSpec wsX6_ahead rmX6_ahead).room s m args below meth c H locs 7 42 Q (F0 m 60 ls []) := by
      intro H locs ls hf hP hS hl
      have hf := qa0 hk60_20 hf
      have eo := Option.some.inj hf
      have hP : va_P D cls (wI cI cZ cT a o.2.2) H := by rw [← eo]; exact hP
      rw [hQ]
      have hk0 : o.1 = 3 := by rw [← eo]
      exact thrW o.1 (text := "not blocks for all") (by rw [hk0]; rfl) (by rw [hk0]; decide) hx hb hst hown (by decide +kernel) (hts (.classLink RX6 110 "java/lang/IllegalStateException") (by decide +kernel)) (hts (.initialized "java/lang/IllegalStateException") (by decide +kernel)) (fun w h => hts w (List.mem_cons_of_mem _ (List.mem_append_left _ (List.mem_append_left _ (List.mem_append_right _ h))))) (EX_b3 hE) ok3 (by decide +kernel) hE hS hP (hl.1.trans hml.symm) dX6_ahead_60 dX6_ahead_63 dX6_ahead_64 dX6_ahead_67 dX6_ahead_70 hxt (Nat.le_of_ble_eq_true rfl) (Nat.le_of_ble_eq_true rfl) (Nat.le_of_ble_eq_true rfl) (Nat.le_of_ble_eq_true rfl) hlocks (Nat.le_of_ble_eq_true rfl) (Nat.le_of_ble_eq_true rfl)
    refine lv_if_eq (tgt := 60) hx hb dX6_ahead_48 (by decide) (fun c_21 => ?_) (fun c_21 => ?_)
    · have hf := ite_t hf c_21
      refine W.widen (k := 7) (n := 42) (Nat.le_of_ble_eq_true rfl) (Nat.le_of_ble_eq_true rfl) ?_
      exact j60_20 _ _ _ hf hP hS (lv_sub hl [] rfl)
    · have hf := ite_f hf c_21
      refine lv_iload hx hb dX6_ahead_51 (lv_at hl 0 rfl) ?_
      refine lv_aload_n hx hb dX6_ahead_53 rfl (lv_at hl 2 rfl) ?_
      obtain ⟨z_22, hz_22, hf⟩ := bn_some hf
      refine cRV (As := []) (rest := [.int z_6]) ⟨hx, hb, hml, hown, hts⟩ (c_X6_countOfUnused l D cI cZ cJ cT a z_3.2.2 z_22 hz_22) (cwV 0 hts gX6_ahead_X6_countOfUnused rfl rfl rfl (by decide +kernel) ⟨Nat.le_of_ble_eq_true rfl, Nat.le_of_ble_eq_true rfl⟩) hP hK (va_recv hK (fl_sub hP 0 rfl) (ci := 6) (q0 := 0) rfl rfl) rfl rfl hl.1 (Nat.le_of_ble_eq_true rfl) dX6_ahead_54 ⟨Nat.le_of_ble_eq_true rfl, Nat.le_of_ble_eq_true rfl⟩ ?_
      refine lv_icmp_le (tgt := 71) hx hb dX6_ahead_57 (by decide) (fun c_23 => ?_) (fun c_23 => ?_)
      · have hf := ite_t hf c_23
        refine W.widen (k := 7) (n := 42) (Nat.le_of_ble_eq_true rfl) (Nat.le_of_ble_eq_true rfl) ?_
        exact j71_7 _ _ _ hf hP hS (lv_sub hl [2, 4, 5, 1, 0] rfl)
      · have hf := ite_f hf c_23
        refine W.widen (k := 7) (n := 42) (Nat.le_of_ble_eq_true rfl) (Nat.le_of_ble_eq_true rfl) ?_
        exact j60_20 _ _ _ hf hP hS (lv_sub hl [] rfl)
set_option maxRecDepth 20000 in
theorem ggX6_cut_X0_letGo : GoodIn wsX6_cut wsX0_letGo := goodIn_r _ [77, 78, 79, 80, 81, 76, 82, 111, 112, 113] (by decide +kernel) (by decide +kernel)
set_option maxRecDepth 20000 in
theorem gX6_cut_X0_letGo : GoodIn wsX6_cut (wsV RX6 269 RX0 yX0_letGo wsX0_letGo) := goodIn_app (goodIn_of _ (by decide +kernel)) ggX6_cut_X0_letGo
set_option maxRecDepth 20000 in
theorem ggX6_cut_X3_thingOf : GoodIn wsX6_cut wsX3_thingOf := goodIn_r _ [48, 49, 39, 16, 17, 18, 19, 20, 94, 95, 96, 97, 98] (by decide +kernel) (by decide +kernel)
set_option maxRecDepth 20000 in
theorem gX6_cut_X3_thingOf : GoodIn wsX6_cut (wsV RX6 205 RX3 yX3_thingOf wsX3_thingOf) := goodIn_app (goodIn_of _ (by decide +kernel)) ggX6_cut_X3_thingOf
set_option maxRecDepth 20000 in
theorem ggX6_cut_X4_pageKindOf : GoodIn wsX6_cut wsX4_pageKindOf := goodIn_r _ [54, 55, 56, 57, 53, 58, 59, 60, 61, 99, 100, 101, 102, 103, 104, 105, 106, 107, 108, 109, 110] (by decide +kernel) (by decide +kernel)
set_option maxRecDepth 20000 in
theorem gX6_cut_X4_pageKindOf : GoodIn wsX6_cut (wsV RX6 263 RX4 yX4_pageKindOf wsX4_pageKindOf) := goodIn_app (goodIn_of _ (by decide +kernel)) ggX6_cut_X4_pageKindOf
set_option maxRecDepth 20000 in
theorem ggX6_cut_X4_setPage : GoodIn wsX6_cut wsX4_setPage := goodIn_r _ [65, 66, 55, 56, 57, 53, 58, 59, 60, 61, 67, 68, 69, 70, 71, 72, 99, 100, 101, 102, 103, 104, 105, 106, 107, 108, 109, 110] (by decide +kernel) (by decide +kernel)
set_option maxRecDepth 20000 in
theorem gX6_cut_X4_setPage : GoodIn wsX6_cut (wsV RX6 230 RX4 yX4_setPage wsX4_setPage) := goodIn_app (goodIn_of _ (by decide +kernel)) ggX6_cut_X4_setPage
set_option maxRecDepth 20000 in
theorem ggX6_cut_X6_demandHandleAndPage : GoodIn wsX6_cut wsX6_demandHandleAndPage := goodIn_ca (goodIn_r _ [8, 9, 10, 11, 12, 13, 7, 14, 1, 15, 16, 17, 18, 19, 20, 21, 22, 23, 83, 84, 85, 86, 87, 88, 89, 90, 91, 92, 93, 94, 95, 96, 97, 98] (by decide +kernel) (by decide +kernel)) (goodIn_sub (fun _ h => List.mem_cons_of_mem _ (List.mem_append_left _ (List.mem_append_right _ h))) (by decide +kernel))
set_option maxRecDepth 20000 in
theorem gX6_cut_X6_demandHandleAndPage : GoodIn wsX6_cut (wsV RX6 217 RX6 yX6_demandHandleAndPage wsX6_demandHandleAndPage) := goodIn_app (goodIn_of _ (by decide +kernel)) ggX6_cut_X6_demandHandleAndPage
set_option maxRecDepth 20000 in
theorem ggX6_cut_X6_demandWriting : GoodIn wsX6_cut wsX6_demandWriting := goodIn_ca (goodIn_r _ [27, 28, 29, 1, 30, 31, 32, 7, 33, 34, 35, 36, 18, 37, 38, 39, 16, 17, 19, 20, 40, 41, 42, 43, 44, 83, 84, 85, 86, 87, 88, 89, 90, 91, 92, 93, 94, 95, 96, 97, 98] (by decide +kernel) (by decide +kernel)) (goodIn_sub (fun _ h => List.mem_cons_of_mem _ (List.mem_append_right _ h)) (by decide +kernel))
set_option maxRecDepth 20000 in
theorem gX6_cut_X6_demandWriting : GoodIn wsX6_cut (wsV RX6 222 RX6 yX6_demandWriting wsX6_demandWriting) := goodIn_app (goodIn_of _ (by decide +kernel)) ggX6_cut_X6_demandWriting
theorem dX6_cut_0 : decode cX6_cut 0 = .ok (.aload_n 0, 1) := by decide +kernel
theorem dX6_cut_1 : decode cX6_cut 1 = .ok (.iload_n 1, 1) := by decide +kernel
theorem dX6_cut_2 : decode cX6_cut 2 = .ok (.iload_n 2, 1) := by decide +kernel
theorem dX6_cut_3 : decode cX6_cut 3 = .ok (.invokevirtual 217, 3) := by decide +kernel
theorem dX6_cut_6 : decode cX6_cut 6 = .ok (.aload_n 0, 1) := by decide +kernel
theorem dX6_cut_7 : decode cX6_cut 7 = .ok (.iload_n 1, 1) := by decide +kernel
theorem dX6_cut_8 : decode cX6_cut 8 = .ok (.invokevirtual 222, 3) := by decide +kernel
theorem dX6_cut_11 : decode cX6_cut 11 = .ok (.aload_n 0, 1) := by decide +kernel
theorem dX6_cut_12 : decode cX6_cut 12 = .ok (.getfield 51, 3) := by decide +kernel
theorem dX6_cut_15 : decode cX6_cut 15 = .ok (.iload_n 1, 1) := by decide +kernel
theorem dX6_cut_16 : decode cX6_cut 16 = .ok (.invokevirtual 205, 3) := by decide +kernel
theorem dX6_cut_19 : decode cX6_cut 19 = .ok (.istore_n 3, 1) := by decide +kernel
theorem dX6_cut_20 : decode cX6_cut 20 = .ok (.iconst 0, 1) := by decide +kernel
theorem dX6_cut_21 : decode cX6_cut 21 = .ok (.istore 4, 2) := by decide +kernel
theorem dX6_cut_23 : decode cX6_cut 23 = .ok (.iload_n 2, 1) := by decide +kernel
theorem dX6_cut_24 : decode cX6_cut 24 = .ok (.istore 5, 2) := by decide +kernel
theorem dX6_cut_26 : decode cX6_cut 26 = .ok (.iload 5, 2) := by decide +kernel
theorem dX6_cut_28 : decode cX6_cut 28 = .ok (.bipush 16, 2) := by decide +kernel
theorem dX6_cut_30 : decode cX6_cut 30 = .ok (.if_icmp .ge 47, 3) := by decide +kernel
theorem dX6_cut_33 : decode cX6_cut 33 = .ok (.aload_n 0, 1) := by decide +kernel
theorem dX6_cut_34 : decode cX6_cut 34 = .ok (.getfield 12, 3) := by decide +kernel
theorem dX6_cut_37 : decode cX6_cut 37 = .ok (.iload_n 3, 1) := by decide +kernel
theorem dX6_cut_38 : decode cX6_cut 38 = .ok (.iload 5, 2) := by decide +kernel
theorem dX6_cut_40 : decode cX6_cut 40 = .ok (.invokevirtual 263, 3) := by decide +kernel
theorem dX6_cut_43 : decode cX6_cut 43 = .ok (.ifCond .eq 28, 3) := by decide +kernel
theorem dX6_cut_46 : decode cX6_cut 46 = .ok (.aload_n 0, 1) := by decide +kernel
theorem dX6_cut_47 : decode cX6_cut 47 = .ok (.getfield 12, 3) := by decide +kernel
theorem dX6_cut_50 : decode cX6_cut 50 = .ok (.iload_n 3, 1) := by decide +kernel
theorem dX6_cut_51 : decode cX6_cut 51 = .ok (.iload 5, 2) := by decide +kernel
theorem dX6_cut_53 : decode cX6_cut 53 = .ok (.iconst 0, 1) := by decide +kernel
theorem dX6_cut_54 : decode cX6_cut 54 = .ok (.iconst (-1), 1) := by decide +kernel
theorem dX6_cut_55 : decode cX6_cut 55 = .ok (.invokevirtual 230, 3) := by decide +kernel
theorem dX6_cut_58 : decode cX6_cut 58 = .ok (.aload_n 0, 1) := by decide +kernel
theorem dX6_cut_59 : decode cX6_cut 59 = .ok (.getfield 44, 3) := by decide +kernel
theorem dX6_cut_62 : decode cX6_cut 62 = .ok (.iload_n 3, 1) := by decide +kernel
theorem dX6_cut_63 : decode cX6_cut 63 = .ok (.iload 5, 2) := by decide +kernel
theorem dX6_cut_65 : decode cX6_cut 65 = .ok (.invokevirtual 269, 3) := by decide +kernel
theorem dX6_cut_68 : decode cX6_cut 68 = .ok (.iinc 4 1, 3) := by decide +kernel
theorem dX6_cut_71 : decode cX6_cut 71 = .ok (.iinc 5 1, 3) := by decide +kernel
theorem dX6_cut_74 : decode cX6_cut 74 = .ok (.goto (-48), 3) := by decide +kernel
theorem dX6_cut_77 : decode cX6_cut 77 = .ok (.iload 4, 2) := by decide +kernel
theorem dX6_cut_79 : decode cX6_cut 79 = .ok (.ireturn, 1) := by decide +kernel
def f_X6_cut (U : S2) (p1 : Int32) (p2 : Int32) : Option (Nat × Int32 × S2) := bn (f_X6_demandHandleAndPage U p1 p2) (fun z_1 => if z_1.1 = 0 then bn (f_X6_demandWriting z_1.2.2 p1) (fun z_3 => if z_3.1 = 0 then bn (f_X3_thingOf (z_3.2.2 9) p1) (fun z_5 => qj3 (fun (r26_6 : Int32 → Int32 → S2 → Option (Nat × Int32 × S2)) (y26_6_4 : Int32) (y26_6_5 : Int32) (u26_6_0 : S2) => if 16 ≤ y26_6_5 then some (0, y26_6_4, u26_6_0) else bn (f_X4_pageKindOf (u26_6_0 1) z_5 y26_6_5) (fun z_8 => jn (fun (y71_9_4 : Int32) (u71_9_0 : S2) => r26_6 y71_9_4 (y26_6_5 + 1) u71_9_0) (fun k71_9 => if z_8 = 0 then k71_9 y26_6_4 u26_6_0 else bn (f_X4_setPage (u26_6_0 1) z_5 y26_6_5 0 (-1)) (fun z_11 => bv (upc u26_6_0 1 z_11) (fun u_12 => bn (f_X0_letGo (u_12 8) z_5 y26_6_5) (fun z_13 => bv (upc u_12 8 z_13) (fun u_14 => k71_9 (y26_6_4 + 1) u_14))))))) (fun k26_6 => k26_6 0 p2 z_3.2.2)) else some (z_3.1, 0, z_3.2.2)) else some (z_1.1, 0, z_1.2.2))
def rmX6_cut : Room := { frames := 8, cells := 4, slots := 24, locals := 133 }
set_option maxHeartbeats 4000000 in
set_option maxRecDepth 100000 in
theorem c_X6_cut (l : Launch) (hst : l.stackTraces = false) (D : va_G) (cI cZ cJ cT : ClassId) (a : Nat → Nat → Nat) (sz : Nat) (U : S2) (p1 : Int32) (p2 : Int32) (o : Nat × Int32 × S2) (hf : f_X6_cut U p1 p2 = some o) : vx_Met l yX6_cut wsX6_cut rmX6_cut (va_Pc [.ref (a 0 0), .int p1, .int p2] (PX D cls (tys cI cZ cJ cT) (wI cI cZ cT a U) sz)) (QXi D cls o.1 o.2.1 (wI cI cZ cT a o.2.2) (va_A (wI cI cZ cT a U) sz)) (XX D cls o.1 (wI cI cZ cT a o.2.2) (va_A (wI cI cZ cT a U) sz)) 4 24 (va_A (wI cI cZ cT a U) sz) := by
  refine vx_ofW (cc := cX6_cut) (maxL := 6) (ret := (some .int)) (by decide) rfl ?_
  intro p e s m args below meth c s₁ B hml hxt hv
  obtain ⟨hav, ⟨hsz, hP, hK, hD0⟩, hE⟩ := hv
  have hx := B.exec
  have hb := B.bytes
  have hr := B.returns
  have hlocks := B.notSynchronized
  have hts := atoms_spec (ws := wsX6_cut) B.pre
  have hown : s.vm.findClass RX6 = some m.cls := findClass_of_methodNamed B.named
  have i6 : ∀ w ∈ wsX60, w ∈ wsX6_cut := fun w h => List.mem_cons_of_mem _ (List.mem_append_left _ (List.mem_append_left _ (List.mem_append_left _ (List.mem_append_left _ (List.mem_append_left _ (List.mem_append_right _ h))))))
  have hk12 := hts (.fieldLink RX6 12 "Inodery" "now" "LInodery$Tree;") (by decide +kernel)
  have hk44 := hts (.fieldLink RX6 44 "Inodery" "cache" "LInodery$Cache;") (by decide +kernel)
  have hk51 := hts (.fieldLink RX6 51 "Inodery" "handles" "LInodery$Handles;") (by decide +kernel)
  subst hsz
  have hD := hD0.self (sz := s.heap.size)
  generalize hAe : va_A (wI cI cZ cT a U) s.heap.size = A at hD hE ⊢
  have hA : ∀ q : Nat, s.heap.size ≤ q → A q := fun q h => by rw [← hAe]; exact Or.inr h
  have hS : va_S A s.heap s.heap [] := va_S.rf
  have hDD : ∀ V : S2, va_D A (wI cI cZ cT a V) := fun _ => D_same (w := (wI cI cZ cT a U)) rfl hD
  refine Wq (fun Q hQ => ?_)
  refine W_entry hav (Nat.le_of_ble_eq_true rfl) (fun ls hl => ?_)
  have hl : lv_has ls 6 [(0, .ref (a 0 0)), (1, .int p1), (2, .int p2)] := hl
  unfold f_X6_cut at hf
  refine W_heap hP hS (fun H locs hP hS => ?_)
  refine lv_aload_n hx hb dX6_cut_0 rfl (lv_at hl 0 rfl) ?_
  refine lv_iload_n hx hb dX6_cut_1 rfl (lv_at hl 1 rfl) ?_
  refine lv_iload_n hx hb dX6_cut_2 rfl (lv_at hl 2 rfl) ?_
  obtain ⟨z_1, hz_1, hf⟩ := bn_some hf
  refine cXVv (As := [.int p1, .int p2]) (rest := []) ⟨hx, hb, hml, hown, hts⟩ (c_X6_demandHandleAndPage l hst D cI cZ cJ cT a H.size U p1 p2 z_1 hz_1) (cwV 2 hts gX6_cut_X6_demandHandleAndPage rfl rfl rfl (by decide +kernel) ⟨Nat.le_of_ble_eq_true rfl, Nat.le_of_ble_eq_true rfl⟩) hP hK (hDD U) hE hS (own_free (hDD U) hS hA) (va_recv hK (fl_sub hP 0 rfl) (ci := 6) (q0 := 0) rfl rfl) rfl rfl hl.1 (Nat.le_of_ble_eq_true rfl) dX6_cut_3 ⟨Nat.le_of_ble_eq_true rfl, Nat.le_of_ble_eq_true rfl⟩ (fun E ce q9 H locs k_2 hE9 hP hS hce hcv hcl => ?_) (fun H locs k_2 hP hS => ?_)
  · have hf := ite_f hf k_2
    have eo := Option.some.inj hf
    have hP : va_P D cls (wI cI cZ cT a o.2.2) H := by rw [← eo]; exact hP
    rw [hQ]
    exact xout (k := o.1) hxt hlocks (by rw [← eo]; exact k_2) (by rw [← eo]; exact hE9) hP hS hce hcv hcl (Nat.le_of_ble_eq_true rfl) (Nat.le_of_ble_eq_true rfl)
  have hf := ite_t hf k_2
  refine lv_aload_n hx hb dX6_cut_6 rfl (lv_at hl 0 rfl) ?_
  refine lv_iload_n hx hb dX6_cut_7 rfl (lv_at hl 1 rfl) ?_
  obtain ⟨z_3, hz_3, hf⟩ := bn_some hf
  refine cXVv (As := [.int p1]) (rest := []) ⟨hx, hb, hml, hown, hts⟩ (c_X6_demandWriting l hst D cI cZ cJ cT a H.size z_1.2.2 p1 z_3 hz_3) (cwV 1 hts gX6_cut_X6_demandWriting rfl rfl rfl (by decide +kernel) ⟨Nat.le_of_ble_eq_true rfl, Nat.le_of_ble_eq_true rfl⟩) hP hK (hDD z_1.2.2) hE hS (own_free (hDD z_1.2.2) hS hA) (va_recv hK (fl_sub hP 0 rfl) (ci := 6) (q0 := 0) rfl rfl) rfl rfl hl.1 (Nat.le_of_ble_eq_true rfl) dX6_cut_8 ⟨Nat.le_of_ble_eq_true rfl, Nat.le_of_ble_eq_true rfl⟩ (fun E ce q9 H locs k_4 hE9 hP hS hce hcv hcl => ?_) (fun H locs k_4 hP hS => ?_)
  · have hf := ite_f hf k_4
    have eo := Option.some.inj hf
    have hP : va_P D cls (wI cI cZ cT a o.2.2) H := by rw [← eo]; exact hP
    rw [hQ]
    exact xout (k := o.1) hxt hlocks (by rw [← eo]; exact k_4) (by rw [← eo]; exact hE9) hP hS hce hcv hcl (Nat.le_of_ble_eq_true rfl) (Nat.le_of_ble_eq_true rfl)
  have hf := ite_t hf k_4
  refine lv_aload_n hx hb dX6_cut_11 rfl (lv_at hl 0 rfl) ?_
  refine va_get (D := D) (ci := 6) (v := .ref (a 9 0)) (C := RX6) (T := TX6) (N := 11) hx hb hts i6 hown hK (fl_sub hP 0 rfl) 0 rfl rfl 7 (by decide) hk51 (fun _ h9 => h9) rfl dX6_cut_12 ?_
  refine lv_iload_n hx hb dX6_cut_15 rfl (lv_at hl 1 rfl) ?_
  obtain ⟨z_5, hz_5, hf⟩ := bn_some hf
  refine cRV (As := [.int p1]) (rest := []) ⟨hx, hb, hml, hown, hts⟩ (c_X3_thingOf l D cI cZ cJ cT (a 9) (z_3.2.2 9) p1 z_5 hz_5) (cwV 1 hts gX6_cut_X3_thingOf rfl rfl rfl (by decide +kernel) ⟨Nat.le_of_ble_eq_true rfl, Nat.le_of_ble_eq_true rfl⟩) (fl_sub hP 9 rfl) hK (va_recv hK (fl_sub hP 9 rfl) (ci := 3) (q0 := 0) rfl rfl) rfl rfl hl.1 (Nat.le_of_ble_eq_true rfl) dX6_cut_16 ⟨Nat.le_of_ble_eq_true rfl, Nat.le_of_ble_eq_true rfl⟩ ?_
  refine lv_istore_n (lv' := [(3, .int z_5), (0, .ref (a 0 0)), (1, .int p1), (2, .int p2)]) hx hb dX6_cut_19 rfl hl (by decide) rfl (fun ls hl => ?_)
  refine lv_iconst (v := 0) hx hb dX6_cut_20 (by decide) ?_
  refine lv_istore (lv' := [(4, .int 0), (3, .int z_5), (0, .ref (a 0 0)), (1, .int p1), (2, .int p2)]) hx hb dX6_cut_21 hl (by decide) rfl (fun ls hl => ?_)
  refine lv_iload_n hx hb dX6_cut_23 rfl (lv_at hl 4 rfl) ?_
  refine lv_istore (lv' := [(5, .int p2), (4, .int 0), (3, .int z_5), (0, .ref (a 0 0)), (1, .int p1), (2, .int p2)]) hx hb dX6_cut_24 hl (by decide) rfl (fun ls hl => ?_)
  obtain ⟨G26_6, hG26_6, hf⟩ := qj3_some hf
  have j26_6 : ∀ (n : Nat) (y26_6_4 : Int32) (y26_6_5 : Int32) (u26_6_0 : S2) (H : Heap) (locs : List Loc) (ls : Array Slot), ql3 G26_6 n y26_6_4 y26_6_5 u26_6_0 = some o → va_P D cls (wI cI cZ cT a u26_6_0) H → va_S A s.heap H locs → lv_has ls 6 [(0, .ref (a 0 0)), (3, .int z_5), (4, .int y26_6_4), (5, .int y26_6_5)] → W p l e (headSpec wsX6_cut rmX6_cut).room s m args below meth c H locs 4 24 Q (F0 m 26 ls []) := by
    intro n
    induction n with
    | zero => intro y26_6_4 y26_6_5 u26_6_0 H locs ls hf hP hS hl; exact (ql3_z hf).elim
    | succ n ih26_6 =>
      intro y26_6_4 y26_6_5 u26_6_0 H locs ls hf hP hS hl
      have hf := ql3_s hG26_6 hf
      obtain ⟨r26_6, hr26_6⟩ : ∃ z, z = ql3 G26_6 n := ⟨_, rfl⟩
      rw [← hr26_6] at hf ih26_6
      refine lv_iload hx hb dX6_cut_26 (lv_at hl 3 rfl) ?_
      refine lv_bipush (v := 16) hx hb dX6_cut_28 (by decide) ?_
      refine lv_icmp_ge (tgt := 77) hx hb dX6_cut_30 (by decide) (fun c_7 => ?_) (fun c_7 => ?_)
      · have hf := ite_t hf c_7
        refine lv_iload hx hb dX6_cut_77 (lv_at hl 2 rfl) ?_
        have eo := Option.some.inj hf
        have hP : va_P D cls (wI cI cZ cT a o.2.2) H := by rw [← eo]; exact hP
        rw [hQ]
        refine W.widen (k := 4) (n := 24) (Nat.le_of_ble_eq_true rfl) (Nat.le_of_ble_eq_true rfl) ?_
        exact vx_ret (W.iret hx hb hr (fun t ht hW => ⟨⟨_, (), rfl, ⟨(by rw [← eo]), (by rw [← eo])⟩, P_at ht hP⟩, hS.F ht⟩) hS.2.2 dX6_cut_79 hlocks)
      · have hf := ite_f hf c_7
        refine lv_aload_n hx hb dX6_cut_33 rfl (lv_at hl 0 rfl) ?_
        refine va_get (D := D) (ci := 6) (v := .ref (a 1 0)) (C := RX6) (T := TX6) (N := 11) hx hb hts i6 hown hK (fl_sub hP 0 rfl) 0 rfl rfl 0 (by decide) hk12 (fun _ h9 => h9) rfl dX6_cut_34 ?_
        refine lv_iload_n hx hb dX6_cut_37 rfl (lv_at hl 1 rfl) ?_
        refine lv_iload hx hb dX6_cut_38 (lv_at hl 3 rfl) ?_
        obtain ⟨z_8, hz_8, hf⟩ := bn_some hf
        refine cRV (As := [.int z_5, .int y26_6_5]) (rest := []) ⟨hx, hb, hml, hown, hts⟩ (c_X4_pageKindOf l D cI cZ cJ cT (a 1) (u26_6_0 1) z_5 y26_6_5 z_8 hz_8) (cwV 2 hts gX6_cut_X4_pageKindOf rfl rfl rfl (by decide +kernel) ⟨Nat.le_of_ble_eq_true rfl, Nat.le_of_ble_eq_true rfl⟩) (fl_sub hP 1 rfl) hK (va_recv hK (fl_sub hP 1 rfl) (ci := 4) (q0 := 0) rfl rfl) rfl rfl hl.1 (Nat.le_of_ble_eq_true rfl) dX6_cut_40 ⟨Nat.le_of_ble_eq_true rfl, Nat.le_of_ble_eq_true rfl⟩ ?_
        obtain ⟨k71_9, hk71_9, hf⟩ := jn_some hf
        have j71_9 : ∀ (y71_9_4 : Int32) (u71_9_0 : S2) (H : Heap) (locs : List Loc) (ls : Array Slot), k71_9 y71_9_4 u71_9_0 = some o → va_P D cls (wI cI cZ cT a u71_9_0) H → va_S A s.heap H locs → lv_has ls 6 [(0, .ref (a 0 0)), (3, .int z_5), (4, .int y71_9_4), (5, .int y26_6_5)] → W p l e (headSpec wsX6_cut rmX6_cut).room s m args below meth c H locs 4 24 Q (F0 m 71 ls []) := by
          intro y71_9_4 u71_9_0 H locs ls hf hP hS hl
          have hf := qa2 hk71_9 hf
          refine lv_iinc (v := y26_6_5 + 1) (lv' := [(5, .int (y26_6_5 + 1)), (0, .ref (a 0 0)), (3, .int z_5), (4, .int y71_9_4)]) hx hb dX6_cut_71 hl (k := 3) rfl rfl (by decide) rfl (fun ls hl => ?_)
          refine lv_goto (tgt := 26) hx hb dX6_cut_74 (by decide) ?_
          refine W.widen (k := 4) (n := 24) (Nat.le_of_ble_eq_true rfl) (Nat.le_of_ble_eq_true rfl) ?_
          exact ih26_6 _ _ _ _ _ _ hf hP hS (lv_sub hl [1, 2, 3, 0] rfl)
        refine lv_if_eq (tgt := 71) hx hb dX6_cut_43 (by decide) (fun c_10 => ?_) (fun c_10 => ?_)
        · have hf := ite_t hf c_10
          refine W.widen (k := 4) (n := 24) (Nat.le_of_ble_eq_true rfl) (Nat.le_of_ble_eq_true rfl) ?_
          exact j71_9 _ _ _ _ _ hf hP hS (lv_sub hl [0, 1, 2, 3] rfl)
        · have hf := ite_f hf c_10
          refine lv_aload_n hx hb dX6_cut_46 rfl (lv_at hl 0 rfl) ?_
          refine va_get (D := D) (ci := 6) (v := .ref (a 1 0)) (C := RX6) (T := TX6) (N := 11) hx hb hts i6 hown hK (fl_sub hP 0 rfl) 0 rfl rfl 0 (by decide) hk12 (fun _ h9 => h9) rfl dX6_cut_47 ?_
          refine lv_iload_n hx hb dX6_cut_50 rfl (lv_at hl 1 rfl) ?_
          refine lv_iload hx hb dX6_cut_51 (lv_at hl 3 rfl) ?_
          refine lv_iconst (v := 0) hx hb dX6_cut_53 (by decide) ?_
          refine lv_iconst (v := (-1)) hx hb dX6_cut_54 (by decide) ?_
          obtain ⟨z_11, hz_11, hf⟩ := bn_some hf
          refine cWVv (As := [.int z_5, .int y26_6_5, .int 0, .int (-1)]) (rest := []) ⟨hx, hb, hml, hown, hts⟩ (c_X4_setPage l D cI cZ cJ cT (a 1) H.size (u26_6_0 1) z_5 y26_6_5 0 (-1) z_11 hz_11) (cwV 4 hts gX6_cut_X4_setPage rfl rfl rfl (by decide +kernel) ⟨Nat.le_of_ble_eq_true rfl, Nat.le_of_ble_eq_true rfl⟩) (fl_sub hP 1 rfl) hK (fl_subD (hDD u26_6_0) 1 rfl) hS (fl_free (hDD u26_6_0) hS hA 1 rfl) (va_recv hK (fl_sub hP 1 rfl) (ci := 4) (q0 := 0) rfl rfl) rfl rfl hl.1 (Nat.le_of_ble_eq_true rfl) dX6_cut_55 ⟨Nat.le_of_ble_eq_true rfl, Nat.le_of_ble_eq_true rfl⟩ (fun H1 locs hP1 hk1 hS => ?_)
          obtain ⟨u_12, hu_12, hf⟩ := bv_some hf
          have hP : va_P D cls (wI cI cZ cT a u_12) H1 := by rw [hu_12]; exact fl_join hP (hDD u26_6_0) 1 rfl hk1 hP1
          clear hP1 hk1
          generalize H1 = H at hP hS ⊢
          refine lv_aload_n hx hb dX6_cut_58 rfl (lv_at hl 0 rfl) ?_
          refine va_get (D := D) (ci := 6) (v := .ref (a 8 0)) (C := RX6) (T := TX6) (N := 11) hx hb hts i6 hown hK (fl_sub hP 0 rfl) 0 rfl rfl 6 (by decide) hk44 (fun _ h9 => h9) rfl dX6_cut_59 ?_
          refine lv_iload_n hx hb dX6_cut_62 rfl (lv_at hl 1 rfl) ?_
          refine lv_iload hx hb dX6_cut_63 (lv_at hl 3 rfl) ?_
          obtain ⟨z_13, hz_13, hf⟩ := bn_some hf
          refine cWVv (As := [.int z_5, .int y26_6_5]) (rest := []) ⟨hx, hb, hml, hown, hts⟩ (c_X0_letGo l D cI cZ cJ cT (a 8) H.size (u_12 8) z_5 y26_6_5 z_13 hz_13) (cwV 2 hts gX6_cut_X0_letGo rfl rfl rfl (by decide +kernel) ⟨Nat.le_of_ble_eq_true rfl, Nat.le_of_ble_eq_true rfl⟩) (fl_sub hP 8 rfl) hK (fl_subD (hDD u_12) 8 rfl) hS (fl_free (hDD u_12) hS hA 8 rfl) (va_recv hK (fl_sub hP 8 rfl) (ci := 0) (q0 := 0) rfl rfl) rfl rfl hl.1 (Nat.le_of_ble_eq_true rfl) dX6_cut_65 ⟨Nat.le_of_ble_eq_true rfl, Nat.le_of_ble_eq_true rfl⟩ (fun H1 locs hP1 hk1 hS => ?_)
          obtain ⟨u_14, hu_14, hf⟩ := bv_some hf
          have hP : va_P D cls (wI cI cZ cT a u_14) H1 := by rw [hu_14]; exact fl_join hP (hDD u_12) 8 rfl hk1 hP1
          clear hP1 hk1
          generalize H1 = H at hP hS ⊢
          refine lv_iinc (v := y26_6_4 + 1) (lv' := [(4, .int (y26_6_4 + 1)), (0, .ref (a 0 0)), (3, .int z_5), (5, .int y26_6_5)]) hx hb dX6_cut_68 hl (k := 2) rfl rfl (by decide) rfl (fun ls hl => ?_)
          refine W.widen (k := 4) (n := 24) (Nat.le_of_ble_eq_true rfl) (Nat.le_of_ble_eq_true rfl) ?_
          exact j71_9 _ _ _ _ _ hf hP hS (lv_sub hl [1, 2, 0, 3] rfl)
  refine W.widen (k := 4) (n := 24) (Nat.le_of_ble_eq_true rfl) (Nat.le_of_ble_eq_true rfl) ?_
  exact j26_6 4096 _ _ _ _ _ _ hf hP hS (lv_sub hl [3, 2, 1, 0] rfl)
set_option maxRecDepth 20000 in
theorem ggX6_lock_X3_countLocked : GoodIn wsX6_lock wsX3_countLocked := goodIn_r _ [57, 58, 59, 60, 24, 61, 62, 39, 22, 23, 25, 26, 79, 80, 81, 82, 83] (by decide +kernel) (by decide +kernel)
set_option maxRecDepth 20000 in
theorem gX6_lock_X3_countLocked : GoodIn wsX6_lock (wsV RX6 278 RX3 yX3_countLocked wsX3_countLocked) := goodIn_app (goodIn_of _ (by decide +kernel)) ggX6_lock_X3_countLocked
set_option maxRecDepth 20000 in
theorem ggX6_lock_X3_isHindered : GoodIn wsX6_lock wsX3_isHindered := goodIn_r _ [43, 44, 45, 46, 24, 47, 48, 39, 22, 23, 25, 26, 49, 50, 51, 52, 53, 35, 36, 37, 38, 54, 55, 56, 57, 58, 59, 60, 61, 62, 79, 80, 81, 82, 83] (by decide +kernel) (by decide +kernel)
set_option maxRecDepth 20000 in
theorem gX6_lock_X3_isHindered : GoodIn wsX6_lock (wsV RX6 272 RX3 yX3_isHindered wsX3_isHindered) := goodIn_app (goodIn_of _ (by decide +kernel)) ggX6_lock_X3_isHindered
set_option maxRecDepth 20000 in
theorem ggX6_lock_X3_setLocks : GoodIn wsX6_lock wsX3_setLocks := goodIn_r _ [67, 62, 39, 22, 23, 24, 25, 26, 79, 80, 81, 82, 83] (by decide +kernel) (by decide +kernel)
set_option maxRecDepth 20000 in
theorem gX6_lock_X3_setLocks : GoodIn wsX6_lock (wsV RX6 281 RX3 yX3_setLocks wsX3_setLocks) := goodIn_app (goodIn_of _ (by decide +kernel)) ggX6_lock_X3_setLocks
set_option maxRecDepth 20000 in
theorem ggX6_lock_X6_demandHandleAndPages : GoodIn wsX6_lock wsX6_demandHandleAndPages := goodIn_ca (goodIn_ca (goodIn_r _ [8, 9, 10, 11, 12, 13, 7, 14, 15, 16, 17, 18, 19, 20, 3, 21, 22, 23, 24, 25, 26, 27, 28, 29, 68, 69, 70, 71, 72, 73, 74, 75, 76, 77, 78, 79, 80, 81, 82, 83] (by decide +kernel) (by decide +kernel)) (goodIn_sub (fun _ h => List.mem_cons_of_mem _ (List.mem_append_left _ (List.mem_append_right _ h))) (by decide +kernel))) (goodIn_sub (fun _ h => List.mem_cons_of_mem _ (List.mem_append_right _ h)) (by decide +kernel))
set_option maxRecDepth 20000 in
theorem gX6_lock_X6_demandHandleAndPages : GoodIn wsX6_lock (wsV RX6 247 RX6 yX6_demandHandleAndPages wsX6_demandHandleAndPages) := goodIn_app (goodIn_of _ (by decide +kernel)) ggX6_lock_X6_demandHandleAndPages
set_option maxRecDepth 20000 in
theorem ggX6_lock_X6_demandOpen : GoodIn wsX6_lock wsX6_demandOpen := goodIn_ca (goodIn_r _ [33, 1, 2, 3, 34, 35, 36, 24, 37, 38, 39, 22, 23, 25, 26, 68, 69, 70, 71, 72, 73, 74, 75, 76, 77, 78, 79, 80, 81, 82, 83] (by decide +kernel) (by decide +kernel)) (goodIn_sub (fun _ h => List.mem_cons_of_mem _ (List.mem_append_left _ (List.mem_append_left _ (List.mem_append_right _ h)))) (by decide +kernel))
set_option maxRecDepth 20000 in
theorem gX6_lock_X6_demandOpen : GoodIn wsX6_lock (wsV RX6 202 RX6 yX6_demandOpen wsX6_demandOpen) := goodIn_app (goodIn_of _ (by decide +kernel)) ggX6_lock_X6_demandOpen
theorem dX6_lock_0 : decode cX6_lock 0 = .ok (.aload_n 0, 1) := by decide +kernel
theorem dX6_lock_1 : decode cX6_lock 1 = .ok (.iload_n 1, 1) := by decide +kernel
theorem dX6_lock_2 : decode cX6_lock 2 = .ok (.iload_n 2, 1) := by decide +kernel
theorem dX6_lock_3 : decode cX6_lock 3 = .ok (.iload_n 3, 1) := by decide +kernel
theorem dX6_lock_4 : decode cX6_lock 4 = .ok (.invokevirtual 247, 3) := by decide +kernel
theorem dX6_lock_7 : decode cX6_lock 7 = .ok (.aload_n 0, 1) := by decide +kernel
theorem dX6_lock_8 : decode cX6_lock 8 = .ok (.iload_n 1, 1) := by decide +kernel
theorem dX6_lock_9 : decode cX6_lock 9 = .ok (.invokevirtual 202, 3) := by decide +kernel
theorem dX6_lock_12 : decode cX6_lock 12 = .ok (.iload 4, 2) := by decide +kernel
theorem dX6_lock_14 : decode cX6_lock 14 = .ok (.ifCond .eq 7, 3) := by decide +kernel
theorem dX6_lock_17 : decode cX6_lock 17 = .ok (.iconst 2, 1) := by decide +kernel
theorem dX6_lock_18 : decode cX6_lock 18 = .ok (.goto 4, 3) := by decide +kernel
theorem dX6_lock_21 : decode cX6_lock 21 = .ok (.iconst 1, 1) := by decide +kernel
theorem dX6_lock_22 : decode cX6_lock 22 = .ok (.istore 5, 2) := by decide +kernel
theorem dX6_lock_24 : decode cX6_lock 24 = .ok (.aload_n 0, 1) := by decide +kernel
theorem dX6_lock_25 : decode cX6_lock 25 = .ok (.getfield 51, 3) := by decide +kernel
theorem dX6_lock_28 : decode cX6_lock 28 = .ok (.iload_n 1, 1) := by decide +kernel
theorem dX6_lock_29 : decode cX6_lock 29 = .ok (.iload_n 2, 1) := by decide +kernel
theorem dX6_lock_30 : decode cX6_lock 30 = .ok (.iload_n 3, 1) := by decide +kernel
theorem dX6_lock_31 : decode cX6_lock 31 = .ok (.iload 5, 2) := by decide +kernel
theorem dX6_lock_33 : decode cX6_lock 33 = .ok (.invokevirtual 272, 3) := by decide +kernel
theorem dX6_lock_36 : decode cX6_lock 36 = .ok (.ifCond .eq 14, 3) := by decide +kernel
theorem dX6_lock_39 : decode cX6_lock 39 = .ok (.new 110, 3) := by decide +kernel
theorem dX6_lock_42 : decode cX6_lock 42 = .ok (.dup, 1) := by decide +kernel
theorem dX6_lock_43 : decode cX6_lock 43 = .ok (.ldc_w 276, 3) := by decide +kernel
theorem dX6_lock_46 : decode cX6_lock 46 = .ok (.invokespecial 114, 3) := by decide +kernel
theorem dX6_lock_49 : decode cX6_lock 49 = .ok (.athrow, 1) := by decide +kernel
theorem dX6_lock_50 : decode cX6_lock 50 = .ok (.aload_n 0, 1) := by decide +kernel
theorem dX6_lock_51 : decode cX6_lock 51 = .ok (.getfield 51, 3) := by decide +kernel
theorem dX6_lock_54 : decode cX6_lock 54 = .ok (.iload_n 1, 1) := by decide +kernel
theorem dX6_lock_55 : decode cX6_lock 55 = .ok (.iload_n 2, 1) := by decide +kernel
theorem dX6_lock_56 : decode cX6_lock 56 = .ok (.iload_n 3, 1) := by decide +kernel
theorem dX6_lock_57 : decode cX6_lock 57 = .ok (.iload 5, 2) := by decide +kernel
theorem dX6_lock_59 : decode cX6_lock 59 = .ok (.invokevirtual 278, 3) := by decide +kernel
theorem dX6_lock_62 : decode cX6_lock 62 = .ok (.istore 6, 2) := by decide +kernel
theorem dX6_lock_64 : decode cX6_lock 64 = .ok (.aload_n 0, 1) := by decide +kernel
theorem dX6_lock_65 : decode cX6_lock 65 = .ok (.getfield 51, 3) := by decide +kernel
theorem dX6_lock_68 : decode cX6_lock 68 = .ok (.iload_n 1, 1) := by decide +kernel
theorem dX6_lock_69 : decode cX6_lock 69 = .ok (.iload_n 2, 1) := by decide +kernel
theorem dX6_lock_70 : decode cX6_lock 70 = .ok (.iload_n 3, 1) := by decide +kernel
theorem dX6_lock_71 : decode cX6_lock 71 = .ok (.iload 5, 2) := by decide +kernel
theorem dX6_lock_73 : decode cX6_lock 73 = .ok (.invokevirtual 281, 3) := by decide +kernel
theorem dX6_lock_76 : decode cX6_lock 76 = .ok (.iload_n 3, 1) := by decide +kernel
theorem dX6_lock_77 : decode cX6_lock 77 = .ok (.iload_n 2, 1) := by decide +kernel
theorem dX6_lock_78 : decode cX6_lock 78 = .ok (.isub, 1) := by decide +kernel
theorem dX6_lock_79 : decode cX6_lock 79 = .ok (.iconst 1, 1) := by decide +kernel
theorem dX6_lock_80 : decode cX6_lock 80 = .ok (.iadd, 1) := by decide +kernel
theorem dX6_lock_81 : decode cX6_lock 81 = .ok (.iload 6, 2) := by decide +kernel
theorem dX6_lock_83 : decode cX6_lock 83 = .ok (.isub, 1) := by decide +kernel
theorem dX6_lock_84 : decode cX6_lock 84 = .ok (.ireturn, 1) := by decide +kernel
def f_X6_lock (U : S2) (p1 : Int32) (p2 : Int32) (p3 : Int32) (p4 : Int32) : Option (Nat × Int32 × S2) := bn (f_X6_demandHandleAndPages U p1 p2 p3) (fun z_1 => if z_1.1 = 0 then bn (f_X6_demandOpen z_1.2.2 p1) (fun z_3 => if z_3.1 = 0 then jn (fun (v22_5_0 : Int32) => bn (f_X3_isHindered (z_3.2.2 9) p1 p2 p3 v22_5_0) (fun z_6 => if z_6 = 0 then bn (f_X3_countLocked (z_3.2.2 9) p1 p2 p3 v22_5_0) (fun z_8 => bn (f_X3_setLocks (z_3.2.2 9) p1 p2 p3 v22_5_0) (fun z_9 => bv (upc z_3.2.2 9 z_9) (fun u_10 => some (0, ((p3 - p2) + 1) - z_8, u_10)))) else some (3, 0, z_3.2.2))) (fun k22_5 => if p4 = 0 then k22_5 1 else k22_5 2) else some (z_3.1, 0, z_3.2.2)) else some (z_1.1, 0, z_1.2.2))
def rmX6_lock : Room := { frames := 9, cells := 7, slots := 42, locals := 156 }
set_option maxHeartbeats 4000000 in
set_option maxRecDepth 100000 in
theorem c_X6_lock (l : Launch) (hst : l.stackTraces = false) (D : va_G) (cI cZ cJ cT : ClassId) (a : Nat → Nat → Nat) (sz : Nat) (U : S2) (p1 : Int32) (p2 : Int32) (p3 : Int32) (p4 : Int32) (o : Nat × Int32 × S2) (hf : f_X6_lock U p1 p2 p3 p4 = some o) : vx_Met l yX6_lock wsX6_lock rmX6_lock (va_Pc [.ref (a 0 0), .int p1, .int p2, .int p3, .int p4] (PX D cls (tys cI cZ cJ cT) (wI cI cZ cT a U) sz)) (QXi D cls o.1 o.2.1 (wI cI cZ cT a o.2.2) (va_A (wI cI cZ cT a U) sz)) (XX D cls o.1 (wI cI cZ cT a o.2.2) (va_A (wI cI cZ cT a U) sz)) 7 42 (va_A (wI cI cZ cT a U) sz) := by
  refine vx_ofW (cc := cX6_lock) (maxL := 7) (ret := (some .int)) (by decide) rfl ?_
  intro p e s m args below meth c s₁ B hml hxt hv
  obtain ⟨hav, ⟨hsz, hP, hK, hD0⟩, hE⟩ := hv
  have hx := B.exec
  have hb := B.bytes
  have hr := B.returns
  have hlocks := B.notSynchronized
  have hts := atoms_spec (ws := wsX6_lock) B.pre
  have hown : s.vm.findClass RX6 = some m.cls := findClass_of_methodNamed B.named
  have i6 : ∀ w ∈ wsX60, w ∈ wsX6_lock := fun w h => List.mem_cons_of_mem _ (List.mem_append_left _ (List.mem_append_left _ (List.mem_append_left _ (List.mem_append_left _ (List.mem_append_right _ h)))))
  have hk51 := hts (.fieldLink RX6 51 "Inodery" "handles" "LInodery$Handles;") (by decide +kernel)
  subst hsz
  have hD := hD0.self (sz := s.heap.size)
  generalize hAe : va_A (wI cI cZ cT a U) s.heap.size = A at hD hE ⊢
  have hA : ∀ q : Nat, s.heap.size ≤ q → A q := fun q h => by rw [← hAe]; exact Or.inr h
  have hS : va_S A s.heap s.heap [] := va_S.rf
  have hDD : ∀ V : S2, va_D A (wI cI cZ cT a V) := fun _ => D_same (w := (wI cI cZ cT a U)) rfl hD
  refine Wq (fun Q hQ => ?_)
  refine W_entry hav (Nat.le_of_ble_eq_true rfl) (fun ls hl => ?_)
  have hl : lv_has ls 7 [(0, .ref (a 0 0)), (1, .int p1), (2, .int p2), (3, .int p3), (4, .int p4)] := hl
  unfold f_X6_lock at hf
  refine W_heap hP hS (fun H locs hP hS => ?_)
  refine lv_aload_n hx hb dX6_lock_0 rfl (lv_at hl 0 rfl) ?_
  refine lv_iload_n hx hb dX6_lock_1 rfl (lv_at hl 1 rfl) ?_
  refine lv_iload_n hx hb dX6_lock_2 rfl (lv_at hl 2 rfl) ?_
  refine lv_iload_n hx hb dX6_lock_3 rfl (lv_at hl 3 rfl) ?_
  obtain ⟨z_1, hz_1, hf⟩ := bn_some hf
  refine cXVv (As := [.int p1, .int p2, .int p3]) (rest := []) ⟨hx, hb, hml, hown, hts⟩ (c_X6_demandHandleAndPages l hst D cI cZ cJ cT a H.size U p1 p2 p3 z_1 hz_1) (cwV 3 hts gX6_lock_X6_demandHandleAndPages rfl rfl rfl (by decide +kernel) ⟨Nat.le_of_ble_eq_true rfl, Nat.le_of_ble_eq_true rfl⟩) hP hK (hDD U) hE hS (own_free (hDD U) hS hA) (va_recv hK (fl_sub hP 0 rfl) (ci := 6) (q0 := 0) rfl rfl) rfl rfl hl.1 (Nat.le_of_ble_eq_true rfl) dX6_lock_4 ⟨Nat.le_of_ble_eq_true rfl, Nat.le_of_ble_eq_true rfl⟩ (fun E ce q9 H locs k_2 hE9 hP hS hce hcv hcl => ?_) (fun H locs k_2 hP hS => ?_)
  · have hf := ite_f hf k_2
    have eo := Option.some.inj hf
    have hP : va_P D cls (wI cI cZ cT a o.2.2) H := by rw [← eo]; exact hP
    rw [hQ]
    exact xout (k := o.1) hxt hlocks (by rw [← eo]; exact k_2) (by rw [← eo]; exact hE9) hP hS hce hcv hcl (Nat.le_of_ble_eq_true rfl) (Nat.le_of_ble_eq_true rfl)
  have hf := ite_t hf k_2
  refine lv_aload_n hx hb dX6_lock_7 rfl (lv_at hl 0 rfl) ?_
  refine lv_iload_n hx hb dX6_lock_8 rfl (lv_at hl 1 rfl) ?_
  obtain ⟨z_3, hz_3, hf⟩ := bn_some hf
  refine cXVv (As := [.int p1]) (rest := []) ⟨hx, hb, hml, hown, hts⟩ (c_X6_demandOpen l hst D cI cZ cJ cT a H.size z_1.2.2 p1 z_3 hz_3) (cwV 1 hts gX6_lock_X6_demandOpen rfl rfl rfl (by decide +kernel) ⟨Nat.le_of_ble_eq_true rfl, Nat.le_of_ble_eq_true rfl⟩) hP hK (hDD z_1.2.2) hE hS (own_free (hDD z_1.2.2) hS hA) (va_recv hK (fl_sub hP 0 rfl) (ci := 6) (q0 := 0) rfl rfl) rfl rfl hl.1 (Nat.le_of_ble_eq_true rfl) dX6_lock_9 ⟨Nat.le_of_ble_eq_true rfl, Nat.le_of_ble_eq_true rfl⟩ (fun E ce q9 H locs k_4 hE9 hP hS hce hcv hcl => ?_) (fun H locs k_4 hP hS => ?_)
  · have hf := ite_f hf k_4
    have eo := Option.some.inj hf
    have hP : va_P D cls (wI cI cZ cT a o.2.2) H := by rw [← eo]; exact hP
    rw [hQ]
    exact xout (k := o.1) hxt hlocks (by rw [← eo]; exact k_4) (by rw [← eo]; exact hE9) hP hS hce hcv hcl (Nat.le_of_ble_eq_true rfl) (Nat.le_of_ble_eq_true rfl)
  have hf := ite_t hf k_4
  refine lv_iload hx hb dX6_lock_12 (lv_at hl 4 rfl) ?_
  obtain ⟨k22_5, hk22_5, hf⟩ := jn_some hf
  have j22_5 : ∀ (v22_5_0 : Int32) (H : Heap) (locs : List Loc) (ls : Array Slot), k22_5 v22_5_0 = some o → va_P D cls (wI cI cZ cT a z_3.2.2) H → va_S A s.heap H locs → lv_has ls 7 [(0, .ref (a 0 0)), (1, .int p1), (2, .int p2), (3, .int p3)] → W p l e (headSpec wsX6_lock rmX6_lock).room s m args below meth c H locs 6 36 Q (F0 m 22 ls [.int v22_5_0]) := by
    intro v22_5_0 H locs ls hf hP hS hl
    have hf := qa1 hk22_5 hf
    refine lv_istore (lv' := [(5, .int v22_5_0), (0, .ref (a 0 0)), (1, .int p1), (2, .int p2), (3, .int p3)]) hx hb dX6_lock_22 hl (by decide) rfl (fun ls hl => ?_)
    refine lv_aload_n hx hb dX6_lock_24 rfl (lv_at hl 1 rfl) ?_
    refine va_get (D := D) (ci := 6) (v := .ref (a 9 0)) (C := RX6) (T := TX6) (N := 11) hx hb hts i6 hown hK (fl_sub hP 0 rfl) 0 rfl rfl 7 (by decide) hk51 (fun _ h9 => h9) rfl dX6_lock_25 ?_
    refine lv_iload_n hx hb dX6_lock_28 rfl (lv_at hl 2 rfl) ?_
    refine lv_iload_n hx hb dX6_lock_29 rfl (lv_at hl 3 rfl) ?_
    refine lv_iload_n hx hb dX6_lock_30 rfl (lv_at hl 4 rfl) ?_
    refine lv_iload hx hb dX6_lock_31 (lv_at hl 0 rfl) ?_
    obtain ⟨z_6, hz_6, hf⟩ := bn_some hf
    refine cRV (As := [.int p1, .int p2, .int p3, .int v22_5_0]) (rest := []) ⟨hx, hb, hml, hown, hts⟩ (c_X3_isHindered l D cI cZ cJ cT (a 9) (z_3.2.2 9) p1 p2 p3 v22_5_0 z_6 hz_6) (cwV 4 hts gX6_lock_X3_isHindered rfl rfl rfl (by decide +kernel) ⟨Nat.le_of_ble_eq_true rfl, Nat.le_of_ble_eq_true rfl⟩) (fl_sub hP 9 rfl) hK (va_recv hK (fl_sub hP 9 rfl) (ci := 3) (q0 := 0) rfl rfl) rfl rfl hl.1 (Nat.le_of_ble_eq_true rfl) dX6_lock_33 ⟨Nat.le_of_ble_eq_true rfl, Nat.le_of_ble_eq_true rfl⟩ ?_
    refine lv_if_eq (tgt := 50) hx hb dX6_lock_36 (by decide) (fun c_7 => ?_) (fun c_7 => ?_)
    · have hf := ite_t hf c_7
      refine lv_aload_n hx hb dX6_lock_50 rfl (lv_at hl 1 rfl) ?_
      refine va_get (D := D) (ci := 6) (v := .ref (a 9 0)) (C := RX6) (T := TX6) (N := 11) hx hb hts i6 hown hK (fl_sub hP 0 rfl) 0 rfl rfl 7 (by decide) hk51 (fun _ h9 => h9) rfl dX6_lock_51 ?_
      refine lv_iload_n hx hb dX6_lock_54 rfl (lv_at hl 2 rfl) ?_
      refine lv_iload_n hx hb dX6_lock_55 rfl (lv_at hl 3 rfl) ?_
      refine lv_iload_n hx hb dX6_lock_56 rfl (lv_at hl 4 rfl) ?_
      refine lv_iload hx hb dX6_lock_57 (lv_at hl 0 rfl) ?_
      obtain ⟨z_8, hz_8, hf⟩ := bn_some hf
      refine cRV (As := [.int p1, .int p2, .int p3, .int v22_5_0]) (rest := []) ⟨hx, hb, hml, hown, hts⟩ (c_X3_countLocked l D cI cZ cJ cT (a 9) (z_3.2.2 9) p1 p2 p3 v22_5_0 z_8 hz_8) (cwV 4 hts gX6_lock_X3_countLocked rfl rfl rfl (by decide +kernel) ⟨Nat.le_of_ble_eq_true rfl, Nat.le_of_ble_eq_true rfl⟩) (fl_sub hP 9 rfl) hK (va_recv hK (fl_sub hP 9 rfl) (ci := 3) (q0 := 0) rfl rfl) rfl rfl hl.1 (Nat.le_of_ble_eq_true rfl) dX6_lock_59 ⟨Nat.le_of_ble_eq_true rfl, Nat.le_of_ble_eq_true rfl⟩ ?_
      refine lv_istore (lv' := [(6, .int z_8), (5, .int v22_5_0), (0, .ref (a 0 0)), (1, .int p1), (2, .int p2), (3, .int p3)]) hx hb dX6_lock_62 hl (by decide) rfl (fun ls hl => ?_)
      refine lv_aload_n hx hb dX6_lock_64 rfl (lv_at hl 2 rfl) ?_
      refine va_get (D := D) (ci := 6) (v := .ref (a 9 0)) (C := RX6) (T := TX6) (N := 11) hx hb hts i6 hown hK (fl_sub hP 0 rfl) 0 rfl rfl 7 (by decide) hk51 (fun _ h9 => h9) rfl dX6_lock_65 ?_
      refine lv_iload_n hx hb dX6_lock_68 rfl (lv_at hl 3 rfl) ?_
      refine lv_iload_n hx hb dX6_lock_69 rfl (lv_at hl 4 rfl) ?_
      refine lv_iload_n hx hb dX6_lock_70 rfl (lv_at hl 5 rfl) ?_
      refine lv_iload hx hb dX6_lock_71 (lv_at hl 1 rfl) ?_
      obtain ⟨z_9, hz_9, hf⟩ := bn_some hf
      refine cWVv (As := [.int p1, .int p2, .int p3, .int v22_5_0]) (rest := []) ⟨hx, hb, hml, hown, hts⟩ (c_X3_setLocks l D cI cZ cJ cT (a 9) H.size (z_3.2.2 9) p1 p2 p3 v22_5_0 z_9 hz_9) (cwV 4 hts gX6_lock_X3_setLocks rfl rfl rfl (by decide +kernel) ⟨Nat.le_of_ble_eq_true rfl, Nat.le_of_ble_eq_true rfl⟩) (fl_sub hP 9 rfl) hK (fl_subD (hDD z_3.2.2) 9 rfl) hS (fl_free (hDD z_3.2.2) hS hA 9 rfl) (va_recv hK (fl_sub hP 9 rfl) (ci := 3) (q0 := 0) rfl rfl) rfl rfl hl.1 (Nat.le_of_ble_eq_true rfl) dX6_lock_73 ⟨Nat.le_of_ble_eq_true rfl, Nat.le_of_ble_eq_true rfl⟩ (fun H1 locs hP1 hk1 hS => ?_)
      obtain ⟨u_10, hu_10, hf⟩ := bv_some hf
      have hP : va_P D cls (wI cI cZ cT a u_10) H1 := by rw [hu_10]; exact fl_join hP (hDD z_3.2.2) 9 rfl hk1 hP1
      clear hP1 hk1
      generalize H1 = H at hP hS ⊢
      refine lv_iload_n hx hb dX6_lock_76 rfl (lv_at hl 5 rfl) ?_
      refine lv_iload_n hx hb dX6_lock_77 rfl (lv_at hl 4 rfl) ?_
      refine lv_isub hx hb dX6_lock_78 ?_
      refine lv_iconst (v := 1) hx hb dX6_lock_79 (by decide) ?_
      refine lv_iadd hx hb dX6_lock_80 ?_
      refine lv_iload hx hb dX6_lock_81 (lv_at hl 0 rfl) ?_
      refine lv_isub hx hb dX6_lock_83 ?_
      have eo := Option.some.inj hf
      have hP : va_P D cls (wI cI cZ cT a o.2.2) H := by rw [← eo]; exact hP
      rw [hQ]
      refine W.widen (k := 7) (n := 42) (Nat.le_of_ble_eq_true rfl) (Nat.le_of_ble_eq_true rfl) ?_
      exact vx_ret (W.iret hx hb hr (fun t ht hW => ⟨⟨_, (), rfl, ⟨(by rw [← eo]), (by rw [← eo])⟩, P_at ht hP⟩, hS.F ht⟩) hS.2.2 dX6_lock_84 hlocks)
    · have hf := ite_f hf c_7
      have eo := Option.some.inj hf
      have hP : va_P D cls (wI cI cZ cT a o.2.2) H := by rw [← eo]; exact hP
      rw [hQ]
      have hk0 : o.1 = 3 := by rw [← eo]
      exact thrW o.1 (text := "another handle has locked a page") (by rw [hk0]; rfl) (by rw [hk0]; decide) hx hb hst hown (by decide +kernel) (hts (.classLink RX6 110 "java/lang/IllegalStateException") (by decide +kernel)) (hts (.initialized "java/lang/IllegalStateException") (by decide +kernel)) (fun w h => hts w (List.mem_cons_of_mem _ (List.mem_append_left _ (List.mem_append_left _ (List.mem_append_right _ h))))) (EX_b3 hE) ok3 (by decide +kernel) hE hS hP (hl.1.trans hml.symm) dX6_lock_39 dX6_lock_42 dX6_lock_43 dX6_lock_46 dX6_lock_49 hxt (Nat.le_of_ble_eq_true rfl) (Nat.le_of_ble_eq_true rfl) (Nat.le_of_ble_eq_true rfl) (Nat.le_of_ble_eq_true rfl) hlocks (Nat.le_of_ble_eq_true rfl) (Nat.le_of_ble_eq_true rfl)
  refine lv_if_eq (tgt := 21) hx hb dX6_lock_14 (by decide) (fun c_11 => ?_) (fun c_11 => ?_)
  · have hf := ite_t hf c_11
    refine lv_iconst (v := 1) hx hb dX6_lock_21 (by decide) ?_
    refine W.widen (k := 6) (n := 36) (Nat.le_of_ble_eq_true rfl) (Nat.le_of_ble_eq_true rfl) ?_
    exact j22_5 _ _ _ _ hf hP hS (lv_sub hl [0, 1, 2, 3] rfl)
  · have hf := ite_f hf c_11
    refine lv_iconst (v := 2) hx hb dX6_lock_17 (by decide) ?_
    refine lv_goto (tgt := 22) hx hb dX6_lock_18 (by decide) ?_
    refine W.widen (k := 6) (n := 36) (Nat.le_of_ble_eq_true rfl) (Nat.le_of_ble_eq_true rfl) ?_
    exact j22_5 _ _ _ _ hf hP hS (lv_sub hl [0, 1, 2, 3] rfl)
