theorem dX6_isUser_0 : decode cX6_isUser 0 = .ok (.iload_n 0, 1) := by decide +kernel
theorem dX6_isUser_1 : decode cX6_isUser 1 = .ok (.ifCond .lt 12, 3) := by decide +kernel
theorem dX6_isUser_4 : decode cX6_isUser 4 = .ok (.iload_n 0, 1) := by decide +kernel
theorem dX6_isUser_5 : decode cX6_isUser 5 = .ok (.iconst 4, 1) := by decide +kernel
theorem dX6_isUser_6 : decode cX6_isUser 6 = .ok (.if_icmp .ge 7, 3) := by decide +kernel
theorem dX6_isUser_9 : decode cX6_isUser 9 = .ok (.iconst 1, 1) := by decide +kernel
theorem dX6_isUser_10 : decode cX6_isUser 10 = .ok (.goto 4, 3) := by decide +kernel
theorem dX6_isUser_13 : decode cX6_isUser 13 = .ok (.iconst 0, 1) := by decide +kernel
theorem dX6_isUser_14 : decode cX6_isUser 14 = .ok (.ireturn, 1) := by decide +kernel
def f_X6_isUser (p0 : Int32) : Option (Int32) := jn (fun (v14_1_0 : Int32) => some (vp_nar .boolean v14_1_0)) (fun k14_1 => jn (k14_1 0) (fun k13_2 => if p0 < 0 then k13_2 else if 4 ≤ p0 then k13_2 else k14_1 1))
def rmX6_isUser : Room := { frames := 0, cells := 0, slots := 0, locals := 0 }
set_option maxHeartbeats 4000000 in
set_option maxRecDepth 100000 in
theorem c_X6_isUser (l : Launch) (D : va_G) (cI cZ cJ cT : ClassId) (p0 : Int32) (o : Int32) (hf : f_X6_isUser p0 = some o) : Met l yX6_isUser wsX6_isUser rmX6_isUser (va_Pc [.int p0] (fun _ => True)) (QR o) 0 0 (fun _ => False) := by
  refine Met.ofW (cc := cX6_isUser) (maxL := 1) (ret := (some .boolean)) (by decide) rfl ?_
  intro p e s m args below meth c s₁ B hml hv
  obtain ⟨hav, -⟩ := hv
  have hx := B.exec
  have hb := B.bytes
  have hr := B.returns
  have hlocks := B.notSynchronized
  have hts := atoms_spec (ws := wsX6_isUser) B.pre
  have hown : s.vm.findClass RX6 = some m.cls := findClass_of_methodNamed B.named
  refine Wq (fun Q hQ => ?_)
  refine W_entry hav (Nat.le_of_ble_eq_true rfl) (fun ls hl => ?_)
  have hl : lv_has ls 1 [(0, .int p0)] := hl
  unfold f_X6_isUser at hf
  refine lv_iload_n hx hb dX6_isUser_0 rfl (lv_at hl 0 rfl) ?_
  obtain ⟨k14_1, hk14_1, hf⟩ := jn_some hf
  have j14_1 : ∀ (v14_1_0 : Int32) (ls : Array Slot), k14_1 v14_1_0 = some o → lv_has ls 1 [] → W p l e (headSpec wsX6_isUser rmX6_isUser).room s m args below meth c s.heap [] 0 0 Q (F0 m 14 ls [.int v14_1_0]) := by
    intro v14_1_0 ls hf hl
    have hf := qa1 hk14_1 hf
    rw [hQ]
    exact zretN (v := v14_1_0) (v' := vp_nar .boolean v14_1_0) hx hb hr rfl (fun t ht hW => ⟨_, rfl, Option.some.inj hf, ht⟩) (fun _ h => nomatch h) dX6_isUser_14 hlocks
  obtain ⟨k13_2, hk13_2, hf⟩ := jn_some hf
  have j13_2 : ∀ (ls : Array Slot), k13_2 = some o → lv_has ls 1 [] → W p l e (headSpec wsX6_isUser rmX6_isUser).room s m args below meth c s.heap [] 0 0 Q (F0 m 13 ls []) := by
    intro ls hf hl
    have hf := qa0 hk13_2 hf
    refine lv_iconst (v := 0) hx hb dX6_isUser_13 (by decide) ?_
    exact j14_1 _ _ hf (lv_sub hl [] rfl)
  refine lv_if_lt (tgt := 13) hx hb dX6_isUser_1 (by decide) (fun c_3 => ?_) (fun c_3 => ?_)
  · have hf := ite_t hf c_3
    exact j13_2 _ hf (lv_sub hl [] rfl)
  · have hf := ite_f hf c_3
    refine lv_iload_n hx hb dX6_isUser_4 rfl (lv_at hl 0 rfl) ?_
    refine lv_iconst (v := 4) hx hb dX6_isUser_5 (by decide) ?_
    refine lv_icmp_ge (tgt := 13) hx hb dX6_isUser_6 (by decide) (fun c_4 => ?_) (fun c_4 => ?_)
    · have hf := ite_t hf c_4
      exact j13_2 _ hf (lv_sub hl [] rfl)
    · have hf := ite_f hf c_4
      refine lv_iconst (v := 1) hx hb dX6_isUser_9 (by decide) ?_
      refine lv_goto (tgt := 14) hx hb dX6_isUser_10 (by decide) ?_
      exact j14_1 _ _ hf (lv_sub hl [] rfl)
set_option maxRecDepth 20000 in
theorem ggX6_user_X6_isUser : GoodIn wsX6_user wsX6_isUser := goodIn_r _ [7] (by decide +kernel) (by decide +kernel)
set_option maxRecDepth 20000 in
theorem gX6_user_X6_isUser : GoodIn wsX6_user (va_wsS RX6 70 yX6_isUser wsX6_isUser) := goodIn_app (goodIn_of _ (by decide +kernel)) ggX6_user_X6_isUser
theorem dX6_user_0 : decode cX6_user 0 = .ok (.iload_n 1, 1) := by decide +kernel
theorem dX6_user_1 : decode cX6_user 1 = .ok (.invokestatic 70, 3) := by decide +kernel
theorem dX6_user_4 : decode cX6_user 4 = .ok (.ifCond .ne 13, 3) := by decide +kernel
theorem dX6_user_7 : decode cX6_user 7 = .ok (.new 74, 3) := by decide +kernel
theorem dX6_user_10 : decode cX6_user 10 = .ok (.dup, 1) := by decide +kernel
theorem dX6_user_11 : decode cX6_user 11 = .ok (.ldc 76, 2) := by decide +kernel
theorem dX6_user_13 : decode cX6_user 13 = .ok (.invokespecial 78, 3) := by decide +kernel
theorem dX6_user_16 : decode cX6_user 16 = .ok (.athrow, 1) := by decide +kernel
theorem dX6_user_17 : decode cX6_user 17 = .ok (.aload_n 0, 1) := by decide +kernel
theorem dX6_user_18 : decode cX6_user 18 = .ok (.getfield 66, 3) := by decide +kernel
theorem dX6_user_21 : decode cX6_user 21 = .ok (.istore_n 2, 1) := by decide +kernel
theorem dX6_user_22 : decode cX6_user 22 = .ok (.aload_n 0, 1) := by decide +kernel
theorem dX6_user_23 : decode cX6_user 23 = .ok (.iload_n 1, 1) := by decide +kernel
theorem dX6_user_24 : decode cX6_user 24 = .ok (.putfield 66, 3) := by decide +kernel
theorem dX6_user_27 : decode cX6_user 27 = .ok (.iload_n 2, 1) := by decide +kernel
theorem dX6_user_28 : decode cX6_user 28 = .ok (.ireturn, 1) := by decide +kernel
def f_X6_user (U : S2) (p1 : Int32) : Option (Nat × Int32 × S2) := bn (f_X6_isUser p1) (fun z_1 => if z_1 = 0 then some (2, 0, U) else bv (upc U 0 (up (U 0) 10 (fun _ => p1))) (fun u_3 => some (0, (U 0 10 0), u_3)))
def rmX6_user : Room := { frames := 6, cells := 1, slots := 6, locals := 90 }
set_option maxHeartbeats 4000000 in
set_option maxRecDepth 100000 in
theorem c_X6_user (l : Launch) (hst : l.stackTraces = false) (D : va_G) (cI cZ cJ cT : ClassId) (a : Nat → Nat → Nat) (sz : Nat) (U : S2) (p1 : Int32) (o : Nat × Int32 × S2) (hf : f_X6_user U p1 = some o) : vx_Met l yX6_user wsX6_user rmX6_user (va_Pc [.ref (a 0 0), .int p1] (PX D cls (tys cI cZ cJ cT) (wI cI cZ cT a U) sz)) (QXi D cls o.1 o.2.1 (wI cI cZ cT a o.2.2) (va_A (wI cI cZ cT a U) sz)) (XX D cls o.1 (wI cI cZ cT a o.2.2) (va_A (wI cI cZ cT a U) sz)) 1 6 (va_A (wI cI cZ cT a U) sz) := by
  refine vx_ofW (cc := cX6_user) (maxL := 3) (ret := (some .int)) (by decide) rfl ?_
  intro p e s m args below meth c s₁ B hml hxt hv
  obtain ⟨hav, ⟨hsz, hP, hK, hD0⟩, hE⟩ := hv
  have hx := B.exec
  have hb := B.bytes
  have hr := B.returns
  have hlocks := B.notSynchronized
  have hts := atoms_spec (ws := wsX6_user) B.pre
  have hown : s.vm.findClass RX6 = some m.cls := findClass_of_methodNamed B.named
  have i6 : ∀ w ∈ wsX60, w ∈ wsX6_user := fun w h => List.mem_cons_of_mem _ (List.mem_append_left _ (List.mem_append_right _ h))
  have hk66 := hts (.fieldLink RX6 66 "Inodery" "userOfNow" "I") (by decide +kernel)
  subst hsz
  have hD := hD0.self (sz := s.heap.size)
  generalize hAe : va_A (wI cI cZ cT a U) s.heap.size = A at hD hE ⊢
  have hA : ∀ q : Nat, s.heap.size ≤ q → A q := fun q h => by rw [← hAe]; exact Or.inr h
  have hS : va_S A s.heap s.heap [] := va_S.rf
  have hDD : ∀ V : S2, va_D A (wI cI cZ cT a V) := fun _ => D_same (w := (wI cI cZ cT a U)) rfl hD
  refine Wq (fun Q hQ => ?_)
  refine W_entry hav (Nat.le_of_ble_eq_true rfl) (fun ls hl => ?_)
  have hl : lv_has ls 3 [(0, .ref (a 0 0)), (1, .int p1)] := hl
  unfold f_X6_user at hf
  refine W_heap hP hS (fun H locs hP hS => ?_)
  refine lv_iload_n hx hb dX6_user_0 rfl (lv_at hl 1 rfl) ?_
  obtain ⟨z_1, hz_1, hf⟩ := bn_some hf
  refine c0S (As := [.int p1]) (rest := []) ⟨hx, hb, hml, hown, hts⟩ (c_X6_isUser l D cI cZ cJ cT p1 z_1 hz_1) (va_cwS 1 hts gX6_user_X6_isUser rfl rfl rfl (by decide +kernel) ⟨Nat.le_of_ble_eq_true rfl, Nat.le_of_ble_eq_true rfl⟩) rfl rfl hl.1 (Nat.le_of_ble_eq_true rfl) dX6_user_1 ⟨Nat.le_of_ble_eq_true rfl, Nat.le_of_ble_eq_true rfl⟩ ?_
  refine lv_if_ne (tgt := 17) hx hb dX6_user_4 (by decide) (fun c_2 => ?_) (fun c_2 => ?_)
  · have hf := ite_f hf c_2
    refine lv_aload_n hx hb dX6_user_17 rfl (lv_at hl 0 rfl) ?_
    refine va_get (D := D) (ci := 6) (v := .int (U 0 10 0)) (C := RX6) (T := TX6) (N := 11) hx hb hts i6 hown hK (fl_sub hP 0 rfl) 0 rfl rfl 10 (by decide) hk66 (fun _ h9 => h9) rfl dX6_user_18 ?_
    refine lv_istore_n (lv' := [(2, .int (U 0 10 0)), (0, .ref (a 0 0)), (1, .int p1)]) hx hb dX6_user_21 rfl hl (by decide) rfl (fun ls hl => ?_)
    refine lv_aload_n hx hb dX6_user_22 rfl (lv_at hl 1 rfl) ?_
    refine lv_iload_n hx hb dX6_user_23 rfl (lv_at hl 2 rfl) ?_
    obtain ⟨u_3, hu_3, hf⟩ := bv_some hf
    refine va_put (D := D) (ci := 6) (v := .int p1) (ty := .int) (C := RX6) (T := TX6) (N := 11) hx hb hts i6 tyX6 tyX6_ok nmX6 hown hK hP (hDD U) hS 0 rfl rfl 10 (by decide) hk66 (fun _ h9 => h9) rfl (by decide +kernel) rfl rfl (Nat.le_of_ble_eq_true rfl) dX6_user_24 (fun H locs hP _ hS => ?_)
    have hP : va_P D cls (wI cI cZ cT a u_3) H := by rw [hu_3]; exact hP
    refine lv_iload_n hx hb dX6_user_27 rfl (lv_at hl 0 rfl) ?_
    have eo := Option.some.inj hf
    have hP : va_P D cls (wI cI cZ cT a o.2.2) H := by rw [← eo]; exact hP
    rw [hQ]
    refine W.widen (k := 1) (n := 6) (Nat.le_of_ble_eq_true rfl) (Nat.le_of_ble_eq_true rfl) ?_
    exact vx_ret (W.iret hx hb hr (fun t ht hW => ⟨⟨_, (), rfl, ⟨(by rw [← eo]), (by rw [← eo])⟩, P_at ht hP⟩, hS.F ht⟩) hS.2.2 dX6_user_28 hlocks)
  · have hf := ite_t hf c_2
    have eo := Option.some.inj hf
    have hP : va_P D cls (wI cI cZ cT a o.2.2) H := by rw [← eo]; exact hP
    rw [hQ]
    have hk0 : o.1 = 2 := by rw [← eo]
    exact thr o.1 (text := "no such user") (by rw [hk0]; rfl) (by rw [hk0]; decide) hx hb hst hown (by decide +kernel) (hts (.classLink RX6 74 "java/lang/IndexOutOfBoundsException") (by decide +kernel)) (hts (.initialized "java/lang/IndexOutOfBoundsException") (by decide +kernel)) (fun w h => hts w (List.mem_cons_of_mem _ (List.mem_append_right _ h))) (EX_b2 hE) ok2 (by decide +kernel) hE hS hP (hl.1.trans hml.symm) dX6_user_7 dX6_user_10 dX6_user_11 dX6_user_13 dX6_user_16 hxt (Nat.le_of_ble_eq_true rfl) (Nat.le_of_ble_eq_true rfl) (Nat.le_of_ble_eq_true rfl) (Nat.le_of_ble_eq_true rfl) hlocks (Nat.le_of_ble_eq_true rfl) (Nat.le_of_ble_eq_true rfl)
theorem dX6_isNewPath_0 : decode cX6_isNewPath 0 = .ok (.iload_n 0, 1) := by decide +kernel
theorem dX6_isNewPath_1 : decode cX6_isNewPath 1 = .ok (.iconst 1, 1) := by decide +kernel
theorem dX6_isNewPath_2 : decode cX6_isNewPath 2 = .ok (.if_icmp .lt 14, 3) := by decide +kernel
theorem dX6_isNewPath_5 : decode cX6_isNewPath 5 = .ok (.iload_n 0, 1) := by decide +kernel
theorem dX6_isNewPath_6 : decode cX6_isNewPath 6 = .ok (.ldc_w 406, 3) := by decide +kernel
theorem dX6_isNewPath_9 : decode cX6_isNewPath 9 = .ok (.if_icmp .gt 7, 3) := by decide +kernel
theorem dX6_isNewPath_12 : decode cX6_isNewPath 12 = .ok (.iconst 1, 1) := by decide +kernel
theorem dX6_isNewPath_13 : decode cX6_isNewPath 13 = .ok (.goto 4, 3) := by decide +kernel
theorem dX6_isNewPath_16 : decode cX6_isNewPath 16 = .ok (.iconst 0, 1) := by decide +kernel
theorem dX6_isNewPath_17 : decode cX6_isNewPath 17 = .ok (.ireturn, 1) := by decide +kernel
def f_X6_isNewPath (p0 : Int32) : Option (Int32) := jn (fun (v17_1_0 : Int32) => some (vp_nar .boolean v17_1_0)) (fun k17_1 => jn (k17_1 0) (fun k16_2 => if p0 < 1 then k16_2 else if 99999999 < p0 then k16_2 else k17_1 1))
def rmX6_isNewPath : Room := { frames := 0, cells := 0, slots := 0, locals := 0 }
set_option maxHeartbeats 4000000 in
set_option maxRecDepth 100000 in
theorem c_X6_isNewPath (l : Launch) (D : va_G) (cI cZ cJ cT : ClassId) (p0 : Int32) (o : Int32) (hf : f_X6_isNewPath p0 = some o) : Met l yX6_isNewPath wsX6_isNewPath rmX6_isNewPath (va_Pc [.int p0] (fun _ => True)) (QR o) 0 0 (fun _ => False) := by
  refine Met.ofW (cc := cX6_isNewPath) (maxL := 1) (ret := (some .boolean)) (by decide) rfl ?_
  intro p e s m args below meth c s₁ B hml hv
  obtain ⟨hav, -⟩ := hv
  have hx := B.exec
  have hb := B.bytes
  have hr := B.returns
  have hlocks := B.notSynchronized
  have hts := atoms_spec (ws := wsX6_isNewPath) B.pre
  have hown : s.vm.findClass RX6 = some m.cls := findClass_of_methodNamed B.named
  refine Wq (fun Q hQ => ?_)
  refine W_entry hav (Nat.le_of_ble_eq_true rfl) (fun ls hl => ?_)
  have hl : lv_has ls 1 [(0, .int p0)] := hl
  unfold f_X6_isNewPath at hf
  refine lv_iload_n hx hb dX6_isNewPath_0 rfl (lv_at hl 0 rfl) ?_
  refine lv_iconst (v := 1) hx hb dX6_isNewPath_1 (by decide) ?_
  obtain ⟨k17_1, hk17_1, hf⟩ := jn_some hf
  have j17_1 : ∀ (v17_1_0 : Int32) (ls : Array Slot), k17_1 v17_1_0 = some o → lv_has ls 1 [] → W p l e (headSpec wsX6_isNewPath rmX6_isNewPath).room s m args below meth c s.heap [] 0 0 Q (F0 m 17 ls [.int v17_1_0]) := by
    intro v17_1_0 ls hf hl
    have hf := qa1 hk17_1 hf
    rw [hQ]
    exact zretN (v := v17_1_0) (v' := vp_nar .boolean v17_1_0) hx hb hr rfl (fun t ht hW => ⟨_, rfl, Option.some.inj hf, ht⟩) (fun _ h => nomatch h) dX6_isNewPath_17 hlocks
  obtain ⟨k16_2, hk16_2, hf⟩ := jn_some hf
  have j16_2 : ∀ (ls : Array Slot), k16_2 = some o → lv_has ls 1 [] → W p l e (headSpec wsX6_isNewPath rmX6_isNewPath).room s m args below meth c s.heap [] 0 0 Q (F0 m 16 ls []) := by
    intro ls hf hl
    have hf := qa0 hk16_2 hf
    refine lv_iconst (v := 0) hx hb dX6_isNewPath_16 (by decide) ?_
    exact j17_1 _ _ hf (lv_sub hl [] rfl)
  refine lv_icmp_lt (tgt := 16) hx hb dX6_isNewPath_2 (by decide) (fun c_3 => ?_) (fun c_3 => ?_)
  · have hf := ite_t hf c_3
    exact j16_2 _ hf (lv_sub hl [] rfl)
  · have hf := ite_f hf c_3
    refine lv_iload_n hx hb dX6_isNewPath_5 rfl (lv_at hl 0 rfl) ?_
    refine lv_ldcw hx hb hown (hts (.constant RX6 406 (99999999)) (by decide +kernel)) dX6_isNewPath_6 ?_
    refine lv_icmp_gt (tgt := 16) hx hb dX6_isNewPath_9 (by decide) (fun c_4 => ?_) (fun c_4 => ?_)
    · have hf := ite_t hf c_4
      exact j16_2 _ hf (lv_sub hl [] rfl)
    · have hf := ite_f hf c_4
      refine lv_iconst (v := 1) hx hb dX6_isNewPath_12 (by decide) ?_
      refine lv_goto (tgt := 17) hx hb dX6_isNewPath_13 (by decide) ?_
      exact j17_1 _ _ hf (lv_sub hl [] rfl)
theorem dX6_isRights_0 : decode cX6_isRights 0 = .ok (.iload_n 0, 1) := by decide +kernel
theorem dX6_isRights_1 : decode cX6_isRights 1 = .ok (.ifCond .lt 13, 3) := by decide +kernel
theorem dX6_isRights_4 : decode cX6_isRights 4 = .ok (.iload_n 0, 1) := by decide +kernel
theorem dX6_isRights_5 : decode cX6_isRights 5 = .ok (.bipush 15, 2) := by decide +kernel
theorem dX6_isRights_7 : decode cX6_isRights 7 = .ok (.if_icmp .gt 7, 3) := by decide +kernel
theorem dX6_isRights_10 : decode cX6_isRights 10 = .ok (.iconst 1, 1) := by decide +kernel
theorem dX6_isRights_11 : decode cX6_isRights 11 = .ok (.goto 4, 3) := by decide +kernel
theorem dX6_isRights_14 : decode cX6_isRights 14 = .ok (.iconst 0, 1) := by decide +kernel
theorem dX6_isRights_15 : decode cX6_isRights 15 = .ok (.ireturn, 1) := by decide +kernel
def f_X6_isRights (p0 : Int32) : Option (Int32) := jn (fun (v15_1_0 : Int32) => some (vp_nar .boolean v15_1_0)) (fun k15_1 => jn (k15_1 0) (fun k14_2 => if p0 < 0 then k14_2 else if 15 < p0 then k14_2 else k15_1 1))
def rmX6_isRights : Room := { frames := 0, cells := 0, slots := 0, locals := 0 }
set_option maxHeartbeats 4000000 in
set_option maxRecDepth 100000 in
theorem c_X6_isRights (l : Launch) (D : va_G) (cI cZ cJ cT : ClassId) (p0 : Int32) (o : Int32) (hf : f_X6_isRights p0 = some o) : Met l yX6_isRights wsX6_isRights rmX6_isRights (va_Pc [.int p0] (fun _ => True)) (QR o) 0 0 (fun _ => False) := by
  refine Met.ofW (cc := cX6_isRights) (maxL := 1) (ret := (some .boolean)) (by decide) rfl ?_
  intro p e s m args below meth c s₁ B hml hv
  obtain ⟨hav, -⟩ := hv
  have hx := B.exec
  have hb := B.bytes
  have hr := B.returns
  have hlocks := B.notSynchronized
  have hts := atoms_spec (ws := wsX6_isRights) B.pre
  have hown : s.vm.findClass RX6 = some m.cls := findClass_of_methodNamed B.named
  refine Wq (fun Q hQ => ?_)
  refine W_entry hav (Nat.le_of_ble_eq_true rfl) (fun ls hl => ?_)
  have hl : lv_has ls 1 [(0, .int p0)] := hl
  unfold f_X6_isRights at hf
  refine lv_iload_n hx hb dX6_isRights_0 rfl (lv_at hl 0 rfl) ?_
  obtain ⟨k15_1, hk15_1, hf⟩ := jn_some hf
  have j15_1 : ∀ (v15_1_0 : Int32) (ls : Array Slot), k15_1 v15_1_0 = some o → lv_has ls 1 [] → W p l e (headSpec wsX6_isRights rmX6_isRights).room s m args below meth c s.heap [] 0 0 Q (F0 m 15 ls [.int v15_1_0]) := by
    intro v15_1_0 ls hf hl
    have hf := qa1 hk15_1 hf
    rw [hQ]
    exact zretN (v := v15_1_0) (v' := vp_nar .boolean v15_1_0) hx hb hr rfl (fun t ht hW => ⟨_, rfl, Option.some.inj hf, ht⟩) (fun _ h => nomatch h) dX6_isRights_15 hlocks
  obtain ⟨k14_2, hk14_2, hf⟩ := jn_some hf
  have j14_2 : ∀ (ls : Array Slot), k14_2 = some o → lv_has ls 1 [] → W p l e (headSpec wsX6_isRights rmX6_isRights).room s m args below meth c s.heap [] 0 0 Q (F0 m 14 ls []) := by
    intro ls hf hl
    have hf := qa0 hk14_2 hf
    refine lv_iconst (v := 0) hx hb dX6_isRights_14 (by decide) ?_
    exact j15_1 _ _ hf (lv_sub hl [] rfl)
  refine lv_if_lt (tgt := 14) hx hb dX6_isRights_1 (by decide) (fun c_3 => ?_) (fun c_3 => ?_)
  · have hf := ite_t hf c_3
    exact j14_2 _ hf (lv_sub hl [] rfl)
  · have hf := ite_f hf c_3
    refine lv_iload_n hx hb dX6_isRights_4 rfl (lv_at hl 0 rfl) ?_
    refine lv_bipush (v := 15) hx hb dX6_isRights_5 (by decide) ?_
    refine lv_icmp_gt (tgt := 14) hx hb dX6_isRights_7 (by decide) (fun c_4 => ?_) (fun c_4 => ?_)
    · have hf := ite_t hf c_4
      exact j14_2 _ hf (lv_sub hl [] rfl)
    · have hf := ite_f hf c_4
      refine lv_iconst (v := 1) hx hb dX6_isRights_10 (by decide) ?_
      refine lv_goto (tgt := 15) hx hb dX6_isRights_11 (by decide) ?_
      exact j15_1 _ _ hf (lv_sub hl [] rfl)
theorem dX6_isPath_0 : decode cX6_isPath 0 = .ok (.iload_n 0, 1) := by decide +kernel
theorem dX6_isPath_1 : decode cX6_isPath 1 = .ok (.ifCond .lt 14, 3) := by decide +kernel
theorem dX6_isPath_4 : decode cX6_isPath 4 = .ok (.iload_n 0, 1) := by decide +kernel
theorem dX6_isPath_5 : decode cX6_isPath 5 = .ok (.ldc_w 406, 3) := by decide +kernel
theorem dX6_isPath_8 : decode cX6_isPath 8 = .ok (.if_icmp .gt 7, 3) := by decide +kernel
theorem dX6_isPath_11 : decode cX6_isPath 11 = .ok (.iconst 1, 1) := by decide +kernel
theorem dX6_isPath_12 : decode cX6_isPath 12 = .ok (.goto 4, 3) := by decide +kernel
theorem dX6_isPath_15 : decode cX6_isPath 15 = .ok (.iconst 0, 1) := by decide +kernel
theorem dX6_isPath_16 : decode cX6_isPath 16 = .ok (.ireturn, 1) := by decide +kernel
def f_X6_isPath (p0 : Int32) : Option (Int32) := jn (fun (v16_1_0 : Int32) => some (vp_nar .boolean v16_1_0)) (fun k16_1 => jn (k16_1 0) (fun k15_2 => if p0 < 0 then k15_2 else if 99999999 < p0 then k15_2 else k16_1 1))
def rmX6_isPath : Room := { frames := 0, cells := 0, slots := 0, locals := 0 }
set_option maxHeartbeats 4000000 in
set_option maxRecDepth 100000 in
theorem c_X6_isPath (l : Launch) (D : va_G) (cI cZ cJ cT : ClassId) (p0 : Int32) (o : Int32) (hf : f_X6_isPath p0 = some o) : Met l yX6_isPath wsX6_isPath rmX6_isPath (va_Pc [.int p0] (fun _ => True)) (QR o) 0 0 (fun _ => False) := by
  refine Met.ofW (cc := cX6_isPath) (maxL := 1) (ret := (some .boolean)) (by decide) rfl ?_
  intro p e s m args below meth c s₁ B hml hv
  obtain ⟨hav, -⟩ := hv
  have hx := B.exec
  have hb := B.bytes
  have hr := B.returns
  have hlocks := B.notSynchronized
  have hts := atoms_spec (ws := wsX6_isPath) B.pre
  have hown : s.vm.findClass RX6 = some m.cls := findClass_of_methodNamed B.named
  refine Wq (fun Q hQ => ?_)
  refine W_entry hav (Nat.le_of_ble_eq_true rfl) (fun ls hl => ?_)
  have hl : lv_has ls 1 [(0, .int p0)] := hl
  unfold f_X6_isPath at hf
  refine lv_iload_n hx hb dX6_isPath_0 rfl (lv_at hl 0 rfl) ?_
  obtain ⟨k16_1, hk16_1, hf⟩ := jn_some hf
  have j16_1 : ∀ (v16_1_0 : Int32) (ls : Array Slot), k16_1 v16_1_0 = some o → lv_has ls 1 [] → W p l e (headSpec wsX6_isPath rmX6_isPath).room s m args below meth c s.heap [] 0 0 Q (F0 m 16 ls [.int v16_1_0]) := by
    intro v16_1_0 ls hf hl
    have hf := qa1 hk16_1 hf
    rw [hQ]
    exact zretN (v := v16_1_0) (v' := vp_nar .boolean v16_1_0) hx hb hr rfl (fun t ht hW => ⟨_, rfl, Option.some.inj hf, ht⟩) (fun _ h => nomatch h) dX6_isPath_16 hlocks
  obtain ⟨k15_2, hk15_2, hf⟩ := jn_some hf
  have j15_2 : ∀ (ls : Array Slot), k15_2 = some o → lv_has ls 1 [] → W p l e (headSpec wsX6_isPath rmX6_isPath).room s m args below meth c s.heap [] 0 0 Q (F0 m 15 ls []) := by
    intro ls hf hl
    have hf := qa0 hk15_2 hf
    refine lv_iconst (v := 0) hx hb dX6_isPath_15 (by decide) ?_
    exact j16_1 _ _ hf (lv_sub hl [] rfl)
  refine lv_if_lt (tgt := 15) hx hb dX6_isPath_1 (by decide) (fun c_3 => ?_) (fun c_3 => ?_)
  · have hf := ite_t hf c_3
    exact j15_2 _ hf (lv_sub hl [] rfl)
  · have hf := ite_f hf c_3
    refine lv_iload_n hx hb dX6_isPath_4 rfl (lv_at hl 0 rfl) ?_
    refine lv_ldcw hx hb hown (hts (.constant RX6 406 (99999999)) (by decide +kernel)) dX6_isPath_5 ?_
    refine lv_icmp_gt (tgt := 15) hx hb dX6_isPath_8 (by decide) (fun c_4 => ?_) (fun c_4 => ?_)
    · have hf := ite_t hf c_4
      exact j15_2 _ hf (lv_sub hl [] rfl)
    · have hf := ite_f hf c_4
      refine lv_iconst (v := 1) hx hb dX6_isPath_11 (by decide) ?_
      refine lv_goto (tgt := 16) hx hb dX6_isPath_12 (by decide) ?_
      exact j16_1 _ _ hf (lv_sub hl [] rfl)
set_option maxRecDepth 20000 in
theorem ggX6_folderAhead_X4_isOfKind : GoodIn wsX6_folderAhead wsX4_isOfKind := goodIn_r _ [41, 42, 43, 44, 45, 21, 46, 47, 48, 49, 69, 70, 71, 72, 73, 74, 75, 76, 77, 78, 79, 80] (by decide +kernel) (by decide +kernel)
set_option maxRecDepth 20000 in
theorem gX6_folderAhead_X4_isOfKind : GoodIn wsX6_folderAhead (wsV RX6 103 RX4 yX4_isOfKind wsX4_isOfKind) := goodIn_app (goodIn_of _ (by decide +kernel)) ggX6_folderAhead_X4_isOfKind
set_option maxRecDepth 20000 in
theorem ggX6_folderAhead_X5_thingAt : GoodIn wsX6_folderAhead wsX5_thingAt := goodIn_r _ [7, 8, 9, 10, 11, 6, 12, 13, 14, 15, 16, 17, 18, 19, 20, 21, 22, 23, 24, 25, 26, 27, 28, 29, 30, 31, 32, 33, 34, 35, 36, 37, 38, 39, 40, 41, 42, 43, 44, 45, 46, 47, 48, 49, 50, 51, 52, 53, 54, 67, 68, 69, 70, 71, 72, 73, 74, 75, 76, 77, 78, 79, 80] (by decide +kernel) (by decide +kernel)
set_option maxRecDepth 20000 in
theorem gX6_folderAhead_X5_thingAt : GoodIn wsX6_folderAhead (wsV RX6 93 RX5 yX5_thingAt wsX5_thingAt) := goodIn_app (goodIn_of _ (by decide +kernel)) ggX6_folderAhead_X5_thingAt
theorem dX6_folderAhead_0 : decode cX6_folderAhead 0 = .ok (.aload_n 0, 1) := by decide +kernel
theorem dX6_folderAhead_1 : decode cX6_folderAhead 1 = .ok (.getfield 30, 3) := by decide +kernel
theorem dX6_folderAhead_4 : decode cX6_folderAhead 4 = .ok (.aload_n 0, 1) := by decide +kernel
theorem dX6_folderAhead_5 : decode cX6_folderAhead 5 = .ok (.getfield 12, 3) := by decide +kernel
theorem dX6_folderAhead_8 : decode cX6_folderAhead 8 = .ok (.iload_n 1, 1) := by decide +kernel
theorem dX6_folderAhead_9 : decode cX6_folderAhead 9 = .ok (.bipush 100, 2) := by decide +kernel
theorem dX6_folderAhead_11 : decode cX6_folderAhead 11 = .ok (.idiv, 1) := by decide +kernel
theorem dX6_folderAhead_12 : decode cX6_folderAhead 12 = .ok (.iconst 1, 1) := by decide +kernel
theorem dX6_folderAhead_13 : decode cX6_folderAhead 13 = .ok (.invokevirtual 93, 3) := by decide +kernel
theorem dX6_folderAhead_16 : decode cX6_folderAhead 16 = .ok (.istore_n 2, 1) := by decide +kernel
theorem dX6_folderAhead_17 : decode cX6_folderAhead 17 = .ok (.aload_n 0, 1) := by decide +kernel
theorem dX6_folderAhead_18 : decode cX6_folderAhead 18 = .ok (.getfield 12, 3) := by decide +kernel
theorem dX6_folderAhead_21 : decode cX6_folderAhead 21 = .ok (.iload_n 2, 1) := by decide +kernel
theorem dX6_folderAhead_22 : decode cX6_folderAhead 22 = .ok (.iconst 1, 1) := by decide +kernel
theorem dX6_folderAhead_23 : decode cX6_folderAhead 23 = .ok (.invokevirtual 103, 3) := by decide +kernel
theorem dX6_folderAhead_26 : decode cX6_folderAhead 26 = .ok (.ifCond .eq 7, 3) := by decide +kernel
theorem dX6_folderAhead_29 : decode cX6_folderAhead 29 = .ok (.iload_n 2, 1) := by decide +kernel
theorem dX6_folderAhead_30 : decode cX6_folderAhead 30 = .ok (.goto 4, 3) := by decide +kernel
theorem dX6_folderAhead_33 : decode cX6_folderAhead 33 = .ok (.iconst (-1), 1) := by decide +kernel
theorem dX6_folderAhead_34 : decode cX6_folderAhead 34 = .ok (.ireturn, 1) := by decide +kernel
def f_X6_folderAhead (U : S2) (p1 : Int32) : Option (Int32 × S2) := bn (f_X5_thingAt (U 6) (U 1) (p1 / 100) 1) (fun z_1 => bv (upc U 6 z_1.2) (fun u_2 => bn (f_X4_isOfKind (u_2 1) z_1.1 1) (fun z_3 => jn (fun (v34_4_0 : Int32) => some (v34_4_0, u_2)) (fun k34_4 => if z_3 = 0 then k34_4 (-1) else k34_4 z_1.1))))
def rmX6_folderAhead : Room := { frames := 4, cells := 0, slots := 0, locals := 93 }
set_option maxHeartbeats 4000000 in
set_option maxRecDepth 100000 in
theorem c_X6_folderAhead (l : Launch) (D : va_G) (cI cZ cJ cT : ClassId) (a : Nat → Nat → Nat) (sz : Nat) (U : S2) (p1 : Int32) (o : Int32 × S2) (hf : f_X6_folderAhead U p1 = some o) : Met l yX6_folderAhead wsX6_folderAhead rmX6_folderAhead (va_Pc [.ref (a 0 0), .int p1] (PW D cls (tys cI cZ cJ cT) (wI cI cZ cT a U) sz)) (QWi D cls o.1 (wI cI cZ cT a o.2) (va_A (wI cI cZ cT a U) sz)) 0 0 (va_A (wI cI cZ cT a U) sz) := by
  refine Met.ofW (cc := cX6_folderAhead) (maxL := 3) (ret := (some .int)) (by decide) rfl ?_
  intro p e s m args below meth c s₁ B hml hv
  obtain ⟨hav, hsz, hP, hK, hD0⟩ := hv
  have hx := B.exec
  have hb := B.bytes
  have hr := B.returns
  have hlocks := B.notSynchronized
  have hts := atoms_spec (ws := wsX6_folderAhead) B.pre
  have hown : s.vm.findClass RX6 = some m.cls := findClass_of_methodNamed B.named
  have i6 : ∀ w ∈ wsX60, w ∈ wsX6_folderAhead := fun w h => List.mem_cons_of_mem _ (List.mem_append_left _ (List.mem_append_left _ (List.mem_append_right _ h)))
  have hk12 := hts (.fieldLink RX6 12 "Inodery" "now" "LInodery$Tree;") (by decide +kernel)
  have hk30 := hts (.fieldLink RX6 30 "Inodery" "walk" "LInodery$Walk;") (by decide +kernel)
  subst hsz
  have hD := hD0.self (sz := s.heap.size)
  generalize hAe : va_A (wI cI cZ cT a U) s.heap.size = A at hD ⊢
  have hA : ∀ q : Nat, s.heap.size ≤ q → A q := fun q h => by rw [← hAe]; exact Or.inr h
  have hS : va_S A s.heap s.heap [] := va_S.rf
  have hDD : ∀ V : S2, va_D A (wI cI cZ cT a V) := fun _ => D_same (w := (wI cI cZ cT a U)) rfl hD
  refine Wq (fun Q hQ => ?_)
  refine W_entry hav (Nat.le_of_ble_eq_true rfl) (fun ls hl => ?_)
  have hl : lv_has ls 3 [(0, .ref (a 0 0)), (1, .int p1)] := hl
  unfold f_X6_folderAhead at hf
  refine W_heap hP hS (fun H locs hP hS => ?_)
  refine lv_aload_n hx hb dX6_folderAhead_0 rfl (lv_at hl 0 rfl) ?_
  refine va_get (D := D) (ci := 6) (v := .ref (a 6 0)) (C := RX6) (T := TX6) (N := 11) hx hb hts i6 hown hK (fl_sub hP 0 rfl) 0 rfl rfl 4 (by decide) hk30 (fun _ h9 => h9) rfl dX6_folderAhead_1 ?_
  refine lv_aload_n hx hb dX6_folderAhead_4 rfl (lv_at hl 0 rfl) ?_
  refine va_get (D := D) (ci := 6) (v := .ref (a 1 0)) (C := RX6) (T := TX6) (N := 11) hx hb hts i6 hown hK (fl_sub hP 0 rfl) 0 rfl rfl 0 (by decide) hk12 (fun _ h9 => h9) rfl dX6_folderAhead_5 ?_
  refine lv_iload_n hx hb dX6_folderAhead_8 rfl (lv_at hl 1 rfl) ?_
  refine lv_bipush (v := 100) hx hb dX6_folderAhead_9 (by decide) ?_
  refine lv_idiv hx hb dX6_folderAhead_11 (by decide) ?_
  refine lv_iconst (v := 1) hx hb dX6_folderAhead_12 (by decide) ?_
  obtain ⟨z_1, hz_1, hf⟩ := bn_some hf
  refine cWVi (As := [.ref (a 1 0), .int (p1 / 100), .int 1]) (rest := []) ⟨hx, hb, hml, hown, hts⟩ (c_X5_thingAt l D cI cZ cJ cT (a 6) (a 1) H.size (U 6) (U 1) (p1 / 100) 1 z_1 hz_1) (cwV 3 hts gX6_folderAhead_X5_thingAt rfl rfl rfl (by decide +kernel) ⟨Nat.le_of_ble_eq_true rfl, Nat.le_of_ble_eq_true rfl⟩) (fl_subM hP [6, 1] rfl) hK (fl_subDM (hDD U) [6, 1] rfl rfl) hS (own_free (fl_subDM (hDD U) [6, 1] rfl rfl) hS hA) (va_recv hK (fl_sub hP 6 rfl) (ci := 5) (q0 := 0) rfl rfl) rfl rfl hl.1 (Nat.le_of_ble_eq_true rfl) dX6_folderAhead_13 ⟨Nat.le_of_ble_eq_true rfl, Nat.le_of_ble_eq_true rfl⟩ (fun H1 locs hP1 hk1 hS => ?_)
  obtain ⟨u_2, hu_2, hf⟩ := bv_some hf
  have hP : va_P D cls (wI cI cZ cT a u_2) H1 := by rw [hu_2]; exact fl_joinM hP (hDD U) [6, 1] rfl rfl hk1 hP1
  clear hP1 hk1
  generalize H1 = H at hP hS ⊢
  refine lv_istore_n (lv' := [(2, .int z_1.1), (0, .ref (a 0 0)), (1, .int p1)]) hx hb dX6_folderAhead_16 rfl hl (by decide) rfl (fun ls hl => ?_)
  refine lv_aload_n hx hb dX6_folderAhead_17 rfl (lv_at hl 1 rfl) ?_
  refine va_get (D := D) (ci := 6) (v := .ref (a 1 0)) (C := RX6) (T := TX6) (N := 11) hx hb hts i6 hown hK (fl_sub hP 0 rfl) 0 rfl rfl 0 (by decide) hk12 (fun _ h9 => h9) rfl dX6_folderAhead_18 ?_
  refine lv_iload_n hx hb dX6_folderAhead_21 rfl (lv_at hl 0 rfl) ?_
  refine lv_iconst (v := 1) hx hb dX6_folderAhead_22 (by decide) ?_
  obtain ⟨z_3, hz_3, hf⟩ := bn_some hf
  refine cRV (As := [.int z_1.1, .int 1]) (rest := []) ⟨hx, hb, hml, hown, hts⟩ (c_X4_isOfKind l D cI cZ cJ cT (a 1) (u_2 1) z_1.1 1 z_3 hz_3) (cwV 2 hts gX6_folderAhead_X4_isOfKind rfl rfl rfl (by decide +kernel) ⟨Nat.le_of_ble_eq_true rfl, Nat.le_of_ble_eq_true rfl⟩) (fl_sub hP 1 rfl) hK (va_recv hK (fl_sub hP 1 rfl) (ci := 4) (q0 := 0) rfl rfl) rfl rfl hl.1 (Nat.le_of_ble_eq_true rfl) dX6_folderAhead_23 ⟨Nat.le_of_ble_eq_true rfl, Nat.le_of_ble_eq_true rfl⟩ ?_
  obtain ⟨k34_4, hk34_4, hf⟩ := jn_some hf
  have j34_4 : ∀ (v34_4_0 : Int32) (H : Heap) (locs : List Loc) (ls : Array Slot), k34_4 v34_4_0 = some o → va_P D cls (wI cI cZ cT a u_2) H → va_S A s.heap H locs → lv_has ls 3 [] → W p l e (headSpec wsX6_folderAhead rmX6_folderAhead).room s m args below meth c H locs 0 0 Q (F0 m 34 ls [.int v34_4_0]) := by
    intro v34_4_0 H locs ls hf hP hS hl
    have hf := qa1 hk34_4 hf
    have eo := Option.some.inj hf
    have hP : va_P D cls (wI cI cZ cT a o.2) H := by rw [← eo]; exact hP
    rw [hQ]
    exact W.iret hx hb hr (fun t ht hW => ⟨⟨_, (), rfl, (by rw [← eo]), P_at ht hP⟩, hS.F ht⟩) hS.2.2 dX6_folderAhead_34 hlocks
  refine lv_if_eq (tgt := 33) hx hb dX6_folderAhead_26 (by decide) (fun c_5 => ?_) (fun c_5 => ?_)
  · have hf := ite_t hf c_5
    refine lv_iconst (v := (-1)) hx hb dX6_folderAhead_33 (by decide) ?_
    exact j34_4 _ _ _ _ hf hP hS (lv_sub hl [] rfl)
  · have hf := ite_f hf c_5
    refine lv_iload_n hx hb dX6_folderAhead_29 rfl (lv_at hl 0 rfl) ?_
    refine lv_goto (tgt := 34) hx hb dX6_folderAhead_30 (by decide) ?_
    exact j34_4 _ _ _ _ hf hP hS (lv_sub hl [] rfl)
set_option maxRecDepth 20000 in
theorem ggX6_may_X4_ownerOf : GoodIn wsX6_may wsX4_ownerOf := goodIn_r _ [7, 8, 9, 10, 6, 11, 28, 29, 30, 31, 32, 33, 34, 35, 36, 37, 38, 39] (by decide +kernel) (by decide +kernel)
set_option maxRecDepth 20000 in
theorem gX6_may_X4_ownerOf : GoodIn wsX6_may (wsV RX6 167 RX4 yX4_ownerOf wsX4_ownerOf) := goodIn_app (goodIn_of _ (by decide +kernel)) ggX6_may_X4_ownerOf
set_option maxRecDepth 20000 in
theorem ggX6_may_X4_rightsOf : GoodIn wsX6_may wsX4_rightsOf := goodIn_r _ [15, 16, 9, 10, 6, 11, 28, 29, 30, 31, 32, 33, 34, 35, 36, 37, 38, 39] (by decide +kernel) (by decide +kernel)
set_option maxRecDepth 20000 in
theorem gX6_may_X4_rightsOf : GoodIn wsX6_may (wsV RX6 172 RX4 yX4_rightsOf wsX4_rightsOf) := goodIn_app (goodIn_of _ (by decide +kernel)) ggX6_may_X4_rightsOf
theorem dX6_may_0 : decode cX6_may 0 = .ok (.aload_n 0, 1) := by decide +kernel
theorem dX6_may_1 : decode cX6_may 1 = .ok (.getfield 66, 3) := by decide +kernel
theorem dX6_may_4 : decode cX6_may 4 = .ok (.aload_n 0, 1) := by decide +kernel
theorem dX6_may_5 : decode cX6_may 5 = .ok (.getfield 12, 3) := by decide +kernel
theorem dX6_may_8 : decode cX6_may 8 = .ok (.iload_n 1, 1) := by decide +kernel
theorem dX6_may_9 : decode cX6_may 9 = .ok (.invokevirtual 167, 3) := by decide +kernel
theorem dX6_may_12 : decode cX6_may 12 = .ok (.if_icmp .ne 7, 3) := by decide +kernel
theorem dX6_may_15 : decode cX6_may 15 = .ok (.iload_n 2, 1) := by decide +kernel
theorem dX6_may_16 : decode cX6_may 16 = .ok (.goto 4, 3) := by decide +kernel
theorem dX6_may_19 : decode cX6_may 19 = .ok (.iload_n 3, 1) := by decide +kernel
theorem dX6_may_20 : decode cX6_may 20 = .ok (.istore 4, 2) := by decide +kernel
theorem dX6_may_22 : decode cX6_may 22 = .ok (.aload_n 0, 1) := by decide +kernel
theorem dX6_may_23 : decode cX6_may 23 = .ok (.getfield 66, 3) := by decide +kernel
theorem dX6_may_26 : decode cX6_may 26 = .ok (.ifCond .eq 17, 3) := by decide +kernel
theorem dX6_may_29 : decode cX6_may 29 = .ok (.aload_n 0, 1) := by decide +kernel
theorem dX6_may_30 : decode cX6_may 30 = .ok (.getfield 12, 3) := by decide +kernel
theorem dX6_may_33 : decode cX6_may 33 = .ok (.iload_n 1, 1) := by decide +kernel
theorem dX6_may_34 : decode cX6_may 34 = .ok (.invokevirtual 172, 3) := by decide +kernel
theorem dX6_may_37 : decode cX6_may 37 = .ok (.iload 4, 2) := by decide +kernel
theorem dX6_may_39 : decode cX6_may 39 = .ok (.iand, 1) := by decide +kernel
theorem dX6_may_40 : decode cX6_may 40 = .ok (.ifCond .eq 7, 3) := by decide +kernel
theorem dX6_may_43 : decode cX6_may 43 = .ok (.iconst 1, 1) := by decide +kernel
theorem dX6_may_44 : decode cX6_may 44 = .ok (.goto 4, 3) := by decide +kernel
theorem dX6_may_47 : decode cX6_may 47 = .ok (.iconst 0, 1) := by decide +kernel
theorem dX6_may_48 : decode cX6_may 48 = .ok (.ireturn, 1) := by decide +kernel
def f_X6_may (U : S2) (p1 : Int32) (p2 : Int32) (p3 : Int32) : Option (Int32) := bn (f_X4_ownerOf (U 1) p1) (fun z_1 => jn (fun (v20_2_0 : Int32) => jn (fun (v48_3_0 : Int32) => some (vp_nar .boolean v48_3_0)) (fun k48_3 => jn (k48_3 1) (fun k43_4 => if (U 0 10 0) = 0 then k43_4 else bn (f_X4_rightsOf (U 1) p1) (fun z_6 => if (z_6 &&& v20_2_0) = 0 then k48_3 0 else k43_4)))) (fun k20_2 => if (U 0 10 0) = z_1 then k20_2 p2 else k20_2 p3))
def rmX6_may : Room := { frames := 2, cells := 0, slots := 0, locals := 41 }
set_option maxHeartbeats 4000000 in
set_option maxRecDepth 100000 in
theorem c_X6_may (l : Launch) (D : va_G) (cI cZ cJ cT : ClassId) (a : Nat → Nat → Nat) (U : S2) (p1 : Int32) (p2 : Int32) (p3 : Int32) (o : Int32) (hf : f_X6_may U p1 p2 p3 = some o) : Met l yX6_may wsX6_may rmX6_may (va_Pc [.ref (a 0 0), .int p1, .int p2, .int p3] (PR D cls (tys cI cZ cJ cT) (wI cI cZ cT a U))) (QR o) 0 0 (fun _ => False) := by
  refine Met.ofW (cc := cX6_may) (maxL := 5) (ret := (some .boolean)) (by decide) rfl ?_
  intro p e s m args below meth c s₁ B hml hv
  obtain ⟨hav, hP, hK⟩ := hv
  have hx := B.exec
  have hb := B.bytes
  have hr := B.returns
  have hlocks := B.notSynchronized
  have hts := atoms_spec (ws := wsX6_may) B.pre
  have hown : s.vm.findClass RX6 = some m.cls := findClass_of_methodNamed B.named
  have i6 : ∀ w ∈ wsX60, w ∈ wsX6_may := fun w h => List.mem_cons_of_mem _ (List.mem_append_left _ (List.mem_append_right _ h))
  have hk12 := hts (.fieldLink RX6 12 "Inodery" "now" "LInodery$Tree;") (by decide +kernel)
  have hk66 := hts (.fieldLink RX6 66 "Inodery" "userOfNow" "I") (by decide +kernel)
  refine Wq (fun Q hQ => ?_)
  refine W_entry hav (Nat.le_of_ble_eq_true rfl) (fun ls hl => ?_)
  have hl : lv_has ls 5 [(0, .ref (a 0 0)), (1, .int p1), (2, .int p2), (3, .int p3)] := hl
  unfold f_X6_may at hf
  refine lv_aload_n hx hb dX6_may_0 rfl (lv_at hl 0 rfl) ?_
  refine va_get (D := D) (ci := 6) (v := .int (U 0 10 0)) (C := RX6) (T := TX6) (N := 11) hx hb hts i6 hown hK (fl_sub hP 0 rfl) 0 rfl rfl 10 (by decide) hk66 (fun _ h9 => h9) rfl dX6_may_1 ?_
  refine lv_aload_n hx hb dX6_may_4 rfl (lv_at hl 0 rfl) ?_
  refine va_get (D := D) (ci := 6) (v := .ref (a 1 0)) (C := RX6) (T := TX6) (N := 11) hx hb hts i6 hown hK (fl_sub hP 0 rfl) 0 rfl rfl 0 (by decide) hk12 (fun _ h9 => h9) rfl dX6_may_5 ?_
  refine lv_iload_n hx hb dX6_may_8 rfl (lv_at hl 1 rfl) ?_
  obtain ⟨z_1, hz_1, hf⟩ := bn_some hf
  refine cRV (As := [.int p1]) (rest := [.int (U 0 10 0)]) ⟨hx, hb, hml, hown, hts⟩ (c_X4_ownerOf l D cI cZ cJ cT (a 1) (U 1) p1 z_1 hz_1) (cwV 1 hts gX6_may_X4_ownerOf rfl rfl rfl (by decide +kernel) ⟨Nat.le_of_ble_eq_true rfl, Nat.le_of_ble_eq_true rfl⟩) (fl_sub hP 1 rfl) hK (va_recv hK (fl_sub hP 1 rfl) (ci := 4) (q0 := 0) rfl rfl) rfl rfl hl.1 (Nat.le_of_ble_eq_true rfl) dX6_may_9 ⟨Nat.le_of_ble_eq_true rfl, Nat.le_of_ble_eq_true rfl⟩ ?_
  obtain ⟨k20_2, hk20_2, hf⟩ := jn_some hf
  have j20_2 : ∀ (v20_2_0 : Int32) (ls : Array Slot), k20_2 v20_2_0 = some o → lv_has ls 5 [(0, .ref (a 0 0)), (1, .int p1)] → W p l e (headSpec wsX6_may rmX6_may).room s m args below meth c s.heap [] 0 0 Q (F0 m 20 ls [.int v20_2_0]) := by
    intro v20_2_0 ls hf hl
    have hf := qa1 hk20_2 hf
    refine lv_istore (lv' := [(4, .int v20_2_0), (0, .ref (a 0 0)), (1, .int p1)]) hx hb dX6_may_20 hl (by decide) rfl (fun ls hl => ?_)
    refine lv_aload_n hx hb dX6_may_22 rfl (lv_at hl 1 rfl) ?_
    refine va_get (D := D) (ci := 6) (v := .int (U 0 10 0)) (C := RX6) (T := TX6) (N := 11) hx hb hts i6 hown hK (fl_sub hP 0 rfl) 0 rfl rfl 10 (by decide) hk66 (fun _ h9 => h9) rfl dX6_may_23 ?_
    obtain ⟨k48_3, hk48_3, hf⟩ := jn_some hf
    have j48_3 : ∀ (v48_3_0 : Int32) (ls : Array Slot), k48_3 v48_3_0 = some o → lv_has ls 5 [] → W p l e (headSpec wsX6_may rmX6_may).room s m args below meth c s.heap [] 0 0 Q (F0 m 48 ls [.int v48_3_0]) := by
      intro v48_3_0 ls hf hl
      have hf := qa1 hk48_3 hf
      rw [hQ]
      exact zretN (v := v48_3_0) (v' := vp_nar .boolean v48_3_0) hx hb hr rfl (fun t ht hW => ⟨_, rfl, Option.some.inj hf, ht⟩) (fun _ h => nomatch h) dX6_may_48 hlocks
    obtain ⟨k43_4, hk43_4, hf⟩ := jn_some hf
    have j43_4 : ∀ (ls : Array Slot), k43_4 = some o → lv_has ls 5 [] → W p l e (headSpec wsX6_may rmX6_may).room s m args below meth c s.heap [] 0 0 Q (F0 m 43 ls []) := by
      intro ls hf hl
      have hf := qa0 hk43_4 hf
      refine lv_iconst (v := 1) hx hb dX6_may_43 (by decide) ?_
      refine lv_goto (tgt := 48) hx hb dX6_may_44 (by decide) ?_
      exact j48_3 _ _ hf (lv_sub hl [] rfl)
    refine lv_if_eq (tgt := 43) hx hb dX6_may_26 (by decide) (fun c_5 => ?_) (fun c_5 => ?_)
    · have hf := ite_t hf c_5
      exact j43_4 _ hf (lv_sub hl [] rfl)
    · have hf := ite_f hf c_5
      refine lv_aload_n hx hb dX6_may_29 rfl (lv_at hl 1 rfl) ?_
      refine va_get (D := D) (ci := 6) (v := .ref (a 1 0)) (C := RX6) (T := TX6) (N := 11) hx hb hts i6 hown hK (fl_sub hP 0 rfl) 0 rfl rfl 0 (by decide) hk12 (fun _ h9 => h9) rfl dX6_may_30 ?_
      refine lv_iload_n hx hb dX6_may_33 rfl (lv_at hl 2 rfl) ?_
      obtain ⟨z_6, hz_6, hf⟩ := bn_some hf
      refine cRV (As := [.int p1]) (rest := []) ⟨hx, hb, hml, hown, hts⟩ (c_X4_rightsOf l D cI cZ cJ cT (a 1) (U 1) p1 z_6 hz_6) (cwV 1 hts gX6_may_X4_rightsOf rfl rfl rfl (by decide +kernel) ⟨Nat.le_of_ble_eq_true rfl, Nat.le_of_ble_eq_true rfl⟩) (fl_sub hP 1 rfl) hK (va_recv hK (fl_sub hP 1 rfl) (ci := 4) (q0 := 0) rfl rfl) rfl rfl hl.1 (Nat.le_of_ble_eq_true rfl) dX6_may_34 ⟨Nat.le_of_ble_eq_true rfl, Nat.le_of_ble_eq_true rfl⟩ ?_
      refine lv_iload hx hb dX6_may_37 (lv_at hl 0 rfl) ?_
      refine lv_iand hx hb dX6_may_39 ?_
      refine lv_if_eq (tgt := 47) hx hb dX6_may_40 (by decide) (fun c_7 => ?_) (fun c_7 => ?_)
      · have hf := ite_t hf c_7
        refine lv_iconst (v := 0) hx hb dX6_may_47 (by decide) ?_
        exact j48_3 _ _ hf (lv_sub hl [] rfl)
      · have hf := ite_f hf c_7
        exact j43_4 _ hf (lv_sub hl [] rfl)
  refine lv_icmp_ne (tgt := 19) hx hb dX6_may_12 (by decide) (fun c_8 => ?_) (fun c_8 => ?_)
  · have hf := ite_f hf c_8
    refine lv_iload_n hx hb dX6_may_19 rfl (lv_at hl 3 rfl) ?_
    exact j20_2 _ _ hf (lv_sub hl [0, 1] rfl)
  · have hf := ite_t hf c_8
    refine lv_iload_n hx hb dX6_may_15 rfl (lv_at hl 2 rfl) ?_
    refine lv_goto (tgt := 20) hx hb dX6_may_16 (by decide) ?_
    exact j20_2 _ _ hf (lv_sub hl [0, 1] rfl)
set_option maxRecDepth 20000 in
theorem ggX6_mayWrite_X6_may : GoodIn wsX6_mayWrite wsX6_may := goodIn_r _ [5, 6, 7, 8, 9, 10, 11, 12, 13, 14, 15, 16, 17, 18, 19, 20, 21, 22, 23, 24, 25, 26, 27, 28, 29, 30, 31, 32, 33, 34, 35, 36, 37, 38, 39, 40, 41, 42, 43, 44] (by decide +kernel) (by decide +kernel)
set_option maxRecDepth 20000 in
theorem gX6_mayWrite_X6_may : GoodIn wsX6_mayWrite (wsV RX6 429 RX6 yX6_may wsX6_may) := goodIn_app (goodIn_of _ (by decide +kernel)) ggX6_mayWrite_X6_may
theorem dX6_mayWrite_0 : decode cX6_mayWrite 0 = .ok (.aload_n 0, 1) := by decide +kernel
theorem dX6_mayWrite_1 : decode cX6_mayWrite 1 = .ok (.iload_n 1, 1) := by decide +kernel
theorem dX6_mayWrite_2 : decode cX6_mayWrite 2 = .ok (.iconst 4, 1) := by decide +kernel
theorem dX6_mayWrite_3 : decode cX6_mayWrite 3 = .ok (.iconst 1, 1) := by decide +kernel
theorem dX6_mayWrite_4 : decode cX6_mayWrite 4 = .ok (.invokevirtual 429, 3) := by decide +kernel
theorem dX6_mayWrite_7 : decode cX6_mayWrite 7 = .ok (.ireturn, 1) := by decide +kernel
def f_X6_mayWrite (U : S2) (p1 : Int32) : Option (Int32) := bn (f_X6_may U p1 4 1) (fun z_1 => some (vp_nar .boolean z_1))
def rmX6_mayWrite : Room := { frames := 3, cells := 0, slots := 0, locals := 65 }
set_option maxHeartbeats 4000000 in
set_option maxRecDepth 100000 in
theorem c_X6_mayWrite (l : Launch) (D : va_G) (cI cZ cJ cT : ClassId) (a : Nat → Nat → Nat) (U : S2) (p1 : Int32) (o : Int32) (hf : f_X6_mayWrite U p1 = some o) : Met l yX6_mayWrite wsX6_mayWrite rmX6_mayWrite (va_Pc [.ref (a 0 0), .int p1] (PR D cls (tys cI cZ cJ cT) (wI cI cZ cT a U))) (QR o) 0 0 (fun _ => False) := by
  refine Met.ofW (cc := cX6_mayWrite) (maxL := 2) (ret := (some .boolean)) (by decide) rfl ?_
  intro p e s m args below meth c s₁ B hml hv
  obtain ⟨hav, hP, hK⟩ := hv
  have hx := B.exec
  have hb := B.bytes
  have hr := B.returns
  have hlocks := B.notSynchronized
  have hts := atoms_spec (ws := wsX6_mayWrite) B.pre
  have hown : s.vm.findClass RX6 = some m.cls := findClass_of_methodNamed B.named
  refine Wq (fun Q hQ => ?_)
  refine W_entry hav (Nat.le_of_ble_eq_true rfl) (fun ls hl => ?_)
  have hl : lv_has ls 2 [(0, .ref (a 0 0)), (1, .int p1)] := hl
  unfold f_X6_mayWrite at hf
  refine lv_aload_n hx hb dX6_mayWrite_0 rfl (lv_at hl 0 rfl) ?_
  refine lv_iload_n hx hb dX6_mayWrite_1 rfl (lv_at hl 1 rfl) ?_
  refine lv_iconst (v := 4) hx hb dX6_mayWrite_2 (by decide) ?_
  refine lv_iconst (v := 1) hx hb dX6_mayWrite_3 (by decide) ?_
  obtain ⟨z_1, hz_1, hf⟩ := bn_some hf
  refine cRV (As := [.int p1, .int 4, .int 1]) (rest := []) ⟨hx, hb, hml, hown, hts⟩ (c_X6_may l D cI cZ cJ cT a U p1 4 1 z_1 hz_1) (cwV 3 hts gX6_mayWrite_X6_may rfl rfl rfl (by decide +kernel) ⟨Nat.le_of_ble_eq_true rfl, Nat.le_of_ble_eq_true rfl⟩) hP hK (va_recv hK (fl_sub hP 0 rfl) (ci := 6) (q0 := 0) rfl rfl) rfl rfl hl.1 (Nat.le_of_ble_eq_true rfl) dX6_mayWrite_4 ⟨Nat.le_of_ble_eq_true rfl, Nat.le_of_ble_eq_true rfl⟩ ?_
  rw [hQ]
  exact zretN (v := z_1) (v' := vp_nar .boolean z_1) hx hb hr rfl (fun t ht hW => ⟨_, rfl, Option.some.inj hf, ht⟩) (fun _ h => nomatch h) dX6_mayWrite_7 hlocks
set_option maxRecDepth 20000 in
theorem ggX6_canTakeNewName_X4_sizeOf : GoodIn wsX6_canTakeNewName wsX4_sizeOf := goodIn_r _ [25, 16, 26, 27, 5, 28, 60, 61, 62, 63, 64, 65, 66, 67, 68, 69, 70, 71] (by decide +kernel) (by decide +kernel)
set_option maxRecDepth 20000 in
theorem gX6_canTakeNewName_X4_sizeOf : GoodIn wsX6_canTakeNewName (wsV RX6 154 RX4 yX4_sizeOf wsX4_sizeOf) := goodIn_app (goodIn_of _ (by decide +kernel)) ggX6_canTakeNewName_X4_sizeOf
set_option maxRecDepth 20000 in
theorem ggX6_canTakeNewName_X4_thingNamed : GoodIn wsX6_canTakeNewName wsX4_thingNamed := goodIn_r _ [6, 7, 8, 9, 5, 10, 11, 12, 13, 14, 15, 16, 17, 18, 19, 20, 21, 60, 61, 62, 63, 64, 65, 66, 67, 68, 69, 70, 71] (by decide +kernel) (by decide +kernel)
set_option maxRecDepth 20000 in
theorem gX6_canTakeNewName_X4_thingNamed : GoodIn wsX6_canTakeNewName (wsV RX6 128 RX4 yX4_thingNamed wsX4_thingNamed) := goodIn_app (goodIn_of _ (by decide +kernel)) ggX6_canTakeNewName_X4_thingNamed
set_option maxRecDepth 20000 in
theorem ggX6_canTakeNewName_X6_mayWrite : GoodIn wsX6_canTakeNewName wsX6_mayWrite := goodIn_r _ [33, 34, 35, 36, 32, 37, 38, 1, 39, 40, 41, 5, 42, 43, 26, 27, 28, 44, 45, 46, 47, 48, 49, 50, 51, 52, 53, 54, 55, 56, 57, 58, 59, 60, 61, 62, 63, 64, 65, 66, 67, 68, 69, 70, 71] (by decide +kernel) (by decide +kernel)
set_option maxRecDepth 20000 in
theorem gX6_canTakeNewName_X6_mayWrite : GoodIn wsX6_canTakeNewName (wsV RX6 139 RX6 yX6_mayWrite wsX6_mayWrite) := goodIn_app (goodIn_of _ (by decide +kernel)) ggX6_canTakeNewName_X6_mayWrite
theorem dX6_canTakeNewName_0 : decode cX6_canTakeNewName 0 = .ok (.aload_n 0, 1) := by decide +kernel
theorem dX6_canTakeNewName_1 : decode cX6_canTakeNewName 1 = .ok (.getfield 12, 3) := by decide +kernel
theorem dX6_canTakeNewName_4 : decode cX6_canTakeNewName 4 = .ok (.iload_n 1, 1) := by decide +kernel
theorem dX6_canTakeNewName_5 : decode cX6_canTakeNewName 5 = .ok (.iload_n 2, 1) := by decide +kernel
theorem dX6_canTakeNewName_6 : decode cX6_canTakeNewName 6 = .ok (.invokevirtual 128, 3) := by decide +kernel
theorem dX6_canTakeNewName_9 : decode cX6_canTakeNewName 9 = .ok (.iconst (-1), 1) := by decide +kernel
theorem dX6_canTakeNewName_10 : decode cX6_canTakeNewName 10 = .ok (.if_icmp .ne 28, 3) := by decide +kernel
theorem dX6_canTakeNewName_13 : decode cX6_canTakeNewName 13 = .ok (.aload_n 0, 1) := by decide +kernel
theorem dX6_canTakeNewName_14 : decode cX6_canTakeNewName 14 = .ok (.getfield 12, 3) := by decide +kernel
theorem dX6_canTakeNewName_17 : decode cX6_canTakeNewName 17 = .ok (.iload_n 1, 1) := by decide +kernel
theorem dX6_canTakeNewName_18 : decode cX6_canTakeNewName 18 = .ok (.invokevirtual 154, 3) := by decide +kernel
theorem dX6_canTakeNewName_21 : decode cX6_canTakeNewName 21 = .ok (.bipush 8, 2) := by decide +kernel
theorem dX6_canTakeNewName_23 : decode cX6_canTakeNewName 23 = .ok (.if_icmp .ge 15, 3) := by decide +kernel
theorem dX6_canTakeNewName_26 : decode cX6_canTakeNewName 26 = .ok (.aload_n 0, 1) := by decide +kernel
theorem dX6_canTakeNewName_27 : decode cX6_canTakeNewName 27 = .ok (.iload_n 1, 1) := by decide +kernel
theorem dX6_canTakeNewName_28 : decode cX6_canTakeNewName 28 = .ok (.invokevirtual 139, 3) := by decide +kernel
theorem dX6_canTakeNewName_31 : decode cX6_canTakeNewName 31 = .ok (.ifCond .eq 7, 3) := by decide +kernel
theorem dX6_canTakeNewName_34 : decode cX6_canTakeNewName 34 = .ok (.iconst 1, 1) := by decide +kernel
theorem dX6_canTakeNewName_35 : decode cX6_canTakeNewName 35 = .ok (.goto 4, 3) := by decide +kernel
theorem dX6_canTakeNewName_38 : decode cX6_canTakeNewName 38 = .ok (.iconst 0, 1) := by decide +kernel
theorem dX6_canTakeNewName_39 : decode cX6_canTakeNewName 39 = .ok (.ireturn, 1) := by decide +kernel
def f_X6_canTakeNewName (U : S2) (p1 : Int32) (p2 : Int32) : Option (Int32) := bn (f_X4_thingNamed (U 1) p1 p2) (fun z_1 => jn (fun (v39_2_0 : Int32) => some (vp_nar .boolean v39_2_0)) (fun k39_2 => jn (k39_2 0) (fun k38_3 => if z_1 = (-1) then bn (f_X4_sizeOf (U 1) p1) (fun z_5 => if 8 ≤ z_5 then k38_3 else bn (f_X6_mayWrite U p1) (fun z_7 => if z_7 = 0 then k38_3 else k39_2 1)) else k38_3)))
def rmX6_canTakeNewName : Room := { frames := 4, cells := 0, slots := 0, locals := 86 }
set_option maxHeartbeats 4000000 in
set_option maxRecDepth 100000 in
theorem c_X6_canTakeNewName (l : Launch) (D : va_G) (cI cZ cJ cT : ClassId) (a : Nat → Nat → Nat) (U : S2) (p1 : Int32) (p2 : Int32) (o : Int32) (hf : f_X6_canTakeNewName U p1 p2 = some o) : Met l yX6_canTakeNewName wsX6_canTakeNewName rmX6_canTakeNewName (va_Pc [.ref (a 0 0), .int p1, .int p2] (PR D cls (tys cI cZ cJ cT) (wI cI cZ cT a U))) (QR o) 0 0 (fun _ => False) := by
  refine Met.ofW (cc := cX6_canTakeNewName) (maxL := 3) (ret := (some .boolean)) (by decide) rfl ?_
  intro p e s m args below meth c s₁ B hml hv
  obtain ⟨hav, hP, hK⟩ := hv
  have hx := B.exec
  have hb := B.bytes
  have hr := B.returns
  have hlocks := B.notSynchronized
  have hts := atoms_spec (ws := wsX6_canTakeNewName) B.pre
  have hown : s.vm.findClass RX6 = some m.cls := findClass_of_methodNamed B.named
  have i6 : ∀ w ∈ wsX60, w ∈ wsX6_canTakeNewName := fun w h => List.mem_cons_of_mem _ (List.mem_append_left _ (List.mem_append_right _ h))
  have hk12 := hts (.fieldLink RX6 12 "Inodery" "now" "LInodery$Tree;") (by decide +kernel)
  refine Wq (fun Q hQ => ?_)
  refine W_entry hav (Nat.le_of_ble_eq_true rfl) (fun ls hl => ?_)
  have hl : lv_has ls 3 [(0, .ref (a 0 0)), (1, .int p1), (2, .int p2)] := hl
  unfold f_X6_canTakeNewName at hf
  refine lv_aload_n hx hb dX6_canTakeNewName_0 rfl (lv_at hl 0 rfl) ?_
  refine va_get (D := D) (ci := 6) (v := .ref (a 1 0)) (C := RX6) (T := TX6) (N := 11) hx hb hts i6 hown hK (fl_sub hP 0 rfl) 0 rfl rfl 0 (by decide) hk12 (fun _ h9 => h9) rfl dX6_canTakeNewName_1 ?_
  refine lv_iload_n hx hb dX6_canTakeNewName_4 rfl (lv_at hl 1 rfl) ?_
  refine lv_iload_n hx hb dX6_canTakeNewName_5 rfl (lv_at hl 2 rfl) ?_
  obtain ⟨z_1, hz_1, hf⟩ := bn_some hf
  refine cRV (As := [.int p1, .int p2]) (rest := []) ⟨hx, hb, hml, hown, hts⟩ (c_X4_thingNamed l D cI cZ cJ cT (a 1) (U 1) p1 p2 z_1 hz_1) (cwV 2 hts gX6_canTakeNewName_X4_thingNamed rfl rfl rfl (by decide +kernel) ⟨Nat.le_of_ble_eq_true rfl, Nat.le_of_ble_eq_true rfl⟩) (fl_sub hP 1 rfl) hK (va_recv hK (fl_sub hP 1 rfl) (ci := 4) (q0 := 0) rfl rfl) rfl rfl hl.1 (Nat.le_of_ble_eq_true rfl) dX6_canTakeNewName_6 ⟨Nat.le_of_ble_eq_true rfl, Nat.le_of_ble_eq_true rfl⟩ ?_
  refine lv_iconst (v := (-1)) hx hb dX6_canTakeNewName_9 (by decide) ?_
  obtain ⟨k39_2, hk39_2, hf⟩ := jn_some hf
  have j39_2 : ∀ (v39_2_0 : Int32) (ls : Array Slot), k39_2 v39_2_0 = some o → lv_has ls 3 [] → W p l e (headSpec wsX6_canTakeNewName rmX6_canTakeNewName).room s m args below meth c s.heap [] 0 0 Q (F0 m 39 ls [.int v39_2_0]) := by
    intro v39_2_0 ls hf hl
    have hf := qa1 hk39_2 hf
    rw [hQ]
    exact zretN (v := v39_2_0) (v' := vp_nar .boolean v39_2_0) hx hb hr rfl (fun t ht hW => ⟨_, rfl, Option.some.inj hf, ht⟩) (fun _ h => nomatch h) dX6_canTakeNewName_39 hlocks
  obtain ⟨k38_3, hk38_3, hf⟩ := jn_some hf
  have j38_3 : ∀ (ls : Array Slot), k38_3 = some o → lv_has ls 3 [] → W p l e (headSpec wsX6_canTakeNewName rmX6_canTakeNewName).room s m args below meth c s.heap [] 0 0 Q (F0 m 38 ls []) := by
    intro ls hf hl
    have hf := qa0 hk38_3 hf
    refine lv_iconst (v := 0) hx hb dX6_canTakeNewName_38 (by decide) ?_
    exact j39_2 _ _ hf (lv_sub hl [] rfl)
  refine lv_icmp_ne (tgt := 38) hx hb dX6_canTakeNewName_10 (by decide) (fun c_4 => ?_) (fun c_4 => ?_)
  · have hf := ite_f hf c_4
    exact j38_3 _ hf (lv_sub hl [] rfl)
  · have hf := ite_t hf c_4
    refine lv_aload_n hx hb dX6_canTakeNewName_13 rfl (lv_at hl 0 rfl) ?_
    refine va_get (D := D) (ci := 6) (v := .ref (a 1 0)) (C := RX6) (T := TX6) (N := 11) hx hb hts i6 hown hK (fl_sub hP 0 rfl) 0 rfl rfl 0 (by decide) hk12 (fun _ h9 => h9) rfl dX6_canTakeNewName_14 ?_
    refine lv_iload_n hx hb dX6_canTakeNewName_17 rfl (lv_at hl 1 rfl) ?_
    obtain ⟨z_5, hz_5, hf⟩ := bn_some hf
    refine cRV (As := [.int p1]) (rest := []) ⟨hx, hb, hml, hown, hts⟩ (c_X4_sizeOf l D cI cZ cJ cT (a 1) (U 1) p1 z_5 hz_5) (cwV 1 hts gX6_canTakeNewName_X4_sizeOf rfl rfl rfl (by decide +kernel) ⟨Nat.le_of_ble_eq_true rfl, Nat.le_of_ble_eq_true rfl⟩) (fl_sub hP 1 rfl) hK (va_recv hK (fl_sub hP 1 rfl) (ci := 4) (q0 := 0) rfl rfl) rfl rfl hl.1 (Nat.le_of_ble_eq_true rfl) dX6_canTakeNewName_18 ⟨Nat.le_of_ble_eq_true rfl, Nat.le_of_ble_eq_true rfl⟩ ?_
    refine lv_bipush (v := 8) hx hb dX6_canTakeNewName_21 (by decide) ?_
    refine lv_icmp_ge (tgt := 38) hx hb dX6_canTakeNewName_23 (by decide) (fun c_6 => ?_) (fun c_6 => ?_)
    · have hf := ite_t hf c_6
      exact j38_3 _ hf (lv_sub hl [] rfl)
    · have hf := ite_f hf c_6
      refine lv_aload_n hx hb dX6_canTakeNewName_26 rfl (lv_at hl 0 rfl) ?_
      refine lv_iload_n hx hb dX6_canTakeNewName_27 rfl (lv_at hl 1 rfl) ?_
      obtain ⟨z_7, hz_7, hf⟩ := bn_some hf
      refine cRV (As := [.int p1]) (rest := []) ⟨hx, hb, hml, hown, hts⟩ (c_X6_mayWrite l D cI cZ cJ cT a U p1 z_7 hz_7) (cwV 1 hts gX6_canTakeNewName_X6_mayWrite rfl rfl rfl (by decide +kernel) ⟨Nat.le_of_ble_eq_true rfl, Nat.le_of_ble_eq_true rfl⟩) hP hK (va_recv hK (fl_sub hP 0 rfl) (ci := 6) (q0 := 0) rfl rfl) rfl rfl hl.1 (Nat.le_of_ble_eq_true rfl) dX6_canTakeNewName_28 ⟨Nat.le_of_ble_eq_true rfl, Nat.le_of_ble_eq_true rfl⟩ ?_
      refine lv_if_eq (tgt := 38) hx hb dX6_canTakeNewName_31 (by decide) (fun c_8 => ?_) (fun c_8 => ?_)
      · have hf := ite_t hf c_8
        exact j38_3 _ hf (lv_sub hl [] rfl)
      · have hf := ite_f hf c_8
        refine lv_iconst (v := 1) hx hb dX6_canTakeNewName_34 (by decide) ?_
        refine lv_goto (tgt := 39) hx hb dX6_canTakeNewName_35 (by decide) ?_
        exact j39_2 _ _ hf (lv_sub hl [] rfl)
set_option maxRecDepth 20000 in
theorem ggX6_makeThing_X4_lowestNotHad : GoodIn wsX6_makeThing wsX4_lowestNotHad := goodIn_r _ [81, 64, 144, 145, 146, 147, 148, 149, 150, 151, 152, 153, 154, 155] (by decide +kernel) (by decide +kernel)
set_option maxRecDepth 20000 in
theorem gX6_makeThing_X4_lowestNotHad : GoodIn wsX6_makeThing (wsV RX6 436 RX4 yX4_lowestNotHad wsX4_lowestNotHad) := goodIn_app (goodIn_of _ (by decide +kernel)) ggX6_makeThing_X4_lowestNotHad
set_option maxRecDepth 20000 in
theorem ggX6_makeThing_X4_makeThing : GoodIn wsX6_makeThing wsX4_makeThing := goodIn_r _ [112, 64, 103, 108, 113, 69, 70, 43, 71, 144, 145, 146, 147, 148, 149, 150, 151, 152, 153, 154, 155] (by decide +kernel) (by decide +kernel)
set_option maxRecDepth 20000 in
theorem gX6_makeThing_X4_makeThing : GoodIn wsX6_makeThing (wsV RX6 441 RX4 yX4_makeThing wsX4_makeThing) := goodIn_app (goodIn_of _ (by decide +kernel)) ggX6_makeThing_X4_makeThing
set_option maxRecDepth 20000 in
theorem ggX6_makeThing_X4_putEntry : GoodIn wsX6_makeThing wsX4_putEntry := goodIn_r _ [121, 54, 122, 88, 89, 43, 90, 69, 70, 71, 123, 124, 125, 126, 49, 50, 51, 52, 53, 55, 56, 57, 58, 59, 127, 128, 129, 130, 144, 145, 146, 147, 148, 149, 150, 151, 152, 153, 154, 155] (by decide +kernel) (by decide +kernel)
set_option maxRecDepth 20000 in
theorem gX6_makeThing_X4_putEntry : GoodIn wsX6_makeThing (wsV RX6 115 RX4 yX4_putEntry wsX4_putEntry) := goodIn_app (goodIn_of _ (by decide +kernel)) ggX6_makeThing_X4_putEntry
set_option maxRecDepth 20000 in
theorem ggX6_makeThing_X4_setPath : GoodIn wsX6_makeThing wsX4_setPath := goodIn_r _ [117, 76, 69, 70, 43, 71, 144, 145, 146, 147, 148, 149, 150, 151, 152, 153, 154, 155] (by decide +kernel) (by decide +kernel)
set_option maxRecDepth 20000 in
theorem gX6_makeThing_X4_setPath : GoodIn wsX6_makeThing (wsV RX6 443 RX4 yX4_setPath wsX4_setPath) := goodIn_app (goodIn_of _ (by decide +kernel)) ggX6_makeThing_X4_setPath
set_option maxRecDepth 20000 in
theorem ggX6_makeThing_X6_canTakeNewName : GoodIn wsX6_makeThing wsX6_canTakeNewName := goodIn_r _ [85, 7, 86, 41, 42, 43, 44, 45, 46, 47, 48, 49, 50, 51, 52, 53, 54, 55, 56, 57, 58, 59, 87, 88, 89, 90, 69, 70, 71, 91, 92, 93, 11, 94, 95, 96, 97, 98, 8, 99, 100, 101, 102, 103, 104, 105, 106, 107, 108, 131, 132, 133, 134, 135, 136, 137, 138, 139, 140, 141, 144, 145, 146, 147, 148, 149, 150, 151, 152, 153, 154, 155] (by decide +kernel) (by decide +kernel)
set_option maxRecDepth 20000 in
theorem gX6_makeThing_X6_canTakeNewName : GoodIn wsX6_makeThing (wsV RX6 107 RX6 yX6_canTakeNewName wsX6_canTakeNewName) := goodIn_app (goodIn_of _ (by decide +kernel)) ggX6_makeThing_X6_canTakeNewName
set_option maxRecDepth 20000 in
theorem ggX6_makeThing_X6_folderAhead : GoodIn wsX6_makeThing wsX6_folderAhead := goodIn_r _ [23, 24, 7, 25, 26, 27, 28, 29, 30, 31, 32, 33, 34, 35, 36, 37, 38, 39, 40, 41, 42, 43, 44, 45, 46, 47, 48, 49, 50, 51, 52, 53, 54, 55, 56, 57, 58, 59, 60, 61, 62, 63, 64, 65, 66, 67, 68, 69, 70, 71, 72, 73, 74, 75, 76, 77, 131, 132, 133, 134, 135, 136, 137, 138, 139, 140, 141, 142, 143, 144, 145, 146, 147, 148, 149, 150, 151, 152, 153, 154, 155] (by decide +kernel) (by decide +kernel)
set_option maxRecDepth 20000 in
theorem gX6_makeThing_X6_folderAhead : GoodIn wsX6_makeThing (wsV RX6 97 RX6 yX6_folderAhead wsX6_folderAhead) := goodIn_app (goodIn_of _ (by decide +kernel)) ggX6_makeThing_X6_folderAhead
set_option maxRecDepth 20000 in
theorem ggX6_makeThing_X6_isNewPath : GoodIn wsX6_makeThing wsX6_isNewPath := goodIn_r _ [12, 13] (by decide +kernel) (by decide +kernel)
set_option maxRecDepth 20000 in
theorem gX6_makeThing_X6_isNewPath : GoodIn wsX6_makeThing (va_wsS RX6 85 yX6_isNewPath wsX6_isNewPath) := goodIn_app (goodIn_of _ (by decide +kernel)) ggX6_makeThing_X6_isNewPath
set_option maxRecDepth 20000 in
theorem ggX6_makeThing_X6_isPath : GoodIn wsX6_makeThing wsX6_isPath := goodIn_r _ [19, 13] (by decide +kernel) (by decide +kernel)
set_option maxRecDepth 20000 in
theorem gX6_makeThing_X6_isPath : GoodIn wsX6_makeThing (va_wsS RX6 159 yX6_isPath wsX6_isPath) := goodIn_app (goodIn_of _ (by decide +kernel)) ggX6_makeThing_X6_isPath
set_option maxRecDepth 20000 in
theorem ggX6_makeThing_X6_isRights : GoodIn wsX6_makeThing wsX6_isRights := goodIn_r _ [16] (by decide +kernel) (by decide +kernel)
set_option maxRecDepth 20000 in
theorem gX6_makeThing_X6_isRights : GoodIn wsX6_makeThing (va_wsS RX6 162 yX6_isRights wsX6_isRights) := goodIn_app (goodIn_of _ (by decide +kernel)) ggX6_makeThing_X6_isRights
theorem dX6_makeThing_0 : decode cX6_makeThing 0 = .ok (.iload_n 2, 1) := by decide +kernel
theorem dX6_makeThing_1 : decode cX6_makeThing 1 = .ok (.invokestatic 85, 3) := by decide +kernel
theorem dX6_makeThing_4 : decode cX6_makeThing 4 = .ok (.ifCond .eq 18, 3) := by decide +kernel
theorem dX6_makeThing_7 : decode cX6_makeThing 7 = .ok (.iload_n 3, 1) := by decide +kernel
theorem dX6_makeThing_8 : decode cX6_makeThing 8 = .ok (.invokestatic 162, 3) := by decide +kernel
theorem dX6_makeThing_11 : decode cX6_makeThing 11 = .ok (.ifCond .eq 11, 3) := by decide +kernel
theorem dX6_makeThing_14 : decode cX6_makeThing 14 = .ok (.iload 4, 2) := by decide +kernel
theorem dX6_makeThing_16 : decode cX6_makeThing 16 = .ok (.invokestatic 159, 3) := by decide +kernel
theorem dX6_makeThing_19 : decode cX6_makeThing 19 = .ok (.ifCond .ne 14, 3) := by decide +kernel
theorem dX6_makeThing_22 : decode cX6_makeThing 22 = .ok (.new 88, 3) := by decide +kernel
theorem dX6_makeThing_25 : decode cX6_makeThing 25 = .ok (.dup, 1) := by decide +kernel
theorem dX6_makeThing_26 : decode cX6_makeThing 26 = .ok (.ldc_w 432, 3) := by decide +kernel
theorem dX6_makeThing_29 : decode cX6_makeThing 29 = .ok (.invokespecial 92, 3) := by decide +kernel
theorem dX6_makeThing_32 : decode cX6_makeThing 32 = .ok (.athrow, 1) := by decide +kernel
theorem dX6_makeThing_33 : decode cX6_makeThing 33 = .ok (.aload_n 0, 1) := by decide +kernel
theorem dX6_makeThing_34 : decode cX6_makeThing 34 = .ok (.iload_n 2, 1) := by decide +kernel
theorem dX6_makeThing_35 : decode cX6_makeThing 35 = .ok (.invokevirtual 97, 3) := by decide +kernel
theorem dX6_makeThing_38 : decode cX6_makeThing 38 = .ok (.istore 5, 2) := by decide +kernel
theorem dX6_makeThing_40 : decode cX6_makeThing 40 = .ok (.iload_n 2, 1) := by decide +kernel
theorem dX6_makeThing_41 : decode cX6_makeThing 41 = .ok (.bipush 100, 2) := by decide +kernel
theorem dX6_makeThing_43 : decode cX6_makeThing 43 = .ok (.irem, 1) := by decide +kernel
theorem dX6_makeThing_44 : decode cX6_makeThing 44 = .ok (.istore 6, 2) := by decide +kernel
theorem dX6_makeThing_46 : decode cX6_makeThing 46 = .ok (.iload 5, 2) := by decide +kernel
theorem dX6_makeThing_48 : decode cX6_makeThing 48 = .ok (.iconst (-1), 1) := by decide +kernel
theorem dX6_makeThing_49 : decode cX6_makeThing 49 = .ok (.if_icmp .eq 8, 3) := by decide +kernel
theorem dX6_makeThing_52 : decode cX6_makeThing 52 = .ok (.iload 6, 2) := by decide +kernel
theorem dX6_makeThing_54 : decode cX6_makeThing 54 = .ok (.ifCond .ne 14, 3) := by decide +kernel
theorem dX6_makeThing_57 : decode cX6_makeThing 57 = .ok (.new 74, 3) := by decide +kernel
theorem dX6_makeThing_60 : decode cX6_makeThing 60 = .ok (.dup, 1) := by decide +kernel
theorem dX6_makeThing_61 : decode cX6_makeThing 61 = .ok (.ldc_w 434, 3) := by decide +kernel
theorem dX6_makeThing_64 : decode cX6_makeThing 64 = .ok (.invokespecial 78, 3) := by decide +kernel
theorem dX6_makeThing_67 : decode cX6_makeThing 67 = .ok (.athrow, 1) := by decide +kernel
theorem dX6_makeThing_68 : decode cX6_makeThing 68 = .ok (.aload_n 0, 1) := by decide +kernel
theorem dX6_makeThing_69 : decode cX6_makeThing 69 = .ok (.getfield 12, 3) := by decide +kernel
theorem dX6_makeThing_72 : decode cX6_makeThing 72 = .ok (.invokevirtual 436, 3) := by decide +kernel
theorem dX6_makeThing_75 : decode cX6_makeThing 75 = .ok (.istore 7, 2) := by decide +kernel
theorem dX6_makeThing_77 : decode cX6_makeThing 77 = .ok (.iload 7, 2) := by decide +kernel
theorem dX6_makeThing_79 : decode cX6_makeThing 79 = .ok (.iconst (-1), 1) := by decide +kernel
theorem dX6_makeThing_80 : decode cX6_makeThing 80 = .ok (.if_icmp .eq 14, 3) := by decide +kernel
theorem dX6_makeThing_83 : decode cX6_makeThing 83 = .ok (.aload_n 0, 1) := by decide +kernel
theorem dX6_makeThing_84 : decode cX6_makeThing 84 = .ok (.iload 5, 2) := by decide +kernel
theorem dX6_makeThing_86 : decode cX6_makeThing 86 = .ok (.iload 6, 2) := by decide +kernel
theorem dX6_makeThing_88 : decode cX6_makeThing 88 = .ok (.invokevirtual 107, 3) := by decide +kernel
theorem dX6_makeThing_91 : decode cX6_makeThing 91 = .ok (.ifCond .ne 14, 3) := by decide +kernel
theorem dX6_makeThing_94 : decode cX6_makeThing 94 = .ok (.new 110, 3) := by decide +kernel
theorem dX6_makeThing_97 : decode cX6_makeThing 97 = .ok (.dup, 1) := by decide +kernel
theorem dX6_makeThing_98 : decode cX6_makeThing 98 = .ok (.ldc_w 439, 3) := by decide +kernel
theorem dX6_makeThing_101 : decode cX6_makeThing 101 = .ok (.invokespecial 114, 3) := by decide +kernel
theorem dX6_makeThing_104 : decode cX6_makeThing 104 = .ok (.athrow, 1) := by decide +kernel
theorem dX6_makeThing_105 : decode cX6_makeThing 105 = .ok (.aload_n 0, 1) := by decide +kernel
theorem dX6_makeThing_106 : decode cX6_makeThing 106 = .ok (.getfield 12, 3) := by decide +kernel
theorem dX6_makeThing_109 : decode cX6_makeThing 109 = .ok (.iload 7, 2) := by decide +kernel
theorem dX6_makeThing_111 : decode cX6_makeThing 111 = .ok (.iload_n 1, 1) := by decide +kernel
theorem dX6_makeThing_112 : decode cX6_makeThing 112 = .ok (.aload_n 0, 1) := by decide +kernel
theorem dX6_makeThing_113 : decode cX6_makeThing 113 = .ok (.getfield 66, 3) := by decide +kernel
theorem dX6_makeThing_116 : decode cX6_makeThing 116 = .ok (.iload_n 3, 1) := by decide +kernel
theorem dX6_makeThing_117 : decode cX6_makeThing 117 = .ok (.invokevirtual 441, 3) := by decide +kernel
theorem dX6_makeThing_120 : decode cX6_makeThing 120 = .ok (.aload_n 0, 1) := by decide +kernel
theorem dX6_makeThing_121 : decode cX6_makeThing 121 = .ok (.getfield 12, 3) := by decide +kernel
theorem dX6_makeThing_124 : decode cX6_makeThing 124 = .ok (.iload 7, 2) := by decide +kernel
theorem dX6_makeThing_126 : decode cX6_makeThing 126 = .ok (.iload 4, 2) := by decide +kernel
theorem dX6_makeThing_128 : decode cX6_makeThing 128 = .ok (.invokevirtual 443, 3) := by decide +kernel
theorem dX6_makeThing_131 : decode cX6_makeThing 131 = .ok (.aload_n 0, 1) := by decide +kernel
theorem dX6_makeThing_132 : decode cX6_makeThing 132 = .ok (.getfield 12, 3) := by decide +kernel
theorem dX6_makeThing_135 : decode cX6_makeThing 135 = .ok (.iload 5, 2) := by decide +kernel
theorem dX6_makeThing_137 : decode cX6_makeThing 137 = .ok (.iload 6, 2) := by decide +kernel
theorem dX6_makeThing_139 : decode cX6_makeThing 139 = .ok (.iload 7, 2) := by decide +kernel
theorem dX6_makeThing_141 : decode cX6_makeThing 141 = .ok (.invokevirtual 115, 3) := by decide +kernel
theorem dX6_makeThing_144 : decode cX6_makeThing 144 = .ok (.iload 7, 2) := by decide +kernel
theorem dX6_makeThing_146 : decode cX6_makeThing 146 = .ok (.ireturn, 1) := by decide +kernel
def f_X6_makeThing (U : S2) (p1 : Int32) (p2 : Int32) (p3 : Int32) (p4 : Int32) : Option (Nat × Int32 × S2) := bn (f_X6_isNewPath p2) (fun z_1 => jn (some (1, 0, U)) (fun k22_2 => if z_1 = 0 then k22_2 else bn (f_X6_isRights p3) (fun z_4 => if z_4 = 0 then k22_2 else bn (f_X6_isPath p4) (fun z_6 => if z_6 = 0 then k22_2 else bn (f_X6_folderAhead U p2) (fun z_8 => jn (some (2, 0, z_8.2)) (fun k57_9 => if z_8.1 = (-1) then k57_9 else if (p2 - p2 / 100 * 100) = 0 then k57_9 else bn (f_X4_lowestNotHad (z_8.2 1)) (fun z_12 => jn (some (3, 0, z_8.2)) (fun k94_13 => if z_12 = (-1) then k94_13 else bn (f_X6_canTakeNewName z_8.2 z_8.1 (p2 - p2 / 100 * 100)) (fun z_15 => if z_15 = 0 then k94_13 else bn (f_X4_makeThing (z_8.2 1) z_12 p1 (z_8.2 0 10 0) p3) (fun z_17 => bv (upc z_8.2 1 z_17) (fun u_18 => bn (f_X4_setPath (u_18 1) z_12 p4) (fun z_19 => bv (upc u_18 1 z_19) (fun u_20 => bn (f_X4_putEntry (u_20 1) z_8.1 (p2 - p2 / 100 * 100) z_12) (fun z_21 => bv (upc u_20 1 z_21) (fun u_22 => some (0, z_12, u_22))))))))))))))))
def rmX6_makeThing : Room := { frames := 6, cells := 1, slots := 6, locals := 115 }
set_option maxHeartbeats 4000000 in
set_option maxRecDepth 100000 in
theorem c_X6_makeThing (l : Launch) (hst : l.stackTraces = false) (D : va_G) (cI cZ cJ cT : ClassId) (a : Nat → Nat → Nat) (sz : Nat) (U : S2) (p1 : Int32) (p2 : Int32) (p3 : Int32) (p4 : Int32) (o : Nat × Int32 × S2) (hf : f_X6_makeThing U p1 p2 p3 p4 = some o) : vx_Met l yX6_makeThing wsX6_makeThing rmX6_makeThing (va_Pc [.ref (a 0 0), .int p1, .int p2, .int p3, .int p4] (PX D cls (tys cI cZ cJ cT) (wI cI cZ cT a U) sz)) (QXi D cls o.1 o.2.1 (wI cI cZ cT a o.2.2) (va_A (wI cI cZ cT a U) sz)) (XX D cls o.1 (wI cI cZ cT a o.2.2) (va_A (wI cI cZ cT a U) sz)) 1 6 (va_A (wI cI cZ cT a U) sz) := by
  refine vx_ofW (cc := cX6_makeThing) (maxL := 8) (ret := (some .int)) (by decide) rfl ?_
  intro p e s m args below meth c s₁ B hml hxt hv
  obtain ⟨hav, ⟨hsz, hP, hK, hD0⟩, hE⟩ := hv
  have hx := B.exec
  have hb := B.bytes
  have hr := B.returns
  have hlocks := B.notSynchronized
  have hts := atoms_spec (ws := wsX6_makeThing) B.pre
  have hown : s.vm.findClass RX6 = some m.cls := findClass_of_methodNamed B.named
  have i6 : ∀ w ∈ wsX60, w ∈ wsX6_makeThing := fun w h => List.mem_cons_of_mem _ (List.mem_append_left _ (List.mem_append_left _ (List.mem_append_left _ (List.mem_append_left _ (List.mem_append_left _ (List.mem_append_right _ h))))))
  have hk12 := hts (.fieldLink RX6 12 "Inodery" "now" "LInodery$Tree;") (by decide +kernel)
  have hk66 := hts (.fieldLink RX6 66 "Inodery" "userOfNow" "I") (by decide +kernel)
  subst hsz
  have hD := hD0.self (sz := s.heap.size)
  generalize hAe : va_A (wI cI cZ cT a U) s.heap.size = A at hD hE ⊢
  have hA : ∀ q : Nat, s.heap.size ≤ q → A q := fun q h => by rw [← hAe]; exact Or.inr h
  have hS : va_S A s.heap s.heap [] := va_S.rf
  have hDD : ∀ V : S2, va_D A (wI cI cZ cT a V) := fun _ => D_same (w := (wI cI cZ cT a U)) rfl hD
  refine Wq (fun Q hQ => ?_)
  refine W_entry hav (Nat.le_of_ble_eq_true rfl) (fun ls hl => ?_)
  have hl : lv_has ls 8 [(0, .ref (a 0 0)), (1, .int p1), (2, .int p2), (3, .int p3), (4, .int p4)] := hl
  unfold f_X6_makeThing at hf
  refine W_heap hP hS (fun H locs hP hS => ?_)
  refine lv_iload_n hx hb dX6_makeThing_0 rfl (lv_at hl 2 rfl) ?_
  obtain ⟨z_1, hz_1, hf⟩ := bn_some hf
  refine c0S (As := [.int p2]) (rest := []) ⟨hx, hb, hml, hown, hts⟩ (c_X6_isNewPath l D cI cZ cJ cT p2 z_1 hz_1) (va_cwS 1 hts gX6_makeThing_X6_isNewPath rfl rfl rfl (by decide +kernel) ⟨Nat.le_of_ble_eq_true rfl, Nat.le_of_ble_eq_true rfl⟩) rfl rfl hl.1 (Nat.le_of_ble_eq_true rfl) dX6_makeThing_1 ⟨Nat.le_of_ble_eq_true rfl, Nat.le_of_ble_eq_true rfl⟩ ?_
  obtain ⟨k22_2, hk22_2, hf⟩ := jn_some hf
  have j22_2 : ∀ (H : Heap) (locs : List Loc) (ls : Array Slot), k22_2 = some o → va_P D cls (wI cI cZ cT a U) H → va_S A s.heap H locs → lv_has ls 8 [] → W p l e (headSpec wsX6_makeThing rmX6_makeThing).room s m args below meth c H locs 0 0 Q (F0 m 22 ls []) := by
    intro H locs ls hf hP hS hl
    have hf := qa0 hk22_2 hf
    have eo := Option.some.inj hf
    have hP : va_P D cls (wI cI cZ cT a o.2.2) H := by rw [← eo]; exact hP
    rw [hQ]
    have hk0 : o.1 = 1 := by rw [← eo]
    exact thrW o.1 (text := "path, rights or target is out of range") (by rw [hk0]; rfl) (by rw [hk0]; decide) hx hb hst hown (by decide +kernel) (hts (.classLink RX6 88 "java/lang/IllegalArgumentException") (by decide +kernel)) (hts (.initialized "java/lang/IllegalArgumentException") (by decide +kernel)) (fun w h => hts w (List.mem_cons_of_mem _ (List.mem_append_left _ (List.mem_append_left _ (List.mem_append_right _ h))))) (EX_b1 hE) ok1 (by decide +kernel) hE hS hP (hl.1.trans hml.symm) dX6_makeThing_22 dX6_makeThing_25 dX6_makeThing_26 dX6_makeThing_29 dX6_makeThing_32 hxt (Nat.le_of_ble_eq_true rfl) (Nat.le_of_ble_eq_true rfl) (Nat.le_of_ble_eq_true rfl) (Nat.le_of_ble_eq_true rfl) hlocks (Nat.le_of_ble_eq_true rfl) (Nat.le_of_ble_eq_true rfl)
  refine lv_if_eq (tgt := 22) hx hb dX6_makeThing_4 (by decide) (fun c_3 => ?_) (fun c_3 => ?_)
  · have hf := ite_t hf c_3
    refine W.widen (k := 0) (n := 0) (Nat.le_of_ble_eq_true rfl) (Nat.le_of_ble_eq_true rfl) ?_
    exact j22_2 _ _ _ hf hP hS (lv_sub hl [] rfl)
  · have hf := ite_f hf c_3
    refine lv_iload_n hx hb dX6_makeThing_7 rfl (lv_at hl 3 rfl) ?_
    obtain ⟨z_4, hz_4, hf⟩ := bn_some hf
    refine c0S (As := [.int p3]) (rest := []) ⟨hx, hb, hml, hown, hts⟩ (c_X6_isRights l D cI cZ cJ cT p3 z_4 hz_4) (va_cwS 1 hts gX6_makeThing_X6_isRights rfl rfl rfl (by decide +kernel) ⟨Nat.le_of_ble_eq_true rfl, Nat.le_of_ble_eq_true rfl⟩) rfl rfl hl.1 (Nat.le_of_ble_eq_true rfl) dX6_makeThing_8 ⟨Nat.le_of_ble_eq_true rfl, Nat.le_of_ble_eq_true rfl⟩ ?_
    refine lv_if_eq (tgt := 22) hx hb dX6_makeThing_11 (by decide) (fun c_5 => ?_) (fun c_5 => ?_)
    · have hf := ite_t hf c_5
      refine W.widen (k := 0) (n := 0) (Nat.le_of_ble_eq_true rfl) (Nat.le_of_ble_eq_true rfl) ?_
      exact j22_2 _ _ _ hf hP hS (lv_sub hl [] rfl)
    · have hf := ite_f hf c_5
      refine lv_iload hx hb dX6_makeThing_14 (lv_at hl 4 rfl) ?_
      obtain ⟨z_6, hz_6, hf⟩ := bn_some hf
      refine c0S (As := [.int p4]) (rest := []) ⟨hx, hb, hml, hown, hts⟩ (c_X6_isPath l D cI cZ cJ cT p4 z_6 hz_6) (va_cwS 1 hts gX6_makeThing_X6_isPath rfl rfl rfl (by decide +kernel) ⟨Nat.le_of_ble_eq_true rfl, Nat.le_of_ble_eq_true rfl⟩) rfl rfl hl.1 (Nat.le_of_ble_eq_true rfl) dX6_makeThing_16 ⟨Nat.le_of_ble_eq_true rfl, Nat.le_of_ble_eq_true rfl⟩ ?_
      refine lv_if_ne (tgt := 33) hx hb dX6_makeThing_19 (by decide) (fun c_7 => ?_) (fun c_7 => ?_)
      · have hf := ite_f hf c_7
        refine lv_aload_n hx hb dX6_makeThing_33 rfl (lv_at hl 0 rfl) ?_
        refine lv_iload_n hx hb dX6_makeThing_34 rfl (lv_at hl 2 rfl) ?_
        obtain ⟨z_8, hz_8, hf⟩ := bn_some hf
        refine cWVi (As := [.int p2]) (rest := []) ⟨hx, hb, hml, hown, hts⟩ (c_X6_folderAhead l D cI cZ cJ cT a H.size U p2 z_8 hz_8) (cwV 1 hts gX6_makeThing_X6_folderAhead rfl rfl rfl (by decide +kernel) ⟨Nat.le_of_ble_eq_true rfl, Nat.le_of_ble_eq_true rfl⟩) hP hK (hDD U) hS (own_free (hDD U) hS hA) (va_recv hK (fl_sub hP 0 rfl) (ci := 6) (q0 := 0) rfl rfl) rfl rfl hl.1 (Nat.le_of_ble_eq_true rfl) dX6_makeThing_35 ⟨Nat.le_of_ble_eq_true rfl, Nat.le_of_ble_eq_true rfl⟩ (fun H locs hP _ hS => ?_)
        refine lv_istore (lv' := [(5, .int z_8.1), (0, .ref (a 0 0)), (1, .int p1), (2, .int p2), (3, .int p3), (4, .int p4)]) hx hb dX6_makeThing_38 hl (by decide) rfl (fun ls hl => ?_)
        refine lv_iload_n hx hb dX6_makeThing_40 rfl (lv_at hl 3 rfl) ?_
        refine lv_bipush (v := 100) hx hb dX6_makeThing_41 (by decide) ?_
        refine lv_irem hx hb dX6_makeThing_43 (by decide) ?_
        refine lv_istore (lv' := [(6, .int (p2 - p2 / 100 * 100)), (5, .int z_8.1), (0, .ref (a 0 0)), (1, .int p1), (2, .int p2), (3, .int p3), (4, .int p4)]) hx hb dX6_makeThing_44 hl (by decide) rfl (fun ls hl => ?_)
        refine lv_iload hx hb dX6_makeThing_46 (lv_at hl 1 rfl) ?_
        refine lv_iconst (v := (-1)) hx hb dX6_makeThing_48 (by decide) ?_
        obtain ⟨k57_9, hk57_9, hf⟩ := jn_some hf
        have j57_9 : ∀ (H : Heap) (locs : List Loc) (ls : Array Slot), k57_9 = some o → va_P D cls (wI cI cZ cT a z_8.2) H → va_S A s.heap H locs → lv_has ls 8 [] → W p l e (headSpec wsX6_makeThing rmX6_makeThing).room s m args below meth c H locs 0 0 Q (F0 m 57 ls []) := by
          intro H locs ls hf hP hS hl
          have hf := qa0 hk57_9 hf
          have eo := Option.some.inj hf
          have hP : va_P D cls (wI cI cZ cT a o.2.2) H := by rw [← eo]; exact hP
          rw [hQ]
          have hk0 : o.1 = 2 := by rw [← eo]
          exact thrW o.1 (text := "no such folder, or the last name is 0") (by rw [hk0]; rfl) (by rw [hk0]; decide) hx hb hst hown (by decide +kernel) (hts (.classLink RX6 74 "java/lang/IndexOutOfBoundsException") (by decide +kernel)) (hts (.initialized "java/lang/IndexOutOfBoundsException") (by decide +kernel)) (fun w h => hts w (List.mem_cons_of_mem _ (List.mem_append_left _ (List.mem_append_right _ h)))) (EX_b2 hE) ok2 (by decide +kernel) hE hS hP (hl.1.trans hml.symm) dX6_makeThing_57 dX6_makeThing_60 dX6_makeThing_61 dX6_makeThing_64 dX6_makeThing_67 hxt (Nat.le_of_ble_eq_true rfl) (Nat.le_of_ble_eq_true rfl) (Nat.le_of_ble_eq_true rfl) (Nat.le_of_ble_eq_true rfl) hlocks (Nat.le_of_ble_eq_true rfl) (Nat.le_of_ble_eq_true rfl)
        refine lv_icmp_eq (tgt := 57) hx hb dX6_makeThing_49 (by decide) (fun c_10 => ?_) (fun c_10 => ?_)
        · have hf := ite_t hf c_10
          refine W.widen (k := 0) (n := 0) (Nat.le_of_ble_eq_true rfl) (Nat.le_of_ble_eq_true rfl) ?_
          exact j57_9 _ _ _ hf hP hS (lv_sub hl [] rfl)
        · have hf := ite_f hf c_10
          refine lv_iload hx hb dX6_makeThing_52 (lv_at hl 0 rfl) ?_
          refine lv_if_ne (tgt := 68) hx hb dX6_makeThing_54 (by decide) (fun c_11 => ?_) (fun c_11 => ?_)
          · have hf := ite_f hf c_11
            refine lv_aload_n hx hb dX6_makeThing_68 rfl (lv_at hl 2 rfl) ?_
            refine va_get (D := D) (ci := 6) (v := .ref (a 1 0)) (C := RX6) (T := TX6) (N := 11) hx hb hts i6 hown hK (fl_sub hP 0 rfl) 0 rfl rfl 0 (by decide) hk12 (fun _ h9 => h9) rfl dX6_makeThing_69 ?_
            obtain ⟨z_12, hz_12, hf⟩ := bn_some hf
            refine cRV (As := []) (rest := []) ⟨hx, hb, hml, hown, hts⟩ (c_X4_lowestNotHad l D cI cZ cJ cT (a 1) (z_8.2 1) z_12 hz_12) (cwV 0 hts gX6_makeThing_X4_lowestNotHad rfl rfl rfl (by decide +kernel) ⟨Nat.le_of_ble_eq_true rfl, Nat.le_of_ble_eq_true rfl⟩) (fl_sub hP 1 rfl) hK (va_recv hK (fl_sub hP 1 rfl) (ci := 4) (q0 := 0) rfl rfl) rfl rfl hl.1 (Nat.le_of_ble_eq_true rfl) dX6_makeThing_72 ⟨Nat.le_of_ble_eq_true rfl, Nat.le_of_ble_eq_true rfl⟩ ?_
            refine lv_istore (lv' := [(7, .int z_12), (6, .int (p2 - p2 / 100 * 100)), (5, .int z_8.1), (0, .ref (a 0 0)), (1, .int p1), (2, .int p2), (3, .int p3), (4, .int p4)]) hx hb dX6_makeThing_75 hl (by decide) rfl (fun ls hl => ?_)
            refine lv_iload hx hb dX6_makeThing_77 (lv_at hl 0 rfl) ?_
            refine lv_iconst (v := (-1)) hx hb dX6_makeThing_79 (by decide) ?_
            obtain ⟨k94_13, hk94_13, hf⟩ := jn_some hf
            have j94_13 : ∀ (H : Heap) (locs : List Loc) (ls : Array Slot), k94_13 = some o → va_P D cls (wI cI cZ cT a z_8.2) H → va_S A s.heap H locs → lv_has ls 8 [] → W p l e (headSpec wsX6_makeThing rmX6_makeThing).room s m args below meth c H locs 0 0 Q (F0 m 94 ls []) := by
              intro H locs ls hf hP hS hl
              have hf := qa0 hk94_13 hf
              have eo := Option.some.inj hf
              have hP : va_P D cls (wI cI cZ cT a o.2.2) H := by rw [← eo]; exact hP
              rw [hQ]
              have hk0 : o.1 = 3 := by rw [← eo]
              exact thrW o.1 (text := "no new thing or name there") (by rw [hk0]; rfl) (by rw [hk0]; decide) hx hb hst hown (by decide +kernel) (hts (.classLink RX6 110 "java/lang/IllegalStateException") (by decide +kernel)) (hts (.initialized "java/lang/IllegalStateException") (by decide +kernel)) (fun w h => hts w (List.mem_cons_of_mem _ (List.mem_append_right _ h))) (EX_b3 hE) ok3 (by decide +kernel) hE hS hP (hl.1.trans hml.symm) dX6_makeThing_94 dX6_makeThing_97 dX6_makeThing_98 dX6_makeThing_101 dX6_makeThing_104 hxt (Nat.le_of_ble_eq_true rfl) (Nat.le_of_ble_eq_true rfl) (Nat.le_of_ble_eq_true rfl) (Nat.le_of_ble_eq_true rfl) hlocks (Nat.le_of_ble_eq_true rfl) (Nat.le_of_ble_eq_true rfl)
            refine lv_icmp_eq (tgt := 94) hx hb dX6_makeThing_80 (by decide) (fun c_14 => ?_) (fun c_14 => ?_)
            · have hf := ite_t hf c_14
              refine W.widen (k := 0) (n := 0) (Nat.le_of_ble_eq_true rfl) (Nat.le_of_ble_eq_true rfl) ?_
              exact j94_13 _ _ _ hf hP hS (lv_sub hl [] rfl)
            · have hf := ite_f hf c_14
              refine lv_aload_n hx hb dX6_makeThing_83 rfl (lv_at hl 3 rfl) ?_
              refine lv_iload hx hb dX6_makeThing_84 (lv_at hl 2 rfl) ?_
              refine lv_iload hx hb dX6_makeThing_86 (lv_at hl 1 rfl) ?_
              obtain ⟨z_15, hz_15, hf⟩ := bn_some hf
              refine cRV (As := [.int z_8.1, .int (p2 - p2 / 100 * 100)]) (rest := []) ⟨hx, hb, hml, hown, hts⟩ (c_X6_canTakeNewName l D cI cZ cJ cT a z_8.2 z_8.1 (p2 - p2 / 100 * 100) z_15 hz_15) (cwV 2 hts gX6_makeThing_X6_canTakeNewName rfl rfl rfl (by decide +kernel) ⟨Nat.le_of_ble_eq_true rfl, Nat.le_of_ble_eq_true rfl⟩) hP hK (va_recv hK (fl_sub hP 0 rfl) (ci := 6) (q0 := 0) rfl rfl) rfl rfl hl.1 (Nat.le_of_ble_eq_true rfl) dX6_makeThing_88 ⟨Nat.le_of_ble_eq_true rfl, Nat.le_of_ble_eq_true rfl⟩ ?_
              refine lv_if_ne (tgt := 105) hx hb dX6_makeThing_91 (by decide) (fun c_16 => ?_) (fun c_16 => ?_)
              · have hf := ite_f hf c_16
                refine lv_aload_n hx hb dX6_makeThing_105 rfl (lv_at hl 3 rfl) ?_
                refine va_get (D := D) (ci := 6) (v := .ref (a 1 0)) (C := RX6) (T := TX6) (N := 11) hx hb hts i6 hown hK (fl_sub hP 0 rfl) 0 rfl rfl 0 (by decide) hk12 (fun _ h9 => h9) rfl dX6_makeThing_106 ?_
                refine lv_iload hx hb dX6_makeThing_109 (lv_at hl 0 rfl) ?_
                refine lv_iload_n hx hb dX6_makeThing_111 rfl (lv_at hl 4 rfl) ?_
                refine lv_aload_n hx hb dX6_makeThing_112 rfl (lv_at hl 3 rfl) ?_
                refine va_get (D := D) (ci := 6) (v := .int (z_8.2 0 10 0)) (C := RX6) (T := TX6) (N := 11) hx hb hts i6 hown hK (fl_sub hP 0 rfl) 0 rfl rfl 10 (by decide) hk66 (fun _ h9 => h9) rfl dX6_makeThing_113 ?_
                refine lv_iload_n hx hb dX6_makeThing_116 rfl (lv_at hl 6 rfl) ?_
                obtain ⟨z_17, hz_17, hf⟩ := bn_some hf
                refine cWVv (As := [.int z_12, .int p1, .int (z_8.2 0 10 0), .int p3]) (rest := []) ⟨hx, hb, hml, hown, hts⟩ (c_X4_makeThing l D cI cZ cJ cT (a 1) H.size (z_8.2 1) z_12 p1 (z_8.2 0 10 0) p3 z_17 hz_17) (cwV 4 hts gX6_makeThing_X4_makeThing rfl rfl rfl (by decide +kernel) ⟨Nat.le_of_ble_eq_true rfl, Nat.le_of_ble_eq_true rfl⟩) (fl_sub hP 1 rfl) hK (fl_subD (hDD z_8.2) 1 rfl) hS (fl_free (hDD z_8.2) hS hA 1 rfl) (va_recv hK (fl_sub hP 1 rfl) (ci := 4) (q0 := 0) rfl rfl) rfl rfl hl.1 (Nat.le_of_ble_eq_true rfl) dX6_makeThing_117 ⟨Nat.le_of_ble_eq_true rfl, Nat.le_of_ble_eq_true rfl⟩ (fun H1 locs hP1 hk1 hS => ?_)
                obtain ⟨u_18, hu_18, hf⟩ := bv_some hf
                have hP : va_P D cls (wI cI cZ cT a u_18) H1 := by rw [hu_18]; exact fl_join hP (hDD z_8.2) 1 rfl hk1 hP1
                clear hP1 hk1
                generalize H1 = H at hP hS ⊢
                refine lv_aload_n hx hb dX6_makeThing_120 rfl (lv_at hl 3 rfl) ?_
                refine va_get (D := D) (ci := 6) (v := .ref (a 1 0)) (C := RX6) (T := TX6) (N := 11) hx hb hts i6 hown hK (fl_sub hP 0 rfl) 0 rfl rfl 0 (by decide) hk12 (fun _ h9 => h9) rfl dX6_makeThing_121 ?_
                refine lv_iload hx hb dX6_makeThing_124 (lv_at hl 0 rfl) ?_
                refine lv_iload hx hb dX6_makeThing_126 (lv_at hl 7 rfl) ?_
                obtain ⟨z_19, hz_19, hf⟩ := bn_some hf
                refine cWVv (As := [.int z_12, .int p4]) (rest := []) ⟨hx, hb, hml, hown, hts⟩ (c_X4_setPath l D cI cZ cJ cT (a 1) H.size (u_18 1) z_12 p4 z_19 hz_19) (cwV 2 hts gX6_makeThing_X4_setPath rfl rfl rfl (by decide +kernel) ⟨Nat.le_of_ble_eq_true rfl, Nat.le_of_ble_eq_true rfl⟩) (fl_sub hP 1 rfl) hK (fl_subD (hDD u_18) 1 rfl) hS (fl_free (hDD u_18) hS hA 1 rfl) (va_recv hK (fl_sub hP 1 rfl) (ci := 4) (q0 := 0) rfl rfl) rfl rfl hl.1 (Nat.le_of_ble_eq_true rfl) dX6_makeThing_128 ⟨Nat.le_of_ble_eq_true rfl, Nat.le_of_ble_eq_true rfl⟩ (fun H1 locs hP1 hk1 hS => ?_)
                obtain ⟨u_20, hu_20, hf⟩ := bv_some hf
                have hP : va_P D cls (wI cI cZ cT a u_20) H1 := by rw [hu_20]; exact fl_join hP (hDD u_18) 1 rfl hk1 hP1
                clear hP1 hk1
                generalize H1 = H at hP hS ⊢
                refine lv_aload_n hx hb dX6_makeThing_131 rfl (lv_at hl 3 rfl) ?_
                refine va_get (D := D) (ci := 6) (v := .ref (a 1 0)) (C := RX6) (T := TX6) (N := 11) hx hb hts i6 hown hK (fl_sub hP 0 rfl) 0 rfl rfl 0 (by decide) hk12 (fun _ h9 => h9) rfl dX6_makeThing_132 ?_
                refine lv_iload hx hb dX6_makeThing_135 (lv_at hl 2 rfl) ?_
                refine lv_iload hx hb dX6_makeThing_137 (lv_at hl 1 rfl) ?_
                refine lv_iload hx hb dX6_makeThing_139 (lv_at hl 0 rfl) ?_
                obtain ⟨z_21, hz_21, hf⟩ := bn_some hf
                refine cWVv (As := [.int z_8.1, .int (p2 - p2 / 100 * 100), .int z_12]) (rest := []) ⟨hx, hb, hml, hown, hts⟩ (c_X4_putEntry l D cI cZ cJ cT (a 1) H.size (u_20 1) z_8.1 (p2 - p2 / 100 * 100) z_12 z_21 hz_21) (cwV 3 hts gX6_makeThing_X4_putEntry rfl rfl rfl (by decide +kernel) ⟨Nat.le_of_ble_eq_true rfl, Nat.le_of_ble_eq_true rfl⟩) (fl_sub hP 1 rfl) hK (fl_subD (hDD u_20) 1 rfl) hS (fl_free (hDD u_20) hS hA 1 rfl) (va_recv hK (fl_sub hP 1 rfl) (ci := 4) (q0 := 0) rfl rfl) rfl rfl hl.1 (Nat.le_of_ble_eq_true rfl) dX6_makeThing_141 ⟨Nat.le_of_ble_eq_true rfl, Nat.le_of_ble_eq_true rfl⟩ (fun H1 locs hP1 hk1 hS => ?_)
                obtain ⟨u_22, hu_22, hf⟩ := bv_some hf
                have hP : va_P D cls (wI cI cZ cT a u_22) H1 := by rw [hu_22]; exact fl_join hP (hDD u_20) 1 rfl hk1 hP1
                clear hP1 hk1
                generalize H1 = H at hP hS ⊢
                refine lv_iload hx hb dX6_makeThing_144 (lv_at hl 0 rfl) ?_
                have eo := Option.some.inj hf
                have hP : va_P D cls (wI cI cZ cT a o.2.2) H := by rw [← eo]; exact hP
                rw [hQ]
                refine W.widen (k := 1) (n := 6) (Nat.le_of_ble_eq_true rfl) (Nat.le_of_ble_eq_true rfl) ?_
                exact vx_ret (W.iret hx hb hr (fun t ht hW => ⟨⟨_, (), rfl, ⟨(by rw [← eo]), (by rw [← eo])⟩, P_at ht hP⟩, hS.F ht⟩) hS.2.2 dX6_makeThing_146 hlocks)
              · have hf := ite_t hf c_16
                refine W.widen (k := 0) (n := 0) (Nat.le_of_ble_eq_true rfl) (Nat.le_of_ble_eq_true rfl) ?_
                exact j94_13 _ _ _ hf hP hS (lv_sub hl [] rfl)
          · have hf := ite_t hf c_11
            refine W.widen (k := 0) (n := 0) (Nat.le_of_ble_eq_true rfl) (Nat.le_of_ble_eq_true rfl) ?_
            exact j57_9 _ _ _ hf hP hS (lv_sub hl [] rfl)
      · have hf := ite_t hf c_7
        refine W.widen (k := 0) (n := 0) (Nat.le_of_ble_eq_true rfl) (Nat.le_of_ble_eq_true rfl) ?_
        exact j22_2 _ _ _ hf hP hS (lv_sub hl [] rfl)
set_option maxRecDepth 20000 in
theorem ggX6_file_X6_makeThing : GoodIn wsX6_file wsX6_makeThing := goodIn_ca (goodIn_ca (goodIn_ca (goodIn_r _ [5, 6, 7, 8, 9, 10, 11, 12, 13, 14, 15, 4, 16, 17, 18, 19, 20, 21, 22, 23, 24, 25, 26, 27, 28, 29, 30, 31, 32, 33, 34, 35, 36, 37, 38, 39, 40, 41, 42, 43, 44, 45, 46, 47, 48, 49, 50, 51, 52, 53, 54, 55, 56, 57, 58, 59, 60, 61, 62, 63, 64, 65, 66, 67, 68, 69, 70, 71, 72, 73, 74, 75, 76, 77, 78, 79, 80, 81, 82, 83, 84, 85, 86, 87, 88, 89, 90, 91, 92, 93, 94, 95, 96, 97, 98, 99, 100, 101, 102, 103, 104, 105, 106, 107, 108, 109, 110, 111, 112, 113, 114, 115, 116, 117, 118, 119, 120, 121, 122, 123, 124, 125, 126, 127, 128, 129, 130, 131, 132, 133, 134, 135, 136, 137, 138, 139, 140, 141, 142, 143, 144, 145, 146, 147, 148, 149, 150, 151, 152, 153, 154, 155, 156, 157, 158, 159] (by decide +kernel) (by decide +kernel)) (goodIn_sub (fun _ h => List.mem_cons_of_mem _ (List.mem_append_left _ (List.mem_append_left _ (List.mem_append_right _ h)))) (by decide +kernel))) (goodIn_sub (fun _ h => List.mem_cons_of_mem _ (List.mem_append_left _ (List.mem_append_right _ h))) (by decide +kernel))) (goodIn_sub (fun _ h => List.mem_cons_of_mem _ (List.mem_append_right _ h)) (by decide +kernel))
set_option maxRecDepth 20000 in
theorem gX6_file_X6_makeThing : GoodIn wsX6_file (wsV RX6 81 RX6 yX6_makeThing wsX6_makeThing) := goodIn_app (goodIn_of _ (by decide +kernel)) ggX6_file_X6_makeThing
theorem dX6_file_0 : decode cX6_file 0 = .ok (.aload_n 0, 1) := by decide +kernel
theorem dX6_file_1 : decode cX6_file 1 = .ok (.iconst 0, 1) := by decide +kernel
theorem dX6_file_2 : decode cX6_file 2 = .ok (.iload_n 1, 1) := by decide +kernel
theorem dX6_file_3 : decode cX6_file 3 = .ok (.iload_n 2, 1) := by decide +kernel
theorem dX6_file_4 : decode cX6_file 4 = .ok (.iconst 0, 1) := by decide +kernel
theorem dX6_file_5 : decode cX6_file 5 = .ok (.invokevirtual 81, 3) := by decide +kernel
theorem dX6_file_8 : decode cX6_file 8 = .ok (.ireturn, 1) := by decide +kernel
def f_X6_file (U : S2) (p1 : Int32) (p2 : Int32) : Option (Nat × Int32 × S2) := bn (f_X6_makeThing U 0 p1 p2 0) (fun z_1 => if z_1.1 = 0 then some (0, z_1.2.1, z_1.2.2) else some (z_1.1, 0, z_1.2.2))
def rmX6_file : Room := { frames := 7, cells := 1, slots := 6, locals := 142 }
set_option maxHeartbeats 4000000 in
set_option maxRecDepth 100000 in
theorem c_X6_file (l : Launch) (hst : l.stackTraces = false) (D : va_G) (cI cZ cJ cT : ClassId) (a : Nat → Nat → Nat) (sz : Nat) (U : S2) (p1 : Int32) (p2 : Int32) (o : Nat × Int32 × S2) (hf : f_X6_file U p1 p2 = some o) : vx_Met l yX6_file wsX6_file rmX6_file (va_Pc [.ref (a 0 0), .int p1, .int p2] (PX D cls (tys cI cZ cJ cT) (wI cI cZ cT a U) sz)) (QXi D cls o.1 o.2.1 (wI cI cZ cT a o.2.2) (va_A (wI cI cZ cT a U) sz)) (XX D cls o.1 (wI cI cZ cT a o.2.2) (va_A (wI cI cZ cT a U) sz)) 1 6 (va_A (wI cI cZ cT a U) sz) := by
  refine vx_ofW (cc := cX6_file) (maxL := 3) (ret := (some .int)) (by decide) rfl ?_
  intro p e s m args below meth c s₁ B hml hxt hv
  obtain ⟨hav, ⟨hsz, hP, hK, hD0⟩, hE⟩ := hv
  have hx := B.exec
  have hb := B.bytes
  have hr := B.returns
  have hlocks := B.notSynchronized
  have hts := atoms_spec (ws := wsX6_file) B.pre
  have hown : s.vm.findClass RX6 = some m.cls := findClass_of_methodNamed B.named
  subst hsz
  have hD := hD0.self (sz := s.heap.size)
  generalize hAe : va_A (wI cI cZ cT a U) s.heap.size = A at hD hE ⊢
  have hA : ∀ q : Nat, s.heap.size ≤ q → A q := fun q h => by rw [← hAe]; exact Or.inr h
  have hS : va_S A s.heap s.heap [] := va_S.rf
  have hDD : ∀ V : S2, va_D A (wI cI cZ cT a V) := fun _ => D_same (w := (wI cI cZ cT a U)) rfl hD
  refine Wq (fun Q hQ => ?_)
  refine W_entry hav (Nat.le_of_ble_eq_true rfl) (fun ls hl => ?_)
  have hl : lv_has ls 3 [(0, .ref (a 0 0)), (1, .int p1), (2, .int p2)] := hl
  unfold f_X6_file at hf
  refine W_heap hP hS (fun H locs hP hS => ?_)
  refine lv_aload_n hx hb dX6_file_0 rfl (lv_at hl 0 rfl) ?_
  refine lv_iconst (v := 0) hx hb dX6_file_1 (by decide) ?_
  refine lv_iload_n hx hb dX6_file_2 rfl (lv_at hl 1 rfl) ?_
  refine lv_iload_n hx hb dX6_file_3 rfl (lv_at hl 2 rfl) ?_
  refine lv_iconst (v := 0) hx hb dX6_file_4 (by decide) ?_
  obtain ⟨z_1, hz_1, hf⟩ := bn_some hf
  refine cXVi (As := [.int 0, .int p1, .int p2, .int 0]) (rest := []) ⟨hx, hb, hml, hown, hts⟩ (c_X6_makeThing l hst D cI cZ cJ cT a H.size U 0 p1 p2 0 z_1 hz_1) (cwV 4 hts gX6_file_X6_makeThing rfl rfl rfl (by decide +kernel) ⟨Nat.le_of_ble_eq_true rfl, Nat.le_of_ble_eq_true rfl⟩) hP hK (hDD U) hE hS (own_free (hDD U) hS hA) (va_recv hK (fl_sub hP 0 rfl) (ci := 6) (q0 := 0) rfl rfl) rfl rfl hl.1 (Nat.le_of_ble_eq_true rfl) dX6_file_5 ⟨Nat.le_of_ble_eq_true rfl, Nat.le_of_ble_eq_true rfl⟩ (fun E ce q9 H locs k_2 hE9 hP hS hce hcv hcl => ?_) (fun H locs k_2 hP hS => ?_)
  · have hf := ite_f hf k_2
    have eo := Option.some.inj hf
    have hP : va_P D cls (wI cI cZ cT a o.2.2) H := by rw [← eo]; exact hP
    rw [hQ]
    exact xout (k := o.1) hxt hlocks (by rw [← eo]; exact k_2) (by rw [← eo]; exact hE9) hP hS hce hcv hcl (Nat.le_of_ble_eq_true rfl) (Nat.le_of_ble_eq_true rfl)
  have hf := ite_t hf k_2
  have eo := Option.some.inj hf
  have hP : va_P D cls (wI cI cZ cT a o.2.2) H := by rw [← eo]; exact hP
  rw [hQ]
  refine W.widen (k := 1) (n := 6) (Nat.le_of_ble_eq_true rfl) (Nat.le_of_ble_eq_true rfl) ?_
  exact vx_ret (W.iret hx hb hr (fun t ht hW => ⟨⟨_, (), rfl, ⟨(by rw [← eo]), (by rw [← eo])⟩, P_at ht hP⟩, hS.F ht⟩) hS.2.2 dX6_file_8 hlocks)
set_option maxRecDepth 20000 in
theorem ggX6_folder_X6_makeThing : GoodIn wsX6_folder wsX6_makeThing := goodIn_ca (goodIn_ca (goodIn_ca (goodIn_r _ [5, 6, 7, 8, 9, 10, 11, 12, 13, 14, 15, 4, 16, 17, 18, 19, 20, 21, 22, 23, 24, 25, 26, 27, 28, 29, 30, 31, 32, 33, 34, 35, 36, 37, 38, 39, 40, 41, 42, 43, 44, 45, 46, 47, 48, 49, 50, 51, 52, 53, 54, 55, 56, 57, 58, 59, 60, 61, 62, 63, 64, 65, 66, 67, 68, 69, 70, 71, 72, 73, 74, 75, 76, 77, 78, 79, 80, 81, 82, 83, 84, 85, 86, 87, 88, 89, 90, 91, 92, 93, 94, 95, 96, 97, 98, 99, 100, 101, 102, 103, 104, 105, 106, 107, 108, 109, 110, 111, 112, 113, 114, 115, 116, 117, 118, 119, 120, 121, 122, 123, 124, 125, 126, 127, 128, 129, 130, 131, 132, 133, 134, 135, 136, 137, 138, 139, 140, 141, 142, 143, 144, 145, 146, 147, 148, 149, 150, 151, 152, 153, 154, 155, 156, 157, 158, 159] (by decide +kernel) (by decide +kernel)) (goodIn_sub (fun _ h => List.mem_cons_of_mem _ (List.mem_append_left _ (List.mem_append_left _ (List.mem_append_right _ h)))) (by decide +kernel))) (goodIn_sub (fun _ h => List.mem_cons_of_mem _ (List.mem_append_left _ (List.mem_append_right _ h))) (by decide +kernel))) (goodIn_sub (fun _ h => List.mem_cons_of_mem _ (List.mem_append_right _ h)) (by decide +kernel))
set_option maxRecDepth 20000 in
theorem gX6_folder_X6_makeThing : GoodIn wsX6_folder (wsV RX6 81 RX6 yX6_makeThing wsX6_makeThing) := goodIn_app (goodIn_of _ (by decide +kernel)) ggX6_folder_X6_makeThing
theorem dX6_folder_0 : decode cX6_folder 0 = .ok (.aload_n 0, 1) := by decide +kernel
theorem dX6_folder_1 : decode cX6_folder 1 = .ok (.iconst 1, 1) := by decide +kernel
theorem dX6_folder_2 : decode cX6_folder 2 = .ok (.iload_n 1, 1) := by decide +kernel
theorem dX6_folder_3 : decode cX6_folder 3 = .ok (.iload_n 2, 1) := by decide +kernel
theorem dX6_folder_4 : decode cX6_folder 4 = .ok (.iconst 0, 1) := by decide +kernel
theorem dX6_folder_5 : decode cX6_folder 5 = .ok (.invokevirtual 81, 3) := by decide +kernel
theorem dX6_folder_8 : decode cX6_folder 8 = .ok (.ireturn, 1) := by decide +kernel
def f_X6_folder (U : S2) (p1 : Int32) (p2 : Int32) : Option (Nat × Int32 × S2) := bn (f_X6_makeThing U 1 p1 p2 0) (fun z_1 => if z_1.1 = 0 then some (0, z_1.2.1, z_1.2.2) else some (z_1.1, 0, z_1.2.2))
def rmX6_folder : Room := { frames := 7, cells := 1, slots := 6, locals := 142 }
set_option maxHeartbeats 4000000 in
set_option maxRecDepth 100000 in
theorem c_X6_folder (l : Launch) (hst : l.stackTraces = false) (D : va_G) (cI cZ cJ cT : ClassId) (a : Nat → Nat → Nat) (sz : Nat) (U : S2) (p1 : Int32) (p2 : Int32) (o : Nat × Int32 × S2) (hf : f_X6_folder U p1 p2 = some o) : vx_Met l yX6_folder wsX6_folder rmX6_folder (va_Pc [.ref (a 0 0), .int p1, .int p2] (PX D cls (tys cI cZ cJ cT) (wI cI cZ cT a U) sz)) (QXi D cls o.1 o.2.1 (wI cI cZ cT a o.2.2) (va_A (wI cI cZ cT a U) sz)) (XX D cls o.1 (wI cI cZ cT a o.2.2) (va_A (wI cI cZ cT a U) sz)) 1 6 (va_A (wI cI cZ cT a U) sz) := by
  refine vx_ofW (cc := cX6_folder) (maxL := 3) (ret := (some .int)) (by decide) rfl ?_
  intro p e s m args below meth c s₁ B hml hxt hv
  obtain ⟨hav, ⟨hsz, hP, hK, hD0⟩, hE⟩ := hv
  have hx := B.exec
  have hb := B.bytes
  have hr := B.returns
  have hlocks := B.notSynchronized
  have hts := atoms_spec (ws := wsX6_folder) B.pre
  have hown : s.vm.findClass RX6 = some m.cls := findClass_of_methodNamed B.named
  subst hsz
  have hD := hD0.self (sz := s.heap.size)
  generalize hAe : va_A (wI cI cZ cT a U) s.heap.size = A at hD hE ⊢
  have hA : ∀ q : Nat, s.heap.size ≤ q → A q := fun q h => by rw [← hAe]; exact Or.inr h
  have hS : va_S A s.heap s.heap [] := va_S.rf
  have hDD : ∀ V : S2, va_D A (wI cI cZ cT a V) := fun _ => D_same (w := (wI cI cZ cT a U)) rfl hD
  refine Wq (fun Q hQ => ?_)
  refine W_entry hav (Nat.le_of_ble_eq_true rfl) (fun ls hl => ?_)
  have hl : lv_has ls 3 [(0, .ref (a 0 0)), (1, .int p1), (2, .int p2)] := hl
  unfold f_X6_folder at hf
  refine W_heap hP hS (fun H locs hP hS => ?_)
  refine lv_aload_n hx hb dX6_folder_0 rfl (lv_at hl 0 rfl) ?_
  refine lv_iconst (v := 1) hx hb dX6_folder_1 (by decide) ?_
  refine lv_iload_n hx hb dX6_folder_2 rfl (lv_at hl 1 rfl) ?_
  refine lv_iload_n hx hb dX6_folder_3 rfl (lv_at hl 2 rfl) ?_
  refine lv_iconst (v := 0) hx hb dX6_folder_4 (by decide) ?_
  obtain ⟨z_1, hz_1, hf⟩ := bn_some hf
  refine cXVi (As := [.int 1, .int p1, .int p2, .int 0]) (rest := []) ⟨hx, hb, hml, hown, hts⟩ (c_X6_makeThing l hst D cI cZ cJ cT a H.size U 1 p1 p2 0 z_1 hz_1) (cwV 4 hts gX6_folder_X6_makeThing rfl rfl rfl (by decide +kernel) ⟨Nat.le_of_ble_eq_true rfl, Nat.le_of_ble_eq_true rfl⟩) hP hK (hDD U) hE hS (own_free (hDD U) hS hA) (va_recv hK (fl_sub hP 0 rfl) (ci := 6) (q0 := 0) rfl rfl) rfl rfl hl.1 (Nat.le_of_ble_eq_true rfl) dX6_folder_5 ⟨Nat.le_of_ble_eq_true rfl, Nat.le_of_ble_eq_true rfl⟩ (fun E ce q9 H locs k_2 hE9 hP hS hce hcv hcl => ?_) (fun H locs k_2 hP hS => ?_)
  · have hf := ite_f hf k_2
    have eo := Option.some.inj hf
    have hP : va_P D cls (wI cI cZ cT a o.2.2) H := by rw [← eo]; exact hP
    rw [hQ]
    exact xout (k := o.1) hxt hlocks (by rw [← eo]; exact k_2) (by rw [← eo]; exact hE9) hP hS hce hcv hcl (Nat.le_of_ble_eq_true rfl) (Nat.le_of_ble_eq_true rfl)
  have hf := ite_t hf k_2
  have eo := Option.some.inj hf
  have hP : va_P D cls (wI cI cZ cT a o.2.2) H := by rw [← eo]; exact hP
  rw [hQ]
  refine W.widen (k := 1) (n := 6) (Nat.le_of_ble_eq_true rfl) (Nat.le_of_ble_eq_true rfl) ?_
  exact vx_ret (W.iret hx hb hr (fun t ht hW => ⟨⟨_, (), rfl, ⟨(by rw [← eo]), (by rw [← eo])⟩, P_at ht hP⟩, hS.F ht⟩) hS.2.2 dX6_folder_8 hlocks)
set_option maxRecDepth 20000 in
theorem ggX6_link_X6_makeThing : GoodIn wsX6_link wsX6_makeThing := goodIn_ca (goodIn_ca (goodIn_ca (goodIn_r _ [5, 6, 7, 8, 9, 10, 11, 12, 13, 14, 15, 4, 16, 17, 18, 19, 20, 21, 22, 23, 24, 25, 26, 27, 28, 29, 30, 31, 32, 33, 34, 35, 36, 37, 38, 39, 40, 41, 42, 43, 44, 45, 46, 47, 48, 49, 50, 51, 52, 53, 54, 55, 56, 57, 58, 59, 60, 61, 62, 63, 64, 65, 66, 67, 68, 69, 70, 71, 72, 73, 74, 75, 76, 77, 78, 79, 80, 81, 82, 83, 84, 85, 86, 87, 88, 89, 90, 91, 92, 93, 94, 95, 96, 97, 98, 99, 100, 101, 102, 103, 104, 105, 106, 107, 108, 109, 110, 111, 112, 113, 114, 115, 116, 117, 118, 119, 120, 121, 122, 123, 124, 125, 126, 127, 128, 129, 130, 131, 132, 133, 134, 135, 136, 137, 138, 139, 140, 141, 142, 143, 144, 145, 146, 147, 148, 149, 150, 151, 152, 153, 154, 155, 156, 157, 158, 159] (by decide +kernel) (by decide +kernel)) (goodIn_sub (fun _ h => List.mem_cons_of_mem _ (List.mem_append_left _ (List.mem_append_left _ (List.mem_append_right _ h)))) (by decide +kernel))) (goodIn_sub (fun _ h => List.mem_cons_of_mem _ (List.mem_append_left _ (List.mem_append_right _ h))) (by decide +kernel))) (goodIn_sub (fun _ h => List.mem_cons_of_mem _ (List.mem_append_right _ h)) (by decide +kernel))
set_option maxRecDepth 20000 in
theorem gX6_link_X6_makeThing : GoodIn wsX6_link (wsV RX6 81 RX6 yX6_makeThing wsX6_makeThing) := goodIn_app (goodIn_of _ (by decide +kernel)) ggX6_link_X6_makeThing
theorem dX6_link_0 : decode cX6_link 0 = .ok (.aload_n 0, 1) := by decide +kernel
theorem dX6_link_1 : decode cX6_link 1 = .ok (.iconst 2, 1) := by decide +kernel
theorem dX6_link_2 : decode cX6_link 2 = .ok (.iload_n 1, 1) := by decide +kernel
theorem dX6_link_3 : decode cX6_link 3 = .ok (.bipush 15, 2) := by decide +kernel
theorem dX6_link_5 : decode cX6_link 5 = .ok (.iload_n 2, 1) := by decide +kernel
theorem dX6_link_6 : decode cX6_link 6 = .ok (.invokevirtual 81, 3) := by decide +kernel
theorem dX6_link_9 : decode cX6_link 9 = .ok (.ireturn, 1) := by decide +kernel
def f_X6_link (U : S2) (p1 : Int32) (p2 : Int32) : Option (Nat × Int32 × S2) := bn (f_X6_makeThing U 2 p1 15 p2) (fun z_1 => if z_1.1 = 0 then some (0, z_1.2.1, z_1.2.2) else some (z_1.1, 0, z_1.2.2))
def rmX6_link : Room := { frames := 7, cells := 1, slots := 6, locals := 142 }
set_option maxHeartbeats 4000000 in
set_option maxRecDepth 100000 in
theorem c_X6_link (l : Launch) (hst : l.stackTraces = false) (D : va_G) (cI cZ cJ cT : ClassId) (a : Nat → Nat → Nat) (sz : Nat) (U : S2) (p1 : Int32) (p2 : Int32) (o : Nat × Int32 × S2) (hf : f_X6_link U p1 p2 = some o) : vx_Met l yX6_link wsX6_link rmX6_link (va_Pc [.ref (a 0 0), .int p1, .int p2] (PX D cls (tys cI cZ cJ cT) (wI cI cZ cT a U) sz)) (QXi D cls o.1 o.2.1 (wI cI cZ cT a o.2.2) (va_A (wI cI cZ cT a U) sz)) (XX D cls o.1 (wI cI cZ cT a o.2.2) (va_A (wI cI cZ cT a U) sz)) 1 6 (va_A (wI cI cZ cT a U) sz) := by
  refine vx_ofW (cc := cX6_link) (maxL := 3) (ret := (some .int)) (by decide) rfl ?_
  intro p e s m args below meth c s₁ B hml hxt hv
  obtain ⟨hav, ⟨hsz, hP, hK, hD0⟩, hE⟩ := hv
  have hx := B.exec
  have hb := B.bytes
  have hr := B.returns
  have hlocks := B.notSynchronized
  have hts := atoms_spec (ws := wsX6_link) B.pre
  have hown : s.vm.findClass RX6 = some m.cls := findClass_of_methodNamed B.named
  subst hsz
  have hD := hD0.self (sz := s.heap.size)
  generalize hAe : va_A (wI cI cZ cT a U) s.heap.size = A at hD hE ⊢
  have hA : ∀ q : Nat, s.heap.size ≤ q → A q := fun q h => by rw [← hAe]; exact Or.inr h
  have hS : va_S A s.heap s.heap [] := va_S.rf
  have hDD : ∀ V : S2, va_D A (wI cI cZ cT a V) := fun _ => D_same (w := (wI cI cZ cT a U)) rfl hD
  refine Wq (fun Q hQ => ?_)
  refine W_entry hav (Nat.le_of_ble_eq_true rfl) (fun ls hl => ?_)
  have hl : lv_has ls 3 [(0, .ref (a 0 0)), (1, .int p1), (2, .int p2)] := hl
  unfold f_X6_link at hf
  refine W_heap hP hS (fun H locs hP hS => ?_)
  refine lv_aload_n hx hb dX6_link_0 rfl (lv_at hl 0 rfl) ?_
  refine lv_iconst (v := 2) hx hb dX6_link_1 (by decide) ?_
  refine lv_iload_n hx hb dX6_link_2 rfl (lv_at hl 1 rfl) ?_
  refine lv_bipush (v := 15) hx hb dX6_link_3 (by decide) ?_
  refine lv_iload_n hx hb dX6_link_5 rfl (lv_at hl 2 rfl) ?_
  obtain ⟨z_1, hz_1, hf⟩ := bn_some hf
  refine cXVi (As := [.int 2, .int p1, .int 15, .int p2]) (rest := []) ⟨hx, hb, hml, hown, hts⟩ (c_X6_makeThing l hst D cI cZ cJ cT a H.size U 2 p1 15 p2 z_1 hz_1) (cwV 4 hts gX6_link_X6_makeThing rfl rfl rfl (by decide +kernel) ⟨Nat.le_of_ble_eq_true rfl, Nat.le_of_ble_eq_true rfl⟩) hP hK (hDD U) hE hS (own_free (hDD U) hS hA) (va_recv hK (fl_sub hP 0 rfl) (ci := 6) (q0 := 0) rfl rfl) rfl rfl hl.1 (Nat.le_of_ble_eq_true rfl) dX6_link_6 ⟨Nat.le_of_ble_eq_true rfl, Nat.le_of_ble_eq_true rfl⟩ (fun E ce q9 H locs k_2 hE9 hP hS hce hcv hcl => ?_) (fun H locs k_2 hP hS => ?_)
  · have hf := ite_f hf k_2
    have eo := Option.some.inj hf
    have hP : va_P D cls (wI cI cZ cT a o.2.2) H := by rw [← eo]; exact hP
    rw [hQ]
    exact xout (k := o.1) hxt hlocks (by rw [← eo]; exact k_2) (by rw [← eo]; exact hE9) hP hS hce hcv hcl (Nat.le_of_ble_eq_true rfl) (Nat.le_of_ble_eq_true rfl)
  have hf := ite_t hf k_2
  have eo := Option.some.inj hf
  have hP : va_P D cls (wI cI cZ cT a o.2.2) H := by rw [← eo]; exact hP
  rw [hQ]
  refine W.widen (k := 1) (n := 6) (Nat.le_of_ble_eq_true rfl) (Nat.le_of_ble_eq_true rfl) ?_
  exact vx_ret (W.iret hx hb hr (fun t ht hW => ⟨⟨_, (), rfl, ⟨(by rw [← eo]), (by rw [← eo])⟩, P_at ht hP⟩, hS.F ht⟩) hS.2.2 dX6_link_9 hlocks)
set_option maxRecDepth 20000 in
theorem ggX6_hard_X4_countOf : GoodIn wsX6_hard wsX4_countOf := goodIn_r _ [115, 116, 58, 59, 32, 60, 134, 135, 136, 137, 138, 139, 140, 141, 142, 143, 144, 145] (by decide +kernel) (by decide +kernel)
set_option maxRecDepth 20000 in
theorem gX6_hard_X4_countOf : GoodIn wsX6_hard (wsV RX6 119 RX4 yX4_countOf wsX4_countOf) := goodIn_app (goodIn_of _ (by decide +kernel)) ggX6_hard_X4_countOf
set_option maxRecDepth 20000 in
theorem ggX6_hard_X4_isOfKind : GoodIn wsX6_hard wsX4_isOfKind := goodIn_r _ [52, 53, 54, 55, 56, 32, 57, 58, 59, 60, 134, 135, 136, 137, 138, 139, 140, 141, 142, 143, 144, 145] (by decide +kernel) (by decide +kernel)
set_option maxRecDepth 20000 in
theorem gX6_hard_X4_isOfKind : GoodIn wsX6_hard (wsV RX6 103 RX4 yX4_isOfKind wsX4_isOfKind) := goodIn_app (goodIn_of _ (by decide +kernel)) ggX6_hard_X4_isOfKind
set_option maxRecDepth 20000 in
theorem ggX6_hard_X4_putEntry : GoodIn wsX6_hard wsX4_putEntry := goodIn_r _ [102, 43, 103, 77, 78, 32, 79, 58, 59, 60, 104, 105, 106, 107, 38, 39, 40, 41, 42, 44, 45, 46, 47, 48, 108, 109, 110, 111, 134, 135, 136, 137, 138, 139, 140, 141, 142, 143, 144, 145] (by decide +kernel) (by decide +kernel)
set_option maxRecDepth 20000 in
theorem gX6_hard_X4_putEntry : GoodIn wsX6_hard (wsV RX6 115 RX4 yX4_putEntry wsX4_putEntry) := goodIn_app (goodIn_of _ (by decide +kernel)) ggX6_hard_X4_putEntry
set_option maxRecDepth 20000 in
theorem ggX6_hard_X4_setCount : GoodIn wsX6_hard wsX4_setCount := goodIn_r _ [120, 116, 58, 59, 32, 60, 134, 135, 136, 137, 138, 139, 140, 141, 142, 143, 144, 145] (by decide +kernel) (by decide +kernel)
set_option maxRecDepth 20000 in
theorem gX6_hard_X4_setCount : GoodIn wsX6_hard (wsV RX6 122 RX4 yX4_setCount wsX4_setCount) := goodIn_app (goodIn_of _ (by decide +kernel)) ggX6_hard_X4_setCount
set_option maxRecDepth 20000 in
theorem ggX6_hard_X5_thingAt : GoodIn wsX6_hard wsX5_thingAt := goodIn_r _ [18, 19, 20, 21, 22, 17, 23, 24, 25, 26, 27, 28, 29, 30, 31, 32, 33, 34, 35, 36, 37, 38, 39, 40, 41, 42, 43, 44, 45, 46, 47, 48, 49, 50, 51, 52, 53, 54, 55, 56, 57, 58, 59, 60, 61, 62, 63, 64, 65, 132, 133, 134, 135, 136, 137, 138, 139, 140, 141, 142, 143, 144, 145] (by decide +kernel) (by decide +kernel)
set_option maxRecDepth 20000 in
theorem gX6_hard_X5_thingAt : GoodIn wsX6_hard (wsV RX6 93 RX5 yX5_thingAt wsX5_thingAt) := goodIn_app (goodIn_of _ (by decide +kernel)) ggX6_hard_X5_thingAt
set_option maxRecDepth 20000 in
theorem ggX6_hard_X6_canTakeNewName : GoodIn wsX6_hard wsX6_canTakeNewName := goodIn_r _ [74, 8, 75, 30, 31, 32, 33, 34, 35, 36, 37, 38, 39, 40, 41, 42, 43, 44, 45, 46, 47, 48, 76, 77, 78, 79, 58, 59, 60, 80, 81, 82, 11, 83, 84, 85, 86, 87, 88, 89, 90, 91, 92, 93, 94, 95, 96, 97, 98, 121, 122, 123, 124, 125, 126, 127, 128, 129, 130, 131, 134, 135, 136, 137, 138, 139, 140, 141, 142, 143, 144, 145] (by decide +kernel) (by decide +kernel)
set_option maxRecDepth 20000 in
theorem gX6_hard_X6_canTakeNewName : GoodIn wsX6_hard (wsV RX6 107 RX6 yX6_canTakeNewName wsX6_canTakeNewName) := goodIn_app (goodIn_of _ (by decide +kernel)) ggX6_hard_X6_canTakeNewName
set_option maxRecDepth 20000 in
theorem ggX6_hard_X6_folderAhead : GoodIn wsX6_hard wsX6_folderAhead := goodIn_r _ [69, 7, 8, 14, 15, 16, 17, 18, 19, 20, 21, 22, 23, 24, 25, 26, 27, 28, 29, 30, 31, 32, 33, 34, 35, 36, 37, 38, 39, 40, 41, 42, 43, 44, 45, 46, 47, 48, 49, 50, 51, 52, 53, 54, 55, 56, 57, 58, 59, 60, 61, 62, 63, 64, 65, 70, 121, 122, 123, 124, 125, 126, 127, 128, 129, 130, 131, 132, 133, 134, 135, 136, 137, 138, 139, 140, 141, 142, 143, 144, 145] (by decide +kernel) (by decide +kernel)
set_option maxRecDepth 20000 in
theorem gX6_hard_X6_folderAhead : GoodIn wsX6_hard (wsV RX6 97 RX6 yX6_folderAhead wsX6_folderAhead) := goodIn_app (goodIn_of _ (by decide +kernel)) ggX6_hard_X6_folderAhead
set_option maxRecDepth 20000 in
theorem ggX6_hard_X6_isNewPath : GoodIn wsX6_hard wsX6_isNewPath := goodIn_r _ [12, 13] (by decide +kernel) (by decide +kernel)
set_option maxRecDepth 20000 in
theorem gX6_hard_X6_isNewPath : GoodIn wsX6_hard (va_wsS RX6 85 yX6_isNewPath wsX6_isNewPath) := goodIn_app (goodIn_of _ (by decide +kernel)) ggX6_hard_X6_isNewPath
theorem dX6_hard_0 : decode cX6_hard 0 = .ok (.iload_n 1, 1) := by decide +kernel
theorem dX6_hard_1 : decode cX6_hard 1 = .ok (.invokestatic 85, 3) := by decide +kernel
theorem dX6_hard_4 : decode cX6_hard 4 = .ok (.ifCond .eq 10, 3) := by decide +kernel
theorem dX6_hard_7 : decode cX6_hard 7 = .ok (.iload_n 2, 1) := by decide +kernel
theorem dX6_hard_8 : decode cX6_hard 8 = .ok (.invokestatic 85, 3) := by decide +kernel
theorem dX6_hard_11 : decode cX6_hard 11 = .ok (.ifCond .ne 13, 3) := by decide +kernel
theorem dX6_hard_14 : decode cX6_hard 14 = .ok (.new 88, 3) := by decide +kernel
theorem dX6_hard_17 : decode cX6_hard 17 = .ok (.dup, 1) := by decide +kernel
theorem dX6_hard_18 : decode cX6_hard 18 = .ok (.ldc 90, 2) := by decide +kernel
theorem dX6_hard_20 : decode cX6_hard 20 = .ok (.invokespecial 92, 3) := by decide +kernel
theorem dX6_hard_23 : decode cX6_hard 23 = .ok (.athrow, 1) := by decide +kernel
theorem dX6_hard_24 : decode cX6_hard 24 = .ok (.aload_n 0, 1) := by decide +kernel
theorem dX6_hard_25 : decode cX6_hard 25 = .ok (.getfield 30, 3) := by decide +kernel
theorem dX6_hard_28 : decode cX6_hard 28 = .ok (.aload_n 0, 1) := by decide +kernel
theorem dX6_hard_29 : decode cX6_hard 29 = .ok (.getfield 12, 3) := by decide +kernel
theorem dX6_hard_32 : decode cX6_hard 32 = .ok (.iload_n 1, 1) := by decide +kernel
theorem dX6_hard_33 : decode cX6_hard 33 = .ok (.iconst 0, 1) := by decide +kernel
theorem dX6_hard_34 : decode cX6_hard 34 = .ok (.invokevirtual 93, 3) := by decide +kernel
theorem dX6_hard_37 : decode cX6_hard 37 = .ok (.istore_n 3, 1) := by decide +kernel
theorem dX6_hard_38 : decode cX6_hard 38 = .ok (.aload_n 0, 1) := by decide +kernel
theorem dX6_hard_39 : decode cX6_hard 39 = .ok (.iload_n 2, 1) := by decide +kernel
theorem dX6_hard_40 : decode cX6_hard 40 = .ok (.invokevirtual 97, 3) := by decide +kernel
theorem dX6_hard_43 : decode cX6_hard 43 = .ok (.istore 4, 2) := by decide +kernel
theorem dX6_hard_45 : decode cX6_hard 45 = .ok (.iload_n 2, 1) := by decide +kernel
theorem dX6_hard_46 : decode cX6_hard 46 = .ok (.bipush 100, 2) := by decide +kernel
theorem dX6_hard_48 : decode cX6_hard 48 = .ok (.irem, 1) := by decide +kernel
theorem dX6_hard_49 : decode cX6_hard 49 = .ok (.istore 5, 2) := by decide +kernel
theorem dX6_hard_51 : decode cX6_hard 51 = .ok (.iload_n 3, 1) := by decide +kernel
theorem dX6_hard_52 : decode cX6_hard 52 = .ok (.iconst (-1), 1) := by decide +kernel
theorem dX6_hard_53 : decode cX6_hard 53 = .ok (.if_icmp .eq 14, 3) := by decide +kernel
theorem dX6_hard_56 : decode cX6_hard 56 = .ok (.iload 4, 2) := by decide +kernel
theorem dX6_hard_58 : decode cX6_hard 58 = .ok (.iconst (-1), 1) := by decide +kernel
theorem dX6_hard_59 : decode cX6_hard 59 = .ok (.if_icmp .eq 8, 3) := by decide +kernel
theorem dX6_hard_62 : decode cX6_hard 62 = .ok (.iload 5, 2) := by decide +kernel
theorem dX6_hard_64 : decode cX6_hard 64 = .ok (.ifCond .ne 13, 3) := by decide +kernel
theorem dX6_hard_67 : decode cX6_hard 67 = .ok (.new 74, 3) := by decide +kernel
theorem dX6_hard_70 : decode cX6_hard 70 = .ok (.dup, 1) := by decide +kernel
theorem dX6_hard_71 : decode cX6_hard 71 = .ok (.ldc 101, 2) := by decide +kernel
theorem dX6_hard_73 : decode cX6_hard 73 = .ok (.invokespecial 78, 3) := by decide +kernel
theorem dX6_hard_76 : decode cX6_hard 76 = .ok (.athrow, 1) := by decide +kernel
theorem dX6_hard_77 : decode cX6_hard 77 = .ok (.aload_n 0, 1) := by decide +kernel
theorem dX6_hard_78 : decode cX6_hard 78 = .ok (.getfield 12, 3) := by decide +kernel
theorem dX6_hard_81 : decode cX6_hard 81 = .ok (.iload_n 3, 1) := by decide +kernel
theorem dX6_hard_82 : decode cX6_hard 82 = .ok (.iconst 1, 1) := by decide +kernel
theorem dX6_hard_83 : decode cX6_hard 83 = .ok (.invokevirtual 103, 3) := by decide +kernel
theorem dX6_hard_86 : decode cX6_hard 86 = .ok (.ifCond .ne 14, 3) := by decide +kernel
theorem dX6_hard_89 : decode cX6_hard 89 = .ok (.aload_n 0, 1) := by decide +kernel
theorem dX6_hard_90 : decode cX6_hard 90 = .ok (.iload 4, 2) := by decide +kernel
theorem dX6_hard_92 : decode cX6_hard 92 = .ok (.iload 5, 2) := by decide +kernel
theorem dX6_hard_94 : decode cX6_hard 94 = .ok (.invokevirtual 107, 3) := by decide +kernel
theorem dX6_hard_97 : decode cX6_hard 97 = .ok (.ifCond .ne 13, 3) := by decide +kernel
theorem dX6_hard_100 : decode cX6_hard 100 = .ok (.new 110, 3) := by decide +kernel
theorem dX6_hard_103 : decode cX6_hard 103 = .ok (.dup, 1) := by decide +kernel
theorem dX6_hard_104 : decode cX6_hard 104 = .ok (.ldc 112, 2) := by decide +kernel
theorem dX6_hard_106 : decode cX6_hard 106 = .ok (.invokespecial 114, 3) := by decide +kernel
theorem dX6_hard_109 : decode cX6_hard 109 = .ok (.athrow, 1) := by decide +kernel
theorem dX6_hard_110 : decode cX6_hard 110 = .ok (.aload_n 0, 1) := by decide +kernel
theorem dX6_hard_111 : decode cX6_hard 111 = .ok (.getfield 12, 3) := by decide +kernel
theorem dX6_hard_114 : decode cX6_hard 114 = .ok (.iload 4, 2) := by decide +kernel
theorem dX6_hard_116 : decode cX6_hard 116 = .ok (.iload 5, 2) := by decide +kernel
theorem dX6_hard_118 : decode cX6_hard 118 = .ok (.iload_n 3, 1) := by decide +kernel
theorem dX6_hard_119 : decode cX6_hard 119 = .ok (.invokevirtual 115, 3) := by decide +kernel
theorem dX6_hard_122 : decode cX6_hard 122 = .ok (.aload_n 0, 1) := by decide +kernel
theorem dX6_hard_123 : decode cX6_hard 123 = .ok (.getfield 12, 3) := by decide +kernel
theorem dX6_hard_126 : decode cX6_hard 126 = .ok (.iload_n 3, 1) := by decide +kernel
theorem dX6_hard_127 : decode cX6_hard 127 = .ok (.aload_n 0, 1) := by decide +kernel
theorem dX6_hard_128 : decode cX6_hard 128 = .ok (.getfield 12, 3) := by decide +kernel
theorem dX6_hard_131 : decode cX6_hard 131 = .ok (.iload_n 3, 1) := by decide +kernel
theorem dX6_hard_132 : decode cX6_hard 132 = .ok (.invokevirtual 119, 3) := by decide +kernel
theorem dX6_hard_135 : decode cX6_hard 135 = .ok (.iconst 1, 1) := by decide +kernel
theorem dX6_hard_136 : decode cX6_hard 136 = .ok (.iadd, 1) := by decide +kernel
theorem dX6_hard_137 : decode cX6_hard 137 = .ok (.invokevirtual 122, 3) := by decide +kernel
theorem dX6_hard_140 : decode cX6_hard 140 = .ok (.aload_n 0, 1) := by decide +kernel
theorem dX6_hard_141 : decode cX6_hard 141 = .ok (.getfield 12, 3) := by decide +kernel
theorem dX6_hard_144 : decode cX6_hard 144 = .ok (.iload_n 3, 1) := by decide +kernel
theorem dX6_hard_145 : decode cX6_hard 145 = .ok (.invokevirtual 119, 3) := by decide +kernel
theorem dX6_hard_148 : decode cX6_hard 148 = .ok (.ireturn, 1) := by decide +kernel
def f_X6_hard (U : S2) (p1 : Int32) (p2 : Int32) : Option (Nat × Int32 × S2) := bn (f_X6_isNewPath p1) (fun z_1 => jn (some (1, 0, U)) (fun k14_2 => if z_1 = 0 then k14_2 else bn (f_X6_isNewPath p2) (fun z_4 => if z_4 = 0 then k14_2 else bn (f_X5_thingAt (U 6) (U 1) p1 0) (fun z_6 => bv (upc U 6 z_6.2) (fun u_7 => bn (f_X6_folderAhead u_7 p2) (fun z_8 => jn (some (2, 0, z_8.2)) (fun k67_9 => if z_6.1 = (-1) then k67_9 else if z_8.1 = (-1) then k67_9 else if (p2 - p2 / 100 * 100) = 0 then k67_9 else bn (f_X4_isOfKind (z_8.2 1) z_6.1 1) (fun z_13 => jn (some (3, 0, z_8.2)) (fun k100_14 => if z_13 = 0 then bn (f_X6_canTakeNewName z_8.2 z_8.1 (p2 - p2 / 100 * 100)) (fun z_16 => if z_16 = 0 then k100_14 else bn (f_X4_putEntry (z_8.2 1) z_8.1 (p2 - p2 / 100 * 100) z_6.1) (fun z_18 => bv (upc z_8.2 1 z_18) (fun u_19 => bn (f_X4_countOf (u_19 1) z_6.1) (fun z_20 => bn (f_X4_setCount (u_19 1) z_6.1 (z_20 + 1)) (fun z_21 => bv (upc u_19 1 z_21) (fun u_22 => bn (f_X4_countOf (u_22 1) z_6.1) (fun z_23 => some (0, z_23, u_22)))))))) else k100_14)))))))))
def rmX6_hard : Room := { frames := 6, cells := 1, slots := 6, locals := 115 }
set_option maxHeartbeats 4000000 in
set_option maxRecDepth 100000 in
theorem c_X6_hard (l : Launch) (hst : l.stackTraces = false) (D : va_G) (cI cZ cJ cT : ClassId) (a : Nat → Nat → Nat) (sz : Nat) (U : S2) (p1 : Int32) (p2 : Int32) (o : Nat × Int32 × S2) (hf : f_X6_hard U p1 p2 = some o) : vx_Met l yX6_hard wsX6_hard rmX6_hard (va_Pc [.ref (a 0 0), .int p1, .int p2] (PX D cls (tys cI cZ cJ cT) (wI cI cZ cT a U) sz)) (QXi D cls o.1 o.2.1 (wI cI cZ cT a o.2.2) (va_A (wI cI cZ cT a U) sz)) (XX D cls o.1 (wI cI cZ cT a o.2.2) (va_A (wI cI cZ cT a U) sz)) 1 6 (va_A (wI cI cZ cT a U) sz) := by
  refine vx_ofW (cc := cX6_hard) (maxL := 6) (ret := (some .int)) (by decide) rfl ?_
  intro p e s m args below meth c s₁ B hml hxt hv
  obtain ⟨hav, ⟨hsz, hP, hK, hD0⟩, hE⟩ := hv
  have hx := B.exec
  have hb := B.bytes
  have hr := B.returns
  have hlocks := B.notSynchronized
  have hts := atoms_spec (ws := wsX6_hard) B.pre
  have hown : s.vm.findClass RX6 = some m.cls := findClass_of_methodNamed B.named
  have i6 : ∀ w ∈ wsX60, w ∈ wsX6_hard := fun w h => List.mem_cons_of_mem _ (List.mem_append_left _ (List.mem_append_left _ (List.mem_append_left _ (List.mem_append_left _ (List.mem_append_left _ (List.mem_append_right _ h))))))
  have hk12 := hts (.fieldLink RX6 12 "Inodery" "now" "LInodery$Tree;") (by decide +kernel)
  have hk30 := hts (.fieldLink RX6 30 "Inodery" "walk" "LInodery$Walk;") (by decide +kernel)
  subst hsz
  have hD := hD0.self (sz := s.heap.size)
  generalize hAe : va_A (wI cI cZ cT a U) s.heap.size = A at hD hE ⊢
  have hA : ∀ q : Nat, s.heap.size ≤ q → A q := fun q h => by rw [← hAe]; exact Or.inr h
  have hS : va_S A s.heap s.heap [] := va_S.rf
  have hDD : ∀ V : S2, va_D A (wI cI cZ cT a V) := fun _ => D_same (w := (wI cI cZ cT a U)) rfl hD
  refine Wq (fun Q hQ => ?_)
  refine W_entry hav (Nat.le_of_ble_eq_true rfl) (fun ls hl => ?_)
  have hl : lv_has ls 6 [(0, .ref (a 0 0)), (1, .int p1), (2, .int p2)] := hl
  unfold f_X6_hard at hf
  refine W_heap hP hS (fun H locs hP hS => ?_)
  refine lv_iload_n hx hb dX6_hard_0 rfl (lv_at hl 1 rfl) ?_
  obtain ⟨z_1, hz_1, hf⟩ := bn_some hf
  refine c0S (As := [.int p1]) (rest := []) ⟨hx, hb, hml, hown, hts⟩ (c_X6_isNewPath l D cI cZ cJ cT p1 z_1 hz_1) (va_cwS 1 hts gX6_hard_X6_isNewPath rfl rfl rfl (by decide +kernel) ⟨Nat.le_of_ble_eq_true rfl, Nat.le_of_ble_eq_true rfl⟩) rfl rfl hl.1 (Nat.le_of_ble_eq_true rfl) dX6_hard_1 ⟨Nat.le_of_ble_eq_true rfl, Nat.le_of_ble_eq_true rfl⟩ ?_
  obtain ⟨k14_2, hk14_2, hf⟩ := jn_some hf
  have j14_2 : ∀ (H : Heap) (locs : List Loc) (ls : Array Slot), k14_2 = some o → va_P D cls (wI cI cZ cT a U) H → va_S A s.heap H locs → lv_has ls 6 [] → W p l e (headSpec wsX6_hard rmX6_hard).room s m args below meth c H locs 0 0 Q (F0 m 14 ls []) := by
    intro H locs ls hf hP hS hl
    have hf := qa0 hk14_2 hf
    have eo := Option.some.inj hf
    have hP : va_P D cls (wI cI cZ cT a o.2.2) H := by rw [← eo]; exact hP
    rw [hQ]
    have hk0 : o.1 = 1 := by rw [← eo]
    exact thr o.1 (text := "path or to is out of range") (by rw [hk0]; rfl) (by rw [hk0]; decide) hx hb hst hown (by decide +kernel) (hts (.classLink RX6 88 "java/lang/IllegalArgumentException") (by decide +kernel)) (hts (.initialized "java/lang/IllegalArgumentException") (by decide +kernel)) (fun w h => hts w (List.mem_cons_of_mem _ (List.mem_append_left _ (List.mem_append_left _ (List.mem_append_right _ h))))) (EX_b1 hE) ok1 (by decide +kernel) hE hS hP (hl.1.trans hml.symm) dX6_hard_14 dX6_hard_17 dX6_hard_18 dX6_hard_20 dX6_hard_23 hxt (Nat.le_of_ble_eq_true rfl) (Nat.le_of_ble_eq_true rfl) (Nat.le_of_ble_eq_true rfl) (Nat.le_of_ble_eq_true rfl) hlocks (Nat.le_of_ble_eq_true rfl) (Nat.le_of_ble_eq_true rfl)
  refine lv_if_eq (tgt := 14) hx hb dX6_hard_4 (by decide) (fun c_3 => ?_) (fun c_3 => ?_)
  · have hf := ite_t hf c_3
    refine W.widen (k := 0) (n := 0) (Nat.le_of_ble_eq_true rfl) (Nat.le_of_ble_eq_true rfl) ?_
    exact j14_2 _ _ _ hf hP hS (lv_sub hl [] rfl)
  · have hf := ite_f hf c_3
    refine lv_iload_n hx hb dX6_hard_7 rfl (lv_at hl 2 rfl) ?_
    obtain ⟨z_4, hz_4, hf⟩ := bn_some hf
    refine c0S (As := [.int p2]) (rest := []) ⟨hx, hb, hml, hown, hts⟩ (c_X6_isNewPath l D cI cZ cJ cT p2 z_4 hz_4) (va_cwS 1 hts gX6_hard_X6_isNewPath rfl rfl rfl (by decide +kernel) ⟨Nat.le_of_ble_eq_true rfl, Nat.le_of_ble_eq_true rfl⟩) rfl rfl hl.1 (Nat.le_of_ble_eq_true rfl) dX6_hard_8 ⟨Nat.le_of_ble_eq_true rfl, Nat.le_of_ble_eq_true rfl⟩ ?_
    refine lv_if_ne (tgt := 24) hx hb dX6_hard_11 (by decide) (fun c_5 => ?_) (fun c_5 => ?_)
    · have hf := ite_f hf c_5
      refine lv_aload_n hx hb dX6_hard_24 rfl (lv_at hl 0 rfl) ?_
      refine va_get (D := D) (ci := 6) (v := .ref (a 6 0)) (C := RX6) (T := TX6) (N := 11) hx hb hts i6 hown hK (fl_sub hP 0 rfl) 0 rfl rfl 4 (by decide) hk30 (fun _ h9 => h9) rfl dX6_hard_25 ?_
      refine lv_aload_n hx hb dX6_hard_28 rfl (lv_at hl 0 rfl) ?_
      refine va_get (D := D) (ci := 6) (v := .ref (a 1 0)) (C := RX6) (T := TX6) (N := 11) hx hb hts i6 hown hK (fl_sub hP 0 rfl) 0 rfl rfl 0 (by decide) hk12 (fun _ h9 => h9) rfl dX6_hard_29 ?_
      refine lv_iload_n hx hb dX6_hard_32 rfl (lv_at hl 1 rfl) ?_
      refine lv_iconst (v := 0) hx hb dX6_hard_33 (by decide) ?_
      obtain ⟨z_6, hz_6, hf⟩ := bn_some hf
      refine cWVi (As := [.ref (a 1 0), .int p1, .int 0]) (rest := []) ⟨hx, hb, hml, hown, hts⟩ (c_X5_thingAt l D cI cZ cJ cT (a 6) (a 1) H.size (U 6) (U 1) p1 0 z_6 hz_6) (cwV 3 hts gX6_hard_X5_thingAt rfl rfl rfl (by decide +kernel) ⟨Nat.le_of_ble_eq_true rfl, Nat.le_of_ble_eq_true rfl⟩) (fl_subM hP [6, 1] rfl) hK (fl_subDM (hDD U) [6, 1] rfl rfl) hS (own_free (fl_subDM (hDD U) [6, 1] rfl rfl) hS hA) (va_recv hK (fl_sub hP 6 rfl) (ci := 5) (q0 := 0) rfl rfl) rfl rfl hl.1 (Nat.le_of_ble_eq_true rfl) dX6_hard_34 ⟨Nat.le_of_ble_eq_true rfl, Nat.le_of_ble_eq_true rfl⟩ (fun H1 locs hP1 hk1 hS => ?_)
      obtain ⟨u_7, hu_7, hf⟩ := bv_some hf
      have hP : va_P D cls (wI cI cZ cT a u_7) H1 := by rw [hu_7]; exact fl_joinM hP (hDD U) [6, 1] rfl rfl hk1 hP1
      clear hP1 hk1
      generalize H1 = H at hP hS ⊢
      refine lv_istore_n (lv' := [(3, .int z_6.1), (0, .ref (a 0 0)), (1, .int p1), (2, .int p2)]) hx hb dX6_hard_37 rfl hl (by decide) rfl (fun ls hl => ?_)
      refine lv_aload_n hx hb dX6_hard_38 rfl (lv_at hl 1 rfl) ?_
      refine lv_iload_n hx hb dX6_hard_39 rfl (lv_at hl 3 rfl) ?_
      obtain ⟨z_8, hz_8, hf⟩ := bn_some hf
      refine cWVi (As := [.int p2]) (rest := []) ⟨hx, hb, hml, hown, hts⟩ (c_X6_folderAhead l D cI cZ cJ cT a H.size u_7 p2 z_8 hz_8) (cwV 1 hts gX6_hard_X6_folderAhead rfl rfl rfl (by decide +kernel) ⟨Nat.le_of_ble_eq_true rfl, Nat.le_of_ble_eq_true rfl⟩) hP hK (hDD u_7) hS (own_free (hDD u_7) hS hA) (va_recv hK (fl_sub hP 0 rfl) (ci := 6) (q0 := 0) rfl rfl) rfl rfl hl.1 (Nat.le_of_ble_eq_true rfl) dX6_hard_40 ⟨Nat.le_of_ble_eq_true rfl, Nat.le_of_ble_eq_true rfl⟩ (fun H locs hP _ hS => ?_)
      refine lv_istore (lv' := [(4, .int z_8.1), (3, .int z_6.1), (0, .ref (a 0 0)), (1, .int p1), (2, .int p2)]) hx hb dX6_hard_43 hl (by decide) rfl (fun ls hl => ?_)
      refine lv_iload_n hx hb dX6_hard_45 rfl (lv_at hl 4 rfl) ?_
      refine lv_bipush (v := 100) hx hb dX6_hard_46 (by decide) ?_
      refine lv_irem hx hb dX6_hard_48 (by decide) ?_
      refine lv_istore (lv' := [(5, .int (p2 - p2 / 100 * 100)), (4, .int z_8.1), (3, .int z_6.1), (0, .ref (a 0 0)), (1, .int p1), (2, .int p2)]) hx hb dX6_hard_49 hl (by decide) rfl (fun ls hl => ?_)
      refine lv_iload_n hx hb dX6_hard_51 rfl (lv_at hl 2 rfl) ?_
      refine lv_iconst (v := (-1)) hx hb dX6_hard_52 (by decide) ?_
      obtain ⟨k67_9, hk67_9, hf⟩ := jn_some hf
      have j67_9 : ∀ (H : Heap) (locs : List Loc) (ls : Array Slot), k67_9 = some o → va_P D cls (wI cI cZ cT a z_8.2) H → va_S A s.heap H locs → lv_has ls 6 [] → W p l e (headSpec wsX6_hard rmX6_hard).room s m args below meth c H locs 0 0 Q (F0 m 67 ls []) := by
        intro H locs ls hf hP hS hl
        have hf := qa0 hk67_9 hf
        have eo := Option.some.inj hf
        have hP : va_P D cls (wI cI cZ cT a o.2.2) H := by rw [← eo]; exact hP
        rw [hQ]
        have hk0 : o.1 = 2 := by rw [← eo]
        exact thr o.1 (text := "no such thing or folder") (by rw [hk0]; rfl) (by rw [hk0]; decide) hx hb hst hown (by decide +kernel) (hts (.classLink RX6 74 "java/lang/IndexOutOfBoundsException") (by decide +kernel)) (hts (.initialized "java/lang/IndexOutOfBoundsException") (by decide +kernel)) (fun w h => hts w (List.mem_cons_of_mem _ (List.mem_append_left _ (List.mem_append_right _ h)))) (EX_b2 hE) ok2 (by decide +kernel) hE hS hP (hl.1.trans hml.symm) dX6_hard_67 dX6_hard_70 dX6_hard_71 dX6_hard_73 dX6_hard_76 hxt (Nat.le_of_ble_eq_true rfl) (Nat.le_of_ble_eq_true rfl) (Nat.le_of_ble_eq_true rfl) (Nat.le_of_ble_eq_true rfl) hlocks (Nat.le_of_ble_eq_true rfl) (Nat.le_of_ble_eq_true rfl)
      refine lv_icmp_eq (tgt := 67) hx hb dX6_hard_53 (by decide) (fun c_10 => ?_) (fun c_10 => ?_)
      · have hf := ite_t hf c_10
        refine W.widen (k := 0) (n := 0) (Nat.le_of_ble_eq_true rfl) (Nat.le_of_ble_eq_true rfl) ?_
        exact j67_9 _ _ _ hf hP hS (lv_sub hl [] rfl)
      · have hf := ite_f hf c_10
        refine lv_iload hx hb dX6_hard_56 (lv_at hl 1 rfl) ?_
        refine lv_iconst (v := (-1)) hx hb dX6_hard_58 (by decide) ?_
        refine lv_icmp_eq (tgt := 67) hx hb dX6_hard_59 (by decide) (fun c_11 => ?_) (fun c_11 => ?_)
        · have hf := ite_t hf c_11
          refine W.widen (k := 0) (n := 0) (Nat.le_of_ble_eq_true rfl) (Nat.le_of_ble_eq_true rfl) ?_
          exact j67_9 _ _ _ hf hP hS (lv_sub hl [] rfl)
        · have hf := ite_f hf c_11
          refine lv_iload hx hb dX6_hard_62 (lv_at hl 0 rfl) ?_
          refine lv_if_ne (tgt := 77) hx hb dX6_hard_64 (by decide) (fun c_12 => ?_) (fun c_12 => ?_)
          · have hf := ite_f hf c_12
            refine lv_aload_n hx hb dX6_hard_77 rfl (lv_at hl 3 rfl) ?_
            refine va_get (D := D) (ci := 6) (v := .ref (a 1 0)) (C := RX6) (T := TX6) (N := 11) hx hb hts i6 hown hK (fl_sub hP 0 rfl) 0 rfl rfl 0 (by decide) hk12 (fun _ h9 => h9) rfl dX6_hard_78 ?_
            refine lv_iload_n hx hb dX6_hard_81 rfl (lv_at hl 2 rfl) ?_
            refine lv_iconst (v := 1) hx hb dX6_hard_82 (by decide) ?_
            obtain ⟨z_13, hz_13, hf⟩ := bn_some hf
            refine cRV (As := [.int z_6.1, .int 1]) (rest := []) ⟨hx, hb, hml, hown, hts⟩ (c_X4_isOfKind l D cI cZ cJ cT (a 1) (z_8.2 1) z_6.1 1 z_13 hz_13) (cwV 2 hts gX6_hard_X4_isOfKind rfl rfl rfl (by decide +kernel) ⟨Nat.le_of_ble_eq_true rfl, Nat.le_of_ble_eq_true rfl⟩) (fl_sub hP 1 rfl) hK (va_recv hK (fl_sub hP 1 rfl) (ci := 4) (q0 := 0) rfl rfl) rfl rfl hl.1 (Nat.le_of_ble_eq_true rfl) dX6_hard_83 ⟨Nat.le_of_ble_eq_true rfl, Nat.le_of_ble_eq_true rfl⟩ ?_
            obtain ⟨k100_14, hk100_14, hf⟩ := jn_some hf
            have j100_14 : ∀ (H : Heap) (locs : List Loc) (ls : Array Slot), k100_14 = some o → va_P D cls (wI cI cZ cT a z_8.2) H → va_S A s.heap H locs → lv_has ls 6 [] → W p l e (headSpec wsX6_hard rmX6_hard).room s m args below meth c H locs 0 0 Q (F0 m 100 ls []) := by
              intro H locs ls hf hP hS hl
              have hf := qa0 hk100_14 hf
              have eo := Option.some.inj hf
              have hP : va_P D cls (wI cI cZ cT a o.2.2) H := by rw [← eo]; exact hP
              rw [hQ]
              have hk0 : o.1 = 3 := by rw [← eo]
              exact thr o.1 (text := "a folder, or no new name there") (by rw [hk0]; rfl) (by rw [hk0]; decide) hx hb hst hown (by decide +kernel) (hts (.classLink RX6 110 "java/lang/IllegalStateException") (by decide +kernel)) (hts (.initialized "java/lang/IllegalStateException") (by decide +kernel)) (fun w h => hts w (List.mem_cons_of_mem _ (List.mem_append_right _ h))) (EX_b3 hE) ok3 (by decide +kernel) hE hS hP (hl.1.trans hml.symm) dX6_hard_100 dX6_hard_103 dX6_hard_104 dX6_hard_106 dX6_hard_109 hxt (Nat.le_of_ble_eq_true rfl) (Nat.le_of_ble_eq_true rfl) (Nat.le_of_ble_eq_true rfl) (Nat.le_of_ble_eq_true rfl) hlocks (Nat.le_of_ble_eq_true rfl) (Nat.le_of_ble_eq_true rfl)
            refine lv_if_ne (tgt := 100) hx hb dX6_hard_86 (by decide) (fun c_15 => ?_) (fun c_15 => ?_)
            · have hf := ite_f hf c_15
              refine W.widen (k := 0) (n := 0) (Nat.le_of_ble_eq_true rfl) (Nat.le_of_ble_eq_true rfl) ?_
              exact j100_14 _ _ _ hf hP hS (lv_sub hl [] rfl)
            · have hf := ite_t hf c_15
              refine lv_aload_n hx hb dX6_hard_89 rfl (lv_at hl 3 rfl) ?_
              refine lv_iload hx hb dX6_hard_90 (lv_at hl 1 rfl) ?_
              refine lv_iload hx hb dX6_hard_92 (lv_at hl 0 rfl) ?_
              obtain ⟨z_16, hz_16, hf⟩ := bn_some hf
              refine cRV (As := [.int z_8.1, .int (p2 - p2 / 100 * 100)]) (rest := []) ⟨hx, hb, hml, hown, hts⟩ (c_X6_canTakeNewName l D cI cZ cJ cT a z_8.2 z_8.1 (p2 - p2 / 100 * 100) z_16 hz_16) (cwV 2 hts gX6_hard_X6_canTakeNewName rfl rfl rfl (by decide +kernel) ⟨Nat.le_of_ble_eq_true rfl, Nat.le_of_ble_eq_true rfl⟩) hP hK (va_recv hK (fl_sub hP 0 rfl) (ci := 6) (q0 := 0) rfl rfl) rfl rfl hl.1 (Nat.le_of_ble_eq_true rfl) dX6_hard_94 ⟨Nat.le_of_ble_eq_true rfl, Nat.le_of_ble_eq_true rfl⟩ ?_
              refine lv_if_ne (tgt := 110) hx hb dX6_hard_97 (by decide) (fun c_17 => ?_) (fun c_17 => ?_)
              · have hf := ite_f hf c_17
                refine lv_aload_n hx hb dX6_hard_110 rfl (lv_at hl 3 rfl) ?_
                refine va_get (D := D) (ci := 6) (v := .ref (a 1 0)) (C := RX6) (T := TX6) (N := 11) hx hb hts i6 hown hK (fl_sub hP 0 rfl) 0 rfl rfl 0 (by decide) hk12 (fun _ h9 => h9) rfl dX6_hard_111 ?_
                refine lv_iload hx hb dX6_hard_114 (lv_at hl 1 rfl) ?_
                refine lv_iload hx hb dX6_hard_116 (lv_at hl 0 rfl) ?_
                refine lv_iload_n hx hb dX6_hard_118 rfl (lv_at hl 2 rfl) ?_
                obtain ⟨z_18, hz_18, hf⟩ := bn_some hf
                refine cWVv (As := [.int z_8.1, .int (p2 - p2 / 100 * 100), .int z_6.1]) (rest := []) ⟨hx, hb, hml, hown, hts⟩ (c_X4_putEntry l D cI cZ cJ cT (a 1) H.size (z_8.2 1) z_8.1 (p2 - p2 / 100 * 100) z_6.1 z_18 hz_18) (cwV 3 hts gX6_hard_X4_putEntry rfl rfl rfl (by decide +kernel) ⟨Nat.le_of_ble_eq_true rfl, Nat.le_of_ble_eq_true rfl⟩) (fl_sub hP 1 rfl) hK (fl_subD (hDD z_8.2) 1 rfl) hS (fl_free (hDD z_8.2) hS hA 1 rfl) (va_recv hK (fl_sub hP 1 rfl) (ci := 4) (q0 := 0) rfl rfl) rfl rfl hl.1 (Nat.le_of_ble_eq_true rfl) dX6_hard_119 ⟨Nat.le_of_ble_eq_true rfl, Nat.le_of_ble_eq_true rfl⟩ (fun H1 locs hP1 hk1 hS => ?_)
                obtain ⟨u_19, hu_19, hf⟩ := bv_some hf
                have hP : va_P D cls (wI cI cZ cT a u_19) H1 := by rw [hu_19]; exact fl_join hP (hDD z_8.2) 1 rfl hk1 hP1
                clear hP1 hk1
                generalize H1 = H at hP hS ⊢
                refine lv_aload_n hx hb dX6_hard_122 rfl (lv_at hl 3 rfl) ?_
                refine va_get (D := D) (ci := 6) (v := .ref (a 1 0)) (C := RX6) (T := TX6) (N := 11) hx hb hts i6 hown hK (fl_sub hP 0 rfl) 0 rfl rfl 0 (by decide) hk12 (fun _ h9 => h9) rfl dX6_hard_123 ?_
                refine lv_iload_n hx hb dX6_hard_126 rfl (lv_at hl 2 rfl) ?_
                refine lv_aload_n hx hb dX6_hard_127 rfl (lv_at hl 3 rfl) ?_
                refine va_get (D := D) (ci := 6) (v := .ref (a 1 0)) (C := RX6) (T := TX6) (N := 11) hx hb hts i6 hown hK (fl_sub hP 0 rfl) 0 rfl rfl 0 (by decide) hk12 (fun _ h9 => h9) rfl dX6_hard_128 ?_
                refine lv_iload_n hx hb dX6_hard_131 rfl (lv_at hl 2 rfl) ?_
                obtain ⟨z_20, hz_20, hf⟩ := bn_some hf
                refine cRV (As := [.int z_6.1]) (rest := [.int z_6.1, .ref (a 1 0)]) ⟨hx, hb, hml, hown, hts⟩ (c_X4_countOf l D cI cZ cJ cT (a 1) (u_19 1) z_6.1 z_20 hz_20) (cwV 1 hts gX6_hard_X4_countOf rfl rfl rfl (by decide +kernel) ⟨Nat.le_of_ble_eq_true rfl, Nat.le_of_ble_eq_true rfl⟩) (fl_sub hP 1 rfl) hK (va_recv hK (fl_sub hP 1 rfl) (ci := 4) (q0 := 0) rfl rfl) rfl rfl hl.1 (Nat.le_of_ble_eq_true rfl) dX6_hard_132 ⟨Nat.le_of_ble_eq_true rfl, Nat.le_of_ble_eq_true rfl⟩ ?_
                refine lv_iconst (v := 1) hx hb dX6_hard_135 (by decide) ?_
                refine lv_iadd hx hb dX6_hard_136 ?_
                obtain ⟨z_21, hz_21, hf⟩ := bn_some hf
                refine cWVv (As := [.int z_6.1, .int (z_20 + 1)]) (rest := []) ⟨hx, hb, hml, hown, hts⟩ (c_X4_setCount l D cI cZ cJ cT (a 1) H.size (u_19 1) z_6.1 (z_20 + 1) z_21 hz_21) (cwV 2 hts gX6_hard_X4_setCount rfl rfl rfl (by decide +kernel) ⟨Nat.le_of_ble_eq_true rfl, Nat.le_of_ble_eq_true rfl⟩) (fl_sub hP 1 rfl) hK (fl_subD (hDD u_19) 1 rfl) hS (fl_free (hDD u_19) hS hA 1 rfl) (va_recv hK (fl_sub hP 1 rfl) (ci := 4) (q0 := 0) rfl rfl) rfl rfl hl.1 (Nat.le_of_ble_eq_true rfl) dX6_hard_137 ⟨Nat.le_of_ble_eq_true rfl, Nat.le_of_ble_eq_true rfl⟩ (fun H1 locs hP1 hk1 hS => ?_)
                obtain ⟨u_22, hu_22, hf⟩ := bv_some hf
                have hP : va_P D cls (wI cI cZ cT a u_22) H1 := by rw [hu_22]; exact fl_join hP (hDD u_19) 1 rfl hk1 hP1
                clear hP1 hk1
                generalize H1 = H at hP hS ⊢
                refine lv_aload_n hx hb dX6_hard_140 rfl (lv_at hl 3 rfl) ?_
                refine va_get (D := D) (ci := 6) (v := .ref (a 1 0)) (C := RX6) (T := TX6) (N := 11) hx hb hts i6 hown hK (fl_sub hP 0 rfl) 0 rfl rfl 0 (by decide) hk12 (fun _ h9 => h9) rfl dX6_hard_141 ?_
                refine lv_iload_n hx hb dX6_hard_144 rfl (lv_at hl 2 rfl) ?_
                obtain ⟨z_23, hz_23, hf⟩ := bn_some hf
                refine cRV (As := [.int z_6.1]) (rest := []) ⟨hx, hb, hml, hown, hts⟩ (c_X4_countOf l D cI cZ cJ cT (a 1) (u_22 1) z_6.1 z_23 hz_23) (cwV 1 hts gX6_hard_X4_countOf rfl rfl rfl (by decide +kernel) ⟨Nat.le_of_ble_eq_true rfl, Nat.le_of_ble_eq_true rfl⟩) (fl_sub hP 1 rfl) hK (va_recv hK (fl_sub hP 1 rfl) (ci := 4) (q0 := 0) rfl rfl) rfl rfl hl.1 (Nat.le_of_ble_eq_true rfl) dX6_hard_145 ⟨Nat.le_of_ble_eq_true rfl, Nat.le_of_ble_eq_true rfl⟩ ?_
                have eo := Option.some.inj hf
                have hP : va_P D cls (wI cI cZ cT a o.2.2) H := by rw [← eo]; exact hP
                rw [hQ]
                refine W.widen (k := 1) (n := 6) (Nat.le_of_ble_eq_true rfl) (Nat.le_of_ble_eq_true rfl) ?_
                exact vx_ret (W.iret hx hb hr (fun t ht hW => ⟨⟨_, (), rfl, ⟨(by rw [← eo]), (by rw [← eo])⟩, P_at ht hP⟩, hS.F ht⟩) hS.2.2 dX6_hard_148 hlocks)
              · have hf := ite_t hf c_17
                refine W.widen (k := 0) (n := 0) (Nat.le_of_ble_eq_true rfl) (Nat.le_of_ble_eq_true rfl) ?_
                exact j100_14 _ _ _ hf hP hS (lv_sub hl [] rfl)
          · have hf := ite_t hf c_12
            refine W.widen (k := 0) (n := 0) (Nat.le_of_ble_eq_true rfl) (Nat.le_of_ble_eq_true rfl) ?_
            exact j67_9 _ _ _ hf hP hS (lv_sub hl [] rfl)
    · have hf := ite_t hf c_5
      refine W.widen (k := 0) (n := 0) (Nat.le_of_ble_eq_true rfl) (Nat.le_of_ble_eq_true rfl) ?_
      exact j14_2 _ _ _ hf hP hS (lv_sub hl [] rfl)
set_option maxRecDepth 20000 in
theorem ggX6_canComeTo_X4_isAtOrBelow : GoodIn wsX6_canComeTo wsX4_isAtOrBelow := goodIn_r _ [23, 24, 25, 26, 5, 27, 19, 28, 29, 30, 31, 32, 33, 34, 35, 36, 48, 49, 50, 51, 52, 53, 54, 55, 56, 57, 58, 59] (by decide +kernel) (by decide +kernel)
set_option maxRecDepth 20000 in
theorem gX6_canComeTo_X4_isAtOrBelow : GoodIn wsX6_canComeTo (wsV RX6 446 RX4 yX4_isAtOrBelow wsX4_isAtOrBelow) := goodIn_app (goodIn_of _ (by decide +kernel)) ggX6_canComeTo_X4_isAtOrBelow
set_option maxRecDepth 20000 in
theorem ggX6_canComeTo_X4_isOfKind : GoodIn wsX6_canComeTo wsX4_isOfKind := goodIn_r _ [6, 7, 8, 9, 10, 5, 11, 12, 13, 14, 48, 49, 50, 51, 52, 53, 54, 55, 56, 57, 58, 59] (by decide +kernel) (by decide +kernel)
set_option maxRecDepth 20000 in
theorem gX6_canComeTo_X4_isOfKind : GoodIn wsX6_canComeTo (wsV RX6 103 RX4 yX4_isOfKind wsX4_isOfKind) := goodIn_app (goodIn_of _ (by decide +kernel)) ggX6_canComeTo_X4_isOfKind
set_option maxRecDepth 20000 in
theorem ggX6_canComeTo_X4_sizeOf : GoodIn wsX6_canComeTo wsX4_sizeOf := goodIn_r _ [18, 19, 12, 13, 5, 14, 48, 49, 50, 51, 52, 53, 54, 55, 56, 57, 58, 59] (by decide +kernel) (by decide +kernel)
set_option maxRecDepth 20000 in
theorem gX6_canComeTo_X4_sizeOf : GoodIn wsX6_canComeTo (wsV RX6 154 RX4 yX4_sizeOf wsX4_sizeOf) := goodIn_app (goodIn_of _ (by decide +kernel)) ggX6_canComeTo_X4_sizeOf
theorem dX6_canComeTo_0 : decode cX6_canComeTo 0 = .ok (.aload_n 0, 1) := by decide +kernel
theorem dX6_canComeTo_1 : decode cX6_canComeTo 1 = .ok (.getfield 12, 3) := by decide +kernel
theorem dX6_canComeTo_4 : decode cX6_canComeTo 4 = .ok (.iload_n 1, 1) := by decide +kernel
theorem dX6_canComeTo_5 : decode cX6_canComeTo 5 = .ok (.iconst 1, 1) := by decide +kernel
theorem dX6_canComeTo_6 : decode cX6_canComeTo 6 = .ok (.invokevirtual 103, 3) := by decide +kernel
theorem dX6_canComeTo_9 : decode cX6_canComeTo 9 = .ok (.ifCond .eq 61, 3) := by decide +kernel
theorem dX6_canComeTo_12 : decode cX6_canComeTo 12 = .ok (.iload_n 3, 1) := by decide +kernel
theorem dX6_canComeTo_13 : decode cX6_canComeTo 13 = .ok (.iconst (-1), 1) := by decide +kernel
theorem dX6_canComeTo_14 : decode cX6_canComeTo 14 = .ok (.if_icmp .eq 26, 3) := by decide +kernel
theorem dX6_canComeTo_17 : decode cX6_canComeTo 17 = .ok (.aload_n 0, 1) := by decide +kernel
theorem dX6_canComeTo_18 : decode cX6_canComeTo 18 = .ok (.getfield 12, 3) := by decide +kernel
theorem dX6_canComeTo_21 : decode cX6_canComeTo 21 = .ok (.iload_n 3, 1) := by decide +kernel
theorem dX6_canComeTo_22 : decode cX6_canComeTo 22 = .ok (.iconst 1, 1) := by decide +kernel
theorem dX6_canComeTo_23 : decode cX6_canComeTo 23 = .ok (.invokevirtual 103, 3) := by decide +kernel
theorem dX6_canComeTo_26 : decode cX6_canComeTo 26 = .ok (.ifCond .eq 18, 3) := by decide +kernel
theorem dX6_canComeTo_29 : decode cX6_canComeTo 29 = .ok (.aload_n 0, 1) := by decide +kernel
theorem dX6_canComeTo_30 : decode cX6_canComeTo 30 = .ok (.getfield 12, 3) := by decide +kernel
theorem dX6_canComeTo_33 : decode cX6_canComeTo 33 = .ok (.iload_n 3, 1) := by decide +kernel
theorem dX6_canComeTo_34 : decode cX6_canComeTo 34 = .ok (.invokevirtual 154, 3) := by decide +kernel
theorem dX6_canComeTo_37 : decode cX6_canComeTo 37 = .ok (.ifCond .ne 7, 3) := by decide +kernel
theorem dX6_canComeTo_40 : decode cX6_canComeTo 40 = .ok (.iconst 1, 1) := by decide +kernel
theorem dX6_canComeTo_41 : decode cX6_canComeTo 41 = .ok (.goto 4, 3) := by decide +kernel
theorem dX6_canComeTo_44 : decode cX6_canComeTo 44 = .ok (.iconst 0, 1) := by decide +kernel
theorem dX6_canComeTo_45 : decode cX6_canComeTo 45 = .ok (.istore 4, 2) := by decide +kernel
theorem dX6_canComeTo_47 : decode cX6_canComeTo 47 = .ok (.iload 4, 2) := by decide +kernel
theorem dX6_canComeTo_49 : decode cX6_canComeTo 49 = .ok (.ifCond .eq 19, 3) := by decide +kernel
theorem dX6_canComeTo_52 : decode cX6_canComeTo 52 = .ok (.aload_n 0, 1) := by decide +kernel
theorem dX6_canComeTo_53 : decode cX6_canComeTo 53 = .ok (.getfield 12, 3) := by decide +kernel
theorem dX6_canComeTo_56 : decode cX6_canComeTo 56 = .ok (.iload_n 2, 1) := by decide +kernel
theorem dX6_canComeTo_57 : decode cX6_canComeTo 57 = .ok (.iload_n 1, 1) := by decide +kernel
theorem dX6_canComeTo_58 : decode cX6_canComeTo 58 = .ok (.invokevirtual 446, 3) := by decide +kernel
theorem dX6_canComeTo_61 : decode cX6_canComeTo 61 = .ok (.ifCond .ne 7, 3) := by decide +kernel
theorem dX6_canComeTo_64 : decode cX6_canComeTo 64 = .ok (.iconst 1, 1) := by decide +kernel
theorem dX6_canComeTo_65 : decode cX6_canComeTo 65 = .ok (.goto 4, 3) := by decide +kernel
theorem dX6_canComeTo_68 : decode cX6_canComeTo 68 = .ok (.iconst 0, 1) := by decide +kernel
theorem dX6_canComeTo_69 : decode cX6_canComeTo 69 = .ok (.ireturn, 1) := by decide +kernel
theorem dX6_canComeTo_70 : decode cX6_canComeTo 70 = .ok (.aload_n 0, 1) := by decide +kernel
theorem dX6_canComeTo_71 : decode cX6_canComeTo 71 = .ok (.getfield 12, 3) := by decide +kernel
theorem dX6_canComeTo_74 : decode cX6_canComeTo 74 = .ok (.iload_n 3, 1) := by decide +kernel
theorem dX6_canComeTo_75 : decode cX6_canComeTo 75 = .ok (.iconst 1, 1) := by decide +kernel
theorem dX6_canComeTo_76 : decode cX6_canComeTo 76 = .ok (.invokevirtual 103, 3) := by decide +kernel
theorem dX6_canComeTo_79 : decode cX6_canComeTo 79 = .ok (.ifCond .ne 7, 3) := by decide +kernel
theorem dX6_canComeTo_82 : decode cX6_canComeTo 82 = .ok (.iconst 1, 1) := by decide +kernel
theorem dX6_canComeTo_83 : decode cX6_canComeTo 83 = .ok (.goto 4, 3) := by decide +kernel
theorem dX6_canComeTo_86 : decode cX6_canComeTo 86 = .ok (.iconst 0, 1) := by decide +kernel
theorem dX6_canComeTo_87 : decode cX6_canComeTo 87 = .ok (.ireturn, 1) := by decide +kernel
def f_X6_canComeTo (U : S2) (p1 : Int32) (p2 : Int32) (p3 : Int32) : Option (Int32) := bn (f_X4_isOfKind (U 1) p1 1) (fun z_1 => if z_1 = 0 then bn (f_X4_isOfKind (U 1) p3 1) (fun z_3 => jn (fun (v87_4_0 : Int32) => some (vp_nar .boolean v87_4_0)) (fun k87_4 => if z_3 = 0 then k87_4 1 else k87_4 0)) else jn (fun (v45_6_0 : Int32) => jn (fun (v69_7_0 : Int32) => some (vp_nar .boolean v69_7_0)) (fun k69_7 => jn (k69_7 0) (fun k68_8 => if v45_6_0 = 0 then k68_8 else bn (f_X4_isAtOrBelow (U 1) p2 p1) (fun z_10 => if z_10 = 0 then k69_7 1 else k68_8)))) (fun k45_6 => jn (k45_6 1) (fun k40_12 => if p3 = (-1) then k40_12 else bn (f_X4_isOfKind (U 1) p3 1) (fun z_14 => jn (k45_6 0) (fun k44_15 => if z_14 = 0 then k44_15 else bn (f_X4_sizeOf (U 1) p3) (fun z_17 => if z_17 = 0 then k40_12 else k44_15))))))
def rmX6_canComeTo : Room := { frames := 4, cells := 0, slots := 0, locals := 91 }
set_option maxHeartbeats 4000000 in
set_option maxRecDepth 100000 in
theorem c_X6_canComeTo (l : Launch) (D : va_G) (cI cZ cJ cT : ClassId) (a : Nat → Nat → Nat) (U : S2) (p1 : Int32) (p2 : Int32) (p3 : Int32) (o : Int32) (hf : f_X6_canComeTo U p1 p2 p3 = some o) : Met l yX6_canComeTo wsX6_canComeTo rmX6_canComeTo (va_Pc [.ref (a 0 0), .int p1, .int p2, .int p3] (PR D cls (tys cI cZ cJ cT) (wI cI cZ cT a U))) (QR o) 0 0 (fun _ => False) := by
  refine Met.ofW (cc := cX6_canComeTo) (maxL := 5) (ret := (some .boolean)) (by decide) rfl ?_
  intro p e s m args below meth c s₁ B hml hv
  obtain ⟨hav, hP, hK⟩ := hv
  have hx := B.exec
  have hb := B.bytes
  have hr := B.returns
  have hlocks := B.notSynchronized
  have hts := atoms_spec (ws := wsX6_canComeTo) B.pre
  have hown : s.vm.findClass RX6 = some m.cls := findClass_of_methodNamed B.named
  have i6 : ∀ w ∈ wsX60, w ∈ wsX6_canComeTo := fun w h => List.mem_cons_of_mem _ (List.mem_append_left _ (List.mem_append_right _ h))
  have hk12 := hts (.fieldLink RX6 12 "Inodery" "now" "LInodery$Tree;") (by decide +kernel)
  refine Wq (fun Q hQ => ?_)
  refine W_entry hav (Nat.le_of_ble_eq_true rfl) (fun ls hl => ?_)
  have hl : lv_has ls 5 [(0, .ref (a 0 0)), (1, .int p1), (2, .int p2), (3, .int p3)] := hl
  unfold f_X6_canComeTo at hf
  refine lv_aload_n hx hb dX6_canComeTo_0 rfl (lv_at hl 0 rfl) ?_
  refine va_get (D := D) (ci := 6) (v := .ref (a 1 0)) (C := RX6) (T := TX6) (N := 11) hx hb hts i6 hown hK (fl_sub hP 0 rfl) 0 rfl rfl 0 (by decide) hk12 (fun _ h9 => h9) rfl dX6_canComeTo_1 ?_
  refine lv_iload_n hx hb dX6_canComeTo_4 rfl (lv_at hl 1 rfl) ?_
  refine lv_iconst (v := 1) hx hb dX6_canComeTo_5 (by decide) ?_
  obtain ⟨z_1, hz_1, hf⟩ := bn_some hf
  refine cRV (As := [.int p1, .int 1]) (rest := []) ⟨hx, hb, hml, hown, hts⟩ (c_X4_isOfKind l D cI cZ cJ cT (a 1) (U 1) p1 1 z_1 hz_1) (cwV 2 hts gX6_canComeTo_X4_isOfKind rfl rfl rfl (by decide +kernel) ⟨Nat.le_of_ble_eq_true rfl, Nat.le_of_ble_eq_true rfl⟩) (fl_sub hP 1 rfl) hK (va_recv hK (fl_sub hP 1 rfl) (ci := 4) (q0 := 0) rfl rfl) rfl rfl hl.1 (Nat.le_of_ble_eq_true rfl) dX6_canComeTo_6 ⟨Nat.le_of_ble_eq_true rfl, Nat.le_of_ble_eq_true rfl⟩ ?_
  refine lv_if_eq (tgt := 70) hx hb dX6_canComeTo_9 (by decide) (fun c_2 => ?_) (fun c_2 => ?_)
  · have hf := ite_t hf c_2
    refine lv_aload_n hx hb dX6_canComeTo_70 rfl (lv_at hl 0 rfl) ?_
    refine va_get (D := D) (ci := 6) (v := .ref (a 1 0)) (C := RX6) (T := TX6) (N := 11) hx hb hts i6 hown hK (fl_sub hP 0 rfl) 0 rfl rfl 0 (by decide) hk12 (fun _ h9 => h9) rfl dX6_canComeTo_71 ?_
    refine lv_iload_n hx hb dX6_canComeTo_74 rfl (lv_at hl 3 rfl) ?_
    refine lv_iconst (v := 1) hx hb dX6_canComeTo_75 (by decide) ?_
    obtain ⟨z_3, hz_3, hf⟩ := bn_some hf
    refine cRV (As := [.int p3, .int 1]) (rest := []) ⟨hx, hb, hml, hown, hts⟩ (c_X4_isOfKind l D cI cZ cJ cT (a 1) (U 1) p3 1 z_3 hz_3) (cwV 2 hts gX6_canComeTo_X4_isOfKind rfl rfl rfl (by decide +kernel) ⟨Nat.le_of_ble_eq_true rfl, Nat.le_of_ble_eq_true rfl⟩) (fl_sub hP 1 rfl) hK (va_recv hK (fl_sub hP 1 rfl) (ci := 4) (q0 := 0) rfl rfl) rfl rfl hl.1 (Nat.le_of_ble_eq_true rfl) dX6_canComeTo_76 ⟨Nat.le_of_ble_eq_true rfl, Nat.le_of_ble_eq_true rfl⟩ ?_
    obtain ⟨k87_4, hk87_4, hf⟩ := jn_some hf
    have j87_4 : ∀ (v87_4_0 : Int32) (ls : Array Slot), k87_4 v87_4_0 = some o → lv_has ls 5 [] → W p l e (headSpec wsX6_canComeTo rmX6_canComeTo).room s m args below meth c s.heap [] 0 0 Q (F0 m 87 ls [.int v87_4_0]) := by
      intro v87_4_0 ls hf hl
      have hf := qa1 hk87_4 hf
      rw [hQ]
      exact zretN (v := v87_4_0) (v' := vp_nar .boolean v87_4_0) hx hb hr rfl (fun t ht hW => ⟨_, rfl, Option.some.inj hf, ht⟩) (fun _ h => nomatch h) dX6_canComeTo_87 hlocks
    refine lv_if_ne (tgt := 86) hx hb dX6_canComeTo_79 (by decide) (fun c_5 => ?_) (fun c_5 => ?_)
    · have hf := ite_f hf c_5
      refine lv_iconst (v := 0) hx hb dX6_canComeTo_86 (by decide) ?_
      exact j87_4 _ _ hf (lv_sub hl [] rfl)
    · have hf := ite_t hf c_5
      refine lv_iconst (v := 1) hx hb dX6_canComeTo_82 (by decide) ?_
      refine lv_goto (tgt := 87) hx hb dX6_canComeTo_83 (by decide) ?_
      exact j87_4 _ _ hf (lv_sub hl [] rfl)
  · have hf := ite_f hf c_2
    refine lv_iload_n hx hb dX6_canComeTo_12 rfl (lv_at hl 3 rfl) ?_
    refine lv_iconst (v := (-1)) hx hb dX6_canComeTo_13 (by decide) ?_
    obtain ⟨k45_6, hk45_6, hf⟩ := jn_some hf
    have j45_6 : ∀ (v45_6_0 : Int32) (ls : Array Slot), k45_6 v45_6_0 = some o → lv_has ls 5 [(0, .ref (a 0 0)), (1, .int p1), (2, .int p2)] → W p l e (headSpec wsX6_canComeTo rmX6_canComeTo).room s m args below meth c s.heap [] 0 0 Q (F0 m 45 ls [.int v45_6_0]) := by
      intro v45_6_0 ls hf hl
      have hf := qa1 hk45_6 hf
      refine lv_istore (lv' := [(4, .int v45_6_0), (0, .ref (a 0 0)), (1, .int p1), (2, .int p2)]) hx hb dX6_canComeTo_45 hl (by decide) rfl (fun ls hl => ?_)
      refine lv_iload hx hb dX6_canComeTo_47 (lv_at hl 0 rfl) ?_
      obtain ⟨k69_7, hk69_7, hf⟩ := jn_some hf
      have j69_7 : ∀ (v69_7_0 : Int32) (ls : Array Slot), k69_7 v69_7_0 = some o → lv_has ls 5 [] → W p l e (headSpec wsX6_canComeTo rmX6_canComeTo).room s m args below meth c s.heap [] 0 0 Q (F0 m 69 ls [.int v69_7_0]) := by
        intro v69_7_0 ls hf hl
        have hf := qa1 hk69_7 hf
        rw [hQ]
        exact zretN (v := v69_7_0) (v' := vp_nar .boolean v69_7_0) hx hb hr rfl (fun t ht hW => ⟨_, rfl, Option.some.inj hf, ht⟩) (fun _ h => nomatch h) dX6_canComeTo_69 hlocks
      obtain ⟨k68_8, hk68_8, hf⟩ := jn_some hf
      have j68_8 : ∀ (ls : Array Slot), k68_8 = some o → lv_has ls 5 [] → W p l e (headSpec wsX6_canComeTo rmX6_canComeTo).room s m args below meth c s.heap [] 0 0 Q (F0 m 68 ls []) := by
        intro ls hf hl
        have hf := qa0 hk68_8 hf
        refine lv_iconst (v := 0) hx hb dX6_canComeTo_68 (by decide) ?_
        exact j69_7 _ _ hf (lv_sub hl [] rfl)
      refine lv_if_eq (tgt := 68) hx hb dX6_canComeTo_49 (by decide) (fun c_9 => ?_) (fun c_9 => ?_)
      · have hf := ite_t hf c_9
        exact j68_8 _ hf (lv_sub hl [] rfl)
      · have hf := ite_f hf c_9
        refine lv_aload_n hx hb dX6_canComeTo_52 rfl (lv_at hl 1 rfl) ?_
        refine va_get (D := D) (ci := 6) (v := .ref (a 1 0)) (C := RX6) (T := TX6) (N := 11) hx hb hts i6 hown hK (fl_sub hP 0 rfl) 0 rfl rfl 0 (by decide) hk12 (fun _ h9 => h9) rfl dX6_canComeTo_53 ?_
        refine lv_iload_n hx hb dX6_canComeTo_56 rfl (lv_at hl 3 rfl) ?_
        refine lv_iload_n hx hb dX6_canComeTo_57 rfl (lv_at hl 2 rfl) ?_
        obtain ⟨z_10, hz_10, hf⟩ := bn_some hf
        refine cRV (As := [.int p2, .int p1]) (rest := []) ⟨hx, hb, hml, hown, hts⟩ (c_X4_isAtOrBelow l D cI cZ cJ cT (a 1) (U 1) p2 p1 z_10 hz_10) (cwV 2 hts gX6_canComeTo_X4_isAtOrBelow rfl rfl rfl (by decide +kernel) ⟨Nat.le_of_ble_eq_true rfl, Nat.le_of_ble_eq_true rfl⟩) (fl_sub hP 1 rfl) hK (va_recv hK (fl_sub hP 1 rfl) (ci := 4) (q0 := 0) rfl rfl) rfl rfl hl.1 (Nat.le_of_ble_eq_true rfl) dX6_canComeTo_58 ⟨Nat.le_of_ble_eq_true rfl, Nat.le_of_ble_eq_true rfl⟩ ?_
        refine lv_if_ne (tgt := 68) hx hb dX6_canComeTo_61 (by decide) (fun c_11 => ?_) (fun c_11 => ?_)
        · have hf := ite_f hf c_11
          exact j68_8 _ hf (lv_sub hl [] rfl)
        · have hf := ite_t hf c_11
          refine lv_iconst (v := 1) hx hb dX6_canComeTo_64 (by decide) ?_
          refine lv_goto (tgt := 69) hx hb dX6_canComeTo_65 (by decide) ?_
          exact j69_7 _ _ hf (lv_sub hl [] rfl)
    obtain ⟨k40_12, hk40_12, hf⟩ := jn_some hf
    have j40_12 : ∀ (ls : Array Slot), k40_12 = some o → lv_has ls 5 [(0, .ref (a 0 0)), (1, .int p1), (2, .int p2)] → W p l e (headSpec wsX6_canComeTo rmX6_canComeTo).room s m args below meth c s.heap [] 0 0 Q (F0 m 40 ls []) := by
      intro ls hf hl
      have hf := qa0 hk40_12 hf
      refine lv_iconst (v := 1) hx hb dX6_canComeTo_40 (by decide) ?_
      refine lv_goto (tgt := 45) hx hb dX6_canComeTo_41 (by decide) ?_
      exact j45_6 _ _ hf (lv_sub hl [0, 1, 2] rfl)
    refine lv_icmp_eq (tgt := 40) hx hb dX6_canComeTo_14 (by decide) (fun c_13 => ?_) (fun c_13 => ?_)
    · have hf := ite_t hf c_13
      exact j40_12 _ hf (lv_sub hl [0, 1, 2] rfl)
    · have hf := ite_f hf c_13
      refine lv_aload_n hx hb dX6_canComeTo_17 rfl (lv_at hl 0 rfl) ?_
      refine va_get (D := D) (ci := 6) (v := .ref (a 1 0)) (C := RX6) (T := TX6) (N := 11) hx hb hts i6 hown hK (fl_sub hP 0 rfl) 0 rfl rfl 0 (by decide) hk12 (fun _ h9 => h9) rfl dX6_canComeTo_18 ?_
      refine lv_iload_n hx hb dX6_canComeTo_21 rfl (lv_at hl 3 rfl) ?_
      refine lv_iconst (v := 1) hx hb dX6_canComeTo_22 (by decide) ?_
      obtain ⟨z_14, hz_14, hf⟩ := bn_some hf
      refine cRV (As := [.int p3, .int 1]) (rest := []) ⟨hx, hb, hml, hown, hts⟩ (c_X4_isOfKind l D cI cZ cJ cT (a 1) (U 1) p3 1 z_14 hz_14) (cwV 2 hts gX6_canComeTo_X4_isOfKind rfl rfl rfl (by decide +kernel) ⟨Nat.le_of_ble_eq_true rfl, Nat.le_of_ble_eq_true rfl⟩) (fl_sub hP 1 rfl) hK (va_recv hK (fl_sub hP 1 rfl) (ci := 4) (q0 := 0) rfl rfl) rfl rfl hl.1 (Nat.le_of_ble_eq_true rfl) dX6_canComeTo_23 ⟨Nat.le_of_ble_eq_true rfl, Nat.le_of_ble_eq_true rfl⟩ ?_
      obtain ⟨k44_15, hk44_15, hf⟩ := jn_some hf
      have j44_15 : ∀ (ls : Array Slot), k44_15 = some o → lv_has ls 5 [(0, .ref (a 0 0)), (1, .int p1), (2, .int p2)] → W p l e (headSpec wsX6_canComeTo rmX6_canComeTo).room s m args below meth c s.heap [] 0 0 Q (F0 m 44 ls []) := by
        intro ls hf hl
        have hf := qa0 hk44_15 hf
        refine lv_iconst (v := 0) hx hb dX6_canComeTo_44 (by decide) ?_
        exact j45_6 _ _ hf (lv_sub hl [0, 1, 2] rfl)
      refine lv_if_eq (tgt := 44) hx hb dX6_canComeTo_26 (by decide) (fun c_16 => ?_) (fun c_16 => ?_)
      · have hf := ite_t hf c_16
        exact j44_15 _ hf (lv_sub hl [0, 1, 2] rfl)
      · have hf := ite_f hf c_16
        refine lv_aload_n hx hb dX6_canComeTo_29 rfl (lv_at hl 0 rfl) ?_
        refine va_get (D := D) (ci := 6) (v := .ref (a 1 0)) (C := RX6) (T := TX6) (N := 11) hx hb hts i6 hown hK (fl_sub hP 0 rfl) 0 rfl rfl 0 (by decide) hk12 (fun _ h9 => h9) rfl dX6_canComeTo_30 ?_
        refine lv_iload_n hx hb dX6_canComeTo_33 rfl (lv_at hl 3 rfl) ?_
        obtain ⟨z_17, hz_17, hf⟩ := bn_some hf
        refine cRV (As := [.int p3]) (rest := []) ⟨hx, hb, hml, hown, hts⟩ (c_X4_sizeOf l D cI cZ cJ cT (a 1) (U 1) p3 z_17 hz_17) (cwV 1 hts gX6_canComeTo_X4_sizeOf rfl rfl rfl (by decide +kernel) ⟨Nat.le_of_ble_eq_true rfl, Nat.le_of_ble_eq_true rfl⟩) (fl_sub hP 1 rfl) hK (va_recv hK (fl_sub hP 1 rfl) (ci := 4) (q0 := 0) rfl rfl) rfl rfl hl.1 (Nat.le_of_ble_eq_true rfl) dX6_canComeTo_34 ⟨Nat.le_of_ble_eq_true rfl, Nat.le_of_ble_eq_true rfl⟩ ?_
        refine lv_if_ne (tgt := 44) hx hb dX6_canComeTo_37 (by decide) (fun c_18 => ?_) (fun c_18 => ?_)
        · have hf := ite_f hf c_18
          exact j44_15 _ hf (lv_sub hl [0, 1, 2] rfl)
        · have hf := ite_t hf c_18
          exact j40_12 _ hf (lv_sub hl [0, 1, 2] rfl)
