set_option maxRecDepth 20000 in
theorem ggX6_unlock_X3_countLocked : GoodIn wsX6_unlock wsX3_countLocked := goodIn_r _ [43, 44, 45, 46, 22, 47, 48, 39, 20, 21, 23, 24, 64, 65, 66, 67, 68] (by decide +kernel) (by decide +kernel)
set_option maxRecDepth 20000 in
theorem gX6_unlock_X3_countLocked : GoodIn wsX6_unlock (wsV RX6 278 RX3 yX3_countLocked wsX3_countLocked) := goodIn_app (goodIn_of _ (by decide +kernel)) ggX6_unlock_X3_countLocked
set_option maxRecDepth 20000 in
theorem ggX6_unlock_X3_setLocks : GoodIn wsX6_unlock wsX3_setLocks := goodIn_r _ [52, 48, 39, 20, 21, 22, 23, 24, 64, 65, 66, 67, 68] (by decide +kernel) (by decide +kernel)
set_option maxRecDepth 20000 in
theorem gX6_unlock_X3_setLocks : GoodIn wsX6_unlock (wsV RX6 281 RX3 yX3_setLocks wsX3_setLocks) := goodIn_app (goodIn_of _ (by decide +kernel)) ggX6_unlock_X3_setLocks
set_option maxRecDepth 20000 in
theorem ggX6_unlock_X6_demandHandleAndPages : GoodIn wsX6_unlock wsX6_demandHandleAndPages := goodIn_ca (goodIn_ca (goodIn_r _ [6, 7, 8, 9, 10, 11, 5, 12, 13, 14, 15, 16, 17, 18, 1, 19, 20, 21, 22, 23, 24, 25, 26, 27, 53, 54, 55, 56, 57, 58, 59, 60, 61, 62, 63, 64, 65, 66, 67, 68] (by decide +kernel) (by decide +kernel)) (goodIn_sub (fun _ h => List.mem_cons_of_mem _ (List.mem_append_left _ (List.mem_append_left _ (List.mem_append_right _ h)))) (by decide +kernel))) (goodIn_sub (fun _ h => List.mem_cons_of_mem _ (List.mem_append_left _ (List.mem_append_right _ h))) (by decide +kernel))
set_option maxRecDepth 20000 in
theorem gX6_unlock_X6_demandHandleAndPages : GoodIn wsX6_unlock (wsV RX6 247 RX6 yX6_demandHandleAndPages wsX6_demandHandleAndPages) := goodIn_app (goodIn_of _ (by decide +kernel)) ggX6_unlock_X6_demandHandleAndPages
set_option maxRecDepth 20000 in
theorem ggX6_unlock_X6_demandOpen : GoodIn wsX6_unlock wsX6_demandOpen := goodIn_ca (goodIn_r _ [31, 32, 33, 1, 34, 35, 36, 22, 37, 38, 39, 20, 21, 23, 24, 53, 54, 55, 56, 57, 58, 59, 60, 61, 62, 63, 64, 65, 66, 67, 68] (by decide +kernel) (by decide +kernel)) (goodIn_sub (fun _ h => List.mem_cons_of_mem _ (List.mem_append_right _ h)) (by decide +kernel))
set_option maxRecDepth 20000 in
theorem gX6_unlock_X6_demandOpen : GoodIn wsX6_unlock (wsV RX6 202 RX6 yX6_demandOpen wsX6_demandOpen) := goodIn_app (goodIn_of _ (by decide +kernel)) ggX6_unlock_X6_demandOpen
theorem dX6_unlock_0 : decode cX6_unlock 0 = .ok (.aload_n 0, 1) := by decide +kernel
theorem dX6_unlock_1 : decode cX6_unlock 1 = .ok (.iload_n 1, 1) := by decide +kernel
theorem dX6_unlock_2 : decode cX6_unlock 2 = .ok (.iload_n 2, 1) := by decide +kernel
theorem dX6_unlock_3 : decode cX6_unlock 3 = .ok (.iload_n 3, 1) := by decide +kernel
theorem dX6_unlock_4 : decode cX6_unlock 4 = .ok (.invokevirtual 247, 3) := by decide +kernel
theorem dX6_unlock_7 : decode cX6_unlock 7 = .ok (.aload_n 0, 1) := by decide +kernel
theorem dX6_unlock_8 : decode cX6_unlock 8 = .ok (.iload_n 1, 1) := by decide +kernel
theorem dX6_unlock_9 : decode cX6_unlock 9 = .ok (.invokevirtual 202, 3) := by decide +kernel
theorem dX6_unlock_12 : decode cX6_unlock 12 = .ok (.aload_n 0, 1) := by decide +kernel
theorem dX6_unlock_13 : decode cX6_unlock 13 = .ok (.getfield 51, 3) := by decide +kernel
theorem dX6_unlock_16 : decode cX6_unlock 16 = .ok (.iload_n 1, 1) := by decide +kernel
theorem dX6_unlock_17 : decode cX6_unlock 17 = .ok (.iload_n 2, 1) := by decide +kernel
theorem dX6_unlock_18 : decode cX6_unlock 18 = .ok (.iload_n 3, 1) := by decide +kernel
theorem dX6_unlock_19 : decode cX6_unlock 19 = .ok (.iconst 0, 1) := by decide +kernel
theorem dX6_unlock_20 : decode cX6_unlock 20 = .ok (.invokevirtual 278, 3) := by decide +kernel
theorem dX6_unlock_23 : decode cX6_unlock 23 = .ok (.istore 4, 2) := by decide +kernel
theorem dX6_unlock_25 : decode cX6_unlock 25 = .ok (.aload_n 0, 1) := by decide +kernel
theorem dX6_unlock_26 : decode cX6_unlock 26 = .ok (.getfield 51, 3) := by decide +kernel
theorem dX6_unlock_29 : decode cX6_unlock 29 = .ok (.iload_n 1, 1) := by decide +kernel
theorem dX6_unlock_30 : decode cX6_unlock 30 = .ok (.iload_n 2, 1) := by decide +kernel
theorem dX6_unlock_31 : decode cX6_unlock 31 = .ok (.iload_n 3, 1) := by decide +kernel
theorem dX6_unlock_32 : decode cX6_unlock 32 = .ok (.iconst 0, 1) := by decide +kernel
theorem dX6_unlock_33 : decode cX6_unlock 33 = .ok (.invokevirtual 281, 3) := by decide +kernel
theorem dX6_unlock_36 : decode cX6_unlock 36 = .ok (.iload_n 3, 1) := by decide +kernel
theorem dX6_unlock_37 : decode cX6_unlock 37 = .ok (.iload_n 2, 1) := by decide +kernel
theorem dX6_unlock_38 : decode cX6_unlock 38 = .ok (.isub, 1) := by decide +kernel
theorem dX6_unlock_39 : decode cX6_unlock 39 = .ok (.iconst 1, 1) := by decide +kernel
theorem dX6_unlock_40 : decode cX6_unlock 40 = .ok (.iadd, 1) := by decide +kernel
theorem dX6_unlock_41 : decode cX6_unlock 41 = .ok (.iload 4, 2) := by decide +kernel
theorem dX6_unlock_43 : decode cX6_unlock 43 = .ok (.isub, 1) := by decide +kernel
theorem dX6_unlock_44 : decode cX6_unlock 44 = .ok (.ireturn, 1) := by decide +kernel
def f_X6_unlock (U : S2) (p1 : Int32) (p2 : Int32) (p3 : Int32) : Option (Nat × Int32 × S2) := bn (f_X6_demandHandleAndPages U p1 p2 p3) (fun z_1 => if z_1.1 = 0 then bn (f_X6_demandOpen z_1.2.2 p1) (fun z_3 => if z_3.1 = 0 then bn (f_X3_countLocked (z_3.2.2 9) p1 p2 p3 0) (fun z_5 => bn (f_X3_setLocks (z_3.2.2 9) p1 p2 p3 0) (fun z_6 => bv (upc z_3.2.2 9 z_6) (fun u_7 => some (0, ((p3 - p2) + 1) - z_5, u_7)))) else some (z_3.1, 0, z_3.2.2)) else some (z_1.1, 0, z_1.2.2))
def rmX6_unlock : Room := { frames := 9, cells := 6, slots := 36, locals := 156 }
set_option maxHeartbeats 4000000 in
set_option maxRecDepth 100000 in
theorem c_X6_unlock (l : Launch) (hst : l.stackTraces = false) (D : va_G) (cI cZ cJ cT : ClassId) (a : Nat → Nat → Nat) (sz : Nat) (U : S2) (p1 : Int32) (p2 : Int32) (p3 : Int32) (o : Nat × Int32 × S2) (hf : f_X6_unlock U p1 p2 p3 = some o) : vx_Met l yX6_unlock wsX6_unlock rmX6_unlock (va_Pc [.ref (a 0 0), .int p1, .int p2, .int p3] (PX D cls (tys cI cZ cJ cT) (wI cI cZ cT a U) sz)) (QXi D cls o.1 o.2.1 (wI cI cZ cT a o.2.2) (va_A (wI cI cZ cT a U) sz)) (XX D cls o.1 (wI cI cZ cT a o.2.2) (va_A (wI cI cZ cT a U) sz)) 6 36 (va_A (wI cI cZ cT a U) sz) := by
  refine vx_ofW (cc := cX6_unlock) (maxL := 5) (ret := (some .int)) (by decide) rfl ?_
  intro p e s m args below meth c s₁ B hml hxt hv
  obtain ⟨hav, ⟨hsz, hP, hK, hD0⟩, hE⟩ := hv
  have hx := B.exec
  have hb := B.bytes
  have hr := B.returns
  have hlocks := B.notSynchronized
  have hts := atoms_spec (ws := wsX6_unlock) B.pre
  have hown : s.vm.findClass RX6 = some m.cls := findClass_of_methodNamed B.named
  have i6 : ∀ w ∈ wsX60, w ∈ wsX6_unlock := fun w h => List.mem_cons_of_mem _ (List.mem_append_left _ (List.mem_append_left _ (List.mem_append_left _ (List.mem_append_left _ (List.mem_append_right _ h)))))
  have hk51 := hts (.fieldLink RX6 51 "Inodery" "handles" "LInodery$Handles;") (by decide +kernel)
  subst hsz
  have hD := hD0.self (sz := s.heap.size)
  generalize hAe : va_A (wI cI cZ cT a U) s.heap.size = A at hD hE ⊢
  have hA : ∀ q : Nat, s.heap.size ≤ q → A q := fun q h => by rw [← hAe]; exact Or.inr h
  have hS : va_S A s.heap s.heap [] := va_S.rf
  have hDD : ∀ V : S2, va_D A (wI cI cZ cT a V) := fun _ => D_same (w := (wI cI cZ cT a U)) rfl hD
  refine Wq (fun Q hQ => ?_)
  refine W_entry hav (Nat.le_of_ble_eq_true rfl) (fun ls hl => ?_)
  have hl : lv_has ls 5 [(0, .ref (a 0 0)), (1, .int p1), (2, .int p2), (3, .int p3)] := hl
  unfold f_X6_unlock at hf
  refine W_heap hP hS (fun H locs hP hS => ?_)
  refine lv_aload_n hx hb dX6_unlock_0 rfl (lv_at hl 0 rfl) ?_
  refine lv_iload_n hx hb dX6_unlock_1 rfl (lv_at hl 1 rfl) ?_
  refine lv_iload_n hx hb dX6_unlock_2 rfl (lv_at hl 2 rfl) ?_
  refine lv_iload_n hx hb dX6_unlock_3 rfl (lv_at hl 3 rfl) ?_
  obtain ⟨z_1, hz_1, hf⟩ := bn_some hf
  refine cXVv (As := [.int p1, .int p2, .int p3]) (rest := []) ⟨hx, hb, hml, hown, hts⟩ (c_X6_demandHandleAndPages l hst D cI cZ cJ cT a H.size U p1 p2 p3 z_1 hz_1) (cwV 3 hts gX6_unlock_X6_demandHandleAndPages rfl rfl rfl (by decide +kernel) ⟨Nat.le_of_ble_eq_true rfl, Nat.le_of_ble_eq_true rfl⟩) hP hK (hDD U) hE hS (own_free (hDD U) hS hA) (va_recv hK (fl_sub hP 0 rfl) (ci := 6) (q0 := 0) rfl rfl) rfl rfl hl.1 (Nat.le_of_ble_eq_true rfl) dX6_unlock_4 ⟨Nat.le_of_ble_eq_true rfl, Nat.le_of_ble_eq_true rfl⟩ (fun E ce q9 H locs k_2 hE9 hP hS hce hcv hcl => ?_) (fun H locs k_2 hP hS => ?_)
  · have hf := ite_f hf k_2
    have eo := Option.some.inj hf
    have hP : va_P D cls (wI cI cZ cT a o.2.2) H := by rw [← eo]; exact hP
    rw [hQ]
    exact xout (k := o.1) hxt hlocks (by rw [← eo]; exact k_2) (by rw [← eo]; exact hE9) hP hS hce hcv hcl (Nat.le_of_ble_eq_true rfl) (Nat.le_of_ble_eq_true rfl)
  have hf := ite_t hf k_2
  refine lv_aload_n hx hb dX6_unlock_7 rfl (lv_at hl 0 rfl) ?_
  refine lv_iload_n hx hb dX6_unlock_8 rfl (lv_at hl 1 rfl) ?_
  obtain ⟨z_3, hz_3, hf⟩ := bn_some hf
  refine cXVv (As := [.int p1]) (rest := []) ⟨hx, hb, hml, hown, hts⟩ (c_X6_demandOpen l hst D cI cZ cJ cT a H.size z_1.2.2 p1 z_3 hz_3) (cwV 1 hts gX6_unlock_X6_demandOpen rfl rfl rfl (by decide +kernel) ⟨Nat.le_of_ble_eq_true rfl, Nat.le_of_ble_eq_true rfl⟩) hP hK (hDD z_1.2.2) hE hS (own_free (hDD z_1.2.2) hS hA) (va_recv hK (fl_sub hP 0 rfl) (ci := 6) (q0 := 0) rfl rfl) rfl rfl hl.1 (Nat.le_of_ble_eq_true rfl) dX6_unlock_9 ⟨Nat.le_of_ble_eq_true rfl, Nat.le_of_ble_eq_true rfl⟩ (fun E ce q9 H locs k_4 hE9 hP hS hce hcv hcl => ?_) (fun H locs k_4 hP hS => ?_)
  · have hf := ite_f hf k_4
    have eo := Option.some.inj hf
    have hP : va_P D cls (wI cI cZ cT a o.2.2) H := by rw [← eo]; exact hP
    rw [hQ]
    exact xout (k := o.1) hxt hlocks (by rw [← eo]; exact k_4) (by rw [← eo]; exact hE9) hP hS hce hcv hcl (Nat.le_of_ble_eq_true rfl) (Nat.le_of_ble_eq_true rfl)
  have hf := ite_t hf k_4
  refine lv_aload_n hx hb dX6_unlock_12 rfl (lv_at hl 0 rfl) ?_
  refine va_get (D := D) (ci := 6) (v := .ref (a 9 0)) (C := RX6) (T := TX6) (N := 11) hx hb hts i6 hown hK (fl_sub hP 0 rfl) 0 rfl rfl 7 (by decide) hk51 (fun _ h9 => h9) rfl dX6_unlock_13 ?_
  refine lv_iload_n hx hb dX6_unlock_16 rfl (lv_at hl 1 rfl) ?_
  refine lv_iload_n hx hb dX6_unlock_17 rfl (lv_at hl 2 rfl) ?_
  refine lv_iload_n hx hb dX6_unlock_18 rfl (lv_at hl 3 rfl) ?_
  refine lv_iconst (v := 0) hx hb dX6_unlock_19 (by decide) ?_
  obtain ⟨z_5, hz_5, hf⟩ := bn_some hf
  refine cRV (As := [.int p1, .int p2, .int p3, .int 0]) (rest := []) ⟨hx, hb, hml, hown, hts⟩ (c_X3_countLocked l D cI cZ cJ cT (a 9) (z_3.2.2 9) p1 p2 p3 0 z_5 hz_5) (cwV 4 hts gX6_unlock_X3_countLocked rfl rfl rfl (by decide +kernel) ⟨Nat.le_of_ble_eq_true rfl, Nat.le_of_ble_eq_true rfl⟩) (fl_sub hP 9 rfl) hK (va_recv hK (fl_sub hP 9 rfl) (ci := 3) (q0 := 0) rfl rfl) rfl rfl hl.1 (Nat.le_of_ble_eq_true rfl) dX6_unlock_20 ⟨Nat.le_of_ble_eq_true rfl, Nat.le_of_ble_eq_true rfl⟩ ?_
  refine lv_istore (lv' := [(4, .int z_5), (0, .ref (a 0 0)), (1, .int p1), (2, .int p2), (3, .int p3)]) hx hb dX6_unlock_23 hl (by decide) rfl (fun ls hl => ?_)
  refine lv_aload_n hx hb dX6_unlock_25 rfl (lv_at hl 1 rfl) ?_
  refine va_get (D := D) (ci := 6) (v := .ref (a 9 0)) (C := RX6) (T := TX6) (N := 11) hx hb hts i6 hown hK (fl_sub hP 0 rfl) 0 rfl rfl 7 (by decide) hk51 (fun _ h9 => h9) rfl dX6_unlock_26 ?_
  refine lv_iload_n hx hb dX6_unlock_29 rfl (lv_at hl 2 rfl) ?_
  refine lv_iload_n hx hb dX6_unlock_30 rfl (lv_at hl 3 rfl) ?_
  refine lv_iload_n hx hb dX6_unlock_31 rfl (lv_at hl 4 rfl) ?_
  refine lv_iconst (v := 0) hx hb dX6_unlock_32 (by decide) ?_
  obtain ⟨z_6, hz_6, hf⟩ := bn_some hf
  refine cWVv (As := [.int p1, .int p2, .int p3, .int 0]) (rest := []) ⟨hx, hb, hml, hown, hts⟩ (c_X3_setLocks l D cI cZ cJ cT (a 9) H.size (z_3.2.2 9) p1 p2 p3 0 z_6 hz_6) (cwV 4 hts gX6_unlock_X3_setLocks rfl rfl rfl (by decide +kernel) ⟨Nat.le_of_ble_eq_true rfl, Nat.le_of_ble_eq_true rfl⟩) (fl_sub hP 9 rfl) hK (fl_subD (hDD z_3.2.2) 9 rfl) hS (fl_free (hDD z_3.2.2) hS hA 9 rfl) (va_recv hK (fl_sub hP 9 rfl) (ci := 3) (q0 := 0) rfl rfl) rfl rfl hl.1 (Nat.le_of_ble_eq_true rfl) dX6_unlock_33 ⟨Nat.le_of_ble_eq_true rfl, Nat.le_of_ble_eq_true rfl⟩ (fun H1 locs hP1 hk1 hS => ?_)
  obtain ⟨u_7, hu_7, hf⟩ := bv_some hf
  have hP : va_P D cls (wI cI cZ cT a u_7) H1 := by rw [hu_7]; exact fl_join hP (hDD z_3.2.2) 9 rfl hk1 hP1
  clear hP1 hk1
  generalize H1 = H at hP hS ⊢
  refine lv_iload_n hx hb dX6_unlock_36 rfl (lv_at hl 4 rfl) ?_
  refine lv_iload_n hx hb dX6_unlock_37 rfl (lv_at hl 3 rfl) ?_
  refine lv_isub hx hb dX6_unlock_38 ?_
  refine lv_iconst (v := 1) hx hb dX6_unlock_39 (by decide) ?_
  refine lv_iadd hx hb dX6_unlock_40 ?_
  refine lv_iload hx hb dX6_unlock_41 (lv_at hl 0 rfl) ?_
  refine lv_isub hx hb dX6_unlock_43 ?_
  have eo := Option.some.inj hf
  have hP : va_P D cls (wI cI cZ cT a o.2.2) H := by rw [← eo]; exact hP
  rw [hQ]
  refine W.widen (k := 6) (n := 36) (Nat.le_of_ble_eq_true rfl) (Nat.le_of_ble_eq_true rfl) ?_
  exact vx_ret (W.iret hx hb hr (fun t ht hW => ⟨⟨_, (), rfl, ⟨(by rw [← eo]), (by rw [← eo])⟩, P_at ht hP⟩, hS.F ht⟩) hS.2.2 dX6_unlock_44 hlocks)
set_option maxRecDepth 20000 in
theorem ggX6_lockOf_X3_lockAt : GoodIn wsX6_lockOf wsX3_lockAt := goodIn_r _ [25, 26, 27, 14, 15, 16, 17, 18, 39, 40, 41, 42, 43] (by decide +kernel) (by decide +kernel)
set_option maxRecDepth 20000 in
theorem gX6_lockOf_X3_lockAt : GoodIn wsX6_lockOf (wsV RX6 284 RX3 yX3_lockAt wsX3_lockAt) := goodIn_app (goodIn_of _ (by decide +kernel)) ggX6_lockOf_X3_lockAt
set_option maxRecDepth 20000 in
theorem ggX6_lockOf_X6_demandHandleAndPage : GoodIn wsX6_lockOf wsX6_demandHandleAndPage := goodIn_ca (goodIn_r _ [6, 7, 8, 9, 10, 11, 5, 12, 1, 13, 14, 15, 16, 17, 18, 19, 20, 21, 28, 29, 30, 31, 32, 33, 34, 35, 36, 37, 38, 39, 40, 41, 42, 43] (by decide +kernel) (by decide +kernel)) (goodIn_sub (fun _ h => List.mem_cons_of_mem _ (List.mem_append_right _ h)) (by decide +kernel))
set_option maxRecDepth 20000 in
theorem gX6_lockOf_X6_demandHandleAndPage : GoodIn wsX6_lockOf (wsV RX6 217 RX6 yX6_demandHandleAndPage wsX6_demandHandleAndPage) := goodIn_app (goodIn_of _ (by decide +kernel)) ggX6_lockOf_X6_demandHandleAndPage
theorem dX6_lockOf_0 : decode cX6_lockOf 0 = .ok (.aload_n 0, 1) := by decide +kernel
theorem dX6_lockOf_1 : decode cX6_lockOf 1 = .ok (.iload_n 1, 1) := by decide +kernel
theorem dX6_lockOf_2 : decode cX6_lockOf 2 = .ok (.iload_n 2, 1) := by decide +kernel
theorem dX6_lockOf_3 : decode cX6_lockOf 3 = .ok (.invokevirtual 217, 3) := by decide +kernel
theorem dX6_lockOf_6 : decode cX6_lockOf 6 = .ok (.aload_n 0, 1) := by decide +kernel
theorem dX6_lockOf_7 : decode cX6_lockOf 7 = .ok (.getfield 51, 3) := by decide +kernel
theorem dX6_lockOf_10 : decode cX6_lockOf 10 = .ok (.iload_n 1, 1) := by decide +kernel
theorem dX6_lockOf_11 : decode cX6_lockOf 11 = .ok (.iload_n 2, 1) := by decide +kernel
theorem dX6_lockOf_12 : decode cX6_lockOf 12 = .ok (.invokevirtual 284, 3) := by decide +kernel
theorem dX6_lockOf_15 : decode cX6_lockOf 15 = .ok (.ireturn, 1) := by decide +kernel
def f_X6_lockOf (U : S2) (p1 : Int32) (p2 : Int32) : Option (Nat × Int32 × S2) := bn (f_X6_demandHandleAndPage U p1 p2) (fun z_1 => if z_1.1 = 0 then bn (f_X3_lockAt (z_1.2.2 9) p1 p2) (fun z_3 => some (0, z_3, z_1.2.2)) else some (z_1.1, 0, z_1.2.2))
def rmX6_lockOf : Room := { frames := 8, cells := 2, slots := 12, locals := 133 }
set_option maxHeartbeats 4000000 in
set_option maxRecDepth 100000 in
theorem c_X6_lockOf (l : Launch) (hst : l.stackTraces = false) (D : va_G) (cI cZ cJ cT : ClassId) (a : Nat → Nat → Nat) (sz : Nat) (U : S2) (p1 : Int32) (p2 : Int32) (o : Nat × Int32 × S2) (hf : f_X6_lockOf U p1 p2 = some o) : vx_Met l yX6_lockOf wsX6_lockOf rmX6_lockOf (va_Pc [.ref (a 0 0), .int p1, .int p2] (PX D cls (tys cI cZ cJ cT) (wI cI cZ cT a U) sz)) (QXi D cls o.1 o.2.1 (wI cI cZ cT a o.2.2) (va_A (wI cI cZ cT a U) sz)) (XX D cls o.1 (wI cI cZ cT a o.2.2) (va_A (wI cI cZ cT a U) sz)) 2 12 (va_A (wI cI cZ cT a U) sz) := by
  refine vx_ofW (cc := cX6_lockOf) (maxL := 3) (ret := (some .int)) (by decide) rfl ?_
  intro p e s m args below meth c s₁ B hml hxt hv
  obtain ⟨hav, ⟨hsz, hP, hK, hD0⟩, hE⟩ := hv
  have hx := B.exec
  have hb := B.bytes
  have hr := B.returns
  have hlocks := B.notSynchronized
  have hts := atoms_spec (ws := wsX6_lockOf) B.pre
  have hown : s.vm.findClass RX6 = some m.cls := findClass_of_methodNamed B.named
  have i6 : ∀ w ∈ wsX60, w ∈ wsX6_lockOf := fun w h => List.mem_cons_of_mem _ (List.mem_append_left _ (List.mem_append_left _ (List.mem_append_right _ h)))
  have hk51 := hts (.fieldLink RX6 51 "Inodery" "handles" "LInodery$Handles;") (by decide +kernel)
  subst hsz
  have hD := hD0.self (sz := s.heap.size)
  generalize hAe : va_A (wI cI cZ cT a U) s.heap.size = A at hD hE ⊢
  have hA : ∀ q : Nat, s.heap.size ≤ q → A q := fun q h => by rw [← hAe]; exact Or.inr h
  have hS : va_S A s.heap s.heap [] := va_S.rf
  have hDD : ∀ V : S2, va_D A (wI cI cZ cT a V) := fun _ => D_same (w := (wI cI cZ cT a U)) rfl hD
  refine Wq (fun Q hQ => ?_)
  refine W_entry hav (Nat.le_of_ble_eq_true rfl) (fun ls hl => ?_)
  have hl : lv_has ls 3 [(0, .ref (a 0 0)), (1, .int p1), (2, .int p2)] := hl
  unfold f_X6_lockOf at hf
  refine W_heap hP hS (fun H locs hP hS => ?_)
  refine lv_aload_n hx hb dX6_lockOf_0 rfl (lv_at hl 0 rfl) ?_
  refine lv_iload_n hx hb dX6_lockOf_1 rfl (lv_at hl 1 rfl) ?_
  refine lv_iload_n hx hb dX6_lockOf_2 rfl (lv_at hl 2 rfl) ?_
  obtain ⟨z_1, hz_1, hf⟩ := bn_some hf
  refine cXVv (As := [.int p1, .int p2]) (rest := []) ⟨hx, hb, hml, hown, hts⟩ (c_X6_demandHandleAndPage l hst D cI cZ cJ cT a H.size U p1 p2 z_1 hz_1) (cwV 2 hts gX6_lockOf_X6_demandHandleAndPage rfl rfl rfl (by decide +kernel) ⟨Nat.le_of_ble_eq_true rfl, Nat.le_of_ble_eq_true rfl⟩) hP hK (hDD U) hE hS (own_free (hDD U) hS hA) (va_recv hK (fl_sub hP 0 rfl) (ci := 6) (q0 := 0) rfl rfl) rfl rfl hl.1 (Nat.le_of_ble_eq_true rfl) dX6_lockOf_3 ⟨Nat.le_of_ble_eq_true rfl, Nat.le_of_ble_eq_true rfl⟩ (fun E ce q9 H locs k_2 hE9 hP hS hce hcv hcl => ?_) (fun H locs k_2 hP hS => ?_)
  · have hf := ite_f hf k_2
    have eo := Option.some.inj hf
    have hP : va_P D cls (wI cI cZ cT a o.2.2) H := by rw [← eo]; exact hP
    rw [hQ]
    exact xout (k := o.1) hxt hlocks (by rw [← eo]; exact k_2) (by rw [← eo]; exact hE9) hP hS hce hcv hcl (Nat.le_of_ble_eq_true rfl) (Nat.le_of_ble_eq_true rfl)
  have hf := ite_t hf k_2
  refine lv_aload_n hx hb dX6_lockOf_6 rfl (lv_at hl 0 rfl) ?_
  refine va_get (D := D) (ci := 6) (v := .ref (a 9 0)) (C := RX6) (T := TX6) (N := 11) hx hb hts i6 hown hK (fl_sub hP 0 rfl) 0 rfl rfl 7 (by decide) hk51 (fun _ h9 => h9) rfl dX6_lockOf_7 ?_
  refine lv_iload_n hx hb dX6_lockOf_10 rfl (lv_at hl 1 rfl) ?_
  refine lv_iload_n hx hb dX6_lockOf_11 rfl (lv_at hl 2 rfl) ?_
  obtain ⟨z_3, hz_3, hf⟩ := bn_some hf
  refine cRV (As := [.int p1, .int p2]) (rest := []) ⟨hx, hb, hml, hown, hts⟩ (c_X3_lockAt l D cI cZ cJ cT (a 9) (z_1.2.2 9) p1 p2 z_3 hz_3) (cwV 2 hts gX6_lockOf_X3_lockAt rfl rfl rfl (by decide +kernel) ⟨Nat.le_of_ble_eq_true rfl, Nat.le_of_ble_eq_true rfl⟩) (fl_sub hP 9 rfl) hK (va_recv hK (fl_sub hP 9 rfl) (ci := 3) (q0 := 0) rfl rfl) rfl rfl hl.1 (Nat.le_of_ble_eq_true rfl) dX6_lockOf_12 ⟨Nat.le_of_ble_eq_true rfl, Nat.le_of_ble_eq_true rfl⟩ ?_
  have eo := Option.some.inj hf
  have hP : va_P D cls (wI cI cZ cT a o.2.2) H := by rw [← eo]; exact hP
  rw [hQ]
  refine W.widen (k := 2) (n := 12) (Nat.le_of_ble_eq_true rfl) (Nat.le_of_ble_eq_true rfl) ?_
  exact vx_ret (W.iret hx hb hr (fun t ht hW => ⟨⟨_, (), rfl, ⟨(by rw [← eo]), (by rw [← eo])⟩, P_at ht hP⟩, hS.F ht⟩) hS.2.2 dX6_lockOf_15 hlocks)
set_option maxRecDepth 20000 in
theorem ggX6_flushThing_X0_isDirty : GoodIn wsX6_flushThing wsX0_isDirty := goodIn_r _ [8, 9, 10, 11, 7, 12, 13, 14, 15, 16, 65, 66, 67] (by decide +kernel) (by decide +kernel)
set_option maxRecDepth 20000 in
theorem gX6_flushThing_X0_isDirty : GoodIn wsX6_flushThing (wsV RX6 237 RX0 yX0_isDirty wsX0_isDirty) := goodIn_app (goodIn_of _ (by decide +kernel)) ggX6_flushThing_X0_isDirty
set_option maxRecDepth 20000 in
theorem ggX6_flushThing_X0_letGo : GoodIn wsX6_flushThing wsX0_letGo := goodIn_r _ [52, 13, 53, 14, 15, 7, 16, 65, 66, 67] (by decide +kernel) (by decide +kernel)
set_option maxRecDepth 20000 in
theorem gX6_flushThing_X0_letGo : GoodIn wsX6_flushThing (wsV RX6 269 RX0 yX0_letGo wsX0_letGo) := goodIn_app (goodIn_of _ (by decide +kernel)) ggX6_flushThing_X0_letGo
set_option maxRecDepth 20000 in
theorem ggX6_flushThing_X0_numberOf : GoodIn wsX6_flushThing wsX0_numberOf := goodIn_r _ [12, 13, 14, 15, 7, 16, 65, 66, 67] (by decide +kernel) (by decide +kernel)
set_option maxRecDepth 20000 in
theorem gX6_flushThing_X0_numberOf : GoodIn wsX6_flushThing (wsV RX6 240 RX0 yX0_numberOf wsX0_numberOf) := goodIn_app (goodIn_of _ (by decide +kernel)) ggX6_flushThing_X0_numberOf
set_option maxRecDepth 20000 in
theorem ggX6_flushThing_X0_setError : GoodIn wsX6_flushThing wsX0_setError := goodIn_r _ [41, 42, 65, 66, 67] (by decide +kernel) (by decide +kernel)
set_option maxRecDepth 20000 in
theorem gX6_flushThing_X0_setError : GoodIn wsX6_flushThing (wsV RX6 461 RX0 yX0_setError wsX0_setError) := goodIn_app (goodIn_of _ (by decide +kernel)) ggX6_flushThing_X0_setError
set_option maxRecDepth 20000 in
theorem ggX6_flushThing_X2_isBad : GoodIn wsX6_flushThing wsX2_isBad := goodIn_r _ [33, 34, 35, 36, 32, 37, 80, 81] (by decide +kernel) (by decide +kernel)
set_option maxRecDepth 20000 in
theorem gX6_flushThing_X2_isBad : GoodIn wsX6_flushThing (wsV RX6 338 RX2 yX2_isBad wsX2_isBad) := goodIn_app (goodIn_of _ (by decide +kernel)) ggX6_flushThing_X2_isBad
set_option maxRecDepth 20000 in
theorem ggX6_flushThing_X2_setNumber : GoodIn wsX6_flushThing wsX2_setNumber := goodIn_r _ [47, 48, 35, 36, 32, 37, 80, 81] (by decide +kernel) (by decide +kernel)
set_option maxRecDepth 20000 in
theorem gX6_flushThing_X2_setNumber : GoodIn wsX6_flushThing (wsV RX6 464 RX2 yX2_setNumber wsX2_setNumber) := goodIn_app (goodIn_of _ (by decide +kernel)) ggX6_flushThing_X2_setNumber
set_option maxRecDepth 20000 in
theorem ggX6_flushThing_X4_blockOf : GoodIn wsX6_flushThing wsX4_blockOf := goodIn_r _ [21, 22, 23, 24, 20, 25, 26, 27, 28, 68, 69, 70, 71, 72, 73, 74, 75, 76, 77, 78, 79] (by decide +kernel) (by decide +kernel)
set_option maxRecDepth 20000 in
theorem gX6_flushThing_X4_blockOf : GoodIn wsX6_flushThing (wsV RX6 395 RX4 yX4_blockOf wsX4_blockOf) := goodIn_app (goodIn_of _ (by decide +kernel)) ggX6_flushThing_X4_blockOf
theorem dX6_flushThing_0 : decode cX6_flushThing 0 = .ok (.iconst 0, 1) := by decide +kernel
theorem dX6_flushThing_1 : decode cX6_flushThing 1 = .ok (.istore_n 3, 1) := by decide +kernel
theorem dX6_flushThing_2 : decode cX6_flushThing 2 = .ok (.iconst 0, 1) := by decide +kernel
theorem dX6_flushThing_3 : decode cX6_flushThing 3 = .ok (.istore 4, 2) := by decide +kernel
theorem dX6_flushThing_5 : decode cX6_flushThing 5 = .ok (.iload 4, 2) := by decide +kernel
theorem dX6_flushThing_7 : decode cX6_flushThing 7 = .ok (.bipush 16, 2) := by decide +kernel
theorem dX6_flushThing_9 : decode cX6_flushThing 9 = .ok (.if_icmp .ge 94, 3) := by decide +kernel
theorem dX6_flushThing_12 : decode cX6_flushThing 12 = .ok (.iload_n 3, 1) := by decide +kernel
theorem dX6_flushThing_13 : decode cX6_flushThing 13 = .ok (.iload_n 2, 1) := by decide +kernel
theorem dX6_flushThing_14 : decode cX6_flushThing 14 = .ok (.if_icmp .ge 89, 3) := by decide +kernel
theorem dX6_flushThing_17 : decode cX6_flushThing 17 = .ok (.aload_n 0, 1) := by decide +kernel
theorem dX6_flushThing_18 : decode cX6_flushThing 18 = .ok (.getfield 44, 3) := by decide +kernel
theorem dX6_flushThing_21 : decode cX6_flushThing 21 = .ok (.iload_n 1, 1) := by decide +kernel
theorem dX6_flushThing_22 : decode cX6_flushThing 22 = .ok (.iload 4, 2) := by decide +kernel
theorem dX6_flushThing_24 : decode cX6_flushThing 24 = .ok (.invokevirtual 237, 3) := by decide +kernel
theorem dX6_flushThing_27 : decode cX6_flushThing 27 = .ok (.ifCond .eq 70, 3) := by decide +kernel
theorem dX6_flushThing_30 : decode cX6_flushThing 30 = .ok (.aload_n 0, 1) := by decide +kernel
theorem dX6_flushThing_31 : decode cX6_flushThing 31 = .ok (.getfield 12, 3) := by decide +kernel
theorem dX6_flushThing_34 : decode cX6_flushThing 34 = .ok (.iload_n 1, 1) := by decide +kernel
theorem dX6_flushThing_35 : decode cX6_flushThing 35 = .ok (.iload 4, 2) := by decide +kernel
theorem dX6_flushThing_37 : decode cX6_flushThing 37 = .ok (.invokevirtual 395, 3) := by decide +kernel
theorem dX6_flushThing_40 : decode cX6_flushThing 40 = .ok (.istore 5, 2) := by decide +kernel
theorem dX6_flushThing_42 : decode cX6_flushThing 42 = .ok (.aload_n 0, 1) := by decide +kernel
theorem dX6_flushThing_43 : decode cX6_flushThing 43 = .ok (.getfield 37, 3) := by decide +kernel
theorem dX6_flushThing_46 : decode cX6_flushThing 46 = .ok (.iload 5, 2) := by decide +kernel
theorem dX6_flushThing_48 : decode cX6_flushThing 48 = .ok (.invokevirtual 338, 3) := by decide +kernel
theorem dX6_flushThing_51 : decode cX6_flushThing 51 = .ok (.ifCond .eq 14, 3) := by decide +kernel
theorem dX6_flushThing_54 : decode cX6_flushThing 54 = .ok (.aload_n 0, 1) := by decide +kernel
theorem dX6_flushThing_55 : decode cX6_flushThing 55 = .ok (.getfield 44, 3) := by decide +kernel
theorem dX6_flushThing_58 : decode cX6_flushThing 58 = .ok (.iload_n 1, 1) := by decide +kernel
theorem dX6_flushThing_59 : decode cX6_flushThing 59 = .ok (.invokevirtual 461, 3) := by decide +kernel
theorem dX6_flushThing_62 : decode cX6_flushThing 62 = .ok (.goto 22, 3) := by decide +kernel
theorem dX6_flushThing_65 : decode cX6_flushThing 65 = .ok (.aload_n 0, 1) := by decide +kernel
theorem dX6_flushThing_66 : decode cX6_flushThing 66 = .ok (.getfield 37, 3) := by decide +kernel
theorem dX6_flushThing_69 : decode cX6_flushThing 69 = .ok (.iload 5, 2) := by decide +kernel
theorem dX6_flushThing_71 : decode cX6_flushThing 71 = .ok (.aload_n 0, 1) := by decide +kernel
theorem dX6_flushThing_72 : decode cX6_flushThing 72 = .ok (.getfield 44, 3) := by decide +kernel
theorem dX6_flushThing_75 : decode cX6_flushThing 75 = .ok (.iload_n 1, 1) := by decide +kernel
theorem dX6_flushThing_76 : decode cX6_flushThing 76 = .ok (.iload 4, 2) := by decide +kernel
theorem dX6_flushThing_78 : decode cX6_flushThing 78 = .ok (.invokevirtual 240, 3) := by decide +kernel
theorem dX6_flushThing_81 : decode cX6_flushThing 81 = .ok (.invokevirtual 464, 3) := by decide +kernel
theorem dX6_flushThing_84 : decode cX6_flushThing 84 = .ok (.aload_n 0, 1) := by decide +kernel
theorem dX6_flushThing_85 : decode cX6_flushThing 85 = .ok (.getfield 44, 3) := by decide +kernel
theorem dX6_flushThing_88 : decode cX6_flushThing 88 = .ok (.iload_n 1, 1) := by decide +kernel
theorem dX6_flushThing_89 : decode cX6_flushThing 89 = .ok (.iload 4, 2) := by decide +kernel
theorem dX6_flushThing_91 : decode cX6_flushThing 91 = .ok (.invokevirtual 269, 3) := by decide +kernel
theorem dX6_flushThing_94 : decode cX6_flushThing 94 = .ok (.iinc 3 1, 3) := by decide +kernel
theorem dX6_flushThing_97 : decode cX6_flushThing 97 = .ok (.iinc 4 1, 3) := by decide +kernel
theorem dX6_flushThing_100 : decode cX6_flushThing 100 = .ok (.goto (-95), 3) := by decide +kernel
theorem dX6_flushThing_103 : decode cX6_flushThing 103 = .ok (.iload_n 3, 1) := by decide +kernel
theorem dX6_flushThing_104 : decode cX6_flushThing 104 = .ok (.ireturn, 1) := by decide +kernel
def f_X6_flushThing (U : S2) (p1 : Int32) (p2 : Int32) : Option (Int32 × S2) := qj3 (fun (r5_1 : Int32 → Int32 → S2 → Option (Int32 × S2)) (y5_1_3 : Int32) (y5_1_4 : Int32) (u5_1_0 : S2) => jn (some (y5_1_3, u5_1_0)) (fun k103_2 => if 16 ≤ y5_1_4 then k103_2 else if p2 ≤ y5_1_3 then k103_2 else bn (f_X0_isDirty (u5_1_0 8) p1 y5_1_4) (fun z_5 => jn (fun (y97_6_3 : Int32) (u97_6_0 : S2) => r5_1 y97_6_3 (y5_1_4 + 1) u97_6_0) (fun k97_6 => if z_5 = 0 then k97_6 y5_1_3 u5_1_0 else bn (f_X4_blockOf (u5_1_0 1) p1 y5_1_4) (fun z_8 => bn (f_X2_isBad (u5_1_0 7) z_8) (fun z_9 => jn (fun (u84_10_0 : S2) => bn (f_X0_letGo (u84_10_0 8) p1 y5_1_4) (fun z_11 => bv (upc u84_10_0 8 z_11) (fun u_12 => k97_6 (y5_1_3 + 1) u_12))) (fun k84_10 => if z_9 = 0 then bn (f_X0_numberOf (u5_1_0 8) p1 y5_1_4) (fun z_14 => bn (f_X2_setNumber (u5_1_0 7) z_8 z_14) (fun z_15 => bv (upc u5_1_0 7 z_15) (fun u_16 => k84_10 u_16))) else bn (f_X0_setError (u5_1_0 8) p1) (fun z_17 => bv (upc u5_1_0 8 z_17) (fun u_18 => k84_10 u_18))))))))) (fun k5_1 => k5_1 0 0 U)
def rmX6_flushThing : Room := { frames := 3, cells := 0, slots := 0, locals := 65 }
set_option maxHeartbeats 4000000 in
set_option maxRecDepth 100000 in
theorem c_X6_flushThing (l : Launch) (D : va_G) (cI cZ cJ cT : ClassId) (a : Nat → Nat → Nat) (sz : Nat) (U : S2) (p1 : Int32) (p2 : Int32) (o : Int32 × S2) (hf : f_X6_flushThing U p1 p2 = some o) : Met l yX6_flushThing wsX6_flushThing rmX6_flushThing (va_Pc [.ref (a 0 0), .int p1, .int p2] (PW D cls (tys cI cZ cJ cT) (wI cI cZ cT a U) sz)) (QWi D cls o.1 (wI cI cZ cT a o.2) (va_A (wI cI cZ cT a U) sz)) 0 0 (va_A (wI cI cZ cT a U) sz) := by
  refine Met.ofW (cc := cX6_flushThing) (maxL := 6) (ret := (some .int)) (by decide) rfl ?_
  intro p e s m args below meth c s₁ B hml hv
  obtain ⟨hav, hsz, hP, hK, hD0⟩ := hv
  have hx := B.exec
  have hb := B.bytes
  have hr := B.returns
  have hlocks := B.notSynchronized
  have hts := atoms_spec (ws := wsX6_flushThing) B.pre
  have hown : s.vm.findClass RX6 = some m.cls := findClass_of_methodNamed B.named
  have i6 : ∀ w ∈ wsX60, w ∈ wsX6_flushThing := fun w h => List.mem_cons_of_mem _ (List.mem_append_left _ (List.mem_append_left _ (List.mem_append_left _ (List.mem_append_right _ h))))
  have hk12 := hts (.fieldLink RX6 12 "Inodery" "now" "LInodery$Tree;") (by decide +kernel)
  have hk37 := hts (.fieldLink RX6 37 "Inodery" "disk" "LInodery$Disk;") (by decide +kernel)
  have hk44 := hts (.fieldLink RX6 44 "Inodery" "cache" "LInodery$Cache;") (by decide +kernel)
  subst hsz
  have hD := hD0.self (sz := s.heap.size)
  generalize hAe : va_A (wI cI cZ cT a U) s.heap.size = A at hD ⊢
  have hA : ∀ q : Nat, s.heap.size ≤ q → A q := fun q h => by rw [← hAe]; exact Or.inr h
  have hS : va_S A s.heap s.heap [] := va_S.rf
  have hDD : ∀ V : S2, va_D A (wI cI cZ cT a V) := fun _ => D_same (w := (wI cI cZ cT a U)) rfl hD
  refine Wq (fun Q hQ => ?_)
  refine W_entry hav (Nat.le_of_ble_eq_true rfl) (fun ls hl => ?_)
  have hl : lv_has ls 6 [(0, .ref (a 0 0)), (1, .int p1), (2, .int p2)] := hl
  unfold f_X6_flushThing at hf
  refine W_heap hP hS (fun H locs hP hS => ?_)
  refine lv_iconst (v := 0) hx hb dX6_flushThing_0 (by decide) ?_
  refine lv_istore_n (lv' := [(3, .int 0), (0, .ref (a 0 0)), (1, .int p1), (2, .int p2)]) hx hb dX6_flushThing_1 rfl hl (by decide) rfl (fun ls hl => ?_)
  refine lv_iconst (v := 0) hx hb dX6_flushThing_2 (by decide) ?_
  refine lv_istore (lv' := [(4, .int 0), (3, .int 0), (0, .ref (a 0 0)), (1, .int p1), (2, .int p2)]) hx hb dX6_flushThing_3 hl (by decide) rfl (fun ls hl => ?_)
  obtain ⟨G5_1, hG5_1, hf⟩ := qj3_some hf
  have j5_1 : ∀ (n : Nat) (y5_1_3 : Int32) (y5_1_4 : Int32) (u5_1_0 : S2) (H : Heap) (locs : List Loc) (ls : Array Slot), ql3 G5_1 n y5_1_3 y5_1_4 u5_1_0 = some o → va_P D cls (wI cI cZ cT a u5_1_0) H → va_S A s.heap H locs → lv_has ls 6 [(0, .ref (a 0 0)), (1, .int p1), (2, .int p2), (3, .int y5_1_3), (4, .int y5_1_4)] → W p l e (headSpec wsX6_flushThing rmX6_flushThing).room s m args below meth c H locs 0 0 Q (F0 m 5 ls []) := by
    intro n
    induction n with
    | zero => intro y5_1_3 y5_1_4 u5_1_0 H locs ls hf hP hS hl; exact (ql3_z hf).elim
    | succ n ih5_1 =>
      intro y5_1_3 y5_1_4 u5_1_0 H locs ls hf hP hS hl
      have hf := ql3_s hG5_1 hf
      obtain ⟨r5_1, hr5_1⟩ : ∃ z, z = ql3 G5_1 n := ⟨_, rfl⟩
      rw [← hr5_1] at hf ih5_1
      refine lv_iload hx hb dX6_flushThing_5 (lv_at hl 4 rfl) ?_
      refine lv_bipush (v := 16) hx hb dX6_flushThing_7 (by decide) ?_
      obtain ⟨k103_2, hk103_2, hf⟩ := jn_some hf
      have j103_2 : ∀ (H : Heap) (locs : List Loc) (ls : Array Slot), k103_2 = some o → va_P D cls (wI cI cZ cT a u5_1_0) H → va_S A s.heap H locs → lv_has ls 6 [(3, .int y5_1_3)] → W p l e (headSpec wsX6_flushThing rmX6_flushThing).room s m args below meth c H locs 0 0 Q (F0 m 103 ls []) := by
        intro H locs ls hf hP hS hl
        have hf := qa0 hk103_2 hf
        refine lv_iload_n hx hb dX6_flushThing_103 rfl (lv_at hl 0 rfl) ?_
        have eo := Option.some.inj hf
        have hP : va_P D cls (wI cI cZ cT a o.2) H := by rw [← eo]; exact hP
        rw [hQ]
        exact W.iret hx hb hr (fun t ht hW => ⟨⟨_, (), rfl, (by rw [← eo]), P_at ht hP⟩, hS.F ht⟩) hS.2.2 dX6_flushThing_104 hlocks
      refine lv_icmp_ge (tgt := 103) hx hb dX6_flushThing_9 (by decide) (fun c_3 => ?_) (fun c_3 => ?_)
      · have hf := ite_t hf c_3
        exact j103_2 _ _ _ hf hP hS (lv_sub hl [3] rfl)
      · have hf := ite_f hf c_3
        refine lv_iload_n hx hb dX6_flushThing_12 rfl (lv_at hl 3 rfl) ?_
        refine lv_iload_n hx hb dX6_flushThing_13 rfl (lv_at hl 2 rfl) ?_
        refine lv_icmp_ge (tgt := 103) hx hb dX6_flushThing_14 (by decide) (fun c_4 => ?_) (fun c_4 => ?_)
        · have hf := ite_t hf c_4
          exact j103_2 _ _ _ hf hP hS (lv_sub hl [3] rfl)
        · have hf := ite_f hf c_4
          refine lv_aload_n hx hb dX6_flushThing_17 rfl (lv_at hl 0 rfl) ?_
          refine va_get (D := D) (ci := 6) (v := .ref (a 8 0)) (C := RX6) (T := TX6) (N := 11) hx hb hts i6 hown hK (fl_sub hP 0 rfl) 0 rfl rfl 6 (by decide) hk44 (fun _ h9 => h9) rfl dX6_flushThing_18 ?_
          refine lv_iload_n hx hb dX6_flushThing_21 rfl (lv_at hl 1 rfl) ?_
          refine lv_iload hx hb dX6_flushThing_22 (lv_at hl 4 rfl) ?_
          obtain ⟨z_5, hz_5, hf⟩ := bn_some hf
          refine cRV (As := [.int p1, .int y5_1_4]) (rest := []) ⟨hx, hb, hml, hown, hts⟩ (c_X0_isDirty l D cI cZ cJ cT (a 8) (u5_1_0 8) p1 y5_1_4 z_5 hz_5) (cwV 2 hts gX6_flushThing_X0_isDirty rfl rfl rfl (by decide +kernel) ⟨Nat.le_of_ble_eq_true rfl, Nat.le_of_ble_eq_true rfl⟩) (fl_sub hP 8 rfl) hK (va_recv hK (fl_sub hP 8 rfl) (ci := 0) (q0 := 0) rfl rfl) rfl rfl hl.1 (Nat.le_of_ble_eq_true rfl) dX6_flushThing_24 ⟨Nat.le_of_ble_eq_true rfl, Nat.le_of_ble_eq_true rfl⟩ ?_
          obtain ⟨k97_6, hk97_6, hf⟩ := jn_some hf
          have j97_6 : ∀ (y97_6_3 : Int32) (u97_6_0 : S2) (H : Heap) (locs : List Loc) (ls : Array Slot), k97_6 y97_6_3 u97_6_0 = some o → va_P D cls (wI cI cZ cT a u97_6_0) H → va_S A s.heap H locs → lv_has ls 6 [(0, .ref (a 0 0)), (1, .int p1), (2, .int p2), (3, .int y97_6_3), (4, .int y5_1_4)] → W p l e (headSpec wsX6_flushThing rmX6_flushThing).room s m args below meth c H locs 0 0 Q (F0 m 97 ls []) := by
            intro y97_6_3 u97_6_0 H locs ls hf hP hS hl
            have hf := qa2 hk97_6 hf
            refine lv_iinc (v := y5_1_4 + 1) (lv' := [(4, .int (y5_1_4 + 1)), (0, .ref (a 0 0)), (1, .int p1), (2, .int p2), (3, .int y97_6_3)]) hx hb dX6_flushThing_97 hl (k := 4) rfl rfl (by decide) rfl (fun ls hl => ?_)
            refine lv_goto (tgt := 5) hx hb dX6_flushThing_100 (by decide) ?_
            exact ih5_1 _ _ _ _ _ _ hf hP hS (lv_sub hl [1, 2, 3, 4, 0] rfl)
          refine lv_if_eq (tgt := 97) hx hb dX6_flushThing_27 (by decide) (fun c_7 => ?_) (fun c_7 => ?_)
          · have hf := ite_t hf c_7
            exact j97_6 _ _ _ _ _ hf hP hS (lv_sub hl [0, 1, 2, 3, 4] rfl)
          · have hf := ite_f hf c_7
            refine lv_aload_n hx hb dX6_flushThing_30 rfl (lv_at hl 0 rfl) ?_
            refine va_get (D := D) (ci := 6) (v := .ref (a 1 0)) (C := RX6) (T := TX6) (N := 11) hx hb hts i6 hown hK (fl_sub hP 0 rfl) 0 rfl rfl 0 (by decide) hk12 (fun _ h9 => h9) rfl dX6_flushThing_31 ?_
            refine lv_iload_n hx hb dX6_flushThing_34 rfl (lv_at hl 1 rfl) ?_
            refine lv_iload hx hb dX6_flushThing_35 (lv_at hl 4 rfl) ?_
            obtain ⟨z_8, hz_8, hf⟩ := bn_some hf
            refine cRV (As := [.int p1, .int y5_1_4]) (rest := []) ⟨hx, hb, hml, hown, hts⟩ (c_X4_blockOf l D cI cZ cJ cT (a 1) (u5_1_0 1) p1 y5_1_4 z_8 hz_8) (cwV 2 hts gX6_flushThing_X4_blockOf rfl rfl rfl (by decide +kernel) ⟨Nat.le_of_ble_eq_true rfl, Nat.le_of_ble_eq_true rfl⟩) (fl_sub hP 1 rfl) hK (va_recv hK (fl_sub hP 1 rfl) (ci := 4) (q0 := 0) rfl rfl) rfl rfl hl.1 (Nat.le_of_ble_eq_true rfl) dX6_flushThing_37 ⟨Nat.le_of_ble_eq_true rfl, Nat.le_of_ble_eq_true rfl⟩ ?_
            refine lv_istore (lv' := [(5, .int z_8), (0, .ref (a 0 0)), (1, .int p1), (2, .int p2), (3, .int y5_1_3), (4, .int y5_1_4)]) hx hb dX6_flushThing_40 hl (by decide) rfl (fun ls hl => ?_)
            refine lv_aload_n hx hb dX6_flushThing_42 rfl (lv_at hl 1 rfl) ?_
            refine va_get (D := D) (ci := 6) (v := .ref (a 7 0)) (C := RX6) (T := TX6) (N := 11) hx hb hts i6 hown hK (fl_sub hP 0 rfl) 0 rfl rfl 5 (by decide) hk37 (fun _ h9 => h9) rfl dX6_flushThing_43 ?_
            refine lv_iload hx hb dX6_flushThing_46 (lv_at hl 0 rfl) ?_
            obtain ⟨z_9, hz_9, hf⟩ := bn_some hf
            refine cRV (As := [.int z_8]) (rest := []) ⟨hx, hb, hml, hown, hts⟩ (c_X2_isBad l D cI cZ cJ cT (a 7) (u5_1_0 7) z_8 z_9 hz_9) (cwV 1 hts gX6_flushThing_X2_isBad rfl rfl rfl (by decide +kernel) ⟨Nat.le_of_ble_eq_true rfl, Nat.le_of_ble_eq_true rfl⟩) (fl_sub hP 7 rfl) hK (va_recv hK (fl_sub hP 7 rfl) (ci := 2) (q0 := 0) rfl rfl) rfl rfl hl.1 (Nat.le_of_ble_eq_true rfl) dX6_flushThing_48 ⟨Nat.le_of_ble_eq_true rfl, Nat.le_of_ble_eq_true rfl⟩ ?_
            obtain ⟨k84_10, hk84_10, hf⟩ := jn_some hf
            have j84_10 : ∀ (u84_10_0 : S2) (H : Heap) (locs : List Loc) (ls : Array Slot), k84_10 u84_10_0 = some o → va_P D cls (wI cI cZ cT a u84_10_0) H → va_S A s.heap H locs → lv_has ls 6 [(0, .ref (a 0 0)), (1, .int p1), (2, .int p2), (3, .int y5_1_3), (4, .int y5_1_4)] → W p l e (headSpec wsX6_flushThing rmX6_flushThing).room s m args below meth c H locs 0 0 Q (F0 m 84 ls []) := by
              intro u84_10_0 H locs ls hf hP hS hl
              have hf := qa1 hk84_10 hf
              refine lv_aload_n hx hb dX6_flushThing_84 rfl (lv_at hl 0 rfl) ?_
              refine va_get (D := D) (ci := 6) (v := .ref (a 8 0)) (C := RX6) (T := TX6) (N := 11) hx hb hts i6 hown hK (fl_sub hP 0 rfl) 0 rfl rfl 6 (by decide) hk44 (fun _ h9 => h9) rfl dX6_flushThing_85 ?_
              refine lv_iload_n hx hb dX6_flushThing_88 rfl (lv_at hl 1 rfl) ?_
              refine lv_iload hx hb dX6_flushThing_89 (lv_at hl 4 rfl) ?_
              obtain ⟨z_11, hz_11, hf⟩ := bn_some hf
              refine cWVv (As := [.int p1, .int y5_1_4]) (rest := []) ⟨hx, hb, hml, hown, hts⟩ (c_X0_letGo l D cI cZ cJ cT (a 8) H.size (u84_10_0 8) p1 y5_1_4 z_11 hz_11) (cwV 2 hts gX6_flushThing_X0_letGo rfl rfl rfl (by decide +kernel) ⟨Nat.le_of_ble_eq_true rfl, Nat.le_of_ble_eq_true rfl⟩) (fl_sub hP 8 rfl) hK (fl_subD (hDD u84_10_0) 8 rfl) hS (fl_free (hDD u84_10_0) hS hA 8 rfl) (va_recv hK (fl_sub hP 8 rfl) (ci := 0) (q0 := 0) rfl rfl) rfl rfl hl.1 (Nat.le_of_ble_eq_true rfl) dX6_flushThing_91 ⟨Nat.le_of_ble_eq_true rfl, Nat.le_of_ble_eq_true rfl⟩ (fun H1 locs hP1 hk1 hS => ?_)
              obtain ⟨u_12, hu_12, hf⟩ := bv_some hf
              have hP : va_P D cls (wI cI cZ cT a u_12) H1 := by rw [hu_12]; exact fl_join hP (hDD u84_10_0) 8 rfl hk1 hP1
              clear hP1 hk1
              generalize H1 = H at hP hS ⊢
              refine lv_iinc (v := y5_1_3 + 1) (lv' := [(3, .int (y5_1_3 + 1)), (0, .ref (a 0 0)), (1, .int p1), (2, .int p2), (4, .int y5_1_4)]) hx hb dX6_flushThing_94 hl (k := 3) rfl rfl (by decide) rfl (fun ls hl => ?_)
              exact j97_6 _ _ _ _ _ hf hP hS (lv_sub hl [1, 2, 3, 0, 4] rfl)
            refine lv_if_eq (tgt := 65) hx hb dX6_flushThing_51 (by decide) (fun c_13 => ?_) (fun c_13 => ?_)
            · have hf := ite_t hf c_13
              refine lv_aload_n hx hb dX6_flushThing_65 rfl (lv_at hl 1 rfl) ?_
              refine va_get (D := D) (ci := 6) (v := .ref (a 7 0)) (C := RX6) (T := TX6) (N := 11) hx hb hts i6 hown hK (fl_sub hP 0 rfl) 0 rfl rfl 5 (by decide) hk37 (fun _ h9 => h9) rfl dX6_flushThing_66 ?_
              refine lv_iload hx hb dX6_flushThing_69 (lv_at hl 0 rfl) ?_
              refine lv_aload_n hx hb dX6_flushThing_71 rfl (lv_at hl 1 rfl) ?_
              refine va_get (D := D) (ci := 6) (v := .ref (a 8 0)) (C := RX6) (T := TX6) (N := 11) hx hb hts i6 hown hK (fl_sub hP 0 rfl) 0 rfl rfl 6 (by decide) hk44 (fun _ h9 => h9) rfl dX6_flushThing_72 ?_
              refine lv_iload_n hx hb dX6_flushThing_75 rfl (lv_at hl 2 rfl) ?_
              refine lv_iload hx hb dX6_flushThing_76 (lv_at hl 5 rfl) ?_
              obtain ⟨z_14, hz_14, hf⟩ := bn_some hf
              refine cRV (As := [.int p1, .int y5_1_4]) (rest := [.int z_8, .ref (a 7 0)]) ⟨hx, hb, hml, hown, hts⟩ (c_X0_numberOf l D cI cZ cJ cT (a 8) (u5_1_0 8) p1 y5_1_4 z_14 hz_14) (cwV 2 hts gX6_flushThing_X0_numberOf rfl rfl rfl (by decide +kernel) ⟨Nat.le_of_ble_eq_true rfl, Nat.le_of_ble_eq_true rfl⟩) (fl_sub hP 8 rfl) hK (va_recv hK (fl_sub hP 8 rfl) (ci := 0) (q0 := 0) rfl rfl) rfl rfl hl.1 (Nat.le_of_ble_eq_true rfl) dX6_flushThing_78 ⟨Nat.le_of_ble_eq_true rfl, Nat.le_of_ble_eq_true rfl⟩ ?_
              obtain ⟨z_15, hz_15, hf⟩ := bn_some hf
              refine cWVv (As := [.int z_8, .int z_14]) (rest := []) ⟨hx, hb, hml, hown, hts⟩ (c_X2_setNumber l D cI cZ cJ cT (a 7) H.size (u5_1_0 7) z_8 z_14 z_15 hz_15) (cwV 2 hts gX6_flushThing_X2_setNumber rfl rfl rfl (by decide +kernel) ⟨Nat.le_of_ble_eq_true rfl, Nat.le_of_ble_eq_true rfl⟩) (fl_sub hP 7 rfl) hK (fl_subD (hDD u5_1_0) 7 rfl) hS (fl_free (hDD u5_1_0) hS hA 7 rfl) (va_recv hK (fl_sub hP 7 rfl) (ci := 2) (q0 := 0) rfl rfl) rfl rfl hl.1 (Nat.le_of_ble_eq_true rfl) dX6_flushThing_81 ⟨Nat.le_of_ble_eq_true rfl, Nat.le_of_ble_eq_true rfl⟩ (fun H1 locs hP1 hk1 hS => ?_)
              obtain ⟨u_16, hu_16, hf⟩ := bv_some hf
              have hP : va_P D cls (wI cI cZ cT a u_16) H1 := by rw [hu_16]; exact fl_join hP (hDD u5_1_0) 7 rfl hk1 hP1
              clear hP1 hk1
              generalize H1 = H at hP hS ⊢
              exact j84_10 _ _ _ _ hf hP hS (lv_sub hl [1, 2, 3, 4, 5] rfl)
            · have hf := ite_f hf c_13
              refine lv_aload_n hx hb dX6_flushThing_54 rfl (lv_at hl 1 rfl) ?_
              refine va_get (D := D) (ci := 6) (v := .ref (a 8 0)) (C := RX6) (T := TX6) (N := 11) hx hb hts i6 hown hK (fl_sub hP 0 rfl) 0 rfl rfl 6 (by decide) hk44 (fun _ h9 => h9) rfl dX6_flushThing_55 ?_
              refine lv_iload_n hx hb dX6_flushThing_58 rfl (lv_at hl 2 rfl) ?_
              obtain ⟨z_17, hz_17, hf⟩ := bn_some hf
              refine cWVv (As := [.int p1]) (rest := []) ⟨hx, hb, hml, hown, hts⟩ (c_X0_setError l D cI cZ cJ cT (a 8) H.size (u5_1_0 8) p1 z_17 hz_17) (cwV 1 hts gX6_flushThing_X0_setError rfl rfl rfl (by decide +kernel) ⟨Nat.le_of_ble_eq_true rfl, Nat.le_of_ble_eq_true rfl⟩) (fl_sub hP 8 rfl) hK (fl_subD (hDD u5_1_0) 8 rfl) hS (fl_free (hDD u5_1_0) hS hA 8 rfl) (va_recv hK (fl_sub hP 8 rfl) (ci := 0) (q0 := 0) rfl rfl) rfl rfl hl.1 (Nat.le_of_ble_eq_true rfl) dX6_flushThing_59 ⟨Nat.le_of_ble_eq_true rfl, Nat.le_of_ble_eq_true rfl⟩ (fun H1 locs hP1 hk1 hS => ?_)
              obtain ⟨u_18, hu_18, hf⟩ := bv_some hf
              have hP : va_P D cls (wI cI cZ cT a u_18) H1 := by rw [hu_18]; exact fl_join hP (hDD u5_1_0) 8 rfl hk1 hP1
              clear hP1 hk1
              generalize H1 = H at hP hS ⊢
              refine lv_goto (tgt := 84) hx hb dX6_flushThing_62 (by decide) ?_
              exact j84_10 _ _ _ _ hf hP hS (lv_sub hl [1, 2, 3, 4, 5] rfl)
  exact j5_1 4096 _ _ _ _ _ _ hf hP hS (lv_sub hl [2, 3, 4, 1, 0] rfl)
set_option maxRecDepth 20000 in
theorem ggX6_flushFirst_X6_flushThing : GoodIn wsX6_flushFirst wsX6_flushThing := goodIn_r _ [5, 6, 7, 8, 9, 10, 11, 12, 13, 14, 15, 16, 17, 18, 19, 20, 21, 22, 23, 24, 25, 26, 27, 28, 29, 30, 31, 32, 33, 34, 35, 36, 37, 38, 39, 40, 41, 42, 43, 44, 45, 46, 47, 48, 49, 50, 51, 52, 53, 54, 55, 56, 57, 58, 59, 60, 61, 62, 63, 64, 65, 66, 67, 68, 69, 70, 71, 72, 73, 74, 75, 76, 77, 78, 79, 80, 81, 82, 83, 84, 85, 86] (by decide +kernel) (by decide +kernel)
set_option maxRecDepth 20000 in
theorem gX6_flushFirst_X6_flushThing : GoodIn wsX6_flushFirst (wsV RX6 292 RX6 yX6_flushThing wsX6_flushThing) := goodIn_app (goodIn_of _ (by decide +kernel)) ggX6_flushFirst_X6_flushThing
theorem dX6_flushFirst_0 : decode cX6_flushFirst 0 = .ok (.iconst 0, 1) := by decide +kernel
theorem dX6_flushFirst_1 : decode cX6_flushFirst 1 = .ok (.istore_n 2, 1) := by decide +kernel
theorem dX6_flushFirst_2 : decode cX6_flushFirst 2 = .ok (.iconst 0, 1) := by decide +kernel
theorem dX6_flushFirst_3 : decode cX6_flushFirst 3 = .ok (.istore_n 3, 1) := by decide +kernel
theorem dX6_flushFirst_4 : decode cX6_flushFirst 4 = .ok (.iload_n 3, 1) := by decide +kernel
theorem dX6_flushFirst_5 : decode cX6_flushFirst 5 = .ok (.bipush 32, 2) := by decide +kernel
theorem dX6_flushFirst_7 : decode cX6_flushFirst 7 = .ok (.if_icmp .ge 25, 3) := by decide +kernel
theorem dX6_flushFirst_10 : decode cX6_flushFirst 10 = .ok (.iload_n 2, 1) := by decide +kernel
theorem dX6_flushFirst_11 : decode cX6_flushFirst 11 = .ok (.iload_n 1, 1) := by decide +kernel
theorem dX6_flushFirst_12 : decode cX6_flushFirst 12 = .ok (.if_icmp .ge 20, 3) := by decide +kernel
theorem dX6_flushFirst_15 : decode cX6_flushFirst 15 = .ok (.iload_n 2, 1) := by decide +kernel
theorem dX6_flushFirst_16 : decode cX6_flushFirst 16 = .ok (.aload_n 0, 1) := by decide +kernel
theorem dX6_flushFirst_17 : decode cX6_flushFirst 17 = .ok (.iload_n 3, 1) := by decide +kernel
theorem dX6_flushFirst_18 : decode cX6_flushFirst 18 = .ok (.iload_n 1, 1) := by decide +kernel
theorem dX6_flushFirst_19 : decode cX6_flushFirst 19 = .ok (.iload_n 2, 1) := by decide +kernel
theorem dX6_flushFirst_20 : decode cX6_flushFirst 20 = .ok (.isub, 1) := by decide +kernel
theorem dX6_flushFirst_21 : decode cX6_flushFirst 21 = .ok (.invokevirtual 292, 3) := by decide +kernel
theorem dX6_flushFirst_24 : decode cX6_flushFirst 24 = .ok (.iadd, 1) := by decide +kernel
theorem dX6_flushFirst_25 : decode cX6_flushFirst 25 = .ok (.istore_n 2, 1) := by decide +kernel
theorem dX6_flushFirst_26 : decode cX6_flushFirst 26 = .ok (.iinc 3 1, 3) := by decide +kernel
theorem dX6_flushFirst_29 : decode cX6_flushFirst 29 = .ok (.goto (-25), 3) := by decide +kernel
theorem dX6_flushFirst_32 : decode cX6_flushFirst 32 = .ok (.iload_n 2, 1) := by decide +kernel
theorem dX6_flushFirst_33 : decode cX6_flushFirst 33 = .ok (.ireturn, 1) := by decide +kernel
def f_X6_flushFirst (U : S2) (p1 : Int32) : Option (Int32 × S2) := qj3 (fun (r4_1 : Int32 → Int32 → S2 → Option (Int32 × S2)) (y4_1_2 : Int32) (y4_1_3 : Int32) (u4_1_0 : S2) => jn (some (y4_1_2, u4_1_0)) (fun k32_2 => if 32 ≤ y4_1_3 then k32_2 else if p1 ≤ y4_1_2 then k32_2 else bn (f_X6_flushThing u4_1_0 y4_1_3 (p1 - y4_1_2)) (fun z_5 => r4_1 (y4_1_2 + z_5.1) (y4_1_3 + 1) z_5.2))) (fun k4_1 => k4_1 0 0 U)
def rmX6_flushFirst : Room := { frames := 4, cells := 0, slots := 0, locals := 90 }
set_option maxHeartbeats 4000000 in
set_option maxRecDepth 100000 in
theorem c_X6_flushFirst (l : Launch) (D : va_G) (cI cZ cJ cT : ClassId) (a : Nat → Nat → Nat) (sz : Nat) (U : S2) (p1 : Int32) (o : Int32 × S2) (hf : f_X6_flushFirst U p1 = some o) : Met l yX6_flushFirst wsX6_flushFirst rmX6_flushFirst (va_Pc [.ref (a 0 0), .int p1] (PW D cls (tys cI cZ cJ cT) (wI cI cZ cT a U) sz)) (QWi D cls o.1 (wI cI cZ cT a o.2) (va_A (wI cI cZ cT a U) sz)) 0 0 (va_A (wI cI cZ cT a U) sz) := by
  refine Met.ofW (cc := cX6_flushFirst) (maxL := 4) (ret := (some .int)) (by decide) rfl ?_
  intro p e s m args below meth c s₁ B hml hv
  obtain ⟨hav, hsz, hP, hK, hD0⟩ := hv
  have hx := B.exec
  have hb := B.bytes
  have hr := B.returns
  have hlocks := B.notSynchronized
  have hts := atoms_spec (ws := wsX6_flushFirst) B.pre
  have hown : s.vm.findClass RX6 = some m.cls := findClass_of_methodNamed B.named
  subst hsz
  have hD := hD0.self (sz := s.heap.size)
  generalize hAe : va_A (wI cI cZ cT a U) s.heap.size = A at hD ⊢
  have hA : ∀ q : Nat, s.heap.size ≤ q → A q := fun q h => by rw [← hAe]; exact Or.inr h
  have hS : va_S A s.heap s.heap [] := va_S.rf
  have hDD : ∀ V : S2, va_D A (wI cI cZ cT a V) := fun _ => D_same (w := (wI cI cZ cT a U)) rfl hD
  refine Wq (fun Q hQ => ?_)
  refine W_entry hav (Nat.le_of_ble_eq_true rfl) (fun ls hl => ?_)
  have hl : lv_has ls 4 [(0, .ref (a 0 0)), (1, .int p1)] := hl
  unfold f_X6_flushFirst at hf
  refine W_heap hP hS (fun H locs hP hS => ?_)
  refine lv_iconst (v := 0) hx hb dX6_flushFirst_0 (by decide) ?_
  refine lv_istore_n (lv' := [(2, .int 0), (0, .ref (a 0 0)), (1, .int p1)]) hx hb dX6_flushFirst_1 rfl hl (by decide) rfl (fun ls hl => ?_)
  refine lv_iconst (v := 0) hx hb dX6_flushFirst_2 (by decide) ?_
  refine lv_istore_n (lv' := [(3, .int 0), (2, .int 0), (0, .ref (a 0 0)), (1, .int p1)]) hx hb dX6_flushFirst_3 rfl hl (by decide) rfl (fun ls hl => ?_)
  obtain ⟨G4_1, hG4_1, hf⟩ := qj3_some hf
  have j4_1 : ∀ (n : Nat) (y4_1_2 : Int32) (y4_1_3 : Int32) (u4_1_0 : S2) (H : Heap) (locs : List Loc) (ls : Array Slot), ql3 G4_1 n y4_1_2 y4_1_3 u4_1_0 = some o → va_P D cls (wI cI cZ cT a u4_1_0) H → va_S A s.heap H locs → lv_has ls 4 [(0, .ref (a 0 0)), (1, .int p1), (2, .int y4_1_2), (3, .int y4_1_3)] → W p l e (headSpec wsX6_flushFirst rmX6_flushFirst).room s m args below meth c H locs 0 0 Q (F0 m 4 ls []) := by
    intro n
    induction n with
    | zero => intro y4_1_2 y4_1_3 u4_1_0 H locs ls hf hP hS hl; exact (ql3_z hf).elim
    | succ n ih4_1 =>
      intro y4_1_2 y4_1_3 u4_1_0 H locs ls hf hP hS hl
      have hf := ql3_s hG4_1 hf
      obtain ⟨r4_1, hr4_1⟩ : ∃ z, z = ql3 G4_1 n := ⟨_, rfl⟩
      rw [← hr4_1] at hf ih4_1
      refine lv_iload_n hx hb dX6_flushFirst_4 rfl (lv_at hl 3 rfl) ?_
      refine lv_bipush (v := 32) hx hb dX6_flushFirst_5 (by decide) ?_
      obtain ⟨k32_2, hk32_2, hf⟩ := jn_some hf
      have j32_2 : ∀ (H : Heap) (locs : List Loc) (ls : Array Slot), k32_2 = some o → va_P D cls (wI cI cZ cT a u4_1_0) H → va_S A s.heap H locs → lv_has ls 4 [(2, .int y4_1_2)] → W p l e (headSpec wsX6_flushFirst rmX6_flushFirst).room s m args below meth c H locs 0 0 Q (F0 m 32 ls []) := by
        intro H locs ls hf hP hS hl
        have hf := qa0 hk32_2 hf
        refine lv_iload_n hx hb dX6_flushFirst_32 rfl (lv_at hl 0 rfl) ?_
        have eo := Option.some.inj hf
        have hP : va_P D cls (wI cI cZ cT a o.2) H := by rw [← eo]; exact hP
        rw [hQ]
        exact W.iret hx hb hr (fun t ht hW => ⟨⟨_, (), rfl, (by rw [← eo]), P_at ht hP⟩, hS.F ht⟩) hS.2.2 dX6_flushFirst_33 hlocks
      refine lv_icmp_ge (tgt := 32) hx hb dX6_flushFirst_7 (by decide) (fun c_3 => ?_) (fun c_3 => ?_)
      · have hf := ite_t hf c_3
        exact j32_2 _ _ _ hf hP hS (lv_sub hl [2] rfl)
      · have hf := ite_f hf c_3
        refine lv_iload_n hx hb dX6_flushFirst_10 rfl (lv_at hl 2 rfl) ?_
        refine lv_iload_n hx hb dX6_flushFirst_11 rfl (lv_at hl 1 rfl) ?_
        refine lv_icmp_ge (tgt := 32) hx hb dX6_flushFirst_12 (by decide) (fun c_4 => ?_) (fun c_4 => ?_)
        · have hf := ite_t hf c_4
          exact j32_2 _ _ _ hf hP hS (lv_sub hl [2] rfl)
        · have hf := ite_f hf c_4
          refine lv_iload_n hx hb dX6_flushFirst_15 rfl (lv_at hl 2 rfl) ?_
          refine lv_aload_n hx hb dX6_flushFirst_16 rfl (lv_at hl 0 rfl) ?_
          refine lv_iload_n hx hb dX6_flushFirst_17 rfl (lv_at hl 3 rfl) ?_
          refine lv_iload_n hx hb dX6_flushFirst_18 rfl (lv_at hl 1 rfl) ?_
          refine lv_iload_n hx hb dX6_flushFirst_19 rfl (lv_at hl 2 rfl) ?_
          refine lv_isub hx hb dX6_flushFirst_20 ?_
          obtain ⟨z_5, hz_5, hf⟩ := bn_some hf
          refine cWVi (As := [.int y4_1_3, .int (p1 - y4_1_2)]) (rest := [.int y4_1_2]) ⟨hx, hb, hml, hown, hts⟩ (c_X6_flushThing l D cI cZ cJ cT a H.size u4_1_0 y4_1_3 (p1 - y4_1_2) z_5 hz_5) (cwV 2 hts gX6_flushFirst_X6_flushThing rfl rfl rfl (by decide +kernel) ⟨Nat.le_of_ble_eq_true rfl, Nat.le_of_ble_eq_true rfl⟩) hP hK (hDD u4_1_0) hS (own_free (hDD u4_1_0) hS hA) (va_recv hK (fl_sub hP 0 rfl) (ci := 6) (q0 := 0) rfl rfl) rfl rfl hl.1 (Nat.le_of_ble_eq_true rfl) dX6_flushFirst_21 ⟨Nat.le_of_ble_eq_true rfl, Nat.le_of_ble_eq_true rfl⟩ (fun H locs hP _ hS => ?_)
          refine lv_iadd hx hb dX6_flushFirst_24 ?_
          refine lv_istore_n (lv' := [(2, .int (y4_1_2 + z_5.1)), (0, .ref (a 0 0)), (1, .int p1), (3, .int y4_1_3)]) hx hb dX6_flushFirst_25 rfl hl (by decide) rfl (fun ls hl => ?_)
          refine lv_iinc (v := y4_1_3 + 1) (lv' := [(3, .int (y4_1_3 + 1)), (2, .int (y4_1_2 + z_5.1)), (0, .ref (a 0 0)), (1, .int p1)]) hx hb dX6_flushFirst_26 hl (k := 3) rfl rfl (by decide) rfl (fun ls hl => ?_)
          refine lv_goto (tgt := 4) hx hb dX6_flushFirst_29 (by decide) ?_
          exact ih4_1 _ _ _ _ _ _ hf hP hS (lv_sub hl [2, 3, 1, 0] rfl)
  exact j4_1 4096 _ _ _ _ _ _ hf hP hS (lv_sub hl [2, 3, 1, 0] rfl)
set_option maxRecDepth 20000 in
theorem ggX6_flush_X6_flushFirst : GoodIn wsX6_flush wsX6_flushFirst := goodIn_r _ [7, 8, 9, 10, 6, 11, 12, 13, 14, 15, 16, 17, 18, 19, 20, 21, 22, 23, 24, 25, 26, 27, 28, 29, 30, 31, 32, 33, 34, 35, 36, 37, 38, 39, 40, 41, 42, 43, 44, 45, 46, 47, 48, 49, 50, 51, 52, 53, 54, 55, 56, 57, 58, 59, 60, 61, 62, 63, 64, 65, 66, 67, 68, 69, 70, 71, 72, 73, 74, 75, 76, 77, 78, 79, 80, 81, 82, 83, 84, 85, 86, 87, 88, 89, 90, 91, 92] (by decide +kernel) (by decide +kernel)
set_option maxRecDepth 20000 in
theorem gX6_flush_X6_flushFirst : GoodIn wsX6_flush (wsV RX6 289 RX6 yX6_flushFirst wsX6_flushFirst) := goodIn_app (goodIn_of _ (by decide +kernel)) ggX6_flush_X6_flushFirst
theorem dX6_flush_0 : decode cX6_flush 0 = .ok (.iload_n 1, 1) := by decide +kernel
theorem dX6_flush_1 : decode cX6_flush 1 = .ok (.iconst 1, 1) := by decide +kernel
theorem dX6_flush_2 : decode cX6_flush 2 = .ok (.if_icmp .lt 10, 3) := by decide +kernel
theorem dX6_flush_5 : decode cX6_flush 5 = .ok (.iload_n 1, 1) := by decide +kernel
theorem dX6_flush_6 : decode cX6_flush 6 = .ok (.sipush 512, 3) := by decide +kernel
theorem dX6_flush_9 : decode cX6_flush 9 = .ok (.if_icmp .le 14, 3) := by decide +kernel
theorem dX6_flush_12 : decode cX6_flush 12 = .ok (.new 88, 3) := by decide +kernel
theorem dX6_flush_15 : decode cX6_flush 15 = .ok (.dup, 1) := by decide +kernel
theorem dX6_flush_16 : decode cX6_flush 16 = .ok (.ldc_w 287, 3) := by decide +kernel
theorem dX6_flush_19 : decode cX6_flush 19 = .ok (.invokespecial 92, 3) := by decide +kernel
theorem dX6_flush_22 : decode cX6_flush 22 = .ok (.athrow, 1) := by decide +kernel
theorem dX6_flush_23 : decode cX6_flush 23 = .ok (.aload_n 0, 1) := by decide +kernel
theorem dX6_flush_24 : decode cX6_flush 24 = .ok (.iload_n 1, 1) := by decide +kernel
theorem dX6_flush_25 : decode cX6_flush 25 = .ok (.invokevirtual 289, 3) := by decide +kernel
theorem dX6_flush_28 : decode cX6_flush 28 = .ok (.ireturn, 1) := by decide +kernel
def f_X6_flush (U : S2) (p1 : Int32) : Option (Nat × Int32 × S2) := jn (some (1, 0, U)) (fun k12_1 => if p1 < 1 then k12_1 else if p1 ≤ 512 then bn (f_X6_flushFirst U p1) (fun z_4 => some (0, z_4.1, z_4.2)) else k12_1)
def rmX6_flush : Room := { frames := 6, cells := 1, slots := 6, locals := 113 }
set_option maxHeartbeats 4000000 in
set_option maxRecDepth 100000 in
theorem c_X6_flush (l : Launch) (hst : l.stackTraces = false) (D : va_G) (cI cZ cJ cT : ClassId) (a : Nat → Nat → Nat) (sz : Nat) (U : S2) (p1 : Int32) (o : Nat × Int32 × S2) (hf : f_X6_flush U p1 = some o) : vx_Met l yX6_flush wsX6_flush rmX6_flush (va_Pc [.ref (a 0 0), .int p1] (PX D cls (tys cI cZ cJ cT) (wI cI cZ cT a U) sz)) (QXi D cls o.1 o.2.1 (wI cI cZ cT a o.2.2) (va_A (wI cI cZ cT a U) sz)) (XX D cls o.1 (wI cI cZ cT a o.2.2) (va_A (wI cI cZ cT a U) sz)) 1 6 (va_A (wI cI cZ cT a U) sz) := by
  refine vx_ofW (cc := cX6_flush) (maxL := 2) (ret := (some .int)) (by decide) rfl ?_
  intro p e s m args below meth c s₁ B hml hxt hv
  obtain ⟨hav, ⟨hsz, hP, hK, hD0⟩, hE⟩ := hv
  have hx := B.exec
  have hb := B.bytes
  have hr := B.returns
  have hlocks := B.notSynchronized
  have hts := atoms_spec (ws := wsX6_flush) B.pre
  have hown : s.vm.findClass RX6 = some m.cls := findClass_of_methodNamed B.named
  subst hsz
  have hD := hD0.self (sz := s.heap.size)
  generalize hAe : va_A (wI cI cZ cT a U) s.heap.size = A at hD hE ⊢
  have hA : ∀ q : Nat, s.heap.size ≤ q → A q := fun q h => by rw [← hAe]; exact Or.inr h
  have hS : va_S A s.heap s.heap [] := va_S.rf
  have hDD : ∀ V : S2, va_D A (wI cI cZ cT a V) := fun _ => D_same (w := (wI cI cZ cT a U)) rfl hD
  refine Wq (fun Q hQ => ?_)
  refine W_entry hav (Nat.le_of_ble_eq_true rfl) (fun ls hl => ?_)
  have hl : lv_has ls 2 [(0, .ref (a 0 0)), (1, .int p1)] := hl
  unfold f_X6_flush at hf
  refine W_heap hP hS (fun H locs hP hS => ?_)
  refine lv_iload_n hx hb dX6_flush_0 rfl (lv_at hl 1 rfl) ?_
  refine lv_iconst (v := 1) hx hb dX6_flush_1 (by decide) ?_
  obtain ⟨k12_1, hk12_1, hf⟩ := jn_some hf
  have j12_1 : ∀ (H : Heap) (locs : List Loc) (ls : Array Slot), k12_1 = some o → va_P D cls (wI cI cZ cT a U) H → va_S A s.heap H locs → lv_has ls 2 [] → W p l e (headSpec wsX6_flush rmX6_flush).room s m args below meth c H locs 0 0 Q (F0 m 12 ls []) := by
    intro H locs ls hf hP hS hl
    have hf := qa0 hk12_1 hf
    have eo := Option.some.inj hf
    have hP : va_P D cls (wI cI cZ cT a o.2.2) H := by rw [← eo]; exact hP
    rw [hQ]
    have hk0 : o.1 = 1 := by rw [← eo]
    exact thrW o.1 (text := "many is out of range") (by rw [hk0]; rfl) (by rw [hk0]; decide) hx hb hst hown (by decide +kernel) (hts (.classLink RX6 88 "java/lang/IllegalArgumentException") (by decide +kernel)) (hts (.initialized "java/lang/IllegalArgumentException") (by decide +kernel)) (fun w h => hts w (List.mem_cons_of_mem _ (List.mem_append_right _ h))) (EX_b1 hE) ok1 (by decide +kernel) hE hS hP (hl.1.trans hml.symm) dX6_flush_12 dX6_flush_15 dX6_flush_16 dX6_flush_19 dX6_flush_22 hxt (Nat.le_of_ble_eq_true rfl) (Nat.le_of_ble_eq_true rfl) (Nat.le_of_ble_eq_true rfl) (Nat.le_of_ble_eq_true rfl) hlocks (Nat.le_of_ble_eq_true rfl) (Nat.le_of_ble_eq_true rfl)
  refine lv_icmp_lt (tgt := 12) hx hb dX6_flush_2 (by decide) (fun c_2 => ?_) (fun c_2 => ?_)
  · have hf := ite_t hf c_2
    refine W.widen (k := 0) (n := 0) (Nat.le_of_ble_eq_true rfl) (Nat.le_of_ble_eq_true rfl) ?_
    exact j12_1 _ _ _ hf hP hS (lv_sub hl [] rfl)
  · have hf := ite_f hf c_2
    refine lv_iload_n hx hb dX6_flush_5 rfl (lv_at hl 1 rfl) ?_
    refine lv_sipush (v := 512) hx hb dX6_flush_6 (by decide) ?_
    refine lv_icmp_le (tgt := 23) hx hb dX6_flush_9 (by decide) (fun c_3 => ?_) (fun c_3 => ?_)
    · have hf := ite_t hf c_3
      refine lv_aload_n hx hb dX6_flush_23 rfl (lv_at hl 0 rfl) ?_
      refine lv_iload_n hx hb dX6_flush_24 rfl (lv_at hl 1 rfl) ?_
      obtain ⟨z_4, hz_4, hf⟩ := bn_some hf
      refine cWVi (As := [.int p1]) (rest := []) ⟨hx, hb, hml, hown, hts⟩ (c_X6_flushFirst l D cI cZ cJ cT a H.size U p1 z_4 hz_4) (cwV 1 hts gX6_flush_X6_flushFirst rfl rfl rfl (by decide +kernel) ⟨Nat.le_of_ble_eq_true rfl, Nat.le_of_ble_eq_true rfl⟩) hP hK (hDD U) hS (own_free (hDD U) hS hA) (va_recv hK (fl_sub hP 0 rfl) (ci := 6) (q0 := 0) rfl rfl) rfl rfl hl.1 (Nat.le_of_ble_eq_true rfl) dX6_flush_25 ⟨Nat.le_of_ble_eq_true rfl, Nat.le_of_ble_eq_true rfl⟩ (fun H locs hP _ hS => ?_)
      have eo := Option.some.inj hf
      have hP : va_P D cls (wI cI cZ cT a o.2.2) H := by rw [← eo]; exact hP
      rw [hQ]
      refine W.widen (k := 1) (n := 6) (Nat.le_of_ble_eq_true rfl) (Nat.le_of_ble_eq_true rfl) ?_
      exact vx_ret (W.iret hx hb hr (fun t ht hW => ⟨⟨_, (), rfl, ⟨(by rw [← eo]), (by rw [← eo])⟩, P_at ht hP⟩, hS.F ht⟩) hS.2.2 dX6_flush_28 hlocks)
    · have hf := ite_f hf c_3
      refine W.widen (k := 0) (n := 0) (Nat.le_of_ble_eq_true rfl) (Nat.le_of_ble_eq_true rfl) ?_
      exact j12_1 _ _ _ hf hP hS (lv_sub hl [] rfl)
set_option maxRecDepth 20000 in
theorem ggX6_commitAll_X4_becomeLike : GoodIn wsX6_commitAll wsX4_becomeLike := goodIn_r _ [67, 68, 69, 70, 71, 72, 73, 74, 75, 76, 77, 78, 79, 80, 32, 81, 82, 97, 98, 99, 100, 101, 102, 103, 104, 105, 106, 107, 108] (by decide +kernel) (by decide +kernel)
set_option maxRecDepth 20000 in
theorem gX6_commitAll_X4_becomeLike : GoodIn wsX6_commitAll (wsV RX6 301 RX4 yX4_becomeLike wsX4_becomeLike) := goodIn_app (goodIn_of _ (by decide +kernel)) ggX6_commitAll_X4_becomeLike
set_option maxRecDepth 20000 in
theorem ggX6_commitAll_X6_flushFirst : GoodIn wsX6_commitAll wsX6_flushFirst := goodIn_r _ [7, 8, 9, 10, 6, 11, 12, 2, 13, 14, 15, 16, 17, 18, 19, 20, 21, 22, 23, 24, 25, 26, 27, 28, 29, 30, 31, 32, 33, 34, 35, 36, 37, 38, 39, 40, 41, 42, 43, 44, 45, 46, 47, 48, 49, 50, 51, 52, 53, 54, 55, 56, 57, 58, 59, 60, 61, 62, 63, 83, 84, 85, 86, 87, 88, 89, 90, 91, 92, 93, 94, 95, 96, 97, 98, 99, 100, 101, 102, 103, 104, 105, 106, 107, 108, 109, 110] (by decide +kernel) (by decide +kernel)
set_option maxRecDepth 20000 in
theorem gX6_commitAll_X6_flushFirst : GoodIn wsX6_commitAll (wsV RX6 289 RX6 yX6_flushFirst wsX6_flushFirst) := goodIn_app (goodIn_of _ (by decide +kernel)) ggX6_commitAll_X6_flushFirst
theorem dX6_commitAll_0 : decode cX6_commitAll 0 = .ok (.aload_n 0, 1) := by decide +kernel
theorem dX6_commitAll_1 : decode cX6_commitAll 1 = .ok (.sipush 512, 3) := by decide +kernel
theorem dX6_commitAll_4 : decode cX6_commitAll 4 = .ok (.invokevirtual 289, 3) := by decide +kernel
theorem dX6_commitAll_7 : decode cX6_commitAll 7 = .ok (.istore_n 1, 1) := by decide +kernel
theorem dX6_commitAll_8 : decode cX6_commitAll 8 = .ok (.aload_n 0, 1) := by decide +kernel
theorem dX6_commitAll_9 : decode cX6_commitAll 9 = .ok (.getfield 16, 3) := by decide +kernel
theorem dX6_commitAll_12 : decode cX6_commitAll 12 = .ok (.aload_n 0, 1) := by decide +kernel
theorem dX6_commitAll_13 : decode cX6_commitAll 13 = .ok (.getfield 12, 3) := by decide +kernel
theorem dX6_commitAll_16 : decode cX6_commitAll 16 = .ok (.invokevirtual 301, 3) := by decide +kernel
theorem dX6_commitAll_19 : decode cX6_commitAll 19 = .ok (.iload_n 1, 1) := by decide +kernel
theorem dX6_commitAll_20 : decode cX6_commitAll 20 = .ok (.ireturn, 1) := by decide +kernel
def f_X6_commitAll (U : S2) : Option (Int32 × S2) := bn (f_X6_flushFirst U 512) (fun z_1 => bn (f_X4_becomeLike (z_1.2 2) (z_1.2 1)) (fun z_2 => bv (upc z_1.2 2 z_2) (fun u_3 => some (z_1.1, u_3))))
def rmX6_commitAll : Room := { frames := 5, cells := 0, slots := 0, locals := 113 }
set_option maxHeartbeats 4000000 in
set_option maxRecDepth 100000 in
theorem c_X6_commitAll (l : Launch) (D : va_G) (cI cZ cJ cT : ClassId) (a : Nat → Nat → Nat) (sz : Nat) (U : S2) (o : Int32 × S2) (hf : f_X6_commitAll U = some o) : Met l yX6_commitAll wsX6_commitAll rmX6_commitAll (va_Pc [.ref (a 0 0)] (PW D cls (tys cI cZ cJ cT) (wI cI cZ cT a U) sz)) (QWi D cls o.1 (wI cI cZ cT a o.2) (va_A (wI cI cZ cT a U) sz)) 0 0 (va_A (wI cI cZ cT a U) sz) := by
  refine Met.ofW (cc := cX6_commitAll) (maxL := 2) (ret := (some .int)) (by decide) rfl ?_
  intro p e s m args below meth c s₁ B hml hv
  obtain ⟨hav, hsz, hP, hK, hD0⟩ := hv
  have hx := B.exec
  have hb := B.bytes
  have hr := B.returns
  have hlocks := B.notSynchronized
  have hts := atoms_spec (ws := wsX6_commitAll) B.pre
  have hown : s.vm.findClass RX6 = some m.cls := findClass_of_methodNamed B.named
  have i6 : ∀ w ∈ wsX60, w ∈ wsX6_commitAll := fun w h => List.mem_cons_of_mem _ (List.mem_append_left _ (List.mem_append_left _ (List.mem_append_left _ (List.mem_append_right _ h))))
  have hk12 := hts (.fieldLink RX6 12 "Inodery" "now" "LInodery$Tree;") (by decide +kernel)
  have hk16 := hts (.fieldLink RX6 16 "Inodery" "committed" "LInodery$Tree;") (by decide +kernel)
  subst hsz
  have hD := hD0.self (sz := s.heap.size)
  generalize hAe : va_A (wI cI cZ cT a U) s.heap.size = A at hD ⊢
  have hA : ∀ q : Nat, s.heap.size ≤ q → A q := fun q h => by rw [← hAe]; exact Or.inr h
  have hS : va_S A s.heap s.heap [] := va_S.rf
  have hDD : ∀ V : S2, va_D A (wI cI cZ cT a V) := fun _ => D_same (w := (wI cI cZ cT a U)) rfl hD
  refine Wq (fun Q hQ => ?_)
  refine W_entry hav (Nat.le_of_ble_eq_true rfl) (fun ls hl => ?_)
  have hl : lv_has ls 2 [(0, .ref (a 0 0))] := hl
  unfold f_X6_commitAll at hf
  refine W_heap hP hS (fun H locs hP hS => ?_)
  refine lv_aload_n hx hb dX6_commitAll_0 rfl (lv_at hl 0 rfl) ?_
  refine lv_sipush (v := 512) hx hb dX6_commitAll_1 (by decide) ?_
  obtain ⟨z_1, hz_1, hf⟩ := bn_some hf
  refine cWVi (As := [.int 512]) (rest := []) ⟨hx, hb, hml, hown, hts⟩ (c_X6_flushFirst l D cI cZ cJ cT a H.size U 512 z_1 hz_1) (cwV 1 hts gX6_commitAll_X6_flushFirst rfl rfl rfl (by decide +kernel) ⟨Nat.le_of_ble_eq_true rfl, Nat.le_of_ble_eq_true rfl⟩) hP hK (hDD U) hS (own_free (hDD U) hS hA) (va_recv hK (fl_sub hP 0 rfl) (ci := 6) (q0 := 0) rfl rfl) rfl rfl hl.1 (Nat.le_of_ble_eq_true rfl) dX6_commitAll_4 ⟨Nat.le_of_ble_eq_true rfl, Nat.le_of_ble_eq_true rfl⟩ (fun H locs hP _ hS => ?_)
  refine lv_istore_n (lv' := [(1, .int z_1.1), (0, .ref (a 0 0))]) hx hb dX6_commitAll_7 rfl hl (by decide) rfl (fun ls hl => ?_)
  refine lv_aload_n hx hb dX6_commitAll_8 rfl (lv_at hl 1 rfl) ?_
  refine va_get (D := D) (ci := 6) (v := .ref (a 2 0)) (C := RX6) (T := TX6) (N := 11) hx hb hts i6 hown hK (fl_sub hP 0 rfl) 0 rfl rfl 1 (by decide) hk16 (fun _ h9 => h9) rfl dX6_commitAll_9 ?_
  refine lv_aload_n hx hb dX6_commitAll_12 rfl (lv_at hl 1 rfl) ?_
  refine va_get (D := D) (ci := 6) (v := .ref (a 1 0)) (C := RX6) (T := TX6) (N := 11) hx hb hts i6 hown hK (fl_sub hP 0 rfl) 0 rfl rfl 0 (by decide) hk12 (fun _ h9 => h9) rfl dX6_commitAll_13 ?_
  obtain ⟨z_2, hz_2, hf⟩ := bn_some hf
  refine cWVv (As := [.ref (a 1 0)]) (rest := []) ⟨hx, hb, hml, hown, hts⟩ (c_X4_becomeLike l D cI cZ cJ cT (a 2) (a 1) H.size (z_1.2 2) (z_1.2 1) z_2 hz_2) (cwV 1 hts gX6_commitAll_X4_becomeLike rfl rfl rfl (by decide +kernel) ⟨Nat.le_of_ble_eq_true rfl, Nat.le_of_ble_eq_true rfl⟩) (fl_subM hP [2, 1] rfl) hK (fl_subDM (hDD z_1.2) [2, 1] rfl rfl) hS (own_free (fl_subDM (hDD z_1.2) [2, 1] rfl rfl) hS hA) (va_recv hK (fl_sub hP 2 rfl) (ci := 4) (q0 := 0) rfl rfl) rfl rfl hl.1 (Nat.le_of_ble_eq_true rfl) dX6_commitAll_16 ⟨Nat.le_of_ble_eq_true rfl, Nat.le_of_ble_eq_true rfl⟩ (fun H1 locs hP1 hk1 hS => ?_)
  obtain ⟨u_3, hu_3, hf⟩ := bv_some hf
  have hP : va_P D cls (wI cI cZ cT a u_3) H1 := by rw [hu_3]; exact fl_joinM hP (hDD z_1.2) [2, 1] rfl rfl hk1 hP1
  clear hP1 hk1
  generalize H1 = H at hP hS ⊢
  refine lv_iload_n hx hb dX6_commitAll_19 rfl (lv_at hl 0 rfl) ?_
  have eo := Option.some.inj hf
  have hP : va_P D cls (wI cI cZ cT a o.2) H := by rw [← eo]; exact hP
  rw [hQ]
  exact W.iret hx hb hr (fun t ht hW => ⟨⟨_, (), rfl, (by rw [← eo]), P_at ht hP⟩, hS.F ht⟩) hS.2.2 dX6_commitAll_20 hlocks
set_option maxRecDepth 20000 in
theorem ggX6_sync_X0_tellError : GoodIn wsX6_sync wsX0_tellError := goodIn_r _ [120, 77, 121, 122, 123, 42, 124, 141, 142, 143] (by decide +kernel) (by decide +kernel)
set_option maxRecDepth 20000 in
theorem gX6_sync_X0_tellError : GoodIn wsX6_sync (wsV RX6 208 RX0 yX0_tellError wsX0_tellError) := goodIn_app (goodIn_of _ (by decide +kernel)) ggX6_sync_X0_tellError
set_option maxRecDepth 20000 in
theorem ggX6_sync_X3_thingOf : GoodIn wsX6_sync wsX3_thingOf := goodIn_r _ [31, 32, 27, 11, 12, 13, 14, 15, 136, 137, 138, 139, 140] (by decide +kernel) (by decide +kernel)
set_option maxRecDepth 20000 in
theorem gX6_sync_X3_thingOf : GoodIn wsX6_sync (wsV RX6 205 RX3 yX3_thingOf wsX3_thingOf) := goodIn_app (goodIn_of _ (by decide +kernel)) ggX6_sync_X3_thingOf
set_option maxRecDepth 20000 in
theorem ggX6_sync_X6_commitAll : GoodIn wsX6_sync wsX6_commitAll := goodIn_r _ [92, 93, 37, 94, 95, 96, 6, 97, 33, 34, 35, 36, 2, 38, 39, 40, 41, 42, 43, 44, 45, 46, 47, 48, 49, 50, 51, 52, 53, 54, 55, 56, 57, 58, 59, 60, 61, 62, 63, 64, 65, 66, 67, 68, 69, 70, 71, 72, 73, 74, 75, 76, 77, 78, 79, 80, 81, 82, 83, 84, 85, 86, 87, 88, 98, 99, 100, 101, 102, 103, 104, 105, 106, 107, 108, 109, 110, 111, 112, 113, 114, 115, 116, 125, 126, 127, 128, 129, 130, 131, 132, 133, 134, 135, 141, 142, 143, 144, 145, 146, 147, 148, 149, 150, 151, 152, 153, 154, 155, 156, 157] (by decide +kernel) (by decide +kernel)
set_option maxRecDepth 20000 in
theorem gX6_sync_X6_commitAll : GoodIn wsX6_sync (wsV RX6 295 RX6 yX6_commitAll wsX6_commitAll) := goodIn_app (goodIn_of _ (by decide +kernel)) ggX6_sync_X6_commitAll
set_option maxRecDepth 20000 in
theorem ggX6_sync_X6_demandHandle : GoodIn wsX6_sync wsX6_demandHandle := goodIn_ca (goodIn_r _ [7, 8, 9, 1, 10, 11, 12, 13, 14, 15, 125, 126, 127, 128, 129, 130, 131, 132, 133, 134, 135, 136, 137, 138, 139, 140] (by decide +kernel) (by decide +kernel)) (goodIn_sub (fun _ h => List.mem_cons_of_mem _ (List.mem_append_left _ (List.mem_append_right _ h))) (by decide +kernel))
set_option maxRecDepth 20000 in
theorem gX6_sync_X6_demandHandle : GoodIn wsX6_sync (wsV RX6 198 RX6 yX6_demandHandle wsX6_demandHandle) := goodIn_app (goodIn_of _ (by decide +kernel)) ggX6_sync_X6_demandHandle
set_option maxRecDepth 20000 in
theorem ggX6_sync_X6_demandOpen : GoodIn wsX6_sync wsX6_demandOpen := goodIn_ca (goodIn_r _ [19, 20, 21, 1, 22, 23, 24, 13, 25, 26, 27, 11, 12, 14, 15, 125, 126, 127, 128, 129, 130, 131, 132, 133, 134, 135, 136, 137, 138, 139, 140] (by decide +kernel) (by decide +kernel)) (goodIn_sub (fun _ h => List.mem_cons_of_mem _ (List.mem_append_right _ h)) (by decide +kernel))
set_option maxRecDepth 20000 in
theorem gX6_sync_X6_demandOpen : GoodIn wsX6_sync (wsV RX6 202 RX6 yX6_demandOpen wsX6_demandOpen) := goodIn_app (goodIn_of _ (by decide +kernel)) ggX6_sync_X6_demandOpen
set_option maxRecDepth 20000 in
theorem ggX6_sync_X6_flushThing : GoodIn wsX6_sync wsX6_flushThing := goodIn_r _ [36, 2, 37, 38, 39, 40, 41, 42, 43, 44, 45, 46, 47, 48, 49, 50, 51, 52, 53, 54, 55, 56, 57, 58, 59, 60, 61, 62, 63, 64, 65, 66, 67, 68, 69, 70, 71, 72, 73, 74, 75, 76, 77, 78, 79, 80, 81, 82, 83, 84, 85, 86, 87, 88, 125, 126, 127, 128, 129, 130, 131, 132, 133, 134, 135, 141, 142, 143, 144, 145, 146, 147, 148, 149, 150, 151, 152, 153, 154, 155, 156, 157] (by decide +kernel) (by decide +kernel)
set_option maxRecDepth 20000 in
theorem gX6_sync_X6_flushThing : GoodIn wsX6_sync (wsV RX6 292 RX6 yX6_flushThing wsX6_flushThing) := goodIn_app (goodIn_of _ (by decide +kernel)) ggX6_sync_X6_flushThing
theorem dX6_sync_0 : decode cX6_sync 0 = .ok (.aload_n 0, 1) := by decide +kernel
theorem dX6_sync_1 : decode cX6_sync 1 = .ok (.iload_n 1, 1) := by decide +kernel
theorem dX6_sync_2 : decode cX6_sync 2 = .ok (.invokevirtual 198, 3) := by decide +kernel
theorem dX6_sync_5 : decode cX6_sync 5 = .ok (.aload_n 0, 1) := by decide +kernel
theorem dX6_sync_6 : decode cX6_sync 6 = .ok (.iload_n 1, 1) := by decide +kernel
theorem dX6_sync_7 : decode cX6_sync 7 = .ok (.invokevirtual 202, 3) := by decide +kernel
theorem dX6_sync_10 : decode cX6_sync 10 = .ok (.aload_n 0, 1) := by decide +kernel
theorem dX6_sync_11 : decode cX6_sync 11 = .ok (.getfield 51, 3) := by decide +kernel
theorem dX6_sync_14 : decode cX6_sync 14 = .ok (.iload_n 1, 1) := by decide +kernel
theorem dX6_sync_15 : decode cX6_sync 15 = .ok (.invokevirtual 205, 3) := by decide +kernel
theorem dX6_sync_18 : decode cX6_sync 18 = .ok (.istore_n 2, 1) := by decide +kernel
theorem dX6_sync_19 : decode cX6_sync 19 = .ok (.aload_n 0, 1) := by decide +kernel
theorem dX6_sync_20 : decode cX6_sync 20 = .ok (.iload_n 2, 1) := by decide +kernel
theorem dX6_sync_21 : decode cX6_sync 21 = .ok (.bipush 16, 2) := by decide +kernel
theorem dX6_sync_23 : decode cX6_sync 23 = .ok (.invokevirtual 292, 3) := by decide +kernel
theorem dX6_sync_26 : decode cX6_sync 26 = .ok (.pop, 1) := by decide +kernel
theorem dX6_sync_27 : decode cX6_sync 27 = .ok (.aload_n 0, 1) := by decide +kernel
theorem dX6_sync_28 : decode cX6_sync 28 = .ok (.invokevirtual 295, 3) := by decide +kernel
theorem dX6_sync_31 : decode cX6_sync 31 = .ok (.pop, 1) := by decide +kernel
theorem dX6_sync_32 : decode cX6_sync 32 = .ok (.aload_n 0, 1) := by decide +kernel
theorem dX6_sync_33 : decode cX6_sync 33 = .ok (.getfield 44, 3) := by decide +kernel
theorem dX6_sync_36 : decode cX6_sync 36 = .ok (.iload_n 2, 1) := by decide +kernel
theorem dX6_sync_37 : decode cX6_sync 37 = .ok (.invokevirtual 208, 3) := by decide +kernel
theorem dX6_sync_40 : decode cX6_sync 40 = .ok (.ireturn, 1) := by decide +kernel
def f_X6_sync (U : S2) (p1 : Int32) : Option (Nat × Int32 × S2) := bn (f_X6_demandHandle U p1) (fun z_1 => if z_1.1 = 0 then bn (f_X6_demandOpen z_1.2.2 p1) (fun z_3 => if z_3.1 = 0 then bn (f_X3_thingOf (z_3.2.2 9) p1) (fun z_5 => bn (f_X6_flushThing z_3.2.2 z_5 16) (fun z_6 => bn (f_X6_commitAll z_6.2) (fun z_7 => bn (f_X0_tellError (z_7.2 8) z_5) (fun z_8 => bv (upc z_7.2 8 z_8.2) (fun u_9 => some (0, vp_nar .boolean z_8.1, u_9)))))) else some (z_3.1, 0, z_3.2.2)) else some (z_1.1, 0, z_1.2.2))
def rmX6_sync : Room := { frames := 7, cells := 2, slots := 12, locals := 134 }
set_option maxHeartbeats 4000000 in
set_option maxRecDepth 100000 in
theorem c_X6_sync (l : Launch) (hst : l.stackTraces = false) (D : va_G) (cI cZ cJ cT : ClassId) (a : Nat → Nat → Nat) (sz : Nat) (U : S2) (p1 : Int32) (o : Nat × Int32 × S2) (hf : f_X6_sync U p1 = some o) : vx_Met l yX6_sync wsX6_sync rmX6_sync (va_Pc [.ref (a 0 0), .int p1] (PX D cls (tys cI cZ cJ cT) (wI cI cZ cT a U) sz)) (QXi D cls o.1 o.2.1 (wI cI cZ cT a o.2.2) (va_A (wI cI cZ cT a U) sz)) (XX D cls o.1 (wI cI cZ cT a o.2.2) (va_A (wI cI cZ cT a U) sz)) 2 12 (va_A (wI cI cZ cT a U) sz) := by
  refine vx_ofW (cc := cX6_sync) (maxL := 3) (ret := (some .boolean)) (by decide) rfl ?_
  intro p e s m args below meth c s₁ B hml hxt hv
  obtain ⟨hav, ⟨hsz, hP, hK, hD0⟩, hE⟩ := hv
  have hx := B.exec
  have hb := B.bytes
  have hr := B.returns
  have hlocks := B.notSynchronized
  have hts := atoms_spec (ws := wsX6_sync) B.pre
  have hown : s.vm.findClass RX6 = some m.cls := findClass_of_methodNamed B.named
  have i6 : ∀ w ∈ wsX60, w ∈ wsX6_sync := fun w h => List.mem_cons_of_mem _ (List.mem_append_left _ (List.mem_append_left _ (List.mem_append_left _ (List.mem_append_left _ (List.mem_append_left _ (List.mem_append_left _ (List.mem_append_right _ h)))))))
  have hk44 := hts (.fieldLink RX6 44 "Inodery" "cache" "LInodery$Cache;") (by decide +kernel)
  have hk51 := hts (.fieldLink RX6 51 "Inodery" "handles" "LInodery$Handles;") (by decide +kernel)
  subst hsz
  have hD := hD0.self (sz := s.heap.size)
  generalize hAe : va_A (wI cI cZ cT a U) s.heap.size = A at hD hE ⊢
  have hA : ∀ q : Nat, s.heap.size ≤ q → A q := fun q h => by rw [← hAe]; exact Or.inr h
  have hS : va_S A s.heap s.heap [] := va_S.rf
  have hDD : ∀ V : S2, va_D A (wI cI cZ cT a V) := fun _ => D_same (w := (wI cI cZ cT a U)) rfl hD
  refine Wq (fun Q hQ => ?_)
  refine W_entry hav (Nat.le_of_ble_eq_true rfl) (fun ls hl => ?_)
  have hl : lv_has ls 3 [(0, .ref (a 0 0)), (1, .int p1)] := hl
  unfold f_X6_sync at hf
  refine W_heap hP hS (fun H locs hP hS => ?_)
  refine lv_aload_n hx hb dX6_sync_0 rfl (lv_at hl 0 rfl) ?_
  refine lv_iload_n hx hb dX6_sync_1 rfl (lv_at hl 1 rfl) ?_
  obtain ⟨z_1, hz_1, hf⟩ := bn_some hf
  refine cXVv (As := [.int p1]) (rest := []) ⟨hx, hb, hml, hown, hts⟩ (c_X6_demandHandle l hst D cI cZ cJ cT a H.size U p1 z_1 hz_1) (cwV 1 hts gX6_sync_X6_demandHandle rfl rfl rfl (by decide +kernel) ⟨Nat.le_of_ble_eq_true rfl, Nat.le_of_ble_eq_true rfl⟩) hP hK (hDD U) hE hS (own_free (hDD U) hS hA) (va_recv hK (fl_sub hP 0 rfl) (ci := 6) (q0 := 0) rfl rfl) rfl rfl hl.1 (Nat.le_of_ble_eq_true rfl) dX6_sync_2 ⟨Nat.le_of_ble_eq_true rfl, Nat.le_of_ble_eq_true rfl⟩ (fun E ce q9 H locs k_2 hE9 hP hS hce hcv hcl => ?_) (fun H locs k_2 hP hS => ?_)
  · have hf := ite_f hf k_2
    have eo := Option.some.inj hf
    have hP : va_P D cls (wI cI cZ cT a o.2.2) H := by rw [← eo]; exact hP
    rw [hQ]
    exact xout (k := o.1) hxt hlocks (by rw [← eo]; exact k_2) (by rw [← eo]; exact hE9) hP hS hce hcv hcl (Nat.le_of_ble_eq_true rfl) (Nat.le_of_ble_eq_true rfl)
  have hf := ite_t hf k_2
  refine lv_aload_n hx hb dX6_sync_5 rfl (lv_at hl 0 rfl) ?_
  refine lv_iload_n hx hb dX6_sync_6 rfl (lv_at hl 1 rfl) ?_
  obtain ⟨z_3, hz_3, hf⟩ := bn_some hf
  refine cXVv (As := [.int p1]) (rest := []) ⟨hx, hb, hml, hown, hts⟩ (c_X6_demandOpen l hst D cI cZ cJ cT a H.size z_1.2.2 p1 z_3 hz_3) (cwV 1 hts gX6_sync_X6_demandOpen rfl rfl rfl (by decide +kernel) ⟨Nat.le_of_ble_eq_true rfl, Nat.le_of_ble_eq_true rfl⟩) hP hK (hDD z_1.2.2) hE hS (own_free (hDD z_1.2.2) hS hA) (va_recv hK (fl_sub hP 0 rfl) (ci := 6) (q0 := 0) rfl rfl) rfl rfl hl.1 (Nat.le_of_ble_eq_true rfl) dX6_sync_7 ⟨Nat.le_of_ble_eq_true rfl, Nat.le_of_ble_eq_true rfl⟩ (fun E ce q9 H locs k_4 hE9 hP hS hce hcv hcl => ?_) (fun H locs k_4 hP hS => ?_)
  · have hf := ite_f hf k_4
    have eo := Option.some.inj hf
    have hP : va_P D cls (wI cI cZ cT a o.2.2) H := by rw [← eo]; exact hP
    rw [hQ]
    exact xout (k := o.1) hxt hlocks (by rw [← eo]; exact k_4) (by rw [← eo]; exact hE9) hP hS hce hcv hcl (Nat.le_of_ble_eq_true rfl) (Nat.le_of_ble_eq_true rfl)
  have hf := ite_t hf k_4
  refine lv_aload_n hx hb dX6_sync_10 rfl (lv_at hl 0 rfl) ?_
  refine va_get (D := D) (ci := 6) (v := .ref (a 9 0)) (C := RX6) (T := TX6) (N := 11) hx hb hts i6 hown hK (fl_sub hP 0 rfl) 0 rfl rfl 7 (by decide) hk51 (fun _ h9 => h9) rfl dX6_sync_11 ?_
  refine lv_iload_n hx hb dX6_sync_14 rfl (lv_at hl 1 rfl) ?_
  obtain ⟨z_5, hz_5, hf⟩ := bn_some hf
  refine cRV (As := [.int p1]) (rest := []) ⟨hx, hb, hml, hown, hts⟩ (c_X3_thingOf l D cI cZ cJ cT (a 9) (z_3.2.2 9) p1 z_5 hz_5) (cwV 1 hts gX6_sync_X3_thingOf rfl rfl rfl (by decide +kernel) ⟨Nat.le_of_ble_eq_true rfl, Nat.le_of_ble_eq_true rfl⟩) (fl_sub hP 9 rfl) hK (va_recv hK (fl_sub hP 9 rfl) (ci := 3) (q0 := 0) rfl rfl) rfl rfl hl.1 (Nat.le_of_ble_eq_true rfl) dX6_sync_15 ⟨Nat.le_of_ble_eq_true rfl, Nat.le_of_ble_eq_true rfl⟩ ?_
  refine lv_istore_n (lv' := [(2, .int z_5), (0, .ref (a 0 0)), (1, .int p1)]) hx hb dX6_sync_18 rfl hl (by decide) rfl (fun ls hl => ?_)
  refine lv_aload_n hx hb dX6_sync_19 rfl (lv_at hl 1 rfl) ?_
  refine lv_iload_n hx hb dX6_sync_20 rfl (lv_at hl 0 rfl) ?_
  refine lv_bipush (v := 16) hx hb dX6_sync_21 (by decide) ?_
  obtain ⟨z_6, hz_6, hf⟩ := bn_some hf
  refine cWVi (As := [.int z_5, .int 16]) (rest := []) ⟨hx, hb, hml, hown, hts⟩ (c_X6_flushThing l D cI cZ cJ cT a H.size z_3.2.2 z_5 16 z_6 hz_6) (cwV 2 hts gX6_sync_X6_flushThing rfl rfl rfl (by decide +kernel) ⟨Nat.le_of_ble_eq_true rfl, Nat.le_of_ble_eq_true rfl⟩) hP hK (hDD z_3.2.2) hS (own_free (hDD z_3.2.2) hS hA) (va_recv hK (fl_sub hP 0 rfl) (ci := 6) (q0 := 0) rfl rfl) rfl rfl hl.1 (Nat.le_of_ble_eq_true rfl) dX6_sync_23 ⟨Nat.le_of_ble_eq_true rfl, Nat.le_of_ble_eq_true rfl⟩ (fun H locs hP _ hS => ?_)
  refine lv_pop hx hb dX6_sync_26 rfl ?_
  refine lv_aload_n hx hb dX6_sync_27 rfl (lv_at hl 1 rfl) ?_
  obtain ⟨z_7, hz_7, hf⟩ := bn_some hf
  refine cWVi (As := []) (rest := []) ⟨hx, hb, hml, hown, hts⟩ (c_X6_commitAll l D cI cZ cJ cT a H.size z_6.2 z_7 hz_7) (cwV 0 hts gX6_sync_X6_commitAll rfl rfl rfl (by decide +kernel) ⟨Nat.le_of_ble_eq_true rfl, Nat.le_of_ble_eq_true rfl⟩) hP hK (hDD z_6.2) hS (own_free (hDD z_6.2) hS hA) (va_recv hK (fl_sub hP 0 rfl) (ci := 6) (q0 := 0) rfl rfl) rfl rfl hl.1 (Nat.le_of_ble_eq_true rfl) dX6_sync_28 ⟨Nat.le_of_ble_eq_true rfl, Nat.le_of_ble_eq_true rfl⟩ (fun H locs hP _ hS => ?_)
  refine lv_pop hx hb dX6_sync_31 rfl ?_
  refine lv_aload_n hx hb dX6_sync_32 rfl (lv_at hl 1 rfl) ?_
  refine va_get (D := D) (ci := 6) (v := .ref (a 8 0)) (C := RX6) (T := TX6) (N := 11) hx hb hts i6 hown hK (fl_sub hP 0 rfl) 0 rfl rfl 6 (by decide) hk44 (fun _ h9 => h9) rfl dX6_sync_33 ?_
  refine lv_iload_n hx hb dX6_sync_36 rfl (lv_at hl 0 rfl) ?_
  obtain ⟨z_8, hz_8, hf⟩ := bn_some hf
  refine cWVi (As := [.int z_5]) (rest := []) ⟨hx, hb, hml, hown, hts⟩ (c_X0_tellError l D cI cZ cJ cT (a 8) H.size (z_7.2 8) z_5 z_8 hz_8) (cwV 1 hts gX6_sync_X0_tellError rfl rfl rfl (by decide +kernel) ⟨Nat.le_of_ble_eq_true rfl, Nat.le_of_ble_eq_true rfl⟩) (fl_sub hP 8 rfl) hK (fl_subD (hDD z_7.2) 8 rfl) hS (fl_free (hDD z_7.2) hS hA 8 rfl) (va_recv hK (fl_sub hP 8 rfl) (ci := 0) (q0 := 0) rfl rfl) rfl rfl hl.1 (Nat.le_of_ble_eq_true rfl) dX6_sync_37 ⟨Nat.le_of_ble_eq_true rfl, Nat.le_of_ble_eq_true rfl⟩ (fun H1 locs hP1 hk1 hS => ?_)
  obtain ⟨u_9, hu_9, hf⟩ := bv_some hf
  have hP : va_P D cls (wI cI cZ cT a u_9) H1 := by rw [hu_9]; exact fl_join hP (hDD z_7.2) 8 rfl hk1 hP1
  clear hP1 hk1
  generalize H1 = H at hP hS ⊢
  have eo := Option.some.inj hf
  have hP : va_P D cls (wI cI cZ cT a o.2.2) H := by rw [← eo]; exact hP
  rw [hQ]
  refine W.widen (k := 2) (n := 12) (Nat.le_of_ble_eq_true rfl) (Nat.le_of_ble_eq_true rfl) ?_
  exact vx_ret (zretN (v := z_8.1) (v' := vp_nar .boolean z_8.1) hx hb hr rfl (fun t ht hW => ⟨⟨_, (), rfl, ⟨(by rw [← eo]), (by rw [← eo])⟩, P_at ht hP⟩, hS.F ht⟩) hS.2.2 dX6_sync_40 hlocks)
set_option maxRecDepth 20000 in
theorem ggX6_commit_X6_commitAll : GoodIn wsX6_commit wsX6_commitAll := goodIn_r _ [5, 6, 7, 8, 9, 10, 4, 11, 12, 13, 14, 15, 16, 17, 18, 19, 20, 21, 22, 23, 24, 25, 26, 27, 28, 29, 30, 31, 32, 33, 34, 35, 36, 37, 38, 39, 40, 41, 42, 43, 44, 45, 46, 47, 48, 49, 50, 51, 52, 53, 54, 55, 56, 57, 58, 59, 60, 61, 62, 63, 64, 65, 66, 67, 68, 69, 70, 71, 72, 73, 74, 75, 76, 77, 78, 79, 80, 81, 82, 83, 84, 85, 86, 87, 88, 89, 90, 91, 92, 93, 94, 95, 96, 97, 98, 99, 100, 101, 102, 103, 104, 105, 106, 107, 108, 109, 110, 111, 112, 113, 114] (by decide +kernel) (by decide +kernel)
set_option maxRecDepth 20000 in
theorem gX6_commit_X6_commitAll : GoodIn wsX6_commit (wsV RX6 295 RX6 yX6_commitAll wsX6_commitAll) := goodIn_app (goodIn_of _ (by decide +kernel)) ggX6_commit_X6_commitAll
theorem dX6_commit_0 : decode cX6_commit 0 = .ok (.aload_n 0, 1) := by decide +kernel
theorem dX6_commit_1 : decode cX6_commit 1 = .ok (.invokevirtual 295, 3) := by decide +kernel
theorem dX6_commit_4 : decode cX6_commit 4 = .ok (.ireturn, 1) := by decide +kernel
def f_X6_commit (U : S2) : Option (Int32 × S2) := bn (f_X6_commitAll U) (fun z_1 => some (z_1.1, z_1.2))
def rmX6_commit : Room := { frames := 6, cells := 0, slots := 0, locals := 134 }
set_option maxHeartbeats 4000000 in
set_option maxRecDepth 100000 in
theorem c_X6_commit (l : Launch) (D : va_G) (cI cZ cJ cT : ClassId) (a : Nat → Nat → Nat) (sz : Nat) (U : S2) (o : Int32 × S2) (hf : f_X6_commit U = some o) : Met l yX6_commit wsX6_commit rmX6_commit (va_Pc [.ref (a 0 0)] (PW D cls (tys cI cZ cJ cT) (wI cI cZ cT a U) sz)) (QWi D cls o.1 (wI cI cZ cT a o.2) (va_A (wI cI cZ cT a U) sz)) 0 0 (va_A (wI cI cZ cT a U) sz) := by
  refine Met.ofW (cc := cX6_commit) (maxL := 1) (ret := (some .int)) (by decide) rfl ?_
  intro p e s m args below meth c s₁ B hml hv
  obtain ⟨hav, hsz, hP, hK, hD0⟩ := hv
  have hx := B.exec
  have hb := B.bytes
  have hr := B.returns
  have hlocks := B.notSynchronized
  have hts := atoms_spec (ws := wsX6_commit) B.pre
  have hown : s.vm.findClass RX6 = some m.cls := findClass_of_methodNamed B.named
  subst hsz
  have hD := hD0.self (sz := s.heap.size)
  generalize hAe : va_A (wI cI cZ cT a U) s.heap.size = A at hD ⊢
  have hA : ∀ q : Nat, s.heap.size ≤ q → A q := fun q h => by rw [← hAe]; exact Or.inr h
  have hS : va_S A s.heap s.heap [] := va_S.rf
  have hDD : ∀ V : S2, va_D A (wI cI cZ cT a V) := fun _ => D_same (w := (wI cI cZ cT a U)) rfl hD
  refine Wq (fun Q hQ => ?_)
  refine W_entry hav (Nat.le_of_ble_eq_true rfl) (fun ls hl => ?_)
  have hl : lv_has ls 1 [(0, .ref (a 0 0))] := hl
  unfold f_X6_commit at hf
  refine W_heap hP hS (fun H locs hP hS => ?_)
  refine lv_aload_n hx hb dX6_commit_0 rfl (lv_at hl 0 rfl) ?_
  obtain ⟨z_1, hz_1, hf⟩ := bn_some hf
  refine cWVi (As := []) (rest := []) ⟨hx, hb, hml, hown, hts⟩ (c_X6_commitAll l D cI cZ cJ cT a H.size U z_1 hz_1) (cwV 0 hts gX6_commit_X6_commitAll rfl rfl rfl (by decide +kernel) ⟨Nat.le_of_ble_eq_true rfl, Nat.le_of_ble_eq_true rfl⟩) hP hK (hDD U) hS (own_free (hDD U) hS hA) (va_recv hK (fl_sub hP 0 rfl) (ci := 6) (q0 := 0) rfl rfl) rfl rfl hl.1 (Nat.le_of_ble_eq_true rfl) dX6_commit_1 ⟨Nat.le_of_ble_eq_true rfl, Nat.le_of_ble_eq_true rfl⟩ (fun H locs hP _ hS => ?_)
  have eo := Option.some.inj hf
  have hP : va_P D cls (wI cI cZ cT a o.2) H := by rw [← eo]; exact hP
  rw [hQ]
  exact W.iret hx hb hr (fun t ht hW => ⟨⟨_, (), rfl, (by rw [← eo]), P_at ht hP⟩, hS.F ht⟩) hS.2.2 dX6_commit_4 hlocks
set_option maxRecDepth 20000 in
theorem ggX6_crash_X0_count : GoodIn wsX6_crash wsX0_count := goodIn_r _ [9, 10, 118, 119, 120] (by decide +kernel) (by decide +kernel)
set_option maxRecDepth 20000 in
theorem gX6_crash_X0_count : GoodIn wsX6_crash (wsV RX6 298 RX0 yX0_count wsX0_count) := goodIn_app (goodIn_of _ (by decide +kernel)) ggX6_crash_X0_count
set_option maxRecDepth 20000 in
theorem ggX6_crash_X0_forgetAll : GoodIn wsX6_crash wsX0_forgetAll := goodIn_r _ [35, 36, 37, 38, 8, 39, 40, 41, 42, 43, 44, 10, 45, 46, 47, 48, 49, 50, 51, 52, 53, 54, 55, 56, 118, 119, 120] (by decide +kernel) (by decide +kernel)
set_option maxRecDepth 20000 in
theorem gX6_crash_X0_forgetAll : GoodIn wsX6_crash (wsV RX6 305 RX0 yX0_forgetAll wsX0_forgetAll) := goodIn_app (goodIn_of _ (by decide +kernel)) ggX6_crash_X0_forgetAll
set_option maxRecDepth 20000 in
theorem ggX6_crash_X3_shutAll : GoodIn wsX6_crash wsX3_shutAll := goodIn_r _ [61, 62, 63, 64, 60, 65, 66, 67, 68, 69, 70, 71, 72, 73, 74, 75, 76, 133, 134, 135, 136, 137] (by decide +kernel) (by decide +kernel)
set_option maxRecDepth 20000 in
theorem gX6_crash_X3_shutAll : GoodIn wsX6_crash (wsV RX6 308 RX3 yX3_shutAll wsX3_shutAll) := goodIn_app (goodIn_of _ (by decide +kernel)) ggX6_crash_X3_shutAll
set_option maxRecDepth 20000 in
theorem ggX6_crash_X4_becomeLike : GoodIn wsX6_crash wsX4_becomeLike := goodIn_r _ [15, 16, 17, 18, 19, 20, 21, 22, 23, 24, 25, 26, 27, 28, 29, 30, 31, 121, 122, 123, 124, 125, 126, 127, 128, 129, 130, 131, 132] (by decide +kernel) (by decide +kernel)
set_option maxRecDepth 20000 in
theorem gX6_crash_X4_becomeLike : GoodIn wsX6_crash (wsV RX6 301 RX4 yX4_becomeLike wsX4_becomeLike) := goodIn_app (goodIn_of _ (by decide +kernel)) ggX6_crash_X4_becomeLike
set_option maxRecDepth 20000 in
theorem ggX6_crash_X4_clearThing : GoodIn wsX6_crash wsX4_clearThing := goodIn_r _ [95, 16, 23, 25, 85, 86, 14, 87, 96, 97, 98, 99, 29, 28, 100, 101, 102, 103, 104, 105, 106, 31, 30, 121, 122, 123, 124, 125, 126, 127, 128, 129, 130, 131, 132] (by decide +kernel) (by decide +kernel)
set_option maxRecDepth 20000 in
theorem gX6_crash_X4_clearThing : GoodIn wsX6_crash (wsV RX6 311 RX4 yX4_clearThing wsX4_clearThing) := goodIn_app (goodIn_of _ (by decide +kernel)) ggX6_crash_X4_clearThing
set_option maxRecDepth 20000 in
theorem ggX6_crash_X4_countOf : GoodIn wsX6_crash wsX4_countOf := goodIn_r _ [91, 23, 85, 86, 14, 87, 121, 122, 123, 124, 125, 126, 127, 128, 129, 130, 131, 132] (by decide +kernel) (by decide +kernel)
set_option maxRecDepth 20000 in
theorem gX6_crash_X4_countOf : GoodIn wsX6_crash (wsV RX6 119 RX4 yX4_countOf wsX4_countOf) := goodIn_app (goodIn_of _ (by decide +kernel)) ggX6_crash_X4_countOf
set_option maxRecDepth 20000 in
theorem ggX6_crash_X4_isOfKind : GoodIn wsX6_crash wsX4_isOfKind := goodIn_r _ [80, 16, 81, 82, 83, 14, 84, 85, 86, 87, 121, 122, 123, 124, 125, 126, 127, 128, 129, 130, 131, 132] (by decide +kernel) (by decide +kernel)
set_option maxRecDepth 20000 in
theorem gX6_crash_X4_isOfKind : GoodIn wsX6_crash (wsV RX6 103 RX4 yX4_isOfKind wsX4_isOfKind) := goodIn_app (goodIn_of _ (by decide +kernel)) ggX6_crash_X4_isOfKind
theorem dX6_crash_0 : decode cX6_crash 0 = .ok (.aload_n 0, 1) := by decide +kernel
theorem dX6_crash_1 : decode cX6_crash 1 = .ok (.getfield 44, 3) := by decide +kernel
theorem dX6_crash_4 : decode cX6_crash 4 = .ok (.invokevirtual 298, 3) := by decide +kernel
theorem dX6_crash_7 : decode cX6_crash 7 = .ok (.istore_n 1, 1) := by decide +kernel
theorem dX6_crash_8 : decode cX6_crash 8 = .ok (.aload_n 0, 1) := by decide +kernel
theorem dX6_crash_9 : decode cX6_crash 9 = .ok (.getfield 12, 3) := by decide +kernel
theorem dX6_crash_12 : decode cX6_crash 12 = .ok (.aload_n 0, 1) := by decide +kernel
theorem dX6_crash_13 : decode cX6_crash 13 = .ok (.getfield 16, 3) := by decide +kernel
theorem dX6_crash_16 : decode cX6_crash 16 = .ok (.invokevirtual 301, 3) := by decide +kernel
theorem dX6_crash_19 : decode cX6_crash 19 = .ok (.aload_n 0, 1) := by decide +kernel
theorem dX6_crash_20 : decode cX6_crash 20 = .ok (.getfield 44, 3) := by decide +kernel
theorem dX6_crash_23 : decode cX6_crash 23 = .ok (.invokevirtual 305, 3) := by decide +kernel
theorem dX6_crash_26 : decode cX6_crash 26 = .ok (.aload_n 0, 1) := by decide +kernel
theorem dX6_crash_27 : decode cX6_crash 27 = .ok (.getfield 51, 3) := by decide +kernel
theorem dX6_crash_30 : decode cX6_crash 30 = .ok (.invokevirtual 308, 3) := by decide +kernel
theorem dX6_crash_33 : decode cX6_crash 33 = .ok (.iconst 0, 1) := by decide +kernel
theorem dX6_crash_34 : decode cX6_crash 34 = .ok (.istore_n 2, 1) := by decide +kernel
theorem dX6_crash_35 : decode cX6_crash 35 = .ok (.iload_n 2, 1) := by decide +kernel
theorem dX6_crash_36 : decode cX6_crash 36 = .ok (.bipush 32, 2) := by decide +kernel
theorem dX6_crash_38 : decode cX6_crash 38 = .ok (.if_icmp .ge 40, 3) := by decide +kernel
theorem dX6_crash_41 : decode cX6_crash 41 = .ok (.aload_n 0, 1) := by decide +kernel
theorem dX6_crash_42 : decode cX6_crash 42 = .ok (.getfield 12, 3) := by decide +kernel
theorem dX6_crash_45 : decode cX6_crash 45 = .ok (.iload_n 2, 1) := by decide +kernel
theorem dX6_crash_46 : decode cX6_crash 46 = .ok (.iconst 0, 1) := by decide +kernel
theorem dX6_crash_47 : decode cX6_crash 47 = .ok (.invokevirtual 103, 3) := by decide +kernel
theorem dX6_crash_50 : decode cX6_crash 50 = .ok (.ifCond .eq 22, 3) := by decide +kernel
theorem dX6_crash_53 : decode cX6_crash 53 = .ok (.aload_n 0, 1) := by decide +kernel
theorem dX6_crash_54 : decode cX6_crash 54 = .ok (.getfield 12, 3) := by decide +kernel
theorem dX6_crash_57 : decode cX6_crash 57 = .ok (.iload_n 2, 1) := by decide +kernel
theorem dX6_crash_58 : decode cX6_crash 58 = .ok (.invokevirtual 119, 3) := by decide +kernel
theorem dX6_crash_61 : decode cX6_crash 61 = .ok (.ifCond .ne 11, 3) := by decide +kernel
theorem dX6_crash_64 : decode cX6_crash 64 = .ok (.aload_n 0, 1) := by decide +kernel
theorem dX6_crash_65 : decode cX6_crash 65 = .ok (.getfield 12, 3) := by decide +kernel
theorem dX6_crash_68 : decode cX6_crash 68 = .ok (.iload_n 2, 1) := by decide +kernel
theorem dX6_crash_69 : decode cX6_crash 69 = .ok (.invokevirtual 311, 3) := by decide +kernel
theorem dX6_crash_72 : decode cX6_crash 72 = .ok (.iinc 2 1, 3) := by decide +kernel
theorem dX6_crash_75 : decode cX6_crash 75 = .ok (.goto (-40), 3) := by decide +kernel
theorem dX6_crash_78 : decode cX6_crash 78 = .ok (.iload_n 1, 1) := by decide +kernel
theorem dX6_crash_79 : decode cX6_crash 79 = .ok (.ireturn, 1) := by decide +kernel
def f_X6_crash (U : S2) : Option (Int32 × S2) := bn (f_X0_count (U 8)) (fun z_1 => bn (f_X4_becomeLike (U 1) (U 2)) (fun z_2 => bv (upc U 1 z_2) (fun u_3 => bn (f_X0_forgetAll (u_3 8)) (fun z_4 => bv (upc u_3 8 z_4) (fun u_5 => bn (f_X3_shutAll (u_5 9)) (fun z_6 => bv (upc u_5 9 z_6) (fun u_7 => qj2 (fun (r35_8 : Int32 → S2 → Option (Int32 × S2)) (y35_8_2 : Int32) (u35_8_0 : S2) => if 32 ≤ y35_8_2 then some (z_1, u35_8_0) else bn (f_X4_isOfKind (u35_8_0 1) y35_8_2 0) (fun z_10 => jn (fun (u72_11_0 : S2) => r35_8 (y35_8_2 + 1) u72_11_0) (fun k72_11 => if z_10 = 0 then k72_11 u35_8_0 else bn (f_X4_countOf (u35_8_0 1) y35_8_2) (fun z_13 => if z_13 = 0 then bn (f_X4_clearThing (u35_8_0 1) y35_8_2) (fun z_15 => bv (upc u35_8_0 1 z_15) (fun u_16 => k72_11 u_16)) else k72_11 u35_8_0)))) (fun k35_8 => k35_8 0 u_7))))))))
def rmX6_crash : Room := { frames := 4, cells := 0, slots := 0, locals := 89 }
set_option maxHeartbeats 4000000 in
set_option maxRecDepth 100000 in
theorem c_X6_crash (l : Launch) (D : va_G) (cI cZ cJ cT : ClassId) (a : Nat → Nat → Nat) (sz : Nat) (U : S2) (o : Int32 × S2) (hf : f_X6_crash U = some o) : Met l yX6_crash wsX6_crash rmX6_crash (va_Pc [.ref (a 0 0)] (PW D cls (tys cI cZ cJ cT) (wI cI cZ cT a U) sz)) (QWi D cls o.1 (wI cI cZ cT a o.2) (va_A (wI cI cZ cT a U) sz)) 0 0 (va_A (wI cI cZ cT a U) sz) := by
  refine Met.ofW (cc := cX6_crash) (maxL := 3) (ret := (some .int)) (by decide) rfl ?_
  intro p e s m args below meth c s₁ B hml hv
  obtain ⟨hav, hsz, hP, hK, hD0⟩ := hv
  have hx := B.exec
  have hb := B.bytes
  have hr := B.returns
  have hlocks := B.notSynchronized
  have hts := atoms_spec (ws := wsX6_crash) B.pre
  have hown : s.vm.findClass RX6 = some m.cls := findClass_of_methodNamed B.named
  have i6 : ∀ w ∈ wsX60, w ∈ wsX6_crash := fun w h => List.mem_cons_of_mem _ (List.mem_append_left _ (List.mem_append_left _ (List.mem_append_left _ (List.mem_append_right _ h))))
  have hk12 := hts (.fieldLink RX6 12 "Inodery" "now" "LInodery$Tree;") (by decide +kernel)
  have hk16 := hts (.fieldLink RX6 16 "Inodery" "committed" "LInodery$Tree;") (by decide +kernel)
  have hk44 := hts (.fieldLink RX6 44 "Inodery" "cache" "LInodery$Cache;") (by decide +kernel)
  have hk51 := hts (.fieldLink RX6 51 "Inodery" "handles" "LInodery$Handles;") (by decide +kernel)
  subst hsz
  have hD := hD0.self (sz := s.heap.size)
  generalize hAe : va_A (wI cI cZ cT a U) s.heap.size = A at hD ⊢
  have hA : ∀ q : Nat, s.heap.size ≤ q → A q := fun q h => by rw [← hAe]; exact Or.inr h
  have hS : va_S A s.heap s.heap [] := va_S.rf
  have hDD : ∀ V : S2, va_D A (wI cI cZ cT a V) := fun _ => D_same (w := (wI cI cZ cT a U)) rfl hD
  refine Wq (fun Q hQ => ?_)
  refine W_entry hav (Nat.le_of_ble_eq_true rfl) (fun ls hl => ?_)
  have hl : lv_has ls 3 [(0, .ref (a 0 0))] := hl
  unfold f_X6_crash at hf
  refine W_heap hP hS (fun H locs hP hS => ?_)
  refine lv_aload_n hx hb dX6_crash_0 rfl (lv_at hl 0 rfl) ?_
  refine va_get (D := D) (ci := 6) (v := .ref (a 8 0)) (C := RX6) (T := TX6) (N := 11) hx hb hts i6 hown hK (fl_sub hP 0 rfl) 0 rfl rfl 6 (by decide) hk44 (fun _ h9 => h9) rfl dX6_crash_1 ?_
  obtain ⟨z_1, hz_1, hf⟩ := bn_some hf
  refine cRV (As := []) (rest := []) ⟨hx, hb, hml, hown, hts⟩ (c_X0_count l D cI cZ cJ cT (a 8) (U 8) z_1 hz_1) (cwV 0 hts gX6_crash_X0_count rfl rfl rfl (by decide +kernel) ⟨Nat.le_of_ble_eq_true rfl, Nat.le_of_ble_eq_true rfl⟩) (fl_sub hP 8 rfl) hK (va_recv hK (fl_sub hP 8 rfl) (ci := 0) (q0 := 0) rfl rfl) rfl rfl hl.1 (Nat.le_of_ble_eq_true rfl) dX6_crash_4 ⟨Nat.le_of_ble_eq_true rfl, Nat.le_of_ble_eq_true rfl⟩ ?_
  refine lv_istore_n (lv' := [(1, .int z_1), (0, .ref (a 0 0))]) hx hb dX6_crash_7 rfl hl (by decide) rfl (fun ls hl => ?_)
  refine lv_aload_n hx hb dX6_crash_8 rfl (lv_at hl 1 rfl) ?_
  refine va_get (D := D) (ci := 6) (v := .ref (a 1 0)) (C := RX6) (T := TX6) (N := 11) hx hb hts i6 hown hK (fl_sub hP 0 rfl) 0 rfl rfl 0 (by decide) hk12 (fun _ h9 => h9) rfl dX6_crash_9 ?_
  refine lv_aload_n hx hb dX6_crash_12 rfl (lv_at hl 1 rfl) ?_
  refine va_get (D := D) (ci := 6) (v := .ref (a 2 0)) (C := RX6) (T := TX6) (N := 11) hx hb hts i6 hown hK (fl_sub hP 0 rfl) 0 rfl rfl 1 (by decide) hk16 (fun _ h9 => h9) rfl dX6_crash_13 ?_
  obtain ⟨z_2, hz_2, hf⟩ := bn_some hf
  refine cWVv (As := [.ref (a 2 0)]) (rest := []) ⟨hx, hb, hml, hown, hts⟩ (c_X4_becomeLike l D cI cZ cJ cT (a 1) (a 2) H.size (U 1) (U 2) z_2 hz_2) (cwV 1 hts gX6_crash_X4_becomeLike rfl rfl rfl (by decide +kernel) ⟨Nat.le_of_ble_eq_true rfl, Nat.le_of_ble_eq_true rfl⟩) (fl_subM hP [1, 2] rfl) hK (fl_subDM (hDD U) [1, 2] rfl rfl) hS (own_free (fl_subDM (hDD U) [1, 2] rfl rfl) hS hA) (va_recv hK (fl_sub hP 1 rfl) (ci := 4) (q0 := 0) rfl rfl) rfl rfl hl.1 (Nat.le_of_ble_eq_true rfl) dX6_crash_16 ⟨Nat.le_of_ble_eq_true rfl, Nat.le_of_ble_eq_true rfl⟩ (fun H1 locs hP1 hk1 hS => ?_)
  obtain ⟨u_3, hu_3, hf⟩ := bv_some hf
  have hP : va_P D cls (wI cI cZ cT a u_3) H1 := by rw [hu_3]; exact fl_joinM hP (hDD U) [1, 2] rfl rfl hk1 hP1
  clear hP1 hk1
  generalize H1 = H at hP hS ⊢
  refine lv_aload_n hx hb dX6_crash_19 rfl (lv_at hl 1 rfl) ?_
  refine va_get (D := D) (ci := 6) (v := .ref (a 8 0)) (C := RX6) (T := TX6) (N := 11) hx hb hts i6 hown hK (fl_sub hP 0 rfl) 0 rfl rfl 6 (by decide) hk44 (fun _ h9 => h9) rfl dX6_crash_20 ?_
  obtain ⟨z_4, hz_4, hf⟩ := bn_some hf
  refine cWVv (As := []) (rest := []) ⟨hx, hb, hml, hown, hts⟩ (c_X0_forgetAll l D cI cZ cJ cT (a 8) H.size (u_3 8) z_4 hz_4) (cwV 0 hts gX6_crash_X0_forgetAll rfl rfl rfl (by decide +kernel) ⟨Nat.le_of_ble_eq_true rfl, Nat.le_of_ble_eq_true rfl⟩) (fl_sub hP 8 rfl) hK (fl_subD (hDD u_3) 8 rfl) hS (fl_free (hDD u_3) hS hA 8 rfl) (va_recv hK (fl_sub hP 8 rfl) (ci := 0) (q0 := 0) rfl rfl) rfl rfl hl.1 (Nat.le_of_ble_eq_true rfl) dX6_crash_23 ⟨Nat.le_of_ble_eq_true rfl, Nat.le_of_ble_eq_true rfl⟩ (fun H1 locs hP1 hk1 hS => ?_)
  obtain ⟨u_5, hu_5, hf⟩ := bv_some hf
  have hP : va_P D cls (wI cI cZ cT a u_5) H1 := by rw [hu_5]; exact fl_join hP (hDD u_3) 8 rfl hk1 hP1
  clear hP1 hk1
  generalize H1 = H at hP hS ⊢
  refine lv_aload_n hx hb dX6_crash_26 rfl (lv_at hl 1 rfl) ?_
  refine va_get (D := D) (ci := 6) (v := .ref (a 9 0)) (C := RX6) (T := TX6) (N := 11) hx hb hts i6 hown hK (fl_sub hP 0 rfl) 0 rfl rfl 7 (by decide) hk51 (fun _ h9 => h9) rfl dX6_crash_27 ?_
  obtain ⟨z_6, hz_6, hf⟩ := bn_some hf
  refine cWVv (As := []) (rest := []) ⟨hx, hb, hml, hown, hts⟩ (c_X3_shutAll l D cI cZ cJ cT (a 9) H.size (u_5 9) z_6 hz_6) (cwV 0 hts gX6_crash_X3_shutAll rfl rfl rfl (by decide +kernel) ⟨Nat.le_of_ble_eq_true rfl, Nat.le_of_ble_eq_true rfl⟩) (fl_sub hP 9 rfl) hK (fl_subD (hDD u_5) 9 rfl) hS (fl_free (hDD u_5) hS hA 9 rfl) (va_recv hK (fl_sub hP 9 rfl) (ci := 3) (q0 := 0) rfl rfl) rfl rfl hl.1 (Nat.le_of_ble_eq_true rfl) dX6_crash_30 ⟨Nat.le_of_ble_eq_true rfl, Nat.le_of_ble_eq_true rfl⟩ (fun H1 locs hP1 hk1 hS => ?_)
  obtain ⟨u_7, hu_7, hf⟩ := bv_some hf
  have hP : va_P D cls (wI cI cZ cT a u_7) H1 := by rw [hu_7]; exact fl_join hP (hDD u_5) 9 rfl hk1 hP1
  clear hP1 hk1
  generalize H1 = H at hP hS ⊢
  refine lv_iconst (v := 0) hx hb dX6_crash_33 (by decide) ?_
  refine lv_istore_n (lv' := [(2, .int 0), (1, .int z_1), (0, .ref (a 0 0))]) hx hb dX6_crash_34 rfl hl (by decide) rfl (fun ls hl => ?_)
  obtain ⟨G35_8, hG35_8, hf⟩ := qj2_some hf
  have j35_8 : ∀ (n : Nat) (y35_8_2 : Int32) (u35_8_0 : S2) (H : Heap) (locs : List Loc) (ls : Array Slot), ql2 G35_8 n y35_8_2 u35_8_0 = some o → va_P D cls (wI cI cZ cT a u35_8_0) H → va_S A s.heap H locs → lv_has ls 3 [(0, .ref (a 0 0)), (1, .int z_1), (2, .int y35_8_2)] → W p l e (headSpec wsX6_crash rmX6_crash).room s m args below meth c H locs 0 0 Q (F0 m 35 ls []) := by
    intro n
    induction n with
    | zero => intro y35_8_2 u35_8_0 H locs ls hf hP hS hl; exact (ql2_z hf).elim
    | succ n ih35_8 =>
      intro y35_8_2 u35_8_0 H locs ls hf hP hS hl
      have hf := ql2_s hG35_8 hf
      obtain ⟨r35_8, hr35_8⟩ : ∃ z, z = ql2 G35_8 n := ⟨_, rfl⟩
      rw [← hr35_8] at hf ih35_8
      refine lv_iload_n hx hb dX6_crash_35 rfl (lv_at hl 2 rfl) ?_
      refine lv_bipush (v := 32) hx hb dX6_crash_36 (by decide) ?_
      refine lv_icmp_ge (tgt := 78) hx hb dX6_crash_38 (by decide) (fun c_9 => ?_) (fun c_9 => ?_)
      · have hf := ite_t hf c_9
        refine lv_iload_n hx hb dX6_crash_78 rfl (lv_at hl 1 rfl) ?_
        have eo := Option.some.inj hf
        have hP : va_P D cls (wI cI cZ cT a o.2) H := by rw [← eo]; exact hP
        rw [hQ]
        exact W.iret hx hb hr (fun t ht hW => ⟨⟨_, (), rfl, (by rw [← eo]), P_at ht hP⟩, hS.F ht⟩) hS.2.2 dX6_crash_79 hlocks
      · have hf := ite_f hf c_9
        refine lv_aload_n hx hb dX6_crash_41 rfl (lv_at hl 0 rfl) ?_
        refine va_get (D := D) (ci := 6) (v := .ref (a 1 0)) (C := RX6) (T := TX6) (N := 11) hx hb hts i6 hown hK (fl_sub hP 0 rfl) 0 rfl rfl 0 (by decide) hk12 (fun _ h9 => h9) rfl dX6_crash_42 ?_
        refine lv_iload_n hx hb dX6_crash_45 rfl (lv_at hl 2 rfl) ?_
        refine lv_iconst (v := 0) hx hb dX6_crash_46 (by decide) ?_
        obtain ⟨z_10, hz_10, hf⟩ := bn_some hf
        refine cRV (As := [.int y35_8_2, .int 0]) (rest := []) ⟨hx, hb, hml, hown, hts⟩ (c_X4_isOfKind l D cI cZ cJ cT (a 1) (u35_8_0 1) y35_8_2 0 z_10 hz_10) (cwV 2 hts gX6_crash_X4_isOfKind rfl rfl rfl (by decide +kernel) ⟨Nat.le_of_ble_eq_true rfl, Nat.le_of_ble_eq_true rfl⟩) (fl_sub hP 1 rfl) hK (va_recv hK (fl_sub hP 1 rfl) (ci := 4) (q0 := 0) rfl rfl) rfl rfl hl.1 (Nat.le_of_ble_eq_true rfl) dX6_crash_47 ⟨Nat.le_of_ble_eq_true rfl, Nat.le_of_ble_eq_true rfl⟩ ?_
        obtain ⟨k72_11, hk72_11, hf⟩ := jn_some hf
        have j72_11 : ∀ (u72_11_0 : S2) (H : Heap) (locs : List Loc) (ls : Array Slot), k72_11 u72_11_0 = some o → va_P D cls (wI cI cZ cT a u72_11_0) H → va_S A s.heap H locs → lv_has ls 3 [(0, .ref (a 0 0)), (1, .int z_1), (2, .int y35_8_2)] → W p l e (headSpec wsX6_crash rmX6_crash).room s m args below meth c H locs 0 0 Q (F0 m 72 ls []) := by
          intro u72_11_0 H locs ls hf hP hS hl
          have hf := qa1 hk72_11 hf
          refine lv_iinc (v := y35_8_2 + 1) (lv' := [(2, .int (y35_8_2 + 1)), (0, .ref (a 0 0)), (1, .int z_1)]) hx hb dX6_crash_72 hl (k := 2) rfl rfl (by decide) rfl (fun ls hl => ?_)
          refine lv_goto (tgt := 35) hx hb dX6_crash_75 (by decide) ?_
          exact ih35_8 _ _ _ _ _ hf hP hS (lv_sub hl [1, 2, 0] rfl)
        refine lv_if_eq (tgt := 72) hx hb dX6_crash_50 (by decide) (fun c_12 => ?_) (fun c_12 => ?_)
        · have hf := ite_t hf c_12
          exact j72_11 _ _ _ _ hf hP hS (lv_sub hl [0, 1, 2] rfl)
        · have hf := ite_f hf c_12
          refine lv_aload_n hx hb dX6_crash_53 rfl (lv_at hl 0 rfl) ?_
          refine va_get (D := D) (ci := 6) (v := .ref (a 1 0)) (C := RX6) (T := TX6) (N := 11) hx hb hts i6 hown hK (fl_sub hP 0 rfl) 0 rfl rfl 0 (by decide) hk12 (fun _ h9 => h9) rfl dX6_crash_54 ?_
          refine lv_iload_n hx hb dX6_crash_57 rfl (lv_at hl 2 rfl) ?_
          obtain ⟨z_13, hz_13, hf⟩ := bn_some hf
          refine cRV (As := [.int y35_8_2]) (rest := []) ⟨hx, hb, hml, hown, hts⟩ (c_X4_countOf l D cI cZ cJ cT (a 1) (u35_8_0 1) y35_8_2 z_13 hz_13) (cwV 1 hts gX6_crash_X4_countOf rfl rfl rfl (by decide +kernel) ⟨Nat.le_of_ble_eq_true rfl, Nat.le_of_ble_eq_true rfl⟩) (fl_sub hP 1 rfl) hK (va_recv hK (fl_sub hP 1 rfl) (ci := 4) (q0 := 0) rfl rfl) rfl rfl hl.1 (Nat.le_of_ble_eq_true rfl) dX6_crash_58 ⟨Nat.le_of_ble_eq_true rfl, Nat.le_of_ble_eq_true rfl⟩ ?_
          refine lv_if_ne (tgt := 72) hx hb dX6_crash_61 (by decide) (fun c_14 => ?_) (fun c_14 => ?_)
          · have hf := ite_f hf c_14
            exact j72_11 _ _ _ _ hf hP hS (lv_sub hl [0, 1, 2] rfl)
          · have hf := ite_t hf c_14
            refine lv_aload_n hx hb dX6_crash_64 rfl (lv_at hl 0 rfl) ?_
            refine va_get (D := D) (ci := 6) (v := .ref (a 1 0)) (C := RX6) (T := TX6) (N := 11) hx hb hts i6 hown hK (fl_sub hP 0 rfl) 0 rfl rfl 0 (by decide) hk12 (fun _ h9 => h9) rfl dX6_crash_65 ?_
            refine lv_iload_n hx hb dX6_crash_68 rfl (lv_at hl 2 rfl) ?_
            obtain ⟨z_15, hz_15, hf⟩ := bn_some hf
            refine cWVv (As := [.int y35_8_2]) (rest := []) ⟨hx, hb, hml, hown, hts⟩ (c_X4_clearThing l D cI cZ cJ cT (a 1) H.size (u35_8_0 1) y35_8_2 z_15 hz_15) (cwV 1 hts gX6_crash_X4_clearThing rfl rfl rfl (by decide +kernel) ⟨Nat.le_of_ble_eq_true rfl, Nat.le_of_ble_eq_true rfl⟩) (fl_sub hP 1 rfl) hK (fl_subD (hDD u35_8_0) 1 rfl) hS (fl_free (hDD u35_8_0) hS hA 1 rfl) (va_recv hK (fl_sub hP 1 rfl) (ci := 4) (q0 := 0) rfl rfl) rfl rfl hl.1 (Nat.le_of_ble_eq_true rfl) dX6_crash_69 ⟨Nat.le_of_ble_eq_true rfl, Nat.le_of_ble_eq_true rfl⟩ (fun H1 locs hP1 hk1 hS => ?_)
            obtain ⟨u_16, hu_16, hf⟩ := bv_some hf
            have hP : va_P D cls (wI cI cZ cT a u_16) H1 := by rw [hu_16]; exact fl_join hP (hDD u35_8_0) 1 rfl hk1 hP1
            clear hP1 hk1
            generalize H1 = H at hP hS ⊢
            exact j72_11 _ _ _ _ hf hP hS (lv_sub hl [0, 1, 2] rfl)
  exact j35_8 4096 _ _ _ _ _ hf hP hS (lv_sub hl [2, 1, 0] rfl)
theorem dX6_lowestNotGiven_0 : decode cX6_lowestNotGiven 0 = .ok (.iconst 0, 1) := by decide +kernel
theorem dX6_lowestNotGiven_1 : decode cX6_lowestNotGiven 1 = .ok (.istore_n 1, 1) := by decide +kernel
theorem dX6_lowestNotGiven_2 : decode cX6_lowestNotGiven 2 = .ok (.iload_n 1, 1) := by decide +kernel
theorem dX6_lowestNotGiven_3 : decode cX6_lowestNotGiven 3 = .ok (.iconst 3, 1) := by decide +kernel
theorem dX6_lowestNotGiven_4 : decode cX6_lowestNotGiven 4 = .ok (.if_icmp .ge 20, 3) := by decide +kernel
theorem dX6_lowestNotGiven_7 : decode cX6_lowestNotGiven 7 = .ok (.aload_n 0, 1) := by decide +kernel
theorem dX6_lowestNotGiven_8 : decode cX6_lowestNotGiven 8 = .ok (.getfield 23, 3) := by decide +kernel
theorem dX6_lowestNotGiven_11 : decode cX6_lowestNotGiven 11 = .ok (.iload_n 1, 1) := by decide +kernel
theorem dX6_lowestNotGiven_12 : decode cX6_lowestNotGiven 12 = .ok (.baload, 1) := by decide +kernel
theorem dX6_lowestNotGiven_13 : decode cX6_lowestNotGiven 13 = .ok (.ifCond .ne 5, 3) := by decide +kernel
theorem dX6_lowestNotGiven_16 : decode cX6_lowestNotGiven 16 = .ok (.iload_n 1, 1) := by decide +kernel
theorem dX6_lowestNotGiven_17 : decode cX6_lowestNotGiven 17 = .ok (.ireturn, 1) := by decide +kernel
theorem dX6_lowestNotGiven_18 : decode cX6_lowestNotGiven 18 = .ok (.iinc 1 1, 3) := by decide +kernel
theorem dX6_lowestNotGiven_21 : decode cX6_lowestNotGiven 21 = .ok (.goto (-19), 3) := by decide +kernel
theorem dX6_lowestNotGiven_24 : decode cX6_lowestNotGiven 24 = .ok (.iconst (-1), 1) := by decide +kernel
theorem dX6_lowestNotGiven_25 : decode cX6_lowestNotGiven 25 = .ok (.ireturn, 1) := by decide +kernel
def f_X6_lowestNotGiven (U : S2) : Option (Int32) := qj1 (fun (r2_1 : Int32 → Option (Int32)) (y2_1_1 : Int32) => if 3 ≤ y2_1_1 then some (-1) else chk (inb y2_1_1 3) (if (U 0 3 (y2_1_1).toNatClampNeg) = 0 then some y2_1_1 else r2_1 (y2_1_1 + 1))) (fun k2_1 => k2_1 0)
def rmX6_lowestNotGiven : Room := { frames := 0, cells := 0, slots := 0, locals := 0 }
set_option maxHeartbeats 4000000 in
set_option maxRecDepth 100000 in
theorem c_X6_lowestNotGiven (l : Launch) (D : va_G) (cI cZ cJ cT : ClassId) (a : Nat → Nat → Nat) (U : S2) (o : Int32) (hf : f_X6_lowestNotGiven U = some o) : Met l yX6_lowestNotGiven wsX6_lowestNotGiven rmX6_lowestNotGiven (va_Pc [.ref (a 0 0)] (PR D cls (tys cI cZ cJ cT) (wI cI cZ cT a U))) (QR o) 0 0 (fun _ => False) := by
  refine Met.ofW (cc := cX6_lowestNotGiven) (maxL := 2) (ret := (some .int)) (by decide) rfl ?_
  intro p e s m args below meth c s₁ B hml hv
  obtain ⟨hav, hP, hK⟩ := hv
  have hx := B.exec
  have hb := B.bytes
  have hr := B.returns
  have hlocks := B.notSynchronized
  have hts := atoms_spec (ws := wsX6_lowestNotGiven) B.pre
  have hown : s.vm.findClass RX6 = some m.cls := findClass_of_methodNamed B.named
  have i6 : ∀ w ∈ wsX60, w ∈ wsX6_lowestNotGiven := fun w h => List.mem_cons_of_mem _ (List.mem_append_right _ h)
  have hk23 := hts (.fieldLink RX6 23 "Inodery" "isGiven" "[Z") (by decide +kernel)
  refine Wq (fun Q hQ => ?_)
  refine W_entry hav (Nat.le_of_ble_eq_true rfl) (fun ls hl => ?_)
  have hl : lv_has ls 2 [(0, .ref (a 0 0))] := hl
  unfold f_X6_lowestNotGiven at hf
  refine lv_iconst (v := 0) hx hb dX6_lowestNotGiven_0 (by decide) ?_
  refine lv_istore_n (lv' := [(1, .int 0), (0, .ref (a 0 0))]) hx hb dX6_lowestNotGiven_1 rfl hl (by decide) rfl (fun ls hl => ?_)
  obtain ⟨G2_1, hG2_1, hf⟩ := qj1_some hf
  have j2_1 : ∀ (n : Nat) (y2_1_1 : Int32) (ls : Array Slot), ql1 G2_1 n y2_1_1 = some o → lv_has ls 2 [(0, .ref (a 0 0)), (1, .int y2_1_1)] → W p l e (headSpec wsX6_lowestNotGiven rmX6_lowestNotGiven).room s m args below meth c s.heap [] 0 0 Q (F0 m 2 ls []) := by
    intro n
    induction n with
    | zero => intro y2_1_1 ls hf hl; exact (ql1_z hf).elim
    | succ n ih2_1 =>
      intro y2_1_1 ls hf hl
      have hf := ql1_s hG2_1 hf
      obtain ⟨r2_1, hr2_1⟩ : ∃ z, z = ql1 G2_1 n := ⟨_, rfl⟩
      rw [← hr2_1] at hf ih2_1
      refine lv_iload_n hx hb dX6_lowestNotGiven_2 rfl (lv_at hl 1 rfl) ?_
      refine lv_iconst (v := 3) hx hb dX6_lowestNotGiven_3 (by decide) ?_
      refine lv_icmp_ge (tgt := 24) hx hb dX6_lowestNotGiven_4 (by decide) (fun c_2 => ?_) (fun c_2 => ?_)
      · have hf := ite_t hf c_2
        refine lv_iconst (v := (-1)) hx hb dX6_lowestNotGiven_24 (by decide) ?_
        rw [hQ]
        exact W.iret hx hb hr (fun t ht hW => ⟨_, rfl, Option.some.inj hf, ht⟩) (fun _ h => nomatch h) dX6_lowestNotGiven_25 hlocks
      · have hf := ite_f hf c_2
        refine lv_aload_n hx hb dX6_lowestNotGiven_7 rfl (lv_at hl 0 rfl) ?_
        refine va_get (D := D) (ci := 6) (v := .ref (a 0 2)) (C := RX6) (T := TX6) (N := 11) hx hb hts i6 hown hK (fl_sub hP 0 rfl) 0 rfl rfl 3 (by decide) hk23 (fun _ h9 => h9) rfl dX6_lowestNotGiven_8 ?_
        refine lv_iload_n hx hb dX6_lowestNotGiven_11 rfl (lv_at hl 1 rfl) ?_
        obtain ⟨hi, hf⟩ := chk_some hf
        refine va_zald hx hb hK (fl_sub hP 0 rfl) 2 1 rfl rfl (inb_in hi) dX6_lowestNotGiven_12 ?_
        refine lv_if_ne (tgt := 18) hx hb dX6_lowestNotGiven_13 (by decide) (fun c_3 => ?_) (fun c_3 => ?_)
        · have hf := ite_f hf c_3
          refine lv_iinc (v := y2_1_1 + 1) (lv' := [(1, .int (y2_1_1 + 1)), (0, .ref (a 0 0))]) hx hb dX6_lowestNotGiven_18 hl (k := 1) rfl rfl (by decide) rfl (fun ls hl => ?_)
          refine lv_goto (tgt := 2) hx hb dX6_lowestNotGiven_21 (by decide) ?_
          exact ih2_1 _ _ hf (lv_sub hl [1, 0] rfl)
        · have hf := ite_t hf c_3
          refine lv_iload_n hx hb dX6_lowestNotGiven_16 rfl (lv_at hl 1 rfl) ?_
          rw [hQ]
          exact W.iret hx hb hr (fun t ht hW => ⟨_, rfl, Option.some.inj hf, ht⟩) (fun _ h => nomatch h) dX6_lowestNotGiven_17 hlocks
  exact j2_1 4096 _ _ hf (lv_sub hl [1, 0] rfl)
set_option maxRecDepth 20000 in
theorem ggX6_snapshot_X4_becomeLike : GoodIn wsX6_snapshot wsX4_becomeLike := goodIn_r _ [79, 80, 81, 82, 83, 84, 85, 86, 87, 88, 89, 90, 91, 92, 44, 93, 94, 109, 110, 111, 112, 113, 114, 115, 116, 117, 118, 119, 120] (by decide +kernel) (by decide +kernel)
set_option maxRecDepth 20000 in
theorem gX6_snapshot_X4_becomeLike : GoodIn wsX6_snapshot (wsV RX6 301 RX4 yX4_becomeLike wsX4_becomeLike) := goodIn_app (goodIn_of _ (by decide +kernel)) ggX6_snapshot_X4_becomeLike
set_option maxRecDepth 20000 in
theorem ggX6_snapshot_X6_commitAll : GoodIn wsX6_snapshot wsX6_commitAll := goodIn_r _ [14, 15, 4, 16, 17, 18, 9, 19, 20, 21, 22, 23, 24, 25, 26, 27, 28, 29, 30, 31, 32, 33, 34, 35, 36, 37, 38, 39, 40, 41, 42, 43, 44, 45, 46, 47, 48, 49, 50, 51, 52, 53, 54, 55, 56, 57, 58, 59, 60, 61, 62, 63, 64, 65, 66, 67, 68, 69, 70, 71, 72, 73, 74, 75, 76, 77, 78, 79, 80, 81, 82, 83, 84, 85, 86, 87, 88, 89, 90, 91, 92, 93, 94, 95, 96, 97, 98, 99, 100, 101, 102, 103, 104, 105, 106, 107, 108, 109, 110, 111, 112, 113, 114, 115, 116, 117, 118, 119, 120, 121, 122] (by decide +kernel) (by decide +kernel)
set_option maxRecDepth 20000 in
theorem gX6_snapshot_X6_commitAll : GoodIn wsX6_snapshot (wsV RX6 295 RX6 yX6_commitAll wsX6_commitAll) := goodIn_app (goodIn_of _ (by decide +kernel)) ggX6_snapshot_X6_commitAll
set_option maxRecDepth 20000 in
theorem ggX6_snapshot_X6_lowestNotGiven : GoodIn wsX6_snapshot wsX6_lowestNotGiven := goodIn_r _ [10, 5, 95, 96, 97, 98, 99, 100, 101, 102, 103, 104, 105] (by decide +kernel) (by decide +kernel)
set_option maxRecDepth 20000 in
theorem gX6_snapshot_X6_lowestNotGiven : GoodIn wsX6_snapshot (wsV RX6 314 RX6 yX6_lowestNotGiven wsX6_lowestNotGiven) := goodIn_app (goodIn_of _ (by decide +kernel)) ggX6_snapshot_X6_lowestNotGiven
theorem dX6_snapshot_0 : decode cX6_snapshot 0 = .ok (.aload_n 0, 1) := by decide +kernel
theorem dX6_snapshot_1 : decode cX6_snapshot 1 = .ok (.invokevirtual 314, 3) := by decide +kernel
theorem dX6_snapshot_4 : decode cX6_snapshot 4 = .ok (.istore_n 1, 1) := by decide +kernel
theorem dX6_snapshot_5 : decode cX6_snapshot 5 = .ok (.iload_n 1, 1) := by decide +kernel
theorem dX6_snapshot_6 : decode cX6_snapshot 6 = .ok (.iconst (-1), 1) := by decide +kernel
theorem dX6_snapshot_7 : decode cX6_snapshot 7 = .ok (.if_icmp .ne 14, 3) := by decide +kernel
theorem dX6_snapshot_10 : decode cX6_snapshot 10 = .ok (.new 110, 3) := by decide +kernel
theorem dX6_snapshot_13 : decode cX6_snapshot 13 = .ok (.dup, 1) := by decide +kernel
theorem dX6_snapshot_14 : decode cX6_snapshot 14 = .ok (.ldc_w 317, 3) := by decide +kernel
theorem dX6_snapshot_17 : decode cX6_snapshot 17 = .ok (.invokespecial 114, 3) := by decide +kernel
theorem dX6_snapshot_20 : decode cX6_snapshot 20 = .ok (.athrow, 1) := by decide +kernel
theorem dX6_snapshot_21 : decode cX6_snapshot 21 = .ok (.aload_n 0, 1) := by decide +kernel
theorem dX6_snapshot_22 : decode cX6_snapshot 22 = .ok (.invokevirtual 295, 3) := by decide +kernel
theorem dX6_snapshot_25 : decode cX6_snapshot 25 = .ok (.pop, 1) := by decide +kernel
theorem dX6_snapshot_26 : decode cX6_snapshot 26 = .ok (.aload_n 0, 1) := by decide +kernel
theorem dX6_snapshot_27 : decode cX6_snapshot 27 = .ok (.getfield 19, 3) := by decide +kernel
theorem dX6_snapshot_30 : decode cX6_snapshot 30 = .ok (.iload_n 1, 1) := by decide +kernel
theorem dX6_snapshot_31 : decode cX6_snapshot 31 = .ok (.aaload, 1) := by decide +kernel
theorem dX6_snapshot_32 : decode cX6_snapshot 32 = .ok (.aload_n 0, 1) := by decide +kernel
theorem dX6_snapshot_33 : decode cX6_snapshot 33 = .ok (.getfield 12, 3) := by decide +kernel
theorem dX6_snapshot_36 : decode cX6_snapshot 36 = .ok (.invokevirtual 301, 3) := by decide +kernel
theorem dX6_snapshot_39 : decode cX6_snapshot 39 = .ok (.aload_n 0, 1) := by decide +kernel
theorem dX6_snapshot_40 : decode cX6_snapshot 40 = .ok (.getfield 23, 3) := by decide +kernel
theorem dX6_snapshot_43 : decode cX6_snapshot 43 = .ok (.iload_n 1, 1) := by decide +kernel
theorem dX6_snapshot_44 : decode cX6_snapshot 44 = .ok (.iconst 1, 1) := by decide +kernel
theorem dX6_snapshot_45 : decode cX6_snapshot 45 = .ok (.bastore, 1) := by decide +kernel
theorem dX6_snapshot_46 : decode cX6_snapshot 46 = .ok (.iload_n 1, 1) := by decide +kernel
theorem dX6_snapshot_47 : decode cX6_snapshot 47 = .ok (.ireturn, 1) := by decide +kernel
def f_X6_snapshot (U : S2) : Option (Nat × Int32 × S2) := bn (f_X6_lowestNotGiven U) (fun z_1 => if z_1 = (-1) then some (3, 0, U) else bn (f_X6_commitAll U) (fun z_3 => chk (inb z_1 3) (if z_1 = 0 then bn (f_X4_becomeLike (z_3.2 3) (z_3.2 1)) (fun z_5 => bv (upc z_3.2 3 z_5) (fun u_6 => chk (inb z_1 3) (bv (upc u_6 0 (stz (u_6 0) 3 z_1 1)) (fun u_7 => some (0, z_1, u_7))))) else if z_1 = 1 then bn (f_X4_becomeLike (z_3.2 4) (z_3.2 1)) (fun z_9 => bv (upc z_3.2 4 z_9) (fun u_10 => chk (inb z_1 3) (bv (upc u_10 0 (stz (u_10 0) 3 z_1 1)) (fun u_11 => some (0, z_1, u_11))))) else if z_1 = 2 then bn (f_X4_becomeLike (z_3.2 5) (z_3.2 1)) (fun z_13 => bv (upc z_3.2 5 z_13) (fun u_14 => chk (inb z_1 3) (bv (upc u_14 0 (stz (u_14 0) 3 z_1 1)) (fun u_15 => some (0, z_1, u_15))))) else none)))
def rmX6_snapshot : Room := { frames := 6, cells := 1, slots := 6, locals := 134 }
set_option maxHeartbeats 4000000 in
set_option maxRecDepth 100000 in
theorem c_X6_snapshot (l : Launch) (hst : l.stackTraces = false) (D : va_G) (cI cZ cJ cT : ClassId) (a : Nat → Nat → Nat) (sz : Nat) (U : S2) (o : Nat × Int32 × S2) (hf : f_X6_snapshot U = some o) : vx_Met l yX6_snapshot wsX6_snapshot rmX6_snapshot (va_Pc [.ref (a 0 0)] (PX D cls (tys cI cZ cJ cT) (wI cI cZ cT a U) sz)) (QXi D cls o.1 o.2.1 (wI cI cZ cT a o.2.2) (va_A (wI cI cZ cT a U) sz)) (XX D cls o.1 (wI cI cZ cT a o.2.2) (va_A (wI cI cZ cT a U) sz)) 1 6 (va_A (wI cI cZ cT a U) sz) := by
  refine vx_ofW (cc := cX6_snapshot) (maxL := 2) (ret := (some .int)) (by decide) rfl ?_
  intro p e s m args below meth c s₁ B hml hxt hv
  obtain ⟨hav, ⟨hsz, hP, hK, hD0⟩, hE⟩ := hv
  have hx := B.exec
  have hb := B.bytes
  have hr := B.returns
  have hlocks := B.notSynchronized
  have hts := atoms_spec (ws := wsX6_snapshot) B.pre
  have hown : s.vm.findClass RX6 = some m.cls := findClass_of_methodNamed B.named
  have i6 : ∀ w ∈ wsX60, w ∈ wsX6_snapshot := fun w h => List.mem_cons_of_mem _ (List.mem_append_left _ (List.mem_append_left _ (List.mem_append_left _ (List.mem_append_left _ (List.mem_append_right _ h)))))
  have hk12 := hts (.fieldLink RX6 12 "Inodery" "now" "LInodery$Tree;") (by decide +kernel)
  have hk19 := hts (.fieldLink RX6 19 "Inodery" "snapshots" "[LInodery$Tree;") (by decide +kernel)
  have hk23 := hts (.fieldLink RX6 23 "Inodery" "isGiven" "[Z") (by decide +kernel)
  subst hsz
  have hD := hD0.self (sz := s.heap.size)
  generalize hAe : va_A (wI cI cZ cT a U) s.heap.size = A at hD hE ⊢
  have hA : ∀ q : Nat, s.heap.size ≤ q → A q := fun q h => by rw [← hAe]; exact Or.inr h
  have hS : va_S A s.heap s.heap [] := va_S.rf
  have hDD : ∀ V : S2, va_D A (wI cI cZ cT a V) := fun _ => D_same (w := (wI cI cZ cT a U)) rfl hD
  refine Wq (fun Q hQ => ?_)
  refine W_entry hav (Nat.le_of_ble_eq_true rfl) (fun ls hl => ?_)
  have hl : lv_has ls 2 [(0, .ref (a 0 0))] := hl
  unfold f_X6_snapshot at hf
  refine W_heap hP hS (fun H locs hP hS => ?_)
  refine lv_aload_n hx hb dX6_snapshot_0 rfl (lv_at hl 0 rfl) ?_
  obtain ⟨z_1, hz_1, hf⟩ := bn_some hf
  refine cRV (As := []) (rest := []) ⟨hx, hb, hml, hown, hts⟩ (c_X6_lowestNotGiven l D cI cZ cJ cT a U z_1 hz_1) (cwV 0 hts gX6_snapshot_X6_lowestNotGiven rfl rfl rfl (by decide +kernel) ⟨Nat.le_of_ble_eq_true rfl, Nat.le_of_ble_eq_true rfl⟩) hP hK (va_recv hK (fl_sub hP 0 rfl) (ci := 6) (q0 := 0) rfl rfl) rfl rfl hl.1 (Nat.le_of_ble_eq_true rfl) dX6_snapshot_1 ⟨Nat.le_of_ble_eq_true rfl, Nat.le_of_ble_eq_true rfl⟩ ?_
  refine lv_istore_n (lv' := [(1, .int z_1), (0, .ref (a 0 0))]) hx hb dX6_snapshot_4 rfl hl (by decide) rfl (fun ls hl => ?_)
  refine lv_iload_n hx hb dX6_snapshot_5 rfl (lv_at hl 0 rfl) ?_
  refine lv_iconst (v := (-1)) hx hb dX6_snapshot_6 (by decide) ?_
  refine lv_icmp_ne (tgt := 21) hx hb dX6_snapshot_7 (by decide) (fun c_2 => ?_) (fun c_2 => ?_)
  · have hf := ite_f hf c_2
    refine lv_aload_n hx hb dX6_snapshot_21 rfl (lv_at hl 1 rfl) ?_
    obtain ⟨z_3, hz_3, hf⟩ := bn_some hf
    refine cWVi (As := []) (rest := []) ⟨hx, hb, hml, hown, hts⟩ (c_X6_commitAll l D cI cZ cJ cT a H.size U z_3 hz_3) (cwV 0 hts gX6_snapshot_X6_commitAll rfl rfl rfl (by decide +kernel) ⟨Nat.le_of_ble_eq_true rfl, Nat.le_of_ble_eq_true rfl⟩) hP hK (hDD U) hS (own_free (hDD U) hS hA) (va_recv hK (fl_sub hP 0 rfl) (ci := 6) (q0 := 0) rfl rfl) rfl rfl hl.1 (Nat.le_of_ble_eq_true rfl) dX6_snapshot_22 ⟨Nat.le_of_ble_eq_true rfl, Nat.le_of_ble_eq_true rfl⟩ (fun H locs hP _ hS => ?_)
    refine lv_pop hx hb dX6_snapshot_25 rfl ?_
    refine lv_aload_n hx hb dX6_snapshot_26 rfl (lv_at hl 1 rfl) ?_
    refine va_get (D := D) (ci := 6) (v := .ref (a 0 1)) (C := RX6) (T := TX6) (N := 11) hx hb hts i6 hown hK (fl_sub hP 0 rfl) 0 rfl rfl 2 (by decide) hk19 (fun _ h9 => h9) rfl dX6_snapshot_27 ?_
    refine lv_iload_n hx hb dX6_snapshot_30 rfl (lv_at hl 0 rfl) ?_
    obtain ⟨hi, hf⟩ := chk_some hf
    refine va_aldq hx hb hK (fl_sub hP 0 rfl) 1 3 rfl rfl (inb_in hi) dX6_snapshot_31 ?_
    by_cases e_4 : z_1 = 0
    · have hf := ite_t hf e_4
      refine W_top (v2 := .ref (a 3 0)) (by rw [e_4]; rfl) ?_
      refine lv_aload_n hx hb dX6_snapshot_32 rfl (lv_at hl 1 rfl) ?_
      refine va_get (D := D) (ci := 6) (v := .ref (a 1 0)) (C := RX6) (T := TX6) (N := 11) hx hb hts i6 hown hK (fl_sub hP 0 rfl) 0 rfl rfl 0 (by decide) hk12 (fun _ h9 => h9) rfl dX6_snapshot_33 ?_
      obtain ⟨z_5, hz_5, hf⟩ := bn_some hf
      refine cWVv (As := [.ref (a 1 0)]) (rest := []) ⟨hx, hb, hml, hown, hts⟩ (c_X4_becomeLike l D cI cZ cJ cT (a 3) (a 1) H.size (z_3.2 3) (z_3.2 1) z_5 hz_5) (cwV 1 hts gX6_snapshot_X4_becomeLike rfl rfl rfl (by decide +kernel) ⟨Nat.le_of_ble_eq_true rfl, Nat.le_of_ble_eq_true rfl⟩) (fl_subM hP [3, 1] rfl) hK (fl_subDM (hDD z_3.2) [3, 1] rfl rfl) hS (own_free (fl_subDM (hDD z_3.2) [3, 1] rfl rfl) hS hA) (va_recv hK (fl_sub hP 3 rfl) (ci := 4) (q0 := 0) rfl rfl) rfl rfl hl.1 (Nat.le_of_ble_eq_true rfl) dX6_snapshot_36 ⟨Nat.le_of_ble_eq_true rfl, Nat.le_of_ble_eq_true rfl⟩ (fun H1 locs hP1 hk1 hS => ?_)
      obtain ⟨u_6, hu_6, hf⟩ := bv_some hf
      have hP : va_P D cls (wI cI cZ cT a u_6) H1 := by rw [hu_6]; exact fl_joinM hP (hDD z_3.2) [3, 1] rfl rfl hk1 hP1
      clear hP1 hk1
      generalize H1 = H at hP hS ⊢
      refine lv_aload_n hx hb dX6_snapshot_39 rfl (lv_at hl 1 rfl) ?_
      refine va_get (D := D) (ci := 6) (v := .ref (a 0 2)) (C := RX6) (T := TX6) (N := 11) hx hb hts i6 hown hK (fl_sub hP 0 rfl) 0 rfl rfl 3 (by decide) hk23 (fun _ h9 => h9) rfl dX6_snapshot_40 ?_
      refine lv_iload_n hx hb dX6_snapshot_43 rfl (lv_at hl 0 rfl) ?_
      refine lv_iconst (v := 1) hx hb dX6_snapshot_44 (by decide) ?_
      obtain ⟨hi, hf⟩ := chk_some hf
      obtain ⟨u_7, hu_7, hf⟩ := bv_some hf
      refine va_zast hx hb hK hP (hDD u_6) hS 2 1 rfl rfl (inb_in hi) dX6_snapshot_45 (fun H locs hP _ hS => ?_)
      have hP : va_P D cls (wI cI cZ cT a u_7) H := by rw [hu_7]; exact hP
      refine lv_iload_n hx hb dX6_snapshot_46 rfl (lv_at hl 0 rfl) ?_
      have eo := Option.some.inj hf
      have hP : va_P D cls (wI cI cZ cT a o.2.2) H := by rw [← eo]; exact hP
      rw [hQ]
      refine W.widen (k := 1) (n := 6) (Nat.le_of_ble_eq_true rfl) (Nat.le_of_ble_eq_true rfl) ?_
      exact vx_ret (W.iret hx hb hr (fun t ht hW => ⟨⟨_, (), rfl, ⟨(by rw [← eo]), (by rw [← eo])⟩, P_at ht hP⟩, hS.F ht⟩) hS.2.2 dX6_snapshot_47 hlocks)
    have hf := ite_f hf e_4
    by_cases e_8 : z_1 = 1
    · have hf := ite_t hf e_8
      refine W_top (v2 := .ref (a 4 0)) (by rw [e_8]; rfl) ?_
      refine lv_aload_n hx hb dX6_snapshot_32 rfl (lv_at hl 1 rfl) ?_
      refine va_get (D := D) (ci := 6) (v := .ref (a 1 0)) (C := RX6) (T := TX6) (N := 11) hx hb hts i6 hown hK (fl_sub hP 0 rfl) 0 rfl rfl 0 (by decide) hk12 (fun _ h9 => h9) rfl dX6_snapshot_33 ?_
      obtain ⟨z_9, hz_9, hf⟩ := bn_some hf
      refine cWVv (As := [.ref (a 1 0)]) (rest := []) ⟨hx, hb, hml, hown, hts⟩ (c_X4_becomeLike l D cI cZ cJ cT (a 4) (a 1) H.size (z_3.2 4) (z_3.2 1) z_9 hz_9) (cwV 1 hts gX6_snapshot_X4_becomeLike rfl rfl rfl (by decide +kernel) ⟨Nat.le_of_ble_eq_true rfl, Nat.le_of_ble_eq_true rfl⟩) (fl_subM hP [4, 1] rfl) hK (fl_subDM (hDD z_3.2) [4, 1] rfl rfl) hS (own_free (fl_subDM (hDD z_3.2) [4, 1] rfl rfl) hS hA) (va_recv hK (fl_sub hP 4 rfl) (ci := 4) (q0 := 0) rfl rfl) rfl rfl hl.1 (Nat.le_of_ble_eq_true rfl) dX6_snapshot_36 ⟨Nat.le_of_ble_eq_true rfl, Nat.le_of_ble_eq_true rfl⟩ (fun H1 locs hP1 hk1 hS => ?_)
      obtain ⟨u_10, hu_10, hf⟩ := bv_some hf
      have hP : va_P D cls (wI cI cZ cT a u_10) H1 := by rw [hu_10]; exact fl_joinM hP (hDD z_3.2) [4, 1] rfl rfl hk1 hP1
      clear hP1 hk1
      generalize H1 = H at hP hS ⊢
      refine lv_aload_n hx hb dX6_snapshot_39 rfl (lv_at hl 1 rfl) ?_
      refine va_get (D := D) (ci := 6) (v := .ref (a 0 2)) (C := RX6) (T := TX6) (N := 11) hx hb hts i6 hown hK (fl_sub hP 0 rfl) 0 rfl rfl 3 (by decide) hk23 (fun _ h9 => h9) rfl dX6_snapshot_40 ?_
      refine lv_iload_n hx hb dX6_snapshot_43 rfl (lv_at hl 0 rfl) ?_
      refine lv_iconst (v := 1) hx hb dX6_snapshot_44 (by decide) ?_
      obtain ⟨hi, hf⟩ := chk_some hf
      obtain ⟨u_11, hu_11, hf⟩ := bv_some hf
      refine va_zast hx hb hK hP (hDD u_10) hS 2 1 rfl rfl (inb_in hi) dX6_snapshot_45 (fun H locs hP _ hS => ?_)
      have hP : va_P D cls (wI cI cZ cT a u_11) H := by rw [hu_11]; exact hP
      refine lv_iload_n hx hb dX6_snapshot_46 rfl (lv_at hl 0 rfl) ?_
      have eo := Option.some.inj hf
      have hP : va_P D cls (wI cI cZ cT a o.2.2) H := by rw [← eo]; exact hP
      rw [hQ]
      refine W.widen (k := 1) (n := 6) (Nat.le_of_ble_eq_true rfl) (Nat.le_of_ble_eq_true rfl) ?_
      exact vx_ret (W.iret hx hb hr (fun t ht hW => ⟨⟨_, (), rfl, ⟨(by rw [← eo]), (by rw [← eo])⟩, P_at ht hP⟩, hS.F ht⟩) hS.2.2 dX6_snapshot_47 hlocks)
    have hf := ite_f hf e_8
    by_cases e_12 : z_1 = 2
    · have hf := ite_t hf e_12
      refine W_top (v2 := .ref (a 5 0)) (by rw [e_12]; rfl) ?_
      refine lv_aload_n hx hb dX6_snapshot_32 rfl (lv_at hl 1 rfl) ?_
      refine va_get (D := D) (ci := 6) (v := .ref (a 1 0)) (C := RX6) (T := TX6) (N := 11) hx hb hts i6 hown hK (fl_sub hP 0 rfl) 0 rfl rfl 0 (by decide) hk12 (fun _ h9 => h9) rfl dX6_snapshot_33 ?_
      obtain ⟨z_13, hz_13, hf⟩ := bn_some hf
      refine cWVv (As := [.ref (a 1 0)]) (rest := []) ⟨hx, hb, hml, hown, hts⟩ (c_X4_becomeLike l D cI cZ cJ cT (a 5) (a 1) H.size (z_3.2 5) (z_3.2 1) z_13 hz_13) (cwV 1 hts gX6_snapshot_X4_becomeLike rfl rfl rfl (by decide +kernel) ⟨Nat.le_of_ble_eq_true rfl, Nat.le_of_ble_eq_true rfl⟩) (fl_subM hP [5, 1] rfl) hK (fl_subDM (hDD z_3.2) [5, 1] rfl rfl) hS (own_free (fl_subDM (hDD z_3.2) [5, 1] rfl rfl) hS hA) (va_recv hK (fl_sub hP 5 rfl) (ci := 4) (q0 := 0) rfl rfl) rfl rfl hl.1 (Nat.le_of_ble_eq_true rfl) dX6_snapshot_36 ⟨Nat.le_of_ble_eq_true rfl, Nat.le_of_ble_eq_true rfl⟩ (fun H1 locs hP1 hk1 hS => ?_)
      obtain ⟨u_14, hu_14, hf⟩ := bv_some hf
      have hP : va_P D cls (wI cI cZ cT a u_14) H1 := by rw [hu_14]; exact fl_joinM hP (hDD z_3.2) [5, 1] rfl rfl hk1 hP1
      clear hP1 hk1
      generalize H1 = H at hP hS ⊢
      refine lv_aload_n hx hb dX6_snapshot_39 rfl (lv_at hl 1 rfl) ?_
      refine va_get (D := D) (ci := 6) (v := .ref (a 0 2)) (C := RX6) (T := TX6) (N := 11) hx hb hts i6 hown hK (fl_sub hP 0 rfl) 0 rfl rfl 3 (by decide) hk23 (fun _ h9 => h9) rfl dX6_snapshot_40 ?_
      refine lv_iload_n hx hb dX6_snapshot_43 rfl (lv_at hl 0 rfl) ?_
      refine lv_iconst (v := 1) hx hb dX6_snapshot_44 (by decide) ?_
      obtain ⟨hi, hf⟩ := chk_some hf
      obtain ⟨u_15, hu_15, hf⟩ := bv_some hf
      refine va_zast hx hb hK hP (hDD u_14) hS 2 1 rfl rfl (inb_in hi) dX6_snapshot_45 (fun H locs hP _ hS => ?_)
      have hP : va_P D cls (wI cI cZ cT a u_15) H := by rw [hu_15]; exact hP
      refine lv_iload_n hx hb dX6_snapshot_46 rfl (lv_at hl 0 rfl) ?_
      have eo := Option.some.inj hf
      have hP : va_P D cls (wI cI cZ cT a o.2.2) H := by rw [← eo]; exact hP
      rw [hQ]
      refine W.widen (k := 1) (n := 6) (Nat.le_of_ble_eq_true rfl) (Nat.le_of_ble_eq_true rfl) ?_
      exact vx_ret (W.iret hx hb hr (fun t ht hW => ⟨⟨_, (), rfl, ⟨(by rw [← eo]), (by rw [← eo])⟩, P_at ht hP⟩, hS.F ht⟩) hS.2.2 dX6_snapshot_47 hlocks)
    have hf := ite_f hf e_12
    exact nomatch hf
  · have hf := ite_t hf c_2
    have eo := Option.some.inj hf
    have hP : va_P D cls (wI cI cZ cT a o.2.2) H := by rw [← eo]; exact hP
    rw [hQ]
    have hk0 : o.1 = 3 := by rw [← eo]
    exact thrW o.1 (text := "there are 3 snapshots") (by rw [hk0]; rfl) (by rw [hk0]; decide) hx hb hst hown (by decide +kernel) (hts (.classLink RX6 110 "java/lang/IllegalStateException") (by decide +kernel)) (hts (.initialized "java/lang/IllegalStateException") (by decide +kernel)) (fun w h => hts w (List.mem_cons_of_mem _ (List.mem_append_right _ h))) (EX_b3 hE) ok3 (by decide +kernel) hE hS hP (hl.1.trans hml.symm) dX6_snapshot_10 dX6_snapshot_13 dX6_snapshot_14 dX6_snapshot_17 dX6_snapshot_20 hxt (Nat.le_of_ble_eq_true rfl) (Nat.le_of_ble_eq_true rfl) (Nat.le_of_ble_eq_true rfl) (Nat.le_of_ble_eq_true rfl) hlocks (Nat.le_of_ble_eq_true rfl) (Nat.le_of_ble_eq_true rfl)
theorem dX6_isSnapshot_0 : decode cX6_isSnapshot 0 = .ok (.iload_n 1, 1) := by decide +kernel
theorem dX6_isSnapshot_1 : decode cX6_isSnapshot 1 = .ok (.ifCond .lt 21, 3) := by decide +kernel
theorem dX6_isSnapshot_4 : decode cX6_isSnapshot 4 = .ok (.iload_n 1, 1) := by decide +kernel
theorem dX6_isSnapshot_5 : decode cX6_isSnapshot 5 = .ok (.iconst 3, 1) := by decide +kernel
theorem dX6_isSnapshot_6 : decode cX6_isSnapshot 6 = .ok (.if_icmp .ge 16, 3) := by decide +kernel
theorem dX6_isSnapshot_9 : decode cX6_isSnapshot 9 = .ok (.aload_n 0, 1) := by decide +kernel
theorem dX6_isSnapshot_10 : decode cX6_isSnapshot 10 = .ok (.getfield 23, 3) := by decide +kernel
theorem dX6_isSnapshot_13 : decode cX6_isSnapshot 13 = .ok (.iload_n 1, 1) := by decide +kernel
theorem dX6_isSnapshot_14 : decode cX6_isSnapshot 14 = .ok (.baload, 1) := by decide +kernel
theorem dX6_isSnapshot_15 : decode cX6_isSnapshot 15 = .ok (.ifCond .eq 7, 3) := by decide +kernel
theorem dX6_isSnapshot_18 : decode cX6_isSnapshot 18 = .ok (.iconst 1, 1) := by decide +kernel
theorem dX6_isSnapshot_19 : decode cX6_isSnapshot 19 = .ok (.goto 4, 3) := by decide +kernel
theorem dX6_isSnapshot_22 : decode cX6_isSnapshot 22 = .ok (.iconst 0, 1) := by decide +kernel
theorem dX6_isSnapshot_23 : decode cX6_isSnapshot 23 = .ok (.ireturn, 1) := by decide +kernel
def f_X6_isSnapshot (U : S2) (p1 : Int32) : Option (Int32) := jn (fun (v23_1_0 : Int32) => some (vp_nar .boolean v23_1_0)) (fun k23_1 => jn (k23_1 0) (fun k22_2 => if p1 < 0 then k22_2 else if 3 ≤ p1 then k22_2 else chk (inb p1 3) (if (U 0 3 (p1).toNatClampNeg) = 0 then k22_2 else k23_1 1)))
def rmX6_isSnapshot : Room := { frames := 0, cells := 0, slots := 0, locals := 0 }
set_option maxHeartbeats 4000000 in
set_option maxRecDepth 100000 in
theorem c_X6_isSnapshot (l : Launch) (D : va_G) (cI cZ cJ cT : ClassId) (a : Nat → Nat → Nat) (U : S2) (p1 : Int32) (o : Int32) (hf : f_X6_isSnapshot U p1 = some o) : Met l yX6_isSnapshot wsX6_isSnapshot rmX6_isSnapshot (va_Pc [.ref (a 0 0), .int p1] (PR D cls (tys cI cZ cJ cT) (wI cI cZ cT a U))) (QR o) 0 0 (fun _ => False) := by
  refine Met.ofW (cc := cX6_isSnapshot) (maxL := 2) (ret := (some .boolean)) (by decide) rfl ?_
  intro p e s m args below meth c s₁ B hml hv
  obtain ⟨hav, hP, hK⟩ := hv
  have hx := B.exec
  have hb := B.bytes
  have hr := B.returns
  have hlocks := B.notSynchronized
  have hts := atoms_spec (ws := wsX6_isSnapshot) B.pre
  have hown : s.vm.findClass RX6 = some m.cls := findClass_of_methodNamed B.named
  have i6 : ∀ w ∈ wsX60, w ∈ wsX6_isSnapshot := fun w h => List.mem_cons_of_mem _ (List.mem_append_right _ h)
  have hk23 := hts (.fieldLink RX6 23 "Inodery" "isGiven" "[Z") (by decide +kernel)
  refine Wq (fun Q hQ => ?_)
  refine W_entry hav (Nat.le_of_ble_eq_true rfl) (fun ls hl => ?_)
  have hl : lv_has ls 2 [(0, .ref (a 0 0)), (1, .int p1)] := hl
  unfold f_X6_isSnapshot at hf
  refine lv_iload_n hx hb dX6_isSnapshot_0 rfl (lv_at hl 1 rfl) ?_
  obtain ⟨k23_1, hk23_1, hf⟩ := jn_some hf
  have j23_1 : ∀ (v23_1_0 : Int32) (ls : Array Slot), k23_1 v23_1_0 = some o → lv_has ls 2 [] → W p l e (headSpec wsX6_isSnapshot rmX6_isSnapshot).room s m args below meth c s.heap [] 0 0 Q (F0 m 23 ls [.int v23_1_0]) := by
    intro v23_1_0 ls hf hl
    have hf := qa1 hk23_1 hf
    rw [hQ]
    exact zretN (v := v23_1_0) (v' := vp_nar .boolean v23_1_0) hx hb hr rfl (fun t ht hW => ⟨_, rfl, Option.some.inj hf, ht⟩) (fun _ h => nomatch h) dX6_isSnapshot_23 hlocks
  obtain ⟨k22_2, hk22_2, hf⟩ := jn_some hf
  have j22_2 : ∀ (ls : Array Slot), k22_2 = some o → lv_has ls 2 [] → W p l e (headSpec wsX6_isSnapshot rmX6_isSnapshot).room s m args below meth c s.heap [] 0 0 Q (F0 m 22 ls []) := by
    intro ls hf hl
    have hf := qa0 hk22_2 hf
    refine lv_iconst (v := 0) hx hb dX6_isSnapshot_22 (by decide) ?_
    exact j23_1 _ _ hf (lv_sub hl [] rfl)
  refine lv_if_lt (tgt := 22) hx hb dX6_isSnapshot_1 (by decide) (fun c_3 => ?_) (fun c_3 => ?_)
  · have hf := ite_t hf c_3
    exact j22_2 _ hf (lv_sub hl [] rfl)
  · have hf := ite_f hf c_3
    refine lv_iload_n hx hb dX6_isSnapshot_4 rfl (lv_at hl 1 rfl) ?_
    refine lv_iconst (v := 3) hx hb dX6_isSnapshot_5 (by decide) ?_
    refine lv_icmp_ge (tgt := 22) hx hb dX6_isSnapshot_6 (by decide) (fun c_4 => ?_) (fun c_4 => ?_)
    · have hf := ite_t hf c_4
      exact j22_2 _ hf (lv_sub hl [] rfl)
    · have hf := ite_f hf c_4
      refine lv_aload_n hx hb dX6_isSnapshot_9 rfl (lv_at hl 0 rfl) ?_
      refine va_get (D := D) (ci := 6) (v := .ref (a 0 2)) (C := RX6) (T := TX6) (N := 11) hx hb hts i6 hown hK (fl_sub hP 0 rfl) 0 rfl rfl 3 (by decide) hk23 (fun _ h9 => h9) rfl dX6_isSnapshot_10 ?_
      refine lv_iload_n hx hb dX6_isSnapshot_13 rfl (lv_at hl 1 rfl) ?_
      obtain ⟨hi, hf⟩ := chk_some hf
      refine va_zald hx hb hK (fl_sub hP 0 rfl) 2 1 rfl rfl (inb_in hi) dX6_isSnapshot_14 ?_
      refine lv_if_eq (tgt := 22) hx hb dX6_isSnapshot_15 (by decide) (fun c_5 => ?_) (fun c_5 => ?_)
      · have hf := ite_t hf c_5
        exact j22_2 _ hf (lv_sub hl [] rfl)
      · have hf := ite_f hf c_5
        refine lv_iconst (v := 1) hx hb dX6_isSnapshot_18 (by decide) ?_
        refine lv_goto (tgt := 23) hx hb dX6_isSnapshot_19 (by decide) ?_
        exact j23_1 _ _ hf (lv_sub hl [] rfl)
set_option maxRecDepth 20000 in
theorem ggX6_drop_X6_countOfUnused : GoodIn wsX6_drop wsX6_countOfUnused := goodIn_r _ [12, 13, 14, 15, 7, 16, 17, 18, 19, 20, 21, 22, 23, 24, 25, 26, 27, 28, 3, 29, 30, 31, 32, 33, 34, 35, 36, 37, 38, 39, 40, 41, 42, 43, 44, 45, 46, 47, 48, 49, 50, 51, 52] (by decide +kernel) (by decide +kernel)
set_option maxRecDepth 20000 in
theorem gX6_drop_X6_countOfUnused : GoodIn wsX6_drop (wsV RX6 257 RX6 yX6_countOfUnused wsX6_countOfUnused) := goodIn_app (goodIn_of _ (by decide +kernel)) ggX6_drop_X6_countOfUnused
set_option maxRecDepth 20000 in
theorem ggX6_drop_X6_isSnapshot : GoodIn wsX6_drop wsX6_isSnapshot := goodIn_r _ [8, 3, 30, 31, 32, 33, 34, 35, 36, 37, 38, 39, 40] (by decide +kernel) (by decide +kernel)
set_option maxRecDepth 20000 in
theorem gX6_drop_X6_isSnapshot : GoodIn wsX6_drop (wsV RX6 319 RX6 yX6_isSnapshot wsX6_isSnapshot) := goodIn_app (goodIn_of _ (by decide +kernel)) ggX6_drop_X6_isSnapshot
theorem dX6_drop_0 : decode cX6_drop 0 = .ok (.aload_n 0, 1) := by decide +kernel
theorem dX6_drop_1 : decode cX6_drop 1 = .ok (.iload_n 1, 1) := by decide +kernel
theorem dX6_drop_2 : decode cX6_drop 2 = .ok (.invokevirtual 319, 3) := by decide +kernel
theorem dX6_drop_5 : decode cX6_drop 5 = .ok (.ifCond .ne 14, 3) := by decide +kernel
theorem dX6_drop_8 : decode cX6_drop 8 = .ok (.new 74, 3) := by decide +kernel
theorem dX6_drop_11 : decode cX6_drop 11 = .ok (.dup, 1) := by decide +kernel
theorem dX6_drop_12 : decode cX6_drop 12 = .ok (.ldc_w 322, 3) := by decide +kernel
theorem dX6_drop_15 : decode cX6_drop 15 = .ok (.invokespecial 78, 3) := by decide +kernel
theorem dX6_drop_18 : decode cX6_drop 18 = .ok (.athrow, 1) := by decide +kernel
theorem dX6_drop_19 : decode cX6_drop 19 = .ok (.aload_n 0, 1) := by decide +kernel
theorem dX6_drop_20 : decode cX6_drop 20 = .ok (.invokevirtual 257, 3) := by decide +kernel
theorem dX6_drop_23 : decode cX6_drop 23 = .ok (.istore_n 2, 1) := by decide +kernel
theorem dX6_drop_24 : decode cX6_drop 24 = .ok (.aload_n 0, 1) := by decide +kernel
theorem dX6_drop_25 : decode cX6_drop 25 = .ok (.getfield 23, 3) := by decide +kernel
theorem dX6_drop_28 : decode cX6_drop 28 = .ok (.iload_n 1, 1) := by decide +kernel
theorem dX6_drop_29 : decode cX6_drop 29 = .ok (.iconst 0, 1) := by decide +kernel
theorem dX6_drop_30 : decode cX6_drop 30 = .ok (.bastore, 1) := by decide +kernel
theorem dX6_drop_31 : decode cX6_drop 31 = .ok (.aload_n 0, 1) := by decide +kernel
theorem dX6_drop_32 : decode cX6_drop 32 = .ok (.invokevirtual 257, 3) := by decide +kernel
theorem dX6_drop_35 : decode cX6_drop 35 = .ok (.iload_n 2, 1) := by decide +kernel
theorem dX6_drop_36 : decode cX6_drop 36 = .ok (.isub, 1) := by decide +kernel
theorem dX6_drop_37 : decode cX6_drop 37 = .ok (.ireturn, 1) := by decide +kernel
def f_X6_drop (U : S2) (p1 : Int32) : Option (Nat × Int32 × S2) := bn (f_X6_isSnapshot U p1) (fun z_1 => if z_1 = 0 then some (2, 0, U) else bn (f_X6_countOfUnused U) (fun z_3 => chk (inb p1 3) (bv (upc U 0 (stz (U 0) 3 p1 0)) (fun u_4 => bn (f_X6_countOfUnused u_4) (fun z_5 => some (0, z_5 - z_3, u_4))))))
def rmX6_drop : Room := { frames := 6, cells := 1, slots := 6, locals := 90 }
set_option maxHeartbeats 4000000 in
set_option maxRecDepth 100000 in
theorem c_X6_drop (l : Launch) (hst : l.stackTraces = false) (D : va_G) (cI cZ cJ cT : ClassId) (a : Nat → Nat → Nat) (sz : Nat) (U : S2) (p1 : Int32) (o : Nat × Int32 × S2) (hf : f_X6_drop U p1 = some o) : vx_Met l yX6_drop wsX6_drop rmX6_drop (va_Pc [.ref (a 0 0), .int p1] (PX D cls (tys cI cZ cJ cT) (wI cI cZ cT a U) sz)) (QXi D cls o.1 o.2.1 (wI cI cZ cT a o.2.2) (va_A (wI cI cZ cT a U) sz)) (XX D cls o.1 (wI cI cZ cT a o.2.2) (va_A (wI cI cZ cT a U) sz)) 1 6 (va_A (wI cI cZ cT a U) sz) := by
  refine vx_ofW (cc := cX6_drop) (maxL := 3) (ret := (some .int)) (by decide) rfl ?_
  intro p e s m args below meth c s₁ B hml hxt hv
  obtain ⟨hav, ⟨hsz, hP, hK, hD0⟩, hE⟩ := hv
  have hx := B.exec
  have hb := B.bytes
  have hr := B.returns
  have hlocks := B.notSynchronized
  have hts := atoms_spec (ws := wsX6_drop) B.pre
  have hown : s.vm.findClass RX6 = some m.cls := findClass_of_methodNamed B.named
  have i6 : ∀ w ∈ wsX60, w ∈ wsX6_drop := fun w h => List.mem_cons_of_mem _ (List.mem_append_left _ (List.mem_append_left _ (List.mem_append_right _ h)))
  have hk23 := hts (.fieldLink RX6 23 "Inodery" "isGiven" "[Z") (by decide +kernel)
  subst hsz
  have hD := hD0.self (sz := s.heap.size)
  generalize hAe : va_A (wI cI cZ cT a U) s.heap.size = A at hD hE ⊢
  have hA : ∀ q : Nat, s.heap.size ≤ q → A q := fun q h => by rw [← hAe]; exact Or.inr h
  have hS : va_S A s.heap s.heap [] := va_S.rf
  have hDD : ∀ V : S2, va_D A (wI cI cZ cT a V) := fun _ => D_same (w := (wI cI cZ cT a U)) rfl hD
  refine Wq (fun Q hQ => ?_)
  refine W_entry hav (Nat.le_of_ble_eq_true rfl) (fun ls hl => ?_)
  have hl : lv_has ls 3 [(0, .ref (a 0 0)), (1, .int p1)] := hl
  unfold f_X6_drop at hf
  refine W_heap hP hS (fun H locs hP hS => ?_)
  refine lv_aload_n hx hb dX6_drop_0 rfl (lv_at hl 0 rfl) ?_
  refine lv_iload_n hx hb dX6_drop_1 rfl (lv_at hl 1 rfl) ?_
  obtain ⟨z_1, hz_1, hf⟩ := bn_some hf
  refine cRV (As := [.int p1]) (rest := []) ⟨hx, hb, hml, hown, hts⟩ (c_X6_isSnapshot l D cI cZ cJ cT a U p1 z_1 hz_1) (cwV 1 hts gX6_drop_X6_isSnapshot rfl rfl rfl (by decide +kernel) ⟨Nat.le_of_ble_eq_true rfl, Nat.le_of_ble_eq_true rfl⟩) hP hK (va_recv hK (fl_sub hP 0 rfl) (ci := 6) (q0 := 0) rfl rfl) rfl rfl hl.1 (Nat.le_of_ble_eq_true rfl) dX6_drop_2 ⟨Nat.le_of_ble_eq_true rfl, Nat.le_of_ble_eq_true rfl⟩ ?_
  refine lv_if_ne (tgt := 19) hx hb dX6_drop_5 (by decide) (fun c_2 => ?_) (fun c_2 => ?_)
  · have hf := ite_f hf c_2
    refine lv_aload_n hx hb dX6_drop_19 rfl (lv_at hl 0 rfl) ?_
    obtain ⟨z_3, hz_3, hf⟩ := bn_some hf
    refine cRV (As := []) (rest := []) ⟨hx, hb, hml, hown, hts⟩ (c_X6_countOfUnused l D cI cZ cJ cT a U z_3 hz_3) (cwV 0 hts gX6_drop_X6_countOfUnused rfl rfl rfl (by decide +kernel) ⟨Nat.le_of_ble_eq_true rfl, Nat.le_of_ble_eq_true rfl⟩) hP hK (va_recv hK (fl_sub hP 0 rfl) (ci := 6) (q0 := 0) rfl rfl) rfl rfl hl.1 (Nat.le_of_ble_eq_true rfl) dX6_drop_20 ⟨Nat.le_of_ble_eq_true rfl, Nat.le_of_ble_eq_true rfl⟩ ?_
    refine lv_istore_n (lv' := [(2, .int z_3), (0, .ref (a 0 0)), (1, .int p1)]) hx hb dX6_drop_23 rfl hl (by decide) rfl (fun ls hl => ?_)
    refine lv_aload_n hx hb dX6_drop_24 rfl (lv_at hl 1 rfl) ?_
    refine va_get (D := D) (ci := 6) (v := .ref (a 0 2)) (C := RX6) (T := TX6) (N := 11) hx hb hts i6 hown hK (fl_sub hP 0 rfl) 0 rfl rfl 3 (by decide) hk23 (fun _ h9 => h9) rfl dX6_drop_25 ?_
    refine lv_iload_n hx hb dX6_drop_28 rfl (lv_at hl 2 rfl) ?_
    refine lv_iconst (v := 0) hx hb dX6_drop_29 (by decide) ?_
    obtain ⟨hi, hf⟩ := chk_some hf
    obtain ⟨u_4, hu_4, hf⟩ := bv_some hf
    refine va_zast hx hb hK hP (hDD U) hS 2 1 rfl rfl (inb_in hi) dX6_drop_30 (fun H locs hP _ hS => ?_)
    have hP : va_P D cls (wI cI cZ cT a u_4) H := by rw [hu_4]; exact hP
    refine lv_aload_n hx hb dX6_drop_31 rfl (lv_at hl 1 rfl) ?_
    obtain ⟨z_5, hz_5, hf⟩ := bn_some hf
    refine cRV (As := []) (rest := []) ⟨hx, hb, hml, hown, hts⟩ (c_X6_countOfUnused l D cI cZ cJ cT a u_4 z_5 hz_5) (cwV 0 hts gX6_drop_X6_countOfUnused rfl rfl rfl (by decide +kernel) ⟨Nat.le_of_ble_eq_true rfl, Nat.le_of_ble_eq_true rfl⟩) hP hK (va_recv hK (fl_sub hP 0 rfl) (ci := 6) (q0 := 0) rfl rfl) rfl rfl hl.1 (Nat.le_of_ble_eq_true rfl) dX6_drop_32 ⟨Nat.le_of_ble_eq_true rfl, Nat.le_of_ble_eq_true rfl⟩ ?_
    refine lv_iload_n hx hb dX6_drop_35 rfl (lv_at hl 0 rfl) ?_
    refine lv_isub hx hb dX6_drop_36 ?_
    have eo := Option.some.inj hf
    have hP : va_P D cls (wI cI cZ cT a o.2.2) H := by rw [← eo]; exact hP
    rw [hQ]
    refine W.widen (k := 1) (n := 6) (Nat.le_of_ble_eq_true rfl) (Nat.le_of_ble_eq_true rfl) ?_
    exact vx_ret (W.iret hx hb hr (fun t ht hW => ⟨⟨_, (), rfl, ⟨(by rw [← eo]), (by rw [← eo])⟩, P_at ht hP⟩, hS.F ht⟩) hS.2.2 dX6_drop_37 hlocks)
  · have hf := ite_t hf c_2
    have eo := Option.some.inj hf
    have hP : va_P D cls (wI cI cZ cT a o.2.2) H := by rw [← eo]; exact hP
    rw [hQ]
    have hk0 : o.1 = 2 := by rw [← eo]
    exact thrW o.1 (text := "no such snapshot") (by rw [hk0]; rfl) (by rw [hk0]; decide) hx hb hst hown (by decide +kernel) (hts (.classLink RX6 74 "java/lang/IndexOutOfBoundsException") (by decide +kernel)) (hts (.initialized "java/lang/IndexOutOfBoundsException") (by decide +kernel)) (fun w h => hts w (List.mem_cons_of_mem _ (List.mem_append_right _ h))) (EX_b2 hE) ok2 (by decide +kernel) hE hS hP (hl.1.trans hml.symm) dX6_drop_8 dX6_drop_11 dX6_drop_12 dX6_drop_15 dX6_drop_18 hxt (Nat.le_of_ble_eq_true rfl) (Nat.le_of_ble_eq_true rfl) (Nat.le_of_ble_eq_true rfl) (Nat.le_of_ble_eq_true rfl) hlocks (Nat.le_of_ble_eq_true rfl) (Nat.le_of_ble_eq_true rfl)
set_option maxRecDepth 20000 in
theorem ggX6_readOld_X4_isOfKind : GoodIn wsX6_readOld wsX4_isOfKind := goodIn_r _ [60, 61, 62, 63, 64, 40, 65, 66, 67, 68, 115, 116, 117, 118, 119, 120, 121, 122, 123, 124, 125, 126] (by decide +kernel) (by decide +kernel)
set_option maxRecDepth 20000 in
theorem gX6_readOld_X4_isOfKind : GoodIn wsX6_readOld (wsV RX6 103 RX4 yX4_isOfKind wsX4_isOfKind) := goodIn_app (goodIn_of _ (by decide +kernel)) ggX6_readOld_X4_isOfKind
set_option maxRecDepth 20000 in
theorem ggX6_readOld_X5_thingAt : GoodIn wsX6_readOld wsX5_thingAt := goodIn_r _ [26, 27, 28, 29, 30, 25, 31, 32, 33, 34, 35, 36, 37, 38, 39, 40, 41, 42, 43, 44, 45, 46, 47, 48, 49, 50, 51, 52, 53, 54, 55, 56, 57, 58, 59, 60, 61, 62, 63, 64, 65, 66, 67, 68, 69, 70, 71, 72, 73, 113, 114, 115, 116, 117, 118, 119, 120, 121, 122, 123, 124, 125, 126] (by decide +kernel) (by decide +kernel)
set_option maxRecDepth 20000 in
theorem gX6_readOld_X5_thingAt : GoodIn wsX6_readOld (wsV RX6 93 RX5 yX5_thingAt wsX5_thingAt) := goodIn_app (goodIn_of _ (by decide +kernel)) ggX6_readOld_X5_thingAt
set_option maxRecDepth 20000 in
theorem ggX6_readOld_X6_isPage : GoodIn wsX6_readOld wsX6_isPage := goodIn_r _ [21] (by decide +kernel) (by decide +kernel)
set_option maxRecDepth 20000 in
theorem gX6_readOld_X6_isPage : GoodIn wsX6_readOld (va_wsS RX6 324 yX6_isPage wsX6_isPage) := goodIn_app (goodIn_of _ (by decide +kernel)) ggX6_readOld_X6_isPage
set_option maxRecDepth 20000 in
theorem ggX6_readOld_X6_isPath : GoodIn wsX6_readOld wsX6_isPath := goodIn_r _ [12, 13] (by decide +kernel) (by decide +kernel)
set_option maxRecDepth 20000 in
theorem gX6_readOld_X6_isPath : GoodIn wsX6_readOld (va_wsS RX6 159 yX6_isPath wsX6_isPath) := goodIn_app (goodIn_of _ (by decide +kernel)) ggX6_readOld_X6_isPath
set_option maxRecDepth 20000 in
theorem ggX6_readOld_X6_isSnapshot : GoodIn wsX6_readOld wsX6_isSnapshot := goodIn_r _ [17, 18, 102, 103, 104, 105, 106, 107, 108, 109, 110, 111, 112] (by decide +kernel) (by decide +kernel)
set_option maxRecDepth 20000 in
theorem gX6_readOld_X6_isSnapshot : GoodIn wsX6_readOld (wsV RX6 319 RX6 yX6_isSnapshot wsX6_isSnapshot) := goodIn_app (goodIn_of _ (by decide +kernel)) ggX6_readOld_X6_isSnapshot
set_option maxRecDepth 20000 in
theorem ggX6_readOld_X6_writtenNumber : GoodIn wsX6_readOld wsX6_writtenNumber := goodIn_r _ [78, 79, 80, 81, 82, 40, 83, 84, 85, 86, 87, 66, 67, 68, 88, 89, 90, 91, 92, 93, 94, 95, 96, 97, 98, 99, 100, 101, 102, 103, 104, 105, 106, 107, 108, 109, 110, 111, 112, 115, 116, 117, 118, 119, 120, 121, 122, 123, 124, 125, 126, 127, 128] (by decide +kernel) (by decide +kernel)
set_option maxRecDepth 20000 in
theorem gX6_readOld_X6_writtenNumber : GoodIn wsX6_readOld (wsV RX6 243 RX6 yX6_writtenNumber wsX6_writtenNumber) := goodIn_app (goodIn_of _ (by decide +kernel)) ggX6_readOld_X6_writtenNumber
theorem dX6_readOld_0 : decode cX6_readOld 0 = .ok (.iload_n 2, 1) := by decide +kernel
theorem dX6_readOld_1 : decode cX6_readOld 1 = .ok (.invokestatic 159, 3) := by decide +kernel
theorem dX6_readOld_4 : decode cX6_readOld 4 = .ok (.ifCond .ne 13, 3) := by decide +kernel
theorem dX6_readOld_7 : decode cX6_readOld 7 = .ok (.new 88, 3) := by decide +kernel
theorem dX6_readOld_10 : decode cX6_readOld 10 = .ok (.dup, 1) := by decide +kernel
theorem dX6_readOld_11 : decode cX6_readOld 11 = .ok (.ldc 150, 2) := by decide +kernel
theorem dX6_readOld_13 : decode cX6_readOld 13 = .ok (.invokespecial 92, 3) := by decide +kernel
theorem dX6_readOld_16 : decode cX6_readOld 16 = .ok (.athrow, 1) := by decide +kernel
theorem dX6_readOld_17 : decode cX6_readOld 17 = .ok (.aload_n 0, 1) := by decide +kernel
theorem dX6_readOld_18 : decode cX6_readOld 18 = .ok (.iload_n 1, 1) := by decide +kernel
theorem dX6_readOld_19 : decode cX6_readOld 19 = .ok (.invokevirtual 319, 3) := by decide +kernel
theorem dX6_readOld_22 : decode cX6_readOld 22 = .ok (.ifCond .eq 10, 3) := by decide +kernel
theorem dX6_readOld_25 : decode cX6_readOld 25 = .ok (.iload_n 3, 1) := by decide +kernel
theorem dX6_readOld_26 : decode cX6_readOld 26 = .ok (.invokestatic 324, 3) := by decide +kernel
theorem dX6_readOld_29 : decode cX6_readOld 29 = .ok (.ifCond .ne 14, 3) := by decide +kernel
theorem dX6_readOld_32 : decode cX6_readOld 32 = .ok (.new 74, 3) := by decide +kernel
theorem dX6_readOld_35 : decode cX6_readOld 35 = .ok (.dup, 1) := by decide +kernel
theorem dX6_readOld_36 : decode cX6_readOld 36 = .ok (.ldc_w 327, 3) := by decide +kernel
theorem dX6_readOld_39 : decode cX6_readOld 39 = .ok (.invokespecial 78, 3) := by decide +kernel
theorem dX6_readOld_42 : decode cX6_readOld 42 = .ok (.athrow, 1) := by decide +kernel
theorem dX6_readOld_43 : decode cX6_readOld 43 = .ok (.aload_n 0, 1) := by decide +kernel
theorem dX6_readOld_44 : decode cX6_readOld 44 = .ok (.getfield 19, 3) := by decide +kernel
theorem dX6_readOld_47 : decode cX6_readOld 47 = .ok (.iload_n 1, 1) := by decide +kernel
theorem dX6_readOld_48 : decode cX6_readOld 48 = .ok (.aaload, 1) := by decide +kernel
theorem dX6_readOld_49 : decode cX6_readOld 49 = .ok (.astore 4, 2) := by decide +kernel
theorem dX6_readOld_51 : decode cX6_readOld 51 = .ok (.aload_n 0, 1) := by decide +kernel
theorem dX6_readOld_52 : decode cX6_readOld 52 = .ok (.getfield 30, 3) := by decide +kernel
theorem dX6_readOld_55 : decode cX6_readOld 55 = .ok (.aload 4, 2) := by decide +kernel
theorem dX6_readOld_57 : decode cX6_readOld 57 = .ok (.iload_n 2, 1) := by decide +kernel
theorem dX6_readOld_58 : decode cX6_readOld 58 = .ok (.iconst 1, 1) := by decide +kernel
theorem dX6_readOld_59 : decode cX6_readOld 59 = .ok (.invokevirtual 93, 3) := by decide +kernel
theorem dX6_readOld_62 : decode cX6_readOld 62 = .ok (.istore 5, 2) := by decide +kernel
theorem dX6_readOld_64 : decode cX6_readOld 64 = .ok (.iload 5, 2) := by decide +kernel
theorem dX6_readOld_66 : decode cX6_readOld 66 = .ok (.iconst (-1), 1) := by decide +kernel
theorem dX6_readOld_67 : decode cX6_readOld 67 = .ok (.if_icmp .ne 14, 3) := by decide +kernel
theorem dX6_readOld_70 : decode cX6_readOld 70 = .ok (.new 74, 3) := by decide +kernel
theorem dX6_readOld_73 : decode cX6_readOld 73 = .ok (.dup, 1) := by decide +kernel
theorem dX6_readOld_74 : decode cX6_readOld 74 = .ok (.ldc_w 329, 3) := by decide +kernel
theorem dX6_readOld_77 : decode cX6_readOld 77 = .ok (.invokespecial 78, 3) := by decide +kernel
theorem dX6_readOld_80 : decode cX6_readOld 80 = .ok (.athrow, 1) := by decide +kernel
theorem dX6_readOld_81 : decode cX6_readOld 81 = .ok (.aload 4, 2) := by decide +kernel
theorem dX6_readOld_83 : decode cX6_readOld 83 = .ok (.iload 5, 2) := by decide +kernel
theorem dX6_readOld_85 : decode cX6_readOld 85 = .ok (.iconst 0, 1) := by decide +kernel
theorem dX6_readOld_86 : decode cX6_readOld 86 = .ok (.invokevirtual 103, 3) := by decide +kernel
theorem dX6_readOld_89 : decode cX6_readOld 89 = .ok (.ifCond .ne 14, 3) := by decide +kernel
theorem dX6_readOld_92 : decode cX6_readOld 92 = .ok (.new 110, 3) := by decide +kernel
theorem dX6_readOld_95 : decode cX6_readOld 95 = .ok (.dup, 1) := by decide +kernel
theorem dX6_readOld_96 : decode cX6_readOld 96 = .ok (.ldc_w 331, 3) := by decide +kernel
theorem dX6_readOld_99 : decode cX6_readOld 99 = .ok (.invokespecial 114, 3) := by decide +kernel
theorem dX6_readOld_102 : decode cX6_readOld 102 = .ok (.athrow, 1) := by decide +kernel
theorem dX6_readOld_103 : decode cX6_readOld 103 = .ok (.aload_n 0, 1) := by decide +kernel
theorem dX6_readOld_104 : decode cX6_readOld 104 = .ok (.aload 4, 2) := by decide +kernel
theorem dX6_readOld_106 : decode cX6_readOld 106 = .ok (.iload 5, 2) := by decide +kernel
theorem dX6_readOld_108 : decode cX6_readOld 108 = .ok (.iload_n 3, 1) := by decide +kernel
theorem dX6_readOld_109 : decode cX6_readOld 109 = .ok (.invokevirtual 243, 3) := by decide +kernel
theorem dX6_readOld_112 : decode cX6_readOld 112 = .ok (.ireturn, 1) := by decide +kernel
def f_X6_readOld (U : S2) (p1 : Int32) (p2 : Int32) (p3 : Int32) : Option (Nat × Int32 × S2) := bn (f_X6_isPath p2) (fun z_1 => if z_1 = 0 then some (1, 0, U) else bn (f_X6_isSnapshot U p1) (fun z_3 => jn (some (2, 0, U)) (fun k32_4 => if z_3 = 0 then k32_4 else bn (f_X6_isPage p3) (fun z_6 => if z_6 = 0 then k32_4 else chk (inb p1 3) (if p1 = 0 then bn (f_X5_thingAt (U 6) (U 3) p2 1) (fun z_9 => bv (upc U 6 z_9.2) (fun u_10 => if z_9.1 = (-1) then some (2, 0, u_10) else bn (f_X4_isOfKind (u_10 3) z_9.1 0) (fun z_12 => if z_12 = 0 then some (3, 0, u_10) else bn (f_X6_writtenNumber (u_10 7) (u_10 3) z_9.1 p3) (fun z_14 => some (0, z_14, u_10))))) else if p1 = 1 then bn (f_X5_thingAt (U 6) (U 4) p2 1) (fun z_16 => bv (upc U 6 z_16.2) (fun u_17 => if z_16.1 = (-1) then some (2, 0, u_17) else bn (f_X4_isOfKind (u_17 4) z_16.1 0) (fun z_19 => if z_19 = 0 then some (3, 0, u_17) else bn (f_X6_writtenNumber (u_17 7) (u_17 4) z_16.1 p3) (fun z_21 => some (0, z_21, u_17))))) else if p1 = 2 then bn (f_X5_thingAt (U 6) (U 5) p2 1) (fun z_23 => bv (upc U 6 z_23.2) (fun u_24 => if z_23.1 = (-1) then some (2, 0, u_24) else bn (f_X4_isOfKind (u_24 5) z_23.1 0) (fun z_26 => if z_26 = 0 then some (3, 0, u_24) else bn (f_X6_writtenNumber (u_24 7) (u_24 5) z_23.1 p3) (fun z_28 => some (0, z_28, u_24))))) else none)))))
def rmX6_readOld : Room := { frames := 6, cells := 1, slots := 6, locals := 93 }
set_option maxHeartbeats 4000000 in
set_option maxRecDepth 100000 in
theorem c_X6_readOld (l : Launch) (hst : l.stackTraces = false) (D : va_G) (cI cZ cJ cT : ClassId) (a : Nat → Nat → Nat) (sz : Nat) (U : S2) (p1 : Int32) (p2 : Int32) (p3 : Int32) (o : Nat × Int32 × S2) (hf : f_X6_readOld U p1 p2 p3 = some o) : vx_Met l yX6_readOld wsX6_readOld rmX6_readOld (va_Pc [.ref (a 0 0), .int p1, .int p2, .int p3] (PX D cls (tys cI cZ cJ cT) (wI cI cZ cT a U) sz)) (QXi D cls o.1 o.2.1 (wI cI cZ cT a o.2.2) (va_A (wI cI cZ cT a U) sz)) (XX D cls o.1 (wI cI cZ cT a o.2.2) (va_A (wI cI cZ cT a U) sz)) 1 6 (va_A (wI cI cZ cT a U) sz) := by
  refine vx_ofW (cc := cX6_readOld) (maxL := 6) (ret := (some .int)) (by decide) rfl ?_
  intro p e s m args below meth c s₁ B hml hxt hv
  obtain ⟨hav, ⟨hsz, hP, hK, hD0⟩, hE⟩ := hv
  have hx := B.exec
  have hb := B.bytes
  have hr := B.returns
  have hlocks := B.notSynchronized
  have hts := atoms_spec (ws := wsX6_readOld) B.pre
  have hown : s.vm.findClass RX6 = some m.cls := findClass_of_methodNamed B.named
  have i6 : ∀ w ∈ wsX60, w ∈ wsX6_readOld := fun w h => List.mem_cons_of_mem _ (List.mem_append_left _ (List.mem_append_left _ (List.mem_append_left _ (List.mem_append_left _ (List.mem_append_left _ (List.mem_append_left _ (List.mem_append_right _ h)))))))
  have hk19 := hts (.fieldLink RX6 19 "Inodery" "snapshots" "[LInodery$Tree;") (by decide +kernel)
  have hk30 := hts (.fieldLink RX6 30 "Inodery" "walk" "LInodery$Walk;") (by decide +kernel)
  subst hsz
  have hD := hD0.self (sz := s.heap.size)
  generalize hAe : va_A (wI cI cZ cT a U) s.heap.size = A at hD hE ⊢
  have hA : ∀ q : Nat, s.heap.size ≤ q → A q := fun q h => by rw [← hAe]; exact Or.inr h
  have hS : va_S A s.heap s.heap [] := va_S.rf
  have hDD : ∀ V : S2, va_D A (wI cI cZ cT a V) := fun _ => D_same (w := (wI cI cZ cT a U)) rfl hD
  refine Wq (fun Q hQ => ?_)
  refine W_entry hav (Nat.le_of_ble_eq_true rfl) (fun ls hl => ?_)
  have hl : lv_has ls 6 [(0, .ref (a 0 0)), (1, .int p1), (2, .int p2), (3, .int p3)] := hl
  unfold f_X6_readOld at hf
  refine W_heap hP hS (fun H locs hP hS => ?_)
  refine lv_iload_n hx hb dX6_readOld_0 rfl (lv_at hl 2 rfl) ?_
  obtain ⟨z_1, hz_1, hf⟩ := bn_some hf
  refine c0S (As := [.int p2]) (rest := []) ⟨hx, hb, hml, hown, hts⟩ (c_X6_isPath l D cI cZ cJ cT p2 z_1 hz_1) (va_cwS 1 hts gX6_readOld_X6_isPath rfl rfl rfl (by decide +kernel) ⟨Nat.le_of_ble_eq_true rfl, Nat.le_of_ble_eq_true rfl⟩) rfl rfl hl.1 (Nat.le_of_ble_eq_true rfl) dX6_readOld_1 ⟨Nat.le_of_ble_eq_true rfl, Nat.le_of_ble_eq_true rfl⟩ ?_
  refine lv_if_ne (tgt := 17) hx hb dX6_readOld_4 (by decide) (fun c_2 => ?_) (fun c_2 => ?_)
  · have hf := ite_f hf c_2
    refine lv_aload_n hx hb dX6_readOld_17 rfl (lv_at hl 0 rfl) ?_
    refine lv_iload_n hx hb dX6_readOld_18 rfl (lv_at hl 1 rfl) ?_
    obtain ⟨z_3, hz_3, hf⟩ := bn_some hf
    refine cRV (As := [.int p1]) (rest := []) ⟨hx, hb, hml, hown, hts⟩ (c_X6_isSnapshot l D cI cZ cJ cT a U p1 z_3 hz_3) (cwV 1 hts gX6_readOld_X6_isSnapshot rfl rfl rfl (by decide +kernel) ⟨Nat.le_of_ble_eq_true rfl, Nat.le_of_ble_eq_true rfl⟩) hP hK (va_recv hK (fl_sub hP 0 rfl) (ci := 6) (q0 := 0) rfl rfl) rfl rfl hl.1 (Nat.le_of_ble_eq_true rfl) dX6_readOld_19 ⟨Nat.le_of_ble_eq_true rfl, Nat.le_of_ble_eq_true rfl⟩ ?_
    obtain ⟨k32_4, hk32_4, hf⟩ := jn_some hf
    have j32_4 : ∀ (H : Heap) (locs : List Loc) (ls : Array Slot), k32_4 = some o → va_P D cls (wI cI cZ cT a U) H → va_S A s.heap H locs → lv_has ls 6 [] → W p l e (headSpec wsX6_readOld rmX6_readOld).room s m args below meth c H locs 0 0 Q (F0 m 32 ls []) := by
      intro H locs ls hf hP hS hl
      have hf := qa0 hk32_4 hf
      have eo := Option.some.inj hf
      have hP : va_P D cls (wI cI cZ cT a o.2.2) H := by rw [← eo]; exact hP
      rw [hQ]
      have hk0 : o.1 = 2 := by rw [← eo]
      exact thrW o.1 (text := "no such snapshot or page") (by rw [hk0]; rfl) (by rw [hk0]; decide) hx hb hst hown (by decide +kernel) (hts (.classLink RX6 74 "java/lang/IndexOutOfBoundsException") (by decide +kernel)) (hts (.initialized "java/lang/IndexOutOfBoundsException") (by decide +kernel)) (fun w h => hts w (List.mem_cons_of_mem _ (List.mem_append_left _ (List.mem_append_right _ h)))) (EX_b2 hE) ok2 (by decide +kernel) hE hS hP (hl.1.trans hml.symm) dX6_readOld_32 dX6_readOld_35 dX6_readOld_36 dX6_readOld_39 dX6_readOld_42 hxt (Nat.le_of_ble_eq_true rfl) (Nat.le_of_ble_eq_true rfl) (Nat.le_of_ble_eq_true rfl) (Nat.le_of_ble_eq_true rfl) hlocks (Nat.le_of_ble_eq_true rfl) (Nat.le_of_ble_eq_true rfl)
    refine lv_if_eq (tgt := 32) hx hb dX6_readOld_22 (by decide) (fun c_5 => ?_) (fun c_5 => ?_)
    · have hf := ite_t hf c_5
      refine W.widen (k := 0) (n := 0) (Nat.le_of_ble_eq_true rfl) (Nat.le_of_ble_eq_true rfl) ?_
      exact j32_4 _ _ _ hf hP hS (lv_sub hl [] rfl)
    · have hf := ite_f hf c_5
      refine lv_iload_n hx hb dX6_readOld_25 rfl (lv_at hl 3 rfl) ?_
      obtain ⟨z_6, hz_6, hf⟩ := bn_some hf
      refine c0S (As := [.int p3]) (rest := []) ⟨hx, hb, hml, hown, hts⟩ (c_X6_isPage l D cI cZ cJ cT p3 z_6 hz_6) (va_cwS 1 hts gX6_readOld_X6_isPage rfl rfl rfl (by decide +kernel) ⟨Nat.le_of_ble_eq_true rfl, Nat.le_of_ble_eq_true rfl⟩) rfl rfl hl.1 (Nat.le_of_ble_eq_true rfl) dX6_readOld_26 ⟨Nat.le_of_ble_eq_true rfl, Nat.le_of_ble_eq_true rfl⟩ ?_
      refine lv_if_ne (tgt := 43) hx hb dX6_readOld_29 (by decide) (fun c_7 => ?_) (fun c_7 => ?_)
      · have hf := ite_f hf c_7
        refine lv_aload_n hx hb dX6_readOld_43 rfl (lv_at hl 0 rfl) ?_
        refine va_get (D := D) (ci := 6) (v := .ref (a 0 1)) (C := RX6) (T := TX6) (N := 11) hx hb hts i6 hown hK (fl_sub hP 0 rfl) 0 rfl rfl 2 (by decide) hk19 (fun _ h9 => h9) rfl dX6_readOld_44 ?_
        refine lv_iload_n hx hb dX6_readOld_47 rfl (lv_at hl 1 rfl) ?_
        obtain ⟨hi, hf⟩ := chk_some hf
        refine va_aldq hx hb hK (fl_sub hP 0 rfl) 1 3 rfl rfl (inb_in hi) dX6_readOld_48 ?_
        by_cases e_8 : p1 = 0
        · have hf := ite_t hf e_8
          refine W_top (v2 := .ref (a 3 0)) (by rw [e_8]; rfl) ?_
          refine lv_astore (lv' := [(4, .ref (a 3 0)), (0, .ref (a 0 0)), (1, .int p1), (2, .int p2), (3, .int p3)]) hx hb dX6_readOld_49 hl (by decide) rfl (fun ls hl => ?_)
          refine lv_aload_n hx hb dX6_readOld_51 rfl (lv_at hl 1 rfl) ?_
          refine va_get (D := D) (ci := 6) (v := .ref (a 6 0)) (C := RX6) (T := TX6) (N := 11) hx hb hts i6 hown hK (fl_sub hP 0 rfl) 0 rfl rfl 4 (by decide) hk30 (fun _ h9 => h9) rfl dX6_readOld_52 ?_
          refine lv_aload hx hb dX6_readOld_55 (lv_at hl 0 rfl) ?_
          refine lv_iload_n hx hb dX6_readOld_57 rfl (lv_at hl 3 rfl) ?_
          refine lv_iconst (v := 1) hx hb dX6_readOld_58 (by decide) ?_
          obtain ⟨z_9, hz_9, hf⟩ := bn_some hf
          refine cWVi (As := [.ref (a 3 0), .int p2, .int 1]) (rest := []) ⟨hx, hb, hml, hown, hts⟩ (c_X5_thingAt l D cI cZ cJ cT (a 6) (a 3) H.size (U 6) (U 3) p2 1 z_9 hz_9) (cwV 3 hts gX6_readOld_X5_thingAt rfl rfl rfl (by decide +kernel) ⟨Nat.le_of_ble_eq_true rfl, Nat.le_of_ble_eq_true rfl⟩) (fl_subM hP [6, 3] rfl) hK (fl_subDM (hDD U) [6, 3] rfl rfl) hS (own_free (fl_subDM (hDD U) [6, 3] rfl rfl) hS hA) (va_recv hK (fl_sub hP 6 rfl) (ci := 5) (q0 := 0) rfl rfl) rfl rfl hl.1 (Nat.le_of_ble_eq_true rfl) dX6_readOld_59 ⟨Nat.le_of_ble_eq_true rfl, Nat.le_of_ble_eq_true rfl⟩ (fun H1 locs hP1 hk1 hS => ?_)
          obtain ⟨u_10, hu_10, hf⟩ := bv_some hf
          have hP : va_P D cls (wI cI cZ cT a u_10) H1 := by rw [hu_10]; exact fl_joinM hP (hDD U) [6, 3] rfl rfl hk1 hP1
          clear hP1 hk1
          generalize H1 = H at hP hS ⊢
          refine lv_istore (lv' := [(5, .int z_9.1), (4, .ref (a 3 0)), (0, .ref (a 0 0)), (1, .int p1), (2, .int p2), (3, .int p3)]) hx hb dX6_readOld_62 hl (by decide) rfl (fun ls hl => ?_)
          refine lv_iload hx hb dX6_readOld_64 (lv_at hl 0 rfl) ?_
          refine lv_iconst (v := (-1)) hx hb dX6_readOld_66 (by decide) ?_
          refine lv_icmp_ne (tgt := 81) hx hb dX6_readOld_67 (by decide) (fun c_11 => ?_) (fun c_11 => ?_)
          · have hf := ite_f hf c_11
            refine lv_aload hx hb dX6_readOld_81 (lv_at hl 1 rfl) ?_
            refine lv_iload hx hb dX6_readOld_83 (lv_at hl 0 rfl) ?_
            refine lv_iconst (v := 0) hx hb dX6_readOld_85 (by decide) ?_
            obtain ⟨z_12, hz_12, hf⟩ := bn_some hf
            refine cRV (As := [.int z_9.1, .int 0]) (rest := []) ⟨hx, hb, hml, hown, hts⟩ (c_X4_isOfKind l D cI cZ cJ cT (a 3) (u_10 3) z_9.1 0 z_12 hz_12) (cwV 2 hts gX6_readOld_X4_isOfKind rfl rfl rfl (by decide +kernel) ⟨Nat.le_of_ble_eq_true rfl, Nat.le_of_ble_eq_true rfl⟩) (fl_sub hP 3 rfl) hK (va_recv hK (fl_sub hP 3 rfl) (ci := 4) (q0 := 0) rfl rfl) rfl rfl hl.1 (Nat.le_of_ble_eq_true rfl) dX6_readOld_86 ⟨Nat.le_of_ble_eq_true rfl, Nat.le_of_ble_eq_true rfl⟩ ?_
            refine lv_if_ne (tgt := 103) hx hb dX6_readOld_89 (by decide) (fun c_13 => ?_) (fun c_13 => ?_)
            · have hf := ite_f hf c_13
              refine lv_aload_n hx hb dX6_readOld_103 rfl (lv_at hl 2 rfl) ?_
              refine lv_aload hx hb dX6_readOld_104 (lv_at hl 1 rfl) ?_
              refine lv_iload hx hb dX6_readOld_106 (lv_at hl 0 rfl) ?_
              refine lv_iload_n hx hb dX6_readOld_108 rfl (lv_at hl 5 rfl) ?_
              obtain ⟨z_14, hz_14, hf⟩ := bn_some hf
              refine cRV (As := [.ref (a 3 0), .int z_9.1, .int p3]) (rest := []) ⟨hx, hb, hml, hown, hts⟩ (c_X6_writtenNumber l D cI cZ cJ cT a (a 3) (u_10 0) (u_10 7) (u_10 3) z_9.1 p3 z_14 hz_14) (cwV 3 hts gX6_readOld_X6_writtenNumber rfl rfl rfl (by decide +kernel) ⟨Nat.le_of_ble_eq_true rfl, Nat.le_of_ble_eq_true rfl⟩) (fl_subM hP [0, 7, 3] rfl) hK (va_recv hK (fl_sub hP 0 rfl) (ci := 6) (q0 := 0) rfl rfl) rfl rfl hl.1 (Nat.le_of_ble_eq_true rfl) dX6_readOld_109 ⟨Nat.le_of_ble_eq_true rfl, Nat.le_of_ble_eq_true rfl⟩ ?_
              have eo := Option.some.inj hf
              have hP : va_P D cls (wI cI cZ cT a o.2.2) H := by rw [← eo]; exact hP
              rw [hQ]
              refine W.widen (k := 1) (n := 6) (Nat.le_of_ble_eq_true rfl) (Nat.le_of_ble_eq_true rfl) ?_
              exact vx_ret (W.iret hx hb hr (fun t ht hW => ⟨⟨_, (), rfl, ⟨(by rw [← eo]), (by rw [← eo])⟩, P_at ht hP⟩, hS.F ht⟩) hS.2.2 dX6_readOld_112 hlocks)
            · have hf := ite_t hf c_13
              have eo := Option.some.inj hf
              have hP : va_P D cls (wI cI cZ cT a o.2.2) H := by rw [← eo]; exact hP
              rw [hQ]
              have hk0 : o.1 = 3 := by rw [← eo]
              exact thrW o.1 (text := "no file in the snapshot") (by rw [hk0]; rfl) (by rw [hk0]; decide) hx hb hst hown (by decide +kernel) (hts (.classLink RX6 110 "java/lang/IllegalStateException") (by decide +kernel)) (hts (.initialized "java/lang/IllegalStateException") (by decide +kernel)) (fun w h => hts w (List.mem_cons_of_mem _ (List.mem_append_right _ h))) (EX_b3 hE) ok3 (by decide +kernel) hE hS hP (hl.1.trans hml.symm) dX6_readOld_92 dX6_readOld_95 dX6_readOld_96 dX6_readOld_99 dX6_readOld_102 hxt (Nat.le_of_ble_eq_true rfl) (Nat.le_of_ble_eq_true rfl) (Nat.le_of_ble_eq_true rfl) (Nat.le_of_ble_eq_true rfl) hlocks (Nat.le_of_ble_eq_true rfl) (Nat.le_of_ble_eq_true rfl)
          · have hf := ite_t hf c_11
            have eo := Option.some.inj hf
            have hP : va_P D cls (wI cI cZ cT a o.2.2) H := by rw [← eo]; exact hP
            rw [hQ]
            have hk0 : o.1 = 2 := by rw [← eo]
            exact thrW o.1 (text := "no such thing in the snapshot") (by rw [hk0]; rfl) (by rw [hk0]; decide) hx hb hst hown (by decide +kernel) (hts (.classLink RX6 74 "java/lang/IndexOutOfBoundsException") (by decide +kernel)) (hts (.initialized "java/lang/IndexOutOfBoundsException") (by decide +kernel)) (fun w h => hts w (List.mem_cons_of_mem _ (List.mem_append_left _ (List.mem_append_right _ h)))) (EX_b2 hE) ok2 (by decide +kernel) hE hS hP (hl.1.trans hml.symm) dX6_readOld_70 dX6_readOld_73 dX6_readOld_74 dX6_readOld_77 dX6_readOld_80 hxt (Nat.le_of_ble_eq_true rfl) (Nat.le_of_ble_eq_true rfl) (Nat.le_of_ble_eq_true rfl) (Nat.le_of_ble_eq_true rfl) hlocks (Nat.le_of_ble_eq_true rfl) (Nat.le_of_ble_eq_true rfl)
        have hf := ite_f hf e_8
        by_cases e_15 : p1 = 1
        · have hf := ite_t hf e_15
          refine W_top (v2 := .ref (a 4 0)) (by rw [e_15]; rfl) ?_
          refine lv_astore (lv' := [(4, .ref (a 4 0)), (0, .ref (a 0 0)), (1, .int p1), (2, .int p2), (3, .int p3)]) hx hb dX6_readOld_49 hl (by decide) rfl (fun ls hl => ?_)
          refine lv_aload_n hx hb dX6_readOld_51 rfl (lv_at hl 1 rfl) ?_
          refine va_get (D := D) (ci := 6) (v := .ref (a 6 0)) (C := RX6) (T := TX6) (N := 11) hx hb hts i6 hown hK (fl_sub hP 0 rfl) 0 rfl rfl 4 (by decide) hk30 (fun _ h9 => h9) rfl dX6_readOld_52 ?_
          refine lv_aload hx hb dX6_readOld_55 (lv_at hl 0 rfl) ?_
          refine lv_iload_n hx hb dX6_readOld_57 rfl (lv_at hl 3 rfl) ?_
          refine lv_iconst (v := 1) hx hb dX6_readOld_58 (by decide) ?_
          obtain ⟨z_16, hz_16, hf⟩ := bn_some hf
          refine cWVi (As := [.ref (a 4 0), .int p2, .int 1]) (rest := []) ⟨hx, hb, hml, hown, hts⟩ (c_X5_thingAt l D cI cZ cJ cT (a 6) (a 4) H.size (U 6) (U 4) p2 1 z_16 hz_16) (cwV 3 hts gX6_readOld_X5_thingAt rfl rfl rfl (by decide +kernel) ⟨Nat.le_of_ble_eq_true rfl, Nat.le_of_ble_eq_true rfl⟩) (fl_subM hP [6, 4] rfl) hK (fl_subDM (hDD U) [6, 4] rfl rfl) hS (own_free (fl_subDM (hDD U) [6, 4] rfl rfl) hS hA) (va_recv hK (fl_sub hP 6 rfl) (ci := 5) (q0 := 0) rfl rfl) rfl rfl hl.1 (Nat.le_of_ble_eq_true rfl) dX6_readOld_59 ⟨Nat.le_of_ble_eq_true rfl, Nat.le_of_ble_eq_true rfl⟩ (fun H1 locs hP1 hk1 hS => ?_)
          obtain ⟨u_17, hu_17, hf⟩ := bv_some hf
          have hP : va_P D cls (wI cI cZ cT a u_17) H1 := by rw [hu_17]; exact fl_joinM hP (hDD U) [6, 4] rfl rfl hk1 hP1
          clear hP1 hk1
          generalize H1 = H at hP hS ⊢
          refine lv_istore (lv' := [(5, .int z_16.1), (4, .ref (a 4 0)), (0, .ref (a 0 0)), (1, .int p1), (2, .int p2), (3, .int p3)]) hx hb dX6_readOld_62 hl (by decide) rfl (fun ls hl => ?_)
          refine lv_iload hx hb dX6_readOld_64 (lv_at hl 0 rfl) ?_
          refine lv_iconst (v := (-1)) hx hb dX6_readOld_66 (by decide) ?_
          refine lv_icmp_ne (tgt := 81) hx hb dX6_readOld_67 (by decide) (fun c_18 => ?_) (fun c_18 => ?_)
          · have hf := ite_f hf c_18
            refine lv_aload hx hb dX6_readOld_81 (lv_at hl 1 rfl) ?_
            refine lv_iload hx hb dX6_readOld_83 (lv_at hl 0 rfl) ?_
            refine lv_iconst (v := 0) hx hb dX6_readOld_85 (by decide) ?_
            obtain ⟨z_19, hz_19, hf⟩ := bn_some hf
            refine cRV (As := [.int z_16.1, .int 0]) (rest := []) ⟨hx, hb, hml, hown, hts⟩ (c_X4_isOfKind l D cI cZ cJ cT (a 4) (u_17 4) z_16.1 0 z_19 hz_19) (cwV 2 hts gX6_readOld_X4_isOfKind rfl rfl rfl (by decide +kernel) ⟨Nat.le_of_ble_eq_true rfl, Nat.le_of_ble_eq_true rfl⟩) (fl_sub hP 4 rfl) hK (va_recv hK (fl_sub hP 4 rfl) (ci := 4) (q0 := 0) rfl rfl) rfl rfl hl.1 (Nat.le_of_ble_eq_true rfl) dX6_readOld_86 ⟨Nat.le_of_ble_eq_true rfl, Nat.le_of_ble_eq_true rfl⟩ ?_
            refine lv_if_ne (tgt := 103) hx hb dX6_readOld_89 (by decide) (fun c_20 => ?_) (fun c_20 => ?_)
            · have hf := ite_f hf c_20
              refine lv_aload_n hx hb dX6_readOld_103 rfl (lv_at hl 2 rfl) ?_
              refine lv_aload hx hb dX6_readOld_104 (lv_at hl 1 rfl) ?_
              refine lv_iload hx hb dX6_readOld_106 (lv_at hl 0 rfl) ?_
              refine lv_iload_n hx hb dX6_readOld_108 rfl (lv_at hl 5 rfl) ?_
              obtain ⟨z_21, hz_21, hf⟩ := bn_some hf
              refine cRV (As := [.ref (a 4 0), .int z_16.1, .int p3]) (rest := []) ⟨hx, hb, hml, hown, hts⟩ (c_X6_writtenNumber l D cI cZ cJ cT a (a 4) (u_17 0) (u_17 7) (u_17 4) z_16.1 p3 z_21 hz_21) (cwV 3 hts gX6_readOld_X6_writtenNumber rfl rfl rfl (by decide +kernel) ⟨Nat.le_of_ble_eq_true rfl, Nat.le_of_ble_eq_true rfl⟩) (fl_subM hP [0, 7, 4] rfl) hK (va_recv hK (fl_sub hP 0 rfl) (ci := 6) (q0 := 0) rfl rfl) rfl rfl hl.1 (Nat.le_of_ble_eq_true rfl) dX6_readOld_109 ⟨Nat.le_of_ble_eq_true rfl, Nat.le_of_ble_eq_true rfl⟩ ?_
              have eo := Option.some.inj hf
              have hP : va_P D cls (wI cI cZ cT a o.2.2) H := by rw [← eo]; exact hP
              rw [hQ]
              refine W.widen (k := 1) (n := 6) (Nat.le_of_ble_eq_true rfl) (Nat.le_of_ble_eq_true rfl) ?_
              exact vx_ret (W.iret hx hb hr (fun t ht hW => ⟨⟨_, (), rfl, ⟨(by rw [← eo]), (by rw [← eo])⟩, P_at ht hP⟩, hS.F ht⟩) hS.2.2 dX6_readOld_112 hlocks)
            · have hf := ite_t hf c_20
              have eo := Option.some.inj hf
              have hP : va_P D cls (wI cI cZ cT a o.2.2) H := by rw [← eo]; exact hP
              rw [hQ]
              have hk0 : o.1 = 3 := by rw [← eo]
              exact thrW o.1 (text := "no file in the snapshot") (by rw [hk0]; rfl) (by rw [hk0]; decide) hx hb hst hown (by decide +kernel) (hts (.classLink RX6 110 "java/lang/IllegalStateException") (by decide +kernel)) (hts (.initialized "java/lang/IllegalStateException") (by decide +kernel)) (fun w h => hts w (List.mem_cons_of_mem _ (List.mem_append_right _ h))) (EX_b3 hE) ok3 (by decide +kernel) hE hS hP (hl.1.trans hml.symm) dX6_readOld_92 dX6_readOld_95 dX6_readOld_96 dX6_readOld_99 dX6_readOld_102 hxt (Nat.le_of_ble_eq_true rfl) (Nat.le_of_ble_eq_true rfl) (Nat.le_of_ble_eq_true rfl) (Nat.le_of_ble_eq_true rfl) hlocks (Nat.le_of_ble_eq_true rfl) (Nat.le_of_ble_eq_true rfl)
          · have hf := ite_t hf c_18
            have eo := Option.some.inj hf
            have hP : va_P D cls (wI cI cZ cT a o.2.2) H := by rw [← eo]; exact hP
            rw [hQ]
            have hk0 : o.1 = 2 := by rw [← eo]
            exact thrW o.1 (text := "no such thing in the snapshot") (by rw [hk0]; rfl) (by rw [hk0]; decide) hx hb hst hown (by decide +kernel) (hts (.classLink RX6 74 "java/lang/IndexOutOfBoundsException") (by decide +kernel)) (hts (.initialized "java/lang/IndexOutOfBoundsException") (by decide +kernel)) (fun w h => hts w (List.mem_cons_of_mem _ (List.mem_append_left _ (List.mem_append_right _ h)))) (EX_b2 hE) ok2 (by decide +kernel) hE hS hP (hl.1.trans hml.symm) dX6_readOld_70 dX6_readOld_73 dX6_readOld_74 dX6_readOld_77 dX6_readOld_80 hxt (Nat.le_of_ble_eq_true rfl) (Nat.le_of_ble_eq_true rfl) (Nat.le_of_ble_eq_true rfl) (Nat.le_of_ble_eq_true rfl) hlocks (Nat.le_of_ble_eq_true rfl) (Nat.le_of_ble_eq_true rfl)
        have hf := ite_f hf e_15
        by_cases e_22 : p1 = 2
        · have hf := ite_t hf e_22
          refine W_top (v2 := .ref (a 5 0)) (by rw [e_22]; rfl) ?_
          refine lv_astore (lv' := [(4, .ref (a 5 0)), (0, .ref (a 0 0)), (1, .int p1), (2, .int p2), (3, .int p3)]) hx hb dX6_readOld_49 hl (by decide) rfl (fun ls hl => ?_)
          refine lv_aload_n hx hb dX6_readOld_51 rfl (lv_at hl 1 rfl) ?_
          refine va_get (D := D) (ci := 6) (v := .ref (a 6 0)) (C := RX6) (T := TX6) (N := 11) hx hb hts i6 hown hK (fl_sub hP 0 rfl) 0 rfl rfl 4 (by decide) hk30 (fun _ h9 => h9) rfl dX6_readOld_52 ?_
          refine lv_aload hx hb dX6_readOld_55 (lv_at hl 0 rfl) ?_
          refine lv_iload_n hx hb dX6_readOld_57 rfl (lv_at hl 3 rfl) ?_
          refine lv_iconst (v := 1) hx hb dX6_readOld_58 (by decide) ?_
          obtain ⟨z_23, hz_23, hf⟩ := bn_some hf
          refine cWVi (As := [.ref (a 5 0), .int p2, .int 1]) (rest := []) ⟨hx, hb, hml, hown, hts⟩ (c_X5_thingAt l D cI cZ cJ cT (a 6) (a 5) H.size (U 6) (U 5) p2 1 z_23 hz_23) (cwV 3 hts gX6_readOld_X5_thingAt rfl rfl rfl (by decide +kernel) ⟨Nat.le_of_ble_eq_true rfl, Nat.le_of_ble_eq_true rfl⟩) (fl_subM hP [6, 5] rfl) hK (fl_subDM (hDD U) [6, 5] rfl rfl) hS (own_free (fl_subDM (hDD U) [6, 5] rfl rfl) hS hA) (va_recv hK (fl_sub hP 6 rfl) (ci := 5) (q0 := 0) rfl rfl) rfl rfl hl.1 (Nat.le_of_ble_eq_true rfl) dX6_readOld_59 ⟨Nat.le_of_ble_eq_true rfl, Nat.le_of_ble_eq_true rfl⟩ (fun H1 locs hP1 hk1 hS => ?_)
          obtain ⟨u_24, hu_24, hf⟩ := bv_some hf
          have hP : va_P D cls (wI cI cZ cT a u_24) H1 := by rw [hu_24]; exact fl_joinM hP (hDD U) [6, 5] rfl rfl hk1 hP1
          clear hP1 hk1
          generalize H1 = H at hP hS ⊢
          refine lv_istore (lv' := [(5, .int z_23.1), (4, .ref (a 5 0)), (0, .ref (a 0 0)), (1, .int p1), (2, .int p2), (3, .int p3)]) hx hb dX6_readOld_62 hl (by decide) rfl (fun ls hl => ?_)
          refine lv_iload hx hb dX6_readOld_64 (lv_at hl 0 rfl) ?_
          refine lv_iconst (v := (-1)) hx hb dX6_readOld_66 (by decide) ?_
          refine lv_icmp_ne (tgt := 81) hx hb dX6_readOld_67 (by decide) (fun c_25 => ?_) (fun c_25 => ?_)
          · have hf := ite_f hf c_25
            refine lv_aload hx hb dX6_readOld_81 (lv_at hl 1 rfl) ?_
            refine lv_iload hx hb dX6_readOld_83 (lv_at hl 0 rfl) ?_
            refine lv_iconst (v := 0) hx hb dX6_readOld_85 (by decide) ?_
            obtain ⟨z_26, hz_26, hf⟩ := bn_some hf
            refine cRV (As := [.int z_23.1, .int 0]) (rest := []) ⟨hx, hb, hml, hown, hts⟩ (c_X4_isOfKind l D cI cZ cJ cT (a 5) (u_24 5) z_23.1 0 z_26 hz_26) (cwV 2 hts gX6_readOld_X4_isOfKind rfl rfl rfl (by decide +kernel) ⟨Nat.le_of_ble_eq_true rfl, Nat.le_of_ble_eq_true rfl⟩) (fl_sub hP 5 rfl) hK (va_recv hK (fl_sub hP 5 rfl) (ci := 4) (q0 := 0) rfl rfl) rfl rfl hl.1 (Nat.le_of_ble_eq_true rfl) dX6_readOld_86 ⟨Nat.le_of_ble_eq_true rfl, Nat.le_of_ble_eq_true rfl⟩ ?_
            refine lv_if_ne (tgt := 103) hx hb dX6_readOld_89 (by decide) (fun c_27 => ?_) (fun c_27 => ?_)
            · have hf := ite_f hf c_27
              refine lv_aload_n hx hb dX6_readOld_103 rfl (lv_at hl 2 rfl) ?_
              refine lv_aload hx hb dX6_readOld_104 (lv_at hl 1 rfl) ?_
              refine lv_iload hx hb dX6_readOld_106 (lv_at hl 0 rfl) ?_
              refine lv_iload_n hx hb dX6_readOld_108 rfl (lv_at hl 5 rfl) ?_
              obtain ⟨z_28, hz_28, hf⟩ := bn_some hf
              refine cRV (As := [.ref (a 5 0), .int z_23.1, .int p3]) (rest := []) ⟨hx, hb, hml, hown, hts⟩ (c_X6_writtenNumber l D cI cZ cJ cT a (a 5) (u_24 0) (u_24 7) (u_24 5) z_23.1 p3 z_28 hz_28) (cwV 3 hts gX6_readOld_X6_writtenNumber rfl rfl rfl (by decide +kernel) ⟨Nat.le_of_ble_eq_true rfl, Nat.le_of_ble_eq_true rfl⟩) (fl_subM hP [0, 7, 5] rfl) hK (va_recv hK (fl_sub hP 0 rfl) (ci := 6) (q0 := 0) rfl rfl) rfl rfl hl.1 (Nat.le_of_ble_eq_true rfl) dX6_readOld_109 ⟨Nat.le_of_ble_eq_true rfl, Nat.le_of_ble_eq_true rfl⟩ ?_
              have eo := Option.some.inj hf
              have hP : va_P D cls (wI cI cZ cT a o.2.2) H := by rw [← eo]; exact hP
              rw [hQ]
              refine W.widen (k := 1) (n := 6) (Nat.le_of_ble_eq_true rfl) (Nat.le_of_ble_eq_true rfl) ?_
              exact vx_ret (W.iret hx hb hr (fun t ht hW => ⟨⟨_, (), rfl, ⟨(by rw [← eo]), (by rw [← eo])⟩, P_at ht hP⟩, hS.F ht⟩) hS.2.2 dX6_readOld_112 hlocks)
            · have hf := ite_t hf c_27
              have eo := Option.some.inj hf
              have hP : va_P D cls (wI cI cZ cT a o.2.2) H := by rw [← eo]; exact hP
              rw [hQ]
              have hk0 : o.1 = 3 := by rw [← eo]
              exact thrW o.1 (text := "no file in the snapshot") (by rw [hk0]; rfl) (by rw [hk0]; decide) hx hb hst hown (by decide +kernel) (hts (.classLink RX6 110 "java/lang/IllegalStateException") (by decide +kernel)) (hts (.initialized "java/lang/IllegalStateException") (by decide +kernel)) (fun w h => hts w (List.mem_cons_of_mem _ (List.mem_append_right _ h))) (EX_b3 hE) ok3 (by decide +kernel) hE hS hP (hl.1.trans hml.symm) dX6_readOld_92 dX6_readOld_95 dX6_readOld_96 dX6_readOld_99 dX6_readOld_102 hxt (Nat.le_of_ble_eq_true rfl) (Nat.le_of_ble_eq_true rfl) (Nat.le_of_ble_eq_true rfl) (Nat.le_of_ble_eq_true rfl) hlocks (Nat.le_of_ble_eq_true rfl) (Nat.le_of_ble_eq_true rfl)
          · have hf := ite_t hf c_25
            have eo := Option.some.inj hf
            have hP : va_P D cls (wI cI cZ cT a o.2.2) H := by rw [← eo]; exact hP
            rw [hQ]
            have hk0 : o.1 = 2 := by rw [← eo]
            exact thrW o.1 (text := "no such thing in the snapshot") (by rw [hk0]; rfl) (by rw [hk0]; decide) hx hb hst hown (by decide +kernel) (hts (.classLink RX6 74 "java/lang/IndexOutOfBoundsException") (by decide +kernel)) (hts (.initialized "java/lang/IndexOutOfBoundsException") (by decide +kernel)) (fun w h => hts w (List.mem_cons_of_mem _ (List.mem_append_left _ (List.mem_append_right _ h)))) (EX_b2 hE) ok2 (by decide +kernel) hE hS hP (hl.1.trans hml.symm) dX6_readOld_70 dX6_readOld_73 dX6_readOld_74 dX6_readOld_77 dX6_readOld_80 hxt (Nat.le_of_ble_eq_true rfl) (Nat.le_of_ble_eq_true rfl) (Nat.le_of_ble_eq_true rfl) (Nat.le_of_ble_eq_true rfl) hlocks (Nat.le_of_ble_eq_true rfl) (Nat.le_of_ble_eq_true rfl)
        have hf := ite_f hf e_22
        exact nomatch hf
      · have hf := ite_t hf c_7
        refine W.widen (k := 0) (n := 0) (Nat.le_of_ble_eq_true rfl) (Nat.le_of_ble_eq_true rfl) ?_
        exact j32_4 _ _ _ hf hP hS (lv_sub hl [] rfl)
  · have hf := ite_t hf c_2
    have eo := Option.some.inj hf
    have hP : va_P D cls (wI cI cZ cT a o.2.2) H := by rw [← eo]; exact hP
    rw [hQ]
    have hk0 : o.1 = 1 := by rw [← eo]
    exact thr o.1 (text := "path is out of range") (by rw [hk0]; rfl) (by rw [hk0]; decide) hx hb hst hown (by decide +kernel) (hts (.classLink RX6 88 "java/lang/IllegalArgumentException") (by decide +kernel)) (hts (.initialized "java/lang/IllegalArgumentException") (by decide +kernel)) (fun w h => hts w (List.mem_cons_of_mem _ (List.mem_append_left _ (List.mem_append_left _ (List.mem_append_right _ h))))) (EX_b1 hE) ok1 (by decide +kernel) hE hS hP (hl.1.trans hml.symm) dX6_readOld_7 dX6_readOld_10 dX6_readOld_11 dX6_readOld_13 dX6_readOld_16 hxt (Nat.le_of_ble_eq_true rfl) (Nat.le_of_ble_eq_true rfl) (Nat.le_of_ble_eq_true rfl) (Nat.le_of_ble_eq_true rfl) hlocks (Nat.le_of_ble_eq_true rfl) (Nat.le_of_ble_eq_true rfl)
set_option maxRecDepth 20000 in
theorem ggX6_quota_X6_isUser : GoodIn wsX6_quota wsX6_isUser := goodIn_r _ [9] (by decide +kernel) (by decide +kernel)
set_option maxRecDepth 20000 in
theorem gX6_quota_X6_isUser : GoodIn wsX6_quota (va_wsS RX6 70 yX6_isUser wsX6_isUser) := goodIn_app (goodIn_of _ (by decide +kernel)) ggX6_quota_X6_isUser
theorem dX6_quota_0 : decode cX6_quota 0 = .ok (.iload_n 1, 1) := by decide +kernel
theorem dX6_quota_1 : decode cX6_quota 1 = .ok (.invokestatic 70, 3) := by decide +kernel
theorem dX6_quota_4 : decode cX6_quota 4 = .ok (.ifCond .ne 13, 3) := by decide +kernel
theorem dX6_quota_7 : decode cX6_quota 7 = .ok (.new 74, 3) := by decide +kernel
theorem dX6_quota_10 : decode cX6_quota 10 = .ok (.dup, 1) := by decide +kernel
theorem dX6_quota_11 : decode cX6_quota 11 = .ok (.ldc 76, 2) := by decide +kernel
theorem dX6_quota_13 : decode cX6_quota 13 = .ok (.invokespecial 78, 3) := by decide +kernel
theorem dX6_quota_16 : decode cX6_quota 16 = .ok (.athrow, 1) := by decide +kernel
theorem dX6_quota_17 : decode cX6_quota 17 = .ok (.iload_n 2, 1) := by decide +kernel
theorem dX6_quota_18 : decode cX6_quota 18 = .ok (.ifCond .lt 9, 3) := by decide +kernel
theorem dX6_quota_21 : decode cX6_quota 21 = .ok (.iload_n 2, 1) := by decide +kernel
theorem dX6_quota_22 : decode cX6_quota 22 = .ok (.bipush 64, 2) := by decide +kernel
theorem dX6_quota_24 : decode cX6_quota 24 = .ok (.if_icmp .le 14, 3) := by decide +kernel
theorem dX6_quota_27 : decode cX6_quota 27 = .ok (.new 88, 3) := by decide +kernel
theorem dX6_quota_30 : decode cX6_quota 30 = .ok (.dup, 1) := by decide +kernel
theorem dX6_quota_31 : decode cX6_quota 31 = .ok (.ldc_w 333, 3) := by decide +kernel
theorem dX6_quota_34 : decode cX6_quota 34 = .ok (.invokespecial 92, 3) := by decide +kernel
theorem dX6_quota_37 : decode cX6_quota 37 = .ok (.athrow, 1) := by decide +kernel
theorem dX6_quota_38 : decode cX6_quota 38 = .ok (.aload_n 0, 1) := by decide +kernel
theorem dX6_quota_39 : decode cX6_quota 39 = .ok (.getfield 62, 3) := by decide +kernel
theorem dX6_quota_42 : decode cX6_quota 42 = .ok (.iload_n 1, 1) := by decide +kernel
theorem dX6_quota_43 : decode cX6_quota 43 = .ok (.iaload, 1) := by decide +kernel
theorem dX6_quota_44 : decode cX6_quota 44 = .ok (.istore_n 3, 1) := by decide +kernel
theorem dX6_quota_45 : decode cX6_quota 45 = .ok (.aload_n 0, 1) := by decide +kernel
theorem dX6_quota_46 : decode cX6_quota 46 = .ok (.getfield 62, 3) := by decide +kernel
theorem dX6_quota_49 : decode cX6_quota 49 = .ok (.iload_n 1, 1) := by decide +kernel
theorem dX6_quota_50 : decode cX6_quota 50 = .ok (.iload_n 2, 1) := by decide +kernel
theorem dX6_quota_51 : decode cX6_quota 51 = .ok (.iastore, 1) := by decide +kernel
theorem dX6_quota_52 : decode cX6_quota 52 = .ok (.iload_n 3, 1) := by decide +kernel
theorem dX6_quota_53 : decode cX6_quota 53 = .ok (.ireturn, 1) := by decide +kernel
def f_X6_quota (U : S2) (p1 : Int32) (p2 : Int32) : Option (Nat × Int32 × S2) := bn (f_X6_isUser p1) (fun z_1 => if z_1 = 0 then some (2, 0, U) else jn (some (1, 0, U)) (fun k27_3 => if p2 < 0 then k27_3 else if p2 ≤ 64 then chk (inb p1 4) (chk (inb p1 4) (bv (upc U 0 (st (U 0) 9 p1 p2)) (fun u_6 => some (0, (U 0 9 (p1).toNatClampNeg), u_6)))) else k27_3))
def rmX6_quota : Room := { frames := 6, cells := 1, slots := 6, locals := 90 }
set_option maxHeartbeats 4000000 in
set_option maxRecDepth 100000 in
theorem c_X6_quota (l : Launch) (hst : l.stackTraces = false) (D : va_G) (cI cZ cJ cT : ClassId) (a : Nat → Nat → Nat) (sz : Nat) (U : S2) (p1 : Int32) (p2 : Int32) (o : Nat × Int32 × S2) (hf : f_X6_quota U p1 p2 = some o) : vx_Met l yX6_quota wsX6_quota rmX6_quota (va_Pc [.ref (a 0 0), .int p1, .int p2] (PX D cls (tys cI cZ cJ cT) (wI cI cZ cT a U) sz)) (QXi D cls o.1 o.2.1 (wI cI cZ cT a o.2.2) (va_A (wI cI cZ cT a U) sz)) (XX D cls o.1 (wI cI cZ cT a o.2.2) (va_A (wI cI cZ cT a U) sz)) 1 6 (va_A (wI cI cZ cT a U) sz) := by
  refine vx_ofW (cc := cX6_quota) (maxL := 4) (ret := (some .int)) (by decide) rfl ?_
  intro p e s m args below meth c s₁ B hml hxt hv
  obtain ⟨hav, ⟨hsz, hP, hK, hD0⟩, hE⟩ := hv
  have hx := B.exec
  have hb := B.bytes
  have hr := B.returns
  have hlocks := B.notSynchronized
  have hts := atoms_spec (ws := wsX6_quota) B.pre
  have hown : s.vm.findClass RX6 = some m.cls := findClass_of_methodNamed B.named
  have i6 : ∀ w ∈ wsX60, w ∈ wsX6_quota := fun w h => List.mem_cons_of_mem _ (List.mem_append_left _ (List.mem_append_left _ (List.mem_append_right _ h)))
  have hk62 := hts (.fieldLink RX6 62 "Inodery" "quotas" "[I") (by decide +kernel)
  subst hsz
  have hD := hD0.self (sz := s.heap.size)
  generalize hAe : va_A (wI cI cZ cT a U) s.heap.size = A at hD hE ⊢
  have hA : ∀ q : Nat, s.heap.size ≤ q → A q := fun q h => by rw [← hAe]; exact Or.inr h
  have hS : va_S A s.heap s.heap [] := va_S.rf
  have hDD : ∀ V : S2, va_D A (wI cI cZ cT a V) := fun _ => D_same (w := (wI cI cZ cT a U)) rfl hD
  refine Wq (fun Q hQ => ?_)
  refine W_entry hav (Nat.le_of_ble_eq_true rfl) (fun ls hl => ?_)
  have hl : lv_has ls 4 [(0, .ref (a 0 0)), (1, .int p1), (2, .int p2)] := hl
  unfold f_X6_quota at hf
  refine W_heap hP hS (fun H locs hP hS => ?_)
  refine lv_iload_n hx hb dX6_quota_0 rfl (lv_at hl 1 rfl) ?_
  obtain ⟨z_1, hz_1, hf⟩ := bn_some hf
  refine c0S (As := [.int p1]) (rest := []) ⟨hx, hb, hml, hown, hts⟩ (c_X6_isUser l D cI cZ cJ cT p1 z_1 hz_1) (va_cwS 1 hts gX6_quota_X6_isUser rfl rfl rfl (by decide +kernel) ⟨Nat.le_of_ble_eq_true rfl, Nat.le_of_ble_eq_true rfl⟩) rfl rfl hl.1 (Nat.le_of_ble_eq_true rfl) dX6_quota_1 ⟨Nat.le_of_ble_eq_true rfl, Nat.le_of_ble_eq_true rfl⟩ ?_
  refine lv_if_ne (tgt := 17) hx hb dX6_quota_4 (by decide) (fun c_2 => ?_) (fun c_2 => ?_)
  · have hf := ite_f hf c_2
    refine lv_iload_n hx hb dX6_quota_17 rfl (lv_at hl 2 rfl) ?_
    obtain ⟨k27_3, hk27_3, hf⟩ := jn_some hf
    have j27_3 : ∀ (H : Heap) (locs : List Loc) (ls : Array Slot), k27_3 = some o → va_P D cls (wI cI cZ cT a U) H → va_S A s.heap H locs → lv_has ls 4 [] → W p l e (headSpec wsX6_quota rmX6_quota).room s m args below meth c H locs 0 0 Q (F0 m 27 ls []) := by
      intro H locs ls hf hP hS hl
      have hf := qa0 hk27_3 hf
      have eo := Option.some.inj hf
      have hP : va_P D cls (wI cI cZ cT a o.2.2) H := by rw [← eo]; exact hP
      rw [hQ]
      have hk0 : o.1 = 1 := by rw [← eo]
      exact thrW o.1 (text := "blocks is out of range") (by rw [hk0]; rfl) (by rw [hk0]; decide) hx hb hst hown (by decide +kernel) (hts (.classLink RX6 88 "java/lang/IllegalArgumentException") (by decide +kernel)) (hts (.initialized "java/lang/IllegalArgumentException") (by decide +kernel)) (fun w h => hts w (List.mem_cons_of_mem _ (List.mem_append_right _ h))) (EX_b1 hE) ok1 (by decide +kernel) hE hS hP (hl.1.trans hml.symm) dX6_quota_27 dX6_quota_30 dX6_quota_31 dX6_quota_34 dX6_quota_37 hxt (Nat.le_of_ble_eq_true rfl) (Nat.le_of_ble_eq_true rfl) (Nat.le_of_ble_eq_true rfl) (Nat.le_of_ble_eq_true rfl) hlocks (Nat.le_of_ble_eq_true rfl) (Nat.le_of_ble_eq_true rfl)
    refine lv_if_lt (tgt := 27) hx hb dX6_quota_18 (by decide) (fun c_4 => ?_) (fun c_4 => ?_)
    · have hf := ite_t hf c_4
      refine W.widen (k := 0) (n := 0) (Nat.le_of_ble_eq_true rfl) (Nat.le_of_ble_eq_true rfl) ?_
      exact j27_3 _ _ _ hf hP hS (lv_sub hl [] rfl)
    · have hf := ite_f hf c_4
      refine lv_iload_n hx hb dX6_quota_21 rfl (lv_at hl 2 rfl) ?_
      refine lv_bipush (v := 64) hx hb dX6_quota_22 (by decide) ?_
      refine lv_icmp_le (tgt := 38) hx hb dX6_quota_24 (by decide) (fun c_5 => ?_) (fun c_5 => ?_)
      · have hf := ite_t hf c_5
        refine lv_aload_n hx hb dX6_quota_38 rfl (lv_at hl 0 rfl) ?_
        refine va_get (D := D) (ci := 6) (v := .ref (a 0 3)) (C := RX6) (T := TX6) (N := 11) hx hb hts i6 hown hK (fl_sub hP 0 rfl) 0 rfl rfl 9 (by decide) hk62 (fun _ h9 => h9) rfl dX6_quota_39 ?_
        refine lv_iload_n hx hb dX6_quota_42 rfl (lv_at hl 1 rfl) ?_
        obtain ⟨hi, hf⟩ := chk_some hf
        refine va_iald hx hb hK (fl_sub hP 0 rfl) 3 0 rfl rfl (inb_in hi) dX6_quota_43 ?_
        refine lv_istore_n (lv' := [(3, .int (U 0 9 (p1).toNatClampNeg)), (0, .ref (a 0 0)), (1, .int p1), (2, .int p2)]) hx hb dX6_quota_44 rfl hl (by decide) rfl (fun ls hl => ?_)
        refine lv_aload_n hx hb dX6_quota_45 rfl (lv_at hl 1 rfl) ?_
        refine va_get (D := D) (ci := 6) (v := .ref (a 0 3)) (C := RX6) (T := TX6) (N := 11) hx hb hts i6 hown hK (fl_sub hP 0 rfl) 0 rfl rfl 9 (by decide) hk62 (fun _ h9 => h9) rfl dX6_quota_46 ?_
        refine lv_iload_n hx hb dX6_quota_49 rfl (lv_at hl 2 rfl) ?_
        refine lv_iload_n hx hb dX6_quota_50 rfl (lv_at hl 3 rfl) ?_
        obtain ⟨hi, hf⟩ := chk_some hf
        obtain ⟨u_6, hu_6, hf⟩ := bv_some hf
        refine va_iast hx hb hK hP (hDD U) hS 3 0 rfl rfl (inb_in hi) dX6_quota_51 (fun H locs hP _ hS => ?_)
        have hP : va_P D cls (wI cI cZ cT a u_6) H := by rw [hu_6]; exact hP
        refine lv_iload_n hx hb dX6_quota_52 rfl (lv_at hl 0 rfl) ?_
        have eo := Option.some.inj hf
        have hP : va_P D cls (wI cI cZ cT a o.2.2) H := by rw [← eo]; exact hP
        rw [hQ]
        refine W.widen (k := 1) (n := 6) (Nat.le_of_ble_eq_true rfl) (Nat.le_of_ble_eq_true rfl) ?_
        exact vx_ret (W.iret hx hb hr (fun t ht hW => ⟨⟨_, (), rfl, ⟨(by rw [← eo]), (by rw [← eo])⟩, P_at ht hP⟩, hS.F ht⟩) hS.2.2 dX6_quota_53 hlocks)
      · have hf := ite_f hf c_5
        refine W.widen (k := 0) (n := 0) (Nat.le_of_ble_eq_true rfl) (Nat.le_of_ble_eq_true rfl) ?_
        exact j27_3 _ _ _ hf hP hS (lv_sub hl [] rfl)
  · have hf := ite_t hf c_2
    have eo := Option.some.inj hf
    have hP : va_P D cls (wI cI cZ cT a o.2.2) H := by rw [← eo]; exact hP
    rw [hQ]
    have hk0 : o.1 = 2 := by rw [← eo]
    exact thr o.1 (text := "no such user") (by rw [hk0]; rfl) (by rw [hk0]; decide) hx hb hst hown (by decide +kernel) (hts (.classLink RX6 74 "java/lang/IndexOutOfBoundsException") (by decide +kernel)) (hts (.initialized "java/lang/IndexOutOfBoundsException") (by decide +kernel)) (fun w h => hts w (List.mem_cons_of_mem _ (List.mem_append_left _ (List.mem_append_right _ h)))) (EX_b2 hE) ok2 (by decide +kernel) hE hS hP (hl.1.trans hml.symm) dX6_quota_7 dX6_quota_10 dX6_quota_11 dX6_quota_13 dX6_quota_16 hxt (Nat.le_of_ble_eq_true rfl) (Nat.le_of_ble_eq_true rfl) (Nat.le_of_ble_eq_true rfl) (Nat.le_of_ble_eq_true rfl) hlocks (Nat.le_of_ble_eq_true rfl) (Nat.le_of_ble_eq_true rfl)
