theorem dX7_thrown_0 : decode cX7_thrown 0 = .ok (.aload_n 0, 1) := by decide +kernel
theorem dX7_thrown_1 : decode cX7_thrown 1 = .ok (.getfield 58, 3) := by decide +kernel
theorem dX7_thrown_4 : decode cX7_thrown 4 = .ok (.ireturn, 1) := by decide +kernel
def f_X7_thrown (u0 : S1) : Option (Int32) := some (u0 18 0)
def rmX7_thrown : Room := { frames := 0, cells := 0, slots := 0, locals := 0 }
set_option maxHeartbeats 4000000 in
set_option maxRecDepth 100000 in
theorem c_X7_thrown (l : Launch) (D : va_G) (cI cZ cJ cT : ClassId) (a0 : Nat → Nat) (u0 : S1) (o : Int32) (hf : f_X7_thrown u0 = some o) : Met l yX7_thrown wsX7_thrown rmX7_thrown (va_Pc [.ref (a0 0)] (PR D cls (tys cI cZ cJ cT) ((wX7 cI cZ a0 u0)))) (QR o) 0 0 (fun _ => False) := by
  refine Met.ofW (cc := cX7_thrown) (maxL := 1) (ret := (some .int)) (by decide) rfl ?_
  intro p e s m args below meth c s₁ B hml hv
  obtain ⟨hav, hP, hK⟩ := hv
  have hx := B.exec
  have hb := B.bytes
  have hr := B.returns
  have hlocks := B.notSynchronized
  have hts := atoms_spec (ws := wsX7_thrown) B.pre
  have hown : s.vm.findClass RX7 = some m.cls := findClass_of_methodNamed B.named
  have i7 : ∀ w ∈ wsX70, w ∈ wsX7_thrown := fun w h => List.mem_cons_of_mem _ (List.mem_append_right _ h)
  have hk58 := hts (.fieldLink RX7 58 "InoderyModel" "thrown" "I") (by decide +kernel)
  refine Wq (fun Q hQ => ?_)
  refine W_entry hav (Nat.le_of_ble_eq_true rfl) (fun ls hl => ?_)
  have hl : lv_has ls 1 [(0, .ref (a0 0))] := hl
  unfold f_X7_thrown at hf
  refine lv_aload_n hx hb dX7_thrown_0 rfl (lv_at hl 0 rfl) ?_
  refine va_get (D := D) (ci := 7) (v := .int (u0 18 0)) (C := RX7) (T := TX7) (N := 19) hx hb hts i7 hown hK hP 0 rfl rfl 18 (by decide) hk58 (fun _ h9 => h9) rfl dX7_thrown_1 ?_
  rw [hQ]
  exact W.iret hx hb hr (fun t ht hW => ⟨_, rfl, Option.some.inj hf, ht⟩) (fun _ h => nomatch h) dX7_thrown_4 hlocks
theorem dX7_can_0 : decode cX7_can 0 = .ok (.aload_n 0, 1) := by decide +kernel
theorem dX7_can_1 : decode cX7_can 1 = .ok (.iload_n 1, 1) := by decide +kernel
theorem dX7_can_2 : decode cX7_can 2 = .ok (.putfield 58, 3) := by decide +kernel
theorem dX7_can_5 : decode cX7_can 5 = .ok (.iload_n 1, 1) := by decide +kernel
theorem dX7_can_6 : decode cX7_can 6 = .ok (.ifCond .ne 7, 3) := by decide +kernel
theorem dX7_can_9 : decode cX7_can 9 = .ok (.iconst 1, 1) := by decide +kernel
theorem dX7_can_10 : decode cX7_can 10 = .ok (.goto 4, 3) := by decide +kernel
theorem dX7_can_13 : decode cX7_can 13 = .ok (.iconst 0, 1) := by decide +kernel
theorem dX7_can_14 : decode cX7_can 14 = .ok (.ireturn, 1) := by decide +kernel
def f_X7_can (u0 : S1) (p1 : Int32) : Option (Int32 × S1) := bv (up u0 18 (fun _ => p1)) (fun u_1 => jn (fun (v14_2_0 : Int32) => some (vp_nar .boolean v14_2_0, u_1)) (fun k14_2 => if p1 = 0 then k14_2 1 else k14_2 0))
def rmX7_can : Room := { frames := 0, cells := 0, slots := 0, locals := 0 }
set_option maxHeartbeats 4000000 in
set_option maxRecDepth 100000 in
theorem c_X7_can (l : Launch) (D : va_G) (cI cZ cJ cT : ClassId) (a0 : Nat → Nat) (sz : Nat) (u0 : S1) (p1 : Int32) (o : Int32 × S1) (hf : f_X7_can u0 p1 = some o) : Met l yX7_can wsX7_can rmX7_can (va_Pc [.ref (a0 0), .int p1] (PW D cls (tys cI cZ cJ cT) ((wX7 cI cZ a0 u0)) sz)) (QWi D cls o.1 ((wX7 cI cZ a0 o.2)) (va_A ((wX7 cI cZ a0 u0)) sz)) 0 0 (va_A ((wX7 cI cZ a0 u0)) sz) := by
  refine Met.ofW (cc := cX7_can) (maxL := 2) (ret := (some .boolean)) (by decide) rfl ?_
  intro p e s m args below meth c s₁ B hml hv
  obtain ⟨hav, hsz, hP, hK, hD0⟩ := hv
  have hx := B.exec
  have hb := B.bytes
  have hr := B.returns
  have hlocks := B.notSynchronized
  have hts := atoms_spec (ws := wsX7_can) B.pre
  have hown : s.vm.findClass RX7 = some m.cls := findClass_of_methodNamed B.named
  have i7 : ∀ w ∈ wsX70, w ∈ wsX7_can := fun w h => List.mem_cons_of_mem _ (List.mem_append_right _ h)
  have hk58 := hts (.fieldLink RX7 58 "InoderyModel" "thrown" "I") (by decide +kernel)
  subst hsz
  have hD := hD0.self (sz := s.heap.size)
  generalize hAe : va_A ((wX7 cI cZ a0 u0)) s.heap.size = A at hD ⊢
  have hA : ∀ q : Nat, s.heap.size ≤ q → A q := fun q h => by rw [← hAe]; exact Or.inr h
  have hS : va_S A s.heap s.heap [] := va_S.rf
  have hDD : ∀ w0 : S1, va_D A ((wX7 cI cZ a0 w0)) := fun _ => D_same (w := (wX7 cI cZ a0 u0)) rfl hD
  refine Wq (fun Q hQ => ?_)
  refine W_entry hav (Nat.le_of_ble_eq_true rfl) (fun ls hl => ?_)
  have hl : lv_has ls 2 [(0, .ref (a0 0)), (1, .int p1)] := hl
  unfold f_X7_can at hf
  refine W_heap hP hS (fun H locs hP hS => ?_)
  refine lv_aload_n hx hb dX7_can_0 rfl (lv_at hl 0 rfl) ?_
  refine lv_iload_n hx hb dX7_can_1 rfl (lv_at hl 1 rfl) ?_
  obtain ⟨u_1, hu_1, hf⟩ := bv_some hf
  refine va_put (D := D) (ci := 7) (v := .int p1) (ty := .int) (C := RX7) (T := TX7) (N := 19) hx hb hts i7 tyX7 tyX7_ok nmX7 hown hK hP (hDD u0) hS 0 rfl rfl 18 (by decide) hk58 (fun _ h9 => h9) rfl (by decide +kernel) rfl rfl (Nat.le_of_ble_eq_true rfl) dX7_can_2 (fun H locs hP _ hS => ?_)
  have hP : va_P D cls (wX7 cI cZ a0 u_1) H := by rw [hu_1]; exact hP
  refine lv_iload_n hx hb dX7_can_5 rfl (lv_at hl 1 rfl) ?_
  obtain ⟨k14_2, hk14_2, hf⟩ := jn_some hf
  have j14_2 : ∀ (v14_2_0 : Int32) (H : Heap) (locs : List Loc) (ls : Array Slot), k14_2 v14_2_0 = some o → va_P D cls (wX7 cI cZ a0 u_1) H → va_S A s.heap H locs → lv_has ls 2 [] → W p l e (headSpec wsX7_can rmX7_can).room s m args below meth c H locs 0 0 Q (F0 m 14 ls [.int v14_2_0]) := by
    intro v14_2_0 H locs ls hf hP hS hl
    have hf := qa1 hk14_2 hf
    have eo := Option.some.inj hf
    have hP : va_P D cls (wX7 cI cZ a0 o.2) H := by rw [← eo]; exact hP
    rw [hQ]
    exact zretN (v := v14_2_0) (v' := vp_nar .boolean v14_2_0) hx hb hr rfl (fun t ht hW => ⟨⟨_, (), rfl, congrArg Prod.fst eo, P_at ht hP⟩, hS.F ht⟩) hS.2.2 dX7_can_14 hlocks
  refine lv_if_ne (tgt := 13) hx hb dX7_can_6 (by decide) (fun c_3 => ?_) (fun c_3 => ?_)
  · have hf := ite_f hf c_3
    refine lv_iconst (v := 0) hx hb dX7_can_13 (by decide) ?_
    exact j14_2 _ _ _ _ hf hP hS (lv_sub hl [] rfl)
  · have hf := ite_t hf c_3
    refine lv_iconst (v := 1) hx hb dX7_can_9 (by decide) ?_
    refine lv_goto (tgt := 14) hx hb dX7_can_10 (by decide) ?_
    exact j14_2 _ _ _ _ hf hP hS (lv_sub hl [] rfl)
theorem dX7_isIn_0 : decode cX7_isIn 0 = .ok (.iload_n 0, 1) := by decide +kernel
theorem dX7_isIn_1 : decode cX7_isIn 1 = .ok (.iload_n 1, 1) := by decide +kernel
theorem dX7_isIn_2 : decode cX7_isIn 2 = .ok (.if_icmp .lt 12, 3) := by decide +kernel
theorem dX7_isIn_5 : decode cX7_isIn 5 = .ok (.iload_n 0, 1) := by decide +kernel
theorem dX7_isIn_6 : decode cX7_isIn 6 = .ok (.iload_n 2, 1) := by decide +kernel
theorem dX7_isIn_7 : decode cX7_isIn 7 = .ok (.if_icmp .gt 7, 3) := by decide +kernel
theorem dX7_isIn_10 : decode cX7_isIn 10 = .ok (.iconst 1, 1) := by decide +kernel
theorem dX7_isIn_11 : decode cX7_isIn 11 = .ok (.goto 4, 3) := by decide +kernel
theorem dX7_isIn_14 : decode cX7_isIn 14 = .ok (.iconst 0, 1) := by decide +kernel
theorem dX7_isIn_15 : decode cX7_isIn 15 = .ok (.ireturn, 1) := by decide +kernel
def f_X7_isIn (p0 : Int32) (p1 : Int32) (p2 : Int32) : Option (Int32) := jn (fun (v15_1_0 : Int32) => some (vp_nar .boolean v15_1_0)) (fun k15_1 => jn (k15_1 0) (fun k14_2 => if p0 < p1 then k14_2 else if p2 < p0 then k14_2 else k15_1 1))
def rmX7_isIn : Room := { frames := 0, cells := 0, slots := 0, locals := 0 }
set_option maxHeartbeats 4000000 in
set_option maxRecDepth 100000 in
theorem c_X7_isIn (l : Launch) (D : va_G) (cI cZ cJ cT : ClassId) (p0 : Int32) (p1 : Int32) (p2 : Int32) (o : Int32) (hf : f_X7_isIn p0 p1 p2 = some o) : Met l yX7_isIn wsX7_isIn rmX7_isIn (va_Pc [.int p0, .int p1, .int p2] (fun _ => True)) (QR o) 0 0 (fun _ => False) := by
  refine Met.ofW (cc := cX7_isIn) (maxL := 3) (ret := (some .boolean)) (by decide) rfl ?_
  intro p e s m args below meth c s₁ B hml hv
  obtain ⟨hav, -⟩ := hv
  have hx := B.exec
  have hb := B.bytes
  have hr := B.returns
  have hlocks := B.notSynchronized
  refine Wq (fun Q hQ => ?_)
  refine W_entry hav (Nat.le_of_ble_eq_true rfl) (fun ls hl => ?_)
  have hl : lv_has ls 3 [(0, .int p0), (1, .int p1), (2, .int p2)] := hl
  unfold f_X7_isIn at hf
  refine lv_iload_n hx hb dX7_isIn_0 rfl (lv_at hl 0 rfl) ?_
  refine lv_iload_n hx hb dX7_isIn_1 rfl (lv_at hl 1 rfl) ?_
  obtain ⟨k15_1, hk15_1, hf⟩ := jn_some hf
  have j15_1 : ∀ (v15_1_0 : Int32) (ls : Array Slot), k15_1 v15_1_0 = some o → lv_has ls 3 [] → W p l e (headSpec wsX7_isIn rmX7_isIn).room s m args below meth c s.heap [] 0 0 Q (F0 m 15 ls [.int v15_1_0]) := by
    intro v15_1_0 ls hf hl
    have hf := qa1 hk15_1 hf
    rw [hQ]
    exact zretN (v := v15_1_0) (v' := vp_nar .boolean v15_1_0) hx hb hr rfl (fun t ht hW => ⟨_, rfl, Option.some.inj hf, ht⟩) (fun _ h => nomatch h) dX7_isIn_15 hlocks
  obtain ⟨k14_2, hk14_2, hf⟩ := jn_some hf
  have j14_2 : ∀ (ls : Array Slot), k14_2 = some o → lv_has ls 3 [] → W p l e (headSpec wsX7_isIn rmX7_isIn).room s m args below meth c s.heap [] 0 0 Q (F0 m 14 ls []) := by
    intro ls hf hl
    have hf := qa0 hk14_2 hf
    refine lv_iconst (v := 0) hx hb dX7_isIn_14 (by decide) ?_
    exact j15_1 _ _ hf (lv_sub hl [] rfl)
  refine lv_icmp_lt (tgt := 14) hx hb dX7_isIn_2 (by decide) (fun c_3 => ?_) (fun c_3 => ?_)
  · have hf := ite_t hf c_3
    exact j14_2 _ hf (lv_sub hl [] rfl)
  · have hf := ite_f hf c_3
    refine lv_iload_n hx hb dX7_isIn_5 rfl (lv_at hl 0 rfl) ?_
    refine lv_iload_n hx hb dX7_isIn_6 rfl (lv_at hl 2 rfl) ?_
    refine lv_icmp_gt (tgt := 14) hx hb dX7_isIn_7 (by decide) (fun c_4 => ?_) (fun c_4 => ?_)
    · have hf := ite_t hf c_4
      exact j14_2 _ hf (lv_sub hl [] rfl)
    · have hf := ite_f hf c_4
      refine lv_iconst (v := 1) hx hb dX7_isIn_10 (by decide) ?_
      refine lv_goto (tgt := 15) hx hb dX7_isIn_11 (by decide) ?_
      exact j15_1 _ _ hf (lv_sub hl [] rfl)
set_option maxRecDepth 20000 in
theorem ggX7_isPage_X7_isIn : GoodIn wsX7_isPage wsX7_isIn := goodIn_r _ [4] (by decide +kernel) (by decide +kernel)
set_option maxRecDepth 20000 in
theorem gX7_isPage_X7_isIn : GoodIn wsX7_isPage (va_wsS RX7 62 yX7_isIn wsX7_isIn) := goodIn_app (goodIn_of _ (by decide +kernel)) ggX7_isPage_X7_isIn
theorem dX7_isPage_0 : decode cX7_isPage 0 = .ok (.iload_n 0, 1) := by decide +kernel
theorem dX7_isPage_1 : decode cX7_isPage 1 = .ok (.iconst 0, 1) := by decide +kernel
theorem dX7_isPage_2 : decode cX7_isPage 2 = .ok (.bipush 15, 2) := by decide +kernel
theorem dX7_isPage_4 : decode cX7_isPage 4 = .ok (.invokestatic 62, 3) := by decide +kernel
theorem dX7_isPage_7 : decode cX7_isPage 7 = .ok (.ireturn, 1) := by decide +kernel
def f_X7_isPage (p0 : Int32) : Option (Int32) := bn (f_X7_isIn p0 0 15) (fun z_1 => some (vp_nar .boolean z_1))
def rmX7_isPage : Room := { frames := 1, cells := 0, slots := 0, locals := 22 }
set_option maxHeartbeats 4000000 in
set_option maxRecDepth 100000 in
theorem c_X7_isPage (l : Launch) (D : va_G) (cI cZ cJ cT : ClassId) (p0 : Int32) (o : Int32) (hf : f_X7_isPage p0 = some o) : Met l yX7_isPage wsX7_isPage rmX7_isPage (va_Pc [.int p0] (fun _ => True)) (QR o) 0 0 (fun _ => False) := by
  refine Met.ofW (cc := cX7_isPage) (maxL := 1) (ret := (some .boolean)) (by decide) rfl ?_
  intro p e s m args below meth c s₁ B hml hv
  obtain ⟨hav, -⟩ := hv
  have hx := B.exec
  have hb := B.bytes
  have hr := B.returns
  have hlocks := B.notSynchronized
  have hts := atoms_spec (ws := wsX7_isPage) B.pre
  have hown : s.vm.findClass RX7 = some m.cls := findClass_of_methodNamed B.named
  refine Wq (fun Q hQ => ?_)
  refine W_entry hav (Nat.le_of_ble_eq_true rfl) (fun ls hl => ?_)
  have hl : lv_has ls 1 [(0, .int p0)] := hl
  unfold f_X7_isPage at hf
  refine lv_iload_n hx hb dX7_isPage_0 rfl (lv_at hl 0 rfl) ?_
  refine lv_iconst (v := 0) hx hb dX7_isPage_1 (by decide) ?_
  refine lv_bipush (v := 15) hx hb dX7_isPage_2 (by decide) ?_
  obtain ⟨z_1, hz_1, hf⟩ := bn_some hf
  refine c0S (As := [.int p0, .int 0, .int 15]) (rest := []) ⟨hx, hb, hml, hown, hts⟩ (c_X7_isIn l D cI cZ cJ cT p0 0 15 z_1 hz_1) (va_cwS 3 hts gX7_isPage_X7_isIn rfl rfl rfl (by decide +kernel) ⟨Nat.le_of_ble_eq_true rfl, Nat.le_of_ble_eq_true rfl⟩) rfl rfl hl.1 (Nat.le_of_ble_eq_true rfl) dX7_isPage_4 ⟨Nat.le_of_ble_eq_true rfl, Nat.le_of_ble_eq_true rfl⟩ ?_
  rw [hQ]
  exact zretN (v := z_1) (v' := vp_nar .boolean z_1) hx hb hr rfl (fun t ht hW => ⟨_, rfl, Option.some.inj hf, ht⟩) (fun _ h => nomatch h) dX7_isPage_7 hlocks
set_option maxRecDepth 20000 in
theorem ggX7_isUser_X7_isIn : GoodIn wsX7_isUser wsX7_isIn := goodIn_r _ [4] (by decide +kernel) (by decide +kernel)
set_option maxRecDepth 20000 in
theorem gX7_isUser_X7_isIn : GoodIn wsX7_isUser (va_wsS RX7 62 yX7_isIn wsX7_isIn) := goodIn_app (goodIn_of _ (by decide +kernel)) ggX7_isUser_X7_isIn
theorem dX7_isUser_0 : decode cX7_isUser 0 = .ok (.iload_n 0, 1) := by decide +kernel
theorem dX7_isUser_1 : decode cX7_isUser 1 = .ok (.iconst 0, 1) := by decide +kernel
theorem dX7_isUser_2 : decode cX7_isUser 2 = .ok (.iconst 3, 1) := by decide +kernel
theorem dX7_isUser_3 : decode cX7_isUser 3 = .ok (.invokestatic 62, 3) := by decide +kernel
theorem dX7_isUser_6 : decode cX7_isUser 6 = .ok (.ireturn, 1) := by decide +kernel
def f_X7_isUser (p0 : Int32) : Option (Int32) := bn (f_X7_isIn p0 0 3) (fun z_1 => some (vp_nar .boolean z_1))
def rmX7_isUser : Room := { frames := 1, cells := 0, slots := 0, locals := 22 }
set_option maxHeartbeats 4000000 in
set_option maxRecDepth 100000 in
theorem c_X7_isUser (l : Launch) (D : va_G) (cI cZ cJ cT : ClassId) (p0 : Int32) (o : Int32) (hf : f_X7_isUser p0 = some o) : Met l yX7_isUser wsX7_isUser rmX7_isUser (va_Pc [.int p0] (fun _ => True)) (QR o) 0 0 (fun _ => False) := by
  refine Met.ofW (cc := cX7_isUser) (maxL := 1) (ret := (some .boolean)) (by decide) rfl ?_
  intro p e s m args below meth c s₁ B hml hv
  obtain ⟨hav, -⟩ := hv
  have hx := B.exec
  have hb := B.bytes
  have hr := B.returns
  have hlocks := B.notSynchronized
  have hts := atoms_spec (ws := wsX7_isUser) B.pre
  have hown : s.vm.findClass RX7 = some m.cls := findClass_of_methodNamed B.named
  refine Wq (fun Q hQ => ?_)
  refine W_entry hav (Nat.le_of_ble_eq_true rfl) (fun ls hl => ?_)
  have hl : lv_has ls 1 [(0, .int p0)] := hl
  unfold f_X7_isUser at hf
  refine lv_iload_n hx hb dX7_isUser_0 rfl (lv_at hl 0 rfl) ?_
  refine lv_iconst (v := 0) hx hb dX7_isUser_1 (by decide) ?_
  refine lv_iconst (v := 3) hx hb dX7_isUser_2 (by decide) ?_
  obtain ⟨z_1, hz_1, hf⟩ := bn_some hf
  refine c0S (As := [.int p0, .int 0, .int 3]) (rest := []) ⟨hx, hb, hml, hown, hts⟩ (c_X7_isIn l D cI cZ cJ cT p0 0 3 z_1 hz_1) (va_cwS 3 hts gX7_isUser_X7_isIn rfl rfl rfl (by decide +kernel) ⟨Nat.le_of_ble_eq_true rfl, Nat.le_of_ble_eq_true rfl⟩) rfl rfl hl.1 (Nat.le_of_ble_eq_true rfl) dX7_isUser_3 ⟨Nat.le_of_ble_eq_true rfl, Nat.le_of_ble_eq_true rfl⟩ ?_
  rw [hQ]
  exact zretN (v := z_1) (v' := vp_nar .boolean z_1) hx hb hr rfl (fun t ht hW => ⟨_, rfl, Option.some.inj hf, ht⟩) (fun _ h => nomatch h) dX7_isUser_6 hlocks
set_option maxRecDepth 20000 in
theorem ggX7_isPath_X7_isIn : GoodIn wsX7_isPath wsX7_isIn := goodIn_r _ [5] (by decide +kernel) (by decide +kernel)
set_option maxRecDepth 20000 in
theorem gX7_isPath_X7_isIn : GoodIn wsX7_isPath (va_wsS RX7 62 yX7_isIn wsX7_isIn) := goodIn_app (goodIn_of _ (by decide +kernel)) ggX7_isPath_X7_isIn
theorem dX7_isPath_0 : decode cX7_isPath 0 = .ok (.iload_n 0, 1) := by decide +kernel
theorem dX7_isPath_1 : decode cX7_isPath 1 = .ok (.iconst 1, 1) := by decide +kernel
theorem dX7_isPath_2 : decode cX7_isPath 2 = .ok (.ldc 66, 2) := by decide +kernel
theorem dX7_isPath_4 : decode cX7_isPath 4 = .ok (.invokestatic 62, 3) := by decide +kernel
theorem dX7_isPath_7 : decode cX7_isPath 7 = .ok (.ireturn, 1) := by decide +kernel
def f_X7_isPath (p0 : Int32) : Option (Int32) := bn (f_X7_isIn p0 1 99999999) (fun z_1 => some (vp_nar .boolean z_1))
def rmX7_isPath : Room := { frames := 1, cells := 0, slots := 0, locals := 22 }
set_option maxHeartbeats 4000000 in
set_option maxRecDepth 100000 in
theorem c_X7_isPath (l : Launch) (D : va_G) (cI cZ cJ cT : ClassId) (p0 : Int32) (o : Int32) (hf : f_X7_isPath p0 = some o) : Met l yX7_isPath wsX7_isPath rmX7_isPath (va_Pc [.int p0] (fun _ => True)) (QR o) 0 0 (fun _ => False) := by
  refine Met.ofW (cc := cX7_isPath) (maxL := 1) (ret := (some .boolean)) (by decide) rfl ?_
  intro p e s m args below meth c s₁ B hml hv
  obtain ⟨hav, -⟩ := hv
  have hx := B.exec
  have hb := B.bytes
  have hr := B.returns
  have hlocks := B.notSynchronized
  have hts := atoms_spec (ws := wsX7_isPath) B.pre
  have hown : s.vm.findClass RX7 = some m.cls := findClass_of_methodNamed B.named
  refine Wq (fun Q hQ => ?_)
  refine W_entry hav (Nat.le_of_ble_eq_true rfl) (fun ls hl => ?_)
  have hl : lv_has ls 1 [(0, .int p0)] := hl
  unfold f_X7_isPath at hf
  refine lv_iload_n hx hb dX7_isPath_0 rfl (lv_at hl 0 rfl) ?_
  refine lv_iconst (v := 1) hx hb dX7_isPath_1 (by decide) ?_
  refine lv_ldc hx hb hown (hts (.constant RX7 66 (99999999)) (by decide +kernel)) dX7_isPath_2 ?_
  obtain ⟨z_1, hz_1, hf⟩ := bn_some hf
  refine c0S (As := [.int p0, .int 1, .int 99999999]) (rest := []) ⟨hx, hb, hml, hown, hts⟩ (c_X7_isIn l D cI cZ cJ cT p0 1 99999999 z_1 hz_1) (va_cwS 3 hts gX7_isPath_X7_isIn rfl rfl rfl (by decide +kernel) ⟨Nat.le_of_ble_eq_true rfl, Nat.le_of_ble_eq_true rfl⟩) rfl rfl hl.1 (Nat.le_of_ble_eq_true rfl) dX7_isPath_4 ⟨Nat.le_of_ble_eq_true rfl, Nat.le_of_ble_eq_true rfl⟩ ?_
  rw [hQ]
  exact zretN (v := z_1) (v' := vp_nar .boolean z_1) hx hb hr rfl (fun t ht hW => ⟨_, rfl, Option.some.inj hf, ht⟩) (fun _ h => nomatch h) dX7_isPath_7 hlocks
set_option maxRecDepth 20000 in
theorem ggX7_areRights_X7_isIn : GoodIn wsX7_areRights wsX7_isIn := goodIn_r _ [4] (by decide +kernel) (by decide +kernel)
set_option maxRecDepth 20000 in
theorem gX7_areRights_X7_isIn : GoodIn wsX7_areRights (va_wsS RX7 62 yX7_isIn wsX7_isIn) := goodIn_app (goodIn_of _ (by decide +kernel)) ggX7_areRights_X7_isIn
theorem dX7_areRights_0 : decode cX7_areRights 0 = .ok (.iload_n 0, 1) := by decide +kernel
theorem dX7_areRights_1 : decode cX7_areRights 1 = .ok (.iconst 0, 1) := by decide +kernel
theorem dX7_areRights_2 : decode cX7_areRights 2 = .ok (.bipush 15, 2) := by decide +kernel
theorem dX7_areRights_4 : decode cX7_areRights 4 = .ok (.invokestatic 62, 3) := by decide +kernel
theorem dX7_areRights_7 : decode cX7_areRights 7 = .ok (.ireturn, 1) := by decide +kernel
def f_X7_areRights (p0 : Int32) : Option (Int32) := bn (f_X7_isIn p0 0 15) (fun z_1 => some (vp_nar .boolean z_1))
def rmX7_areRights : Room := { frames := 1, cells := 0, slots := 0, locals := 22 }
set_option maxHeartbeats 4000000 in
set_option maxRecDepth 100000 in
theorem c_X7_areRights (l : Launch) (D : va_G) (cI cZ cJ cT : ClassId) (p0 : Int32) (o : Int32) (hf : f_X7_areRights p0 = some o) : Met l yX7_areRights wsX7_areRights rmX7_areRights (va_Pc [.int p0] (fun _ => True)) (QR o) 0 0 (fun _ => False) := by
  refine Met.ofW (cc := cX7_areRights) (maxL := 1) (ret := (some .boolean)) (by decide) rfl ?_
  intro p e s m args below meth c s₁ B hml hv
  obtain ⟨hav, -⟩ := hv
  have hx := B.exec
  have hb := B.bytes
  have hr := B.returns
  have hlocks := B.notSynchronized
  have hts := atoms_spec (ws := wsX7_areRights) B.pre
  have hown : s.vm.findClass RX7 = some m.cls := findClass_of_methodNamed B.named
  refine Wq (fun Q hQ => ?_)
  refine W_entry hav (Nat.le_of_ble_eq_true rfl) (fun ls hl => ?_)
  have hl : lv_has ls 1 [(0, .int p0)] := hl
  unfold f_X7_areRights at hf
  refine lv_iload_n hx hb dX7_areRights_0 rfl (lv_at hl 0 rfl) ?_
  refine lv_iconst (v := 0) hx hb dX7_areRights_1 (by decide) ?_
  refine lv_bipush (v := 15) hx hb dX7_areRights_2 (by decide) ?_
  obtain ⟨z_1, hz_1, hf⟩ := bn_some hf
  refine c0S (As := [.int p0, .int 0, .int 15]) (rest := []) ⟨hx, hb, hml, hown, hts⟩ (c_X7_isIn l D cI cZ cJ cT p0 0 15 z_1 hz_1) (va_cwS 3 hts gX7_areRights_X7_isIn rfl rfl rfl (by decide +kernel) ⟨Nat.le_of_ble_eq_true rfl, Nat.le_of_ble_eq_true rfl⟩) rfl rfl hl.1 (Nat.le_of_ble_eq_true rfl) dX7_areRights_4 ⟨Nat.le_of_ble_eq_true rfl, Nat.le_of_ble_eq_true rfl⟩ ?_
  rw [hQ]
  exact zretN (v := z_1) (v' := vp_nar .boolean z_1) hx hb hr rfl (fun t ht hW => ⟨_, rfl, Option.some.inj hf, ht⟩) (fun _ h => nomatch h) dX7_areRights_7 hlocks
theorem dX7_at_0 : decode cX7_at 0 = .ok (.sipush 1696, 3) := by decide +kernel
theorem dX7_at_3 : decode cX7_at 3 = .ok (.iload_n 0, 1) := by decide +kernel
theorem dX7_at_4 : decode cX7_at 4 = .ok (.imul, 1) := by decide +kernel
theorem dX7_at_5 : decode cX7_at 5 = .ok (.bipush 53, 2) := by decide +kernel
theorem dX7_at_7 : decode cX7_at 7 = .ok (.iload_n 1, 1) := by decide +kernel
theorem dX7_at_8 : decode cX7_at 8 = .ok (.imul, 1) := by decide +kernel
theorem dX7_at_9 : decode cX7_at 9 = .ok (.iadd, 1) := by decide +kernel
theorem dX7_at_10 : decode cX7_at 10 = .ok (.ireturn, 1) := by decide +kernel
def f_X7_at (p0 : Int32) (p1 : Int32) : Option (Int32) := some ((1696 * p0) + (53 * p1))
def rmX7_at : Room := { frames := 0, cells := 0, slots := 0, locals := 0 }
set_option maxHeartbeats 4000000 in
set_option maxRecDepth 100000 in
theorem c_X7_at (l : Launch) (D : va_G) (cI cZ cJ cT : ClassId) (p0 : Int32) (p1 : Int32) (o : Int32) (hf : f_X7_at p0 p1 = some o) : Met l yX7_at wsX7_at rmX7_at (va_Pc [.int p0, .int p1] (fun _ => True)) (QR o) 0 0 (fun _ => False) := by
  refine Met.ofW (cc := cX7_at) (maxL := 2) (ret := (some .int)) (by decide) rfl ?_
  intro p e s m args below meth c s₁ B hml hv
  obtain ⟨hav, -⟩ := hv
  have hx := B.exec
  have hb := B.bytes
  have hr := B.returns
  have hlocks := B.notSynchronized
  refine Wq (fun Q hQ => ?_)
  refine W_entry hav (Nat.le_of_ble_eq_true rfl) (fun ls hl => ?_)
  have hl : lv_has ls 2 [(0, .int p0), (1, .int p1)] := hl
  unfold f_X7_at at hf
  refine lv_sipush (v := 1696) hx hb dX7_at_0 (by decide) ?_
  refine lv_iload_n hx hb dX7_at_3 rfl (lv_at hl 0 rfl) ?_
  refine lv_imul hx hb dX7_at_4 ?_
  refine lv_bipush (v := 53) hx hb dX7_at_5 (by decide) ?_
  refine lv_iload_n hx hb dX7_at_7 rfl (lv_at hl 1 rfl) ?_
  refine lv_imul hx hb dX7_at_8 ?_
  refine lv_iadd hx hb dX7_at_9 ?_
  rw [hQ]
  exact W.iret hx hb hr (fun t ht hW => ⟨_, rfl, Option.some.inj hf, ht⟩) (fun _ h => nomatch h) dX7_at_10 hlocks
set_option maxRecDepth 20000 in
theorem ggX7_isThere_X7_at : GoodIn wsX7_isThere wsX7_at := goodIn_r _ [8] (by decide +kernel) (by decide +kernel)
set_option maxRecDepth 20000 in
theorem gX7_isThere_X7_at : GoodIn wsX7_isThere (va_wsS RX7 67 yX7_at wsX7_at) := goodIn_app (goodIn_of _ (by decide +kernel)) ggX7_isThere_X7_at
set_option maxRecDepth 20000 in
theorem ggX7_isThere_X7_isIn : GoodIn wsX7_isThere wsX7_isIn := goodIn_r _ [5] (by decide +kernel) (by decide +kernel)
set_option maxRecDepth 20000 in
theorem gX7_isThere_X7_isIn : GoodIn wsX7_isThere (va_wsS RX7 62 yX7_isIn wsX7_isIn) := goodIn_app (goodIn_of _ (by decide +kernel)) ggX7_isThere_X7_isIn
theorem dX7_isThere_0 : decode cX7_isThere 0 = .ok (.iload_n 2, 1) := by decide +kernel
theorem dX7_isThere_1 : decode cX7_isThere 1 = .ok (.iconst 0, 1) := by decide +kernel
theorem dX7_isThere_2 : decode cX7_isThere 2 = .ok (.bipush 31, 2) := by decide +kernel
theorem dX7_isThere_4 : decode cX7_isThere 4 = .ok (.invokestatic 62, 3) := by decide +kernel
theorem dX7_isThere_7 : decode cX7_isThere 7 = .ok (.ifCond .eq 21, 3) := by decide +kernel
theorem dX7_isThere_10 : decode cX7_isThere 10 = .ok (.aload_n 0, 1) := by decide +kernel
theorem dX7_isThere_11 : decode cX7_isThere 11 = .ok (.getfield 7, 3) := by decide +kernel
theorem dX7_isThere_14 : decode cX7_isThere 14 = .ok (.iload_n 1, 1) := by decide +kernel
theorem dX7_isThere_15 : decode cX7_isThere 15 = .ok (.iload_n 2, 1) := by decide +kernel
theorem dX7_isThere_16 : decode cX7_isThere 16 = .ok (.invokestatic 67, 3) := by decide +kernel
theorem dX7_isThere_19 : decode cX7_isThere 19 = .ok (.iaload, 1) := by decide +kernel
theorem dX7_isThere_20 : decode cX7_isThere 20 = .ok (.iconst (-1), 1) := by decide +kernel
theorem dX7_isThere_21 : decode cX7_isThere 21 = .ok (.if_icmp .eq 7, 3) := by decide +kernel
theorem dX7_isThere_24 : decode cX7_isThere 24 = .ok (.iconst 1, 1) := by decide +kernel
theorem dX7_isThere_25 : decode cX7_isThere 25 = .ok (.goto 4, 3) := by decide +kernel
theorem dX7_isThere_28 : decode cX7_isThere 28 = .ok (.iconst 0, 1) := by decide +kernel
theorem dX7_isThere_29 : decode cX7_isThere 29 = .ok (.ireturn, 1) := by decide +kernel
def f_X7_isThere (u0 : S1) (p1 : Int32) (p2 : Int32) : Option (Int32) := bn (f_X7_isIn p2 0 31) (fun z_1 => jn (fun (v29_2_0 : Int32) => some (vp_nar .boolean v29_2_0)) (fun k29_2 => jn (k29_2 0) (fun k28_3 => if z_1 = 0 then k28_3 else bn (f_X7_at p1 p2) (fun z_5 => chk (inb z_5 8480) (if (u0 0 (z_5).toNatClampNeg) = (-1) then k28_3 else k29_2 1)))))
def rmX7_isThere : Room := { frames := 1, cells := 0, slots := 0, locals := 22 }
set_option maxHeartbeats 4000000 in
set_option maxRecDepth 100000 in
theorem c_X7_isThere (l : Launch) (D : va_G) (cI cZ cJ cT : ClassId) (a0 : Nat → Nat) (u0 : S1) (p1 : Int32) (p2 : Int32) (o : Int32) (hf : f_X7_isThere u0 p1 p2 = some o) : Met l yX7_isThere wsX7_isThere rmX7_isThere (va_Pc [.ref (a0 0), .int p1, .int p2] (PR D cls (tys cI cZ cJ cT) ((wX7 cI cZ a0 u0)))) (QR o) 0 0 (fun _ => False) := by
  refine Met.ofW (cc := cX7_isThere) (maxL := 3) (ret := (some .boolean)) (by decide) rfl ?_
  intro p e s m args below meth c s₁ B hml hv
  obtain ⟨hav, hP, hK⟩ := hv
  have hx := B.exec
  have hb := B.bytes
  have hr := B.returns
  have hlocks := B.notSynchronized
  have hts := atoms_spec (ws := wsX7_isThere) B.pre
  have hown : s.vm.findClass RX7 = some m.cls := findClass_of_methodNamed B.named
  have i7 : ∀ w ∈ wsX70, w ∈ wsX7_isThere := fun w h => List.mem_cons_of_mem _ (List.mem_append_right _ h)
  have hk7 := hts (.fieldLink RX7 7 "InoderyModel" "s" "[I") (by decide +kernel)
  refine Wq (fun Q hQ => ?_)
  refine W_entry hav (Nat.le_of_ble_eq_true rfl) (fun ls hl => ?_)
  have hl : lv_has ls 3 [(0, .ref (a0 0)), (1, .int p1), (2, .int p2)] := hl
  unfold f_X7_isThere at hf
  refine lv_iload_n hx hb dX7_isThere_0 rfl (lv_at hl 2 rfl) ?_
  refine lv_iconst (v := 0) hx hb dX7_isThere_1 (by decide) ?_
  refine lv_bipush (v := 31) hx hb dX7_isThere_2 (by decide) ?_
  obtain ⟨z_1, hz_1, hf⟩ := bn_some hf
  refine c0S (As := [.int p2, .int 0, .int 31]) (rest := []) ⟨hx, hb, hml, hown, hts⟩ (c_X7_isIn l D cI cZ cJ cT p2 0 31 z_1 hz_1) (va_cwS 3 hts gX7_isThere_X7_isIn rfl rfl rfl (by decide +kernel) ⟨Nat.le_of_ble_eq_true rfl, Nat.le_of_ble_eq_true rfl⟩) rfl rfl hl.1 (Nat.le_of_ble_eq_true rfl) dX7_isThere_4 ⟨Nat.le_of_ble_eq_true rfl, Nat.le_of_ble_eq_true rfl⟩ ?_
  obtain ⟨k29_2, hk29_2, hf⟩ := jn_some hf
  have j29_2 : ∀ (v29_2_0 : Int32) (ls : Array Slot), k29_2 v29_2_0 = some o → lv_has ls 3 [] → W p l e (headSpec wsX7_isThere rmX7_isThere).room s m args below meth c s.heap [] 0 0 Q (F0 m 29 ls [.int v29_2_0]) := by
    intro v29_2_0 ls hf hl
    have hf := qa1 hk29_2 hf
    rw [hQ]
    exact zretN (v := v29_2_0) (v' := vp_nar .boolean v29_2_0) hx hb hr rfl (fun t ht hW => ⟨_, rfl, Option.some.inj hf, ht⟩) (fun _ h => nomatch h) dX7_isThere_29 hlocks
  obtain ⟨k28_3, hk28_3, hf⟩ := jn_some hf
  have j28_3 : ∀ (ls : Array Slot), k28_3 = some o → lv_has ls 3 [] → W p l e (headSpec wsX7_isThere rmX7_isThere).room s m args below meth c s.heap [] 0 0 Q (F0 m 28 ls []) := by
    intro ls hf hl
    have hf := qa0 hk28_3 hf
    refine lv_iconst (v := 0) hx hb dX7_isThere_28 (by decide) ?_
    exact j29_2 _ _ hf (lv_sub hl [] rfl)
  refine lv_if_eq (tgt := 28) hx hb dX7_isThere_7 (by decide) (fun c_4 => ?_) (fun c_4 => ?_)
  · have hf := ite_t hf c_4
    exact j28_3 _ hf (lv_sub hl [] rfl)
  · have hf := ite_f hf c_4
    refine lv_aload_n hx hb dX7_isThere_10 rfl (lv_at hl 0 rfl) ?_
    refine va_get (D := D) (ci := 7) (v := .ref (a0 1)) (C := RX7) (T := TX7) (N := 19) hx hb hts i7 hown hK hP 0 rfl rfl 0 (by decide) hk7 (fun _ h9 => h9) rfl dX7_isThere_11 ?_
    refine lv_iload_n hx hb dX7_isThere_14 rfl (lv_at hl 1 rfl) ?_
    refine lv_iload_n hx hb dX7_isThere_15 rfl (lv_at hl 2 rfl) ?_
    obtain ⟨z_5, hz_5, hf⟩ := bn_some hf
    refine c0S (As := [.int p1, .int p2]) (rest := [.ref (a0 1)]) ⟨hx, hb, hml, hown, hts⟩ (c_X7_at l D cI cZ cJ cT p1 p2 z_5 hz_5) (va_cwS 2 hts gX7_isThere_X7_at rfl rfl rfl (by decide +kernel) ⟨Nat.le_of_ble_eq_true rfl, Nat.le_of_ble_eq_true rfl⟩) rfl rfl hl.1 (Nat.le_of_ble_eq_true rfl) dX7_isThere_16 ⟨Nat.le_of_ble_eq_true rfl, Nat.le_of_ble_eq_true rfl⟩ ?_
    obtain ⟨hi, hf⟩ := chk_some hf
    refine va_iald hx hb hK hP 1 0 rfl rfl (inb_in hi) dX7_isThere_19 ?_
    refine lv_iconst (v := (-1)) hx hb dX7_isThere_20 (by decide) ?_
    refine lv_icmp_eq (tgt := 28) hx hb dX7_isThere_21 (by decide) (fun c_6 => ?_) (fun c_6 => ?_)
    · have hf := ite_t hf c_6
      exact j28_3 _ hf (lv_sub hl [] rfl)
    · have hf := ite_f hf c_6
      refine lv_iconst (v := 1) hx hb dX7_isThere_24 (by decide) ?_
      refine lv_goto (tgt := 29) hx hb dX7_isThere_25 (by decide) ?_
      exact j29_2 _ _ hf (lv_sub hl [] rfl)
set_option maxRecDepth 20000 in
theorem ggX7_isThing_X7_isThere : GoodIn wsX7_isThing wsX7_isThere := goodIn_r _ [5, 6, 7, 8, 4, 9, 10, 11, 12, 13, 14, 15, 16, 17, 18, 19, 20, 21, 22, 23, 24, 25, 26, 27, 28, 29, 30, 31] (by decide +kernel) (by decide +kernel)
set_option maxRecDepth 20000 in
theorem gX7_isThing_X7_isThere : GoodIn wsX7_isThing (wsV RX7 71 RX7 yX7_isThere wsX7_isThere) := goodIn_app (goodIn_of _ (by decide +kernel)) ggX7_isThing_X7_isThere
theorem dX7_isThing_0 : decode cX7_isThing 0 = .ok (.aload_n 0, 1) := by decide +kernel
theorem dX7_isThing_1 : decode cX7_isThing 1 = .ok (.iconst 0, 1) := by decide +kernel
theorem dX7_isThing_2 : decode cX7_isThing 2 = .ok (.iload_n 1, 1) := by decide +kernel
theorem dX7_isThing_3 : decode cX7_isThing 3 = .ok (.invokevirtual 71, 3) := by decide +kernel
theorem dX7_isThing_6 : decode cX7_isThing 6 = .ok (.ireturn, 1) := by decide +kernel
def f_X7_isThing (u0 : S1) (p1 : Int32) : Option (Int32) := bn (f_X7_isThere u0 0 p1) (fun z_1 => some (vp_nar .boolean z_1))
def rmX7_isThing : Room := { frames := 2, cells := 0, slots := 0, locals := 44 }
set_option maxHeartbeats 4000000 in
set_option maxRecDepth 100000 in
theorem c_X7_isThing (l : Launch) (D : va_G) (cI cZ cJ cT : ClassId) (a0 : Nat → Nat) (u0 : S1) (p1 : Int32) (o : Int32) (hf : f_X7_isThing u0 p1 = some o) : Met l yX7_isThing wsX7_isThing rmX7_isThing (va_Pc [.ref (a0 0), .int p1] (PR D cls (tys cI cZ cJ cT) ((wX7 cI cZ a0 u0)))) (QR o) 0 0 (fun _ => False) := by
  refine Met.ofW (cc := cX7_isThing) (maxL := 2) (ret := (some .boolean)) (by decide) rfl ?_
  intro p e s m args below meth c s₁ B hml hv
  obtain ⟨hav, hP, hK⟩ := hv
  have hx := B.exec
  have hb := B.bytes
  have hr := B.returns
  have hlocks := B.notSynchronized
  have hts := atoms_spec (ws := wsX7_isThing) B.pre
  have hown : s.vm.findClass RX7 = some m.cls := findClass_of_methodNamed B.named
  refine Wq (fun Q hQ => ?_)
  refine W_entry hav (Nat.le_of_ble_eq_true rfl) (fun ls hl => ?_)
  have hl : lv_has ls 2 [(0, .ref (a0 0)), (1, .int p1)] := hl
  unfold f_X7_isThing at hf
  refine lv_aload_n hx hb dX7_isThing_0 rfl (lv_at hl 0 rfl) ?_
  refine lv_iconst (v := 0) hx hb dX7_isThing_1 (by decide) ?_
  refine lv_iload_n hx hb dX7_isThing_2 rfl (lv_at hl 1 rfl) ?_
  obtain ⟨z_1, hz_1, hf⟩ := bn_some hf
  refine cRV (As := [.int 0, .int p1]) (rest := []) ⟨hx, hb, hml, hown, hts⟩ (c_X7_isThere l D cI cZ cJ cT a0 u0 0 p1 z_1 hz_1) (cwV 2 hts gX7_isThing_X7_isThere rfl rfl rfl (by decide +kernel) ⟨Nat.le_of_ble_eq_true rfl, Nat.le_of_ble_eq_true rfl⟩) hP hK (va_recv hK hP (ci := 7) (q0 := 0) rfl rfl) rfl rfl hl.1 (Nat.le_of_ble_eq_true rfl) dX7_isThing_3 ⟨Nat.le_of_ble_eq_true rfl, Nat.le_of_ble_eq_true rfl⟩ ?_
  rw [hQ]
  exact zretN (v := z_1) (v' := vp_nar .boolean z_1) hx hb hr rfl (fun t ht hW => ⟨_, rfl, Option.some.inj hf, ht⟩) (fun _ h => nomatch h) dX7_isThing_6 hlocks
set_option maxRecDepth 20000 in
theorem ggX7_kindOf_X7_at : GoodIn wsX7_kindOf wsX7_at := goodIn_r _ [5] (by decide +kernel) (by decide +kernel)
set_option maxRecDepth 20000 in
theorem gX7_kindOf_X7_at : GoodIn wsX7_kindOf (va_wsS RX7 67 yX7_at wsX7_at) := goodIn_app (goodIn_of _ (by decide +kernel)) ggX7_kindOf_X7_at
theorem dX7_kindOf_0 : decode cX7_kindOf 0 = .ok (.aload_n 0, 1) := by decide +kernel
theorem dX7_kindOf_1 : decode cX7_kindOf 1 = .ok (.getfield 7, 3) := by decide +kernel
theorem dX7_kindOf_4 : decode cX7_kindOf 4 = .ok (.iconst 0, 1) := by decide +kernel
theorem dX7_kindOf_5 : decode cX7_kindOf 5 = .ok (.iload_n 1, 1) := by decide +kernel
theorem dX7_kindOf_6 : decode cX7_kindOf 6 = .ok (.invokestatic 67, 3) := by decide +kernel
theorem dX7_kindOf_9 : decode cX7_kindOf 9 = .ok (.iaload, 1) := by decide +kernel
theorem dX7_kindOf_10 : decode cX7_kindOf 10 = .ok (.ireturn, 1) := by decide +kernel
def f_X7_kindOf (u0 : S1) (p1 : Int32) : Option (Int32) := bn (f_X7_at 0 p1) (fun z_1 => chk (inb z_1 8480) (some (u0 0 (z_1).toNatClampNeg)))
def rmX7_kindOf : Room := { frames := 1, cells := 0, slots := 0, locals := 21 }
set_option maxHeartbeats 4000000 in
set_option maxRecDepth 100000 in
theorem c_X7_kindOf (l : Launch) (D : va_G) (cI cZ cJ cT : ClassId) (a0 : Nat → Nat) (u0 : S1) (p1 : Int32) (o : Int32) (hf : f_X7_kindOf u0 p1 = some o) : Met l yX7_kindOf wsX7_kindOf rmX7_kindOf (va_Pc [.ref (a0 0), .int p1] (PR D cls (tys cI cZ cJ cT) ((wX7 cI cZ a0 u0)))) (QR o) 0 0 (fun _ => False) := by
  refine Met.ofW (cc := cX7_kindOf) (maxL := 2) (ret := (some .int)) (by decide) rfl ?_
  intro p e s m args below meth c s₁ B hml hv
  obtain ⟨hav, hP, hK⟩ := hv
  have hx := B.exec
  have hb := B.bytes
  have hr := B.returns
  have hlocks := B.notSynchronized
  have hts := atoms_spec (ws := wsX7_kindOf) B.pre
  have hown : s.vm.findClass RX7 = some m.cls := findClass_of_methodNamed B.named
  have i7 : ∀ w ∈ wsX70, w ∈ wsX7_kindOf := fun w h => List.mem_cons_of_mem _ (List.mem_append_right _ h)
  have hk7 := hts (.fieldLink RX7 7 "InoderyModel" "s" "[I") (by decide +kernel)
  refine Wq (fun Q hQ => ?_)
  refine W_entry hav (Nat.le_of_ble_eq_true rfl) (fun ls hl => ?_)
  have hl : lv_has ls 2 [(0, .ref (a0 0)), (1, .int p1)] := hl
  unfold f_X7_kindOf at hf
  refine lv_aload_n hx hb dX7_kindOf_0 rfl (lv_at hl 0 rfl) ?_
  refine va_get (D := D) (ci := 7) (v := .ref (a0 1)) (C := RX7) (T := TX7) (N := 19) hx hb hts i7 hown hK hP 0 rfl rfl 0 (by decide) hk7 (fun _ h9 => h9) rfl dX7_kindOf_1 ?_
  refine lv_iconst (v := 0) hx hb dX7_kindOf_4 (by decide) ?_
  refine lv_iload_n hx hb dX7_kindOf_5 rfl (lv_at hl 1 rfl) ?_
  obtain ⟨z_1, hz_1, hf⟩ := bn_some hf
  refine c0S (As := [.int 0, .int p1]) (rest := [.ref (a0 1)]) ⟨hx, hb, hml, hown, hts⟩ (c_X7_at l D cI cZ cJ cT 0 p1 z_1 hz_1) (va_cwS 2 hts gX7_kindOf_X7_at rfl rfl rfl (by decide +kernel) ⟨Nat.le_of_ble_eq_true rfl, Nat.le_of_ble_eq_true rfl⟩) rfl rfl hl.1 (Nat.le_of_ble_eq_true rfl) dX7_kindOf_6 ⟨Nat.le_of_ble_eq_true rfl, Nat.le_of_ble_eq_true rfl⟩ ?_
  obtain ⟨hi, hf⟩ := chk_some hf
  refine va_iald hx hb hK hP 1 0 rfl rfl (inb_in hi) dX7_kindOf_9 ?_
  rw [hQ]
  exact W.iret hx hb hr (fun t ht hW => ⟨_, rfl, Option.some.inj hf, ht⟩) (fun _ h => nomatch h) dX7_kindOf_10 hlocks
theorem dX7_copies_0 : decode cX7_copies 0 = .ok (.iconst 0, 1) := by decide +kernel
theorem dX7_copies_1 : decode cX7_copies 1 = .ok (.istore_n 3, 1) := by decide +kernel
theorem dX7_copies_2 : decode cX7_copies 2 = .ok (.iload_n 3, 1) := by decide +kernel
theorem dX7_copies_3 : decode cX7_copies 3 = .ok (.sipush 1696, 3) := by decide +kernel
theorem dX7_copies_6 : decode cX7_copies 6 = .ok (.if_icmp .ge 33, 3) := by decide +kernel
theorem dX7_copies_9 : decode cX7_copies 9 = .ok (.aload_n 0, 1) := by decide +kernel
theorem dX7_copies_10 : decode cX7_copies 10 = .ok (.getfield 7, 3) := by decide +kernel
theorem dX7_copies_13 : decode cX7_copies 13 = .ok (.sipush 1696, 3) := by decide +kernel
theorem dX7_copies_16 : decode cX7_copies 16 = .ok (.iload_n 2, 1) := by decide +kernel
theorem dX7_copies_17 : decode cX7_copies 17 = .ok (.imul, 1) := by decide +kernel
theorem dX7_copies_18 : decode cX7_copies 18 = .ok (.iload_n 3, 1) := by decide +kernel
theorem dX7_copies_19 : decode cX7_copies 19 = .ok (.iadd, 1) := by decide +kernel
theorem dX7_copies_20 : decode cX7_copies 20 = .ok (.aload_n 0, 1) := by decide +kernel
theorem dX7_copies_21 : decode cX7_copies 21 = .ok (.getfield 7, 3) := by decide +kernel
theorem dX7_copies_24 : decode cX7_copies 24 = .ok (.sipush 1696, 3) := by decide +kernel
theorem dX7_copies_27 : decode cX7_copies 27 = .ok (.iload_n 1, 1) := by decide +kernel
theorem dX7_copies_28 : decode cX7_copies 28 = .ok (.imul, 1) := by decide +kernel
theorem dX7_copies_29 : decode cX7_copies 29 = .ok (.iload_n 3, 1) := by decide +kernel
theorem dX7_copies_30 : decode cX7_copies 30 = .ok (.iadd, 1) := by decide +kernel
theorem dX7_copies_31 : decode cX7_copies 31 = .ok (.iaload, 1) := by decide +kernel
theorem dX7_copies_32 : decode cX7_copies 32 = .ok (.iastore, 1) := by decide +kernel
theorem dX7_copies_33 : decode cX7_copies 33 = .ok (.iinc 3 1, 3) := by decide +kernel
theorem dX7_copies_36 : decode cX7_copies 36 = .ok (.goto (-34), 3) := by decide +kernel
theorem dX7_copies_39 : decode cX7_copies 39 = .ok (.return_, 1) := by decide +kernel
def f_X7_copies (u0 : S1) (p1 : Int32) (p2 : Int32) : Option (S1) := qj2 (fun (r2_1 : Int32 → S1 → Option (S1)) (y2_1_3 : Int32) (u2_1_0 : S1) => if 1696 ≤ y2_1_3 then some (u2_1_0) else chk (inb ((1696 * p1) + y2_1_3) 8480) (chk (inb ((1696 * p2) + y2_1_3) 8480) (bv (st u2_1_0 0 ((1696 * p2) + y2_1_3) (u2_1_0 0 ((1696 * p1) + y2_1_3).toNatClampNeg)) (fun u_3 => r2_1 (y2_1_3 + 1) u_3)))) (fun k2_1 => k2_1 0 u0)
def rmX7_copies : Room := { frames := 0, cells := 0, slots := 0, locals := 0 }
set_option maxHeartbeats 4000000 in
set_option maxRecDepth 100000 in
theorem c_X7_copies (l : Launch) (D : va_G) (cI cZ cJ cT : ClassId) (a0 : Nat → Nat) (sz : Nat) (u0 : S1) (p1 : Int32) (p2 : Int32) (o : S1) (hf : f_X7_copies u0 p1 p2 = some o) : Met l yX7_copies wsX7_copies rmX7_copies (va_Pc [.ref (a0 0), .int p1, .int p2] (PW D cls (tys cI cZ cJ cT) ((wX7 cI cZ a0 u0)) sz)) (QWv D cls ((wX7 cI cZ a0 o)) (va_A ((wX7 cI cZ a0 u0)) sz)) 0 0 (va_A ((wX7 cI cZ a0 u0)) sz) := by
  refine Met.ofW (cc := cX7_copies) (maxL := 4) (ret := none) (by decide) rfl ?_
  intro p e s m args below meth c s₁ B hml hv
  obtain ⟨hav, hsz, hP, hK, hD0⟩ := hv
  have hx := B.exec
  have hb := B.bytes
  have hr := B.returns
  have hlocks := B.notSynchronized
  have hts := atoms_spec (ws := wsX7_copies) B.pre
  have hown : s.vm.findClass RX7 = some m.cls := findClass_of_methodNamed B.named
  have i7 : ∀ w ∈ wsX70, w ∈ wsX7_copies := fun w h => List.mem_cons_of_mem _ (List.mem_append_right _ h)
  have hk7 := hts (.fieldLink RX7 7 "InoderyModel" "s" "[I") (by decide +kernel)
  subst hsz
  have hD := hD0.self (sz := s.heap.size)
  generalize hAe : va_A ((wX7 cI cZ a0 u0)) s.heap.size = A at hD ⊢
  have hA : ∀ q : Nat, s.heap.size ≤ q → A q := fun q h => by rw [← hAe]; exact Or.inr h
  have hS : va_S A s.heap s.heap [] := va_S.rf
  have hDD : ∀ w0 : S1, va_D A ((wX7 cI cZ a0 w0)) := fun _ => D_same (w := (wX7 cI cZ a0 u0)) rfl hD
  refine Wq (fun Q hQ => ?_)
  refine W_entry hav (Nat.le_of_ble_eq_true rfl) (fun ls hl => ?_)
  have hl : lv_has ls 4 [(0, .ref (a0 0)), (1, .int p1), (2, .int p2)] := hl
  unfold f_X7_copies at hf
  refine W_heap hP hS (fun H locs hP hS => ?_)
  refine lv_iconst (v := 0) hx hb dX7_copies_0 (by decide) ?_
  refine lv_istore_n (lv' := [(3, .int 0), (0, .ref (a0 0)), (1, .int p1), (2, .int p2)]) hx hb dX7_copies_1 rfl hl (by decide) rfl (fun ls hl => ?_)
  obtain ⟨G2_1, hG2_1, hf⟩ := qj2_some hf
  have j2_1 : ∀ (n : Nat) (y2_1_3 : Int32) (u2_1_0 : S1) (H : Heap) (locs : List Loc) (ls : Array Slot), ql2 G2_1 n y2_1_3 u2_1_0 = some o → va_P D cls (wX7 cI cZ a0 u2_1_0) H → va_S A s.heap H locs → lv_has ls 4 [(0, .ref (a0 0)), (1, .int p1), (2, .int p2), (3, .int y2_1_3)] → W p l e (headSpec wsX7_copies rmX7_copies).room s m args below meth c H locs 0 0 Q (F0 m 2 ls []) := by
    intro n
    induction n with
    | zero => intro y2_1_3 u2_1_0 H locs ls hf hP hS hl; exact (ql2_z hf).elim
    | succ n ih2_1 =>
      intro y2_1_3 u2_1_0 H locs ls hf hP hS hl
      have hf := ql2_s hG2_1 hf
      obtain ⟨r2_1, hr2_1⟩ : ∃ z, z = ql2 G2_1 n := ⟨_, rfl⟩
      rw [← hr2_1] at hf ih2_1
      refine lv_iload_n hx hb dX7_copies_2 rfl (lv_at hl 3 rfl) ?_
      refine lv_sipush (v := 1696) hx hb dX7_copies_3 (by decide) ?_
      refine lv_icmp_ge (tgt := 39) hx hb dX7_copies_6 (by decide) (fun c_2 => ?_) (fun c_2 => ?_)
      · have hf := ite_t hf c_2
        have eo := Option.some.inj hf
        have hP : va_P D cls (wX7 cI cZ a0 o) H := by rw [← eo]; exact hP
        rw [hQ]
        exact W.vret hx hb hr (fun t ht hW => ⟨⟨(), rfl, trivial, P_at ht hP⟩, hS.F ht⟩) hS.2.2 dX7_copies_39 hlocks
      · have hf := ite_f hf c_2
        refine lv_aload_n hx hb dX7_copies_9 rfl (lv_at hl 0 rfl) ?_
        refine va_get (D := D) (ci := 7) (v := .ref (a0 1)) (C := RX7) (T := TX7) (N := 19) hx hb hts i7 hown hK hP 0 rfl rfl 0 (by decide) hk7 (fun _ h9 => h9) rfl dX7_copies_10 ?_
        refine lv_sipush (v := 1696) hx hb dX7_copies_13 (by decide) ?_
        refine lv_iload_n hx hb dX7_copies_16 rfl (lv_at hl 2 rfl) ?_
        refine lv_imul hx hb dX7_copies_17 ?_
        refine lv_iload_n hx hb dX7_copies_18 rfl (lv_at hl 3 rfl) ?_
        refine lv_iadd hx hb dX7_copies_19 ?_
        refine lv_aload_n hx hb dX7_copies_20 rfl (lv_at hl 0 rfl) ?_
        refine va_get (D := D) (ci := 7) (v := .ref (a0 1)) (C := RX7) (T := TX7) (N := 19) hx hb hts i7 hown hK hP 0 rfl rfl 0 (by decide) hk7 (fun _ h9 => h9) rfl dX7_copies_21 ?_
        refine lv_sipush (v := 1696) hx hb dX7_copies_24 (by decide) ?_
        refine lv_iload_n hx hb dX7_copies_27 rfl (lv_at hl 1 rfl) ?_
        refine lv_imul hx hb dX7_copies_28 ?_
        refine lv_iload_n hx hb dX7_copies_29 rfl (lv_at hl 3 rfl) ?_
        refine lv_iadd hx hb dX7_copies_30 ?_
        obtain ⟨hi, hf⟩ := chk_some hf
        refine va_iald hx hb hK hP 1 0 rfl rfl (inb_in hi) dX7_copies_31 ?_
        obtain ⟨hi, hf⟩ := chk_some hf
        obtain ⟨u_3, hu_3, hf⟩ := bv_some hf
        refine va_iast hx hb hK hP (hDD u2_1_0) hS 1 0 rfl rfl (inb_in hi) dX7_copies_32 (fun H locs hP _ hS => ?_)
        have hP : va_P D cls (wX7 cI cZ a0 u_3) H := by rw [hu_3]; exact hP
        refine lv_iinc (v := y2_1_3 + 1) (lv' := [(3, .int (y2_1_3 + 1)), (0, .ref (a0 0)), (1, .int p1), (2, .int p2)]) hx hb dX7_copies_33 hl (k := 3) rfl rfl (by decide) rfl (fun ls hl => ?_)
        refine lv_goto (tgt := 2) hx hb dX7_copies_36 (by decide) ?_
        exact ih2_1 _ _ _ _ _ hf hP hS (lv_sub hl [1, 2, 3, 0] rfl)
  exact j2_1 4096 _ _ _ _ _ hf hP hS (lv_sub hl [1, 2, 3, 0] rfl)
set_option maxRecDepth 20000 in
theorem ggX7_blockOf_X7_at : GoodIn wsX7_blockOf wsX7_at := goodIn_r _ [5] (by decide +kernel) (by decide +kernel)
set_option maxRecDepth 20000 in
theorem gX7_blockOf_X7_at : GoodIn wsX7_blockOf (va_wsS RX7 67 yX7_at wsX7_at) := goodIn_app (goodIn_of _ (by decide +kernel)) ggX7_blockOf_X7_at
theorem dX7_blockOf_0 : decode cX7_blockOf 0 = .ok (.aload_n 0, 1) := by decide +kernel
theorem dX7_blockOf_1 : decode cX7_blockOf 1 = .ok (.getfield 7, 3) := by decide +kernel
theorem dX7_blockOf_4 : decode cX7_blockOf 4 = .ok (.iconst 0, 1) := by decide +kernel
theorem dX7_blockOf_5 : decode cX7_blockOf 5 = .ok (.iload_n 1, 1) := by decide +kernel
theorem dX7_blockOf_6 : decode cX7_blockOf 6 = .ok (.invokestatic 67, 3) := by decide +kernel
theorem dX7_blockOf_9 : decode cX7_blockOf 9 = .ok (.bipush 21, 2) := by decide +kernel
theorem dX7_blockOf_11 : decode cX7_blockOf 11 = .ok (.iadd, 1) := by decide +kernel
theorem dX7_blockOf_12 : decode cX7_blockOf 12 = .ok (.iload_n 2, 1) := by decide +kernel
theorem dX7_blockOf_13 : decode cX7_blockOf 13 = .ok (.iadd, 1) := by decide +kernel
theorem dX7_blockOf_14 : decode cX7_blockOf 14 = .ok (.iaload, 1) := by decide +kernel
theorem dX7_blockOf_15 : decode cX7_blockOf 15 = .ok (.ireturn, 1) := by decide +kernel
def f_X7_blockOf (u0 : S1) (p1 : Int32) (p2 : Int32) : Option (Int32) := bn (f_X7_at 0 p1) (fun z_1 => chk (inb ((z_1 + 21) + p2) 8480) (some (u0 0 ((z_1 + 21) + p2).toNatClampNeg)))
def rmX7_blockOf : Room := { frames := 1, cells := 0, slots := 0, locals := 21 }
set_option maxHeartbeats 4000000 in
set_option maxRecDepth 100000 in
theorem c_X7_blockOf (l : Launch) (D : va_G) (cI cZ cJ cT : ClassId) (a0 : Nat → Nat) (u0 : S1) (p1 : Int32) (p2 : Int32) (o : Int32) (hf : f_X7_blockOf u0 p1 p2 = some o) : Met l yX7_blockOf wsX7_blockOf rmX7_blockOf (va_Pc [.ref (a0 0), .int p1, .int p2] (PR D cls (tys cI cZ cJ cT) ((wX7 cI cZ a0 u0)))) (QR o) 0 0 (fun _ => False) := by
  refine Met.ofW (cc := cX7_blockOf) (maxL := 3) (ret := (some .int)) (by decide) rfl ?_
  intro p e s m args below meth c s₁ B hml hv
  obtain ⟨hav, hP, hK⟩ := hv
  have hx := B.exec
  have hb := B.bytes
  have hr := B.returns
  have hlocks := B.notSynchronized
  have hts := atoms_spec (ws := wsX7_blockOf) B.pre
  have hown : s.vm.findClass RX7 = some m.cls := findClass_of_methodNamed B.named
  have i7 : ∀ w ∈ wsX70, w ∈ wsX7_blockOf := fun w h => List.mem_cons_of_mem _ (List.mem_append_right _ h)
  have hk7 := hts (.fieldLink RX7 7 "InoderyModel" "s" "[I") (by decide +kernel)
  refine Wq (fun Q hQ => ?_)
  refine W_entry hav (Nat.le_of_ble_eq_true rfl) (fun ls hl => ?_)
  have hl : lv_has ls 3 [(0, .ref (a0 0)), (1, .int p1), (2, .int p2)] := hl
  unfold f_X7_blockOf at hf
  refine lv_aload_n hx hb dX7_blockOf_0 rfl (lv_at hl 0 rfl) ?_
  refine va_get (D := D) (ci := 7) (v := .ref (a0 1)) (C := RX7) (T := TX7) (N := 19) hx hb hts i7 hown hK hP 0 rfl rfl 0 (by decide) hk7 (fun _ h9 => h9) rfl dX7_blockOf_1 ?_
  refine lv_iconst (v := 0) hx hb dX7_blockOf_4 (by decide) ?_
  refine lv_iload_n hx hb dX7_blockOf_5 rfl (lv_at hl 1 rfl) ?_
  obtain ⟨z_1, hz_1, hf⟩ := bn_some hf
  refine c0S (As := [.int 0, .int p1]) (rest := [.ref (a0 1)]) ⟨hx, hb, hml, hown, hts⟩ (c_X7_at l D cI cZ cJ cT 0 p1 z_1 hz_1) (va_cwS 2 hts gX7_blockOf_X7_at rfl rfl rfl (by decide +kernel) ⟨Nat.le_of_ble_eq_true rfl, Nat.le_of_ble_eq_true rfl⟩) rfl rfl hl.1 (Nat.le_of_ble_eq_true rfl) dX7_blockOf_6 ⟨Nat.le_of_ble_eq_true rfl, Nat.le_of_ble_eq_true rfl⟩ ?_
  refine lv_bipush (v := 21) hx hb dX7_blockOf_9 (by decide) ?_
  refine lv_iadd hx hb dX7_blockOf_11 ?_
  refine lv_iload_n hx hb dX7_blockOf_12 rfl (lv_at hl 2 rfl) ?_
  refine lv_iadd hx hb dX7_blockOf_13 ?_
  obtain ⟨hi, hf⟩ := chk_some hf
  refine va_iald hx hb hK hP 1 0 rfl rfl (inb_in hi) dX7_blockOf_14 ?_
  rw [hQ]
  exact W.iret hx hb hr (fun t ht hW => ⟨_, rfl, Option.some.inj hf, ht⟩) (fun _ h => nomatch h) dX7_blockOf_15 hlocks
set_option maxRecDepth 20000 in
theorem ggX7_has_X7_at : GoodIn wsX7_has wsX7_at := goodIn_r _ [6] (by decide +kernel) (by decide +kernel)
set_option maxRecDepth 20000 in
theorem gX7_has_X7_at : GoodIn wsX7_has (va_wsS RX7 67 yX7_at wsX7_at) := goodIn_app (goodIn_of _ (by decide +kernel)) ggX7_has_X7_at
theorem dX7_has_0 : decode cX7_has 0 = .ok (.iconst 0, 1) := by decide +kernel
theorem dX7_has_1 : decode cX7_has 1 = .ok (.istore_n 3, 1) := by decide +kernel
theorem dX7_has_2 : decode cX7_has 2 = .ok (.iconst 0, 1) := by decide +kernel
theorem dX7_has_3 : decode cX7_has 3 = .ok (.istore 4, 2) := by decide +kernel
theorem dX7_has_5 : decode cX7_has 5 = .ok (.iload 4, 2) := by decide +kernel
theorem dX7_has_7 : decode cX7_has 7 = .ok (.bipush 32, 2) := by decide +kernel
theorem dX7_has_9 : decode cX7_has 9 = .ok (.if_icmp .ge 83, 3) := by decide +kernel
theorem dX7_has_12 : decode cX7_has 12 = .ok (.aload_n 0, 1) := by decide +kernel
theorem dX7_has_13 : decode cX7_has 13 = .ok (.getfield 13, 3) := by decide +kernel
theorem dX7_has_16 : decode cX7_has 16 = .ok (.iload_n 1, 1) := by decide +kernel
theorem dX7_has_17 : decode cX7_has 17 = .ok (.baload, 1) := by decide +kernel
theorem dX7_has_18 : decode cX7_has 18 = .ok (.ifCond .eq 74, 3) := by decide +kernel
theorem dX7_has_21 : decode cX7_has 21 = .ok (.iload_n 3, 1) := by decide +kernel
theorem dX7_has_22 : decode cX7_has 22 = .ok (.ifCond .ne 70, 3) := by decide +kernel
theorem dX7_has_25 : decode cX7_has 25 = .ok (.iload_n 1, 1) := by decide +kernel
theorem dX7_has_26 : decode cX7_has 26 = .ok (.iload 4, 2) := by decide +kernel
theorem dX7_has_28 : decode cX7_has 28 = .ok (.invokestatic 67, 3) := by decide +kernel
theorem dX7_has_31 : decode cX7_has 31 = .ok (.istore 5, 2) := by decide +kernel
theorem dX7_has_33 : decode cX7_has 33 = .ok (.iconst 0, 1) := by decide +kernel
theorem dX7_has_34 : decode cX7_has 34 = .ok (.istore 6, 2) := by decide +kernel
theorem dX7_has_36 : decode cX7_has 36 = .ok (.iload 6, 2) := by decide +kernel
theorem dX7_has_38 : decode cX7_has 38 = .ok (.bipush 16, 2) := by decide +kernel
theorem dX7_has_40 : decode cX7_has 40 = .ok (.if_icmp .ge 46, 3) := by decide +kernel
theorem dX7_has_43 : decode cX7_has 43 = .ok (.aload_n 0, 1) := by decide +kernel
theorem dX7_has_44 : decode cX7_has 44 = .ok (.getfield 7, 3) := by decide +kernel
theorem dX7_has_47 : decode cX7_has 47 = .ok (.iload 5, 2) := by decide +kernel
theorem dX7_has_49 : decode cX7_has 49 = .ok (.iaload, 1) := by decide +kernel
theorem dX7_has_50 : decode cX7_has 50 = .ok (.ifCond .ne 36, 3) := by decide +kernel
theorem dX7_has_53 : decode cX7_has 53 = .ok (.iload_n 3, 1) := by decide +kernel
theorem dX7_has_54 : decode cX7_has 54 = .ok (.ifCond .ne 20, 3) := by decide +kernel
theorem dX7_has_57 : decode cX7_has 57 = .ok (.aload_n 0, 1) := by decide +kernel
theorem dX7_has_58 : decode cX7_has 58 = .ok (.getfield 7, 3) := by decide +kernel
theorem dX7_has_61 : decode cX7_has 61 = .ok (.iload 5, 2) := by decide +kernel
theorem dX7_has_63 : decode cX7_has 63 = .ok (.bipush 21, 2) := by decide +kernel
theorem dX7_has_65 : decode cX7_has 65 = .ok (.iadd, 1) := by decide +kernel
theorem dX7_has_66 : decode cX7_has 66 = .ok (.iload 6, 2) := by decide +kernel
theorem dX7_has_68 : decode cX7_has 68 = .ok (.iadd, 1) := by decide +kernel
theorem dX7_has_69 : decode cX7_has 69 = .ok (.iaload, 1) := by decide +kernel
theorem dX7_has_70 : decode cX7_has 70 = .ok (.iload_n 2, 1) := by decide +kernel
theorem dX7_has_71 : decode cX7_has 71 = .ok (.if_icmp .ne 7, 3) := by decide +kernel
theorem dX7_has_74 : decode cX7_has 74 = .ok (.iconst 1, 1) := by decide +kernel
theorem dX7_has_75 : decode cX7_has 75 = .ok (.goto 4, 3) := by decide +kernel
theorem dX7_has_78 : decode cX7_has 78 = .ok (.iconst 0, 1) := by decide +kernel
theorem dX7_has_79 : decode cX7_has 79 = .ok (.istore_n 3, 1) := by decide +kernel
theorem dX7_has_80 : decode cX7_has 80 = .ok (.iinc 6 1, 3) := by decide +kernel
theorem dX7_has_83 : decode cX7_has 83 = .ok (.goto (-47), 3) := by decide +kernel
theorem dX7_has_86 : decode cX7_has 86 = .ok (.iinc 4 1, 3) := by decide +kernel
theorem dX7_has_89 : decode cX7_has 89 = .ok (.goto (-84), 3) := by decide +kernel
theorem dX7_has_92 : decode cX7_has 92 = .ok (.iload_n 3, 1) := by decide +kernel
theorem dX7_has_93 : decode cX7_has 93 = .ok (.ireturn, 1) := by decide +kernel
def f_X7_has (u0 : S1) (p1 : Int32) (p2 : Int32) : Option (Int32) := qj2 (fun (r5_1 : Int32 → Int32 → Option (Int32)) (y5_1_3 : Int32) (y5_1_4 : Int32) => jn (some (vp_nar .boolean y5_1_3)) (fun k92_2 => if 32 ≤ y5_1_4 then k92_2 else chk (inb p1 5) (if (u0 1 (p1).toNatClampNeg) = 0 then k92_2 else if y5_1_3 = 0 then bn (f_X7_at p1 y5_1_4) (fun z_6 => qj4 (fun (r36_7 : Int32 → Int32 → Int32 → Int32 → Option (Int32)) (y36_7_3 : Int32) (y36_7_4 : Int32) (y36_7_5 : Int32) (y36_7_6 : Int32) => jn (r5_1 y36_7_3 (y36_7_4 + 1)) (fun k86_8 => if 16 ≤ y36_7_6 then k86_8 else chk (inb y36_7_5 8480) (if (u0 0 (y36_7_5).toNatClampNeg) = 0 then jn (fun (v79_11_0 : Int32) => r36_7 v79_11_0 y36_7_4 y36_7_5 (y36_7_6 + 1)) (fun k79_11 => jn (k79_11 1) (fun k74_12 => if y36_7_3 = 0 then chk (inb ((y36_7_5 + 21) + y36_7_6) 8480) (if (u0 0 ((y36_7_5 + 21) + y36_7_6).toNatClampNeg) = p2 then k74_12 else k79_11 0) else k74_12)) else k86_8))) (fun k36_7 => k36_7 y5_1_3 y5_1_4 z_6 0)) else k92_2))) (fun k5_1 => k5_1 0 0)
def rmX7_has : Room := { frames := 1, cells := 0, slots := 0, locals := 21 }
set_option maxHeartbeats 4000000 in
set_option maxRecDepth 100000 in
theorem c_X7_has (l : Launch) (D : va_G) (cI cZ cJ cT : ClassId) (a0 : Nat → Nat) (u0 : S1) (p1 : Int32) (p2 : Int32) (o : Int32) (hf : f_X7_has u0 p1 p2 = some o) : Met l yX7_has wsX7_has rmX7_has (va_Pc [.ref (a0 0), .int p1, .int p2] (PR D cls (tys cI cZ cJ cT) ((wX7 cI cZ a0 u0)))) (QR o) 0 0 (fun _ => False) := by
  refine Met.ofW (cc := cX7_has) (maxL := 7) (ret := (some .boolean)) (by decide) rfl ?_
  intro p e s m args below meth c s₁ B hml hv
  obtain ⟨hav, hP, hK⟩ := hv
  have hx := B.exec
  have hb := B.bytes
  have hr := B.returns
  have hlocks := B.notSynchronized
  have hts := atoms_spec (ws := wsX7_has) B.pre
  have hown : s.vm.findClass RX7 = some m.cls := findClass_of_methodNamed B.named
  have i7 : ∀ w ∈ wsX70, w ∈ wsX7_has := fun w h => List.mem_cons_of_mem _ (List.mem_append_right _ h)
  have hk7 := hts (.fieldLink RX7 7 "InoderyModel" "s" "[I") (by decide +kernel)
  have hk13 := hts (.fieldLink RX7 13 "InoderyModel" "isGiven" "[Z") (by decide +kernel)
  refine Wq (fun Q hQ => ?_)
  refine W_entry hav (Nat.le_of_ble_eq_true rfl) (fun ls hl => ?_)
  have hl : lv_has ls 7 [(0, .ref (a0 0)), (1, .int p1), (2, .int p2)] := hl
  unfold f_X7_has at hf
  refine lv_iconst (v := 0) hx hb dX7_has_0 (by decide) ?_
  refine lv_istore_n (lv' := [(3, .int 0), (0, .ref (a0 0)), (1, .int p1), (2, .int p2)]) hx hb dX7_has_1 rfl hl (by decide) rfl (fun ls hl => ?_)
  refine lv_iconst (v := 0) hx hb dX7_has_2 (by decide) ?_
  refine lv_istore (lv' := [(4, .int 0), (3, .int 0), (0, .ref (a0 0)), (1, .int p1), (2, .int p2)]) hx hb dX7_has_3 hl (by decide) rfl (fun ls hl => ?_)
  obtain ⟨G5_1, hG5_1, hf⟩ := qj2_some hf
  have j5_1 : ∀ (n : Nat) (y5_1_3 : Int32) (y5_1_4 : Int32) (ls : Array Slot), ql2 G5_1 n y5_1_3 y5_1_4 = some o → lv_has ls 7 [(0, .ref (a0 0)), (1, .int p1), (2, .int p2), (3, .int y5_1_3), (4, .int y5_1_4)] → W p l e (headSpec wsX7_has rmX7_has).room s m args below meth c s.heap [] 0 0 Q (F0 m 5 ls []) := by
    intro n
    induction n with
    | zero => intro y5_1_3 y5_1_4 ls hf hl; exact (ql2_z hf).elim
    | succ n ih5_1 =>
      intro y5_1_3 y5_1_4 ls hf hl
      have hf := ql2_s hG5_1 hf
      obtain ⟨r5_1, hr5_1⟩ : ∃ z, z = ql2 G5_1 n := ⟨_, rfl⟩
      rw [← hr5_1] at hf ih5_1
      refine lv_iload hx hb dX7_has_5 (lv_at hl 4 rfl) ?_
      refine lv_bipush (v := 32) hx hb dX7_has_7 (by decide) ?_
      obtain ⟨k92_2, hk92_2, hf⟩ := jn_some hf
      have j92_2 : ∀ (ls : Array Slot), k92_2 = some o → lv_has ls 7 [(3, .int y5_1_3)] → W p l e (headSpec wsX7_has rmX7_has).room s m args below meth c s.heap [] 0 0 Q (F0 m 92 ls []) := by
        intro ls hf hl
        have hf := qa0 hk92_2 hf
        refine lv_iload_n hx hb dX7_has_92 rfl (lv_at hl 0 rfl) ?_
        rw [hQ]
        exact zretN (v := y5_1_3) (v' := vp_nar .boolean y5_1_3) hx hb hr rfl (fun t ht hW => ⟨_, rfl, Option.some.inj hf, ht⟩) (fun _ h => nomatch h) dX7_has_93 hlocks
      refine lv_icmp_ge (tgt := 92) hx hb dX7_has_9 (by decide) (fun c_3 => ?_) (fun c_3 => ?_)
      · have hf := ite_t hf c_3
        exact j92_2 _ hf (lv_sub hl [3] rfl)
      · have hf := ite_f hf c_3
        refine lv_aload_n hx hb dX7_has_12 rfl (lv_at hl 0 rfl) ?_
        refine va_get (D := D) (ci := 7) (v := .ref (a0 2)) (C := RX7) (T := TX7) (N := 19) hx hb hts i7 hown hK hP 0 rfl rfl 1 (by decide) hk13 (fun _ h9 => h9) rfl dX7_has_13 ?_
        refine lv_iload_n hx hb dX7_has_16 rfl (lv_at hl 1 rfl) ?_
        obtain ⟨hi, hf⟩ := chk_some hf
        refine va_zald hx hb hK hP 2 1 rfl rfl (inb_in hi) dX7_has_17 ?_
        refine lv_if_eq (tgt := 92) hx hb dX7_has_18 (by decide) (fun c_4 => ?_) (fun c_4 => ?_)
        · have hf := ite_t hf c_4
          exact j92_2 _ hf (lv_sub hl [3] rfl)
        · have hf := ite_f hf c_4
          refine lv_iload_n hx hb dX7_has_21 rfl (lv_at hl 3 rfl) ?_
          refine lv_if_ne (tgt := 92) hx hb dX7_has_22 (by decide) (fun c_5 => ?_) (fun c_5 => ?_)
          · have hf := ite_f hf c_5
            exact j92_2 _ hf (lv_sub hl [3] rfl)
          · have hf := ite_t hf c_5
            refine lv_iload_n hx hb dX7_has_25 rfl (lv_at hl 1 rfl) ?_
            refine lv_iload hx hb dX7_has_26 (lv_at hl 4 rfl) ?_
            obtain ⟨z_6, hz_6, hf⟩ := bn_some hf
            refine c0S (As := [.int p1, .int y5_1_4]) (rest := []) ⟨hx, hb, hml, hown, hts⟩ (c_X7_at l D cI cZ cJ cT p1 y5_1_4 z_6 hz_6) (va_cwS 2 hts gX7_has_X7_at rfl rfl rfl (by decide +kernel) ⟨Nat.le_of_ble_eq_true rfl, Nat.le_of_ble_eq_true rfl⟩) rfl rfl hl.1 (Nat.le_of_ble_eq_true rfl) dX7_has_28 ⟨Nat.le_of_ble_eq_true rfl, Nat.le_of_ble_eq_true rfl⟩ ?_
            refine lv_istore (lv' := [(5, .int z_6), (0, .ref (a0 0)), (1, .int p1), (2, .int p2), (3, .int y5_1_3), (4, .int y5_1_4)]) hx hb dX7_has_31 hl (by decide) rfl (fun ls hl => ?_)
            refine lv_iconst (v := 0) hx hb dX7_has_33 (by decide) ?_
            refine lv_istore (lv' := [(6, .int 0), (5, .int z_6), (0, .ref (a0 0)), (1, .int p1), (2, .int p2), (3, .int y5_1_3), (4, .int y5_1_4)]) hx hb dX7_has_34 hl (by decide) rfl (fun ls hl => ?_)
            obtain ⟨G36_7, hG36_7, hf⟩ := qj4_some hf
            have j36_7 : ∀ (n : Nat) (y36_7_3 : Int32) (y36_7_4 : Int32) (y36_7_5 : Int32) (y36_7_6 : Int32) (ls : Array Slot), ql4 G36_7 n y36_7_3 y36_7_4 y36_7_5 y36_7_6 = some o → lv_has ls 7 [(0, .ref (a0 0)), (1, .int p1), (2, .int p2), (3, .int y36_7_3), (4, .int y36_7_4), (5, .int y36_7_5), (6, .int y36_7_6)] → W p l e (headSpec wsX7_has rmX7_has).room s m args below meth c s.heap [] 0 0 Q (F0 m 36 ls []) := by
              intro n
              induction n with
              | zero => intro y36_7_3 y36_7_4 y36_7_5 y36_7_6 ls hf hl; exact (ql4_z hf).elim
              | succ n ih36_7 =>
                intro y36_7_3 y36_7_4 y36_7_5 y36_7_6 ls hf hl
                have hf := ql4_s hG36_7 hf
                obtain ⟨r36_7, hr36_7⟩ : ∃ z, z = ql4 G36_7 n := ⟨_, rfl⟩
                rw [← hr36_7] at hf ih36_7
                refine lv_iload hx hb dX7_has_36 (lv_at hl 6 rfl) ?_
                refine lv_bipush (v := 16) hx hb dX7_has_38 (by decide) ?_
                obtain ⟨k86_8, hk86_8, hf⟩ := jn_some hf
                have j86_8 : ∀ (ls : Array Slot), k86_8 = some o → lv_has ls 7 [(0, .ref (a0 0)), (1, .int p1), (2, .int p2), (3, .int y36_7_3), (4, .int y36_7_4)] → W p l e (headSpec wsX7_has rmX7_has).room s m args below meth c s.heap [] 0 0 Q (F0 m 86 ls []) := by
                  intro ls hf hl
                  have hf := qa0 hk86_8 hf
                  refine lv_iinc (v := y36_7_4 + 1) (lv' := [(4, .int (y36_7_4 + 1)), (0, .ref (a0 0)), (1, .int p1), (2, .int p2), (3, .int y36_7_3)]) hx hb dX7_has_86 hl (k := 4) rfl rfl (by decide) rfl (fun ls hl => ?_)
                  refine lv_goto (tgt := 5) hx hb dX7_has_89 (by decide) ?_
                  exact ih5_1 _ _ _ hf (lv_sub hl [1, 2, 3, 4, 0] rfl)
                refine lv_icmp_ge (tgt := 86) hx hb dX7_has_40 (by decide) (fun c_9 => ?_) (fun c_9 => ?_)
                · have hf := ite_t hf c_9
                  exact j86_8 _ hf (lv_sub hl [0, 1, 2, 3, 4] rfl)
                · have hf := ite_f hf c_9
                  refine lv_aload_n hx hb dX7_has_43 rfl (lv_at hl 0 rfl) ?_
                  refine va_get (D := D) (ci := 7) (v := .ref (a0 1)) (C := RX7) (T := TX7) (N := 19) hx hb hts i7 hown hK hP 0 rfl rfl 0 (by decide) hk7 (fun _ h9 => h9) rfl dX7_has_44 ?_
                  refine lv_iload hx hb dX7_has_47 (lv_at hl 5 rfl) ?_
                  obtain ⟨hi, hf⟩ := chk_some hf
                  refine va_iald hx hb hK hP 1 0 rfl rfl (inb_in hi) dX7_has_49 ?_
                  refine lv_if_ne (tgt := 86) hx hb dX7_has_50 (by decide) (fun c_10 => ?_) (fun c_10 => ?_)
                  · have hf := ite_f hf c_10
                    exact j86_8 _ hf (lv_sub hl [0, 1, 2, 3, 4] rfl)
                  · have hf := ite_t hf c_10
                    refine lv_iload_n hx hb dX7_has_53 rfl (lv_at hl 3 rfl) ?_
                    obtain ⟨k79_11, hk79_11, hf⟩ := jn_some hf
                    have j79_11 : ∀ (v79_11_0 : Int32) (ls : Array Slot), k79_11 v79_11_0 = some o → lv_has ls 7 [(0, .ref (a0 0)), (1, .int p1), (2, .int p2), (4, .int y36_7_4), (5, .int y36_7_5), (6, .int y36_7_6)] → W p l e (headSpec wsX7_has rmX7_has).room s m args below meth c s.heap [] 0 0 Q (F0 m 79 ls [.int v79_11_0]) := by
                      intro v79_11_0 ls hf hl
                      have hf := qa1 hk79_11 hf
                      refine lv_istore_n (lv' := [(3, .int v79_11_0), (0, .ref (a0 0)), (1, .int p1), (2, .int p2), (4, .int y36_7_4), (5, .int y36_7_5), (6, .int y36_7_6)]) hx hb dX7_has_79 rfl hl (by decide) rfl (fun ls hl => ?_)
                      refine lv_iinc (v := y36_7_6 + 1) (lv' := [(6, .int (y36_7_6 + 1)), (3, .int v79_11_0), (0, .ref (a0 0)), (1, .int p1), (2, .int p2), (4, .int y36_7_4), (5, .int y36_7_5)]) hx hb dX7_has_80 hl (k := 6) rfl rfl (by decide) rfl (fun ls hl => ?_)
                      refine lv_goto (tgt := 36) hx hb dX7_has_83 (by decide) ?_
                      exact ih36_7 _ _ _ _ _ hf (lv_sub hl [2, 3, 4, 1, 5, 6, 0] rfl)
                    obtain ⟨k74_12, hk74_12, hf⟩ := jn_some hf
                    have j74_12 : ∀ (ls : Array Slot), k74_12 = some o → lv_has ls 7 [(0, .ref (a0 0)), (1, .int p1), (2, .int p2), (4, .int y36_7_4), (5, .int y36_7_5), (6, .int y36_7_6)] → W p l e (headSpec wsX7_has rmX7_has).room s m args below meth c s.heap [] 0 0 Q (F0 m 74 ls []) := by
                      intro ls hf hl
                      have hf := qa0 hk74_12 hf
                      refine lv_iconst (v := 1) hx hb dX7_has_74 (by decide) ?_
                      refine lv_goto (tgt := 79) hx hb dX7_has_75 (by decide) ?_
                      exact j79_11 _ _ hf (lv_sub hl [0, 1, 2, 3, 4, 5] rfl)
                    refine lv_if_ne (tgt := 74) hx hb dX7_has_54 (by decide) (fun c_13 => ?_) (fun c_13 => ?_)
                    · have hf := ite_f hf c_13
                      exact j74_12 _ hf (lv_sub hl [0, 1, 2, 4, 5, 6] rfl)
                    · have hf := ite_t hf c_13
                      refine lv_aload_n hx hb dX7_has_57 rfl (lv_at hl 0 rfl) ?_
                      refine va_get (D := D) (ci := 7) (v := .ref (a0 1)) (C := RX7) (T := TX7) (N := 19) hx hb hts i7 hown hK hP 0 rfl rfl 0 (by decide) hk7 (fun _ h9 => h9) rfl dX7_has_58 ?_
                      refine lv_iload hx hb dX7_has_61 (lv_at hl 5 rfl) ?_
                      refine lv_bipush (v := 21) hx hb dX7_has_63 (by decide) ?_
                      refine lv_iadd hx hb dX7_has_65 ?_
                      refine lv_iload hx hb dX7_has_66 (lv_at hl 6 rfl) ?_
                      refine lv_iadd hx hb dX7_has_68 ?_
                      obtain ⟨hi, hf⟩ := chk_some hf
                      refine va_iald hx hb hK hP 1 0 rfl rfl (inb_in hi) dX7_has_69 ?_
                      refine lv_iload_n hx hb dX7_has_70 rfl (lv_at hl 2 rfl) ?_
                      refine lv_icmp_ne (tgt := 78) hx hb dX7_has_71 (by decide) (fun c_14 => ?_) (fun c_14 => ?_)
                      · have hf := ite_f hf c_14
                        refine lv_iconst (v := 0) hx hb dX7_has_78 (by decide) ?_
                        exact j79_11 _ _ hf (lv_sub hl [0, 1, 2, 4, 5, 6] rfl)
                      · have hf := ite_t hf c_14
                        exact j74_12 _ hf (lv_sub hl [0, 1, 2, 4, 5, 6] rfl)
            exact j36_7 4096 _ _ _ _ _ hf (lv_sub hl [2, 3, 4, 5, 6, 1, 0] rfl)
  exact j5_1 4096 _ _ _ hf (lv_sub hl [2, 3, 4, 1, 0] rfl)
set_option maxRecDepth 20000 in
theorem ggX7_frees_X7_has : GoodIn wsX7_frees wsX7_has := goodIn_r _ [5, 6, 7, 8, 9, 4, 10, 11, 12, 13, 14, 15, 16, 17, 18, 19, 20, 21, 22, 23, 24, 25, 26, 27, 28, 29] (by decide +kernel) (by decide +kernel)
set_option maxRecDepth 20000 in
theorem gX7_frees_X7_has : GoodIn wsX7_frees (wsV RX7 75 RX7 yX7_has wsX7_has) := goodIn_app (goodIn_of _ (by decide +kernel)) ggX7_frees_X7_has
theorem dX7_frees_0 : decode cX7_frees 0 = .ok (.aload_n 0, 1) := by decide +kernel
theorem dX7_frees_1 : decode cX7_frees 1 = .ok (.iconst 0, 1) := by decide +kernel
theorem dX7_frees_2 : decode cX7_frees 2 = .ok (.iload_n 1, 1) := by decide +kernel
theorem dX7_frees_3 : decode cX7_frees 3 = .ok (.invokevirtual 75, 3) := by decide +kernel
theorem dX7_frees_6 : decode cX7_frees 6 = .ok (.ifCond .ne 43, 3) := by decide +kernel
theorem dX7_frees_9 : decode cX7_frees 9 = .ok (.aload_n 0, 1) := by decide +kernel
theorem dX7_frees_10 : decode cX7_frees 10 = .ok (.iconst 1, 1) := by decide +kernel
theorem dX7_frees_11 : decode cX7_frees 11 = .ok (.iload_n 1, 1) := by decide +kernel
theorem dX7_frees_12 : decode cX7_frees 12 = .ok (.invokevirtual 75, 3) := by decide +kernel
theorem dX7_frees_15 : decode cX7_frees 15 = .ok (.ifCond .ne 34, 3) := by decide +kernel
theorem dX7_frees_18 : decode cX7_frees 18 = .ok (.aload_n 0, 1) := by decide +kernel
theorem dX7_frees_19 : decode cX7_frees 19 = .ok (.iconst 2, 1) := by decide +kernel
theorem dX7_frees_20 : decode cX7_frees 20 = .ok (.iload_n 1, 1) := by decide +kernel
theorem dX7_frees_21 : decode cX7_frees 21 = .ok (.invokevirtual 75, 3) := by decide +kernel
theorem dX7_frees_24 : decode cX7_frees 24 = .ok (.ifCond .ne 25, 3) := by decide +kernel
theorem dX7_frees_27 : decode cX7_frees 27 = .ok (.aload_n 0, 1) := by decide +kernel
theorem dX7_frees_28 : decode cX7_frees 28 = .ok (.iconst 3, 1) := by decide +kernel
theorem dX7_frees_29 : decode cX7_frees 29 = .ok (.iload_n 1, 1) := by decide +kernel
theorem dX7_frees_30 : decode cX7_frees 30 = .ok (.invokevirtual 75, 3) := by decide +kernel
theorem dX7_frees_33 : decode cX7_frees 33 = .ok (.ifCond .ne 16, 3) := by decide +kernel
theorem dX7_frees_36 : decode cX7_frees 36 = .ok (.aload_n 0, 1) := by decide +kernel
theorem dX7_frees_37 : decode cX7_frees 37 = .ok (.iconst 4, 1) := by decide +kernel
theorem dX7_frees_38 : decode cX7_frees 38 = .ok (.iload_n 1, 1) := by decide +kernel
theorem dX7_frees_39 : decode cX7_frees 39 = .ok (.invokevirtual 75, 3) := by decide +kernel
theorem dX7_frees_42 : decode cX7_frees 42 = .ok (.ifCond .ne 7, 3) := by decide +kernel
theorem dX7_frees_45 : decode cX7_frees 45 = .ok (.iconst 1, 1) := by decide +kernel
theorem dX7_frees_46 : decode cX7_frees 46 = .ok (.goto 4, 3) := by decide +kernel
theorem dX7_frees_49 : decode cX7_frees 49 = .ok (.iconst 0, 1) := by decide +kernel
theorem dX7_frees_50 : decode cX7_frees 50 = .ok (.ireturn, 1) := by decide +kernel
def f_X7_frees (u0 : S1) (p1 : Int32) : Option (Int32) := bn (f_X7_has u0 0 p1) (fun z_1 => jn (fun (v50_2_0 : Int32) => some (vp_nar .boolean v50_2_0)) (fun k50_2 => jn (k50_2 0) (fun k49_3 => if z_1 = 0 then bn (f_X7_has u0 1 p1) (fun z_5 => if z_5 = 0 then bn (f_X7_has u0 2 p1) (fun z_7 => if z_7 = 0 then bn (f_X7_has u0 3 p1) (fun z_9 => if z_9 = 0 then bn (f_X7_has u0 4 p1) (fun z_11 => if z_11 = 0 then k50_2 1 else k49_3) else k49_3) else k49_3) else k49_3) else k49_3)))
def rmX7_frees : Room := { frames := 2, cells := 0, slots := 0, locals := 47 }
set_option maxHeartbeats 4000000 in
set_option maxRecDepth 100000 in
theorem c_X7_frees (l : Launch) (D : va_G) (cI cZ cJ cT : ClassId) (a0 : Nat → Nat) (u0 : S1) (p1 : Int32) (o : Int32) (hf : f_X7_frees u0 p1 = some o) : Met l yX7_frees wsX7_frees rmX7_frees (va_Pc [.ref (a0 0), .int p1] (PR D cls (tys cI cZ cJ cT) ((wX7 cI cZ a0 u0)))) (QR o) 0 0 (fun _ => False) := by
  refine Met.ofW (cc := cX7_frees) (maxL := 2) (ret := (some .boolean)) (by decide) rfl ?_
  intro p e s m args below meth c s₁ B hml hv
  obtain ⟨hav, hP, hK⟩ := hv
  have hx := B.exec
  have hb := B.bytes
  have hr := B.returns
  have hlocks := B.notSynchronized
  have hts := atoms_spec (ws := wsX7_frees) B.pre
  have hown : s.vm.findClass RX7 = some m.cls := findClass_of_methodNamed B.named
  refine Wq (fun Q hQ => ?_)
  refine W_entry hav (Nat.le_of_ble_eq_true rfl) (fun ls hl => ?_)
  have hl : lv_has ls 2 [(0, .ref (a0 0)), (1, .int p1)] := hl
  unfold f_X7_frees at hf
  refine lv_aload_n hx hb dX7_frees_0 rfl (lv_at hl 0 rfl) ?_
  refine lv_iconst (v := 0) hx hb dX7_frees_1 (by decide) ?_
  refine lv_iload_n hx hb dX7_frees_2 rfl (lv_at hl 1 rfl) ?_
  obtain ⟨z_1, hz_1, hf⟩ := bn_some hf
  refine cRV (As := [.int 0, .int p1]) (rest := []) ⟨hx, hb, hml, hown, hts⟩ (c_X7_has l D cI cZ cJ cT a0 u0 0 p1 z_1 hz_1) (cwV 2 hts gX7_frees_X7_has rfl rfl rfl (by decide +kernel) ⟨Nat.le_of_ble_eq_true rfl, Nat.le_of_ble_eq_true rfl⟩) hP hK (va_recv hK hP (ci := 7) (q0 := 0) rfl rfl) rfl rfl hl.1 (Nat.le_of_ble_eq_true rfl) dX7_frees_3 ⟨Nat.le_of_ble_eq_true rfl, Nat.le_of_ble_eq_true rfl⟩ ?_
  obtain ⟨k50_2, hk50_2, hf⟩ := jn_some hf
  have j50_2 : ∀ (v50_2_0 : Int32) (ls : Array Slot), k50_2 v50_2_0 = some o → lv_has ls 2 [] → W p l e (headSpec wsX7_frees rmX7_frees).room s m args below meth c s.heap [] 0 0 Q (F0 m 50 ls [.int v50_2_0]) := by
    intro v50_2_0 ls hf hl
    have hf := qa1 hk50_2 hf
    rw [hQ]
    exact zretN (v := v50_2_0) (v' := vp_nar .boolean v50_2_0) hx hb hr rfl (fun t ht hW => ⟨_, rfl, Option.some.inj hf, ht⟩) (fun _ h => nomatch h) dX7_frees_50 hlocks
  obtain ⟨k49_3, hk49_3, hf⟩ := jn_some hf
  have j49_3 : ∀ (ls : Array Slot), k49_3 = some o → lv_has ls 2 [] → W p l e (headSpec wsX7_frees rmX7_frees).room s m args below meth c s.heap [] 0 0 Q (F0 m 49 ls []) := by
    intro ls hf hl
    have hf := qa0 hk49_3 hf
    refine lv_iconst (v := 0) hx hb dX7_frees_49 (by decide) ?_
    exact j50_2 _ _ hf (lv_sub hl [] rfl)
  refine lv_if_ne (tgt := 49) hx hb dX7_frees_6 (by decide) (fun c_4 => ?_) (fun c_4 => ?_)
  · have hf := ite_f hf c_4
    exact j49_3 _ hf (lv_sub hl [] rfl)
  · have hf := ite_t hf c_4
    refine lv_aload_n hx hb dX7_frees_9 rfl (lv_at hl 0 rfl) ?_
    refine lv_iconst (v := 1) hx hb dX7_frees_10 (by decide) ?_
    refine lv_iload_n hx hb dX7_frees_11 rfl (lv_at hl 1 rfl) ?_
    obtain ⟨z_5, hz_5, hf⟩ := bn_some hf
    refine cRV (As := [.int 1, .int p1]) (rest := []) ⟨hx, hb, hml, hown, hts⟩ (c_X7_has l D cI cZ cJ cT a0 u0 1 p1 z_5 hz_5) (cwV 2 hts gX7_frees_X7_has rfl rfl rfl (by decide +kernel) ⟨Nat.le_of_ble_eq_true rfl, Nat.le_of_ble_eq_true rfl⟩) hP hK (va_recv hK hP (ci := 7) (q0 := 0) rfl rfl) rfl rfl hl.1 (Nat.le_of_ble_eq_true rfl) dX7_frees_12 ⟨Nat.le_of_ble_eq_true rfl, Nat.le_of_ble_eq_true rfl⟩ ?_
    refine lv_if_ne (tgt := 49) hx hb dX7_frees_15 (by decide) (fun c_6 => ?_) (fun c_6 => ?_)
    · have hf := ite_f hf c_6
      exact j49_3 _ hf (lv_sub hl [] rfl)
    · have hf := ite_t hf c_6
      refine lv_aload_n hx hb dX7_frees_18 rfl (lv_at hl 0 rfl) ?_
      refine lv_iconst (v := 2) hx hb dX7_frees_19 (by decide) ?_
      refine lv_iload_n hx hb dX7_frees_20 rfl (lv_at hl 1 rfl) ?_
      obtain ⟨z_7, hz_7, hf⟩ := bn_some hf
      refine cRV (As := [.int 2, .int p1]) (rest := []) ⟨hx, hb, hml, hown, hts⟩ (c_X7_has l D cI cZ cJ cT a0 u0 2 p1 z_7 hz_7) (cwV 2 hts gX7_frees_X7_has rfl rfl rfl (by decide +kernel) ⟨Nat.le_of_ble_eq_true rfl, Nat.le_of_ble_eq_true rfl⟩) hP hK (va_recv hK hP (ci := 7) (q0 := 0) rfl rfl) rfl rfl hl.1 (Nat.le_of_ble_eq_true rfl) dX7_frees_21 ⟨Nat.le_of_ble_eq_true rfl, Nat.le_of_ble_eq_true rfl⟩ ?_
      refine lv_if_ne (tgt := 49) hx hb dX7_frees_24 (by decide) (fun c_8 => ?_) (fun c_8 => ?_)
      · have hf := ite_f hf c_8
        exact j49_3 _ hf (lv_sub hl [] rfl)
      · have hf := ite_t hf c_8
        refine lv_aload_n hx hb dX7_frees_27 rfl (lv_at hl 0 rfl) ?_
        refine lv_iconst (v := 3) hx hb dX7_frees_28 (by decide) ?_
        refine lv_iload_n hx hb dX7_frees_29 rfl (lv_at hl 1 rfl) ?_
        obtain ⟨z_9, hz_9, hf⟩ := bn_some hf
        refine cRV (As := [.int 3, .int p1]) (rest := []) ⟨hx, hb, hml, hown, hts⟩ (c_X7_has l D cI cZ cJ cT a0 u0 3 p1 z_9 hz_9) (cwV 2 hts gX7_frees_X7_has rfl rfl rfl (by decide +kernel) ⟨Nat.le_of_ble_eq_true rfl, Nat.le_of_ble_eq_true rfl⟩) hP hK (va_recv hK hP (ci := 7) (q0 := 0) rfl rfl) rfl rfl hl.1 (Nat.le_of_ble_eq_true rfl) dX7_frees_30 ⟨Nat.le_of_ble_eq_true rfl, Nat.le_of_ble_eq_true rfl⟩ ?_
        refine lv_if_ne (tgt := 49) hx hb dX7_frees_33 (by decide) (fun c_10 => ?_) (fun c_10 => ?_)
        · have hf := ite_f hf c_10
          exact j49_3 _ hf (lv_sub hl [] rfl)
        · have hf := ite_t hf c_10
          refine lv_aload_n hx hb dX7_frees_36 rfl (lv_at hl 0 rfl) ?_
          refine lv_iconst (v := 4) hx hb dX7_frees_37 (by decide) ?_
          refine lv_iload_n hx hb dX7_frees_38 rfl (lv_at hl 1 rfl) ?_
          obtain ⟨z_11, hz_11, hf⟩ := bn_some hf
          refine cRV (As := [.int 4, .int p1]) (rest := []) ⟨hx, hb, hml, hown, hts⟩ (c_X7_has l D cI cZ cJ cT a0 u0 4 p1 z_11 hz_11) (cwV 2 hts gX7_frees_X7_has rfl rfl rfl (by decide +kernel) ⟨Nat.le_of_ble_eq_true rfl, Nat.le_of_ble_eq_true rfl⟩) hP hK (va_recv hK hP (ci := 7) (q0 := 0) rfl rfl) rfl rfl hl.1 (Nat.le_of_ble_eq_true rfl) dX7_frees_39 ⟨Nat.le_of_ble_eq_true rfl, Nat.le_of_ble_eq_true rfl⟩ ?_
          refine lv_if_ne (tgt := 49) hx hb dX7_frees_42 (by decide) (fun c_12 => ?_) (fun c_12 => ?_)
          · have hf := ite_f hf c_12
            exact j49_3 _ hf (lv_sub hl [] rfl)
          · have hf := ite_t hf c_12
            refine lv_iconst (v := 1) hx hb dX7_frees_45 (by decide) ?_
            refine lv_goto (tgt := 50) hx hb dX7_frees_46 (by decide) ?_
            exact j50_2 _ _ hf (lv_sub hl [] rfl)
set_option maxRecDepth 20000 in
theorem ggX7_isOld_X7_has : GoodIn wsX7_isOld wsX7_has := goodIn_r _ [5, 6, 7, 8, 9, 4, 10, 11, 12, 13, 14, 15, 16, 17, 18, 19, 20, 21, 22, 23, 24, 25, 26, 27, 28, 29] (by decide +kernel) (by decide +kernel)
set_option maxRecDepth 20000 in
theorem gX7_isOld_X7_has : GoodIn wsX7_isOld (wsV RX7 75 RX7 yX7_has wsX7_has) := goodIn_app (goodIn_of _ (by decide +kernel)) ggX7_isOld_X7_has
theorem dX7_isOld_0 : decode cX7_isOld 0 = .ok (.aload_n 0, 1) := by decide +kernel
theorem dX7_isOld_1 : decode cX7_isOld 1 = .ok (.iconst 2, 1) := by decide +kernel
theorem dX7_isOld_2 : decode cX7_isOld 2 = .ok (.iload_n 1, 1) := by decide +kernel
theorem dX7_isOld_3 : decode cX7_isOld 3 = .ok (.invokevirtual 75, 3) := by decide +kernel
theorem dX7_isOld_6 : decode cX7_isOld 6 = .ok (.ifCond .ne 21, 3) := by decide +kernel
theorem dX7_isOld_9 : decode cX7_isOld 9 = .ok (.aload_n 0, 1) := by decide +kernel
theorem dX7_isOld_10 : decode cX7_isOld 10 = .ok (.iconst 3, 1) := by decide +kernel
theorem dX7_isOld_11 : decode cX7_isOld 11 = .ok (.iload_n 1, 1) := by decide +kernel
theorem dX7_isOld_12 : decode cX7_isOld 12 = .ok (.invokevirtual 75, 3) := by decide +kernel
theorem dX7_isOld_15 : decode cX7_isOld 15 = .ok (.ifCond .ne 12, 3) := by decide +kernel
theorem dX7_isOld_18 : decode cX7_isOld 18 = .ok (.aload_n 0, 1) := by decide +kernel
theorem dX7_isOld_19 : decode cX7_isOld 19 = .ok (.iconst 4, 1) := by decide +kernel
theorem dX7_isOld_20 : decode cX7_isOld 20 = .ok (.iload_n 1, 1) := by decide +kernel
theorem dX7_isOld_21 : decode cX7_isOld 21 = .ok (.invokevirtual 75, 3) := by decide +kernel
theorem dX7_isOld_24 : decode cX7_isOld 24 = .ok (.ifCond .eq 7, 3) := by decide +kernel
theorem dX7_isOld_27 : decode cX7_isOld 27 = .ok (.iconst 1, 1) := by decide +kernel
theorem dX7_isOld_28 : decode cX7_isOld 28 = .ok (.goto 4, 3) := by decide +kernel
theorem dX7_isOld_31 : decode cX7_isOld 31 = .ok (.iconst 0, 1) := by decide +kernel
theorem dX7_isOld_32 : decode cX7_isOld 32 = .ok (.ireturn, 1) := by decide +kernel
def f_X7_isOld (u0 : S1) (p1 : Int32) : Option (Int32) := bn (f_X7_has u0 2 p1) (fun z_1 => jn (fun (v32_2_0 : Int32) => some (vp_nar .boolean v32_2_0)) (fun k32_2 => jn (k32_2 1) (fun k27_3 => if z_1 = 0 then bn (f_X7_has u0 3 p1) (fun z_5 => if z_5 = 0 then bn (f_X7_has u0 4 p1) (fun z_7 => if z_7 = 0 then k32_2 0 else k27_3) else k27_3) else k27_3)))
def rmX7_isOld : Room := { frames := 2, cells := 0, slots := 0, locals := 47 }
set_option maxHeartbeats 4000000 in
set_option maxRecDepth 100000 in
theorem c_X7_isOld (l : Launch) (D : va_G) (cI cZ cJ cT : ClassId) (a0 : Nat → Nat) (u0 : S1) (p1 : Int32) (o : Int32) (hf : f_X7_isOld u0 p1 = some o) : Met l yX7_isOld wsX7_isOld rmX7_isOld (va_Pc [.ref (a0 0), .int p1] (PR D cls (tys cI cZ cJ cT) ((wX7 cI cZ a0 u0)))) (QR o) 0 0 (fun _ => False) := by
  refine Met.ofW (cc := cX7_isOld) (maxL := 2) (ret := (some .boolean)) (by decide) rfl ?_
  intro p e s m args below meth c s₁ B hml hv
  obtain ⟨hav, hP, hK⟩ := hv
  have hx := B.exec
  have hb := B.bytes
  have hr := B.returns
  have hlocks := B.notSynchronized
  have hts := atoms_spec (ws := wsX7_isOld) B.pre
  have hown : s.vm.findClass RX7 = some m.cls := findClass_of_methodNamed B.named
  refine Wq (fun Q hQ => ?_)
  refine W_entry hav (Nat.le_of_ble_eq_true rfl) (fun ls hl => ?_)
  have hl : lv_has ls 2 [(0, .ref (a0 0)), (1, .int p1)] := hl
  unfold f_X7_isOld at hf
  refine lv_aload_n hx hb dX7_isOld_0 rfl (lv_at hl 0 rfl) ?_
  refine lv_iconst (v := 2) hx hb dX7_isOld_1 (by decide) ?_
  refine lv_iload_n hx hb dX7_isOld_2 rfl (lv_at hl 1 rfl) ?_
  obtain ⟨z_1, hz_1, hf⟩ := bn_some hf
  refine cRV (As := [.int 2, .int p1]) (rest := []) ⟨hx, hb, hml, hown, hts⟩ (c_X7_has l D cI cZ cJ cT a0 u0 2 p1 z_1 hz_1) (cwV 2 hts gX7_isOld_X7_has rfl rfl rfl (by decide +kernel) ⟨Nat.le_of_ble_eq_true rfl, Nat.le_of_ble_eq_true rfl⟩) hP hK (va_recv hK hP (ci := 7) (q0 := 0) rfl rfl) rfl rfl hl.1 (Nat.le_of_ble_eq_true rfl) dX7_isOld_3 ⟨Nat.le_of_ble_eq_true rfl, Nat.le_of_ble_eq_true rfl⟩ ?_
  obtain ⟨k32_2, hk32_2, hf⟩ := jn_some hf
  have j32_2 : ∀ (v32_2_0 : Int32) (ls : Array Slot), k32_2 v32_2_0 = some o → lv_has ls 2 [] → W p l e (headSpec wsX7_isOld rmX7_isOld).room s m args below meth c s.heap [] 0 0 Q (F0 m 32 ls [.int v32_2_0]) := by
    intro v32_2_0 ls hf hl
    have hf := qa1 hk32_2 hf
    rw [hQ]
    exact zretN (v := v32_2_0) (v' := vp_nar .boolean v32_2_0) hx hb hr rfl (fun t ht hW => ⟨_, rfl, Option.some.inj hf, ht⟩) (fun _ h => nomatch h) dX7_isOld_32 hlocks
  obtain ⟨k27_3, hk27_3, hf⟩ := jn_some hf
  have j27_3 : ∀ (ls : Array Slot), k27_3 = some o → lv_has ls 2 [] → W p l e (headSpec wsX7_isOld rmX7_isOld).room s m args below meth c s.heap [] 0 0 Q (F0 m 27 ls []) := by
    intro ls hf hl
    have hf := qa0 hk27_3 hf
    refine lv_iconst (v := 1) hx hb dX7_isOld_27 (by decide) ?_
    refine lv_goto (tgt := 32) hx hb dX7_isOld_28 (by decide) ?_
    exact j32_2 _ _ hf (lv_sub hl [] rfl)
  refine lv_if_ne (tgt := 27) hx hb dX7_isOld_6 (by decide) (fun c_4 => ?_) (fun c_4 => ?_)
  · have hf := ite_f hf c_4
    exact j27_3 _ hf (lv_sub hl [] rfl)
  · have hf := ite_t hf c_4
    refine lv_aload_n hx hb dX7_isOld_9 rfl (lv_at hl 0 rfl) ?_
    refine lv_iconst (v := 3) hx hb dX7_isOld_10 (by decide) ?_
    refine lv_iload_n hx hb dX7_isOld_11 rfl (lv_at hl 1 rfl) ?_
    obtain ⟨z_5, hz_5, hf⟩ := bn_some hf
    refine cRV (As := [.int 3, .int p1]) (rest := []) ⟨hx, hb, hml, hown, hts⟩ (c_X7_has l D cI cZ cJ cT a0 u0 3 p1 z_5 hz_5) (cwV 2 hts gX7_isOld_X7_has rfl rfl rfl (by decide +kernel) ⟨Nat.le_of_ble_eq_true rfl, Nat.le_of_ble_eq_true rfl⟩) hP hK (va_recv hK hP (ci := 7) (q0 := 0) rfl rfl) rfl rfl hl.1 (Nat.le_of_ble_eq_true rfl) dX7_isOld_12 ⟨Nat.le_of_ble_eq_true rfl, Nat.le_of_ble_eq_true rfl⟩ ?_
    refine lv_if_ne (tgt := 27) hx hb dX7_isOld_15 (by decide) (fun c_6 => ?_) (fun c_6 => ?_)
    · have hf := ite_f hf c_6
      exact j27_3 _ hf (lv_sub hl [] rfl)
    · have hf := ite_t hf c_6
      refine lv_aload_n hx hb dX7_isOld_18 rfl (lv_at hl 0 rfl) ?_
      refine lv_iconst (v := 4) hx hb dX7_isOld_19 (by decide) ?_
      refine lv_iload_n hx hb dX7_isOld_20 rfl (lv_at hl 1 rfl) ?_
      obtain ⟨z_7, hz_7, hf⟩ := bn_some hf
      refine cRV (As := [.int 4, .int p1]) (rest := []) ⟨hx, hb, hml, hown, hts⟩ (c_X7_has l D cI cZ cJ cT a0 u0 4 p1 z_7 hz_7) (cwV 2 hts gX7_isOld_X7_has rfl rfl rfl (by decide +kernel) ⟨Nat.le_of_ble_eq_true rfl, Nat.le_of_ble_eq_true rfl⟩) hP hK (va_recv hK hP (ci := 7) (q0 := 0) rfl rfl) rfl rfl hl.1 (Nat.le_of_ble_eq_true rfl) dX7_isOld_21 ⟨Nat.le_of_ble_eq_true rfl, Nat.le_of_ble_eq_true rfl⟩ ?_
      refine lv_if_eq (tgt := 31) hx hb dX7_isOld_24 (by decide) (fun c_8 => ?_) (fun c_8 => ?_)
      · have hf := ite_t hf c_8
        refine lv_iconst (v := 0) hx hb dX7_isOld_31 (by decide) ?_
        exact j32_2 _ _ hf (lv_sub hl [] rfl)
      · have hf := ite_f hf c_8
        exact j27_3 _ hf (lv_sub hl [] rfl)
set_option maxRecDepth 20000 in
theorem ggX7_pagesOf_X7_blockOf : GoodIn wsX7_pagesOf wsX7_blockOf := goodIn_r _ [5, 6, 7, 8, 4, 9, 10, 11, 12, 13, 14, 15, 16, 17, 18, 19, 20, 21, 22, 23, 24, 25, 26, 27, 28] (by decide +kernel) (by decide +kernel)
set_option maxRecDepth 20000 in
theorem gX7_pagesOf_X7_blockOf : GoodIn wsX7_pagesOf (wsV RX7 82 RX7 yX7_blockOf wsX7_blockOf) := goodIn_app (goodIn_of _ (by decide +kernel)) ggX7_pagesOf_X7_blockOf
theorem dX7_pagesOf_0 : decode cX7_pagesOf 0 = .ok (.iconst 0, 1) := by decide +kernel
theorem dX7_pagesOf_1 : decode cX7_pagesOf 1 = .ok (.istore_n 2, 1) := by decide +kernel
theorem dX7_pagesOf_2 : decode cX7_pagesOf 2 = .ok (.iconst 0, 1) := by decide +kernel
theorem dX7_pagesOf_3 : decode cX7_pagesOf 3 = .ok (.istore_n 3, 1) := by decide +kernel
theorem dX7_pagesOf_4 : decode cX7_pagesOf 4 = .ok (.iload_n 3, 1) := by decide +kernel
theorem dX7_pagesOf_5 : decode cX7_pagesOf 5 = .ok (.bipush 16, 2) := by decide +kernel
theorem dX7_pagesOf_7 : decode cX7_pagesOf 7 = .ok (.if_icmp .ge 27, 3) := by decide +kernel
theorem dX7_pagesOf_10 : decode cX7_pagesOf 10 = .ok (.iload_n 2, 1) := by decide +kernel
theorem dX7_pagesOf_11 : decode cX7_pagesOf 11 = .ok (.aload_n 0, 1) := by decide +kernel
theorem dX7_pagesOf_12 : decode cX7_pagesOf 12 = .ok (.iload_n 1, 1) := by decide +kernel
theorem dX7_pagesOf_13 : decode cX7_pagesOf 13 = .ok (.iload_n 3, 1) := by decide +kernel
theorem dX7_pagesOf_14 : decode cX7_pagesOf 14 = .ok (.invokevirtual 82, 3) := by decide +kernel
theorem dX7_pagesOf_17 : decode cX7_pagesOf 17 = .ok (.iconst (-1), 1) := by decide +kernel
theorem dX7_pagesOf_18 : decode cX7_pagesOf 18 = .ok (.if_icmp .ne 7, 3) := by decide +kernel
theorem dX7_pagesOf_21 : decode cX7_pagesOf 21 = .ok (.iconst 0, 1) := by decide +kernel
theorem dX7_pagesOf_22 : decode cX7_pagesOf 22 = .ok (.goto 4, 3) := by decide +kernel
theorem dX7_pagesOf_25 : decode cX7_pagesOf 25 = .ok (.iconst 1, 1) := by decide +kernel
theorem dX7_pagesOf_26 : decode cX7_pagesOf 26 = .ok (.iadd, 1) := by decide +kernel
theorem dX7_pagesOf_27 : decode cX7_pagesOf 27 = .ok (.istore_n 2, 1) := by decide +kernel
theorem dX7_pagesOf_28 : decode cX7_pagesOf 28 = .ok (.iinc 3 1, 3) := by decide +kernel
theorem dX7_pagesOf_31 : decode cX7_pagesOf 31 = .ok (.goto (-27), 3) := by decide +kernel
theorem dX7_pagesOf_34 : decode cX7_pagesOf 34 = .ok (.iload_n 2, 1) := by decide +kernel
theorem dX7_pagesOf_35 : decode cX7_pagesOf 35 = .ok (.ireturn, 1) := by decide +kernel
def f_X7_pagesOf (u0 : S1) (p1 : Int32) : Option (Int32) := qj2 (fun (r4_1 : Int32 → Int32 → Option (Int32)) (y4_1_2 : Int32) (y4_1_3 : Int32) => if 16 ≤ y4_1_3 then some y4_1_2 else bn (f_X7_blockOf u0 p1 y4_1_3) (fun z_3 => jn (fun (v26_4_0 : Int32) => r4_1 (y4_1_2 + v26_4_0) (y4_1_3 + 1)) (fun k26_4 => if z_3 = (-1) then k26_4 0 else k26_4 1))) (fun k4_1 => k4_1 0 0)
def rmX7_pagesOf : Room := { frames := 2, cells := 0, slots := 0, locals := 43 }
set_option maxHeartbeats 4000000 in
set_option maxRecDepth 100000 in
theorem c_X7_pagesOf (l : Launch) (D : va_G) (cI cZ cJ cT : ClassId) (a0 : Nat → Nat) (u0 : S1) (p1 : Int32) (o : Int32) (hf : f_X7_pagesOf u0 p1 = some o) : Met l yX7_pagesOf wsX7_pagesOf rmX7_pagesOf (va_Pc [.ref (a0 0), .int p1] (PR D cls (tys cI cZ cJ cT) ((wX7 cI cZ a0 u0)))) (QR o) 0 0 (fun _ => False) := by
  refine Met.ofW (cc := cX7_pagesOf) (maxL := 4) (ret := (some .int)) (by decide) rfl ?_
  intro p e s m args below meth c s₁ B hml hv
  obtain ⟨hav, hP, hK⟩ := hv
  have hx := B.exec
  have hb := B.bytes
  have hr := B.returns
  have hlocks := B.notSynchronized
  have hts := atoms_spec (ws := wsX7_pagesOf) B.pre
  have hown : s.vm.findClass RX7 = some m.cls := findClass_of_methodNamed B.named
  refine Wq (fun Q hQ => ?_)
  refine W_entry hav (Nat.le_of_ble_eq_true rfl) (fun ls hl => ?_)
  have hl : lv_has ls 4 [(0, .ref (a0 0)), (1, .int p1)] := hl
  unfold f_X7_pagesOf at hf
  refine lv_iconst (v := 0) hx hb dX7_pagesOf_0 (by decide) ?_
  refine lv_istore_n (lv' := [(2, .int 0), (0, .ref (a0 0)), (1, .int p1)]) hx hb dX7_pagesOf_1 rfl hl (by decide) rfl (fun ls hl => ?_)
  refine lv_iconst (v := 0) hx hb dX7_pagesOf_2 (by decide) ?_
  refine lv_istore_n (lv' := [(3, .int 0), (2, .int 0), (0, .ref (a0 0)), (1, .int p1)]) hx hb dX7_pagesOf_3 rfl hl (by decide) rfl (fun ls hl => ?_)
  obtain ⟨G4_1, hG4_1, hf⟩ := qj2_some hf
  have j4_1 : ∀ (n : Nat) (y4_1_2 : Int32) (y4_1_3 : Int32) (ls : Array Slot), ql2 G4_1 n y4_1_2 y4_1_3 = some o → lv_has ls 4 [(0, .ref (a0 0)), (1, .int p1), (2, .int y4_1_2), (3, .int y4_1_3)] → W p l e (headSpec wsX7_pagesOf rmX7_pagesOf).room s m args below meth c s.heap [] 0 0 Q (F0 m 4 ls []) := by
    intro n
    induction n with
    | zero => intro y4_1_2 y4_1_3 ls hf hl; exact (ql2_z hf).elim
    | succ n ih4_1 =>
      intro y4_1_2 y4_1_3 ls hf hl
      have hf := ql2_s hG4_1 hf
      obtain ⟨r4_1, hr4_1⟩ : ∃ z, z = ql2 G4_1 n := ⟨_, rfl⟩
      rw [← hr4_1] at hf ih4_1
      refine lv_iload_n hx hb dX7_pagesOf_4 rfl (lv_at hl 3 rfl) ?_
      refine lv_bipush (v := 16) hx hb dX7_pagesOf_5 (by decide) ?_
      refine lv_icmp_ge (tgt := 34) hx hb dX7_pagesOf_7 (by decide) (fun c_2 => ?_) (fun c_2 => ?_)
      · have hf := ite_t hf c_2
        refine lv_iload_n hx hb dX7_pagesOf_34 rfl (lv_at hl 2 rfl) ?_
        rw [hQ]
        exact W.iret hx hb hr (fun t ht hW => ⟨_, rfl, Option.some.inj hf, ht⟩) (fun _ h => nomatch h) dX7_pagesOf_35 hlocks
      · have hf := ite_f hf c_2
        refine lv_iload_n hx hb dX7_pagesOf_10 rfl (lv_at hl 2 rfl) ?_
        refine lv_aload_n hx hb dX7_pagesOf_11 rfl (lv_at hl 0 rfl) ?_
        refine lv_iload_n hx hb dX7_pagesOf_12 rfl (lv_at hl 1 rfl) ?_
        refine lv_iload_n hx hb dX7_pagesOf_13 rfl (lv_at hl 3 rfl) ?_
        obtain ⟨z_3, hz_3, hf⟩ := bn_some hf
        refine cRV (As := [.int p1, .int y4_1_3]) (rest := [.int y4_1_2]) ⟨hx, hb, hml, hown, hts⟩ (c_X7_blockOf l D cI cZ cJ cT a0 u0 p1 y4_1_3 z_3 hz_3) (cwV 2 hts gX7_pagesOf_X7_blockOf rfl rfl rfl (by decide +kernel) ⟨Nat.le_of_ble_eq_true rfl, Nat.le_of_ble_eq_true rfl⟩) hP hK (va_recv hK hP (ci := 7) (q0 := 0) rfl rfl) rfl rfl hl.1 (Nat.le_of_ble_eq_true rfl) dX7_pagesOf_14 ⟨Nat.le_of_ble_eq_true rfl, Nat.le_of_ble_eq_true rfl⟩ ?_
        refine lv_iconst (v := (-1)) hx hb dX7_pagesOf_17 (by decide) ?_
        obtain ⟨k26_4, hk26_4, hf⟩ := jn_some hf
        have j26_4 : ∀ (v26_4_0 : Int32) (ls : Array Slot), k26_4 v26_4_0 = some o → lv_has ls 4 [(0, .ref (a0 0)), (1, .int p1), (3, .int y4_1_3)] → W p l e (headSpec wsX7_pagesOf rmX7_pagesOf).room s m args below meth c s.heap [] 0 0 Q (F0 m 26 ls [.int v26_4_0, .int y4_1_2]) := by
          intro v26_4_0 ls hf hl
          have hf := qa1 hk26_4 hf
          refine lv_iadd hx hb dX7_pagesOf_26 ?_
          refine lv_istore_n (lv' := [(2, .int (y4_1_2 + v26_4_0)), (0, .ref (a0 0)), (1, .int p1), (3, .int y4_1_3)]) hx hb dX7_pagesOf_27 rfl hl (by decide) rfl (fun ls hl => ?_)
          refine lv_iinc (v := y4_1_3 + 1) (lv' := [(3, .int (y4_1_3 + 1)), (2, .int (y4_1_2 + v26_4_0)), (0, .ref (a0 0)), (1, .int p1)]) hx hb dX7_pagesOf_28 hl (k := 3) rfl rfl (by decide) rfl (fun ls hl => ?_)
          refine lv_goto (tgt := 4) hx hb dX7_pagesOf_31 (by decide) ?_
          exact ih4_1 _ _ _ hf (lv_sub hl [2, 3, 1, 0] rfl)
        refine lv_icmp_ne (tgt := 25) hx hb dX7_pagesOf_18 (by decide) (fun c_5 => ?_) (fun c_5 => ?_)
        · have hf := ite_f hf c_5
          refine lv_iconst (v := 1) hx hb dX7_pagesOf_25 (by decide) ?_
          exact j26_4 _ _ hf (lv_sub hl [0, 1, 3] rfl)
        · have hf := ite_t hf c_5
          refine lv_iconst (v := 0) hx hb dX7_pagesOf_21 (by decide) ?_
          refine lv_goto (tgt := 26) hx hb dX7_pagesOf_22 (by decide) ?_
          exact j26_4 _ _ hf (lv_sub hl [0, 1, 3] rfl)
  exact j4_1 4096 _ _ _ hf (lv_sub hl [2, 3, 1, 0] rfl)
set_option maxRecDepth 20000 in
theorem ggX7_blocksOf_X7_at : GoodIn wsX7_blocksOf wsX7_at := goodIn_r _ [5] (by decide +kernel) (by decide +kernel)
set_option maxRecDepth 20000 in
theorem gX7_blocksOf_X7_at : GoodIn wsX7_blocksOf (va_wsS RX7 67 yX7_at wsX7_at) := goodIn_app (goodIn_of _ (by decide +kernel)) ggX7_blocksOf_X7_at
set_option maxRecDepth 20000 in
theorem ggX7_blocksOf_X7_pagesOf : GoodIn wsX7_blocksOf wsX7_pagesOf := goodIn_r _ [9, 10, 11, 12, 4, 13, 1, 2, 3, 5, 14, 15, 16, 17, 18, 19, 20, 21, 22, 23, 24, 25, 26, 27, 28, 29, 30, 31, 32] (by decide +kernel) (by decide +kernel)
set_option maxRecDepth 20000 in
theorem gX7_blocksOf_X7_pagesOf : GoodIn wsX7_blocksOf (wsV RX7 78 RX7 yX7_pagesOf wsX7_pagesOf) := goodIn_app (goodIn_of _ (by decide +kernel)) ggX7_blocksOf_X7_pagesOf
theorem dX7_blocksOf_0 : decode cX7_blocksOf 0 = .ok (.iconst 0, 1) := by decide +kernel
theorem dX7_blocksOf_1 : decode cX7_blocksOf 1 = .ok (.istore_n 2, 1) := by decide +kernel
theorem dX7_blocksOf_2 : decode cX7_blocksOf 2 = .ok (.iconst 0, 1) := by decide +kernel
theorem dX7_blocksOf_3 : decode cX7_blocksOf 3 = .ok (.istore_n 3, 1) := by decide +kernel
theorem dX7_blocksOf_4 : decode cX7_blocksOf 4 = .ok (.iload_n 3, 1) := by decide +kernel
theorem dX7_blocksOf_5 : decode cX7_blocksOf 5 = .ok (.bipush 32, 2) := by decide +kernel
theorem dX7_blocksOf_7 : decode cX7_blocksOf 7 = .ok (.if_icmp .ge 50, 3) := by decide +kernel
theorem dX7_blocksOf_10 : decode cX7_blocksOf 10 = .ok (.iload_n 2, 1) := by decide +kernel
theorem dX7_blocksOf_11 : decode cX7_blocksOf 11 = .ok (.aload_n 0, 1) := by decide +kernel
theorem dX7_blocksOf_12 : decode cX7_blocksOf 12 = .ok (.getfield 7, 3) := by decide +kernel
theorem dX7_blocksOf_15 : decode cX7_blocksOf 15 = .ok (.iconst 0, 1) := by decide +kernel
theorem dX7_blocksOf_16 : decode cX7_blocksOf 16 = .ok (.iload_n 3, 1) := by decide +kernel
theorem dX7_blocksOf_17 : decode cX7_blocksOf 17 = .ok (.invokestatic 67, 3) := by decide +kernel
theorem dX7_blocksOf_20 : decode cX7_blocksOf 20 = .ok (.iaload, 1) := by decide +kernel
theorem dX7_blocksOf_21 : decode cX7_blocksOf 21 = .ok (.ifCond .ne 27, 3) := by decide +kernel
theorem dX7_blocksOf_24 : decode cX7_blocksOf 24 = .ok (.aload_n 0, 1) := by decide +kernel
theorem dX7_blocksOf_25 : decode cX7_blocksOf 25 = .ok (.getfield 7, 3) := by decide +kernel
theorem dX7_blocksOf_28 : decode cX7_blocksOf 28 = .ok (.iconst 0, 1) := by decide +kernel
theorem dX7_blocksOf_29 : decode cX7_blocksOf 29 = .ok (.iload_n 3, 1) := by decide +kernel
theorem dX7_blocksOf_30 : decode cX7_blocksOf 30 = .ok (.invokestatic 67, 3) := by decide +kernel
theorem dX7_blocksOf_33 : decode cX7_blocksOf 33 = .ok (.iconst 1, 1) := by decide +kernel
theorem dX7_blocksOf_34 : decode cX7_blocksOf 34 = .ok (.iadd, 1) := by decide +kernel
theorem dX7_blocksOf_35 : decode cX7_blocksOf 35 = .ok (.iaload, 1) := by decide +kernel
theorem dX7_blocksOf_36 : decode cX7_blocksOf 36 = .ok (.iload_n 1, 1) := by decide +kernel
theorem dX7_blocksOf_37 : decode cX7_blocksOf 37 = .ok (.if_icmp .ne 11, 3) := by decide +kernel
theorem dX7_blocksOf_40 : decode cX7_blocksOf 40 = .ok (.aload_n 0, 1) := by decide +kernel
theorem dX7_blocksOf_41 : decode cX7_blocksOf 41 = .ok (.iload_n 3, 1) := by decide +kernel
theorem dX7_blocksOf_42 : decode cX7_blocksOf 42 = .ok (.invokevirtual 78, 3) := by decide +kernel
theorem dX7_blocksOf_45 : decode cX7_blocksOf 45 = .ok (.goto 4, 3) := by decide +kernel
theorem dX7_blocksOf_48 : decode cX7_blocksOf 48 = .ok (.iconst 0, 1) := by decide +kernel
theorem dX7_blocksOf_49 : decode cX7_blocksOf 49 = .ok (.iadd, 1) := by decide +kernel
theorem dX7_blocksOf_50 : decode cX7_blocksOf 50 = .ok (.istore_n 2, 1) := by decide +kernel
theorem dX7_blocksOf_51 : decode cX7_blocksOf 51 = .ok (.iinc 3 1, 3) := by decide +kernel
theorem dX7_blocksOf_54 : decode cX7_blocksOf 54 = .ok (.goto (-50), 3) := by decide +kernel
theorem dX7_blocksOf_57 : decode cX7_blocksOf 57 = .ok (.iload_n 2, 1) := by decide +kernel
theorem dX7_blocksOf_58 : decode cX7_blocksOf 58 = .ok (.ireturn, 1) := by decide +kernel
def f_X7_blocksOf (u0 : S1) (p1 : Int32) : Option (Int32) := qj2 (fun (r4_1 : Int32 → Int32 → Option (Int32)) (y4_1_2 : Int32) (y4_1_3 : Int32) => if 32 ≤ y4_1_3 then some y4_1_2 else bn (f_X7_at 0 y4_1_3) (fun z_3 => chk (inb z_3 8480) (jn (fun (v49_4_0 : Int32) => r4_1 (y4_1_2 + v49_4_0) (y4_1_3 + 1)) (fun k49_4 => jn (k49_4 0) (fun k48_5 => if (u0 0 (z_3).toNatClampNeg) = 0 then bn (f_X7_at 0 y4_1_3) (fun z_7 => chk (inb (z_7 + 1) 8480) (if (u0 0 (z_7 + 1).toNatClampNeg) = p1 then bn (f_X7_pagesOf u0 y4_1_3) (fun z_9 => k49_4 z_9) else k48_5)) else k48_5))))) (fun k4_1 => k4_1 0 0)
def rmX7_blocksOf : Room := { frames := 3, cells := 0, slots := 0, locals := 66 }
set_option maxHeartbeats 4000000 in
set_option maxRecDepth 100000 in
theorem c_X7_blocksOf (l : Launch) (D : va_G) (cI cZ cJ cT : ClassId) (a0 : Nat → Nat) (u0 : S1) (p1 : Int32) (o : Int32) (hf : f_X7_blocksOf u0 p1 = some o) : Met l yX7_blocksOf wsX7_blocksOf rmX7_blocksOf (va_Pc [.ref (a0 0), .int p1] (PR D cls (tys cI cZ cJ cT) ((wX7 cI cZ a0 u0)))) (QR o) 0 0 (fun _ => False) := by
  refine Met.ofW (cc := cX7_blocksOf) (maxL := 4) (ret := (some .int)) (by decide) rfl ?_
  intro p e s m args below meth c s₁ B hml hv
  obtain ⟨hav, hP, hK⟩ := hv
  have hx := B.exec
  have hb := B.bytes
  have hr := B.returns
  have hlocks := B.notSynchronized
  have hts := atoms_spec (ws := wsX7_blocksOf) B.pre
  have hown : s.vm.findClass RX7 = some m.cls := findClass_of_methodNamed B.named
  have i7 : ∀ w ∈ wsX70, w ∈ wsX7_blocksOf := fun w h => List.mem_cons_of_mem _ (List.mem_append_right _ h)
  have hk7 := hts (.fieldLink RX7 7 "InoderyModel" "s" "[I") (by decide +kernel)
  refine Wq (fun Q hQ => ?_)
  refine W_entry hav (Nat.le_of_ble_eq_true rfl) (fun ls hl => ?_)
  have hl : lv_has ls 4 [(0, .ref (a0 0)), (1, .int p1)] := hl
  unfold f_X7_blocksOf at hf
  refine lv_iconst (v := 0) hx hb dX7_blocksOf_0 (by decide) ?_
  refine lv_istore_n (lv' := [(2, .int 0), (0, .ref (a0 0)), (1, .int p1)]) hx hb dX7_blocksOf_1 rfl hl (by decide) rfl (fun ls hl => ?_)
  refine lv_iconst (v := 0) hx hb dX7_blocksOf_2 (by decide) ?_
  refine lv_istore_n (lv' := [(3, .int 0), (2, .int 0), (0, .ref (a0 0)), (1, .int p1)]) hx hb dX7_blocksOf_3 rfl hl (by decide) rfl (fun ls hl => ?_)
  obtain ⟨G4_1, hG4_1, hf⟩ := qj2_some hf
  have j4_1 : ∀ (n : Nat) (y4_1_2 : Int32) (y4_1_3 : Int32) (ls : Array Slot), ql2 G4_1 n y4_1_2 y4_1_3 = some o → lv_has ls 4 [(0, .ref (a0 0)), (1, .int p1), (2, .int y4_1_2), (3, .int y4_1_3)] → W p l e (headSpec wsX7_blocksOf rmX7_blocksOf).room s m args below meth c s.heap [] 0 0 Q (F0 m 4 ls []) := by
    intro n
    induction n with
    | zero => intro y4_1_2 y4_1_3 ls hf hl; exact (ql2_z hf).elim
    | succ n ih4_1 =>
      intro y4_1_2 y4_1_3 ls hf hl
      have hf := ql2_s hG4_1 hf
      obtain ⟨r4_1, hr4_1⟩ : ∃ z, z = ql2 G4_1 n := ⟨_, rfl⟩
      rw [← hr4_1] at hf ih4_1
      refine lv_iload_n hx hb dX7_blocksOf_4 rfl (lv_at hl 3 rfl) ?_
      refine lv_bipush (v := 32) hx hb dX7_blocksOf_5 (by decide) ?_
      refine lv_icmp_ge (tgt := 57) hx hb dX7_blocksOf_7 (by decide) (fun c_2 => ?_) (fun c_2 => ?_)
      · have hf := ite_t hf c_2
        refine lv_iload_n hx hb dX7_blocksOf_57 rfl (lv_at hl 2 rfl) ?_
        rw [hQ]
        exact W.iret hx hb hr (fun t ht hW => ⟨_, rfl, Option.some.inj hf, ht⟩) (fun _ h => nomatch h) dX7_blocksOf_58 hlocks
      · have hf := ite_f hf c_2
        refine lv_iload_n hx hb dX7_blocksOf_10 rfl (lv_at hl 2 rfl) ?_
        refine lv_aload_n hx hb dX7_blocksOf_11 rfl (lv_at hl 0 rfl) ?_
        refine va_get (D := D) (ci := 7) (v := .ref (a0 1)) (C := RX7) (T := TX7) (N := 19) hx hb hts i7 hown hK hP 0 rfl rfl 0 (by decide) hk7 (fun _ h9 => h9) rfl dX7_blocksOf_12 ?_
        refine lv_iconst (v := 0) hx hb dX7_blocksOf_15 (by decide) ?_
        refine lv_iload_n hx hb dX7_blocksOf_16 rfl (lv_at hl 3 rfl) ?_
        obtain ⟨z_3, hz_3, hf⟩ := bn_some hf
        refine c0S (As := [.int 0, .int y4_1_3]) (rest := [.ref (a0 1), .int y4_1_2]) ⟨hx, hb, hml, hown, hts⟩ (c_X7_at l D cI cZ cJ cT 0 y4_1_3 z_3 hz_3) (va_cwS 2 hts gX7_blocksOf_X7_at rfl rfl rfl (by decide +kernel) ⟨Nat.le_of_ble_eq_true rfl, Nat.le_of_ble_eq_true rfl⟩) rfl rfl hl.1 (Nat.le_of_ble_eq_true rfl) dX7_blocksOf_17 ⟨Nat.le_of_ble_eq_true rfl, Nat.le_of_ble_eq_true rfl⟩ ?_
        obtain ⟨hi, hf⟩ := chk_some hf
        refine va_iald hx hb hK hP 1 0 rfl rfl (inb_in hi) dX7_blocksOf_20 ?_
        obtain ⟨k49_4, hk49_4, hf⟩ := jn_some hf
        have j49_4 : ∀ (v49_4_0 : Int32) (ls : Array Slot), k49_4 v49_4_0 = some o → lv_has ls 4 [(0, .ref (a0 0)), (1, .int p1), (3, .int y4_1_3)] → W p l e (headSpec wsX7_blocksOf rmX7_blocksOf).room s m args below meth c s.heap [] 0 0 Q (F0 m 49 ls [.int v49_4_0, .int y4_1_2]) := by
          intro v49_4_0 ls hf hl
          have hf := qa1 hk49_4 hf
          refine lv_iadd hx hb dX7_blocksOf_49 ?_
          refine lv_istore_n (lv' := [(2, .int (y4_1_2 + v49_4_0)), (0, .ref (a0 0)), (1, .int p1), (3, .int y4_1_3)]) hx hb dX7_blocksOf_50 rfl hl (by decide) rfl (fun ls hl => ?_)
          refine lv_iinc (v := y4_1_3 + 1) (lv' := [(3, .int (y4_1_3 + 1)), (2, .int (y4_1_2 + v49_4_0)), (0, .ref (a0 0)), (1, .int p1)]) hx hb dX7_blocksOf_51 hl (k := 3) rfl rfl (by decide) rfl (fun ls hl => ?_)
          refine lv_goto (tgt := 4) hx hb dX7_blocksOf_54 (by decide) ?_
          exact ih4_1 _ _ _ hf (lv_sub hl [2, 3, 1, 0] rfl)
        obtain ⟨k48_5, hk48_5, hf⟩ := jn_some hf
        have j48_5 : ∀ (ls : Array Slot), k48_5 = some o → lv_has ls 4 [(0, .ref (a0 0)), (1, .int p1), (3, .int y4_1_3)] → W p l e (headSpec wsX7_blocksOf rmX7_blocksOf).room s m args below meth c s.heap [] 0 0 Q (F0 m 48 ls [.int y4_1_2]) := by
          intro ls hf hl
          have hf := qa0 hk48_5 hf
          refine lv_iconst (v := 0) hx hb dX7_blocksOf_48 (by decide) ?_
          exact j49_4 _ _ hf (lv_sub hl [0, 1, 2] rfl)
        refine lv_if_ne (tgt := 48) hx hb dX7_blocksOf_21 (by decide) (fun c_6 => ?_) (fun c_6 => ?_)
        · have hf := ite_f hf c_6
          exact j48_5 _ hf (lv_sub hl [0, 1, 3] rfl)
        · have hf := ite_t hf c_6
          refine lv_aload_n hx hb dX7_blocksOf_24 rfl (lv_at hl 0 rfl) ?_
          refine va_get (D := D) (ci := 7) (v := .ref (a0 1)) (C := RX7) (T := TX7) (N := 19) hx hb hts i7 hown hK hP 0 rfl rfl 0 (by decide) hk7 (fun _ h9 => h9) rfl dX7_blocksOf_25 ?_
          refine lv_iconst (v := 0) hx hb dX7_blocksOf_28 (by decide) ?_
          refine lv_iload_n hx hb dX7_blocksOf_29 rfl (lv_at hl 3 rfl) ?_
          obtain ⟨z_7, hz_7, hf⟩ := bn_some hf
          refine c0S (As := [.int 0, .int y4_1_3]) (rest := [.ref (a0 1), .int y4_1_2]) ⟨hx, hb, hml, hown, hts⟩ (c_X7_at l D cI cZ cJ cT 0 y4_1_3 z_7 hz_7) (va_cwS 2 hts gX7_blocksOf_X7_at rfl rfl rfl (by decide +kernel) ⟨Nat.le_of_ble_eq_true rfl, Nat.le_of_ble_eq_true rfl⟩) rfl rfl hl.1 (Nat.le_of_ble_eq_true rfl) dX7_blocksOf_30 ⟨Nat.le_of_ble_eq_true rfl, Nat.le_of_ble_eq_true rfl⟩ ?_
          refine lv_iconst (v := 1) hx hb dX7_blocksOf_33 (by decide) ?_
          refine lv_iadd hx hb dX7_blocksOf_34 ?_
          obtain ⟨hi, hf⟩ := chk_some hf
          refine va_iald hx hb hK hP 1 0 rfl rfl (inb_in hi) dX7_blocksOf_35 ?_
          refine lv_iload_n hx hb dX7_blocksOf_36 rfl (lv_at hl 1 rfl) ?_
          refine lv_icmp_ne (tgt := 48) hx hb dX7_blocksOf_37 (by decide) (fun c_8 => ?_) (fun c_8 => ?_)
          · have hf := ite_f hf c_8
            exact j48_5 _ hf (lv_sub hl [0, 1, 3] rfl)
          · have hf := ite_t hf c_8
            refine lv_aload_n hx hb dX7_blocksOf_40 rfl (lv_at hl 0 rfl) ?_
            refine lv_iload_n hx hb dX7_blocksOf_41 rfl (lv_at hl 3 rfl) ?_
            obtain ⟨z_9, hz_9, hf⟩ := bn_some hf
            refine cRV (As := [.int y4_1_3]) (rest := [.int y4_1_2]) ⟨hx, hb, hml, hown, hts⟩ (c_X7_pagesOf l D cI cZ cJ cT a0 u0 y4_1_3 z_9 hz_9) (cwV 1 hts gX7_blocksOf_X7_pagesOf rfl rfl rfl (by decide +kernel) ⟨Nat.le_of_ble_eq_true rfl, Nat.le_of_ble_eq_true rfl⟩) hP hK (va_recv hK hP (ci := 7) (q0 := 0) rfl rfl) rfl rfl hl.1 (Nat.le_of_ble_eq_true rfl) dX7_blocksOf_42 ⟨Nat.le_of_ble_eq_true rfl, Nat.le_of_ble_eq_true rfl⟩ ?_
            refine lv_goto (tgt := 49) hx hb dX7_blocksOf_45 (by decide) ?_
            exact j49_4 _ _ hf (lv_sub hl [0, 1, 3] rfl)
  exact j4_1 4096 _ _ _ hf (lv_sub hl [2, 3, 1, 0] rfl)
set_option maxRecDepth 20000 in
theorem ggX7_makes_X7_at : GoodIn wsX7_makes wsX7_at := goodIn_r _ [7] (by decide +kernel) (by decide +kernel)
set_option maxRecDepth 20000 in
theorem gX7_makes_X7_at : GoodIn wsX7_makes (va_wsS RX7 67 yX7_at wsX7_at) := goodIn_app (goodIn_of _ (by decide +kernel)) ggX7_makes_X7_at
theorem dX7_makes_0 : decode cX7_makes 0 = .ok (.iconst 0, 1) := by decide +kernel
theorem dX7_makes_1 : decode cX7_makes 1 = .ok (.iload_n 1, 1) := by decide +kernel
theorem dX7_makes_2 : decode cX7_makes 2 = .ok (.invokestatic 67, 3) := by decide +kernel
theorem dX7_makes_5 : decode cX7_makes 5 = .ok (.istore 5, 2) := by decide +kernel
theorem dX7_makes_7 : decode cX7_makes 7 = .ok (.aload_n 0, 1) := by decide +kernel
theorem dX7_makes_8 : decode cX7_makes 8 = .ok (.getfield 7, 3) := by decide +kernel
theorem dX7_makes_11 : decode cX7_makes 11 = .ok (.iload 5, 2) := by decide +kernel
theorem dX7_makes_13 : decode cX7_makes 13 = .ok (.iload_n 2, 1) := by decide +kernel
theorem dX7_makes_14 : decode cX7_makes 14 = .ok (.iastore, 1) := by decide +kernel
theorem dX7_makes_15 : decode cX7_makes 15 = .ok (.aload_n 0, 1) := by decide +kernel
theorem dX7_makes_16 : decode cX7_makes 16 = .ok (.getfield 7, 3) := by decide +kernel
theorem dX7_makes_19 : decode cX7_makes 19 = .ok (.iload 5, 2) := by decide +kernel
theorem dX7_makes_21 : decode cX7_makes 21 = .ok (.iconst 1, 1) := by decide +kernel
theorem dX7_makes_22 : decode cX7_makes 22 = .ok (.iadd, 1) := by decide +kernel
theorem dX7_makes_23 : decode cX7_makes 23 = .ok (.aload_n 0, 1) := by decide +kernel
theorem dX7_makes_24 : decode cX7_makes 24 = .ok (.getfield 85, 3) := by decide +kernel
theorem dX7_makes_27 : decode cX7_makes 27 = .ok (.iastore, 1) := by decide +kernel
theorem dX7_makes_28 : decode cX7_makes 28 = .ok (.aload_n 0, 1) := by decide +kernel
theorem dX7_makes_29 : decode cX7_makes 29 = .ok (.getfield 7, 3) := by decide +kernel
theorem dX7_makes_32 : decode cX7_makes 32 = .ok (.iload 5, 2) := by decide +kernel
theorem dX7_makes_34 : decode cX7_makes 34 = .ok (.iconst 2, 1) := by decide +kernel
theorem dX7_makes_35 : decode cX7_makes 35 = .ok (.iadd, 1) := by decide +kernel
theorem dX7_makes_36 : decode cX7_makes 36 = .ok (.iload_n 3, 1) := by decide +kernel
theorem dX7_makes_37 : decode cX7_makes 37 = .ok (.iastore, 1) := by decide +kernel
theorem dX7_makes_38 : decode cX7_makes 38 = .ok (.aload_n 0, 1) := by decide +kernel
theorem dX7_makes_39 : decode cX7_makes 39 = .ok (.getfield 7, 3) := by decide +kernel
theorem dX7_makes_42 : decode cX7_makes 42 = .ok (.iload 5, 2) := by decide +kernel
theorem dX7_makes_44 : decode cX7_makes 44 = .ok (.iconst 3, 1) := by decide +kernel
theorem dX7_makes_45 : decode cX7_makes 45 = .ok (.iadd, 1) := by decide +kernel
theorem dX7_makes_46 : decode cX7_makes 46 = .ok (.iconst 1, 1) := by decide +kernel
theorem dX7_makes_47 : decode cX7_makes 47 = .ok (.iastore, 1) := by decide +kernel
theorem dX7_makes_48 : decode cX7_makes 48 = .ok (.aload_n 0, 1) := by decide +kernel
theorem dX7_makes_49 : decode cX7_makes 49 = .ok (.getfield 7, 3) := by decide +kernel
theorem dX7_makes_52 : decode cX7_makes 52 = .ok (.iload 5, 2) := by decide +kernel
theorem dX7_makes_54 : decode cX7_makes 54 = .ok (.iconst 4, 1) := by decide +kernel
theorem dX7_makes_55 : decode cX7_makes 55 = .ok (.iadd, 1) := by decide +kernel
theorem dX7_makes_56 : decode cX7_makes 56 = .ok (.iload 4, 2) := by decide +kernel
theorem dX7_makes_58 : decode cX7_makes 58 = .ok (.iastore, 1) := by decide +kernel
theorem dX7_makes_59 : decode cX7_makes 59 = .ok (.iconst 0, 1) := by decide +kernel
theorem dX7_makes_60 : decode cX7_makes 60 = .ok (.istore 6, 2) := by decide +kernel
theorem dX7_makes_62 : decode cX7_makes 62 = .ok (.iload 6, 2) := by decide +kernel
theorem dX7_makes_64 : decode cX7_makes 64 = .ok (.bipush 8, 2) := by decide +kernel
theorem dX7_makes_66 : decode cX7_makes 66 = .ok (.if_icmp .ge 36, 3) := by decide +kernel
theorem dX7_makes_69 : decode cX7_makes 69 = .ok (.aload_n 0, 1) := by decide +kernel
theorem dX7_makes_70 : decode cX7_makes 70 = .ok (.getfield 7, 3) := by decide +kernel
theorem dX7_makes_73 : decode cX7_makes 73 = .ok (.iload 5, 2) := by decide +kernel
theorem dX7_makes_75 : decode cX7_makes 75 = .ok (.iconst 5, 1) := by decide +kernel
theorem dX7_makes_76 : decode cX7_makes 76 = .ok (.iadd, 1) := by decide +kernel
theorem dX7_makes_77 : decode cX7_makes 77 = .ok (.iload 6, 2) := by decide +kernel
theorem dX7_makes_79 : decode cX7_makes 79 = .ok (.iadd, 1) := by decide +kernel
theorem dX7_makes_80 : decode cX7_makes 80 = .ok (.iconst (-1), 1) := by decide +kernel
theorem dX7_makes_81 : decode cX7_makes 81 = .ok (.iastore, 1) := by decide +kernel
theorem dX7_makes_82 : decode cX7_makes 82 = .ok (.aload_n 0, 1) := by decide +kernel
theorem dX7_makes_83 : decode cX7_makes 83 = .ok (.getfield 7, 3) := by decide +kernel
theorem dX7_makes_86 : decode cX7_makes 86 = .ok (.iload 5, 2) := by decide +kernel
theorem dX7_makes_88 : decode cX7_makes 88 = .ok (.bipush 13, 2) := by decide +kernel
theorem dX7_makes_90 : decode cX7_makes 90 = .ok (.iadd, 1) := by decide +kernel
theorem dX7_makes_91 : decode cX7_makes 91 = .ok (.iload 6, 2) := by decide +kernel
theorem dX7_makes_93 : decode cX7_makes 93 = .ok (.iadd, 1) := by decide +kernel
theorem dX7_makes_94 : decode cX7_makes 94 = .ok (.iconst (-1), 1) := by decide +kernel
theorem dX7_makes_95 : decode cX7_makes 95 = .ok (.iastore, 1) := by decide +kernel
theorem dX7_makes_96 : decode cX7_makes 96 = .ok (.iinc 6 1, 3) := by decide +kernel
theorem dX7_makes_99 : decode cX7_makes 99 = .ok (.goto (-37), 3) := by decide +kernel
theorem dX7_makes_102 : decode cX7_makes 102 = .ok (.iconst 0, 1) := by decide +kernel
theorem dX7_makes_103 : decode cX7_makes 103 = .ok (.istore 6, 2) := by decide +kernel
theorem dX7_makes_105 : decode cX7_makes 105 = .ok (.iload 6, 2) := by decide +kernel
theorem dX7_makes_107 : decode cX7_makes 107 = .ok (.bipush 16, 2) := by decide +kernel
theorem dX7_makes_109 : decode cX7_makes 109 = .ok (.if_icmp .ge 37, 3) := by decide +kernel
theorem dX7_makes_112 : decode cX7_makes 112 = .ok (.aload_n 0, 1) := by decide +kernel
theorem dX7_makes_113 : decode cX7_makes 113 = .ok (.getfield 7, 3) := by decide +kernel
theorem dX7_makes_116 : decode cX7_makes 116 = .ok (.iload 5, 2) := by decide +kernel
theorem dX7_makes_118 : decode cX7_makes 118 = .ok (.bipush 21, 2) := by decide +kernel
theorem dX7_makes_120 : decode cX7_makes 120 = .ok (.iadd, 1) := by decide +kernel
theorem dX7_makes_121 : decode cX7_makes 121 = .ok (.iload 6, 2) := by decide +kernel
theorem dX7_makes_123 : decode cX7_makes 123 = .ok (.iadd, 1) := by decide +kernel
theorem dX7_makes_124 : decode cX7_makes 124 = .ok (.iconst (-1), 1) := by decide +kernel
theorem dX7_makes_125 : decode cX7_makes 125 = .ok (.iastore, 1) := by decide +kernel
theorem dX7_makes_126 : decode cX7_makes 126 = .ok (.aload_n 0, 1) := by decide +kernel
theorem dX7_makes_127 : decode cX7_makes 127 = .ok (.getfield 7, 3) := by decide +kernel
theorem dX7_makes_130 : decode cX7_makes 130 = .ok (.iload 5, 2) := by decide +kernel
theorem dX7_makes_132 : decode cX7_makes 132 = .ok (.bipush 37, 2) := by decide +kernel
theorem dX7_makes_134 : decode cX7_makes 134 = .ok (.iadd, 1) := by decide +kernel
theorem dX7_makes_135 : decode cX7_makes 135 = .ok (.iload 6, 2) := by decide +kernel
theorem dX7_makes_137 : decode cX7_makes 137 = .ok (.iadd, 1) := by decide +kernel
theorem dX7_makes_138 : decode cX7_makes 138 = .ok (.iconst 0, 1) := by decide +kernel
theorem dX7_makes_139 : decode cX7_makes 139 = .ok (.iastore, 1) := by decide +kernel
theorem dX7_makes_140 : decode cX7_makes 140 = .ok (.iinc 6 1, 3) := by decide +kernel
theorem dX7_makes_143 : decode cX7_makes 143 = .ok (.goto (-38), 3) := by decide +kernel
theorem dX7_makes_146 : decode cX7_makes 146 = .ok (.aload_n 0, 1) := by decide +kernel
theorem dX7_makes_147 : decode cX7_makes 147 = .ok (.getfield 29, 3) := by decide +kernel
theorem dX7_makes_150 : decode cX7_makes 150 = .ok (.iload_n 1, 1) := by decide +kernel
theorem dX7_makes_151 : decode cX7_makes 151 = .ok (.iconst 0, 1) := by decide +kernel
theorem dX7_makes_152 : decode cX7_makes 152 = .ok (.bastore, 1) := by decide +kernel
theorem dX7_makes_153 : decode cX7_makes 153 = .ok (.return_, 1) := by decide +kernel
def f_X7_makes (u0 : S1) (p1 : Int32) (p2 : Int32) (p3 : Int32) (p4 : Int32) : Option (S1) := bn (f_X7_at 0 p1) (fun z_1 => chk (inb z_1 8480) (bv (st u0 0 z_1 p2) (fun u_2 => chk (inb (z_1 + 1) 8480) (bv (st u_2 0 (z_1 + 1) (u_2 7 0)) (fun u_3 => chk (inb (z_1 + 2) 8480) (bv (st u_3 0 (z_1 + 2) p3) (fun u_4 => chk (inb (z_1 + 3) 8480) (bv (st u_4 0 (z_1 + 3) 1) (fun u_5 => chk (inb (z_1 + 4) 8480) (bv (st u_5 0 (z_1 + 4) p4) (fun u_6 => qj2 (fun (r62_7 : Int32 → S1 → Option (S1)) (y62_7_6 : Int32) (u62_7_0 : S1) => if 8 ≤ y62_7_6 then qj2 (fun (r105_9 : Int32 → S1 → Option (S1)) (y105_9_6 : Int32) (u105_9_0 : S1) => if 16 ≤ y105_9_6 then chk (inb p1 32) (bv (stz u105_9_0 6 p1 0) (fun u_11 => some (u_11))) else chk (inb ((z_1 + 21) + y105_9_6) 8480) (bv (st u105_9_0 0 ((z_1 + 21) + y105_9_6) (-1)) (fun u_12 => chk (inb ((z_1 + 37) + y105_9_6) 8480) (bv (st u_12 0 ((z_1 + 37) + y105_9_6) 0) (fun u_13 => r105_9 (y105_9_6 + 1) u_13))))) (fun k105_9 => k105_9 0 u62_7_0) else chk (inb ((z_1 + 5) + y62_7_6) 8480) (bv (st u62_7_0 0 ((z_1 + 5) + y62_7_6) (-1)) (fun u_14 => chk (inb ((z_1 + 13) + y62_7_6) 8480) (bv (st u_14 0 ((z_1 + 13) + y62_7_6) (-1)) (fun u_15 => r62_7 (y62_7_6 + 1) u_15))))) (fun k62_7 => k62_7 0 u_6))))))))))))
def rmX7_makes : Room := { frames := 1, cells := 0, slots := 0, locals := 21 }
set_option maxHeartbeats 4000000 in
set_option maxRecDepth 100000 in
theorem c_X7_makes (l : Launch) (D : va_G) (cI cZ cJ cT : ClassId) (a0 : Nat → Nat) (sz : Nat) (u0 : S1) (p1 : Int32) (p2 : Int32) (p3 : Int32) (p4 : Int32) (o : S1) (hf : f_X7_makes u0 p1 p2 p3 p4 = some o) : Met l yX7_makes wsX7_makes rmX7_makes (va_Pc [.ref (a0 0), .int p1, .int p2, .int p3, .int p4] (PW D cls (tys cI cZ cJ cT) ((wX7 cI cZ a0 u0)) sz)) (QWv D cls ((wX7 cI cZ a0 o)) (va_A ((wX7 cI cZ a0 u0)) sz)) 0 0 (va_A ((wX7 cI cZ a0 u0)) sz) := by
  refine Met.ofW (cc := cX7_makes) (maxL := 7) (ret := none) (by decide) rfl ?_
  intro p e s m args below meth c s₁ B hml hv
  obtain ⟨hav, hsz, hP, hK, hD0⟩ := hv
  have hx := B.exec
  have hb := B.bytes
  have hr := B.returns
  have hlocks := B.notSynchronized
  have hts := atoms_spec (ws := wsX7_makes) B.pre
  have hown : s.vm.findClass RX7 = some m.cls := findClass_of_methodNamed B.named
  have i7 : ∀ w ∈ wsX70, w ∈ wsX7_makes := fun w h => List.mem_cons_of_mem _ (List.mem_append_right _ h)
  have hk7 := hts (.fieldLink RX7 7 "InoderyModel" "s" "[I") (by decide +kernel)
  have hk29 := hts (.fieldLink RX7 29 "InoderyModel" "hasError" "[Z") (by decide +kernel)
  have hk85 := hts (.fieldLink RX7 85 "InoderyModel" "user" "I") (by decide +kernel)
  subst hsz
  have hD := hD0.self (sz := s.heap.size)
  generalize hAe : va_A ((wX7 cI cZ a0 u0)) s.heap.size = A at hD ⊢
  have hA : ∀ q : Nat, s.heap.size ≤ q → A q := fun q h => by rw [← hAe]; exact Or.inr h
  have hS : va_S A s.heap s.heap [] := va_S.rf
  have hDD : ∀ w0 : S1, va_D A ((wX7 cI cZ a0 w0)) := fun _ => D_same (w := (wX7 cI cZ a0 u0)) rfl hD
  refine Wq (fun Q hQ => ?_)
  refine W_entry hav (Nat.le_of_ble_eq_true rfl) (fun ls hl => ?_)
  have hl : lv_has ls 7 [(0, .ref (a0 0)), (1, .int p1), (2, .int p2), (3, .int p3), (4, .int p4)] := hl
  unfold f_X7_makes at hf
  refine W_heap hP hS (fun H locs hP hS => ?_)
  refine lv_iconst (v := 0) hx hb dX7_makes_0 (by decide) ?_
  refine lv_iload_n hx hb dX7_makes_1 rfl (lv_at hl 1 rfl) ?_
  obtain ⟨z_1, hz_1, hf⟩ := bn_some hf
  refine c0S (As := [.int 0, .int p1]) (rest := []) ⟨hx, hb, hml, hown, hts⟩ (c_X7_at l D cI cZ cJ cT 0 p1 z_1 hz_1) (va_cwS 2 hts gX7_makes_X7_at rfl rfl rfl (by decide +kernel) ⟨Nat.le_of_ble_eq_true rfl, Nat.le_of_ble_eq_true rfl⟩) rfl rfl hl.1 (Nat.le_of_ble_eq_true rfl) dX7_makes_2 ⟨Nat.le_of_ble_eq_true rfl, Nat.le_of_ble_eq_true rfl⟩ ?_
  refine lv_istore (lv' := [(5, .int z_1), (0, .ref (a0 0)), (1, .int p1), (2, .int p2), (3, .int p3), (4, .int p4)]) hx hb dX7_makes_5 hl (by decide) rfl (fun ls hl => ?_)
  refine lv_aload_n hx hb dX7_makes_7 rfl (lv_at hl 1 rfl) ?_
  refine va_get (D := D) (ci := 7) (v := .ref (a0 1)) (C := RX7) (T := TX7) (N := 19) hx hb hts i7 hown hK hP 0 rfl rfl 0 (by decide) hk7 (fun _ h9 => h9) rfl dX7_makes_8 ?_
  refine lv_iload hx hb dX7_makes_11 (lv_at hl 0 rfl) ?_
  refine lv_iload_n hx hb dX7_makes_13 rfl (lv_at hl 3 rfl) ?_
  obtain ⟨hi, hf⟩ := chk_some hf
  obtain ⟨u_2, hu_2, hf⟩ := bv_some hf
  refine va_iast hx hb hK hP (hDD u0) hS 1 0 rfl rfl (inb_in hi) dX7_makes_14 (fun H locs hP _ hS => ?_)
  have hP : va_P D cls (wX7 cI cZ a0 u_2) H := by rw [hu_2]; exact hP
  refine lv_aload_n hx hb dX7_makes_15 rfl (lv_at hl 1 rfl) ?_
  refine va_get (D := D) (ci := 7) (v := .ref (a0 1)) (C := RX7) (T := TX7) (N := 19) hx hb hts i7 hown hK hP 0 rfl rfl 0 (by decide) hk7 (fun _ h9 => h9) rfl dX7_makes_16 ?_
  refine lv_iload hx hb dX7_makes_19 (lv_at hl 0 rfl) ?_
  refine lv_iconst (v := 1) hx hb dX7_makes_21 (by decide) ?_
  refine lv_iadd hx hb dX7_makes_22 ?_
  refine lv_aload_n hx hb dX7_makes_23 rfl (lv_at hl 1 rfl) ?_
  refine va_get (D := D) (ci := 7) (v := .int (u_2 7 0)) (C := RX7) (T := TX7) (N := 19) hx hb hts i7 hown hK hP 0 rfl rfl 7 (by decide) hk85 (fun _ h9 => h9) rfl dX7_makes_24 ?_
  obtain ⟨hi, hf⟩ := chk_some hf
  obtain ⟨u_3, hu_3, hf⟩ := bv_some hf
  refine va_iast hx hb hK hP (hDD u_2) hS 1 0 rfl rfl (inb_in hi) dX7_makes_27 (fun H locs hP _ hS => ?_)
  have hP : va_P D cls (wX7 cI cZ a0 u_3) H := by rw [hu_3]; exact hP
  refine lv_aload_n hx hb dX7_makes_28 rfl (lv_at hl 1 rfl) ?_
  refine va_get (D := D) (ci := 7) (v := .ref (a0 1)) (C := RX7) (T := TX7) (N := 19) hx hb hts i7 hown hK hP 0 rfl rfl 0 (by decide) hk7 (fun _ h9 => h9) rfl dX7_makes_29 ?_
  refine lv_iload hx hb dX7_makes_32 (lv_at hl 0 rfl) ?_
  refine lv_iconst (v := 2) hx hb dX7_makes_34 (by decide) ?_
  refine lv_iadd hx hb dX7_makes_35 ?_
  refine lv_iload_n hx hb dX7_makes_36 rfl (lv_at hl 4 rfl) ?_
  obtain ⟨hi, hf⟩ := chk_some hf
  obtain ⟨u_4, hu_4, hf⟩ := bv_some hf
  refine va_iast hx hb hK hP (hDD u_3) hS 1 0 rfl rfl (inb_in hi) dX7_makes_37 (fun H locs hP _ hS => ?_)
  have hP : va_P D cls (wX7 cI cZ a0 u_4) H := by rw [hu_4]; exact hP
  refine lv_aload_n hx hb dX7_makes_38 rfl (lv_at hl 1 rfl) ?_
  refine va_get (D := D) (ci := 7) (v := .ref (a0 1)) (C := RX7) (T := TX7) (N := 19) hx hb hts i7 hown hK hP 0 rfl rfl 0 (by decide) hk7 (fun _ h9 => h9) rfl dX7_makes_39 ?_
  refine lv_iload hx hb dX7_makes_42 (lv_at hl 0 rfl) ?_
  refine lv_iconst (v := 3) hx hb dX7_makes_44 (by decide) ?_
  refine lv_iadd hx hb dX7_makes_45 ?_
  refine lv_iconst (v := 1) hx hb dX7_makes_46 (by decide) ?_
  obtain ⟨hi, hf⟩ := chk_some hf
  obtain ⟨u_5, hu_5, hf⟩ := bv_some hf
  refine va_iast hx hb hK hP (hDD u_4) hS 1 0 rfl rfl (inb_in hi) dX7_makes_47 (fun H locs hP _ hS => ?_)
  have hP : va_P D cls (wX7 cI cZ a0 u_5) H := by rw [hu_5]; exact hP
  refine lv_aload_n hx hb dX7_makes_48 rfl (lv_at hl 1 rfl) ?_
  refine va_get (D := D) (ci := 7) (v := .ref (a0 1)) (C := RX7) (T := TX7) (N := 19) hx hb hts i7 hown hK hP 0 rfl rfl 0 (by decide) hk7 (fun _ h9 => h9) rfl dX7_makes_49 ?_
  refine lv_iload hx hb dX7_makes_52 (lv_at hl 0 rfl) ?_
  refine lv_iconst (v := 4) hx hb dX7_makes_54 (by decide) ?_
  refine lv_iadd hx hb dX7_makes_55 ?_
  refine lv_iload hx hb dX7_makes_56 (lv_at hl 5 rfl) ?_
  obtain ⟨hi, hf⟩ := chk_some hf
  obtain ⟨u_6, hu_6, hf⟩ := bv_some hf
  refine va_iast hx hb hK hP (hDD u_5) hS 1 0 rfl rfl (inb_in hi) dX7_makes_58 (fun H locs hP _ hS => ?_)
  have hP : va_P D cls (wX7 cI cZ a0 u_6) H := by rw [hu_6]; exact hP
  refine lv_iconst (v := 0) hx hb dX7_makes_59 (by decide) ?_
  refine lv_istore (lv' := [(6, .int 0), (5, .int z_1), (0, .ref (a0 0)), (1, .int p1), (2, .int p2), (3, .int p3), (4, .int p4)]) hx hb dX7_makes_60 hl (by decide) rfl (fun ls hl => ?_)
  obtain ⟨G62_7, hG62_7, hf⟩ := qj2_some hf
  have j62_7 : ∀ (n : Nat) (y62_7_6 : Int32) (u62_7_0 : S1) (H : Heap) (locs : List Loc) (ls : Array Slot), ql2 G62_7 n y62_7_6 u62_7_0 = some o → va_P D cls (wX7 cI cZ a0 u62_7_0) H → va_S A s.heap H locs → lv_has ls 7 [(0, .ref (a0 0)), (1, .int p1), (5, .int z_1), (6, .int y62_7_6)] → W p l e (headSpec wsX7_makes rmX7_makes).room s m args below meth c H locs 0 0 Q (F0 m 62 ls []) := by
    intro n
    induction n with
    | zero => intro y62_7_6 u62_7_0 H locs ls hf hP hS hl; exact (ql2_z hf).elim
    | succ n ih62_7 =>
      intro y62_7_6 u62_7_0 H locs ls hf hP hS hl
      have hf := ql2_s hG62_7 hf
      obtain ⟨r62_7, hr62_7⟩ : ∃ z, z = ql2 G62_7 n := ⟨_, rfl⟩
      rw [← hr62_7] at hf ih62_7
      refine lv_iload hx hb dX7_makes_62 (lv_at hl 3 rfl) ?_
      refine lv_bipush (v := 8) hx hb dX7_makes_64 (by decide) ?_
      refine lv_icmp_ge (tgt := 102) hx hb dX7_makes_66 (by decide) (fun c_8 => ?_) (fun c_8 => ?_)
      · have hf := ite_t hf c_8
        refine lv_iconst (v := 0) hx hb dX7_makes_102 (by decide) ?_
        refine lv_istore (lv' := [(6, .int 0), (0, .ref (a0 0)), (1, .int p1), (5, .int z_1)]) hx hb dX7_makes_103 hl (by decide) rfl (fun ls hl => ?_)
        obtain ⟨G105_9, hG105_9, hf⟩ := qj2_some hf
        have j105_9 : ∀ (n : Nat) (y105_9_6 : Int32) (u105_9_0 : S1) (H : Heap) (locs : List Loc) (ls : Array Slot), ql2 G105_9 n y105_9_6 u105_9_0 = some o → va_P D cls (wX7 cI cZ a0 u105_9_0) H → va_S A s.heap H locs → lv_has ls 7 [(0, .ref (a0 0)), (1, .int p1), (5, .int z_1), (6, .int y105_9_6)] → W p l e (headSpec wsX7_makes rmX7_makes).room s m args below meth c H locs 0 0 Q (F0 m 105 ls []) := by
          intro n
          induction n with
          | zero => intro y105_9_6 u105_9_0 H locs ls hf hP hS hl; exact (ql2_z hf).elim
          | succ n ih105_9 =>
            intro y105_9_6 u105_9_0 H locs ls hf hP hS hl
            have hf := ql2_s hG105_9 hf
            obtain ⟨r105_9, hr105_9⟩ : ∃ z, z = ql2 G105_9 n := ⟨_, rfl⟩
            rw [← hr105_9] at hf ih105_9
            refine lv_iload hx hb dX7_makes_105 (lv_at hl 3 rfl) ?_
            refine lv_bipush (v := 16) hx hb dX7_makes_107 (by decide) ?_
            refine lv_icmp_ge (tgt := 146) hx hb dX7_makes_109 (by decide) (fun c_10 => ?_) (fun c_10 => ?_)
            · have hf := ite_t hf c_10
              refine lv_aload_n hx hb dX7_makes_146 rfl (lv_at hl 0 rfl) ?_
              refine va_get (D := D) (ci := 7) (v := .ref (a0 7)) (C := RX7) (T := TX7) (N := 19) hx hb hts i7 hown hK hP 0 rfl rfl 6 (by decide) hk29 (fun _ h9 => h9) rfl dX7_makes_147 ?_
              refine lv_iload_n hx hb dX7_makes_150 rfl (lv_at hl 1 rfl) ?_
              refine lv_iconst (v := 0) hx hb dX7_makes_151 (by decide) ?_
              obtain ⟨hi, hf⟩ := chk_some hf
              obtain ⟨u_11, hu_11, hf⟩ := bv_some hf
              refine va_zast hx hb hK hP (hDD u105_9_0) hS 7 1 rfl rfl (inb_in hi) dX7_makes_152 (fun H locs hP _ hS => ?_)
              have hP : va_P D cls (wX7 cI cZ a0 u_11) H := by rw [hu_11]; exact hP
              have eo := Option.some.inj hf
              have hP : va_P D cls (wX7 cI cZ a0 o) H := by rw [← eo]; exact hP
              rw [hQ]
              exact W.vret hx hb hr (fun t ht hW => ⟨⟨(), rfl, trivial, P_at ht hP⟩, hS.F ht⟩) hS.2.2 dX7_makes_153 hlocks
            · have hf := ite_f hf c_10
              refine lv_aload_n hx hb dX7_makes_112 rfl (lv_at hl 0 rfl) ?_
              refine va_get (D := D) (ci := 7) (v := .ref (a0 1)) (C := RX7) (T := TX7) (N := 19) hx hb hts i7 hown hK hP 0 rfl rfl 0 (by decide) hk7 (fun _ h9 => h9) rfl dX7_makes_113 ?_
              refine lv_iload hx hb dX7_makes_116 (lv_at hl 2 rfl) ?_
              refine lv_bipush (v := 21) hx hb dX7_makes_118 (by decide) ?_
              refine lv_iadd hx hb dX7_makes_120 ?_
              refine lv_iload hx hb dX7_makes_121 (lv_at hl 3 rfl) ?_
              refine lv_iadd hx hb dX7_makes_123 ?_
              refine lv_iconst (v := (-1)) hx hb dX7_makes_124 (by decide) ?_
              obtain ⟨hi, hf⟩ := chk_some hf
              obtain ⟨u_12, hu_12, hf⟩ := bv_some hf
              refine va_iast hx hb hK hP (hDD u105_9_0) hS 1 0 rfl rfl (inb_in hi) dX7_makes_125 (fun H locs hP _ hS => ?_)
              have hP : va_P D cls (wX7 cI cZ a0 u_12) H := by rw [hu_12]; exact hP
              refine lv_aload_n hx hb dX7_makes_126 rfl (lv_at hl 0 rfl) ?_
              refine va_get (D := D) (ci := 7) (v := .ref (a0 1)) (C := RX7) (T := TX7) (N := 19) hx hb hts i7 hown hK hP 0 rfl rfl 0 (by decide) hk7 (fun _ h9 => h9) rfl dX7_makes_127 ?_
              refine lv_iload hx hb dX7_makes_130 (lv_at hl 2 rfl) ?_
              refine lv_bipush (v := 37) hx hb dX7_makes_132 (by decide) ?_
              refine lv_iadd hx hb dX7_makes_134 ?_
              refine lv_iload hx hb dX7_makes_135 (lv_at hl 3 rfl) ?_
              refine lv_iadd hx hb dX7_makes_137 ?_
              refine lv_iconst (v := 0) hx hb dX7_makes_138 (by decide) ?_
              obtain ⟨hi, hf⟩ := chk_some hf
              obtain ⟨u_13, hu_13, hf⟩ := bv_some hf
              refine va_iast hx hb hK hP (hDD u_12) hS 1 0 rfl rfl (inb_in hi) dX7_makes_139 (fun H locs hP _ hS => ?_)
              have hP : va_P D cls (wX7 cI cZ a0 u_13) H := by rw [hu_13]; exact hP
              refine lv_iinc (v := y105_9_6 + 1) (lv' := [(6, .int (y105_9_6 + 1)), (0, .ref (a0 0)), (1, .int p1), (5, .int z_1)]) hx hb dX7_makes_140 hl (k := 3) rfl rfl (by decide) rfl (fun ls hl => ?_)
              refine lv_goto (tgt := 105) hx hb dX7_makes_143 (by decide) ?_
              exact ih105_9 _ _ _ _ _ hf hP hS (lv_sub hl [1, 2, 3, 0] rfl)
        exact j105_9 4096 _ _ _ _ _ hf hP hS (lv_sub hl [1, 2, 3, 0] rfl)
      · have hf := ite_f hf c_8
        refine lv_aload_n hx hb dX7_makes_69 rfl (lv_at hl 0 rfl) ?_
        refine va_get (D := D) (ci := 7) (v := .ref (a0 1)) (C := RX7) (T := TX7) (N := 19) hx hb hts i7 hown hK hP 0 rfl rfl 0 (by decide) hk7 (fun _ h9 => h9) rfl dX7_makes_70 ?_
        refine lv_iload hx hb dX7_makes_73 (lv_at hl 2 rfl) ?_
        refine lv_iconst (v := 5) hx hb dX7_makes_75 (by decide) ?_
        refine lv_iadd hx hb dX7_makes_76 ?_
        refine lv_iload hx hb dX7_makes_77 (lv_at hl 3 rfl) ?_
        refine lv_iadd hx hb dX7_makes_79 ?_
        refine lv_iconst (v := (-1)) hx hb dX7_makes_80 (by decide) ?_
        obtain ⟨hi, hf⟩ := chk_some hf
        obtain ⟨u_14, hu_14, hf⟩ := bv_some hf
        refine va_iast hx hb hK hP (hDD u62_7_0) hS 1 0 rfl rfl (inb_in hi) dX7_makes_81 (fun H locs hP _ hS => ?_)
        have hP : va_P D cls (wX7 cI cZ a0 u_14) H := by rw [hu_14]; exact hP
        refine lv_aload_n hx hb dX7_makes_82 rfl (lv_at hl 0 rfl) ?_
        refine va_get (D := D) (ci := 7) (v := .ref (a0 1)) (C := RX7) (T := TX7) (N := 19) hx hb hts i7 hown hK hP 0 rfl rfl 0 (by decide) hk7 (fun _ h9 => h9) rfl dX7_makes_83 ?_
        refine lv_iload hx hb dX7_makes_86 (lv_at hl 2 rfl) ?_
        refine lv_bipush (v := 13) hx hb dX7_makes_88 (by decide) ?_
        refine lv_iadd hx hb dX7_makes_90 ?_
        refine lv_iload hx hb dX7_makes_91 (lv_at hl 3 rfl) ?_
        refine lv_iadd hx hb dX7_makes_93 ?_
        refine lv_iconst (v := (-1)) hx hb dX7_makes_94 (by decide) ?_
        obtain ⟨hi, hf⟩ := chk_some hf
        obtain ⟨u_15, hu_15, hf⟩ := bv_some hf
        refine va_iast hx hb hK hP (hDD u_14) hS 1 0 rfl rfl (inb_in hi) dX7_makes_95 (fun H locs hP _ hS => ?_)
        have hP : va_P D cls (wX7 cI cZ a0 u_15) H := by rw [hu_15]; exact hP
        refine lv_iinc (v := y62_7_6 + 1) (lv' := [(6, .int (y62_7_6 + 1)), (0, .ref (a0 0)), (1, .int p1), (5, .int z_1)]) hx hb dX7_makes_96 hl (k := 3) rfl rfl (by decide) rfl (fun ls hl => ?_)
        refine lv_goto (tgt := 62) hx hb dX7_makes_99 (by decide) ?_
        exact ih62_7 _ _ _ _ _ hf hP hS (lv_sub hl [1, 2, 3, 0] rfl)
  exact j62_7 4096 _ _ _ _ _ hf hP hS (lv_sub hl [2, 3, 1, 0] rfl)
theorem dX7_handlesOf_0 : decode cX7_handlesOf 0 = .ok (.iconst 0, 1) := by decide +kernel
theorem dX7_handlesOf_1 : decode cX7_handlesOf 1 = .ok (.istore_n 2, 1) := by decide +kernel
theorem dX7_handlesOf_2 : decode cX7_handlesOf 2 = .ok (.iconst 0, 1) := by decide +kernel
theorem dX7_handlesOf_3 : decode cX7_handlesOf 3 = .ok (.istore_n 3, 1) := by decide +kernel
theorem dX7_handlesOf_4 : decode cX7_handlesOf 4 = .ok (.iload_n 3, 1) := by decide +kernel
theorem dX7_handlesOf_5 : decode cX7_handlesOf 5 = .ok (.aload_n 0, 1) := by decide +kernel
theorem dX7_handlesOf_6 : decode cX7_handlesOf 6 = .ok (.getfield 91, 3) := by decide +kernel
theorem dX7_handlesOf_9 : decode cX7_handlesOf 9 = .ok (.if_icmp .ge 36, 3) := by decide +kernel
theorem dX7_handlesOf_12 : decode cX7_handlesOf 12 = .ok (.iload_n 2, 1) := by decide +kernel
theorem dX7_handlesOf_13 : decode cX7_handlesOf 13 = .ok (.aload_n 0, 1) := by decide +kernel
theorem dX7_handlesOf_14 : decode cX7_handlesOf 14 = .ok (.getfield 41, 3) := by decide +kernel
theorem dX7_handlesOf_17 : decode cX7_handlesOf 17 = .ok (.iload_n 3, 1) := by decide +kernel
theorem dX7_handlesOf_18 : decode cX7_handlesOf 18 = .ok (.baload, 1) := by decide +kernel
theorem dX7_handlesOf_19 : decode cX7_handlesOf 19 = .ok (.ifCond .eq 17, 3) := by decide +kernel
theorem dX7_handlesOf_22 : decode cX7_handlesOf 22 = .ok (.aload_n 0, 1) := by decide +kernel
theorem dX7_handlesOf_23 : decode cX7_handlesOf 23 = .ok (.getfield 35, 3) := by decide +kernel
theorem dX7_handlesOf_26 : decode cX7_handlesOf 26 = .ok (.iload_n 3, 1) := by decide +kernel
theorem dX7_handlesOf_27 : decode cX7_handlesOf 27 = .ok (.iaload, 1) := by decide +kernel
theorem dX7_handlesOf_28 : decode cX7_handlesOf 28 = .ok (.iload_n 1, 1) := by decide +kernel
theorem dX7_handlesOf_29 : decode cX7_handlesOf 29 = .ok (.if_icmp .ne 7, 3) := by decide +kernel
theorem dX7_handlesOf_32 : decode cX7_handlesOf 32 = .ok (.iconst 1, 1) := by decide +kernel
theorem dX7_handlesOf_33 : decode cX7_handlesOf 33 = .ok (.goto 4, 3) := by decide +kernel
theorem dX7_handlesOf_36 : decode cX7_handlesOf 36 = .ok (.iconst 0, 1) := by decide +kernel
theorem dX7_handlesOf_37 : decode cX7_handlesOf 37 = .ok (.iadd, 1) := by decide +kernel
theorem dX7_handlesOf_38 : decode cX7_handlesOf 38 = .ok (.istore_n 2, 1) := by decide +kernel
theorem dX7_handlesOf_39 : decode cX7_handlesOf 39 = .ok (.iinc 3 1, 3) := by decide +kernel
theorem dX7_handlesOf_42 : decode cX7_handlesOf 42 = .ok (.goto (-38), 3) := by decide +kernel
theorem dX7_handlesOf_45 : decode cX7_handlesOf 45 = .ok (.iload_n 2, 1) := by decide +kernel
theorem dX7_handlesOf_46 : decode cX7_handlesOf 46 = .ok (.ireturn, 1) := by decide +kernel
def f_X7_handlesOf (u0 : S1) (p1 : Int32) : Option (Int32) := qj2 (fun (r4_1 : Int32 → Int32 → Option (Int32)) (y4_1_2 : Int32) (y4_1_3 : Int32) => if (u0 9 0) ≤ y4_1_3 then some y4_1_2 else chk (inb y4_1_3 30) (jn (fun (v37_3_0 : Int32) => r4_1 (y4_1_2 + v37_3_0) (y4_1_3 + 1)) (fun k37_3 => jn (k37_3 0) (fun k36_4 => if (u0 12 (y4_1_3).toNatClampNeg) = 0 then k36_4 else chk (inb y4_1_3 30) (if (u0 10 (y4_1_3).toNatClampNeg) = p1 then k37_3 1 else k36_4))))) (fun k4_1 => k4_1 0 0)
def rmX7_handlesOf : Room := { frames := 0, cells := 0, slots := 0, locals := 0 }
set_option maxHeartbeats 4000000 in
set_option maxRecDepth 100000 in
theorem c_X7_handlesOf (l : Launch) (D : va_G) (cI cZ cJ cT : ClassId) (a0 : Nat → Nat) (u0 : S1) (p1 : Int32) (o : Int32) (hf : f_X7_handlesOf u0 p1 = some o) : Met l yX7_handlesOf wsX7_handlesOf rmX7_handlesOf (va_Pc [.ref (a0 0), .int p1] (PR D cls (tys cI cZ cJ cT) ((wX7 cI cZ a0 u0)))) (QR o) 0 0 (fun _ => False) := by
  refine Met.ofW (cc := cX7_handlesOf) (maxL := 4) (ret := (some .int)) (by decide) rfl ?_
  intro p e s m args below meth c s₁ B hml hv
  obtain ⟨hav, hP, hK⟩ := hv
  have hx := B.exec
  have hb := B.bytes
  have hr := B.returns
  have hlocks := B.notSynchronized
  have hts := atoms_spec (ws := wsX7_handlesOf) B.pre
  have hown : s.vm.findClass RX7 = some m.cls := findClass_of_methodNamed B.named
  have i7 : ∀ w ∈ wsX70, w ∈ wsX7_handlesOf := fun w h => List.mem_cons_of_mem _ (List.mem_append_right _ h)
  have hk35 := hts (.fieldLink RX7 35 "InoderyModel" "of" "[I") (by decide +kernel)
  have hk41 := hts (.fieldLink RX7 41 "InoderyModel" "isOpen" "[Z") (by decide +kernel)
  have hk91 := hts (.fieldLink RX7 91 "InoderyModel" "handles" "I") (by decide +kernel)
  refine Wq (fun Q hQ => ?_)
  refine W_entry hav (Nat.le_of_ble_eq_true rfl) (fun ls hl => ?_)
  have hl : lv_has ls 4 [(0, .ref (a0 0)), (1, .int p1)] := hl
  unfold f_X7_handlesOf at hf
  refine lv_iconst (v := 0) hx hb dX7_handlesOf_0 (by decide) ?_
  refine lv_istore_n (lv' := [(2, .int 0), (0, .ref (a0 0)), (1, .int p1)]) hx hb dX7_handlesOf_1 rfl hl (by decide) rfl (fun ls hl => ?_)
  refine lv_iconst (v := 0) hx hb dX7_handlesOf_2 (by decide) ?_
  refine lv_istore_n (lv' := [(3, .int 0), (2, .int 0), (0, .ref (a0 0)), (1, .int p1)]) hx hb dX7_handlesOf_3 rfl hl (by decide) rfl (fun ls hl => ?_)
  obtain ⟨G4_1, hG4_1, hf⟩ := qj2_some hf
  have j4_1 : ∀ (n : Nat) (y4_1_2 : Int32) (y4_1_3 : Int32) (ls : Array Slot), ql2 G4_1 n y4_1_2 y4_1_3 = some o → lv_has ls 4 [(0, .ref (a0 0)), (1, .int p1), (2, .int y4_1_2), (3, .int y4_1_3)] → W p l e (headSpec wsX7_handlesOf rmX7_handlesOf).room s m args below meth c s.heap [] 0 0 Q (F0 m 4 ls []) := by
    intro n
    induction n with
    | zero => intro y4_1_2 y4_1_3 ls hf hl; exact (ql2_z hf).elim
    | succ n ih4_1 =>
      intro y4_1_2 y4_1_3 ls hf hl
      have hf := ql2_s hG4_1 hf
      obtain ⟨r4_1, hr4_1⟩ : ∃ z, z = ql2 G4_1 n := ⟨_, rfl⟩
      rw [← hr4_1] at hf ih4_1
      refine lv_iload_n hx hb dX7_handlesOf_4 rfl (lv_at hl 3 rfl) ?_
      refine lv_aload_n hx hb dX7_handlesOf_5 rfl (lv_at hl 0 rfl) ?_
      refine va_get (D := D) (ci := 7) (v := .int (u0 9 0)) (C := RX7) (T := TX7) (N := 19) hx hb hts i7 hown hK hP 0 rfl rfl 9 (by decide) hk91 (fun _ h9 => h9) rfl dX7_handlesOf_6 ?_
      refine lv_icmp_ge (tgt := 45) hx hb dX7_handlesOf_9 (by decide) (fun c_2 => ?_) (fun c_2 => ?_)
      · have hf := ite_t hf c_2
        refine lv_iload_n hx hb dX7_handlesOf_45 rfl (lv_at hl 2 rfl) ?_
        rw [hQ]
        exact W.iret hx hb hr (fun t ht hW => ⟨_, rfl, Option.some.inj hf, ht⟩) (fun _ h => nomatch h) dX7_handlesOf_46 hlocks
      · have hf := ite_f hf c_2
        refine lv_iload_n hx hb dX7_handlesOf_12 rfl (lv_at hl 2 rfl) ?_
        refine lv_aload_n hx hb dX7_handlesOf_13 rfl (lv_at hl 0 rfl) ?_
        refine va_get (D := D) (ci := 7) (v := .ref (a0 13)) (C := RX7) (T := TX7) (N := 19) hx hb hts i7 hown hK hP 0 rfl rfl 12 (by decide) hk41 (fun _ h9 => h9) rfl dX7_handlesOf_14 ?_
        refine lv_iload_n hx hb dX7_handlesOf_17 rfl (lv_at hl 3 rfl) ?_
        obtain ⟨hi, hf⟩ := chk_some hf
        refine va_zald hx hb hK hP 11 1 rfl rfl (inb_in hi) dX7_handlesOf_18 ?_
        obtain ⟨k37_3, hk37_3, hf⟩ := jn_some hf
        have j37_3 : ∀ (v37_3_0 : Int32) (ls : Array Slot), k37_3 v37_3_0 = some o → lv_has ls 4 [(0, .ref (a0 0)), (1, .int p1), (3, .int y4_1_3)] → W p l e (headSpec wsX7_handlesOf rmX7_handlesOf).room s m args below meth c s.heap [] 0 0 Q (F0 m 37 ls [.int v37_3_0, .int y4_1_2]) := by
          intro v37_3_0 ls hf hl
          have hf := qa1 hk37_3 hf
          refine lv_iadd hx hb dX7_handlesOf_37 ?_
          refine lv_istore_n (lv' := [(2, .int (y4_1_2 + v37_3_0)), (0, .ref (a0 0)), (1, .int p1), (3, .int y4_1_3)]) hx hb dX7_handlesOf_38 rfl hl (by decide) rfl (fun ls hl => ?_)
          refine lv_iinc (v := y4_1_3 + 1) (lv' := [(3, .int (y4_1_3 + 1)), (2, .int (y4_1_2 + v37_3_0)), (0, .ref (a0 0)), (1, .int p1)]) hx hb dX7_handlesOf_39 hl (k := 3) rfl rfl (by decide) rfl (fun ls hl => ?_)
          refine lv_goto (tgt := 4) hx hb dX7_handlesOf_42 (by decide) ?_
          exact ih4_1 _ _ _ hf (lv_sub hl [2, 3, 1, 0] rfl)
        obtain ⟨k36_4, hk36_4, hf⟩ := jn_some hf
        have j36_4 : ∀ (ls : Array Slot), k36_4 = some o → lv_has ls 4 [(0, .ref (a0 0)), (1, .int p1), (3, .int y4_1_3)] → W p l e (headSpec wsX7_handlesOf rmX7_handlesOf).room s m args below meth c s.heap [] 0 0 Q (F0 m 36 ls [.int y4_1_2]) := by
          intro ls hf hl
          have hf := qa0 hk36_4 hf
          refine lv_iconst (v := 0) hx hb dX7_handlesOf_36 (by decide) ?_
          exact j37_3 _ _ hf (lv_sub hl [0, 1, 2] rfl)
        refine lv_if_eq (tgt := 36) hx hb dX7_handlesOf_19 (by decide) (fun c_5 => ?_) (fun c_5 => ?_)
        · have hf := ite_t hf c_5
          exact j36_4 _ hf (lv_sub hl [0, 1, 3] rfl)
        · have hf := ite_f hf c_5
          refine lv_aload_n hx hb dX7_handlesOf_22 rfl (lv_at hl 0 rfl) ?_
          refine va_get (D := D) (ci := 7) (v := .ref (a0 11)) (C := RX7) (T := TX7) (N := 19) hx hb hts i7 hown hK hP 0 rfl rfl 10 (by decide) hk35 (fun _ h9 => h9) rfl dX7_handlesOf_23 ?_
          refine lv_iload_n hx hb dX7_handlesOf_26 rfl (lv_at hl 3 rfl) ?_
          obtain ⟨hi, hf⟩ := chk_some hf
          refine va_iald hx hb hK hP 9 0 rfl rfl (inb_in hi) dX7_handlesOf_27 ?_
          refine lv_iload_n hx hb dX7_handlesOf_28 rfl (lv_at hl 1 rfl) ?_
          refine lv_icmp_ne (tgt := 36) hx hb dX7_handlesOf_29 (by decide) (fun c_6 => ?_) (fun c_6 => ?_)
          · have hf := ite_f hf c_6
            exact j36_4 _ hf (lv_sub hl [0, 1, 3] rfl)
          · have hf := ite_t hf c_6
            refine lv_iconst (v := 1) hx hb dX7_handlesOf_32 (by decide) ?_
            refine lv_goto (tgt := 37) hx hb dX7_handlesOf_33 (by decide) ?_
            exact j37_3 _ _ hf (lv_sub hl [0, 1, 3] rfl)
  exact j4_1 4096 _ _ _ hf (lv_sub hl [2, 3, 1, 0] rfl)
set_option maxRecDepth 20000 in
theorem ggX7_isHeld_X7_handlesOf : GoodIn wsX7_isHeld wsX7_handlesOf := goodIn_r _ [5, 6, 7, 8, 9, 10, 11, 12, 13, 14, 15, 16, 17, 18, 19, 20, 21, 22, 23, 24, 25, 26, 27] (by decide +kernel) (by decide +kernel)
set_option maxRecDepth 20000 in
theorem gX7_isHeld_X7_handlesOf : GoodIn wsX7_isHeld (wsV RX7 88 RX7 yX7_handlesOf wsX7_handlesOf) := goodIn_app (goodIn_of _ (by decide +kernel)) ggX7_isHeld_X7_handlesOf
theorem dX7_isHeld_0 : decode cX7_isHeld 0 = .ok (.aload_n 0, 1) := by decide +kernel
theorem dX7_isHeld_1 : decode cX7_isHeld 1 = .ok (.iload_n 1, 1) := by decide +kernel
theorem dX7_isHeld_2 : decode cX7_isHeld 2 = .ok (.invokevirtual 88, 3) := by decide +kernel
theorem dX7_isHeld_5 : decode cX7_isHeld 5 = .ok (.ifCond .le 7, 3) := by decide +kernel
theorem dX7_isHeld_8 : decode cX7_isHeld 8 = .ok (.iconst 1, 1) := by decide +kernel
theorem dX7_isHeld_9 : decode cX7_isHeld 9 = .ok (.goto 4, 3) := by decide +kernel
theorem dX7_isHeld_12 : decode cX7_isHeld 12 = .ok (.iconst 0, 1) := by decide +kernel
theorem dX7_isHeld_13 : decode cX7_isHeld 13 = .ok (.ireturn, 1) := by decide +kernel
def f_X7_isHeld (u0 : S1) (p1 : Int32) : Option (Int32) := bn (f_X7_handlesOf u0 p1) (fun z_1 => jn (fun (v13_2_0 : Int32) => some (vp_nar .boolean v13_2_0)) (fun k13_2 => if z_1 ≤ 0 then k13_2 0 else k13_2 1))
def rmX7_isHeld : Room := { frames := 1, cells := 0, slots := 0, locals := 23 }
set_option maxHeartbeats 4000000 in
set_option maxRecDepth 100000 in
theorem c_X7_isHeld (l : Launch) (D : va_G) (cI cZ cJ cT : ClassId) (a0 : Nat → Nat) (u0 : S1) (p1 : Int32) (o : Int32) (hf : f_X7_isHeld u0 p1 = some o) : Met l yX7_isHeld wsX7_isHeld rmX7_isHeld (va_Pc [.ref (a0 0), .int p1] (PR D cls (tys cI cZ cJ cT) ((wX7 cI cZ a0 u0)))) (QR o) 0 0 (fun _ => False) := by
  refine Met.ofW (cc := cX7_isHeld) (maxL := 2) (ret := (some .boolean)) (by decide) rfl ?_
  intro p e s m args below meth c s₁ B hml hv
  obtain ⟨hav, hP, hK⟩ := hv
  have hx := B.exec
  have hb := B.bytes
  have hr := B.returns
  have hlocks := B.notSynchronized
  have hts := atoms_spec (ws := wsX7_isHeld) B.pre
  have hown : s.vm.findClass RX7 = some m.cls := findClass_of_methodNamed B.named
  refine Wq (fun Q hQ => ?_)
  refine W_entry hav (Nat.le_of_ble_eq_true rfl) (fun ls hl => ?_)
  have hl : lv_has ls 2 [(0, .ref (a0 0)), (1, .int p1)] := hl
  unfold f_X7_isHeld at hf
  refine lv_aload_n hx hb dX7_isHeld_0 rfl (lv_at hl 0 rfl) ?_
  refine lv_iload_n hx hb dX7_isHeld_1 rfl (lv_at hl 1 rfl) ?_
  obtain ⟨z_1, hz_1, hf⟩ := bn_some hf
  refine cRV (As := [.int p1]) (rest := []) ⟨hx, hb, hml, hown, hts⟩ (c_X7_handlesOf l D cI cZ cJ cT a0 u0 p1 z_1 hz_1) (cwV 1 hts gX7_isHeld_X7_handlesOf rfl rfl rfl (by decide +kernel) ⟨Nat.le_of_ble_eq_true rfl, Nat.le_of_ble_eq_true rfl⟩) hP hK (va_recv hK hP (ci := 7) (q0 := 0) rfl rfl) rfl rfl hl.1 (Nat.le_of_ble_eq_true rfl) dX7_isHeld_2 ⟨Nat.le_of_ble_eq_true rfl, Nat.le_of_ble_eq_true rfl⟩ ?_
  obtain ⟨k13_2, hk13_2, hf⟩ := jn_some hf
  have j13_2 : ∀ (v13_2_0 : Int32) (ls : Array Slot), k13_2 v13_2_0 = some o → lv_has ls 2 [] → W p l e (headSpec wsX7_isHeld rmX7_isHeld).room s m args below meth c s.heap [] 0 0 Q (F0 m 13 ls [.int v13_2_0]) := by
    intro v13_2_0 ls hf hl
    have hf := qa1 hk13_2 hf
    rw [hQ]
    exact zretN (v := v13_2_0) (v' := vp_nar .boolean v13_2_0) hx hb hr rfl (fun t ht hW => ⟨_, rfl, Option.some.inj hf, ht⟩) (fun _ h => nomatch h) dX7_isHeld_13 hlocks
  refine lv_if_le (tgt := 12) hx hb dX7_isHeld_5 (by decide) (fun c_3 => ?_) (fun c_3 => ?_)
  · have hf := ite_t hf c_3
    refine lv_iconst (v := 0) hx hb dX7_isHeld_12 (by decide) ?_
    exact j13_2 _ _ hf (lv_sub hl [] rfl)
  · have hf := ite_f hf c_3
    refine lv_iconst (v := 1) hx hb dX7_isHeld_8 (by decide) ?_
    refine lv_goto (tgt := 13) hx hb dX7_isHeld_9 (by decide) ?_
    exact j13_2 _ _ hf (lv_sub hl [] rfl)
set_option maxRecDepth 20000 in
theorem ggX7_digs_X7_at : GoodIn wsX7_digs wsX7_at := goodIn_r _ [6] (by decide +kernel) (by decide +kernel)
set_option maxRecDepth 20000 in
theorem gX7_digs_X7_at : GoodIn wsX7_digs (va_wsS RX7 67 yX7_at wsX7_at) := goodIn_app (goodIn_of _ (by decide +kernel)) ggX7_digs_X7_at
theorem dX7_digs_0 : decode cX7_digs 0 = .ok (.aload_n 0, 1) := by decide +kernel
theorem dX7_digs_1 : decode cX7_digs 1 = .ok (.getfield 7, 3) := by decide +kernel
theorem dX7_digs_4 : decode cX7_digs 4 = .ok (.iconst 0, 1) := by decide +kernel
theorem dX7_digs_5 : decode cX7_digs 5 = .ok (.iload_n 1, 1) := by decide +kernel
theorem dX7_digs_6 : decode cX7_digs 6 = .ok (.invokestatic 67, 3) := by decide +kernel
theorem dX7_digs_9 : decode cX7_digs 9 = .ok (.bipush 21, 2) := by decide +kernel
theorem dX7_digs_11 : decode cX7_digs 11 = .ok (.iadd, 1) := by decide +kernel
theorem dX7_digs_12 : decode cX7_digs 12 = .ok (.iload_n 2, 1) := by decide +kernel
theorem dX7_digs_13 : decode cX7_digs 13 = .ok (.iadd, 1) := by decide +kernel
theorem dX7_digs_14 : decode cX7_digs 14 = .ok (.iconst (-1), 1) := by decide +kernel
theorem dX7_digs_15 : decode cX7_digs 15 = .ok (.iastore, 1) := by decide +kernel
theorem dX7_digs_16 : decode cX7_digs 16 = .ok (.aload_n 0, 1) := by decide +kernel
theorem dX7_digs_17 : decode cX7_digs 17 = .ok (.getfield 7, 3) := by decide +kernel
theorem dX7_digs_20 : decode cX7_digs 20 = .ok (.iconst 0, 1) := by decide +kernel
theorem dX7_digs_21 : decode cX7_digs 21 = .ok (.iload_n 1, 1) := by decide +kernel
theorem dX7_digs_22 : decode cX7_digs 22 = .ok (.invokestatic 67, 3) := by decide +kernel
theorem dX7_digs_25 : decode cX7_digs 25 = .ok (.bipush 37, 2) := by decide +kernel
theorem dX7_digs_27 : decode cX7_digs 27 = .ok (.iadd, 1) := by decide +kernel
theorem dX7_digs_28 : decode cX7_digs 28 = .ok (.iload_n 2, 1) := by decide +kernel
theorem dX7_digs_29 : decode cX7_digs 29 = .ok (.iadd, 1) := by decide +kernel
theorem dX7_digs_30 : decode cX7_digs 30 = .ok (.iconst 0, 1) := by decide +kernel
theorem dX7_digs_31 : decode cX7_digs 31 = .ok (.iastore, 1) := by decide +kernel
theorem dX7_digs_32 : decode cX7_digs 32 = .ok (.aload_n 0, 1) := by decide +kernel
theorem dX7_digs_33 : decode cX7_digs 33 = .ok (.getfield 23, 3) := by decide +kernel
theorem dX7_digs_36 : decode cX7_digs 36 = .ok (.bipush 16, 2) := by decide +kernel
theorem dX7_digs_38 : decode cX7_digs 38 = .ok (.iload_n 1, 1) := by decide +kernel
theorem dX7_digs_39 : decode cX7_digs 39 = .ok (.imul, 1) := by decide +kernel
theorem dX7_digs_40 : decode cX7_digs 40 = .ok (.iload_n 2, 1) := by decide +kernel
theorem dX7_digs_41 : decode cX7_digs 41 = .ok (.iadd, 1) := by decide +kernel
theorem dX7_digs_42 : decode cX7_digs 42 = .ok (.iconst 0, 1) := by decide +kernel
theorem dX7_digs_43 : decode cX7_digs 43 = .ok (.bastore, 1) := by decide +kernel
theorem dX7_digs_44 : decode cX7_digs 44 = .ok (.return_, 1) := by decide +kernel
def f_X7_digs (u0 : S1) (p1 : Int32) (p2 : Int32) : Option (S1) := bn (f_X7_at 0 p1) (fun z_1 => chk (inb ((z_1 + 21) + p2) 8480) (bv (st u0 0 ((z_1 + 21) + p2) (-1)) (fun u_2 => bn (f_X7_at 0 p1) (fun z_3 => chk (inb ((z_3 + 37) + p2) 8480) (bv (st u_2 0 ((z_3 + 37) + p2) 0) (fun u_4 => chk (inb ((16 * p1) + p2) 512) (bv (stz u_4 4 ((16 * p1) + p2) 0) (fun u_5 => some (u_5)))))))))
def rmX7_digs : Room := { frames := 1, cells := 0, slots := 0, locals := 21 }
set_option maxHeartbeats 4000000 in
set_option maxRecDepth 100000 in
theorem c_X7_digs (l : Launch) (D : va_G) (cI cZ cJ cT : ClassId) (a0 : Nat → Nat) (sz : Nat) (u0 : S1) (p1 : Int32) (p2 : Int32) (o : S1) (hf : f_X7_digs u0 p1 p2 = some o) : Met l yX7_digs wsX7_digs rmX7_digs (va_Pc [.ref (a0 0), .int p1, .int p2] (PW D cls (tys cI cZ cJ cT) ((wX7 cI cZ a0 u0)) sz)) (QWv D cls ((wX7 cI cZ a0 o)) (va_A ((wX7 cI cZ a0 u0)) sz)) 0 0 (va_A ((wX7 cI cZ a0 u0)) sz) := by
  refine Met.ofW (cc := cX7_digs) (maxL := 3) (ret := none) (by decide) rfl ?_
  intro p e s m args below meth c s₁ B hml hv
  obtain ⟨hav, hsz, hP, hK, hD0⟩ := hv
  have hx := B.exec
  have hb := B.bytes
  have hr := B.returns
  have hlocks := B.notSynchronized
  have hts := atoms_spec (ws := wsX7_digs) B.pre
  have hown : s.vm.findClass RX7 = some m.cls := findClass_of_methodNamed B.named
  have i7 : ∀ w ∈ wsX70, w ∈ wsX7_digs := fun w h => List.mem_cons_of_mem _ (List.mem_append_right _ h)
  have hk7 := hts (.fieldLink RX7 7 "InoderyModel" "s" "[I") (by decide +kernel)
  have hk23 := hts (.fieldLink RX7 23 "InoderyModel" "isDirty" "[Z") (by decide +kernel)
  subst hsz
  have hD := hD0.self (sz := s.heap.size)
  generalize hAe : va_A ((wX7 cI cZ a0 u0)) s.heap.size = A at hD ⊢
  have hA : ∀ q : Nat, s.heap.size ≤ q → A q := fun q h => by rw [← hAe]; exact Or.inr h
  have hS : va_S A s.heap s.heap [] := va_S.rf
  have hDD : ∀ w0 : S1, va_D A ((wX7 cI cZ a0 w0)) := fun _ => D_same (w := (wX7 cI cZ a0 u0)) rfl hD
  refine Wq (fun Q hQ => ?_)
  refine W_entry hav (Nat.le_of_ble_eq_true rfl) (fun ls hl => ?_)
  have hl : lv_has ls 3 [(0, .ref (a0 0)), (1, .int p1), (2, .int p2)] := hl
  unfold f_X7_digs at hf
  refine W_heap hP hS (fun H locs hP hS => ?_)
  refine lv_aload_n hx hb dX7_digs_0 rfl (lv_at hl 0 rfl) ?_
  refine va_get (D := D) (ci := 7) (v := .ref (a0 1)) (C := RX7) (T := TX7) (N := 19) hx hb hts i7 hown hK hP 0 rfl rfl 0 (by decide) hk7 (fun _ h9 => h9) rfl dX7_digs_1 ?_
  refine lv_iconst (v := 0) hx hb dX7_digs_4 (by decide) ?_
  refine lv_iload_n hx hb dX7_digs_5 rfl (lv_at hl 1 rfl) ?_
  obtain ⟨z_1, hz_1, hf⟩ := bn_some hf
  refine c0S (As := [.int 0, .int p1]) (rest := [.ref (a0 1)]) ⟨hx, hb, hml, hown, hts⟩ (c_X7_at l D cI cZ cJ cT 0 p1 z_1 hz_1) (va_cwS 2 hts gX7_digs_X7_at rfl rfl rfl (by decide +kernel) ⟨Nat.le_of_ble_eq_true rfl, Nat.le_of_ble_eq_true rfl⟩) rfl rfl hl.1 (Nat.le_of_ble_eq_true rfl) dX7_digs_6 ⟨Nat.le_of_ble_eq_true rfl, Nat.le_of_ble_eq_true rfl⟩ ?_
  refine lv_bipush (v := 21) hx hb dX7_digs_9 (by decide) ?_
  refine lv_iadd hx hb dX7_digs_11 ?_
  refine lv_iload_n hx hb dX7_digs_12 rfl (lv_at hl 2 rfl) ?_
  refine lv_iadd hx hb dX7_digs_13 ?_
  refine lv_iconst (v := (-1)) hx hb dX7_digs_14 (by decide) ?_
  obtain ⟨hi, hf⟩ := chk_some hf
  obtain ⟨u_2, hu_2, hf⟩ := bv_some hf
  refine va_iast hx hb hK hP (hDD u0) hS 1 0 rfl rfl (inb_in hi) dX7_digs_15 (fun H locs hP _ hS => ?_)
  have hP : va_P D cls (wX7 cI cZ a0 u_2) H := by rw [hu_2]; exact hP
  refine lv_aload_n hx hb dX7_digs_16 rfl (lv_at hl 0 rfl) ?_
  refine va_get (D := D) (ci := 7) (v := .ref (a0 1)) (C := RX7) (T := TX7) (N := 19) hx hb hts i7 hown hK hP 0 rfl rfl 0 (by decide) hk7 (fun _ h9 => h9) rfl dX7_digs_17 ?_
  refine lv_iconst (v := 0) hx hb dX7_digs_20 (by decide) ?_
  refine lv_iload_n hx hb dX7_digs_21 rfl (lv_at hl 1 rfl) ?_
  obtain ⟨z_3, hz_3, hf⟩ := bn_some hf
  refine c0S (As := [.int 0, .int p1]) (rest := [.ref (a0 1)]) ⟨hx, hb, hml, hown, hts⟩ (c_X7_at l D cI cZ cJ cT 0 p1 z_3 hz_3) (va_cwS 2 hts gX7_digs_X7_at rfl rfl rfl (by decide +kernel) ⟨Nat.le_of_ble_eq_true rfl, Nat.le_of_ble_eq_true rfl⟩) rfl rfl hl.1 (Nat.le_of_ble_eq_true rfl) dX7_digs_22 ⟨Nat.le_of_ble_eq_true rfl, Nat.le_of_ble_eq_true rfl⟩ ?_
  refine lv_bipush (v := 37) hx hb dX7_digs_25 (by decide) ?_
  refine lv_iadd hx hb dX7_digs_27 ?_
  refine lv_iload_n hx hb dX7_digs_28 rfl (lv_at hl 2 rfl) ?_
  refine lv_iadd hx hb dX7_digs_29 ?_
  refine lv_iconst (v := 0) hx hb dX7_digs_30 (by decide) ?_
  obtain ⟨hi, hf⟩ := chk_some hf
  obtain ⟨u_4, hu_4, hf⟩ := bv_some hf
  refine va_iast hx hb hK hP (hDD u_2) hS 1 0 rfl rfl (inb_in hi) dX7_digs_31 (fun H locs hP _ hS => ?_)
  have hP : va_P D cls (wX7 cI cZ a0 u_4) H := by rw [hu_4]; exact hP
  refine lv_aload_n hx hb dX7_digs_32 rfl (lv_at hl 0 rfl) ?_
  refine va_get (D := D) (ci := 7) (v := .ref (a0 5)) (C := RX7) (T := TX7) (N := 19) hx hb hts i7 hown hK hP 0 rfl rfl 4 (by decide) hk23 (fun _ h9 => h9) rfl dX7_digs_33 ?_
  refine lv_bipush (v := 16) hx hb dX7_digs_36 (by decide) ?_
  refine lv_iload_n hx hb dX7_digs_38 rfl (lv_at hl 1 rfl) ?_
  refine lv_imul hx hb dX7_digs_39 ?_
  refine lv_iload_n hx hb dX7_digs_40 rfl (lv_at hl 2 rfl) ?_
  refine lv_iadd hx hb dX7_digs_41 ?_
  refine lv_iconst (v := 0) hx hb dX7_digs_42 (by decide) ?_
  obtain ⟨hi, hf⟩ := chk_some hf
  obtain ⟨u_5, hu_5, hf⟩ := bv_some hf
  refine va_zast hx hb hK hP (hDD u_4) hS 5 1 rfl rfl (inb_in hi) dX7_digs_43 (fun H locs hP _ hS => ?_)
  have hP : va_P D cls (wX7 cI cZ a0 u_5) H := by rw [hu_5]; exact hP
  have eo := Option.some.inj hf
  have hP : va_P D cls (wX7 cI cZ a0 o) H := by rw [← eo]; exact hP
  rw [hQ]
  exact W.vret hx hb hr (fun t ht hW => ⟨⟨(), rfl, trivial, P_at ht hP⟩, hS.F ht⟩) hS.2.2 dX7_digs_44 hlocks
set_option maxRecDepth 20000 in
theorem ggX7_goes_X7_at : GoodIn wsX7_goes wsX7_at := goodIn_r _ [11] (by decide +kernel) (by decide +kernel)
set_option maxRecDepth 20000 in
theorem gX7_goes_X7_at : GoodIn wsX7_goes (va_wsS RX7 67 yX7_at wsX7_at) := goodIn_app (goodIn_of _ (by decide +kernel)) ggX7_goes_X7_at
set_option maxRecDepth 20000 in
theorem ggX7_goes_X7_digs : GoodIn wsX7_goes wsX7_digs := goodIn_r _ [7, 1, 8, 9, 10, 6, 11, 12, 13, 14, 15, 16, 17, 18, 19, 20, 21, 22, 23, 24, 25, 26, 27, 28, 29, 30] (by decide +kernel) (by decide +kernel)
set_option maxRecDepth 20000 in
theorem gX7_goes_X7_digs : GoodIn wsX7_goes (wsV RX7 94 RX7 yX7_digs wsX7_digs) := goodIn_app (goodIn_of _ (by decide +kernel)) ggX7_goes_X7_digs
theorem dX7_goes_0 : decode cX7_goes 0 = .ok (.iconst 0, 1) := by decide +kernel
theorem dX7_goes_1 : decode cX7_goes 1 = .ok (.istore_n 2, 1) := by decide +kernel
theorem dX7_goes_2 : decode cX7_goes 2 = .ok (.iload_n 2, 1) := by decide +kernel
theorem dX7_goes_3 : decode cX7_goes 3 = .ok (.bipush 16, 2) := by decide +kernel
theorem dX7_goes_5 : decode cX7_goes 5 = .ok (.if_icmp .ge 15, 3) := by decide +kernel
theorem dX7_goes_8 : decode cX7_goes 8 = .ok (.aload_n 0, 1) := by decide +kernel
theorem dX7_goes_9 : decode cX7_goes 9 = .ok (.iload_n 1, 1) := by decide +kernel
theorem dX7_goes_10 : decode cX7_goes 10 = .ok (.iload_n 2, 1) := by decide +kernel
theorem dX7_goes_11 : decode cX7_goes 11 = .ok (.invokevirtual 94, 3) := by decide +kernel
theorem dX7_goes_14 : decode cX7_goes 14 = .ok (.iinc 2 1, 3) := by decide +kernel
theorem dX7_goes_17 : decode cX7_goes 17 = .ok (.goto (-15), 3) := by decide +kernel
theorem dX7_goes_20 : decode cX7_goes 20 = .ok (.aload_n 0, 1) := by decide +kernel
theorem dX7_goes_21 : decode cX7_goes 21 = .ok (.getfield 7, 3) := by decide +kernel
theorem dX7_goes_24 : decode cX7_goes 24 = .ok (.iconst 0, 1) := by decide +kernel
theorem dX7_goes_25 : decode cX7_goes 25 = .ok (.iload_n 1, 1) := by decide +kernel
theorem dX7_goes_26 : decode cX7_goes 26 = .ok (.invokestatic 67, 3) := by decide +kernel
theorem dX7_goes_29 : decode cX7_goes 29 = .ok (.iconst (-1), 1) := by decide +kernel
theorem dX7_goes_30 : decode cX7_goes 30 = .ok (.iastore, 1) := by decide +kernel
theorem dX7_goes_31 : decode cX7_goes 31 = .ok (.aload_n 0, 1) := by decide +kernel
theorem dX7_goes_32 : decode cX7_goes 32 = .ok (.getfield 29, 3) := by decide +kernel
theorem dX7_goes_35 : decode cX7_goes 35 = .ok (.iload_n 1, 1) := by decide +kernel
theorem dX7_goes_36 : decode cX7_goes 36 = .ok (.iconst 0, 1) := by decide +kernel
theorem dX7_goes_37 : decode cX7_goes 37 = .ok (.bastore, 1) := by decide +kernel
theorem dX7_goes_38 : decode cX7_goes 38 = .ok (.return_, 1) := by decide +kernel
def f_X7_goes (u0 : S1) (p1 : Int32) : Option (S1) := qj2 (fun (r2_1 : Int32 → S1 → Option (S1)) (y2_1_2 : Int32) (u2_1_0 : S1) => if 16 ≤ y2_1_2 then bn (f_X7_at 0 p1) (fun z_3 => chk (inb z_3 8480) (bv (st u2_1_0 0 z_3 (-1)) (fun u_4 => chk (inb p1 32) (bv (stz u_4 6 p1 0) (fun u_5 => some (u_5)))))) else bn (f_X7_digs u2_1_0 p1 y2_1_2) (fun z_6 => r2_1 (y2_1_2 + 1) z_6)) (fun k2_1 => k2_1 0 u0)
def rmX7_goes : Room := { frames := 2, cells := 0, slots := 0, locals := 43 }
set_option maxHeartbeats 4000000 in
set_option maxRecDepth 100000 in
theorem c_X7_goes (l : Launch) (D : va_G) (cI cZ cJ cT : ClassId) (a0 : Nat → Nat) (sz : Nat) (u0 : S1) (p1 : Int32) (o : S1) (hf : f_X7_goes u0 p1 = some o) : Met l yX7_goes wsX7_goes rmX7_goes (va_Pc [.ref (a0 0), .int p1] (PW D cls (tys cI cZ cJ cT) ((wX7 cI cZ a0 u0)) sz)) (QWv D cls ((wX7 cI cZ a0 o)) (va_A ((wX7 cI cZ a0 u0)) sz)) 0 0 (va_A ((wX7 cI cZ a0 u0)) sz) := by
  refine Met.ofW (cc := cX7_goes) (maxL := 3) (ret := none) (by decide) rfl ?_
  intro p e s m args below meth c s₁ B hml hv
  obtain ⟨hav, hsz, hP, hK, hD0⟩ := hv
  have hx := B.exec
  have hb := B.bytes
  have hr := B.returns
  have hlocks := B.notSynchronized
  have hts := atoms_spec (ws := wsX7_goes) B.pre
  have hown : s.vm.findClass RX7 = some m.cls := findClass_of_methodNamed B.named
  have i7 : ∀ w ∈ wsX70, w ∈ wsX7_goes := fun w h => List.mem_cons_of_mem _ (List.mem_append_right _ h)
  have hk7 := hts (.fieldLink RX7 7 "InoderyModel" "s" "[I") (by decide +kernel)
  have hk29 := hts (.fieldLink RX7 29 "InoderyModel" "hasError" "[Z") (by decide +kernel)
  subst hsz
  have hD := hD0.self (sz := s.heap.size)
  generalize hAe : va_A ((wX7 cI cZ a0 u0)) s.heap.size = A at hD ⊢
  have hA : ∀ q : Nat, s.heap.size ≤ q → A q := fun q h => by rw [← hAe]; exact Or.inr h
  have hS : va_S A s.heap s.heap [] := va_S.rf
  have hDD : ∀ w0 : S1, va_D A ((wX7 cI cZ a0 w0)) := fun _ => D_same (w := (wX7 cI cZ a0 u0)) rfl hD
  refine Wq (fun Q hQ => ?_)
  refine W_entry hav (Nat.le_of_ble_eq_true rfl) (fun ls hl => ?_)
  have hl : lv_has ls 3 [(0, .ref (a0 0)), (1, .int p1)] := hl
  unfold f_X7_goes at hf
  refine W_heap hP hS (fun H locs hP hS => ?_)
  refine lv_iconst (v := 0) hx hb dX7_goes_0 (by decide) ?_
  refine lv_istore_n (lv' := [(2, .int 0), (0, .ref (a0 0)), (1, .int p1)]) hx hb dX7_goes_1 rfl hl (by decide) rfl (fun ls hl => ?_)
  obtain ⟨G2_1, hG2_1, hf⟩ := qj2_some hf
  have j2_1 : ∀ (n : Nat) (y2_1_2 : Int32) (u2_1_0 : S1) (H : Heap) (locs : List Loc) (ls : Array Slot), ql2 G2_1 n y2_1_2 u2_1_0 = some o → va_P D cls (wX7 cI cZ a0 u2_1_0) H → va_S A s.heap H locs → lv_has ls 3 [(0, .ref (a0 0)), (1, .int p1), (2, .int y2_1_2)] → W p l e (headSpec wsX7_goes rmX7_goes).room s m args below meth c H locs 0 0 Q (F0 m 2 ls []) := by
    intro n
    induction n with
    | zero => intro y2_1_2 u2_1_0 H locs ls hf hP hS hl; exact (ql2_z hf).elim
    | succ n ih2_1 =>
      intro y2_1_2 u2_1_0 H locs ls hf hP hS hl
      have hf := ql2_s hG2_1 hf
      obtain ⟨r2_1, hr2_1⟩ : ∃ z, z = ql2 G2_1 n := ⟨_, rfl⟩
      rw [← hr2_1] at hf ih2_1
      refine lv_iload_n hx hb dX7_goes_2 rfl (lv_at hl 2 rfl) ?_
      refine lv_bipush (v := 16) hx hb dX7_goes_3 (by decide) ?_
      refine lv_icmp_ge (tgt := 20) hx hb dX7_goes_5 (by decide) (fun c_2 => ?_) (fun c_2 => ?_)
      · have hf := ite_t hf c_2
        refine lv_aload_n hx hb dX7_goes_20 rfl (lv_at hl 0 rfl) ?_
        refine va_get (D := D) (ci := 7) (v := .ref (a0 1)) (C := RX7) (T := TX7) (N := 19) hx hb hts i7 hown hK hP 0 rfl rfl 0 (by decide) hk7 (fun _ h9 => h9) rfl dX7_goes_21 ?_
        refine lv_iconst (v := 0) hx hb dX7_goes_24 (by decide) ?_
        refine lv_iload_n hx hb dX7_goes_25 rfl (lv_at hl 1 rfl) ?_
        obtain ⟨z_3, hz_3, hf⟩ := bn_some hf
        refine c0S (As := [.int 0, .int p1]) (rest := [.ref (a0 1)]) ⟨hx, hb, hml, hown, hts⟩ (c_X7_at l D cI cZ cJ cT 0 p1 z_3 hz_3) (va_cwS 2 hts gX7_goes_X7_at rfl rfl rfl (by decide +kernel) ⟨Nat.le_of_ble_eq_true rfl, Nat.le_of_ble_eq_true rfl⟩) rfl rfl hl.1 (Nat.le_of_ble_eq_true rfl) dX7_goes_26 ⟨Nat.le_of_ble_eq_true rfl, Nat.le_of_ble_eq_true rfl⟩ ?_
        refine lv_iconst (v := (-1)) hx hb dX7_goes_29 (by decide) ?_
        obtain ⟨hi, hf⟩ := chk_some hf
        obtain ⟨u_4, hu_4, hf⟩ := bv_some hf
        refine va_iast hx hb hK hP (hDD u2_1_0) hS 1 0 rfl rfl (inb_in hi) dX7_goes_30 (fun H locs hP _ hS => ?_)
        have hP : va_P D cls (wX7 cI cZ a0 u_4) H := by rw [hu_4]; exact hP
        refine lv_aload_n hx hb dX7_goes_31 rfl (lv_at hl 0 rfl) ?_
        refine va_get (D := D) (ci := 7) (v := .ref (a0 7)) (C := RX7) (T := TX7) (N := 19) hx hb hts i7 hown hK hP 0 rfl rfl 6 (by decide) hk29 (fun _ h9 => h9) rfl dX7_goes_32 ?_
        refine lv_iload_n hx hb dX7_goes_35 rfl (lv_at hl 1 rfl) ?_
        refine lv_iconst (v := 0) hx hb dX7_goes_36 (by decide) ?_
        obtain ⟨hi, hf⟩ := chk_some hf
        obtain ⟨u_5, hu_5, hf⟩ := bv_some hf
        refine va_zast hx hb hK hP (hDD u_4) hS 7 1 rfl rfl (inb_in hi) dX7_goes_37 (fun H locs hP _ hS => ?_)
        have hP : va_P D cls (wX7 cI cZ a0 u_5) H := by rw [hu_5]; exact hP
        have eo := Option.some.inj hf
        have hP : va_P D cls (wX7 cI cZ a0 o) H := by rw [← eo]; exact hP
        rw [hQ]
        exact W.vret hx hb hr (fun t ht hW => ⟨⟨(), rfl, trivial, P_at ht hP⟩, hS.F ht⟩) hS.2.2 dX7_goes_38 hlocks
      · have hf := ite_f hf c_2
        refine lv_aload_n hx hb dX7_goes_8 rfl (lv_at hl 0 rfl) ?_
        refine lv_iload_n hx hb dX7_goes_9 rfl (lv_at hl 1 rfl) ?_
        refine lv_iload_n hx hb dX7_goes_10 rfl (lv_at hl 2 rfl) ?_
        obtain ⟨z_6, hz_6, hf⟩ := bn_some hf
        refine cWVv (As := [.int p1, .int y2_1_2]) (rest := []) ⟨hx, hb, hml, hown, hts⟩ (c_X7_digs l D cI cZ cJ cT a0 H.size u2_1_0 p1 y2_1_2 z_6 hz_6) (cwV 2 hts gX7_goes_X7_digs rfl rfl rfl (by decide +kernel) ⟨Nat.le_of_ble_eq_true rfl, Nat.le_of_ble_eq_true rfl⟩) hP hK (hDD u2_1_0) hS (own_free (hDD u2_1_0) hS hA) (va_recv hK hP (ci := 7) (q0 := 0) rfl rfl) rfl rfl hl.1 (Nat.le_of_ble_eq_true rfl) dX7_goes_11 ⟨Nat.le_of_ble_eq_true rfl, Nat.le_of_ble_eq_true rfl⟩ (fun H1 locs hP1 hk1 hS => ?_)
        have hP : va_P D cls (wX7 cI cZ a0 z_6) H1 := hP1
        clear hP1 hk1
        generalize H1 = H at hP hS ⊢
        refine lv_iinc (v := y2_1_2 + 1) (lv' := [(2, .int (y2_1_2 + 1)), (0, .ref (a0 0)), (1, .int p1)]) hx hb dX7_goes_14 hl (k := 2) rfl rfl (by decide) rfl (fun ls hl => ?_)
        refine lv_goto (tgt := 2) hx hb dX7_goes_17 (by decide) ?_
        exact ih2_1 _ _ _ _ _ hf hP hS (lv_sub hl [1, 2, 0] rfl)
  exact j2_1 4096 _ _ _ _ _ hf hP hS (lv_sub hl [1, 2, 0] rfl)
