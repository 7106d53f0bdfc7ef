theorem dX2_isBlock_0 : decode cX2_isBlock 0 = .ok (.iload_n 0, 1) := by decide +kernel
theorem dX2_isBlock_1 : decode cX2_isBlock 1 = .ok (.ifCond .lt 13, 3) := by decide +kernel
theorem dX2_isBlock_4 : decode cX2_isBlock 4 = .ok (.iload_n 0, 1) := by decide +kernel
theorem dX2_isBlock_5 : decode cX2_isBlock 5 = .ok (.bipush 64, 2) := by decide +kernel
theorem dX2_isBlock_7 : decode cX2_isBlock 7 = .ok (.if_icmp .ge 7, 3) := by decide +kernel
theorem dX2_isBlock_10 : decode cX2_isBlock 10 = .ok (.iconst 1, 1) := by decide +kernel
theorem dX2_isBlock_11 : decode cX2_isBlock 11 = .ok (.goto 4, 3) := by decide +kernel
theorem dX2_isBlock_14 : decode cX2_isBlock 14 = .ok (.iconst 0, 1) := by decide +kernel
theorem dX2_isBlock_15 : decode cX2_isBlock 15 = .ok (.ireturn, 1) := by decide +kernel
def f_X2_isBlock (p0 : Int32) : Option (Int32) := jn (fun (v15_1_0 : Int32) => some (vp_nar .boolean v15_1_0)) (fun k15_1 => jn (k15_1 0) (fun k14_2 => if p0 < 0 then k14_2 else if 64 ≤ p0 then k14_2 else k15_1 1))
def rmX2_isBlock : Room := { frames := 0, cells := 0, slots := 0, locals := 0 }
set_option maxHeartbeats 4000000 in
set_option maxRecDepth 100000 in
theorem c_X2_isBlock (l : Launch) (D : va_G) (cI cZ cJ cT : ClassId) (p0 : Int32) (o : Int32) (hf : f_X2_isBlock p0 = some o) : Met l yX2_isBlock wsX2_isBlock rmX2_isBlock (va_Pc [.int p0] (fun _ => True)) (QR o) 0 0 (fun _ => False) := by
  refine Met.ofW (cc := cX2_isBlock) (maxL := 1) (ret := (some .boolean)) (by decide) rfl ?_
  intro p e s m args below meth c s₁ B hml hv
  obtain ⟨hav, -⟩ := hv
  have hx := B.exec
  have hb := B.bytes
  have hr := B.returns
  have hlocks := B.notSynchronized
  refine Wq (fun Q hQ => ?_)
  refine W_entry hav (Nat.le_of_ble_eq_true rfl) (fun ls hl => ?_)
  have hl : lv_has ls 1 [(0, .int p0)] := hl
  unfold f_X2_isBlock at hf
  refine lv_iload_n hx hb dX2_isBlock_0 rfl (lv_at hl 0 rfl) ?_
  obtain ⟨k15_1, hk15_1, hf⟩ := jn_some hf
  have j15_1 : ∀ (v15_1_0 : Int32) (ls : Array Slot), k15_1 v15_1_0 = some o → lv_has ls 1 [] → W p l e (headSpec wsX2_isBlock rmX2_isBlock).room s m args below meth c s.heap [] 0 0 Q (F0 m 15 ls [.int v15_1_0]) := by
    intro v15_1_0 ls hf hl
    have hf := qa1 hk15_1 hf
    rw [hQ]
    exact zretN (v := v15_1_0) (v' := vp_nar .boolean v15_1_0) hx hb hr rfl (fun t ht hW => ⟨_, rfl, Option.some.inj hf, ht⟩) (fun _ h => nomatch h) dX2_isBlock_15 hlocks
  obtain ⟨k14_2, hk14_2, hf⟩ := jn_some hf
  have j14_2 : ∀ (ls : Array Slot), k14_2 = some o → lv_has ls 1 [] → W p l e (headSpec wsX2_isBlock rmX2_isBlock).room s m args below meth c s.heap [] 0 0 Q (F0 m 14 ls []) := by
    intro ls hf hl
    have hf := qa0 hk14_2 hf
    refine lv_iconst (v := 0) hx hb dX2_isBlock_14 (by decide) ?_
    exact j15_1 _ _ hf (lv_sub hl [] rfl)
  refine lv_if_lt (tgt := 14) hx hb dX2_isBlock_1 (by decide) (fun c_3 => ?_) (fun c_3 => ?_)
  · have hf := ite_t hf c_3
    exact j14_2 _ hf (lv_sub hl [] rfl)
  · have hf := ite_f hf c_3
    refine lv_iload_n hx hb dX2_isBlock_4 rfl (lv_at hl 0 rfl) ?_
    refine lv_bipush (v := 64) hx hb dX2_isBlock_5 (by decide) ?_
    refine lv_icmp_ge (tgt := 14) hx hb dX2_isBlock_7 (by decide) (fun c_4 => ?_) (fun c_4 => ?_)
    · have hf := ite_t hf c_4
      exact j14_2 _ hf (lv_sub hl [] rfl)
    · have hf := ite_f hf c_4
      refine lv_iconst (v := 1) hx hb dX2_isBlock_10 (by decide) ?_
      refine lv_goto (tgt := 15) hx hb dX2_isBlock_11 (by decide) ?_
      exact j15_1 _ _ hf (lv_sub hl [] rfl)
set_option maxRecDepth 20000 in
theorem ggX2_numberOf_X2_isBlock : GoodIn wsX2_numberOf wsX2_isBlock := goodIn_r _ [5] (by decide +kernel) (by decide +kernel)
set_option maxRecDepth 20000 in
theorem gX2_numberOf_X2_isBlock : GoodIn wsX2_numberOf (va_wsS RX2 19 yX2_isBlock wsX2_isBlock) := goodIn_app (goodIn_of _ (by decide +kernel)) ggX2_numberOf_X2_isBlock
theorem dX2_numberOf_0 : decode cX2_numberOf 0 = .ok (.iload_n 1, 1) := by decide +kernel
theorem dX2_numberOf_1 : decode cX2_numberOf 1 = .ok (.invokestatic 19, 3) := by decide +kernel
theorem dX2_numberOf_4 : decode cX2_numberOf 4 = .ok (.ifCond .eq 12, 3) := by decide +kernel
theorem dX2_numberOf_7 : decode cX2_numberOf 7 = .ok (.aload_n 0, 1) := by decide +kernel
theorem dX2_numberOf_8 : decode cX2_numberOf 8 = .ok (.getfield 9, 3) := by decide +kernel
theorem dX2_numberOf_11 : decode cX2_numberOf 11 = .ok (.iload_n 1, 1) := by decide +kernel
theorem dX2_numberOf_12 : decode cX2_numberOf 12 = .ok (.iaload, 1) := by decide +kernel
theorem dX2_numberOf_13 : decode cX2_numberOf 13 = .ok (.goto 4, 3) := by decide +kernel
theorem dX2_numberOf_16 : decode cX2_numberOf 16 = .ok (.iconst 0, 1) := by decide +kernel
theorem dX2_numberOf_17 : decode cX2_numberOf 17 = .ok (.ireturn, 1) := by decide +kernel
def f_X2_numberOf (u0 : S1) (p1 : Int32) : Option (Int32) := bn (f_X2_isBlock p1) (fun z_1 => jn (fun (v17_2_0 : Int32) => some v17_2_0) (fun k17_2 => if z_1 = 0 then k17_2 0 else chk (inb p1 64) (k17_2 (u0 0 (p1).toNatClampNeg))))
def rmX2_numberOf : Room := { frames := 1, cells := 0, slots := 0, locals := 20 }
set_option maxHeartbeats 4000000 in
set_option maxRecDepth 100000 in
theorem c_X2_numberOf (l : Launch) (D : va_G) (cI cZ cJ cT : ClassId) (a0 : Nat → Nat) (u0 : S1) (p1 : Int32) (o : Int32) (hf : f_X2_numberOf u0 p1 = some o) : Met l yX2_numberOf wsX2_numberOf rmX2_numberOf (va_Pc [.ref (a0 0), .int p1] (PR D cls (tys cI cZ cJ cT) ((wX2 cI cZ a0 u0)))) (QR o) 0 0 (fun _ => False) := by
  refine Met.ofW (cc := cX2_numberOf) (maxL := 2) (ret := (some .int)) (by decide) rfl ?_
  intro p e s m args below meth c s₁ B hml hv
  obtain ⟨hav, hP, hK⟩ := hv
  have hx := B.exec
  have hb := B.bytes
  have hr := B.returns
  have hlocks := B.notSynchronized
  have hts := atoms_spec (ws := wsX2_numberOf) B.pre
  have hown : s.vm.findClass RX2 = some m.cls := findClass_of_methodNamed B.named
  have i2 : ∀ w ∈ wsX20, w ∈ wsX2_numberOf := fun w h => List.mem_cons_of_mem _ (List.mem_append_right _ h)
  have hk9 := hts (.fieldLink RX2 9 "Inodery$Disk" "numbers" "[I") (by decide +kernel)
  refine Wq (fun Q hQ => ?_)
  refine W_entry hav (Nat.le_of_ble_eq_true rfl) (fun ls hl => ?_)
  have hl : lv_has ls 2 [(0, .ref (a0 0)), (1, .int p1)] := hl
  unfold f_X2_numberOf at hf
  refine lv_iload_n hx hb dX2_numberOf_0 rfl (lv_at hl 1 rfl) ?_
  obtain ⟨z_1, hz_1, hf⟩ := bn_some hf
  refine c0S (As := [.int p1]) (rest := []) ⟨hx, hb, hml, hown, hts⟩ (c_X2_isBlock l D cI cZ cJ cT p1 z_1 hz_1) (va_cwS 1 hts gX2_numberOf_X2_isBlock rfl rfl rfl (by decide +kernel) ⟨Nat.le_of_ble_eq_true rfl, Nat.le_of_ble_eq_true rfl⟩) rfl rfl hl.1 (Nat.le_of_ble_eq_true rfl) dX2_numberOf_1 ⟨Nat.le_of_ble_eq_true rfl, Nat.le_of_ble_eq_true rfl⟩ ?_
  obtain ⟨k17_2, hk17_2, hf⟩ := jn_some hf
  have j17_2 : ∀ (v17_2_0 : Int32) (ls : Array Slot), k17_2 v17_2_0 = some o → lv_has ls 2 [] → W p l e (headSpec wsX2_numberOf rmX2_numberOf).room s m args below meth c s.heap [] 0 0 Q (F0 m 17 ls [.int v17_2_0]) := by
    intro v17_2_0 ls hf hl
    have hf := qa1 hk17_2 hf
    rw [hQ]
    exact W.iret hx hb hr (fun t ht hW => ⟨_, rfl, Option.some.inj hf, ht⟩) (fun _ h => nomatch h) dX2_numberOf_17 hlocks
  refine lv_if_eq (tgt := 16) hx hb dX2_numberOf_4 (by decide) (fun c_3 => ?_) (fun c_3 => ?_)
  · have hf := ite_t hf c_3
    refine lv_iconst (v := 0) hx hb dX2_numberOf_16 (by decide) ?_
    exact j17_2 _ _ hf (lv_sub hl [] rfl)
  · have hf := ite_f hf c_3
    refine lv_aload_n hx hb dX2_numberOf_7 rfl (lv_at hl 0 rfl) ?_
    refine va_get (D := D) (ci := 2) (v := .ref (a0 1)) (C := RX2) (T := TX2) (N := 2) hx hb hts i2 hown hK hP 0 rfl rfl 0 (by decide) hk9 (fun _ h9 => h9) rfl dX2_numberOf_8 ?_
    refine lv_iload_n hx hb dX2_numberOf_11 rfl (lv_at hl 1 rfl) ?_
    obtain ⟨hi, hf⟩ := chk_some hf
    refine va_iald hx hb hK hP 1 0 rfl rfl (inb_in hi) dX2_numberOf_12 ?_
    refine lv_goto (tgt := 17) hx hb dX2_numberOf_13 (by decide) ?_
    exact j17_2 _ _ hf (lv_sub hl [] rfl)
set_option maxRecDepth 20000 in
theorem ggX2_setNumber_X2_isBlock : GoodIn wsX2_setNumber wsX2_isBlock := goodIn_r _ [5] (by decide +kernel) (by decide +kernel)
set_option maxRecDepth 20000 in
theorem gX2_setNumber_X2_isBlock : GoodIn wsX2_setNumber (va_wsS RX2 19 yX2_isBlock wsX2_isBlock) := goodIn_app (goodIn_of _ (by decide +kernel)) ggX2_setNumber_X2_isBlock
theorem dX2_setNumber_0 : decode cX2_setNumber 0 = .ok (.iload_n 1, 1) := by decide +kernel
theorem dX2_setNumber_1 : decode cX2_setNumber 1 = .ok (.invokestatic 19, 3) := by decide +kernel
theorem dX2_setNumber_4 : decode cX2_setNumber 4 = .ok (.ifCond .eq 10, 3) := by decide +kernel
theorem dX2_setNumber_7 : decode cX2_setNumber 7 = .ok (.aload_n 0, 1) := by decide +kernel
theorem dX2_setNumber_8 : decode cX2_setNumber 8 = .ok (.getfield 9, 3) := by decide +kernel
theorem dX2_setNumber_11 : decode cX2_setNumber 11 = .ok (.iload_n 1, 1) := by decide +kernel
theorem dX2_setNumber_12 : decode cX2_setNumber 12 = .ok (.iload_n 2, 1) := by decide +kernel
theorem dX2_setNumber_13 : decode cX2_setNumber 13 = .ok (.iastore, 1) := by decide +kernel
theorem dX2_setNumber_14 : decode cX2_setNumber 14 = .ok (.return_, 1) := by decide +kernel
def f_X2_setNumber (u0 : S1) (p1 : Int32) (p2 : Int32) : Option (S1) := bn (f_X2_isBlock p1) (fun z_1 => jn (fun (u14_2_0 : S1) => some (u14_2_0)) (fun k14_2 => if z_1 = 0 then k14_2 u0 else chk (inb p1 64) (bv (st u0 0 p1 p2) (fun u_4 => k14_2 u_4))))
def rmX2_setNumber : Room := { frames := 1, cells := 0, slots := 0, locals := 20 }
set_option maxHeartbeats 4000000 in
set_option maxRecDepth 100000 in
theorem c_X2_setNumber (l : Launch) (D : va_G) (cI cZ cJ cT : ClassId) (a0 : Nat → Nat) (sz : Nat) (u0 : S1) (p1 : Int32) (p2 : Int32) (o : S1) (hf : f_X2_setNumber u0 p1 p2 = some o) : Met l yX2_setNumber wsX2_setNumber rmX2_setNumber (va_Pc [.ref (a0 0), .int p1, .int p2] (PW D cls (tys cI cZ cJ cT) ((wX2 cI cZ a0 u0)) sz)) (QWv D cls ((wX2 cI cZ a0 o)) (va_A ((wX2 cI cZ a0 u0)) sz)) 0 0 (va_A ((wX2 cI cZ a0 u0)) sz) := by
  refine Met.ofW (cc := cX2_setNumber) (maxL := 3) (ret := none) (by decide) rfl ?_
  intro p e s m args below meth c s₁ B hml hv
  obtain ⟨hav, hsz, hP, hK, hD0⟩ := hv
  have hx := B.exec
  have hb := B.bytes
  have hr := B.returns
  have hlocks := B.notSynchronized
  have hts := atoms_spec (ws := wsX2_setNumber) B.pre
  have hown : s.vm.findClass RX2 = some m.cls := findClass_of_methodNamed B.named
  have i2 : ∀ w ∈ wsX20, w ∈ wsX2_setNumber := fun w h => List.mem_cons_of_mem _ (List.mem_append_right _ h)
  have hk9 := hts (.fieldLink RX2 9 "Inodery$Disk" "numbers" "[I") (by decide +kernel)
  subst hsz
  have hD := hD0.self (sz := s.heap.size)
  generalize hAe : va_A ((wX2 cI cZ a0 u0)) s.heap.size = A at hD ⊢
  have hA : ∀ q : Nat, s.heap.size ≤ q → A q := fun q h => by rw [← hAe]; exact Or.inr h
  have hS : va_S A s.heap s.heap [] := va_S.rf
  have hDD : ∀ w0 : S1, va_D A ((wX2 cI cZ a0 w0)) := fun _ => D_same (w := (wX2 cI cZ a0 u0)) rfl hD
  refine Wq (fun Q hQ => ?_)
  refine W_entry hav (Nat.le_of_ble_eq_true rfl) (fun ls hl => ?_)
  have hl : lv_has ls 3 [(0, .ref (a0 0)), (1, .int p1), (2, .int p2)] := hl
  unfold f_X2_setNumber at hf
  refine W_heap hP hS (fun H locs hP hS => ?_)
  refine lv_iload_n hx hb dX2_setNumber_0 rfl (lv_at hl 1 rfl) ?_
  obtain ⟨z_1, hz_1, hf⟩ := bn_some hf
  refine c0S (As := [.int p1]) (rest := []) ⟨hx, hb, hml, hown, hts⟩ (c_X2_isBlock l D cI cZ cJ cT p1 z_1 hz_1) (va_cwS 1 hts gX2_setNumber_X2_isBlock rfl rfl rfl (by decide +kernel) ⟨Nat.le_of_ble_eq_true rfl, Nat.le_of_ble_eq_true rfl⟩) rfl rfl hl.1 (Nat.le_of_ble_eq_true rfl) dX2_setNumber_1 ⟨Nat.le_of_ble_eq_true rfl, Nat.le_of_ble_eq_true rfl⟩ ?_
  obtain ⟨k14_2, hk14_2, hf⟩ := jn_some hf
  have j14_2 : ∀ (u14_2_0 : S1) (H : Heap) (locs : List Loc) (ls : Array Slot), k14_2 u14_2_0 = some o → va_P D cls (wX2 cI cZ a0 u14_2_0) H → va_S A s.heap H locs → lv_has ls 3 [] → W p l e (headSpec wsX2_setNumber rmX2_setNumber).room s m args below meth c H locs 0 0 Q (F0 m 14 ls []) := by
    intro u14_2_0 H locs ls hf hP hS hl
    have hf := qa1 hk14_2 hf
    have eo := Option.some.inj hf
    have hP : va_P D cls (wX2 cI cZ a0 o) H := by rw [← eo]; exact hP
    rw [hQ]
    exact W.vret hx hb hr (fun t ht hW => ⟨⟨(), rfl, trivial, P_at ht hP⟩, hS.F ht⟩) hS.2.2 dX2_setNumber_14 hlocks
  refine lv_if_eq (tgt := 14) hx hb dX2_setNumber_4 (by decide) (fun c_3 => ?_) (fun c_3 => ?_)
  · have hf := ite_t hf c_3
    exact j14_2 _ _ _ _ hf hP hS (lv_sub hl [] rfl)
  · have hf := ite_f hf c_3
    refine lv_aload_n hx hb dX2_setNumber_7 rfl (lv_at hl 0 rfl) ?_
    refine va_get (D := D) (ci := 2) (v := .ref (a0 1)) (C := RX2) (T := TX2) (N := 2) hx hb hts i2 hown hK hP 0 rfl rfl 0 (by decide) hk9 (fun _ h9 => h9) rfl dX2_setNumber_8 ?_
    refine lv_iload_n hx hb dX2_setNumber_11 rfl (lv_at hl 1 rfl) ?_
    refine lv_iload_n hx hb dX2_setNumber_12 rfl (lv_at hl 2 rfl) ?_
    obtain ⟨hi, hf⟩ := chk_some hf
    obtain ⟨u_4, hu_4, hf⟩ := bv_some hf
    refine va_iast hx hb hK hP (hDD u0) hS 1 0 rfl rfl (inb_in hi) dX2_setNumber_13 (fun H locs hP _ hS => ?_)
    have hP : va_P D cls (wX2 cI cZ a0 u_4) H := by rw [hu_4]; exact hP
    exact j14_2 _ _ _ _ hf hP hS (lv_sub hl [] rfl)
set_option maxRecDepth 20000 in
theorem ggX2_isBad_X2_isBlock : GoodIn wsX2_isBad wsX2_isBlock := goodIn_r _ [5] (by decide +kernel) (by decide +kernel)
set_option maxRecDepth 20000 in
theorem gX2_isBad_X2_isBlock : GoodIn wsX2_isBad (va_wsS RX2 19 yX2_isBlock wsX2_isBlock) := goodIn_app (goodIn_of _ (by decide +kernel)) ggX2_isBad_X2_isBlock
theorem dX2_isBad_0 : decode cX2_isBad 0 = .ok (.iload_n 1, 1) := by decide +kernel
theorem dX2_isBad_1 : decode cX2_isBad 1 = .ok (.invokestatic 19, 3) := by decide +kernel
theorem dX2_isBad_4 : decode cX2_isBad 4 = .ok (.ifCond .eq 16, 3) := by decide +kernel
theorem dX2_isBad_7 : decode cX2_isBad 7 = .ok (.aload_n 0, 1) := by decide +kernel
theorem dX2_isBad_8 : decode cX2_isBad 8 = .ok (.getfield 15, 3) := by decide +kernel
theorem dX2_isBad_11 : decode cX2_isBad 11 = .ok (.iload_n 1, 1) := by decide +kernel
theorem dX2_isBad_12 : decode cX2_isBad 12 = .ok (.baload, 1) := by decide +kernel
theorem dX2_isBad_13 : decode cX2_isBad 13 = .ok (.ifCond .eq 7, 3) := by decide +kernel
theorem dX2_isBad_16 : decode cX2_isBad 16 = .ok (.iconst 1, 1) := by decide +kernel
theorem dX2_isBad_17 : decode cX2_isBad 17 = .ok (.goto 4, 3) := by decide +kernel
theorem dX2_isBad_20 : decode cX2_isBad 20 = .ok (.iconst 0, 1) := by decide +kernel
theorem dX2_isBad_21 : decode cX2_isBad 21 = .ok (.ireturn, 1) := by decide +kernel
def f_X2_isBad (u0 : S1) (p1 : Int32) : Option (Int32) := bn (f_X2_isBlock p1) (fun z_1 => jn (fun (v21_2_0 : Int32) => some (vp_nar .boolean v21_2_0)) (fun k21_2 => jn (k21_2 0) (fun k20_3 => if z_1 = 0 then k20_3 else chk (inb p1 64) (if (u0 1 (p1).toNatClampNeg) = 0 then k20_3 else k21_2 1))))
def rmX2_isBad : Room := { frames := 1, cells := 0, slots := 0, locals := 20 }
set_option maxHeartbeats 4000000 in
set_option maxRecDepth 100000 in
theorem c_X2_isBad (l : Launch) (D : va_G) (cI cZ cJ cT : ClassId) (a0 : Nat → Nat) (u0 : S1) (p1 : Int32) (o : Int32) (hf : f_X2_isBad u0 p1 = some o) : Met l yX2_isBad wsX2_isBad rmX2_isBad (va_Pc [.ref (a0 0), .int p1] (PR D cls (tys cI cZ cJ cT) ((wX2 cI cZ a0 u0)))) (QR o) 0 0 (fun _ => False) := by
  refine Met.ofW (cc := cX2_isBad) (maxL := 2) (ret := (some .boolean)) (by decide) rfl ?_
  intro p e s m args below meth c s₁ B hml hv
  obtain ⟨hav, hP, hK⟩ := hv
  have hx := B.exec
  have hb := B.bytes
  have hr := B.returns
  have hlocks := B.notSynchronized
  have hts := atoms_spec (ws := wsX2_isBad) B.pre
  have hown : s.vm.findClass RX2 = some m.cls := findClass_of_methodNamed B.named
  have i2 : ∀ w ∈ wsX20, w ∈ wsX2_isBad := fun w h => List.mem_cons_of_mem _ (List.mem_append_right _ h)
  have hk15 := hts (.fieldLink RX2 15 "Inodery$Disk" "bads" "[Z") (by decide +kernel)
  refine Wq (fun Q hQ => ?_)
  refine W_entry hav (Nat.le_of_ble_eq_true rfl) (fun ls hl => ?_)
  have hl : lv_has ls 2 [(0, .ref (a0 0)), (1, .int p1)] := hl
  unfold f_X2_isBad at hf
  refine lv_iload_n hx hb dX2_isBad_0 rfl (lv_at hl 1 rfl) ?_
  obtain ⟨z_1, hz_1, hf⟩ := bn_some hf
  refine c0S (As := [.int p1]) (rest := []) ⟨hx, hb, hml, hown, hts⟩ (c_X2_isBlock l D cI cZ cJ cT p1 z_1 hz_1) (va_cwS 1 hts gX2_isBad_X2_isBlock rfl rfl rfl (by decide +kernel) ⟨Nat.le_of_ble_eq_true rfl, Nat.le_of_ble_eq_true rfl⟩) rfl rfl hl.1 (Nat.le_of_ble_eq_true rfl) dX2_isBad_1 ⟨Nat.le_of_ble_eq_true rfl, Nat.le_of_ble_eq_true rfl⟩ ?_
  obtain ⟨k21_2, hk21_2, hf⟩ := jn_some hf
  have j21_2 : ∀ (v21_2_0 : Int32) (ls : Array Slot), k21_2 v21_2_0 = some o → lv_has ls 2 [] → W p l e (headSpec wsX2_isBad rmX2_isBad).room s m args below meth c s.heap [] 0 0 Q (F0 m 21 ls [.int v21_2_0]) := by
    intro v21_2_0 ls hf hl
    have hf := qa1 hk21_2 hf
    rw [hQ]
    exact zretN (v := v21_2_0) (v' := vp_nar .boolean v21_2_0) hx hb hr rfl (fun t ht hW => ⟨_, rfl, Option.some.inj hf, ht⟩) (fun _ h => nomatch h) dX2_isBad_21 hlocks
  obtain ⟨k20_3, hk20_3, hf⟩ := jn_some hf
  have j20_3 : ∀ (ls : Array Slot), k20_3 = some o → lv_has ls 2 [] → W p l e (headSpec wsX2_isBad rmX2_isBad).room s m args below meth c s.heap [] 0 0 Q (F0 m 20 ls []) := by
    intro ls hf hl
    have hf := qa0 hk20_3 hf
    refine lv_iconst (v := 0) hx hb dX2_isBad_20 (by decide) ?_
    exact j21_2 _ _ hf (lv_sub hl [] rfl)
  refine lv_if_eq (tgt := 20) hx hb dX2_isBad_4 (by decide) (fun c_4 => ?_) (fun c_4 => ?_)
  · have hf := ite_t hf c_4
    exact j20_3 _ hf (lv_sub hl [] rfl)
  · have hf := ite_f hf c_4
    refine lv_aload_n hx hb dX2_isBad_7 rfl (lv_at hl 0 rfl) ?_
    refine va_get (D := D) (ci := 2) (v := .ref (a0 2)) (C := RX2) (T := TX2) (N := 2) hx hb hts i2 hown hK hP 0 rfl rfl 1 (by decide) hk15 (fun _ h9 => h9) rfl dX2_isBad_8 ?_
    refine lv_iload_n hx hb dX2_isBad_11 rfl (lv_at hl 1 rfl) ?_
    obtain ⟨hi, hf⟩ := chk_some hf
    refine va_zald hx hb hK hP 2 1 rfl rfl (inb_in hi) dX2_isBad_12 ?_
    refine lv_if_eq (tgt := 20) hx hb dX2_isBad_13 (by decide) (fun c_5 => ?_) (fun c_5 => ?_)
    · have hf := ite_t hf c_5
      exact j20_3 _ hf (lv_sub hl [] rfl)
    · have hf := ite_f hf c_5
      refine lv_iconst (v := 1) hx hb dX2_isBad_16 (by decide) ?_
      refine lv_goto (tgt := 21) hx hb dX2_isBad_17 (by decide) ?_
      exact j21_2 _ _ hf (lv_sub hl [] rfl)
set_option maxRecDepth 20000 in
theorem ggX2_setBad_X2_isBlock : GoodIn wsX2_setBad wsX2_isBlock := goodIn_r _ [5] (by decide +kernel) (by decide +kernel)
set_option maxRecDepth 20000 in
theorem gX2_setBad_X2_isBlock : GoodIn wsX2_setBad (va_wsS RX2 19 yX2_isBlock wsX2_isBlock) := goodIn_app (goodIn_of _ (by decide +kernel)) ggX2_setBad_X2_isBlock
theorem dX2_setBad_0 : decode cX2_setBad 0 = .ok (.iload_n 1, 1) := by decide +kernel
theorem dX2_setBad_1 : decode cX2_setBad 1 = .ok (.invokestatic 19, 3) := by decide +kernel
theorem dX2_setBad_4 : decode cX2_setBad 4 = .ok (.ifCond .eq 10, 3) := by decide +kernel
theorem dX2_setBad_7 : decode cX2_setBad 7 = .ok (.aload_n 0, 1) := by decide +kernel
theorem dX2_setBad_8 : decode cX2_setBad 8 = .ok (.getfield 15, 3) := by decide +kernel
theorem dX2_setBad_11 : decode cX2_setBad 11 = .ok (.iload_n 1, 1) := by decide +kernel
theorem dX2_setBad_12 : decode cX2_setBad 12 = .ok (.iload_n 2, 1) := by decide +kernel
theorem dX2_setBad_13 : decode cX2_setBad 13 = .ok (.bastore, 1) := by decide +kernel
theorem dX2_setBad_14 : decode cX2_setBad 14 = .ok (.return_, 1) := by decide +kernel
def f_X2_setBad (u0 : S1) (p1 : Int32) (p2 : Int32) : Option (S1) := bn (f_X2_isBlock p1) (fun z_1 => jn (fun (u14_2_0 : S1) => some (u14_2_0)) (fun k14_2 => if z_1 = 0 then k14_2 u0 else chk (inb p1 64) (bv (stz u0 1 p1 p2) (fun u_4 => k14_2 u_4))))
def rmX2_setBad : Room := { frames := 1, cells := 0, slots := 0, locals := 20 }
set_option maxHeartbeats 4000000 in
set_option maxRecDepth 100000 in
theorem c_X2_setBad (l : Launch) (D : va_G) (cI cZ cJ cT : ClassId) (a0 : Nat → Nat) (sz : Nat) (u0 : S1) (p1 : Int32) (p2 : Int32) (o : S1) (hf : f_X2_setBad u0 p1 p2 = some o) : Met l yX2_setBad wsX2_setBad rmX2_setBad (va_Pc [.ref (a0 0), .int p1, .int p2] (PW D cls (tys cI cZ cJ cT) ((wX2 cI cZ a0 u0)) sz)) (QWv D cls ((wX2 cI cZ a0 o)) (va_A ((wX2 cI cZ a0 u0)) sz)) 0 0 (va_A ((wX2 cI cZ a0 u0)) sz) := by
  refine Met.ofW (cc := cX2_setBad) (maxL := 3) (ret := none) (by decide) rfl ?_
  intro p e s m args below meth c s₁ B hml hv
  obtain ⟨hav, hsz, hP, hK, hD0⟩ := hv
  have hx := B.exec
  have hb := B.bytes
  have hr := B.returns
  have hlocks := B.notSynchronized
  have hts := atoms_spec (ws := wsX2_setBad) B.pre
  have hown : s.vm.findClass RX2 = some m.cls := findClass_of_methodNamed B.named
  have i2 : ∀ w ∈ wsX20, w ∈ wsX2_setBad := fun w h => List.mem_cons_of_mem _ (List.mem_append_right _ h)
  have hk15 := hts (.fieldLink RX2 15 "Inodery$Disk" "bads" "[Z") (by decide +kernel)
  subst hsz
  have hD := hD0.self (sz := s.heap.size)
  generalize hAe : va_A ((wX2 cI cZ a0 u0)) s.heap.size = A at hD ⊢
  have hA : ∀ q : Nat, s.heap.size ≤ q → A q := fun q h => by rw [← hAe]; exact Or.inr h
  have hS : va_S A s.heap s.heap [] := va_S.rf
  have hDD : ∀ w0 : S1, va_D A ((wX2 cI cZ a0 w0)) := fun _ => D_same (w := (wX2 cI cZ a0 u0)) rfl hD
  refine Wq (fun Q hQ => ?_)
  refine W_entry hav (Nat.le_of_ble_eq_true rfl) (fun ls hl => ?_)
  have hl : lv_has ls 3 [(0, .ref (a0 0)), (1, .int p1), (2, .int p2)] := hl
  unfold f_X2_setBad at hf
  refine W_heap hP hS (fun H locs hP hS => ?_)
  refine lv_iload_n hx hb dX2_setBad_0 rfl (lv_at hl 1 rfl) ?_
  obtain ⟨z_1, hz_1, hf⟩ := bn_some hf
  refine c0S (As := [.int p1]) (rest := []) ⟨hx, hb, hml, hown, hts⟩ (c_X2_isBlock l D cI cZ cJ cT p1 z_1 hz_1) (va_cwS 1 hts gX2_setBad_X2_isBlock rfl rfl rfl (by decide +kernel) ⟨Nat.le_of_ble_eq_true rfl, Nat.le_of_ble_eq_true rfl⟩) rfl rfl hl.1 (Nat.le_of_ble_eq_true rfl) dX2_setBad_1 ⟨Nat.le_of_ble_eq_true rfl, Nat.le_of_ble_eq_true rfl⟩ ?_
  obtain ⟨k14_2, hk14_2, hf⟩ := jn_some hf
  have j14_2 : ∀ (u14_2_0 : S1) (H : Heap) (locs : List Loc) (ls : Array Slot), k14_2 u14_2_0 = some o → va_P D cls (wX2 cI cZ a0 u14_2_0) H → va_S A s.heap H locs → lv_has ls 3 [] → W p l e (headSpec wsX2_setBad rmX2_setBad).room s m args below meth c H locs 0 0 Q (F0 m 14 ls []) := by
    intro u14_2_0 H locs ls hf hP hS hl
    have hf := qa1 hk14_2 hf
    have eo := Option.some.inj hf
    have hP : va_P D cls (wX2 cI cZ a0 o) H := by rw [← eo]; exact hP
    rw [hQ]
    exact W.vret hx hb hr (fun t ht hW => ⟨⟨(), rfl, trivial, P_at ht hP⟩, hS.F ht⟩) hS.2.2 dX2_setBad_14 hlocks
  refine lv_if_eq (tgt := 14) hx hb dX2_setBad_4 (by decide) (fun c_3 => ?_) (fun c_3 => ?_)
  · have hf := ite_t hf c_3
    exact j14_2 _ _ _ _ hf hP hS (lv_sub hl [] rfl)
  · have hf := ite_f hf c_3
    refine lv_aload_n hx hb dX2_setBad_7 rfl (lv_at hl 0 rfl) ?_
    refine va_get (D := D) (ci := 2) (v := .ref (a0 2)) (C := RX2) (T := TX2) (N := 2) hx hb hts i2 hown hK hP 0 rfl rfl 1 (by decide) hk15 (fun _ h9 => h9) rfl dX2_setBad_8 ?_
    refine lv_iload_n hx hb dX2_setBad_11 rfl (lv_at hl 1 rfl) ?_
    refine lv_iload_n hx hb dX2_setBad_12 rfl (lv_at hl 2 rfl) ?_
    obtain ⟨hi, hf⟩ := chk_some hf
    obtain ⟨u_4, hu_4, hf⟩ := bv_some hf
    refine va_zast hx hb hK hP (hDD u0) hS 2 1 rfl rfl (inb_in hi) dX2_setBad_13 (fun H locs hP _ hS => ?_)
    have hP : va_P D cls (wX2 cI cZ a0 u_4) H := by rw [hu_4]; exact hP
    exact j14_2 _ _ _ _ hf hP hS (lv_sub hl [] rfl)
