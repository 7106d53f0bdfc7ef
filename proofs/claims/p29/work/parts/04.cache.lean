theorem dX0_isPageOf_0 : decode cX0_isPageOf 0 = .ok (.iload_n 0, 1) := by decide +kernel
theorem dX0_isPageOf_1 : decode cX0_isPageOf 1 = .ok (.ifCond .lt 23, 3) := by decide +kernel
theorem dX0_isPageOf_4 : decode cX0_isPageOf 4 = .ok (.iload_n 0, 1) := by decide +kernel
theorem dX0_isPageOf_5 : decode cX0_isPageOf 5 = .ok (.bipush 32, 2) := by decide +kernel
theorem dX0_isPageOf_7 : decode cX0_isPageOf 7 = .ok (.if_icmp .ge 17, 3) := by decide +kernel
theorem dX0_isPageOf_10 : decode cX0_isPageOf 10 = .ok (.iload_n 1, 1) := by decide +kernel
theorem dX0_isPageOf_11 : decode cX0_isPageOf 11 = .ok (.ifCond .lt 13, 3) := by decide +kernel
theorem dX0_isPageOf_14 : decode cX0_isPageOf 14 = .ok (.iload_n 1, 1) := by decide +kernel
theorem dX0_isPageOf_15 : decode cX0_isPageOf 15 = .ok (.bipush 16, 2) := by decide +kernel
theorem dX0_isPageOf_17 : decode cX0_isPageOf 17 = .ok (.if_icmp .ge 7, 3) := by decide +kernel
theorem dX0_isPageOf_20 : decode cX0_isPageOf 20 = .ok (.iconst 1, 1) := by decide +kernel
theorem dX0_isPageOf_21 : decode cX0_isPageOf 21 = .ok (.goto 4, 3) := by decide +kernel
theorem dX0_isPageOf_24 : decode cX0_isPageOf 24 = .ok (.iconst 0, 1) := by decide +kernel
theorem dX0_isPageOf_25 : decode cX0_isPageOf 25 = .ok (.ireturn, 1) := by decide +kernel
def f_X0_isPageOf (p0 : Int32) (p1 : Int32) : Option (Int32) := jn (fun (v25_1_0 : Int32) => some (vp_nar .boolean v25_1_0)) (fun k25_1 => jn (k25_1 0) (fun k24_2 => if p0 < 0 then k24_2 else if 32 ≤ p0 then k24_2 else if p1 < 0 then k24_2 else if 16 ≤ p1 then k24_2 else k25_1 1))
def rmX0_isPageOf : Room := { frames := 0, cells := 0, slots := 0, locals := 0 }
set_option maxHeartbeats 4000000 in
set_option maxRecDepth 100000 in
theorem c_X0_isPageOf (l : Launch) (D : va_G) (cI cZ cJ cT : ClassId) (p0 : Int32) (p1 : Int32) (o : Int32) (hf : f_X0_isPageOf p0 p1 = some o) : Met l yX0_isPageOf wsX0_isPageOf rmX0_isPageOf (va_Pc [.int p0, .int p1] (fun _ => True)) (QR o) 0 0 (fun _ => False) := by
  refine Met.ofW (cc := cX0_isPageOf) (maxL := 2) (ret := (some .boolean)) (by decide) rfl ?_
  intro p e s m args below meth c s₁ B hml hv
  obtain ⟨hav, -⟩ := hv
  have hx := B.exec
  have hb := B.bytes
  have hr := B.returns
  have hlocks := B.notSynchronized
  refine Wq (fun Q hQ => ?_)
  refine W_entry hav (Nat.le_of_ble_eq_true rfl) (fun ls hl => ?_)
  have hl : lv_has ls 2 [(0, .int p0), (1, .int p1)] := hl
  unfold f_X0_isPageOf at hf
  refine lv_iload_n hx hb dX0_isPageOf_0 rfl (lv_at hl 0 rfl) ?_
  obtain ⟨k25_1, hk25_1, hf⟩ := jn_some hf
  have j25_1 : ∀ (v25_1_0 : Int32) (ls : Array Slot), k25_1 v25_1_0 = some o → lv_has ls 2 [] → W p l e (headSpec wsX0_isPageOf rmX0_isPageOf).room s m args below meth c s.heap [] 0 0 Q (F0 m 25 ls [.int v25_1_0]) := by
    intro v25_1_0 ls hf hl
    have hf := qa1 hk25_1 hf
    rw [hQ]
    exact zretN (v := v25_1_0) (v' := vp_nar .boolean v25_1_0) hx hb hr rfl (fun t ht hW => ⟨_, rfl, Option.some.inj hf, ht⟩) (fun _ h => nomatch h) dX0_isPageOf_25 hlocks
  obtain ⟨k24_2, hk24_2, hf⟩ := jn_some hf
  have j24_2 : ∀ (ls : Array Slot), k24_2 = some o → lv_has ls 2 [] → W p l e (headSpec wsX0_isPageOf rmX0_isPageOf).room s m args below meth c s.heap [] 0 0 Q (F0 m 24 ls []) := by
    intro ls hf hl
    have hf := qa0 hk24_2 hf
    refine lv_iconst (v := 0) hx hb dX0_isPageOf_24 (by decide) ?_
    exact j25_1 _ _ hf (lv_sub hl [] rfl)
  refine lv_if_lt (tgt := 24) hx hb dX0_isPageOf_1 (by decide) (fun c_3 => ?_) (fun c_3 => ?_)
  · have hf := ite_t hf c_3
    exact j24_2 _ hf (lv_sub hl [] rfl)
  · have hf := ite_f hf c_3
    refine lv_iload_n hx hb dX0_isPageOf_4 rfl (lv_at hl 0 rfl) ?_
    refine lv_bipush (v := 32) hx hb dX0_isPageOf_5 (by decide) ?_
    refine lv_icmp_ge (tgt := 24) hx hb dX0_isPageOf_7 (by decide) (fun c_4 => ?_) (fun c_4 => ?_)
    · have hf := ite_t hf c_4
      exact j24_2 _ hf (lv_sub hl [] rfl)
    · have hf := ite_f hf c_4
      refine lv_iload_n hx hb dX0_isPageOf_10 rfl (lv_at hl 1 rfl) ?_
      refine lv_if_lt (tgt := 24) hx hb dX0_isPageOf_11 (by decide) (fun c_5 => ?_) (fun c_5 => ?_)
      · have hf := ite_t hf c_5
        exact j24_2 _ hf (lv_sub hl [] rfl)
      · have hf := ite_f hf c_5
        refine lv_iload_n hx hb dX0_isPageOf_14 rfl (lv_at hl 1 rfl) ?_
        refine lv_bipush (v := 16) hx hb dX0_isPageOf_15 (by decide) ?_
        refine lv_icmp_ge (tgt := 24) hx hb dX0_isPageOf_17 (by decide) (fun c_6 => ?_) (fun c_6 => ?_)
        · have hf := ite_t hf c_6
          exact j24_2 _ hf (lv_sub hl [] rfl)
        · have hf := ite_f hf c_6
          refine lv_iconst (v := 1) hx hb dX0_isPageOf_20 (by decide) ?_
          refine lv_goto (tgt := 25) hx hb dX0_isPageOf_21 (by decide) ?_
          exact j25_1 _ _ hf (lv_sub hl [] rfl)
theorem dX0_count_0 : decode cX0_count 0 = .ok (.aload_n 0, 1) := by decide +kernel
theorem dX0_count_1 : decode cX0_count 1 = .ok (.getfield 19, 3) := by decide +kernel
theorem dX0_count_4 : decode cX0_count 4 = .ok (.ireturn, 1) := by decide +kernel
def f_X0_count (u0 : S1) : Option (Int32) := some (u0 2 0)
def rmX0_count : Room := { frames := 0, cells := 0, slots := 0, locals := 0 }
set_option maxHeartbeats 4000000 in
set_option maxRecDepth 100000 in
theorem c_X0_count (l : Launch) (D : va_G) (cI cZ cJ cT : ClassId) (a0 : Nat → Nat) (u0 : S1) (o : Int32) (hf : f_X0_count u0 = some o) : Met l yX0_count wsX0_count rmX0_count (va_Pc [.ref (a0 0)] (PR D cls (tys cI cZ cJ cT) ((wX0 cI cZ a0 u0)))) (QR o) 0 0 (fun _ => False) := by
  refine Met.ofW (cc := cX0_count) (maxL := 1) (ret := (some .int)) (by decide) rfl ?_
  intro p e s m args below meth c s₁ B hml hv
  obtain ⟨hav, hP, hK⟩ := hv
  have hx := B.exec
  have hb := B.bytes
  have hr := B.returns
  have hlocks := B.notSynchronized
  have hts := atoms_spec (ws := wsX0_count) B.pre
  have hown : s.vm.findClass RX0 = some m.cls := findClass_of_methodNamed B.named
  have i0 : ∀ w ∈ wsX00, w ∈ wsX0_count := fun w h => List.mem_cons_of_mem _ (List.mem_append_right _ h)
  have hk19 := hts (.fieldLink RX0 19 "Inodery$Cache" "many" "I") (by decide +kernel)
  refine Wq (fun Q hQ => ?_)
  refine W_entry hav (Nat.le_of_ble_eq_true rfl) (fun ls hl => ?_)
  have hl : lv_has ls 1 [(0, .ref (a0 0))] := hl
  unfold f_X0_count at hf
  refine lv_aload_n hx hb dX0_count_0 rfl (lv_at hl 0 rfl) ?_
  refine va_get (D := D) (ci := 0) (v := .int (u0 2 0)) (C := RX0) (T := TX0) (N := 3) hx hb hts i0 hown hK hP 0 rfl rfl 2 (by decide) hk19 (fun _ h9 => h9) rfl dX0_count_1 ?_
  rw [hQ]
  exact W.iret hx hb hr (fun t ht hW => ⟨_, rfl, Option.some.inj hf, ht⟩) (fun _ h => nomatch h) dX0_count_4 hlocks
set_option maxRecDepth 20000 in
theorem ggX0_numberOf_X0_isPageOf : GoodIn wsX0_numberOf wsX0_isPageOf := goodIn_r _ [5] (by decide +kernel) (by decide +kernel)
set_option maxRecDepth 20000 in
theorem gX0_numberOf_X0_isPageOf : GoodIn wsX0_numberOf (va_wsS RX0 23 yX0_isPageOf wsX0_isPageOf) := goodIn_app (goodIn_of _ (by decide +kernel)) ggX0_numberOf_X0_isPageOf
theorem dX0_numberOf_0 : decode cX0_numberOf 0 = .ok (.iload_n 1, 1) := by decide +kernel
theorem dX0_numberOf_1 : decode cX0_numberOf 1 = .ok (.iload_n 2, 1) := by decide +kernel
theorem dX0_numberOf_2 : decode cX0_numberOf 2 = .ok (.invokestatic 23, 3) := by decide +kernel
theorem dX0_numberOf_5 : decode cX0_numberOf 5 = .ok (.ifCond .eq 17, 3) := by decide +kernel
theorem dX0_numberOf_8 : decode cX0_numberOf 8 = .ok (.aload_n 0, 1) := by decide +kernel
theorem dX0_numberOf_9 : decode cX0_numberOf 9 = .ok (.getfield 9, 3) := by decide +kernel
theorem dX0_numberOf_12 : decode cX0_numberOf 12 = .ok (.iload_n 1, 1) := by decide +kernel
theorem dX0_numberOf_13 : decode cX0_numberOf 13 = .ok (.bipush 16, 2) := by decide +kernel
theorem dX0_numberOf_15 : decode cX0_numberOf 15 = .ok (.imul, 1) := by decide +kernel
theorem dX0_numberOf_16 : decode cX0_numberOf 16 = .ok (.iload_n 2, 1) := by decide +kernel
theorem dX0_numberOf_17 : decode cX0_numberOf 17 = .ok (.iadd, 1) := by decide +kernel
theorem dX0_numberOf_18 : decode cX0_numberOf 18 = .ok (.iaload, 1) := by decide +kernel
theorem dX0_numberOf_19 : decode cX0_numberOf 19 = .ok (.goto 4, 3) := by decide +kernel
theorem dX0_numberOf_22 : decode cX0_numberOf 22 = .ok (.iconst (-1), 1) := by decide +kernel
theorem dX0_numberOf_23 : decode cX0_numberOf 23 = .ok (.ireturn, 1) := by decide +kernel
def f_X0_numberOf (u0 : S1) (p1 : Int32) (p2 : Int32) : Option (Int32) := bn (f_X0_isPageOf p1 p2) (fun z_1 => jn (fun (v23_2_0 : Int32) => some v23_2_0) (fun k23_2 => if z_1 = 0 then k23_2 (-1) else chk (inb ((p1 * 16) + p2) 512) (k23_2 (u0 0 ((p1 * 16) + p2).toNatClampNeg))))
def rmX0_numberOf : Room := { frames := 1, cells := 0, slots := 0, locals := 21 }
set_option maxHeartbeats 4000000 in
set_option maxRecDepth 100000 in
theorem c_X0_numberOf (l : Launch) (D : va_G) (cI cZ cJ cT : ClassId) (a0 : Nat → Nat) (u0 : S1) (p1 : Int32) (p2 : Int32) (o : Int32) (hf : f_X0_numberOf u0 p1 p2 = some o) : Met l yX0_numberOf wsX0_numberOf rmX0_numberOf (va_Pc [.ref (a0 0), .int p1, .int p2] (PR D cls (tys cI cZ cJ cT) ((wX0 cI cZ a0 u0)))) (QR o) 0 0 (fun _ => False) := by
  refine Met.ofW (cc := cX0_numberOf) (maxL := 3) (ret := (some .int)) (by decide) rfl ?_
  intro p e s m args below meth c s₁ B hml hv
  obtain ⟨hav, hP, hK⟩ := hv
  have hx := B.exec
  have hb := B.bytes
  have hr := B.returns
  have hlocks := B.notSynchronized
  have hts := atoms_spec (ws := wsX0_numberOf) B.pre
  have hown : s.vm.findClass RX0 = some m.cls := findClass_of_methodNamed B.named
  have i0 : ∀ w ∈ wsX00, w ∈ wsX0_numberOf := fun w h => List.mem_cons_of_mem _ (List.mem_append_right _ h)
  have hk9 := hts (.fieldLink RX0 9 "Inodery$Cache" "numbers" "[I") (by decide +kernel)
  refine Wq (fun Q hQ => ?_)
  refine W_entry hav (Nat.le_of_ble_eq_true rfl) (fun ls hl => ?_)
  have hl : lv_has ls 3 [(0, .ref (a0 0)), (1, .int p1), (2, .int p2)] := hl
  unfold f_X0_numberOf at hf
  refine lv_iload_n hx hb dX0_numberOf_0 rfl (lv_at hl 1 rfl) ?_
  refine lv_iload_n hx hb dX0_numberOf_1 rfl (lv_at hl 2 rfl) ?_
  obtain ⟨z_1, hz_1, hf⟩ := bn_some hf
  refine c0S (As := [.int p1, .int p2]) (rest := []) ⟨hx, hb, hml, hown, hts⟩ (c_X0_isPageOf l D cI cZ cJ cT p1 p2 z_1 hz_1) (va_cwS 2 hts gX0_numberOf_X0_isPageOf rfl rfl rfl (by decide +kernel) ⟨Nat.le_of_ble_eq_true rfl, Nat.le_of_ble_eq_true rfl⟩) rfl rfl hl.1 (Nat.le_of_ble_eq_true rfl) dX0_numberOf_2 ⟨Nat.le_of_ble_eq_true rfl, Nat.le_of_ble_eq_true rfl⟩ ?_
  obtain ⟨k23_2, hk23_2, hf⟩ := jn_some hf
  have j23_2 : ∀ (v23_2_0 : Int32) (ls : Array Slot), k23_2 v23_2_0 = some o → lv_has ls 3 [] → W p l e (headSpec wsX0_numberOf rmX0_numberOf).room s m args below meth c s.heap [] 0 0 Q (F0 m 23 ls [.int v23_2_0]) := by
    intro v23_2_0 ls hf hl
    have hf := qa1 hk23_2 hf
    rw [hQ]
    exact W.iret hx hb hr (fun t ht hW => ⟨_, rfl, Option.some.inj hf, ht⟩) (fun _ h => nomatch h) dX0_numberOf_23 hlocks
  refine lv_if_eq (tgt := 22) hx hb dX0_numberOf_5 (by decide) (fun c_3 => ?_) (fun c_3 => ?_)
  · have hf := ite_t hf c_3
    refine lv_iconst (v := (-1)) hx hb dX0_numberOf_22 (by decide) ?_
    exact j23_2 _ _ hf (lv_sub hl [] rfl)
  · have hf := ite_f hf c_3
    refine lv_aload_n hx hb dX0_numberOf_8 rfl (lv_at hl 0 rfl) ?_
    refine va_get (D := D) (ci := 0) (v := .ref (a0 1)) (C := RX0) (T := TX0) (N := 3) hx hb hts i0 hown hK hP 0 rfl rfl 0 (by decide) hk9 (fun _ h9 => h9) rfl dX0_numberOf_9 ?_
    refine lv_iload_n hx hb dX0_numberOf_12 rfl (lv_at hl 1 rfl) ?_
    refine lv_bipush (v := 16) hx hb dX0_numberOf_13 (by decide) ?_
    refine lv_imul hx hb dX0_numberOf_15 ?_
    refine lv_iload_n hx hb dX0_numberOf_16 rfl (lv_at hl 2 rfl) ?_
    refine lv_iadd hx hb dX0_numberOf_17 ?_
    obtain ⟨hi, hf⟩ := chk_some hf
    refine va_iald hx hb hK hP 1 0 rfl rfl (inb_in hi) dX0_numberOf_18 ?_
    refine lv_goto (tgt := 23) hx hb dX0_numberOf_19 (by decide) ?_
    exact j23_2 _ _ hf (lv_sub hl [] rfl)
set_option maxRecDepth 20000 in
theorem ggX0_isDirty_X0_numberOf : GoodIn wsX0_isDirty wsX0_numberOf := goodIn_r _ [5, 6, 7, 8, 4, 9, 10, 11, 12] (by decide +kernel) (by decide +kernel)
set_option maxRecDepth 20000 in
theorem gX0_isDirty_X0_numberOf : GoodIn wsX0_isDirty (wsV RX0 27 RX0 yX0_numberOf wsX0_numberOf) := goodIn_app (goodIn_of _ (by decide +kernel)) ggX0_isDirty_X0_numberOf
theorem dX0_isDirty_0 : decode cX0_isDirty 0 = .ok (.aload_n 0, 1) := by decide +kernel
theorem dX0_isDirty_1 : decode cX0_isDirty 1 = .ok (.iload_n 1, 1) := by decide +kernel
theorem dX0_isDirty_2 : decode cX0_isDirty 2 = .ok (.iload_n 2, 1) := by decide +kernel
theorem dX0_isDirty_3 : decode cX0_isDirty 3 = .ok (.invokevirtual 27, 3) := by decide +kernel
theorem dX0_isDirty_6 : decode cX0_isDirty 6 = .ok (.iconst (-1), 1) := by decide +kernel
theorem dX0_isDirty_7 : decode cX0_isDirty 7 = .ok (.if_icmp .eq 7, 3) := by decide +kernel
theorem dX0_isDirty_10 : decode cX0_isDirty 10 = .ok (.iconst 1, 1) := by decide +kernel
theorem dX0_isDirty_11 : decode cX0_isDirty 11 = .ok (.goto 4, 3) := by decide +kernel
theorem dX0_isDirty_14 : decode cX0_isDirty 14 = .ok (.iconst 0, 1) := by decide +kernel
theorem dX0_isDirty_15 : decode cX0_isDirty 15 = .ok (.ireturn, 1) := by decide +kernel
def f_X0_isDirty (u0 : S1) (p1 : Int32) (p2 : Int32) : Option (Int32) := bn (f_X0_numberOf u0 p1 p2) (fun z_1 => jn (fun (v15_2_0 : Int32) => some (vp_nar .boolean v15_2_0)) (fun k15_2 => if z_1 = (-1) then k15_2 0 else k15_2 1))
def rmX0_isDirty : Room := { frames := 2, cells := 0, slots := 0, locals := 43 }
set_option maxHeartbeats 4000000 in
set_option maxRecDepth 100000 in
theorem c_X0_isDirty (l : Launch) (D : va_G) (cI cZ cJ cT : ClassId) (a0 : Nat → Nat) (u0 : S1) (p1 : Int32) (p2 : Int32) (o : Int32) (hf : f_X0_isDirty u0 p1 p2 = some o) : Met l yX0_isDirty wsX0_isDirty rmX0_isDirty (va_Pc [.ref (a0 0), .int p1, .int p2] (PR D cls (tys cI cZ cJ cT) ((wX0 cI cZ a0 u0)))) (QR o) 0 0 (fun _ => False) := by
  refine Met.ofW (cc := cX0_isDirty) (maxL := 3) (ret := (some .boolean)) (by decide) rfl ?_
  intro p e s m args below meth c s₁ B hml hv
  obtain ⟨hav, hP, hK⟩ := hv
  have hx := B.exec
  have hb := B.bytes
  have hr := B.returns
  have hlocks := B.notSynchronized
  have hts := atoms_spec (ws := wsX0_isDirty) B.pre
  have hown : s.vm.findClass RX0 = some m.cls := findClass_of_methodNamed B.named
  refine Wq (fun Q hQ => ?_)
  refine W_entry hav (Nat.le_of_ble_eq_true rfl) (fun ls hl => ?_)
  have hl : lv_has ls 3 [(0, .ref (a0 0)), (1, .int p1), (2, .int p2)] := hl
  unfold f_X0_isDirty at hf
  refine lv_aload_n hx hb dX0_isDirty_0 rfl (lv_at hl 0 rfl) ?_
  refine lv_iload_n hx hb dX0_isDirty_1 rfl (lv_at hl 1 rfl) ?_
  refine lv_iload_n hx hb dX0_isDirty_2 rfl (lv_at hl 2 rfl) ?_
  obtain ⟨z_1, hz_1, hf⟩ := bn_some hf
  refine cRV (As := [.int p1, .int p2]) (rest := []) ⟨hx, hb, hml, hown, hts⟩ (c_X0_numberOf l D cI cZ cJ cT a0 u0 p1 p2 z_1 hz_1) (cwV 2 hts gX0_isDirty_X0_numberOf rfl rfl rfl (by decide +kernel) ⟨Nat.le_of_ble_eq_true rfl, Nat.le_of_ble_eq_true rfl⟩) hP hK (va_recv hK hP (ci := 0) (q0 := 0) rfl rfl) rfl rfl hl.1 (Nat.le_of_ble_eq_true rfl) dX0_isDirty_3 ⟨Nat.le_of_ble_eq_true rfl, Nat.le_of_ble_eq_true rfl⟩ ?_
  refine lv_iconst (v := (-1)) hx hb dX0_isDirty_6 (by decide) ?_
  obtain ⟨k15_2, hk15_2, hf⟩ := jn_some hf
  have j15_2 : ∀ (v15_2_0 : Int32) (ls : Array Slot), k15_2 v15_2_0 = some o → lv_has ls 3 [] → W p l e (headSpec wsX0_isDirty rmX0_isDirty).room s m args below meth c s.heap [] 0 0 Q (F0 m 15 ls [.int v15_2_0]) := by
    intro v15_2_0 ls hf hl
    have hf := qa1 hk15_2 hf
    rw [hQ]
    exact zretN (v := v15_2_0) (v' := vp_nar .boolean v15_2_0) hx hb hr rfl (fun t ht hW => ⟨_, rfl, Option.some.inj hf, ht⟩) (fun _ h => nomatch h) dX0_isDirty_15 hlocks
  refine lv_icmp_eq (tgt := 14) hx hb dX0_isDirty_7 (by decide) (fun c_3 => ?_) (fun c_3 => ?_)
  · have hf := ite_t hf c_3
    refine lv_iconst (v := 0) hx hb dX0_isDirty_14 (by decide) ?_
    exact j15_2 _ _ hf (lv_sub hl [] rfl)
  · have hf := ite_f hf c_3
    refine lv_iconst (v := 1) hx hb dX0_isDirty_10 (by decide) ?_
    refine lv_goto (tgt := 15) hx hb dX0_isDirty_11 (by decide) ?_
    exact j15_2 _ _ hf (lv_sub hl [] rfl)
set_option maxRecDepth 20000 in
theorem ggX0_letGo_X0_isPageOf : GoodIn wsX0_letGo wsX0_isPageOf := goodIn_r _ [6] (by decide +kernel) (by decide +kernel)
set_option maxRecDepth 20000 in
theorem gX0_letGo_X0_isPageOf : GoodIn wsX0_letGo (va_wsS RX0 23 yX0_isPageOf wsX0_isPageOf) := goodIn_app (goodIn_of _ (by decide +kernel)) ggX0_letGo_X0_isPageOf
theorem dX0_letGo_0 : decode cX0_letGo 0 = .ok (.iload_n 1, 1) := by decide +kernel
theorem dX0_letGo_1 : decode cX0_letGo 1 = .ok (.iload_n 2, 1) := by decide +kernel
theorem dX0_letGo_2 : decode cX0_letGo 2 = .ok (.invokestatic 23, 3) := by decide +kernel
theorem dX0_letGo_5 : decode cX0_letGo 5 = .ok (.ifCond .eq 40, 3) := by decide +kernel
theorem dX0_letGo_8 : decode cX0_letGo 8 = .ok (.aload_n 0, 1) := by decide +kernel
theorem dX0_letGo_9 : decode cX0_letGo 9 = .ok (.getfield 9, 3) := by decide +kernel
theorem dX0_letGo_12 : decode cX0_letGo 12 = .ok (.iload_n 1, 1) := by decide +kernel
theorem dX0_letGo_13 : decode cX0_letGo 13 = .ok (.bipush 16, 2) := by decide +kernel
theorem dX0_letGo_15 : decode cX0_letGo 15 = .ok (.imul, 1) := by decide +kernel
theorem dX0_letGo_16 : decode cX0_letGo 16 = .ok (.iload_n 2, 1) := by decide +kernel
theorem dX0_letGo_17 : decode cX0_letGo 17 = .ok (.iadd, 1) := by decide +kernel
theorem dX0_letGo_18 : decode cX0_letGo 18 = .ok (.iaload, 1) := by decide +kernel
theorem dX0_letGo_19 : decode cX0_letGo 19 = .ok (.iconst (-1), 1) := by decide +kernel
theorem dX0_letGo_20 : decode cX0_letGo 20 = .ok (.if_icmp .eq 25, 3) := by decide +kernel
theorem dX0_letGo_23 : decode cX0_letGo 23 = .ok (.aload_n 0, 1) := by decide +kernel
theorem dX0_letGo_24 : decode cX0_letGo 24 = .ok (.getfield 9, 3) := by decide +kernel
theorem dX0_letGo_27 : decode cX0_letGo 27 = .ok (.iload_n 1, 1) := by decide +kernel
theorem dX0_letGo_28 : decode cX0_letGo 28 = .ok (.bipush 16, 2) := by decide +kernel
theorem dX0_letGo_30 : decode cX0_letGo 30 = .ok (.imul, 1) := by decide +kernel
theorem dX0_letGo_31 : decode cX0_letGo 31 = .ok (.iload_n 2, 1) := by decide +kernel
theorem dX0_letGo_32 : decode cX0_letGo 32 = .ok (.iadd, 1) := by decide +kernel
theorem dX0_letGo_33 : decode cX0_letGo 33 = .ok (.iconst (-1), 1) := by decide +kernel
theorem dX0_letGo_34 : decode cX0_letGo 34 = .ok (.iastore, 1) := by decide +kernel
theorem dX0_letGo_35 : decode cX0_letGo 35 = .ok (.aload_n 0, 1) := by decide +kernel
theorem dX0_letGo_36 : decode cX0_letGo 36 = .ok (.dup, 1) := by decide +kernel
theorem dX0_letGo_37 : decode cX0_letGo 37 = .ok (.getfield 19, 3) := by decide +kernel
theorem dX0_letGo_40 : decode cX0_letGo 40 = .ok (.iconst 1, 1) := by decide +kernel
theorem dX0_letGo_41 : decode cX0_letGo 41 = .ok (.isub, 1) := by decide +kernel
theorem dX0_letGo_42 : decode cX0_letGo 42 = .ok (.putfield 19, 3) := by decide +kernel
theorem dX0_letGo_45 : decode cX0_letGo 45 = .ok (.return_, 1) := by decide +kernel
def f_X0_letGo (u0 : S1) (p1 : Int32) (p2 : Int32) : Option (S1) := bn (f_X0_isPageOf p1 p2) (fun z_1 => jn (fun (u45_2_0 : S1) => some (u45_2_0)) (fun k45_2 => if z_1 = 0 then k45_2 u0 else chk (inb ((p1 * 16) + p2) 512) (if (u0 0 ((p1 * 16) + p2).toNatClampNeg) = (-1) then k45_2 u0 else chk (inb ((p1 * 16) + p2) 512) (bv (st u0 0 ((p1 * 16) + p2) (-1)) (fun u_5 => bv (up u_5 2 (fun _ => (u_5 2 0) - 1)) (fun u_6 => k45_2 u_6))))))
def rmX0_letGo : Room := { frames := 1, cells := 0, slots := 0, locals := 21 }
set_option maxHeartbeats 4000000 in
set_option maxRecDepth 100000 in
theorem c_X0_letGo (l : Launch) (D : va_G) (cI cZ cJ cT : ClassId) (a0 : Nat → Nat) (sz : Nat) (u0 : S1) (p1 : Int32) (p2 : Int32) (o : S1) (hf : f_X0_letGo u0 p1 p2 = some o) : Met l yX0_letGo wsX0_letGo rmX0_letGo (va_Pc [.ref (a0 0), .int p1, .int p2] (PW D cls (tys cI cZ cJ cT) ((wX0 cI cZ a0 u0)) sz)) (QWv D cls ((wX0 cI cZ a0 o)) (va_A ((wX0 cI cZ a0 u0)) sz)) 0 0 (va_A ((wX0 cI cZ a0 u0)) sz) := by
  refine Met.ofW (cc := cX0_letGo) (maxL := 3) (ret := none) (by decide) rfl ?_
  intro p e s m args below meth c s₁ B hml hv
  obtain ⟨hav, hsz, hP, hK, hD0⟩ := hv
  have hx := B.exec
  have hb := B.bytes
  have hr := B.returns
  have hlocks := B.notSynchronized
  have hts := atoms_spec (ws := wsX0_letGo) B.pre
  have hown : s.vm.findClass RX0 = some m.cls := findClass_of_methodNamed B.named
  have i0 : ∀ w ∈ wsX00, w ∈ wsX0_letGo := fun w h => List.mem_cons_of_mem _ (List.mem_append_right _ h)
  have hk9 := hts (.fieldLink RX0 9 "Inodery$Cache" "numbers" "[I") (by decide +kernel)
  have hk19 := hts (.fieldLink RX0 19 "Inodery$Cache" "many" "I") (by decide +kernel)
  subst hsz
  have hD := hD0.self (sz := s.heap.size)
  generalize hAe : va_A ((wX0 cI cZ a0 u0)) s.heap.size = A at hD ⊢
  have hA : ∀ q : Nat, s.heap.size ≤ q → A q := fun q h => by rw [← hAe]; exact Or.inr h
  have hS : va_S A s.heap s.heap [] := va_S.rf
  have hDD : ∀ w0 : S1, va_D A ((wX0 cI cZ a0 w0)) := fun _ => D_same (w := (wX0 cI cZ a0 u0)) rfl hD
  refine Wq (fun Q hQ => ?_)
  refine W_entry hav (Nat.le_of_ble_eq_true rfl) (fun ls hl => ?_)
  have hl : lv_has ls 3 [(0, .ref (a0 0)), (1, .int p1), (2, .int p2)] := hl
  unfold f_X0_letGo at hf
  refine W_heap hP hS (fun H locs hP hS => ?_)
  refine lv_iload_n hx hb dX0_letGo_0 rfl (lv_at hl 1 rfl) ?_
  refine lv_iload_n hx hb dX0_letGo_1 rfl (lv_at hl 2 rfl) ?_
  obtain ⟨z_1, hz_1, hf⟩ := bn_some hf
  refine c0S (As := [.int p1, .int p2]) (rest := []) ⟨hx, hb, hml, hown, hts⟩ (c_X0_isPageOf l D cI cZ cJ cT p1 p2 z_1 hz_1) (va_cwS 2 hts gX0_letGo_X0_isPageOf rfl rfl rfl (by decide +kernel) ⟨Nat.le_of_ble_eq_true rfl, Nat.le_of_ble_eq_true rfl⟩) rfl rfl hl.1 (Nat.le_of_ble_eq_true rfl) dX0_letGo_2 ⟨Nat.le_of_ble_eq_true rfl, Nat.le_of_ble_eq_true rfl⟩ ?_
  obtain ⟨k45_2, hk45_2, hf⟩ := jn_some hf
  have j45_2 : ∀ (u45_2_0 : S1) (H : Heap) (locs : List Loc) (ls : Array Slot), k45_2 u45_2_0 = some o → va_P D cls (wX0 cI cZ a0 u45_2_0) H → va_S A s.heap H locs → lv_has ls 3 [] → W p l e (headSpec wsX0_letGo rmX0_letGo).room s m args below meth c H locs 0 0 Q (F0 m 45 ls []) := by
    intro u45_2_0 H locs ls hf hP hS hl
    have hf := qa1 hk45_2 hf
    have eo := Option.some.inj hf
    have hP : va_P D cls (wX0 cI cZ a0 o) H := by rw [← eo]; exact hP
    rw [hQ]
    exact W.vret hx hb hr (fun t ht hW => ⟨⟨(), rfl, trivial, P_at ht hP⟩, hS.F ht⟩) hS.2.2 dX0_letGo_45 hlocks
  refine lv_if_eq (tgt := 45) hx hb dX0_letGo_5 (by decide) (fun c_3 => ?_) (fun c_3 => ?_)
  · have hf := ite_t hf c_3
    exact j45_2 _ _ _ _ hf hP hS (lv_sub hl [] rfl)
  · have hf := ite_f hf c_3
    refine lv_aload_n hx hb dX0_letGo_8 rfl (lv_at hl 0 rfl) ?_
    refine va_get (D := D) (ci := 0) (v := .ref (a0 1)) (C := RX0) (T := TX0) (N := 3) hx hb hts i0 hown hK hP 0 rfl rfl 0 (by decide) hk9 (fun _ h9 => h9) rfl dX0_letGo_9 ?_
    refine lv_iload_n hx hb dX0_letGo_12 rfl (lv_at hl 1 rfl) ?_
    refine lv_bipush (v := 16) hx hb dX0_letGo_13 (by decide) ?_
    refine lv_imul hx hb dX0_letGo_15 ?_
    refine lv_iload_n hx hb dX0_letGo_16 rfl (lv_at hl 2 rfl) ?_
    refine lv_iadd hx hb dX0_letGo_17 ?_
    obtain ⟨hi, hf⟩ := chk_some hf
    refine va_iald hx hb hK hP 1 0 rfl rfl (inb_in hi) dX0_letGo_18 ?_
    refine lv_iconst (v := (-1)) hx hb dX0_letGo_19 (by decide) ?_
    refine lv_icmp_eq (tgt := 45) hx hb dX0_letGo_20 (by decide) (fun c_4 => ?_) (fun c_4 => ?_)
    · have hf := ite_t hf c_4
      exact j45_2 _ _ _ _ hf hP hS (lv_sub hl [] rfl)
    · have hf := ite_f hf c_4
      refine lv_aload_n hx hb dX0_letGo_23 rfl (lv_at hl 0 rfl) ?_
      refine va_get (D := D) (ci := 0) (v := .ref (a0 1)) (C := RX0) (T := TX0) (N := 3) hx hb hts i0 hown hK hP 0 rfl rfl 0 (by decide) hk9 (fun _ h9 => h9) rfl dX0_letGo_24 ?_
      refine lv_iload_n hx hb dX0_letGo_27 rfl (lv_at hl 1 rfl) ?_
      refine lv_bipush (v := 16) hx hb dX0_letGo_28 (by decide) ?_
      refine lv_imul hx hb dX0_letGo_30 ?_
      refine lv_iload_n hx hb dX0_letGo_31 rfl (lv_at hl 2 rfl) ?_
      refine lv_iadd hx hb dX0_letGo_32 ?_
      refine lv_iconst (v := (-1)) hx hb dX0_letGo_33 (by decide) ?_
      obtain ⟨hi, hf⟩ := chk_some hf
      obtain ⟨u_5, hu_5, hf⟩ := bv_some hf
      refine va_iast hx hb hK hP (hDD u0) hS 1 0 rfl rfl (inb_in hi) dX0_letGo_34 (fun H locs hP _ hS => ?_)
      have hP : va_P D cls (wX0 cI cZ a0 u_5) H := by rw [hu_5]; exact hP
      refine lv_aload_n hx hb dX0_letGo_35 rfl (lv_at hl 0 rfl) ?_
      refine lv_dup hx hb dX0_letGo_36 rfl ?_
      refine va_get (D := D) (ci := 0) (v := .int (u_5 2 0)) (C := RX0) (T := TX0) (N := 3) hx hb hts i0 hown hK hP 0 rfl rfl 2 (by decide) hk19 (fun _ h9 => h9) rfl dX0_letGo_37 ?_
      refine lv_iconst (v := 1) hx hb dX0_letGo_40 (by decide) ?_
      refine lv_isub hx hb dX0_letGo_41 ?_
      obtain ⟨u_6, hu_6, hf⟩ := bv_some hf
      refine va_put (D := D) (ci := 0) (v := .int ((u_5 2 0) - 1)) (ty := .int) (C := RX0) (T := TX0) (N := 3) hx hb hts i0 tyX0 tyX0_ok nmX0 hown hK hP (hDD u_5) hS 0 rfl rfl 2 (by decide) hk19 (fun _ h9 => h9) rfl (by decide +kernel) rfl rfl (Nat.le_of_ble_eq_true rfl) dX0_letGo_42 (fun H locs hP _ hS => ?_)
      have hP : va_P D cls (wX0 cI cZ a0 u_6) H := by rw [hu_6]; exact hP
      exact j45_2 _ _ _ _ hf hP hS (lv_sub hl [] rfl)
set_option maxRecDepth 20000 in
theorem ggX0_put_X0_isPageOf : GoodIn wsX0_put wsX0_isPageOf := goodIn_r _ [6] (by decide +kernel) (by decide +kernel)
set_option maxRecDepth 20000 in
theorem gX0_put_X0_isPageOf : GoodIn wsX0_put (va_wsS RX0 23 yX0_isPageOf wsX0_isPageOf) := goodIn_app (goodIn_of _ (by decide +kernel)) ggX0_put_X0_isPageOf
set_option maxRecDepth 20000 in
theorem ggX0_put_X0_letGo : GoodIn wsX0_put wsX0_letGo := goodIn_r _ [10, 1, 2, 3, 4, 5, 6, 11, 12, 13] (by decide +kernel) (by decide +kernel)
set_option maxRecDepth 20000 in
theorem gX0_put_X0_letGo : GoodIn wsX0_put (wsV RX0 31 RX0 yX0_letGo wsX0_letGo) := goodIn_app (goodIn_of _ (by decide +kernel)) ggX0_put_X0_letGo
theorem dX0_put_0 : decode cX0_put 0 = .ok (.iload_n 1, 1) := by decide +kernel
theorem dX0_put_1 : decode cX0_put 1 = .ok (.iload_n 2, 1) := by decide +kernel
theorem dX0_put_2 : decode cX0_put 2 = .ok (.invokestatic 23, 3) := by decide +kernel
theorem dX0_put_5 : decode cX0_put 5 = .ok (.ifCond .eq 31, 3) := by decide +kernel
theorem dX0_put_8 : decode cX0_put 8 = .ok (.aload_n 0, 1) := by decide +kernel
theorem dX0_put_9 : decode cX0_put 9 = .ok (.iload_n 1, 1) := by decide +kernel
theorem dX0_put_10 : decode cX0_put 10 = .ok (.iload_n 2, 1) := by decide +kernel
theorem dX0_put_11 : decode cX0_put 11 = .ok (.invokevirtual 31, 3) := by decide +kernel
theorem dX0_put_14 : decode cX0_put 14 = .ok (.aload_n 0, 1) := by decide +kernel
theorem dX0_put_15 : decode cX0_put 15 = .ok (.getfield 9, 3) := by decide +kernel
theorem dX0_put_18 : decode cX0_put 18 = .ok (.iload_n 1, 1) := by decide +kernel
theorem dX0_put_19 : decode cX0_put 19 = .ok (.bipush 16, 2) := by decide +kernel
theorem dX0_put_21 : decode cX0_put 21 = .ok (.imul, 1) := by decide +kernel
theorem dX0_put_22 : decode cX0_put 22 = .ok (.iload_n 2, 1) := by decide +kernel
theorem dX0_put_23 : decode cX0_put 23 = .ok (.iadd, 1) := by decide +kernel
theorem dX0_put_24 : decode cX0_put 24 = .ok (.iload_n 3, 1) := by decide +kernel
theorem dX0_put_25 : decode cX0_put 25 = .ok (.iastore, 1) := by decide +kernel
theorem dX0_put_26 : decode cX0_put 26 = .ok (.aload_n 0, 1) := by decide +kernel
theorem dX0_put_27 : decode cX0_put 27 = .ok (.dup, 1) := by decide +kernel
theorem dX0_put_28 : decode cX0_put 28 = .ok (.getfield 19, 3) := by decide +kernel
theorem dX0_put_31 : decode cX0_put 31 = .ok (.iconst 1, 1) := by decide +kernel
theorem dX0_put_32 : decode cX0_put 32 = .ok (.iadd, 1) := by decide +kernel
theorem dX0_put_33 : decode cX0_put 33 = .ok (.putfield 19, 3) := by decide +kernel
theorem dX0_put_36 : decode cX0_put 36 = .ok (.return_, 1) := by decide +kernel
def f_X0_put (u0 : S1) (p1 : Int32) (p2 : Int32) (p3 : Int32) : Option (S1) := bn (f_X0_isPageOf p1 p2) (fun z_1 => jn (fun (u36_2_0 : S1) => some (u36_2_0)) (fun k36_2 => if z_1 = 0 then k36_2 u0 else bn (f_X0_letGo u0 p1 p2) (fun z_4 => chk (inb ((p1 * 16) + p2) 512) (bv (st z_4 0 ((p1 * 16) + p2) p3) (fun u_5 => bv (up u_5 2 (fun _ => (u_5 2 0) + 1)) (fun u_6 => k36_2 u_6))))))
def rmX0_put : Room := { frames := 2, cells := 0, slots := 0, locals := 43 }
set_option maxHeartbeats 4000000 in
set_option maxRecDepth 100000 in
theorem c_X0_put (l : Launch) (D : va_G) (cI cZ cJ cT : ClassId) (a0 : Nat → Nat) (sz : Nat) (u0 : S1) (p1 : Int32) (p2 : Int32) (p3 : Int32) (o : S1) (hf : f_X0_put u0 p1 p2 p3 = some o) : Met l yX0_put wsX0_put rmX0_put (va_Pc [.ref (a0 0), .int p1, .int p2, .int p3] (PW D cls (tys cI cZ cJ cT) ((wX0 cI cZ a0 u0)) sz)) (QWv D cls ((wX0 cI cZ a0 o)) (va_A ((wX0 cI cZ a0 u0)) sz)) 0 0 (va_A ((wX0 cI cZ a0 u0)) sz) := by
  refine Met.ofW (cc := cX0_put) (maxL := 4) (ret := none) (by decide) rfl ?_
  intro p e s m args below meth c s₁ B hml hv
  obtain ⟨hav, hsz, hP, hK, hD0⟩ := hv
  have hx := B.exec
  have hb := B.bytes
  have hr := B.returns
  have hlocks := B.notSynchronized
  have hts := atoms_spec (ws := wsX0_put) B.pre
  have hown : s.vm.findClass RX0 = some m.cls := findClass_of_methodNamed B.named
  have i0 : ∀ w ∈ wsX00, w ∈ wsX0_put := fun w h => List.mem_cons_of_mem _ (List.mem_append_right _ h)
  have hk9 := hts (.fieldLink RX0 9 "Inodery$Cache" "numbers" "[I") (by decide +kernel)
  have hk19 := hts (.fieldLink RX0 19 "Inodery$Cache" "many" "I") (by decide +kernel)
  subst hsz
  have hD := hD0.self (sz := s.heap.size)
  generalize hAe : va_A ((wX0 cI cZ a0 u0)) s.heap.size = A at hD ⊢
  have hA : ∀ q : Nat, s.heap.size ≤ q → A q := fun q h => by rw [← hAe]; exact Or.inr h
  have hS : va_S A s.heap s.heap [] := va_S.rf
  have hDD : ∀ w0 : S1, va_D A ((wX0 cI cZ a0 w0)) := fun _ => D_same (w := (wX0 cI cZ a0 u0)) rfl hD
  refine Wq (fun Q hQ => ?_)
  refine W_entry hav (Nat.le_of_ble_eq_true rfl) (fun ls hl => ?_)
  have hl : lv_has ls 4 [(0, .ref (a0 0)), (1, .int p1), (2, .int p2), (3, .int p3)] := hl
  unfold f_X0_put at hf
  refine W_heap hP hS (fun H locs hP hS => ?_)
  refine lv_iload_n hx hb dX0_put_0 rfl (lv_at hl 1 rfl) ?_
  refine lv_iload_n hx hb dX0_put_1 rfl (lv_at hl 2 rfl) ?_
  obtain ⟨z_1, hz_1, hf⟩ := bn_some hf
  refine c0S (As := [.int p1, .int p2]) (rest := []) ⟨hx, hb, hml, hown, hts⟩ (c_X0_isPageOf l D cI cZ cJ cT p1 p2 z_1 hz_1) (va_cwS 2 hts gX0_put_X0_isPageOf rfl rfl rfl (by decide +kernel) ⟨Nat.le_of_ble_eq_true rfl, Nat.le_of_ble_eq_true rfl⟩) rfl rfl hl.1 (Nat.le_of_ble_eq_true rfl) dX0_put_2 ⟨Nat.le_of_ble_eq_true rfl, Nat.le_of_ble_eq_true rfl⟩ ?_
  obtain ⟨k36_2, hk36_2, hf⟩ := jn_some hf
  have j36_2 : ∀ (u36_2_0 : S1) (H : Heap) (locs : List Loc) (ls : Array Slot), k36_2 u36_2_0 = some o → va_P D cls (wX0 cI cZ a0 u36_2_0) H → va_S A s.heap H locs → lv_has ls 4 [] → W p l e (headSpec wsX0_put rmX0_put).room s m args below meth c H locs 0 0 Q (F0 m 36 ls []) := by
    intro u36_2_0 H locs ls hf hP hS hl
    have hf := qa1 hk36_2 hf
    have eo := Option.some.inj hf
    have hP : va_P D cls (wX0 cI cZ a0 o) H := by rw [← eo]; exact hP
    rw [hQ]
    exact W.vret hx hb hr (fun t ht hW => ⟨⟨(), rfl, trivial, P_at ht hP⟩, hS.F ht⟩) hS.2.2 dX0_put_36 hlocks
  refine lv_if_eq (tgt := 36) hx hb dX0_put_5 (by decide) (fun c_3 => ?_) (fun c_3 => ?_)
  · have hf := ite_t hf c_3
    exact j36_2 _ _ _ _ hf hP hS (lv_sub hl [] rfl)
  · have hf := ite_f hf c_3
    refine lv_aload_n hx hb dX0_put_8 rfl (lv_at hl 0 rfl) ?_
    refine lv_iload_n hx hb dX0_put_9 rfl (lv_at hl 1 rfl) ?_
    refine lv_iload_n hx hb dX0_put_10 rfl (lv_at hl 2 rfl) ?_
    obtain ⟨z_4, hz_4, hf⟩ := bn_some hf
    refine cWVv (As := [.int p1, .int p2]) (rest := []) ⟨hx, hb, hml, hown, hts⟩ (c_X0_letGo l D cI cZ cJ cT a0 H.size u0 p1 p2 z_4 hz_4) (cwV 2 hts gX0_put_X0_letGo rfl rfl rfl (by decide +kernel) ⟨Nat.le_of_ble_eq_true rfl, Nat.le_of_ble_eq_true rfl⟩) hP hK (hDD u0) hS (own_free (hDD u0) hS hA) (va_recv hK hP (ci := 0) (q0 := 0) rfl rfl) rfl rfl hl.1 (Nat.le_of_ble_eq_true rfl) dX0_put_11 ⟨Nat.le_of_ble_eq_true rfl, Nat.le_of_ble_eq_true rfl⟩ (fun H1 locs hP1 hk1 hS => ?_)
    have hP : va_P D cls (wX0 cI cZ a0 z_4) H1 := hP1
    clear hP1 hk1
    generalize H1 = H at hP hS ⊢
    refine lv_aload_n hx hb dX0_put_14 rfl (lv_at hl 0 rfl) ?_
    refine va_get (D := D) (ci := 0) (v := .ref (a0 1)) (C := RX0) (T := TX0) (N := 3) hx hb hts i0 hown hK hP 0 rfl rfl 0 (by decide) hk9 (fun _ h9 => h9) rfl dX0_put_15 ?_
    refine lv_iload_n hx hb dX0_put_18 rfl (lv_at hl 1 rfl) ?_
    refine lv_bipush (v := 16) hx hb dX0_put_19 (by decide) ?_
    refine lv_imul hx hb dX0_put_21 ?_
    refine lv_iload_n hx hb dX0_put_22 rfl (lv_at hl 2 rfl) ?_
    refine lv_iadd hx hb dX0_put_23 ?_
    refine lv_iload_n hx hb dX0_put_24 rfl (lv_at hl 3 rfl) ?_
    obtain ⟨hi, hf⟩ := chk_some hf
    obtain ⟨u_5, hu_5, hf⟩ := bv_some hf
    refine va_iast hx hb hK hP (hDD z_4) hS 1 0 rfl rfl (inb_in hi) dX0_put_25 (fun H locs hP _ hS => ?_)
    have hP : va_P D cls (wX0 cI cZ a0 u_5) H := by rw [hu_5]; exact hP
    refine lv_aload_n hx hb dX0_put_26 rfl (lv_at hl 0 rfl) ?_
    refine lv_dup hx hb dX0_put_27 rfl ?_
    refine va_get (D := D) (ci := 0) (v := .int (u_5 2 0)) (C := RX0) (T := TX0) (N := 3) hx hb hts i0 hown hK hP 0 rfl rfl 2 (by decide) hk19 (fun _ h9 => h9) rfl dX0_put_28 ?_
    refine lv_iconst (v := 1) hx hb dX0_put_31 (by decide) ?_
    refine lv_iadd hx hb dX0_put_32 ?_
    obtain ⟨u_6, hu_6, hf⟩ := bv_some hf
    refine va_put (D := D) (ci := 0) (v := .int ((u_5 2 0) + 1)) (ty := .int) (C := RX0) (T := TX0) (N := 3) hx hb hts i0 tyX0 tyX0_ok nmX0 hown hK hP (hDD u_5) hS 0 rfl rfl 2 (by decide) hk19 (fun _ h9 => h9) rfl (by decide +kernel) rfl rfl (Nat.le_of_ble_eq_true rfl) dX0_put_33 (fun H locs hP _ hS => ?_)
    have hP : va_P D cls (wX0 cI cZ a0 u_6) H := by rw [hu_6]; exact hP
    exact j36_2 _ _ _ _ hf hP hS (lv_sub hl [] rfl)
theorem dX0_hasError_0 : decode cX0_hasError 0 = .ok (.iload_n 1, 1) := by decide +kernel
theorem dX0_hasError_1 : decode cX0_hasError 1 = .ok (.ifCond .lt 22, 3) := by decide +kernel
theorem dX0_hasError_4 : decode cX0_hasError 4 = .ok (.iload_n 1, 1) := by decide +kernel
theorem dX0_hasError_5 : decode cX0_hasError 5 = .ok (.bipush 32, 2) := by decide +kernel
theorem dX0_hasError_7 : decode cX0_hasError 7 = .ok (.if_icmp .ge 16, 3) := by decide +kernel
theorem dX0_hasError_10 : decode cX0_hasError 10 = .ok (.aload_n 0, 1) := by decide +kernel
theorem dX0_hasError_11 : decode cX0_hasError 11 = .ok (.getfield 15, 3) := by decide +kernel
theorem dX0_hasError_14 : decode cX0_hasError 14 = .ok (.iload_n 1, 1) := by decide +kernel
theorem dX0_hasError_15 : decode cX0_hasError 15 = .ok (.baload, 1) := by decide +kernel
theorem dX0_hasError_16 : decode cX0_hasError 16 = .ok (.ifCond .eq 7, 3) := by decide +kernel
theorem dX0_hasError_19 : decode cX0_hasError 19 = .ok (.iconst 1, 1) := by decide +kernel
theorem dX0_hasError_20 : decode cX0_hasError 20 = .ok (.goto 4, 3) := by decide +kernel
theorem dX0_hasError_23 : decode cX0_hasError 23 = .ok (.iconst 0, 1) := by decide +kernel
theorem dX0_hasError_24 : decode cX0_hasError 24 = .ok (.ireturn, 1) := by decide +kernel
def f_X0_hasError (u0 : S1) (p1 : Int32) : Option (Int32) := jn (fun (v24_1_0 : Int32) => some (vp_nar .boolean v24_1_0)) (fun k24_1 => jn (k24_1 0) (fun k23_2 => if p1 < 0 then k23_2 else if 32 ≤ p1 then k23_2 else chk (inb p1 32) (if (u0 1 (p1).toNatClampNeg) = 0 then k23_2 else k24_1 1)))
def rmX0_hasError : Room := { frames := 0, cells := 0, slots := 0, locals := 0 }
set_option maxHeartbeats 4000000 in
set_option maxRecDepth 100000 in
theorem c_X0_hasError (l : Launch) (D : va_G) (cI cZ cJ cT : ClassId) (a0 : Nat → Nat) (u0 : S1) (p1 : Int32) (o : Int32) (hf : f_X0_hasError u0 p1 = some o) : Met l yX0_hasError wsX0_hasError rmX0_hasError (va_Pc [.ref (a0 0), .int p1] (PR D cls (tys cI cZ cJ cT) ((wX0 cI cZ a0 u0)))) (QR o) 0 0 (fun _ => False) := by
  refine Met.ofW (cc := cX0_hasError) (maxL := 2) (ret := (some .boolean)) (by decide) rfl ?_
  intro p e s m args below meth c s₁ B hml hv
  obtain ⟨hav, hP, hK⟩ := hv
  have hx := B.exec
  have hb := B.bytes
  have hr := B.returns
  have hlocks := B.notSynchronized
  have hts := atoms_spec (ws := wsX0_hasError) B.pre
  have hown : s.vm.findClass RX0 = some m.cls := findClass_of_methodNamed B.named
  have i0 : ∀ w ∈ wsX00, w ∈ wsX0_hasError := fun w h => List.mem_cons_of_mem _ (List.mem_append_right _ h)
  have hk15 := hts (.fieldLink RX0 15 "Inodery$Cache" "errors" "[Z") (by decide +kernel)
  refine Wq (fun Q hQ => ?_)
  refine W_entry hav (Nat.le_of_ble_eq_true rfl) (fun ls hl => ?_)
  have hl : lv_has ls 2 [(0, .ref (a0 0)), (1, .int p1)] := hl
  unfold f_X0_hasError at hf
  refine lv_iload_n hx hb dX0_hasError_0 rfl (lv_at hl 1 rfl) ?_
  obtain ⟨k24_1, hk24_1, hf⟩ := jn_some hf
  have j24_1 : ∀ (v24_1_0 : Int32) (ls : Array Slot), k24_1 v24_1_0 = some o → lv_has ls 2 [] → W p l e (headSpec wsX0_hasError rmX0_hasError).room s m args below meth c s.heap [] 0 0 Q (F0 m 24 ls [.int v24_1_0]) := by
    intro v24_1_0 ls hf hl
    have hf := qa1 hk24_1 hf
    rw [hQ]
    exact zretN (v := v24_1_0) (v' := vp_nar .boolean v24_1_0) hx hb hr rfl (fun t ht hW => ⟨_, rfl, Option.some.inj hf, ht⟩) (fun _ h => nomatch h) dX0_hasError_24 hlocks
  obtain ⟨k23_2, hk23_2, hf⟩ := jn_some hf
  have j23_2 : ∀ (ls : Array Slot), k23_2 = some o → lv_has ls 2 [] → W p l e (headSpec wsX0_hasError rmX0_hasError).room s m args below meth c s.heap [] 0 0 Q (F0 m 23 ls []) := by
    intro ls hf hl
    have hf := qa0 hk23_2 hf
    refine lv_iconst (v := 0) hx hb dX0_hasError_23 (by decide) ?_
    exact j24_1 _ _ hf (lv_sub hl [] rfl)
  refine lv_if_lt (tgt := 23) hx hb dX0_hasError_1 (by decide) (fun c_3 => ?_) (fun c_3 => ?_)
  · have hf := ite_t hf c_3
    exact j23_2 _ hf (lv_sub hl [] rfl)
  · have hf := ite_f hf c_3
    refine lv_iload_n hx hb dX0_hasError_4 rfl (lv_at hl 1 rfl) ?_
    refine lv_bipush (v := 32) hx hb dX0_hasError_5 (by decide) ?_
    refine lv_icmp_ge (tgt := 23) hx hb dX0_hasError_7 (by decide) (fun c_4 => ?_) (fun c_4 => ?_)
    · have hf := ite_t hf c_4
      exact j23_2 _ hf (lv_sub hl [] rfl)
    · have hf := ite_f hf c_4
      refine lv_aload_n hx hb dX0_hasError_10 rfl (lv_at hl 0 rfl) ?_
      refine va_get (D := D) (ci := 0) (v := .ref (a0 2)) (C := RX0) (T := TX0) (N := 3) hx hb hts i0 hown hK hP 0 rfl rfl 1 (by decide) hk15 (fun _ h9 => h9) rfl dX0_hasError_11 ?_
      refine lv_iload_n hx hb dX0_hasError_14 rfl (lv_at hl 1 rfl) ?_
      obtain ⟨hi, hf⟩ := chk_some hf
      refine va_zald hx hb hK hP 2 1 rfl rfl (inb_in hi) dX0_hasError_15 ?_
      refine lv_if_eq (tgt := 23) hx hb dX0_hasError_16 (by decide) (fun c_5 => ?_) (fun c_5 => ?_)
      · have hf := ite_t hf c_5
        exact j23_2 _ hf (lv_sub hl [] rfl)
      · have hf := ite_f hf c_5
        refine lv_iconst (v := 1) hx hb dX0_hasError_19 (by decide) ?_
        refine lv_goto (tgt := 24) hx hb dX0_hasError_20 (by decide) ?_
        exact j24_1 _ _ hf (lv_sub hl [] rfl)
theorem dX0_setError_0 : decode cX0_setError 0 = .ok (.iload_n 1, 1) := by decide +kernel
theorem dX0_setError_1 : decode cX0_setError 1 = .ok (.ifCond .lt 16, 3) := by decide +kernel
theorem dX0_setError_4 : decode cX0_setError 4 = .ok (.iload_n 1, 1) := by decide +kernel
theorem dX0_setError_5 : decode cX0_setError 5 = .ok (.bipush 32, 2) := by decide +kernel
theorem dX0_setError_7 : decode cX0_setError 7 = .ok (.if_icmp .ge 10, 3) := by decide +kernel
theorem dX0_setError_10 : decode cX0_setError 10 = .ok (.aload_n 0, 1) := by decide +kernel
theorem dX0_setError_11 : decode cX0_setError 11 = .ok (.getfield 15, 3) := by decide +kernel
theorem dX0_setError_14 : decode cX0_setError 14 = .ok (.iload_n 1, 1) := by decide +kernel
theorem dX0_setError_15 : decode cX0_setError 15 = .ok (.iconst 1, 1) := by decide +kernel
theorem dX0_setError_16 : decode cX0_setError 16 = .ok (.bastore, 1) := by decide +kernel
theorem dX0_setError_17 : decode cX0_setError 17 = .ok (.return_, 1) := by decide +kernel
def f_X0_setError (u0 : S1) (p1 : Int32) : Option (S1) := jn (fun (u17_1_0 : S1) => some (u17_1_0)) (fun k17_1 => if p1 < 0 then k17_1 u0 else if 32 ≤ p1 then k17_1 u0 else chk (inb p1 32) (bv (stz u0 1 p1 1) (fun u_4 => k17_1 u_4)))
def rmX0_setError : Room := { frames := 0, cells := 0, slots := 0, locals := 0 }
set_option maxHeartbeats 4000000 in
set_option maxRecDepth 100000 in
theorem c_X0_setError (l : Launch) (D : va_G) (cI cZ cJ cT : ClassId) (a0 : Nat → Nat) (sz : Nat) (u0 : S1) (p1 : Int32) (o : S1) (hf : f_X0_setError u0 p1 = some o) : Met l yX0_setError wsX0_setError rmX0_setError (va_Pc [.ref (a0 0), .int p1] (PW D cls (tys cI cZ cJ cT) ((wX0 cI cZ a0 u0)) sz)) (QWv D cls ((wX0 cI cZ a0 o)) (va_A ((wX0 cI cZ a0 u0)) sz)) 0 0 (va_A ((wX0 cI cZ a0 u0)) sz) := by
  refine Met.ofW (cc := cX0_setError) (maxL := 2) (ret := none) (by decide) rfl ?_
  intro p e s m args below meth c s₁ B hml hv
  obtain ⟨hav, hsz, hP, hK, hD0⟩ := hv
  have hx := B.exec
  have hb := B.bytes
  have hr := B.returns
  have hlocks := B.notSynchronized
  have hts := atoms_spec (ws := wsX0_setError) B.pre
  have hown : s.vm.findClass RX0 = some m.cls := findClass_of_methodNamed B.named
  have i0 : ∀ w ∈ wsX00, w ∈ wsX0_setError := fun w h => List.mem_cons_of_mem _ (List.mem_append_right _ h)
  have hk15 := hts (.fieldLink RX0 15 "Inodery$Cache" "errors" "[Z") (by decide +kernel)
  subst hsz
  have hD := hD0.self (sz := s.heap.size)
  generalize hAe : va_A ((wX0 cI cZ a0 u0)) s.heap.size = A at hD ⊢
  have hA : ∀ q : Nat, s.heap.size ≤ q → A q := fun q h => by rw [← hAe]; exact Or.inr h
  have hS : va_S A s.heap s.heap [] := va_S.rf
  have hDD : ∀ w0 : S1, va_D A ((wX0 cI cZ a0 w0)) := fun _ => D_same (w := (wX0 cI cZ a0 u0)) rfl hD
  refine Wq (fun Q hQ => ?_)
  refine W_entry hav (Nat.le_of_ble_eq_true rfl) (fun ls hl => ?_)
  have hl : lv_has ls 2 [(0, .ref (a0 0)), (1, .int p1)] := hl
  unfold f_X0_setError at hf
  refine W_heap hP hS (fun H locs hP hS => ?_)
  refine lv_iload_n hx hb dX0_setError_0 rfl (lv_at hl 1 rfl) ?_
  obtain ⟨k17_1, hk17_1, hf⟩ := jn_some hf
  have j17_1 : ∀ (u17_1_0 : S1) (H : Heap) (locs : List Loc) (ls : Array Slot), k17_1 u17_1_0 = some o → va_P D cls (wX0 cI cZ a0 u17_1_0) H → va_S A s.heap H locs → lv_has ls 2 [] → W p l e (headSpec wsX0_setError rmX0_setError).room s m args below meth c H locs 0 0 Q (F0 m 17 ls []) := by
    intro u17_1_0 H locs ls hf hP hS hl
    have hf := qa1 hk17_1 hf
    have eo := Option.some.inj hf
    have hP : va_P D cls (wX0 cI cZ a0 o) H := by rw [← eo]; exact hP
    rw [hQ]
    exact W.vret hx hb hr (fun t ht hW => ⟨⟨(), rfl, trivial, P_at ht hP⟩, hS.F ht⟩) hS.2.2 dX0_setError_17 hlocks
  refine lv_if_lt (tgt := 17) hx hb dX0_setError_1 (by decide) (fun c_2 => ?_) (fun c_2 => ?_)
  · have hf := ite_t hf c_2
    exact j17_1 _ _ _ _ hf hP hS (lv_sub hl [] rfl)
  · have hf := ite_f hf c_2
    refine lv_iload_n hx hb dX0_setError_4 rfl (lv_at hl 1 rfl) ?_
    refine lv_bipush (v := 32) hx hb dX0_setError_5 (by decide) ?_
    refine lv_icmp_ge (tgt := 17) hx hb dX0_setError_7 (by decide) (fun c_3 => ?_) (fun c_3 => ?_)
    · have hf := ite_t hf c_3
      exact j17_1 _ _ _ _ hf hP hS (lv_sub hl [] rfl)
    · have hf := ite_f hf c_3
      refine lv_aload_n hx hb dX0_setError_10 rfl (lv_at hl 0 rfl) ?_
      refine va_get (D := D) (ci := 0) (v := .ref (a0 2)) (C := RX0) (T := TX0) (N := 3) hx hb hts i0 hown hK hP 0 rfl rfl 1 (by decide) hk15 (fun _ h9 => h9) rfl dX0_setError_11 ?_
      refine lv_iload_n hx hb dX0_setError_14 rfl (lv_at hl 1 rfl) ?_
      refine lv_iconst (v := 1) hx hb dX0_setError_15 (by decide) ?_
      obtain ⟨hi, hf⟩ := chk_some hf
      obtain ⟨u_4, hu_4, hf⟩ := bv_some hf
      refine va_zast hx hb hK hP (hDD u0) hS 2 1 rfl rfl (inb_in hi) dX0_setError_16 (fun H locs hP _ hS => ?_)
      have hP : va_P D cls (wX0 cI cZ a0 u_4) H := by rw [hu_4]; exact hP
      exact j17_1 _ _ _ _ hf hP hS (lv_sub hl [] rfl)
set_option maxRecDepth 20000 in
theorem ggX0_tellError_X0_hasError : GoodIn wsX0_tellError wsX0_hasError := goodIn_r _ [6, 1, 7, 8, 9] (by decide +kernel) (by decide +kernel)
set_option maxRecDepth 20000 in
theorem gX0_tellError_X0_hasError : GoodIn wsX0_tellError (wsV RX0 35 RX0 yX0_hasError wsX0_hasError) := goodIn_app (goodIn_of _ (by decide +kernel)) ggX0_tellError_X0_hasError
theorem dX0_tellError_0 : decode cX0_tellError 0 = .ok (.aload_n 0, 1) := by decide +kernel
theorem dX0_tellError_1 : decode cX0_tellError 1 = .ok (.iload_n 1, 1) := by decide +kernel
theorem dX0_tellError_2 : decode cX0_tellError 2 = .ok (.invokevirtual 35, 3) := by decide +kernel
theorem dX0_tellError_5 : decode cX0_tellError 5 = .ok (.istore_n 2, 1) := by decide +kernel
theorem dX0_tellError_6 : decode cX0_tellError 6 = .ok (.iload_n 2, 1) := by decide +kernel
theorem dX0_tellError_7 : decode cX0_tellError 7 = .ok (.ifCond .eq 10, 3) := by decide +kernel
theorem dX0_tellError_10 : decode cX0_tellError 10 = .ok (.aload_n 0, 1) := by decide +kernel
theorem dX0_tellError_11 : decode cX0_tellError 11 = .ok (.getfield 15, 3) := by decide +kernel
theorem dX0_tellError_14 : decode cX0_tellError 14 = .ok (.iload_n 1, 1) := by decide +kernel
theorem dX0_tellError_15 : decode cX0_tellError 15 = .ok (.iconst 0, 1) := by decide +kernel
theorem dX0_tellError_16 : decode cX0_tellError 16 = .ok (.bastore, 1) := by decide +kernel
theorem dX0_tellError_17 : decode cX0_tellError 17 = .ok (.iload_n 2, 1) := by decide +kernel
theorem dX0_tellError_18 : decode cX0_tellError 18 = .ok (.ireturn, 1) := by decide +kernel
def f_X0_tellError (u0 : S1) (p1 : Int32) : Option (Int32 × S1) := bn (f_X0_hasError u0 p1) (fun z_1 => jn (fun (u17_2_0 : S1) => some (vp_nar .boolean z_1, u17_2_0)) (fun k17_2 => if z_1 = 0 then k17_2 u0 else chk (inb p1 32) (bv (stz u0 1 p1 0) (fun u_4 => k17_2 u_4))))
def rmX0_tellError : Room := { frames := 1, cells := 0, slots := 0, locals := 21 }
set_option maxHeartbeats 4000000 in
set_option maxRecDepth 100000 in
theorem c_X0_tellError (l : Launch) (D : va_G) (cI cZ cJ cT : ClassId) (a0 : Nat → Nat) (sz : Nat) (u0 : S1) (p1 : Int32) (o : Int32 × S1) (hf : f_X0_tellError u0 p1 = some o) : Met l yX0_tellError wsX0_tellError rmX0_tellError (va_Pc [.ref (a0 0), .int p1] (PW D cls (tys cI cZ cJ cT) ((wX0 cI cZ a0 u0)) sz)) (QWi D cls o.1 ((wX0 cI cZ a0 o.2)) (va_A ((wX0 cI cZ a0 u0)) sz)) 0 0 (va_A ((wX0 cI cZ a0 u0)) sz) := by
  refine Met.ofW (cc := cX0_tellError) (maxL := 3) (ret := (some .boolean)) (by decide) rfl ?_
  intro p e s m args below meth c s₁ B hml hv
  obtain ⟨hav, hsz, hP, hK, hD0⟩ := hv
  have hx := B.exec
  have hb := B.bytes
  have hr := B.returns
  have hlocks := B.notSynchronized
  have hts := atoms_spec (ws := wsX0_tellError) B.pre
  have hown : s.vm.findClass RX0 = some m.cls := findClass_of_methodNamed B.named
  have i0 : ∀ w ∈ wsX00, w ∈ wsX0_tellError := fun w h => List.mem_cons_of_mem _ (List.mem_append_right _ h)
  have hk15 := hts (.fieldLink RX0 15 "Inodery$Cache" "errors" "[Z") (by decide +kernel)
  subst hsz
  have hD := hD0.self (sz := s.heap.size)
  generalize hAe : va_A ((wX0 cI cZ a0 u0)) s.heap.size = A at hD ⊢
  have hA : ∀ q : Nat, s.heap.size ≤ q → A q := fun q h => by rw [← hAe]; exact Or.inr h
  have hS : va_S A s.heap s.heap [] := va_S.rf
  have hDD : ∀ w0 : S1, va_D A ((wX0 cI cZ a0 w0)) := fun _ => D_same (w := (wX0 cI cZ a0 u0)) rfl hD
  refine Wq (fun Q hQ => ?_)
  refine W_entry hav (Nat.le_of_ble_eq_true rfl) (fun ls hl => ?_)
  have hl : lv_has ls 3 [(0, .ref (a0 0)), (1, .int p1)] := hl
  unfold f_X0_tellError at hf
  refine W_heap hP hS (fun H locs hP hS => ?_)
  refine lv_aload_n hx hb dX0_tellError_0 rfl (lv_at hl 0 rfl) ?_
  refine lv_iload_n hx hb dX0_tellError_1 rfl (lv_at hl 1 rfl) ?_
  obtain ⟨z_1, hz_1, hf⟩ := bn_some hf
  refine cRV (As := [.int p1]) (rest := []) ⟨hx, hb, hml, hown, hts⟩ (c_X0_hasError l D cI cZ cJ cT a0 u0 p1 z_1 hz_1) (cwV 1 hts gX0_tellError_X0_hasError rfl rfl rfl (by decide +kernel) ⟨Nat.le_of_ble_eq_true rfl, Nat.le_of_ble_eq_true rfl⟩) hP hK (va_recv hK hP (ci := 0) (q0 := 0) rfl rfl) rfl rfl hl.1 (Nat.le_of_ble_eq_true rfl) dX0_tellError_2 ⟨Nat.le_of_ble_eq_true rfl, Nat.le_of_ble_eq_true rfl⟩ ?_
  refine lv_istore_n (lv' := [(2, .int z_1), (0, .ref (a0 0)), (1, .int p1)]) hx hb dX0_tellError_5 rfl hl (by decide) rfl (fun ls hl => ?_)
  refine lv_iload_n hx hb dX0_tellError_6 rfl (lv_at hl 0 rfl) ?_
  obtain ⟨k17_2, hk17_2, hf⟩ := jn_some hf
  have j17_2 : ∀ (u17_2_0 : S1) (H : Heap) (locs : List Loc) (ls : Array Slot), k17_2 u17_2_0 = some o → va_P D cls (wX0 cI cZ a0 u17_2_0) H → va_S A s.heap H locs → lv_has ls 3 [(2, .int z_1)] → W p l e (headSpec wsX0_tellError rmX0_tellError).room s m args below meth c H locs 0 0 Q (F0 m 17 ls []) := by
    intro u17_2_0 H locs ls hf hP hS hl
    have hf := qa1 hk17_2 hf
    refine lv_iload_n hx hb dX0_tellError_17 rfl (lv_at hl 0 rfl) ?_
    have eo := Option.some.inj hf
    have hP : va_P D cls (wX0 cI cZ a0 o.2) H := by rw [← eo]; exact hP
    rw [hQ]
    exact zretN (v := z_1) (v' := vp_nar .boolean z_1) hx hb hr rfl (fun t ht hW => ⟨⟨_, (), rfl, congrArg Prod.fst eo, P_at ht hP⟩, hS.F ht⟩) hS.2.2 dX0_tellError_18 hlocks
  refine lv_if_eq (tgt := 17) hx hb dX0_tellError_7 (by decide) (fun c_3 => ?_) (fun c_3 => ?_)
  · have hf := ite_t hf c_3
    exact j17_2 _ _ _ _ hf hP hS (lv_sub hl [0] rfl)
  · have hf := ite_f hf c_3
    refine lv_aload_n hx hb dX0_tellError_10 rfl (lv_at hl 1 rfl) ?_
    refine va_get (D := D) (ci := 0) (v := .ref (a0 2)) (C := RX0) (T := TX0) (N := 3) hx hb hts i0 hown hK hP 0 rfl rfl 1 (by decide) hk15 (fun _ h9 => h9) rfl dX0_tellError_11 ?_
    refine lv_iload_n hx hb dX0_tellError_14 rfl (lv_at hl 2 rfl) ?_
    refine lv_iconst (v := 0) hx hb dX0_tellError_15 (by decide) ?_
    obtain ⟨hi, hf⟩ := chk_some hf
    obtain ⟨u_4, hu_4, hf⟩ := bv_some hf
    refine va_zast hx hb hK hP (hDD u0) hS 2 1 rfl rfl (inb_in hi) dX0_tellError_16 (fun H locs hP _ hS => ?_)
    have hP : va_P D cls (wX0 cI cZ a0 u_4) H := by rw [hu_4]; exact hP
    exact j17_2 _ _ _ _ hf hP hS (lv_sub hl [0] rfl)
set_option maxRecDepth 20000 in
theorem ggX0_forgetThing_X0_letGo : GoodIn wsX0_forgetThing wsX0_letGo := goodIn_r _ [5, 6, 7, 8, 9, 4, 10, 20, 21, 22] (by decide +kernel) (by decide +kernel)
set_option maxRecDepth 20000 in
theorem gX0_forgetThing_X0_letGo : GoodIn wsX0_forgetThing (wsV RX0 31 RX0 yX0_letGo wsX0_letGo) := goodIn_app (goodIn_of _ (by decide +kernel)) ggX0_forgetThing_X0_letGo
set_option maxRecDepth 20000 in
theorem ggX0_forgetThing_X0_tellError : GoodIn wsX0_forgetThing wsX0_tellError := goodIn_r _ [14, 15, 16, 17, 18, 4, 19, 20, 21, 22] (by decide +kernel) (by decide +kernel)
set_option maxRecDepth 20000 in
theorem gX0_forgetThing_X0_tellError : GoodIn wsX0_forgetThing (wsV RX0 39 RX0 yX0_tellError wsX0_tellError) := goodIn_app (goodIn_of _ (by decide +kernel)) ggX0_forgetThing_X0_tellError
theorem dX0_forgetThing_0 : decode cX0_forgetThing 0 = .ok (.iconst 0, 1) := by decide +kernel
theorem dX0_forgetThing_1 : decode cX0_forgetThing 1 = .ok (.istore_n 2, 1) := by decide +kernel
theorem dX0_forgetThing_2 : decode cX0_forgetThing 2 = .ok (.iload_n 2, 1) := by decide +kernel
theorem dX0_forgetThing_3 : decode cX0_forgetThing 3 = .ok (.bipush 16, 2) := by decide +kernel
theorem dX0_forgetThing_5 : decode cX0_forgetThing 5 = .ok (.if_icmp .ge 15, 3) := by decide +kernel
theorem dX0_forgetThing_8 : decode cX0_forgetThing 8 = .ok (.aload_n 0, 1) := by decide +kernel
theorem dX0_forgetThing_9 : decode cX0_forgetThing 9 = .ok (.iload_n 1, 1) := by decide +kernel
theorem dX0_forgetThing_10 : decode cX0_forgetThing 10 = .ok (.iload_n 2, 1) := by decide +kernel
theorem dX0_forgetThing_11 : decode cX0_forgetThing 11 = .ok (.invokevirtual 31, 3) := by decide +kernel
theorem dX0_forgetThing_14 : decode cX0_forgetThing 14 = .ok (.iinc 2 1, 3) := by decide +kernel
theorem dX0_forgetThing_17 : decode cX0_forgetThing 17 = .ok (.goto (-15), 3) := by decide +kernel
theorem dX0_forgetThing_20 : decode cX0_forgetThing 20 = .ok (.aload_n 0, 1) := by decide +kernel
theorem dX0_forgetThing_21 : decode cX0_forgetThing 21 = .ok (.iload_n 1, 1) := by decide +kernel
theorem dX0_forgetThing_22 : decode cX0_forgetThing 22 = .ok (.invokevirtual 39, 3) := by decide +kernel
theorem dX0_forgetThing_25 : decode cX0_forgetThing 25 = .ok (.pop, 1) := by decide +kernel
theorem dX0_forgetThing_26 : decode cX0_forgetThing 26 = .ok (.return_, 1) := by decide +kernel
def f_X0_forgetThing (u0 : S1) (p1 : Int32) : Option (S1) := qj2 (fun (r2_1 : Int32 → S1 → Option (S1)) (y2_1_2 : Int32) (u2_1_0 : S1) => if 16 ≤ y2_1_2 then bn (f_X0_tellError u2_1_0 p1) (fun z_3 => some (z_3.2)) else bn (f_X0_letGo u2_1_0 p1 y2_1_2) (fun z_4 => r2_1 (y2_1_2 + 1) z_4)) (fun k2_1 => k2_1 0 u0)
def rmX0_forgetThing : Room := { frames := 2, cells := 0, slots := 0, locals := 43 }
set_option maxHeartbeats 4000000 in
set_option maxRecDepth 100000 in
theorem c_X0_forgetThing (l : Launch) (D : va_G) (cI cZ cJ cT : ClassId) (a0 : Nat → Nat) (sz : Nat) (u0 : S1) (p1 : Int32) (o : S1) (hf : f_X0_forgetThing u0 p1 = some o) : Met l yX0_forgetThing wsX0_forgetThing rmX0_forgetThing (va_Pc [.ref (a0 0), .int p1] (PW D cls (tys cI cZ cJ cT) ((wX0 cI cZ a0 u0)) sz)) (QWv D cls ((wX0 cI cZ a0 o)) (va_A ((wX0 cI cZ a0 u0)) sz)) 0 0 (va_A ((wX0 cI cZ a0 u0)) sz) := by
  refine Met.ofW (cc := cX0_forgetThing) (maxL := 3) (ret := none) (by decide) rfl ?_
  intro p e s m args below meth c s₁ B hml hv
  obtain ⟨hav, hsz, hP, hK, hD0⟩ := hv
  have hx := B.exec
  have hb := B.bytes
  have hr := B.returns
  have hlocks := B.notSynchronized
  have hts := atoms_spec (ws := wsX0_forgetThing) B.pre
  have hown : s.vm.findClass RX0 = some m.cls := findClass_of_methodNamed B.named
  subst hsz
  have hD := hD0.self (sz := s.heap.size)
  generalize hAe : va_A ((wX0 cI cZ a0 u0)) s.heap.size = A at hD ⊢
  have hA : ∀ q : Nat, s.heap.size ≤ q → A q := fun q h => by rw [← hAe]; exact Or.inr h
  have hS : va_S A s.heap s.heap [] := va_S.rf
  have hDD : ∀ w0 : S1, va_D A ((wX0 cI cZ a0 w0)) := fun _ => D_same (w := (wX0 cI cZ a0 u0)) rfl hD
  refine Wq (fun Q hQ => ?_)
  refine W_entry hav (Nat.le_of_ble_eq_true rfl) (fun ls hl => ?_)
  have hl : lv_has ls 3 [(0, .ref (a0 0)), (1, .int p1)] := hl
  unfold f_X0_forgetThing at hf
  refine W_heap hP hS (fun H locs hP hS => ?_)
  refine lv_iconst (v := 0) hx hb dX0_forgetThing_0 (by decide) ?_
  refine lv_istore_n (lv' := [(2, .int 0), (0, .ref (a0 0)), (1, .int p1)]) hx hb dX0_forgetThing_1 rfl hl (by decide) rfl (fun ls hl => ?_)
  obtain ⟨G2_1, hG2_1, hf⟩ := qj2_some hf
  have j2_1 : ∀ (n : Nat) (y2_1_2 : Int32) (u2_1_0 : S1) (H : Heap) (locs : List Loc) (ls : Array Slot), ql2 G2_1 n y2_1_2 u2_1_0 = some o → va_P D cls (wX0 cI cZ a0 u2_1_0) H → va_S A s.heap H locs → lv_has ls 3 [(0, .ref (a0 0)), (1, .int p1), (2, .int y2_1_2)] → W p l e (headSpec wsX0_forgetThing rmX0_forgetThing).room s m args below meth c H locs 0 0 Q (F0 m 2 ls []) := by
    intro n
    induction n with
    | zero => intro y2_1_2 u2_1_0 H locs ls hf hP hS hl; exact (ql2_z hf).elim
    | succ n ih2_1 =>
      intro y2_1_2 u2_1_0 H locs ls hf hP hS hl
      have hf := ql2_s hG2_1 hf
      obtain ⟨r2_1, hr2_1⟩ : ∃ z, z = ql2 G2_1 n := ⟨_, rfl⟩
      rw [← hr2_1] at hf ih2_1
      refine lv_iload_n hx hb dX0_forgetThing_2 rfl (lv_at hl 2 rfl) ?_
      refine lv_bipush (v := 16) hx hb dX0_forgetThing_3 (by decide) ?_
      refine lv_icmp_ge (tgt := 20) hx hb dX0_forgetThing_5 (by decide) (fun c_2 => ?_) (fun c_2 => ?_)
      · have hf := ite_t hf c_2
        refine lv_aload_n hx hb dX0_forgetThing_20 rfl (lv_at hl 0 rfl) ?_
        refine lv_iload_n hx hb dX0_forgetThing_21 rfl (lv_at hl 1 rfl) ?_
        obtain ⟨z_3, hz_3, hf⟩ := bn_some hf
        refine cWVi (As := [.int p1]) (rest := []) ⟨hx, hb, hml, hown, hts⟩ (c_X0_tellError l D cI cZ cJ cT a0 H.size u2_1_0 p1 z_3 hz_3) (cwV 1 hts gX0_forgetThing_X0_tellError rfl rfl rfl (by decide +kernel) ⟨Nat.le_of_ble_eq_true rfl, Nat.le_of_ble_eq_true rfl⟩) hP hK (hDD u2_1_0) hS (own_free (hDD u2_1_0) hS hA) (va_recv hK hP (ci := 0) (q0 := 0) rfl rfl) rfl rfl hl.1 (Nat.le_of_ble_eq_true rfl) dX0_forgetThing_22 ⟨Nat.le_of_ble_eq_true rfl, Nat.le_of_ble_eq_true rfl⟩ (fun H1 locs hP1 hk1 hS => ?_)
        have hP : va_P D cls (wX0 cI cZ a0 z_3.2) H1 := hP1
        clear hP1 hk1
        generalize H1 = H at hP hS ⊢
        refine lv_pop hx hb dX0_forgetThing_25 rfl ?_
        have eo := Option.some.inj hf
        have hP : va_P D cls (wX0 cI cZ a0 o) H := by rw [← eo]; exact hP
        rw [hQ]
        exact W.vret hx hb hr (fun t ht hW => ⟨⟨(), rfl, trivial, P_at ht hP⟩, hS.F ht⟩) hS.2.2 dX0_forgetThing_26 hlocks
      · have hf := ite_f hf c_2
        refine lv_aload_n hx hb dX0_forgetThing_8 rfl (lv_at hl 0 rfl) ?_
        refine lv_iload_n hx hb dX0_forgetThing_9 rfl (lv_at hl 1 rfl) ?_
        refine lv_iload_n hx hb dX0_forgetThing_10 rfl (lv_at hl 2 rfl) ?_
        obtain ⟨z_4, hz_4, hf⟩ := bn_some hf
        refine cWVv (As := [.int p1, .int y2_1_2]) (rest := []) ⟨hx, hb, hml, hown, hts⟩ (c_X0_letGo l D cI cZ cJ cT a0 H.size u2_1_0 p1 y2_1_2 z_4 hz_4) (cwV 2 hts gX0_forgetThing_X0_letGo rfl rfl rfl (by decide +kernel) ⟨Nat.le_of_ble_eq_true rfl, Nat.le_of_ble_eq_true rfl⟩) hP hK (hDD u2_1_0) hS (own_free (hDD u2_1_0) hS hA) (va_recv hK hP (ci := 0) (q0 := 0) rfl rfl) rfl rfl hl.1 (Nat.le_of_ble_eq_true rfl) dX0_forgetThing_11 ⟨Nat.le_of_ble_eq_true rfl, Nat.le_of_ble_eq_true rfl⟩ (fun H1 locs hP1 hk1 hS => ?_)
        have hP : va_P D cls (wX0 cI cZ a0 z_4) H1 := hP1
        clear hP1 hk1
        generalize H1 = H at hP hS ⊢
        refine lv_iinc (v := y2_1_2 + 1) (lv' := [(2, .int (y2_1_2 + 1)), (0, .ref (a0 0)), (1, .int p1)]) hx hb dX0_forgetThing_14 hl (k := 2) rfl rfl (by decide) rfl (fun ls hl => ?_)
        refine lv_goto (tgt := 2) hx hb dX0_forgetThing_17 (by decide) ?_
        exact ih2_1 _ _ _ _ _ hf hP hS (lv_sub hl [1, 2, 0] rfl)
  exact j2_1 4096 _ _ _ _ _ hf hP hS (lv_sub hl [1, 2, 0] rfl)
set_option maxRecDepth 20000 in
theorem ggX0_forgetAll_X0_forgetThing : GoodIn wsX0_forgetAll wsX0_forgetThing := goodIn_r _ [5, 6, 7, 8, 4, 9, 10, 11, 12, 13, 14, 15, 16, 17, 18, 19, 20, 21, 22, 23, 24, 25, 26] (by decide +kernel) (by decide +kernel)
set_option maxRecDepth 20000 in
theorem gX0_forgetAll_X0_forgetThing : GoodIn wsX0_forgetAll (wsV RX0 42 RX0 yX0_forgetThing wsX0_forgetThing) := goodIn_app (goodIn_of _ (by decide +kernel)) ggX0_forgetAll_X0_forgetThing
theorem dX0_forgetAll_0 : decode cX0_forgetAll 0 = .ok (.iconst 0, 1) := by decide +kernel
theorem dX0_forgetAll_1 : decode cX0_forgetAll 1 = .ok (.istore_n 1, 1) := by decide +kernel
theorem dX0_forgetAll_2 : decode cX0_forgetAll 2 = .ok (.iload_n 1, 1) := by decide +kernel
theorem dX0_forgetAll_3 : decode cX0_forgetAll 3 = .ok (.bipush 32, 2) := by decide +kernel
theorem dX0_forgetAll_5 : decode cX0_forgetAll 5 = .ok (.if_icmp .ge 14, 3) := by decide +kernel
theorem dX0_forgetAll_8 : decode cX0_forgetAll 8 = .ok (.aload_n 0, 1) := by decide +kernel
theorem dX0_forgetAll_9 : decode cX0_forgetAll 9 = .ok (.iload_n 1, 1) := by decide +kernel
theorem dX0_forgetAll_10 : decode cX0_forgetAll 10 = .ok (.invokevirtual 42, 3) := by decide +kernel
theorem dX0_forgetAll_13 : decode cX0_forgetAll 13 = .ok (.iinc 1 1, 3) := by decide +kernel
theorem dX0_forgetAll_16 : decode cX0_forgetAll 16 = .ok (.goto (-14), 3) := by decide +kernel
theorem dX0_forgetAll_19 : decode cX0_forgetAll 19 = .ok (.return_, 1) := by decide +kernel
def f_X0_forgetAll (u0 : S1) : Option (S1) := qj2 (fun (r2_1 : Int32 → S1 → Option (S1)) (y2_1_1 : Int32) (u2_1_0 : S1) => if 32 ≤ y2_1_1 then some (u2_1_0) else bn (f_X0_forgetThing u2_1_0 y2_1_1) (fun z_3 => r2_1 (y2_1_1 + 1) z_3)) (fun k2_1 => k2_1 0 u0)
def rmX0_forgetAll : Room := { frames := 3, cells := 0, slots := 0, locals := 65 }
set_option maxHeartbeats 4000000 in
set_option maxRecDepth 100000 in
theorem c_X0_forgetAll (l : Launch) (D : va_G) (cI cZ cJ cT : ClassId) (a0 : Nat → Nat) (sz : Nat) (u0 : S1) (o : S1) (hf : f_X0_forgetAll u0 = some o) : Met l yX0_forgetAll wsX0_forgetAll rmX0_forgetAll (va_Pc [.ref (a0 0)] (PW D cls (tys cI cZ cJ cT) ((wX0 cI cZ a0 u0)) sz)) (QWv D cls ((wX0 cI cZ a0 o)) (va_A ((wX0 cI cZ a0 u0)) sz)) 0 0 (va_A ((wX0 cI cZ a0 u0)) sz) := by
  refine Met.ofW (cc := cX0_forgetAll) (maxL := 2) (ret := none) (by decide) rfl ?_
  intro p e s m args below meth c s₁ B hml hv
  obtain ⟨hav, hsz, hP, hK, hD0⟩ := hv
  have hx := B.exec
  have hb := B.bytes
  have hr := B.returns
  have hlocks := B.notSynchronized
  have hts := atoms_spec (ws := wsX0_forgetAll) B.pre
  have hown : s.vm.findClass RX0 = some m.cls := findClass_of_methodNamed B.named
  subst hsz
  have hD := hD0.self (sz := s.heap.size)
  generalize hAe : va_A ((wX0 cI cZ a0 u0)) s.heap.size = A at hD ⊢
  have hA : ∀ q : Nat, s.heap.size ≤ q → A q := fun q h => by rw [← hAe]; exact Or.inr h
  have hS : va_S A s.heap s.heap [] := va_S.rf
  have hDD : ∀ w0 : S1, va_D A ((wX0 cI cZ a0 w0)) := fun _ => D_same (w := (wX0 cI cZ a0 u0)) rfl hD
  refine Wq (fun Q hQ => ?_)
  refine W_entry hav (Nat.le_of_ble_eq_true rfl) (fun ls hl => ?_)
  have hl : lv_has ls 2 [(0, .ref (a0 0))] := hl
  unfold f_X0_forgetAll at hf
  refine W_heap hP hS (fun H locs hP hS => ?_)
  refine lv_iconst (v := 0) hx hb dX0_forgetAll_0 (by decide) ?_
  refine lv_istore_n (lv' := [(1, .int 0), (0, .ref (a0 0))]) hx hb dX0_forgetAll_1 rfl hl (by decide) rfl (fun ls hl => ?_)
  obtain ⟨G2_1, hG2_1, hf⟩ := qj2_some hf
  have j2_1 : ∀ (n : Nat) (y2_1_1 : Int32) (u2_1_0 : S1) (H : Heap) (locs : List Loc) (ls : Array Slot), ql2 G2_1 n y2_1_1 u2_1_0 = some o → va_P D cls (wX0 cI cZ a0 u2_1_0) H → va_S A s.heap H locs → lv_has ls 2 [(0, .ref (a0 0)), (1, .int y2_1_1)] → W p l e (headSpec wsX0_forgetAll rmX0_forgetAll).room s m args below meth c H locs 0 0 Q (F0 m 2 ls []) := by
    intro n
    induction n with
    | zero => intro y2_1_1 u2_1_0 H locs ls hf hP hS hl; exact (ql2_z hf).elim
    | succ n ih2_1 =>
      intro y2_1_1 u2_1_0 H locs ls hf hP hS hl
      have hf := ql2_s hG2_1 hf
      obtain ⟨r2_1, hr2_1⟩ : ∃ z, z = ql2 G2_1 n := ⟨_, rfl⟩
      rw [← hr2_1] at hf ih2_1
      refine lv_iload_n hx hb dX0_forgetAll_2 rfl (lv_at hl 1 rfl) ?_
      refine lv_bipush (v := 32) hx hb dX0_forgetAll_3 (by decide) ?_
      refine lv_icmp_ge (tgt := 19) hx hb dX0_forgetAll_5 (by decide) (fun c_2 => ?_) (fun c_2 => ?_)
      · have hf := ite_t hf c_2
        have eo := Option.some.inj hf
        have hP : va_P D cls (wX0 cI cZ a0 o) H := by rw [← eo]; exact hP
        rw [hQ]
        exact W.vret hx hb hr (fun t ht hW => ⟨⟨(), rfl, trivial, P_at ht hP⟩, hS.F ht⟩) hS.2.2 dX0_forgetAll_19 hlocks
      · have hf := ite_f hf c_2
        refine lv_aload_n hx hb dX0_forgetAll_8 rfl (lv_at hl 0 rfl) ?_
        refine lv_iload_n hx hb dX0_forgetAll_9 rfl (lv_at hl 1 rfl) ?_
        obtain ⟨z_3, hz_3, hf⟩ := bn_some hf
        refine cWVv (As := [.int y2_1_1]) (rest := []) ⟨hx, hb, hml, hown, hts⟩ (c_X0_forgetThing l D cI cZ cJ cT a0 H.size u2_1_0 y2_1_1 z_3 hz_3) (cwV 1 hts gX0_forgetAll_X0_forgetThing rfl rfl rfl (by decide +kernel) ⟨Nat.le_of_ble_eq_true rfl, Nat.le_of_ble_eq_true rfl⟩) hP hK (hDD u2_1_0) hS (own_free (hDD u2_1_0) hS hA) (va_recv hK hP (ci := 0) (q0 := 0) rfl rfl) rfl rfl hl.1 (Nat.le_of_ble_eq_true rfl) dX0_forgetAll_10 ⟨Nat.le_of_ble_eq_true rfl, Nat.le_of_ble_eq_true rfl⟩ (fun H1 locs hP1 hk1 hS => ?_)
        have hP : va_P D cls (wX0 cI cZ a0 z_3) H1 := hP1
        clear hP1 hk1
        generalize H1 = H at hP hS ⊢
        refine lv_iinc (v := y2_1_1 + 1) (lv' := [(1, .int (y2_1_1 + 1)), (0, .ref (a0 0))]) hx hb dX0_forgetAll_13 hl (k := 1) rfl rfl (by decide) rfl (fun ls hl => ?_)
        refine lv_goto (tgt := 2) hx hb dX0_forgetAll_16 (by decide) ?_
        exact ih2_1 _ _ _ _ _ hf hP hS (lv_sub hl [1, 0] rfl)
  exact j2_1 4096 _ _ _ _ _ hf hP hS (lv_sub hl [1, 0] rfl)
