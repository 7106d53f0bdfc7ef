theorem dX3_isHandle_0 : decode cX3_isHandle 0 = .ok (.iload_n 1, 1) := by decide +kernel
theorem dX3_isHandle_1 : decode cX3_isHandle 1 = .ok (.ifCond .lt 21, 3) := by decide +kernel
theorem dX3_isHandle_4 : decode cX3_isHandle 4 = .ok (.iload_n 1, 1) := by decide +kernel
theorem dX3_isHandle_5 : decode cX3_isHandle 5 = .ok (.bipush 30, 2) := by decide +kernel
theorem dX3_isHandle_7 : decode cX3_isHandle 7 = .ok (.if_icmp .ge 15, 3) := by decide +kernel
theorem dX3_isHandle_10 : decode cX3_isHandle 10 = .ok (.iload_n 1, 1) := by decide +kernel
theorem dX3_isHandle_11 : decode cX3_isHandle 11 = .ok (.aload_n 0, 1) := by decide +kernel
theorem dX3_isHandle_12 : decode cX3_isHandle 12 = .ok (.getfield 25, 3) := by decide +kernel
theorem dX3_isHandle_15 : decode cX3_isHandle 15 = .ok (.if_icmp .ge 7, 3) := by decide +kernel
theorem dX3_isHandle_18 : decode cX3_isHandle 18 = .ok (.iconst 1, 1) := by decide +kernel
theorem dX3_isHandle_19 : decode cX3_isHandle 19 = .ok (.goto 4, 3) := by decide +kernel
theorem dX3_isHandle_22 : decode cX3_isHandle 22 = .ok (.iconst 0, 1) := by decide +kernel
theorem dX3_isHandle_23 : decode cX3_isHandle 23 = .ok (.ireturn, 1) := by decide +kernel
def f_X3_isHandle (u0 : S1) (p1 : Int32) : Option (Int32) := jn (fun (v23_1_0 : Int32) => some (vp_nar .boolean v23_1_0)) (fun k23_1 => jn (k23_1 0) (fun k22_2 => if p1 < 0 then k22_2 else if 30 ≤ p1 then k22_2 else if (u0 4 0) ≤ p1 then k22_2 else k23_1 1))
def rmX3_isHandle : Room := { frames := 0, cells := 0, slots := 0, locals := 0 }
set_option maxHeartbeats 4000000 in
set_option maxRecDepth 100000 in
theorem c_X3_isHandle (l : Launch) (D : va_G) (cI cZ cJ cT : ClassId) (a0 : Nat → Nat) (u0 : S1) (p1 : Int32) (o : Int32) (hf : f_X3_isHandle u0 p1 = some o) : Met l yX3_isHandle wsX3_isHandle rmX3_isHandle (va_Pc [.ref (a0 0), .int p1] (PR D cls (tys cI cZ cJ cT) ((wX3 cI cZ a0 u0)))) (QR o) 0 0 (fun _ => False) := by
  refine Met.ofW (cc := cX3_isHandle) (maxL := 2) (ret := (some .boolean)) (by decide) rfl ?_
  intro p e s m args below meth c s₁ B hml hv
  obtain ⟨hav, hP, hK⟩ := hv
  have hx := B.exec
  have hb := B.bytes
  have hr := B.returns
  have hlocks := B.notSynchronized
  have hts := atoms_spec (ws := wsX3_isHandle) B.pre
  have hown : s.vm.findClass RX3 = some m.cls := findClass_of_methodNamed B.named
  have i3 : ∀ w ∈ wsX30, w ∈ wsX3_isHandle := fun w h => List.mem_cons_of_mem _ (List.mem_append_right _ h)
  have hk25 := hts (.fieldLink RX3 25 "Inodery$Handles" "given" "I") (by decide +kernel)
  refine Wq (fun Q hQ => ?_)
  refine W_entry hav (Nat.le_of_ble_eq_true rfl) (fun ls hl => ?_)
  have hl : lv_has ls 2 [(0, .ref (a0 0)), (1, .int p1)] := hl
  unfold f_X3_isHandle at hf
  refine lv_iload_n hx hb dX3_isHandle_0 rfl (lv_at hl 1 rfl) ?_
  obtain ⟨k23_1, hk23_1, hf⟩ := jn_some hf
  have j23_1 : ∀ (v23_1_0 : Int32) (ls : Array Slot), k23_1 v23_1_0 = some o → lv_has ls 2 [] → W p l e (headSpec wsX3_isHandle rmX3_isHandle).room s m args below meth c s.heap [] 0 0 Q (F0 m 23 ls [.int v23_1_0]) := by
    intro v23_1_0 ls hf hl
    have hf := qa1 hk23_1 hf
    rw [hQ]
    exact zretN (v := v23_1_0) (v' := vp_nar .boolean v23_1_0) hx hb hr rfl (fun t ht hW => ⟨_, rfl, Option.some.inj hf, ht⟩) (fun _ h => nomatch h) dX3_isHandle_23 hlocks
  obtain ⟨k22_2, hk22_2, hf⟩ := jn_some hf
  have j22_2 : ∀ (ls : Array Slot), k22_2 = some o → lv_has ls 2 [] → W p l e (headSpec wsX3_isHandle rmX3_isHandle).room s m args below meth c s.heap [] 0 0 Q (F0 m 22 ls []) := by
    intro ls hf hl
    have hf := qa0 hk22_2 hf
    refine lv_iconst (v := 0) hx hb dX3_isHandle_22 (by decide) ?_
    exact j23_1 _ _ hf (lv_sub hl [] rfl)
  refine lv_if_lt (tgt := 22) hx hb dX3_isHandle_1 (by decide) (fun c_3 => ?_) (fun c_3 => ?_)
  · have hf := ite_t hf c_3
    exact j22_2 _ hf (lv_sub hl [] rfl)
  · have hf := ite_f hf c_3
    refine lv_iload_n hx hb dX3_isHandle_4 rfl (lv_at hl 1 rfl) ?_
    refine lv_bipush (v := 30) hx hb dX3_isHandle_5 (by decide) ?_
    refine lv_icmp_ge (tgt := 22) hx hb dX3_isHandle_7 (by decide) (fun c_4 => ?_) (fun c_4 => ?_)
    · have hf := ite_t hf c_4
      exact j22_2 _ hf (lv_sub hl [] rfl)
    · have hf := ite_f hf c_4
      refine lv_iload_n hx hb dX3_isHandle_10 rfl (lv_at hl 1 rfl) ?_
      refine lv_aload_n hx hb dX3_isHandle_11 rfl (lv_at hl 0 rfl) ?_
      refine va_get (D := D) (ci := 3) (v := .int (u0 4 0)) (C := RX3) (T := TX3) (N := 5) hx hb hts i3 hown hK hP 0 rfl rfl 4 (by decide) hk25 (fun _ h9 => h9) rfl dX3_isHandle_12 ?_
      refine lv_icmp_ge (tgt := 22) hx hb dX3_isHandle_15 (by decide) (fun c_5 => ?_) (fun c_5 => ?_)
      · have hf := ite_t hf c_5
        exact j22_2 _ hf (lv_sub hl [] rfl)
      · have hf := ite_f hf c_5
        refine lv_iconst (v := 1) hx hb dX3_isHandle_18 (by decide) ?_
        refine lv_goto (tgt := 23) hx hb dX3_isHandle_19 (by decide) ?_
        exact j23_1 _ _ hf (lv_sub hl [] rfl)
theorem dX3_isSpent_0 : decode cX3_isSpent 0 = .ok (.aload_n 0, 1) := by decide +kernel
theorem dX3_isSpent_1 : decode cX3_isSpent 1 = .ok (.getfield 25, 3) := by decide +kernel
theorem dX3_isSpent_4 : decode cX3_isSpent 4 = .ok (.bipush 30, 2) := by decide +kernel
theorem dX3_isSpent_6 : decode cX3_isSpent 6 = .ok (.if_icmp .lt 7, 3) := by decide +kernel
theorem dX3_isSpent_9 : decode cX3_isSpent 9 = .ok (.iconst 1, 1) := by decide +kernel
theorem dX3_isSpent_10 : decode cX3_isSpent 10 = .ok (.goto 4, 3) := by decide +kernel
theorem dX3_isSpent_13 : decode cX3_isSpent 13 = .ok (.iconst 0, 1) := by decide +kernel
theorem dX3_isSpent_14 : decode cX3_isSpent 14 = .ok (.ireturn, 1) := by decide +kernel
def f_X3_isSpent (u0 : S1) : Option (Int32) := jn (fun (v14_1_0 : Int32) => some (vp_nar .boolean v14_1_0)) (fun k14_1 => if (u0 4 0) < 30 then k14_1 0 else k14_1 1)
def rmX3_isSpent : Room := { frames := 0, cells := 0, slots := 0, locals := 0 }
set_option maxHeartbeats 4000000 in
set_option maxRecDepth 100000 in
theorem c_X3_isSpent (l : Launch) (D : va_G) (cI cZ cJ cT : ClassId) (a0 : Nat → Nat) (u0 : S1) (o : Int32) (hf : f_X3_isSpent u0 = some o) : Met l yX3_isSpent wsX3_isSpent rmX3_isSpent (va_Pc [.ref (a0 0)] (PR D cls (tys cI cZ cJ cT) ((wX3 cI cZ a0 u0)))) (QR o) 0 0 (fun _ => False) := by
  refine Met.ofW (cc := cX3_isSpent) (maxL := 1) (ret := (some .boolean)) (by decide) rfl ?_
  intro p e s m args below meth c s₁ B hml hv
  obtain ⟨hav, hP, hK⟩ := hv
  have hx := B.exec
  have hb := B.bytes
  have hr := B.returns
  have hlocks := B.notSynchronized
  have hts := atoms_spec (ws := wsX3_isSpent) B.pre
  have hown : s.vm.findClass RX3 = some m.cls := findClass_of_methodNamed B.named
  have i3 : ∀ w ∈ wsX30, w ∈ wsX3_isSpent := fun w h => List.mem_cons_of_mem _ (List.mem_append_right _ h)
  have hk25 := hts (.fieldLink RX3 25 "Inodery$Handles" "given" "I") (by decide +kernel)
  refine Wq (fun Q hQ => ?_)
  refine W_entry hav (Nat.le_of_ble_eq_true rfl) (fun ls hl => ?_)
  have hl : lv_has ls 1 [(0, .ref (a0 0))] := hl
  unfold f_X3_isSpent at hf
  refine lv_aload_n hx hb dX3_isSpent_0 rfl (lv_at hl 0 rfl) ?_
  refine va_get (D := D) (ci := 3) (v := .int (u0 4 0)) (C := RX3) (T := TX3) (N := 5) hx hb hts i3 hown hK hP 0 rfl rfl 4 (by decide) hk25 (fun _ h9 => h9) rfl dX3_isSpent_1 ?_
  refine lv_bipush (v := 30) hx hb dX3_isSpent_4 (by decide) ?_
  obtain ⟨k14_1, hk14_1, hf⟩ := jn_some hf
  have j14_1 : ∀ (v14_1_0 : Int32) (ls : Array Slot), k14_1 v14_1_0 = some o → lv_has ls 1 [] → W p l e (headSpec wsX3_isSpent rmX3_isSpent).room s m args below meth c s.heap [] 0 0 Q (F0 m 14 ls [.int v14_1_0]) := by
    intro v14_1_0 ls hf hl
    have hf := qa1 hk14_1 hf
    rw [hQ]
    exact zretN (v := v14_1_0) (v' := vp_nar .boolean v14_1_0) hx hb hr rfl (fun t ht hW => ⟨_, rfl, Option.some.inj hf, ht⟩) (fun _ h => nomatch h) dX3_isSpent_14 hlocks
  refine lv_icmp_lt (tgt := 13) hx hb dX3_isSpent_6 (by decide) (fun c_2 => ?_) (fun c_2 => ?_)
  · have hf := ite_t hf c_2
    refine lv_iconst (v := 0) hx hb dX3_isSpent_13 (by decide) ?_
    exact j14_1 _ _ hf (lv_sub hl [] rfl)
  · have hf := ite_f hf c_2
    refine lv_iconst (v := 1) hx hb dX3_isSpent_9 (by decide) ?_
    refine lv_goto (tgt := 14) hx hb dX3_isSpent_10 (by decide) ?_
    exact j14_1 _ _ hf (lv_sub hl [] rfl)
theorem dX3_give_0 : decode cX3_give 0 = .ok (.aload_n 0, 1) := by decide +kernel
theorem dX3_give_1 : decode cX3_give 1 = .ok (.getfield 25, 3) := by decide +kernel
theorem dX3_give_4 : decode cX3_give 4 = .ok (.ifCond .lt 12, 3) := by decide +kernel
theorem dX3_give_7 : decode cX3_give 7 = .ok (.aload_n 0, 1) := by decide +kernel
theorem dX3_give_8 : decode cX3_give 8 = .ok (.getfield 25, 3) := by decide +kernel
theorem dX3_give_11 : decode cX3_give 11 = .ok (.bipush 30, 2) := by decide +kernel
theorem dX3_give_13 : decode cX3_give 13 = .ok (.if_icmp .lt 5, 3) := by decide +kernel
theorem dX3_give_16 : decode cX3_give 16 = .ok (.iconst (-1), 1) := by decide +kernel
theorem dX3_give_17 : decode cX3_give 17 = .ok (.ireturn, 1) := by decide +kernel
theorem dX3_give_18 : decode cX3_give 18 = .ok (.aload_n 0, 1) := by decide +kernel
theorem dX3_give_19 : decode cX3_give 19 = .ok (.getfield 9, 3) := by decide +kernel
theorem dX3_give_22 : decode cX3_give 22 = .ok (.aload_n 0, 1) := by decide +kernel
theorem dX3_give_23 : decode cX3_give 23 = .ok (.getfield 25, 3) := by decide +kernel
theorem dX3_give_26 : decode cX3_give 26 = .ok (.iload_n 1, 1) := by decide +kernel
theorem dX3_give_27 : decode cX3_give 27 = .ok (.iastore, 1) := by decide +kernel
theorem dX3_give_28 : decode cX3_give 28 = .ok (.aload_n 0, 1) := by decide +kernel
theorem dX3_give_29 : decode cX3_give 29 = .ok (.getfield 15, 3) := by decide +kernel
theorem dX3_give_32 : decode cX3_give 32 = .ok (.aload_n 0, 1) := by decide +kernel
theorem dX3_give_33 : decode cX3_give 33 = .ok (.getfield 25, 3) := by decide +kernel
theorem dX3_give_36 : decode cX3_give 36 = .ok (.iconst 1, 1) := by decide +kernel
theorem dX3_give_37 : decode cX3_give 37 = .ok (.bastore, 1) := by decide +kernel
theorem dX3_give_38 : decode cX3_give 38 = .ok (.aload_n 0, 1) := by decide +kernel
theorem dX3_give_39 : decode cX3_give 39 = .ok (.getfield 19, 3) := by decide +kernel
theorem dX3_give_42 : decode cX3_give 42 = .ok (.aload_n 0, 1) := by decide +kernel
theorem dX3_give_43 : decode cX3_give 43 = .ok (.getfield 25, 3) := by decide +kernel
theorem dX3_give_46 : decode cX3_give 46 = .ok (.iload_n 2, 1) := by decide +kernel
theorem dX3_give_47 : decode cX3_give 47 = .ok (.bastore, 1) := by decide +kernel
theorem dX3_give_48 : decode cX3_give 48 = .ok (.aload_n 0, 1) := by decide +kernel
theorem dX3_give_49 : decode cX3_give 49 = .ok (.dup, 1) := by decide +kernel
theorem dX3_give_50 : decode cX3_give 50 = .ok (.getfield 25, 3) := by decide +kernel
theorem dX3_give_53 : decode cX3_give 53 = .ok (.iconst 1, 1) := by decide +kernel
theorem dX3_give_54 : decode cX3_give 54 = .ok (.iadd, 1) := by decide +kernel
theorem dX3_give_55 : decode cX3_give 55 = .ok (.putfield 25, 3) := by decide +kernel
theorem dX3_give_58 : decode cX3_give 58 = .ok (.aload_n 0, 1) := by decide +kernel
theorem dX3_give_59 : decode cX3_give 59 = .ok (.getfield 25, 3) := by decide +kernel
theorem dX3_give_62 : decode cX3_give 62 = .ok (.iconst 1, 1) := by decide +kernel
theorem dX3_give_63 : decode cX3_give 63 = .ok (.isub, 1) := by decide +kernel
theorem dX3_give_64 : decode cX3_give 64 = .ok (.ireturn, 1) := by decide +kernel
def f_X3_give (u0 : S1) (p1 : Int32) (p2 : Int32) : Option (Int32 × S1) := jn (some ((-1), u0)) (fun k16_1 => if (u0 4 0) < 0 then k16_1 else if (u0 4 0) < 30 then chk (inb (u0 4 0) 30) (bv (st u0 0 (u0 4 0) p1) (fun u_4 => chk (inb (u_4 4 0) 30) (bv (stz u_4 1 (u_4 4 0) 1) (fun u_5 => chk (inb (u_5 4 0) 30) (bv (stz u_5 2 (u_5 4 0) p2) (fun u_6 => bv (up u_6 4 (fun _ => (u_6 4 0) + 1)) (fun u_7 => some ((u_7 4 0) - 1, u_7)))))))) else k16_1)
def rmX3_give : Room := { frames := 0, cells := 0, slots := 0, locals := 0 }
set_option maxHeartbeats 4000000 in
set_option maxRecDepth 100000 in
theorem c_X3_give (l : Launch) (D : va_G) (cI cZ cJ cT : ClassId) (a0 : Nat → Nat) (sz : Nat) (u0 : S1) (p1 : Int32) (p2 : Int32) (o : Int32 × S1) (hf : f_X3_give u0 p1 p2 = some o) : Met l yX3_give wsX3_give rmX3_give (va_Pc [.ref (a0 0), .int p1, .int p2] (PW D cls (tys cI cZ cJ cT) ((wX3 cI cZ a0 u0)) sz)) (QWi D cls o.1 ((wX3 cI cZ a0 o.2)) (va_A ((wX3 cI cZ a0 u0)) sz)) 0 0 (va_A ((wX3 cI cZ a0 u0)) sz) := by
  refine Met.ofW (cc := cX3_give) (maxL := 3) (ret := (some .int)) (by decide) rfl ?_
  intro p e s m args below meth c s₁ B hml hv
  obtain ⟨hav, hsz, hP, hK, hD0⟩ := hv
  have hx := B.exec
  have hb := B.bytes
  have hr := B.returns
  have hlocks := B.notSynchronized
  have hts := atoms_spec (ws := wsX3_give) B.pre
  have hown : s.vm.findClass RX3 = some m.cls := findClass_of_methodNamed B.named
  have i3 : ∀ w ∈ wsX30, w ∈ wsX3_give := fun w h => List.mem_cons_of_mem _ (List.mem_append_right _ h)
  have hk9 := hts (.fieldLink RX3 9 "Inodery$Handles" "things" "[I") (by decide +kernel)
  have hk15 := hts (.fieldLink RX3 15 "Inodery$Handles" "opens" "[Z") (by decide +kernel)
  have hk19 := hts (.fieldLink RX3 19 "Inodery$Handles" "writers" "[Z") (by decide +kernel)
  have hk25 := hts (.fieldLink RX3 25 "Inodery$Handles" "given" "I") (by decide +kernel)
  subst hsz
  have hD := hD0.self (sz := s.heap.size)
  generalize hAe : va_A ((wX3 cI cZ a0 u0)) s.heap.size = A at hD ⊢
  have hA : ∀ q : Nat, s.heap.size ≤ q → A q := fun q h => by rw [← hAe]; exact Or.inr h
  have hS : va_S A s.heap s.heap [] := va_S.rf
  have hDD : ∀ w0 : S1, va_D A ((wX3 cI cZ a0 w0)) := fun _ => D_same (w := (wX3 cI cZ a0 u0)) rfl hD
  refine Wq (fun Q hQ => ?_)
  refine W_entry hav (Nat.le_of_ble_eq_true rfl) (fun ls hl => ?_)
  have hl : lv_has ls 3 [(0, .ref (a0 0)), (1, .int p1), (2, .int p2)] := hl
  unfold f_X3_give at hf
  refine W_heap hP hS (fun H locs hP hS => ?_)
  refine lv_aload_n hx hb dX3_give_0 rfl (lv_at hl 0 rfl) ?_
  refine va_get (D := D) (ci := 3) (v := .int (u0 4 0)) (C := RX3) (T := TX3) (N := 5) hx hb hts i3 hown hK hP 0 rfl rfl 4 (by decide) hk25 (fun _ h9 => h9) rfl dX3_give_1 ?_
  obtain ⟨k16_1, hk16_1, hf⟩ := jn_some hf
  have j16_1 : ∀ (H : Heap) (locs : List Loc) (ls : Array Slot), k16_1 = some o → va_P D cls (wX3 cI cZ a0 u0) H → va_S A s.heap H locs → lv_has ls 3 [] → W p l e (headSpec wsX3_give rmX3_give).room s m args below meth c H locs 0 0 Q (F0 m 16 ls []) := by
    intro H locs ls hf hP hS hl
    have hf := qa0 hk16_1 hf
    refine lv_iconst (v := (-1)) hx hb dX3_give_16 (by decide) ?_
    have eo := Option.some.inj hf
    have hP : va_P D cls (wX3 cI cZ a0 o.2) H := by rw [← eo]; exact hP
    rw [hQ]
    exact W.iret hx hb hr (fun t ht hW => ⟨⟨_, (), rfl, congrArg Prod.fst eo, P_at ht hP⟩, hS.F ht⟩) hS.2.2 dX3_give_17 hlocks
  refine lv_if_lt (tgt := 16) hx hb dX3_give_4 (by decide) (fun c_2 => ?_) (fun c_2 => ?_)
  · have hf := ite_t hf c_2
    exact j16_1 _ _ _ hf hP hS (lv_sub hl [] rfl)
  · have hf := ite_f hf c_2
    refine lv_aload_n hx hb dX3_give_7 rfl (lv_at hl 0 rfl) ?_
    refine va_get (D := D) (ci := 3) (v := .int (u0 4 0)) (C := RX3) (T := TX3) (N := 5) hx hb hts i3 hown hK hP 0 rfl rfl 4 (by decide) hk25 (fun _ h9 => h9) rfl dX3_give_8 ?_
    refine lv_bipush (v := 30) hx hb dX3_give_11 (by decide) ?_
    refine lv_icmp_lt (tgt := 18) hx hb dX3_give_13 (by decide) (fun c_3 => ?_) (fun c_3 => ?_)
    · have hf := ite_t hf c_3
      refine lv_aload_n hx hb dX3_give_18 rfl (lv_at hl 0 rfl) ?_
      refine va_get (D := D) (ci := 3) (v := .ref (a0 1)) (C := RX3) (T := TX3) (N := 5) hx hb hts i3 hown hK hP 0 rfl rfl 0 (by decide) hk9 (fun _ h9 => h9) rfl dX3_give_19 ?_
      refine lv_aload_n hx hb dX3_give_22 rfl (lv_at hl 0 rfl) ?_
      refine va_get (D := D) (ci := 3) (v := .int (u0 4 0)) (C := RX3) (T := TX3) (N := 5) hx hb hts i3 hown hK hP 0 rfl rfl 4 (by decide) hk25 (fun _ h9 => h9) rfl dX3_give_23 ?_
      refine lv_iload_n hx hb dX3_give_26 rfl (lv_at hl 1 rfl) ?_
      obtain ⟨hi, hf⟩ := chk_some hf
      obtain ⟨u_4, hu_4, hf⟩ := bv_some hf
      refine va_iast hx hb hK hP (hDD u0) hS 1 0 rfl rfl (inb_in hi) dX3_give_27 (fun H locs hP _ hS => ?_)
      have hP : va_P D cls (wX3 cI cZ a0 u_4) H := by rw [hu_4]; exact hP
      refine lv_aload_n hx hb dX3_give_28 rfl (lv_at hl 0 rfl) ?_
      refine va_get (D := D) (ci := 3) (v := .ref (a0 2)) (C := RX3) (T := TX3) (N := 5) hx hb hts i3 hown hK hP 0 rfl rfl 1 (by decide) hk15 (fun _ h9 => h9) rfl dX3_give_29 ?_
      refine lv_aload_n hx hb dX3_give_32 rfl (lv_at hl 0 rfl) ?_
      refine va_get (D := D) (ci := 3) (v := .int (u_4 4 0)) (C := RX3) (T := TX3) (N := 5) hx hb hts i3 hown hK hP 0 rfl rfl 4 (by decide) hk25 (fun _ h9 => h9) rfl dX3_give_33 ?_
      refine lv_iconst (v := 1) hx hb dX3_give_36 (by decide) ?_
      obtain ⟨hi, hf⟩ := chk_some hf
      obtain ⟨u_5, hu_5, hf⟩ := bv_some hf
      refine va_zast hx hb hK hP (hDD u_4) hS 2 1 rfl rfl (inb_in hi) dX3_give_37 (fun H locs hP _ hS => ?_)
      have hP : va_P D cls (wX3 cI cZ a0 u_5) H := by rw [hu_5]; exact hP
      refine lv_aload_n hx hb dX3_give_38 rfl (lv_at hl 0 rfl) ?_
      refine va_get (D := D) (ci := 3) (v := .ref (a0 3)) (C := RX3) (T := TX3) (N := 5) hx hb hts i3 hown hK hP 0 rfl rfl 2 (by decide) hk19 (fun _ h9 => h9) rfl dX3_give_39 ?_
      refine lv_aload_n hx hb dX3_give_42 rfl (lv_at hl 0 rfl) ?_
      refine va_get (D := D) (ci := 3) (v := .int (u_5 4 0)) (C := RX3) (T := TX3) (N := 5) hx hb hts i3 hown hK hP 0 rfl rfl 4 (by decide) hk25 (fun _ h9 => h9) rfl dX3_give_43 ?_
      refine lv_iload_n hx hb dX3_give_46 rfl (lv_at hl 2 rfl) ?_
      obtain ⟨hi, hf⟩ := chk_some hf
      obtain ⟨u_6, hu_6, hf⟩ := bv_some hf
      refine va_zast hx hb hK hP (hDD u_5) hS 3 1 rfl rfl (inb_in hi) dX3_give_47 (fun H locs hP _ hS => ?_)
      have hP : va_P D cls (wX3 cI cZ a0 u_6) H := by rw [hu_6]; exact hP
      refine lv_aload_n hx hb dX3_give_48 rfl (lv_at hl 0 rfl) ?_
      refine lv_dup hx hb dX3_give_49 rfl ?_
      refine va_get (D := D) (ci := 3) (v := .int (u_6 4 0)) (C := RX3) (T := TX3) (N := 5) hx hb hts i3 hown hK hP 0 rfl rfl 4 (by decide) hk25 (fun _ h9 => h9) rfl dX3_give_50 ?_
      refine lv_iconst (v := 1) hx hb dX3_give_53 (by decide) ?_
      refine lv_iadd hx hb dX3_give_54 ?_
      obtain ⟨u_7, hu_7, hf⟩ := bv_some hf
      refine va_put (D := D) (ci := 3) (v := .int ((u_6 4 0) + 1)) (ty := .int) (C := RX3) (T := TX3) (N := 5) hx hb hts i3 tyX3 tyX3_ok nmX3 hown hK hP (hDD u_6) hS 0 rfl rfl 4 (by decide) hk25 (fun _ h9 => h9) rfl (by decide +kernel) rfl rfl (Nat.le_of_ble_eq_true rfl) dX3_give_55 (fun H locs hP _ hS => ?_)
      have hP : va_P D cls (wX3 cI cZ a0 u_7) H := by rw [hu_7]; exact hP
      refine lv_aload_n hx hb dX3_give_58 rfl (lv_at hl 0 rfl) ?_
      refine va_get (D := D) (ci := 3) (v := .int (u_7 4 0)) (C := RX3) (T := TX3) (N := 5) hx hb hts i3 hown hK hP 0 rfl rfl 4 (by decide) hk25 (fun _ h9 => h9) rfl dX3_give_59 ?_
      refine lv_iconst (v := 1) hx hb dX3_give_62 (by decide) ?_
      refine lv_isub hx hb dX3_give_63 ?_
      have eo := Option.some.inj hf
      have hP : va_P D cls (wX3 cI cZ a0 o.2) H := by rw [← eo]; exact hP
      rw [hQ]
      exact W.iret hx hb hr (fun t ht hW => ⟨⟨_, (), rfl, congrArg Prod.fst eo, P_at ht hP⟩, hS.F ht⟩) hS.2.2 dX3_give_64 hlocks
    · have hf := ite_f hf c_3
      exact j16_1 _ _ _ hf hP hS (lv_sub hl [] rfl)
set_option maxRecDepth 20000 in
theorem ggX3_thingOf_X3_isHandle : GoodIn wsX3_thingOf wsX3_isHandle := goodIn_r _ [6, 7, 8, 9, 10, 11, 12] (by decide +kernel) (by decide +kernel)
set_option maxRecDepth 20000 in
theorem gX3_thingOf_X3_isHandle : GoodIn wsX3_thingOf (wsV RX3 29 RX3 yX3_isHandle wsX3_isHandle) := goodIn_app (goodIn_of _ (by decide +kernel)) ggX3_thingOf_X3_isHandle
theorem dX3_thingOf_0 : decode cX3_thingOf 0 = .ok (.aload_n 0, 1) := by decide +kernel
theorem dX3_thingOf_1 : decode cX3_thingOf 1 = .ok (.iload_n 1, 1) := by decide +kernel
theorem dX3_thingOf_2 : decode cX3_thingOf 2 = .ok (.invokevirtual 29, 3) := by decide +kernel
theorem dX3_thingOf_5 : decode cX3_thingOf 5 = .ok (.ifCond .eq 12, 3) := by decide +kernel
theorem dX3_thingOf_8 : decode cX3_thingOf 8 = .ok (.aload_n 0, 1) := by decide +kernel
theorem dX3_thingOf_9 : decode cX3_thingOf 9 = .ok (.getfield 9, 3) := by decide +kernel
theorem dX3_thingOf_12 : decode cX3_thingOf 12 = .ok (.iload_n 1, 1) := by decide +kernel
theorem dX3_thingOf_13 : decode cX3_thingOf 13 = .ok (.iaload, 1) := by decide +kernel
theorem dX3_thingOf_14 : decode cX3_thingOf 14 = .ok (.goto 4, 3) := by decide +kernel
theorem dX3_thingOf_17 : decode cX3_thingOf 17 = .ok (.iconst (-1), 1) := by decide +kernel
theorem dX3_thingOf_18 : decode cX3_thingOf 18 = .ok (.ireturn, 1) := by decide +kernel
def f_X3_thingOf (u0 : S1) (p1 : Int32) : Option (Int32) := bn (f_X3_isHandle u0 p1) (fun z_1 => jn (fun (v18_2_0 : Int32) => some v18_2_0) (fun k18_2 => if z_1 = 0 then k18_2 (-1) else chk (inb p1 30) (k18_2 (u0 0 (p1).toNatClampNeg))))
def rmX3_thingOf : Room := { frames := 1, cells := 0, slots := 0, locals := 21 }
set_option maxHeartbeats 4000000 in
set_option maxRecDepth 100000 in
theorem c_X3_thingOf (l : Launch) (D : va_G) (cI cZ cJ cT : ClassId) (a0 : Nat → Nat) (u0 : S1) (p1 : Int32) (o : Int32) (hf : f_X3_thingOf u0 p1 = some o) : Met l yX3_thingOf wsX3_thingOf rmX3_thingOf (va_Pc [.ref (a0 0), .int p1] (PR D cls (tys cI cZ cJ cT) ((wX3 cI cZ a0 u0)))) (QR o) 0 0 (fun _ => False) := by
  refine Met.ofW (cc := cX3_thingOf) (maxL := 2) (ret := (some .int)) (by decide) rfl ?_
  intro p e s m args below meth c s₁ B hml hv
  obtain ⟨hav, hP, hK⟩ := hv
  have hx := B.exec
  have hb := B.bytes
  have hr := B.returns
  have hlocks := B.notSynchronized
  have hts := atoms_spec (ws := wsX3_thingOf) B.pre
  have hown : s.vm.findClass RX3 = some m.cls := findClass_of_methodNamed B.named
  have i3 : ∀ w ∈ wsX30, w ∈ wsX3_thingOf := fun w h => List.mem_cons_of_mem _ (List.mem_append_right _ h)
  have hk9 := hts (.fieldLink RX3 9 "Inodery$Handles" "things" "[I") (by decide +kernel)
  refine Wq (fun Q hQ => ?_)
  refine W_entry hav (Nat.le_of_ble_eq_true rfl) (fun ls hl => ?_)
  have hl : lv_has ls 2 [(0, .ref (a0 0)), (1, .int p1)] := hl
  unfold f_X3_thingOf at hf
  refine lv_aload_n hx hb dX3_thingOf_0 rfl (lv_at hl 0 rfl) ?_
  refine lv_iload_n hx hb dX3_thingOf_1 rfl (lv_at hl 1 rfl) ?_
  obtain ⟨z_1, hz_1, hf⟩ := bn_some hf
  refine cRV (As := [.int p1]) (rest := []) ⟨hx, hb, hml, hown, hts⟩ (c_X3_isHandle l D cI cZ cJ cT a0 u0 p1 z_1 hz_1) (cwV 1 hts gX3_thingOf_X3_isHandle rfl rfl rfl (by decide +kernel) ⟨Nat.le_of_ble_eq_true rfl, Nat.le_of_ble_eq_true rfl⟩) hP hK (va_recv hK hP (ci := 3) (q0 := 0) rfl rfl) rfl rfl hl.1 (Nat.le_of_ble_eq_true rfl) dX3_thingOf_2 ⟨Nat.le_of_ble_eq_true rfl, Nat.le_of_ble_eq_true rfl⟩ ?_
  obtain ⟨k18_2, hk18_2, hf⟩ := jn_some hf
  have j18_2 : ∀ (v18_2_0 : Int32) (ls : Array Slot), k18_2 v18_2_0 = some o → lv_has ls 2 [] → W p l e (headSpec wsX3_thingOf rmX3_thingOf).room s m args below meth c s.heap [] 0 0 Q (F0 m 18 ls [.int v18_2_0]) := by
    intro v18_2_0 ls hf hl
    have hf := qa1 hk18_2 hf
    rw [hQ]
    exact W.iret hx hb hr (fun t ht hW => ⟨_, rfl, Option.some.inj hf, ht⟩) (fun _ h => nomatch h) dX3_thingOf_18 hlocks
  refine lv_if_eq (tgt := 17) hx hb dX3_thingOf_5 (by decide) (fun c_3 => ?_) (fun c_3 => ?_)
  · have hf := ite_t hf c_3
    refine lv_iconst (v := (-1)) hx hb dX3_thingOf_17 (by decide) ?_
    exact j18_2 _ _ hf (lv_sub hl [] rfl)
  · have hf := ite_f hf c_3
    refine lv_aload_n hx hb dX3_thingOf_8 rfl (lv_at hl 0 rfl) ?_
    refine va_get (D := D) (ci := 3) (v := .ref (a0 1)) (C := RX3) (T := TX3) (N := 5) hx hb hts i3 hown hK hP 0 rfl rfl 0 (by decide) hk9 (fun _ h9 => h9) rfl dX3_thingOf_9 ?_
    refine lv_iload_n hx hb dX3_thingOf_12 rfl (lv_at hl 1 rfl) ?_
    obtain ⟨hi, hf⟩ := chk_some hf
    refine va_iald hx hb hK hP 1 0 rfl rfl (inb_in hi) dX3_thingOf_13 ?_
    refine lv_goto (tgt := 18) hx hb dX3_thingOf_14 (by decide) ?_
    exact j18_2 _ _ hf (lv_sub hl [] rfl)
set_option maxRecDepth 20000 in
theorem ggX3_isOpen_X3_isHandle : GoodIn wsX3_isOpen wsX3_isHandle := goodIn_r _ [6, 7, 8, 9, 10, 11, 12] (by decide +kernel) (by decide +kernel)
set_option maxRecDepth 20000 in
theorem gX3_isOpen_X3_isHandle : GoodIn wsX3_isOpen (wsV RX3 29 RX3 yX3_isHandle wsX3_isHandle) := goodIn_app (goodIn_of _ (by decide +kernel)) ggX3_isOpen_X3_isHandle
theorem dX3_isOpen_0 : decode cX3_isOpen 0 = .ok (.aload_n 0, 1) := by decide +kernel
theorem dX3_isOpen_1 : decode cX3_isOpen 1 = .ok (.iload_n 1, 1) := by decide +kernel
theorem dX3_isOpen_2 : decode cX3_isOpen 2 = .ok (.invokevirtual 29, 3) := by decide +kernel
theorem dX3_isOpen_5 : decode cX3_isOpen 5 = .ok (.ifCond .eq 16, 3) := by decide +kernel
theorem dX3_isOpen_8 : decode cX3_isOpen 8 = .ok (.aload_n 0, 1) := by decide +kernel
theorem dX3_isOpen_9 : decode cX3_isOpen 9 = .ok (.getfield 15, 3) := by decide +kernel
theorem dX3_isOpen_12 : decode cX3_isOpen 12 = .ok (.iload_n 1, 1) := by decide +kernel
theorem dX3_isOpen_13 : decode cX3_isOpen 13 = .ok (.baload, 1) := by decide +kernel
theorem dX3_isOpen_14 : decode cX3_isOpen 14 = .ok (.ifCond .eq 7, 3) := by decide +kernel
theorem dX3_isOpen_17 : decode cX3_isOpen 17 = .ok (.iconst 1, 1) := by decide +kernel
theorem dX3_isOpen_18 : decode cX3_isOpen 18 = .ok (.goto 4, 3) := by decide +kernel
theorem dX3_isOpen_21 : decode cX3_isOpen 21 = .ok (.iconst 0, 1) := by decide +kernel
theorem dX3_isOpen_22 : decode cX3_isOpen 22 = .ok (.ireturn, 1) := by decide +kernel
def f_X3_isOpen (u0 : S1) (p1 : Int32) : Option (Int32) := bn (f_X3_isHandle u0 p1) (fun z_1 => jn (fun (v22_2_0 : Int32) => some (vp_nar .boolean v22_2_0)) (fun k22_2 => jn (k22_2 0) (fun k21_3 => if z_1 = 0 then k21_3 else chk (inb p1 30) (if (u0 1 (p1).toNatClampNeg) = 0 then k21_3 else k22_2 1))))
def rmX3_isOpen : Room := { frames := 1, cells := 0, slots := 0, locals := 21 }
set_option maxHeartbeats 4000000 in
set_option maxRecDepth 100000 in
theorem c_X3_isOpen (l : Launch) (D : va_G) (cI cZ cJ cT : ClassId) (a0 : Nat → Nat) (u0 : S1) (p1 : Int32) (o : Int32) (hf : f_X3_isOpen u0 p1 = some o) : Met l yX3_isOpen wsX3_isOpen rmX3_isOpen (va_Pc [.ref (a0 0), .int p1] (PR D cls (tys cI cZ cJ cT) ((wX3 cI cZ a0 u0)))) (QR o) 0 0 (fun _ => False) := by
  refine Met.ofW (cc := cX3_isOpen) (maxL := 2) (ret := (some .boolean)) (by decide) rfl ?_
  intro p e s m args below meth c s₁ B hml hv
  obtain ⟨hav, hP, hK⟩ := hv
  have hx := B.exec
  have hb := B.bytes
  have hr := B.returns
  have hlocks := B.notSynchronized
  have hts := atoms_spec (ws := wsX3_isOpen) B.pre
  have hown : s.vm.findClass RX3 = some m.cls := findClass_of_methodNamed B.named
  have i3 : ∀ w ∈ wsX30, w ∈ wsX3_isOpen := fun w h => List.mem_cons_of_mem _ (List.mem_append_right _ h)
  have hk15 := hts (.fieldLink RX3 15 "Inodery$Handles" "opens" "[Z") (by decide +kernel)
  refine Wq (fun Q hQ => ?_)
  refine W_entry hav (Nat.le_of_ble_eq_true rfl) (fun ls hl => ?_)
  have hl : lv_has ls 2 [(0, .ref (a0 0)), (1, .int p1)] := hl
  unfold f_X3_isOpen at hf
  refine lv_aload_n hx hb dX3_isOpen_0 rfl (lv_at hl 0 rfl) ?_
  refine lv_iload_n hx hb dX3_isOpen_1 rfl (lv_at hl 1 rfl) ?_
  obtain ⟨z_1, hz_1, hf⟩ := bn_some hf
  refine cRV (As := [.int p1]) (rest := []) ⟨hx, hb, hml, hown, hts⟩ (c_X3_isHandle l D cI cZ cJ cT a0 u0 p1 z_1 hz_1) (cwV 1 hts gX3_isOpen_X3_isHandle rfl rfl rfl (by decide +kernel) ⟨Nat.le_of_ble_eq_true rfl, Nat.le_of_ble_eq_true rfl⟩) hP hK (va_recv hK hP (ci := 3) (q0 := 0) rfl rfl) rfl rfl hl.1 (Nat.le_of_ble_eq_true rfl) dX3_isOpen_2 ⟨Nat.le_of_ble_eq_true rfl, Nat.le_of_ble_eq_true rfl⟩ ?_
  obtain ⟨k22_2, hk22_2, hf⟩ := jn_some hf
  have j22_2 : ∀ (v22_2_0 : Int32) (ls : Array Slot), k22_2 v22_2_0 = some o → lv_has ls 2 [] → W p l e (headSpec wsX3_isOpen rmX3_isOpen).room s m args below meth c s.heap [] 0 0 Q (F0 m 22 ls [.int v22_2_0]) := by
    intro v22_2_0 ls hf hl
    have hf := qa1 hk22_2 hf
    rw [hQ]
    exact zretN (v := v22_2_0) (v' := vp_nar .boolean v22_2_0) hx hb hr rfl (fun t ht hW => ⟨_, rfl, Option.some.inj hf, ht⟩) (fun _ h => nomatch h) dX3_isOpen_22 hlocks
  obtain ⟨k21_3, hk21_3, hf⟩ := jn_some hf
  have j21_3 : ∀ (ls : Array Slot), k21_3 = some o → lv_has ls 2 [] → W p l e (headSpec wsX3_isOpen rmX3_isOpen).room s m args below meth c s.heap [] 0 0 Q (F0 m 21 ls []) := by
    intro ls hf hl
    have hf := qa0 hk21_3 hf
    refine lv_iconst (v := 0) hx hb dX3_isOpen_21 (by decide) ?_
    exact j22_2 _ _ hf (lv_sub hl [] rfl)
  refine lv_if_eq (tgt := 21) hx hb dX3_isOpen_5 (by decide) (fun c_4 => ?_) (fun c_4 => ?_)
  · have hf := ite_t hf c_4
    exact j21_3 _ hf (lv_sub hl [] rfl)
  · have hf := ite_f hf c_4
    refine lv_aload_n hx hb dX3_isOpen_8 rfl (lv_at hl 0 rfl) ?_
    refine va_get (D := D) (ci := 3) (v := .ref (a0 2)) (C := RX3) (T := TX3) (N := 5) hx hb hts i3 hown hK hP 0 rfl rfl 1 (by decide) hk15 (fun _ h9 => h9) rfl dX3_isOpen_9 ?_
    refine lv_iload_n hx hb dX3_isOpen_12 rfl (lv_at hl 1 rfl) ?_
    obtain ⟨hi, hf⟩ := chk_some hf
    refine va_zald hx hb hK hP 2 1 rfl rfl (inb_in hi) dX3_isOpen_13 ?_
    refine lv_if_eq (tgt := 21) hx hb dX3_isOpen_14 (by decide) (fun c_5 => ?_) (fun c_5 => ?_)
    · have hf := ite_t hf c_5
      exact j21_3 _ hf (lv_sub hl [] rfl)
    · have hf := ite_f hf c_5
      refine lv_iconst (v := 1) hx hb dX3_isOpen_17 (by decide) ?_
      refine lv_goto (tgt := 22) hx hb dX3_isOpen_18 (by decide) ?_
      exact j22_2 _ _ hf (lv_sub hl [] rfl)
set_option maxRecDepth 20000 in
theorem ggX3_isToWrite_X3_isHandle : GoodIn wsX3_isToWrite wsX3_isHandle := goodIn_r _ [6, 7, 8, 9, 10, 11, 12] (by decide +kernel) (by decide +kernel)
set_option maxRecDepth 20000 in
theorem gX3_isToWrite_X3_isHandle : GoodIn wsX3_isToWrite (wsV RX3 29 RX3 yX3_isHandle wsX3_isHandle) := goodIn_app (goodIn_of _ (by decide +kernel)) ggX3_isToWrite_X3_isHandle
theorem dX3_isToWrite_0 : decode cX3_isToWrite 0 = .ok (.aload_n 0, 1) := by decide +kernel
theorem dX3_isToWrite_1 : decode cX3_isToWrite 1 = .ok (.iload_n 1, 1) := by decide +kernel
theorem dX3_isToWrite_2 : decode cX3_isToWrite 2 = .ok (.invokevirtual 29, 3) := by decide +kernel
theorem dX3_isToWrite_5 : decode cX3_isToWrite 5 = .ok (.ifCond .eq 16, 3) := by decide +kernel
theorem dX3_isToWrite_8 : decode cX3_isToWrite 8 = .ok (.aload_n 0, 1) := by decide +kernel
theorem dX3_isToWrite_9 : decode cX3_isToWrite 9 = .ok (.getfield 19, 3) := by decide +kernel
theorem dX3_isToWrite_12 : decode cX3_isToWrite 12 = .ok (.iload_n 1, 1) := by decide +kernel
theorem dX3_isToWrite_13 : decode cX3_isToWrite 13 = .ok (.baload, 1) := by decide +kernel
theorem dX3_isToWrite_14 : decode cX3_isToWrite 14 = .ok (.ifCond .eq 7, 3) := by decide +kernel
theorem dX3_isToWrite_17 : decode cX3_isToWrite 17 = .ok (.iconst 1, 1) := by decide +kernel
theorem dX3_isToWrite_18 : decode cX3_isToWrite 18 = .ok (.goto 4, 3) := by decide +kernel
theorem dX3_isToWrite_21 : decode cX3_isToWrite 21 = .ok (.iconst 0, 1) := by decide +kernel
theorem dX3_isToWrite_22 : decode cX3_isToWrite 22 = .ok (.ireturn, 1) := by decide +kernel
def f_X3_isToWrite (u0 : S1) (p1 : Int32) : Option (Int32) := bn (f_X3_isHandle u0 p1) (fun z_1 => jn (fun (v22_2_0 : Int32) => some (vp_nar .boolean v22_2_0)) (fun k22_2 => jn (k22_2 0) (fun k21_3 => if z_1 = 0 then k21_3 else chk (inb p1 30) (if (u0 2 (p1).toNatClampNeg) = 0 then k21_3 else k22_2 1))))
def rmX3_isToWrite : Room := { frames := 1, cells := 0, slots := 0, locals := 21 }
set_option maxHeartbeats 4000000 in
set_option maxRecDepth 100000 in
theorem c_X3_isToWrite (l : Launch) (D : va_G) (cI cZ cJ cT : ClassId) (a0 : Nat → Nat) (u0 : S1) (p1 : Int32) (o : Int32) (hf : f_X3_isToWrite u0 p1 = some o) : Met l yX3_isToWrite wsX3_isToWrite rmX3_isToWrite (va_Pc [.ref (a0 0), .int p1] (PR D cls (tys cI cZ cJ cT) ((wX3 cI cZ a0 u0)))) (QR o) 0 0 (fun _ => False) := by
  refine Met.ofW (cc := cX3_isToWrite) (maxL := 2) (ret := (some .boolean)) (by decide) rfl ?_
  intro p e s m args below meth c s₁ B hml hv
  obtain ⟨hav, hP, hK⟩ := hv
  have hx := B.exec
  have hb := B.bytes
  have hr := B.returns
  have hlocks := B.notSynchronized
  have hts := atoms_spec (ws := wsX3_isToWrite) B.pre
  have hown : s.vm.findClass RX3 = some m.cls := findClass_of_methodNamed B.named
  have i3 : ∀ w ∈ wsX30, w ∈ wsX3_isToWrite := fun w h => List.mem_cons_of_mem _ (List.mem_append_right _ h)
  have hk19 := hts (.fieldLink RX3 19 "Inodery$Handles" "writers" "[Z") (by decide +kernel)
  refine Wq (fun Q hQ => ?_)
  refine W_entry hav (Nat.le_of_ble_eq_true rfl) (fun ls hl => ?_)
  have hl : lv_has ls 2 [(0, .ref (a0 0)), (1, .int p1)] := hl
  unfold f_X3_isToWrite at hf
  refine lv_aload_n hx hb dX3_isToWrite_0 rfl (lv_at hl 0 rfl) ?_
  refine lv_iload_n hx hb dX3_isToWrite_1 rfl (lv_at hl 1 rfl) ?_
  obtain ⟨z_1, hz_1, hf⟩ := bn_some hf
  refine cRV (As := [.int p1]) (rest := []) ⟨hx, hb, hml, hown, hts⟩ (c_X3_isHandle l D cI cZ cJ cT a0 u0 p1 z_1 hz_1) (cwV 1 hts gX3_isToWrite_X3_isHandle rfl rfl rfl (by decide +kernel) ⟨Nat.le_of_ble_eq_true rfl, Nat.le_of_ble_eq_true rfl⟩) hP hK (va_recv hK hP (ci := 3) (q0 := 0) rfl rfl) rfl rfl hl.1 (Nat.le_of_ble_eq_true rfl) dX3_isToWrite_2 ⟨Nat.le_of_ble_eq_true rfl, Nat.le_of_ble_eq_true rfl⟩ ?_
  obtain ⟨k22_2, hk22_2, hf⟩ := jn_some hf
  have j22_2 : ∀ (v22_2_0 : Int32) (ls : Array Slot), k22_2 v22_2_0 = some o → lv_has ls 2 [] → W p l e (headSpec wsX3_isToWrite rmX3_isToWrite).room s m args below meth c s.heap [] 0 0 Q (F0 m 22 ls [.int v22_2_0]) := by
    intro v22_2_0 ls hf hl
    have hf := qa1 hk22_2 hf
    rw [hQ]
    exact zretN (v := v22_2_0) (v' := vp_nar .boolean v22_2_0) hx hb hr rfl (fun t ht hW => ⟨_, rfl, Option.some.inj hf, ht⟩) (fun _ h => nomatch h) dX3_isToWrite_22 hlocks
  obtain ⟨k21_3, hk21_3, hf⟩ := jn_some hf
  have j21_3 : ∀ (ls : Array Slot), k21_3 = some o → lv_has ls 2 [] → W p l e (headSpec wsX3_isToWrite rmX3_isToWrite).room s m args below meth c s.heap [] 0 0 Q (F0 m 21 ls []) := by
    intro ls hf hl
    have hf := qa0 hk21_3 hf
    refine lv_iconst (v := 0) hx hb dX3_isToWrite_21 (by decide) ?_
    exact j22_2 _ _ hf (lv_sub hl [] rfl)
  refine lv_if_eq (tgt := 21) hx hb dX3_isToWrite_5 (by decide) (fun c_4 => ?_) (fun c_4 => ?_)
  · have hf := ite_t hf c_4
    exact j21_3 _ hf (lv_sub hl [] rfl)
  · have hf := ite_f hf c_4
    refine lv_aload_n hx hb dX3_isToWrite_8 rfl (lv_at hl 0 rfl) ?_
    refine va_get (D := D) (ci := 3) (v := .ref (a0 3)) (C := RX3) (T := TX3) (N := 5) hx hb hts i3 hown hK hP 0 rfl rfl 2 (by decide) hk19 (fun _ h9 => h9) rfl dX3_isToWrite_9 ?_
    refine lv_iload_n hx hb dX3_isToWrite_12 rfl (lv_at hl 1 rfl) ?_
    obtain ⟨hi, hf⟩ := chk_some hf
    refine va_zald hx hb hK hP 3 1 rfl rfl (inb_in hi) dX3_isToWrite_13 ?_
    refine lv_if_eq (tgt := 21) hx hb dX3_isToWrite_14 (by decide) (fun c_5 => ?_) (fun c_5 => ?_)
    · have hf := ite_t hf c_5
      exact j21_3 _ hf (lv_sub hl [] rfl)
    · have hf := ite_f hf c_5
      refine lv_iconst (v := 1) hx hb dX3_isToWrite_17 (by decide) ?_
      refine lv_goto (tgt := 22) hx hb dX3_isToWrite_18 (by decide) ?_
      exact j22_2 _ _ hf (lv_sub hl [] rfl)
set_option maxRecDepth 20000 in
theorem ggX3_setLocks_X3_isHandle : GoodIn wsX3_setLocks wsX3_isHandle := goodIn_r _ [6, 7, 8, 9, 10, 11, 12] (by decide +kernel) (by decide +kernel)
set_option maxRecDepth 20000 in
theorem gX3_setLocks_X3_isHandle : GoodIn wsX3_setLocks (wsV RX3 29 RX3 yX3_isHandle wsX3_isHandle) := goodIn_app (goodIn_of _ (by decide +kernel)) ggX3_setLocks_X3_isHandle
theorem dX3_setLocks_0 : decode cX3_setLocks 0 = .ok (.aload_n 0, 1) := by decide +kernel
theorem dX3_setLocks_1 : decode cX3_setLocks 1 = .ok (.iload_n 1, 1) := by decide +kernel
theorem dX3_setLocks_2 : decode cX3_setLocks 2 = .ok (.invokevirtual 29, 3) := by decide +kernel
theorem dX3_setLocks_5 : decode cX3_setLocks 5 = .ok (.ifCond .eq 43, 3) := by decide +kernel
theorem dX3_setLocks_8 : decode cX3_setLocks 8 = .ok (.iload_n 2, 1) := by decide +kernel
theorem dX3_setLocks_9 : decode cX3_setLocks 9 = .ok (.ifCond .lt 39, 3) := by decide +kernel
theorem dX3_setLocks_12 : decode cX3_setLocks 12 = .ok (.iload_n 2, 1) := by decide +kernel
theorem dX3_setLocks_13 : decode cX3_setLocks 13 = .ok (.istore 5, 2) := by decide +kernel
theorem dX3_setLocks_15 : decode cX3_setLocks 15 = .ok (.iload 5, 2) := by decide +kernel
theorem dX3_setLocks_17 : decode cX3_setLocks 17 = .ok (.iload_n 3, 1) := by decide +kernel
theorem dX3_setLocks_18 : decode cX3_setLocks 18 = .ok (.if_icmp .gt 30, 3) := by decide +kernel
theorem dX3_setLocks_21 : decode cX3_setLocks 21 = .ok (.iload 5, 2) := by decide +kernel
theorem dX3_setLocks_23 : decode cX3_setLocks 23 = .ok (.bipush 16, 2) := by decide +kernel
theorem dX3_setLocks_25 : decode cX3_setLocks 25 = .ok (.if_icmp .ge 23, 3) := by decide +kernel
theorem dX3_setLocks_28 : decode cX3_setLocks 28 = .ok (.aload_n 0, 1) := by decide +kernel
theorem dX3_setLocks_29 : decode cX3_setLocks 29 = .ok (.getfield 22, 3) := by decide +kernel
theorem dX3_setLocks_32 : decode cX3_setLocks 32 = .ok (.iload_n 1, 1) := by decide +kernel
theorem dX3_setLocks_33 : decode cX3_setLocks 33 = .ok (.bipush 16, 2) := by decide +kernel
theorem dX3_setLocks_35 : decode cX3_setLocks 35 = .ok (.imul, 1) := by decide +kernel
theorem dX3_setLocks_36 : decode cX3_setLocks 36 = .ok (.iload 5, 2) := by decide +kernel
theorem dX3_setLocks_38 : decode cX3_setLocks 38 = .ok (.iadd, 1) := by decide +kernel
theorem dX3_setLocks_39 : decode cX3_setLocks 39 = .ok (.iload 4, 2) := by decide +kernel
theorem dX3_setLocks_41 : decode cX3_setLocks 41 = .ok (.iastore, 1) := by decide +kernel
theorem dX3_setLocks_42 : decode cX3_setLocks 42 = .ok (.iinc 5 1, 3) := by decide +kernel
theorem dX3_setLocks_45 : decode cX3_setLocks 45 = .ok (.goto (-30), 3) := by decide +kernel
theorem dX3_setLocks_48 : decode cX3_setLocks 48 = .ok (.return_, 1) := by decide +kernel
def f_X3_setLocks (u0 : S1) (p1 : Int32) (p2 : Int32) (p3 : Int32) (p4 : Int32) : Option (S1) := bn (f_X3_isHandle u0 p1) (fun z_1 => jn (fun (u48_2_0 : S1) => some (u48_2_0)) (fun k48_2 => if z_1 = 0 then k48_2 u0 else if p2 < 0 then k48_2 u0 else qj2 (fun (r15_5 : Int32 → S1 → Option (S1)) (y15_5_5 : Int32) (u15_5_0 : S1) => if p3 < y15_5_5 then k48_2 u15_5_0 else if 16 ≤ y15_5_5 then k48_2 u15_5_0 else chk (inb ((p1 * 16) + y15_5_5) 480) (bv (st u15_5_0 3 ((p1 * 16) + y15_5_5) p4) (fun u_8 => r15_5 (y15_5_5 + 1) u_8))) (fun k15_5 => k15_5 p2 u0)))
def rmX3_setLocks : Room := { frames := 1, cells := 0, slots := 0, locals := 21 }
set_option maxHeartbeats 4000000 in
set_option maxRecDepth 100000 in
theorem c_X3_setLocks (l : Launch) (D : va_G) (cI cZ cJ cT : ClassId) (a0 : Nat → Nat) (sz : Nat) (u0 : S1) (p1 : Int32) (p2 : Int32) (p3 : Int32) (p4 : Int32) (o : S1) (hf : f_X3_setLocks u0 p1 p2 p3 p4 = some o) : Met l yX3_setLocks wsX3_setLocks rmX3_setLocks (va_Pc [.ref (a0 0), .int p1, .int p2, .int p3, .int p4] (PW D cls (tys cI cZ cJ cT) ((wX3 cI cZ a0 u0)) sz)) (QWv D cls ((wX3 cI cZ a0 o)) (va_A ((wX3 cI cZ a0 u0)) sz)) 0 0 (va_A ((wX3 cI cZ a0 u0)) sz) := by
  refine Met.ofW (cc := cX3_setLocks) (maxL := 6) (ret := none) (by decide) rfl ?_
  intro p e s m args below meth c s₁ B hml hv
  obtain ⟨hav, hsz, hP, hK, hD0⟩ := hv
  have hx := B.exec
  have hb := B.bytes
  have hr := B.returns
  have hlocks := B.notSynchronized
  have hts := atoms_spec (ws := wsX3_setLocks) B.pre
  have hown : s.vm.findClass RX3 = some m.cls := findClass_of_methodNamed B.named
  have i3 : ∀ w ∈ wsX30, w ∈ wsX3_setLocks := fun w h => List.mem_cons_of_mem _ (List.mem_append_right _ h)
  have hk22 := hts (.fieldLink RX3 22 "Inodery$Handles" "locks" "[I") (by decide +kernel)
  subst hsz
  have hD := hD0.self (sz := s.heap.size)
  generalize hAe : va_A ((wX3 cI cZ a0 u0)) s.heap.size = A at hD ⊢
  have hA : ∀ q : Nat, s.heap.size ≤ q → A q := fun q h => by rw [← hAe]; exact Or.inr h
  have hS : va_S A s.heap s.heap [] := va_S.rf
  have hDD : ∀ w0 : S1, va_D A ((wX3 cI cZ a0 w0)) := fun _ => D_same (w := (wX3 cI cZ a0 u0)) rfl hD
  refine Wq (fun Q hQ => ?_)
  refine W_entry hav (Nat.le_of_ble_eq_true rfl) (fun ls hl => ?_)
  have hl : lv_has ls 6 [(0, .ref (a0 0)), (1, .int p1), (2, .int p2), (3, .int p3), (4, .int p4)] := hl
  unfold f_X3_setLocks at hf
  refine W_heap hP hS (fun H locs hP hS => ?_)
  refine lv_aload_n hx hb dX3_setLocks_0 rfl (lv_at hl 0 rfl) ?_
  refine lv_iload_n hx hb dX3_setLocks_1 rfl (lv_at hl 1 rfl) ?_
  obtain ⟨z_1, hz_1, hf⟩ := bn_some hf
  refine cRV (As := [.int p1]) (rest := []) ⟨hx, hb, hml, hown, hts⟩ (c_X3_isHandle l D cI cZ cJ cT a0 u0 p1 z_1 hz_1) (cwV 1 hts gX3_setLocks_X3_isHandle rfl rfl rfl (by decide +kernel) ⟨Nat.le_of_ble_eq_true rfl, Nat.le_of_ble_eq_true rfl⟩) hP hK (va_recv hK hP (ci := 3) (q0 := 0) rfl rfl) rfl rfl hl.1 (Nat.le_of_ble_eq_true rfl) dX3_setLocks_2 ⟨Nat.le_of_ble_eq_true rfl, Nat.le_of_ble_eq_true rfl⟩ ?_
  obtain ⟨k48_2, hk48_2, hf⟩ := jn_some hf
  have j48_2 : ∀ (u48_2_0 : S1) (H : Heap) (locs : List Loc) (ls : Array Slot), k48_2 u48_2_0 = some o → va_P D cls (wX3 cI cZ a0 u48_2_0) H → va_S A s.heap H locs → lv_has ls 6 [] → W p l e (headSpec wsX3_setLocks rmX3_setLocks).room s m args below meth c H locs 0 0 Q (F0 m 48 ls []) := by
    intro u48_2_0 H locs ls hf hP hS hl
    have hf := qa1 hk48_2 hf
    have eo := Option.some.inj hf
    have hP : va_P D cls (wX3 cI cZ a0 o) H := by rw [← eo]; exact hP
    rw [hQ]
    exact W.vret hx hb hr (fun t ht hW => ⟨⟨(), rfl, trivial, P_at ht hP⟩, hS.F ht⟩) hS.2.2 dX3_setLocks_48 hlocks
  refine lv_if_eq (tgt := 48) hx hb dX3_setLocks_5 (by decide) (fun c_3 => ?_) (fun c_3 => ?_)
  · have hf := ite_t hf c_3
    exact j48_2 _ _ _ _ hf hP hS (lv_sub hl [] rfl)
  · have hf := ite_f hf c_3
    refine lv_iload_n hx hb dX3_setLocks_8 rfl (lv_at hl 2 rfl) ?_
    refine lv_if_lt (tgt := 48) hx hb dX3_setLocks_9 (by decide) (fun c_4 => ?_) (fun c_4 => ?_)
    · have hf := ite_t hf c_4
      exact j48_2 _ _ _ _ hf hP hS (lv_sub hl [] rfl)
    · have hf := ite_f hf c_4
      refine lv_iload_n hx hb dX3_setLocks_12 rfl (lv_at hl 2 rfl) ?_
      refine lv_istore (lv' := [(5, .int p2), (0, .ref (a0 0)), (1, .int p1), (2, .int p2), (3, .int p3), (4, .int p4)]) hx hb dX3_setLocks_13 hl (by decide) rfl (fun ls hl => ?_)
      obtain ⟨G15_5, hG15_5, hf⟩ := qj2_some hf
      have j15_5 : ∀ (n : Nat) (y15_5_5 : Int32) (u15_5_0 : S1) (H : Heap) (locs : List Loc) (ls : Array Slot), ql2 G15_5 n y15_5_5 u15_5_0 = some o → va_P D cls (wX3 cI cZ a0 u15_5_0) H → va_S A s.heap H locs → lv_has ls 6 [(0, .ref (a0 0)), (1, .int p1), (3, .int p3), (4, .int p4), (5, .int y15_5_5)] → W p l e (headSpec wsX3_setLocks rmX3_setLocks).room s m args below meth c H locs 0 0 Q (F0 m 15 ls []) := by
        intro n
        induction n with
        | zero => intro y15_5_5 u15_5_0 H locs ls hf hP hS hl; exact (ql2_z hf).elim
        | succ n ih15_5 =>
          intro y15_5_5 u15_5_0 H locs ls hf hP hS hl
          have hf := ql2_s hG15_5 hf
          obtain ⟨r15_5, hr15_5⟩ : ∃ z, z = ql2 G15_5 n := ⟨_, rfl⟩
          rw [← hr15_5] at hf ih15_5
          refine lv_iload hx hb dX3_setLocks_15 (lv_at hl 4 rfl) ?_
          refine lv_iload_n hx hb dX3_setLocks_17 rfl (lv_at hl 2 rfl) ?_
          refine lv_icmp_gt (tgt := 48) hx hb dX3_setLocks_18 (by decide) (fun c_6 => ?_) (fun c_6 => ?_)
          · have hf := ite_t hf c_6
            exact j48_2 _ _ _ _ hf hP hS (lv_sub hl [] rfl)
          · have hf := ite_f hf c_6
            refine lv_iload hx hb dX3_setLocks_21 (lv_at hl 4 rfl) ?_
            refine lv_bipush (v := 16) hx hb dX3_setLocks_23 (by decide) ?_
            refine lv_icmp_ge (tgt := 48) hx hb dX3_setLocks_25 (by decide) (fun c_7 => ?_) (fun c_7 => ?_)
            · have hf := ite_t hf c_7
              exact j48_2 _ _ _ _ hf hP hS (lv_sub hl [] rfl)
            · have hf := ite_f hf c_7
              refine lv_aload_n hx hb dX3_setLocks_28 rfl (lv_at hl 0 rfl) ?_
              refine va_get (D := D) (ci := 3) (v := .ref (a0 4)) (C := RX3) (T := TX3) (N := 5) hx hb hts i3 hown hK hP 0 rfl rfl 3 (by decide) hk22 (fun _ h9 => h9) rfl dX3_setLocks_29 ?_
              refine lv_iload_n hx hb dX3_setLocks_32 rfl (lv_at hl 1 rfl) ?_
              refine lv_bipush (v := 16) hx hb dX3_setLocks_33 (by decide) ?_
              refine lv_imul hx hb dX3_setLocks_35 ?_
              refine lv_iload hx hb dX3_setLocks_36 (lv_at hl 4 rfl) ?_
              refine lv_iadd hx hb dX3_setLocks_38 ?_
              refine lv_iload hx hb dX3_setLocks_39 (lv_at hl 3 rfl) ?_
              obtain ⟨hi, hf⟩ := chk_some hf
              obtain ⟨u_8, hu_8, hf⟩ := bv_some hf
              refine va_iast hx hb hK hP (hDD u15_5_0) hS 4 0 rfl rfl (inb_in hi) dX3_setLocks_41 (fun H locs hP _ hS => ?_)
              have hP : va_P D cls (wX3 cI cZ a0 u_8) H := by rw [hu_8]; exact hP
              refine lv_iinc (v := y15_5_5 + 1) (lv' := [(5, .int (y15_5_5 + 1)), (0, .ref (a0 0)), (1, .int p1), (3, .int p3), (4, .int p4)]) hx hb dX3_setLocks_42 hl (k := 4) rfl rfl (by decide) rfl (fun ls hl => ?_)
              refine lv_goto (tgt := 15) hx hb dX3_setLocks_45 (by decide) ?_
              exact ih15_5 _ _ _ _ _ hf hP hS (lv_sub hl [1, 2, 3, 4, 0] rfl)
      exact j15_5 4096 _ _ _ _ _ hf hP hS (lv_sub hl [1, 2, 4, 5, 0] rfl)
set_option maxRecDepth 20000 in
theorem ggX3_shut_X3_isHandle : GoodIn wsX3_shut wsX3_isHandle := goodIn_r _ [6, 7, 13, 14, 15, 16, 17] (by decide +kernel) (by decide +kernel)
set_option maxRecDepth 20000 in
theorem gX3_shut_X3_isHandle : GoodIn wsX3_shut (wsV RX3 29 RX3 yX3_isHandle wsX3_isHandle) := goodIn_app (goodIn_of _ (by decide +kernel)) ggX3_shut_X3_isHandle
set_option maxRecDepth 20000 in
theorem ggX3_shut_X3_setLocks : GoodIn wsX3_shut wsX3_setLocks := goodIn_r _ [11, 12, 2, 3, 4, 5, 6, 7, 13, 14, 15, 16, 17] (by decide +kernel) (by decide +kernel)
set_option maxRecDepth 20000 in
theorem gX3_shut_X3_setLocks : GoodIn wsX3_shut (wsV RX3 33 RX3 yX3_setLocks wsX3_setLocks) := goodIn_app (goodIn_of _ (by decide +kernel)) ggX3_shut_X3_setLocks
theorem dX3_shut_0 : decode cX3_shut 0 = .ok (.aload_n 0, 1) := by decide +kernel
theorem dX3_shut_1 : decode cX3_shut 1 = .ok (.iload_n 1, 1) := by decide +kernel
theorem dX3_shut_2 : decode cX3_shut 2 = .ok (.invokevirtual 29, 3) := by decide +kernel
theorem dX3_shut_5 : decode cX3_shut 5 = .ok (.ifCond .eq 19, 3) := by decide +kernel
theorem dX3_shut_8 : decode cX3_shut 8 = .ok (.aload_n 0, 1) := by decide +kernel
theorem dX3_shut_9 : decode cX3_shut 9 = .ok (.getfield 15, 3) := by decide +kernel
theorem dX3_shut_12 : decode cX3_shut 12 = .ok (.iload_n 1, 1) := by decide +kernel
theorem dX3_shut_13 : decode cX3_shut 13 = .ok (.iconst 0, 1) := by decide +kernel
theorem dX3_shut_14 : decode cX3_shut 14 = .ok (.bastore, 1) := by decide +kernel
theorem dX3_shut_15 : decode cX3_shut 15 = .ok (.aload_n 0, 1) := by decide +kernel
theorem dX3_shut_16 : decode cX3_shut 16 = .ok (.iload_n 1, 1) := by decide +kernel
theorem dX3_shut_17 : decode cX3_shut 17 = .ok (.iconst 0, 1) := by decide +kernel
theorem dX3_shut_18 : decode cX3_shut 18 = .ok (.bipush 15, 2) := by decide +kernel
theorem dX3_shut_20 : decode cX3_shut 20 = .ok (.iconst 0, 1) := by decide +kernel
theorem dX3_shut_21 : decode cX3_shut 21 = .ok (.invokevirtual 33, 3) := by decide +kernel
theorem dX3_shut_24 : decode cX3_shut 24 = .ok (.return_, 1) := by decide +kernel
def f_X3_shut (u0 : S1) (p1 : Int32) : Option (S1) := bn (f_X3_isHandle u0 p1) (fun z_1 => jn (fun (u24_2_0 : S1) => some (u24_2_0)) (fun k24_2 => if z_1 = 0 then k24_2 u0 else chk (inb p1 30) (bv (stz u0 1 p1 0) (fun u_4 => bn (f_X3_setLocks u_4 p1 0 15 0) (fun z_5 => k24_2 z_5)))))
def rmX3_shut : Room := { frames := 2, cells := 0, slots := 0, locals := 46 }
set_option maxHeartbeats 4000000 in
set_option maxRecDepth 100000 in
theorem c_X3_shut (l : Launch) (D : va_G) (cI cZ cJ cT : ClassId) (a0 : Nat → Nat) (sz : Nat) (u0 : S1) (p1 : Int32) (o : S1) (hf : f_X3_shut u0 p1 = some o) : Met l yX3_shut wsX3_shut rmX3_shut (va_Pc [.ref (a0 0), .int p1] (PW D cls (tys cI cZ cJ cT) ((wX3 cI cZ a0 u0)) sz)) (QWv D cls ((wX3 cI cZ a0 o)) (va_A ((wX3 cI cZ a0 u0)) sz)) 0 0 (va_A ((wX3 cI cZ a0 u0)) sz) := by
  refine Met.ofW (cc := cX3_shut) (maxL := 2) (ret := none) (by decide) rfl ?_
  intro p e s m args below meth c s₁ B hml hv
  obtain ⟨hav, hsz, hP, hK, hD0⟩ := hv
  have hx := B.exec
  have hb := B.bytes
  have hr := B.returns
  have hlocks := B.notSynchronized
  have hts := atoms_spec (ws := wsX3_shut) B.pre
  have hown : s.vm.findClass RX3 = some m.cls := findClass_of_methodNamed B.named
  have i3 : ∀ w ∈ wsX30, w ∈ wsX3_shut := fun w h => List.mem_cons_of_mem _ (List.mem_append_right _ h)
  have hk15 := hts (.fieldLink RX3 15 "Inodery$Handles" "opens" "[Z") (by decide +kernel)
  subst hsz
  have hD := hD0.self (sz := s.heap.size)
  generalize hAe : va_A ((wX3 cI cZ a0 u0)) s.heap.size = A at hD ⊢
  have hA : ∀ q : Nat, s.heap.size ≤ q → A q := fun q h => by rw [← hAe]; exact Or.inr h
  have hS : va_S A s.heap s.heap [] := va_S.rf
  have hDD : ∀ w0 : S1, va_D A ((wX3 cI cZ a0 w0)) := fun _ => D_same (w := (wX3 cI cZ a0 u0)) rfl hD
  refine Wq (fun Q hQ => ?_)
  refine W_entry hav (Nat.le_of_ble_eq_true rfl) (fun ls hl => ?_)
  have hl : lv_has ls 2 [(0, .ref (a0 0)), (1, .int p1)] := hl
  unfold f_X3_shut at hf
  refine W_heap hP hS (fun H locs hP hS => ?_)
  refine lv_aload_n hx hb dX3_shut_0 rfl (lv_at hl 0 rfl) ?_
  refine lv_iload_n hx hb dX3_shut_1 rfl (lv_at hl 1 rfl) ?_
  obtain ⟨z_1, hz_1, hf⟩ := bn_some hf
  refine cRV (As := [.int p1]) (rest := []) ⟨hx, hb, hml, hown, hts⟩ (c_X3_isHandle l D cI cZ cJ cT a0 u0 p1 z_1 hz_1) (cwV 1 hts gX3_shut_X3_isHandle rfl rfl rfl (by decide +kernel) ⟨Nat.le_of_ble_eq_true rfl, Nat.le_of_ble_eq_true rfl⟩) hP hK (va_recv hK hP (ci := 3) (q0 := 0) rfl rfl) rfl rfl hl.1 (Nat.le_of_ble_eq_true rfl) dX3_shut_2 ⟨Nat.le_of_ble_eq_true rfl, Nat.le_of_ble_eq_true rfl⟩ ?_
  obtain ⟨k24_2, hk24_2, hf⟩ := jn_some hf
  have j24_2 : ∀ (u24_2_0 : S1) (H : Heap) (locs : List Loc) (ls : Array Slot), k24_2 u24_2_0 = some o → va_P D cls (wX3 cI cZ a0 u24_2_0) H → va_S A s.heap H locs → lv_has ls 2 [] → W p l e (headSpec wsX3_shut rmX3_shut).room s m args below meth c H locs 0 0 Q (F0 m 24 ls []) := by
    intro u24_2_0 H locs ls hf hP hS hl
    have hf := qa1 hk24_2 hf
    have eo := Option.some.inj hf
    have hP : va_P D cls (wX3 cI cZ a0 o) H := by rw [← eo]; exact hP
    rw [hQ]
    exact W.vret hx hb hr (fun t ht hW => ⟨⟨(), rfl, trivial, P_at ht hP⟩, hS.F ht⟩) hS.2.2 dX3_shut_24 hlocks
  refine lv_if_eq (tgt := 24) hx hb dX3_shut_5 (by decide) (fun c_3 => ?_) (fun c_3 => ?_)
  · have hf := ite_t hf c_3
    exact j24_2 _ _ _ _ hf hP hS (lv_sub hl [] rfl)
  · have hf := ite_f hf c_3
    refine lv_aload_n hx hb dX3_shut_8 rfl (lv_at hl 0 rfl) ?_
    refine va_get (D := D) (ci := 3) (v := .ref (a0 2)) (C := RX3) (T := TX3) (N := 5) hx hb hts i3 hown hK hP 0 rfl rfl 1 (by decide) hk15 (fun _ h9 => h9) rfl dX3_shut_9 ?_
    refine lv_iload_n hx hb dX3_shut_12 rfl (lv_at hl 1 rfl) ?_
    refine lv_iconst (v := 0) hx hb dX3_shut_13 (by decide) ?_
    obtain ⟨hi, hf⟩ := chk_some hf
    obtain ⟨u_4, hu_4, hf⟩ := bv_some hf
    refine va_zast hx hb hK hP (hDD u0) hS 2 1 rfl rfl (inb_in hi) dX3_shut_14 (fun H locs hP _ hS => ?_)
    have hP : va_P D cls (wX3 cI cZ a0 u_4) H := by rw [hu_4]; exact hP
    refine lv_aload_n hx hb dX3_shut_15 rfl (lv_at hl 0 rfl) ?_
    refine lv_iload_n hx hb dX3_shut_16 rfl (lv_at hl 1 rfl) ?_
    refine lv_iconst (v := 0) hx hb dX3_shut_17 (by decide) ?_
    refine lv_bipush (v := 15) hx hb dX3_shut_18 (by decide) ?_
    refine lv_iconst (v := 0) hx hb dX3_shut_20 (by decide) ?_
    obtain ⟨z_5, hz_5, hf⟩ := bn_some hf
    refine cWVv (As := [.int p1, .int 0, .int 15, .int 0]) (rest := []) ⟨hx, hb, hml, hown, hts⟩ (c_X3_setLocks l D cI cZ cJ cT a0 H.size u_4 p1 0 15 0 z_5 hz_5) (cwV 4 hts gX3_shut_X3_setLocks rfl rfl rfl (by decide +kernel) ⟨Nat.le_of_ble_eq_true rfl, Nat.le_of_ble_eq_true rfl⟩) hP hK (hDD u_4) hS (own_free (hDD u_4) hS hA) (va_recv hK hP (ci := 3) (q0 := 0) rfl rfl) rfl rfl hl.1 (Nat.le_of_ble_eq_true rfl) dX3_shut_21 ⟨Nat.le_of_ble_eq_true rfl, Nat.le_of_ble_eq_true rfl⟩ (fun H1 locs hP1 hk1 hS => ?_)
    have hP : va_P D cls (wX3 cI cZ a0 z_5) H1 := hP1
    clear hP1 hk1
    generalize H1 = H at hP hS ⊢
    exact j24_2 _ _ _ _ hf hP hS (lv_sub hl [] rfl)
set_option maxRecDepth 20000 in
theorem ggX3_shutAll_X3_shut : GoodIn wsX3_shutAll wsX3_shut := goodIn_r _ [5, 6, 7, 8, 9, 4, 10, 11, 12, 13, 14, 15, 16, 17, 18, 19, 20, 21] (by decide +kernel) (by decide +kernel)
set_option maxRecDepth 20000 in
theorem gX3_shutAll_X3_shut : GoodIn wsX3_shutAll (wsV RX3 37 RX3 yX3_shut wsX3_shut) := goodIn_app (goodIn_of _ (by decide +kernel)) ggX3_shutAll_X3_shut
theorem dX3_shutAll_0 : decode cX3_shutAll 0 = .ok (.iconst 0, 1) := by decide +kernel
theorem dX3_shutAll_1 : decode cX3_shutAll 1 = .ok (.istore_n 1, 1) := by decide +kernel
theorem dX3_shutAll_2 : decode cX3_shutAll 2 = .ok (.iload_n 1, 1) := by decide +kernel
theorem dX3_shutAll_3 : decode cX3_shutAll 3 = .ok (.bipush 30, 2) := by decide +kernel
theorem dX3_shutAll_5 : decode cX3_shutAll 5 = .ok (.if_icmp .ge 14, 3) := by decide +kernel
theorem dX3_shutAll_8 : decode cX3_shutAll 8 = .ok (.aload_n 0, 1) := by decide +kernel
theorem dX3_shutAll_9 : decode cX3_shutAll 9 = .ok (.iload_n 1, 1) := by decide +kernel
theorem dX3_shutAll_10 : decode cX3_shutAll 10 = .ok (.invokevirtual 37, 3) := by decide +kernel
theorem dX3_shutAll_13 : decode cX3_shutAll 13 = .ok (.iinc 1 1, 3) := by decide +kernel
theorem dX3_shutAll_16 : decode cX3_shutAll 16 = .ok (.goto (-14), 3) := by decide +kernel
theorem dX3_shutAll_19 : decode cX3_shutAll 19 = .ok (.return_, 1) := by decide +kernel
def f_X3_shutAll (u0 : S1) : Option (S1) := qj2 (fun (r2_1 : Int32 → S1 → Option (S1)) (y2_1_1 : Int32) (u2_1_0 : S1) => if 30 ≤ y2_1_1 then some (u2_1_0) else bn (f_X3_shut u2_1_0 y2_1_1) (fun z_3 => r2_1 (y2_1_1 + 1) z_3)) (fun k2_1 => k2_1 0 u0)
def rmX3_shutAll : Room := { frames := 3, cells := 0, slots := 0, locals := 67 }
set_option maxHeartbeats 4000000 in
set_option maxRecDepth 100000 in
theorem c_X3_shutAll (l : Launch) (D : va_G) (cI cZ cJ cT : ClassId) (a0 : Nat → Nat) (sz : Nat) (u0 : S1) (o : S1) (hf : f_X3_shutAll u0 = some o) : Met l yX3_shutAll wsX3_shutAll rmX3_shutAll (va_Pc [.ref (a0 0)] (PW D cls (tys cI cZ cJ cT) ((wX3 cI cZ a0 u0)) sz)) (QWv D cls ((wX3 cI cZ a0 o)) (va_A ((wX3 cI cZ a0 u0)) sz)) 0 0 (va_A ((wX3 cI cZ a0 u0)) sz) := by
  refine Met.ofW (cc := cX3_shutAll) (maxL := 2) (ret := none) (by decide) rfl ?_
  intro p e s m args below meth c s₁ B hml hv
  obtain ⟨hav, hsz, hP, hK, hD0⟩ := hv
  have hx := B.exec
  have hb := B.bytes
  have hr := B.returns
  have hlocks := B.notSynchronized
  have hts := atoms_spec (ws := wsX3_shutAll) B.pre
  have hown : s.vm.findClass RX3 = some m.cls := findClass_of_methodNamed B.named
  subst hsz
  have hD := hD0.self (sz := s.heap.size)
  generalize hAe : va_A ((wX3 cI cZ a0 u0)) s.heap.size = A at hD ⊢
  have hA : ∀ q : Nat, s.heap.size ≤ q → A q := fun q h => by rw [← hAe]; exact Or.inr h
  have hS : va_S A s.heap s.heap [] := va_S.rf
  have hDD : ∀ w0 : S1, va_D A ((wX3 cI cZ a0 w0)) := fun _ => D_same (w := (wX3 cI cZ a0 u0)) rfl hD
  refine Wq (fun Q hQ => ?_)
  refine W_entry hav (Nat.le_of_ble_eq_true rfl) (fun ls hl => ?_)
  have hl : lv_has ls 2 [(0, .ref (a0 0))] := hl
  unfold f_X3_shutAll at hf
  refine W_heap hP hS (fun H locs hP hS => ?_)
  refine lv_iconst (v := 0) hx hb dX3_shutAll_0 (by decide) ?_
  refine lv_istore_n (lv' := [(1, .int 0), (0, .ref (a0 0))]) hx hb dX3_shutAll_1 rfl hl (by decide) rfl (fun ls hl => ?_)
  obtain ⟨G2_1, hG2_1, hf⟩ := qj2_some hf
  have j2_1 : ∀ (n : Nat) (y2_1_1 : Int32) (u2_1_0 : S1) (H : Heap) (locs : List Loc) (ls : Array Slot), ql2 G2_1 n y2_1_1 u2_1_0 = some o → va_P D cls (wX3 cI cZ a0 u2_1_0) H → va_S A s.heap H locs → lv_has ls 2 [(0, .ref (a0 0)), (1, .int y2_1_1)] → W p l e (headSpec wsX3_shutAll rmX3_shutAll).room s m args below meth c H locs 0 0 Q (F0 m 2 ls []) := by
    intro n
    induction n with
    | zero => intro y2_1_1 u2_1_0 H locs ls hf hP hS hl; exact (ql2_z hf).elim
    | succ n ih2_1 =>
      intro y2_1_1 u2_1_0 H locs ls hf hP hS hl
      have hf := ql2_s hG2_1 hf
      obtain ⟨r2_1, hr2_1⟩ : ∃ z, z = ql2 G2_1 n := ⟨_, rfl⟩
      rw [← hr2_1] at hf ih2_1
      refine lv_iload_n hx hb dX3_shutAll_2 rfl (lv_at hl 1 rfl) ?_
      refine lv_bipush (v := 30) hx hb dX3_shutAll_3 (by decide) ?_
      refine lv_icmp_ge (tgt := 19) hx hb dX3_shutAll_5 (by decide) (fun c_2 => ?_) (fun c_2 => ?_)
      · have hf := ite_t hf c_2
        have eo := Option.some.inj hf
        have hP : va_P D cls (wX3 cI cZ a0 o) H := by rw [← eo]; exact hP
        rw [hQ]
        exact W.vret hx hb hr (fun t ht hW => ⟨⟨(), rfl, trivial, P_at ht hP⟩, hS.F ht⟩) hS.2.2 dX3_shutAll_19 hlocks
      · have hf := ite_f hf c_2
        refine lv_aload_n hx hb dX3_shutAll_8 rfl (lv_at hl 0 rfl) ?_
        refine lv_iload_n hx hb dX3_shutAll_9 rfl (lv_at hl 1 rfl) ?_
        obtain ⟨z_3, hz_3, hf⟩ := bn_some hf
        refine cWVv (As := [.int y2_1_1]) (rest := []) ⟨hx, hb, hml, hown, hts⟩ (c_X3_shut l D cI cZ cJ cT a0 H.size u2_1_0 y2_1_1 z_3 hz_3) (cwV 1 hts gX3_shutAll_X3_shut rfl rfl rfl (by decide +kernel) ⟨Nat.le_of_ble_eq_true rfl, Nat.le_of_ble_eq_true rfl⟩) hP hK (hDD u2_1_0) hS (own_free (hDD u2_1_0) hS hA) (va_recv hK hP (ci := 3) (q0 := 0) rfl rfl) rfl rfl hl.1 (Nat.le_of_ble_eq_true rfl) dX3_shutAll_10 ⟨Nat.le_of_ble_eq_true rfl, Nat.le_of_ble_eq_true rfl⟩ (fun H1 locs hP1 hk1 hS => ?_)
        have hP : va_P D cls (wX3 cI cZ a0 z_3) H1 := hP1
        clear hP1 hk1
        generalize H1 = H at hP hS ⊢
        refine lv_iinc (v := y2_1_1 + 1) (lv' := [(1, .int (y2_1_1 + 1)), (0, .ref (a0 0))]) hx hb dX3_shutAll_13 hl (k := 1) rfl rfl (by decide) rfl (fun ls hl => ?_)
        refine lv_goto (tgt := 2) hx hb dX3_shutAll_16 (by decide) ?_
        exact ih2_1 _ _ _ _ _ hf hP hS (lv_sub hl [1, 0] rfl)
  exact j2_1 4096 _ _ _ _ _ hf hP hS (lv_sub hl [1, 0] rfl)
theorem dX3_isAnyOpen_0 : decode cX3_isAnyOpen 0 = .ok (.iconst 0, 1) := by decide +kernel
theorem dX3_isAnyOpen_1 : decode cX3_isAnyOpen 1 = .ok (.istore_n 1, 1) := by decide +kernel
theorem dX3_isAnyOpen_2 : decode cX3_isAnyOpen 2 = .ok (.iload_n 1, 1) := by decide +kernel
theorem dX3_isAnyOpen_3 : decode cX3_isAnyOpen 3 = .ok (.bipush 30, 2) := by decide +kernel
theorem dX3_isAnyOpen_5 : decode cX3_isAnyOpen 5 = .ok (.if_icmp .ge 20, 3) := by decide +kernel
theorem dX3_isAnyOpen_8 : decode cX3_isAnyOpen 8 = .ok (.aload_n 0, 1) := by decide +kernel
theorem dX3_isAnyOpen_9 : decode cX3_isAnyOpen 9 = .ok (.getfield 15, 3) := by decide +kernel
theorem dX3_isAnyOpen_12 : decode cX3_isAnyOpen 12 = .ok (.iload_n 1, 1) := by decide +kernel
theorem dX3_isAnyOpen_13 : decode cX3_isAnyOpen 13 = .ok (.baload, 1) := by decide +kernel
theorem dX3_isAnyOpen_14 : decode cX3_isAnyOpen 14 = .ok (.ifCond .eq 5, 3) := by decide +kernel
theorem dX3_isAnyOpen_17 : decode cX3_isAnyOpen 17 = .ok (.iconst 1, 1) := by decide +kernel
theorem dX3_isAnyOpen_18 : decode cX3_isAnyOpen 18 = .ok (.ireturn, 1) := by decide +kernel
theorem dX3_isAnyOpen_19 : decode cX3_isAnyOpen 19 = .ok (.iinc 1 1, 3) := by decide +kernel
theorem dX3_isAnyOpen_22 : decode cX3_isAnyOpen 22 = .ok (.goto (-20), 3) := by decide +kernel
theorem dX3_isAnyOpen_25 : decode cX3_isAnyOpen 25 = .ok (.iconst 0, 1) := by decide +kernel
theorem dX3_isAnyOpen_26 : decode cX3_isAnyOpen 26 = .ok (.ireturn, 1) := by decide +kernel
def f_X3_isAnyOpen (u0 : S1) : Option (Int32) := qj1 (fun (r2_1 : Int32 → Option (Int32)) (y2_1_1 : Int32) => if 30 ≤ y2_1_1 then some 0 else chk (inb y2_1_1 30) (if (u0 1 (y2_1_1).toNatClampNeg) = 0 then r2_1 (y2_1_1 + 1) else some 1)) (fun k2_1 => k2_1 0)
def rmX3_isAnyOpen : Room := { frames := 0, cells := 0, slots := 0, locals := 0 }
set_option maxHeartbeats 4000000 in
set_option maxRecDepth 100000 in
theorem c_X3_isAnyOpen (l : Launch) (D : va_G) (cI cZ cJ cT : ClassId) (a0 : Nat → Nat) (u0 : S1) (o : Int32) (hf : f_X3_isAnyOpen u0 = some o) : Met l yX3_isAnyOpen wsX3_isAnyOpen rmX3_isAnyOpen (va_Pc [.ref (a0 0)] (PR D cls (tys cI cZ cJ cT) ((wX3 cI cZ a0 u0)))) (QR o) 0 0 (fun _ => False) := by
  refine Met.ofW (cc := cX3_isAnyOpen) (maxL := 2) (ret := (some .boolean)) (by decide) rfl ?_
  intro p e s m args below meth c s₁ B hml hv
  obtain ⟨hav, hP, hK⟩ := hv
  have hx := B.exec
  have hb := B.bytes
  have hr := B.returns
  have hlocks := B.notSynchronized
  have hts := atoms_spec (ws := wsX3_isAnyOpen) B.pre
  have hown : s.vm.findClass RX3 = some m.cls := findClass_of_methodNamed B.named
  have i3 : ∀ w ∈ wsX30, w ∈ wsX3_isAnyOpen := fun w h => List.mem_cons_of_mem _ (List.mem_append_right _ h)
  have hk15 := hts (.fieldLink RX3 15 "Inodery$Handles" "opens" "[Z") (by decide +kernel)
  refine Wq (fun Q hQ => ?_)
  refine W_entry hav (Nat.le_of_ble_eq_true rfl) (fun ls hl => ?_)
  have hl : lv_has ls 2 [(0, .ref (a0 0))] := hl
  unfold f_X3_isAnyOpen at hf
  refine lv_iconst (v := 0) hx hb dX3_isAnyOpen_0 (by decide) ?_
  refine lv_istore_n (lv' := [(1, .int 0), (0, .ref (a0 0))]) hx hb dX3_isAnyOpen_1 rfl hl (by decide) rfl (fun ls hl => ?_)
  obtain ⟨G2_1, hG2_1, hf⟩ := qj1_some hf
  have j2_1 : ∀ (n : Nat) (y2_1_1 : Int32) (ls : Array Slot), ql1 G2_1 n y2_1_1 = some o → lv_has ls 2 [(0, .ref (a0 0)), (1, .int y2_1_1)] → W p l e (headSpec wsX3_isAnyOpen rmX3_isAnyOpen).room s m args below meth c s.heap [] 0 0 Q (F0 m 2 ls []) := by
    intro n
    induction n with
    | zero => intro y2_1_1 ls hf hl; exact (ql1_z hf).elim
    | succ n ih2_1 =>
      intro y2_1_1 ls hf hl
      have hf := ql1_s hG2_1 hf
      obtain ⟨r2_1, hr2_1⟩ : ∃ z, z = ql1 G2_1 n := ⟨_, rfl⟩
      rw [← hr2_1] at hf ih2_1
      refine lv_iload_n hx hb dX3_isAnyOpen_2 rfl (lv_at hl 1 rfl) ?_
      refine lv_bipush (v := 30) hx hb dX3_isAnyOpen_3 (by decide) ?_
      refine lv_icmp_ge (tgt := 25) hx hb dX3_isAnyOpen_5 (by decide) (fun c_2 => ?_) (fun c_2 => ?_)
      · have hf := ite_t hf c_2
        refine lv_iconst (v := 0) hx hb dX3_isAnyOpen_25 (by decide) ?_
        rw [hQ]
        exact zretN (v := 0) (v' := 0) hx hb hr rfl (fun t ht hW => ⟨_, rfl, Option.some.inj hf, ht⟩) (fun _ h => nomatch h) dX3_isAnyOpen_26 hlocks
      · have hf := ite_f hf c_2
        refine lv_aload_n hx hb dX3_isAnyOpen_8 rfl (lv_at hl 0 rfl) ?_
        refine va_get (D := D) (ci := 3) (v := .ref (a0 2)) (C := RX3) (T := TX3) (N := 5) hx hb hts i3 hown hK hP 0 rfl rfl 1 (by decide) hk15 (fun _ h9 => h9) rfl dX3_isAnyOpen_9 ?_
        refine lv_iload_n hx hb dX3_isAnyOpen_12 rfl (lv_at hl 1 rfl) ?_
        obtain ⟨hi, hf⟩ := chk_some hf
        refine va_zald hx hb hK hP 2 1 rfl rfl (inb_in hi) dX3_isAnyOpen_13 ?_
        refine lv_if_eq (tgt := 19) hx hb dX3_isAnyOpen_14 (by decide) (fun c_3 => ?_) (fun c_3 => ?_)
        · have hf := ite_t hf c_3
          refine lv_iinc (v := y2_1_1 + 1) (lv' := [(1, .int (y2_1_1 + 1)), (0, .ref (a0 0))]) hx hb dX3_isAnyOpen_19 hl (k := 1) rfl rfl (by decide) rfl (fun ls hl => ?_)
          refine lv_goto (tgt := 2) hx hb dX3_isAnyOpen_22 (by decide) ?_
          exact ih2_1 _ _ hf (lv_sub hl [1, 0] rfl)
        · have hf := ite_f hf c_3
          refine lv_iconst (v := 1) hx hb dX3_isAnyOpen_17 (by decide) ?_
          rw [hQ]
          exact zretN (v := 1) (v' := 1) hx hb hr rfl (fun t ht hW => ⟨_, rfl, Option.some.inj hf, ht⟩) (fun _ h => nomatch h) dX3_isAnyOpen_18 hlocks
  exact j2_1 4096 _ _ hf (lv_sub hl [1, 0] rfl)
set_option maxRecDepth 20000 in
theorem ggX3_isOpenOf_X3_isOpen : GoodIn wsX3_isOpenOf wsX3_isOpen := goodIn_r _ [5, 6, 7, 8, 9, 4, 10, 11, 17, 18, 19, 20, 21] (by decide +kernel) (by decide +kernel)
set_option maxRecDepth 20000 in
theorem gX3_isOpenOf_X3_isOpen : GoodIn wsX3_isOpenOf (wsV RX3 41 RX3 yX3_isOpen wsX3_isOpen) := goodIn_app (goodIn_of _ (by decide +kernel)) ggX3_isOpenOf_X3_isOpen
set_option maxRecDepth 20000 in
theorem ggX3_isOpenOf_X3_thingOf : GoodIn wsX3_isOpenOf wsX3_thingOf := goodIn_r _ [15, 16, 7, 8, 9, 4, 10, 11, 17, 18, 19, 20, 21] (by decide +kernel) (by decide +kernel)
set_option maxRecDepth 20000 in
theorem gX3_isOpenOf_X3_thingOf : GoodIn wsX3_isOpenOf (wsV RX3 44 RX3 yX3_thingOf wsX3_thingOf) := goodIn_app (goodIn_of _ (by decide +kernel)) ggX3_isOpenOf_X3_thingOf
theorem dX3_isOpenOf_0 : decode cX3_isOpenOf 0 = .ok (.aload_n 0, 1) := by decide +kernel
theorem dX3_isOpenOf_1 : decode cX3_isOpenOf 1 = .ok (.iload_n 1, 1) := by decide +kernel
theorem dX3_isOpenOf_2 : decode cX3_isOpenOf 2 = .ok (.invokevirtual 41, 3) := by decide +kernel
theorem dX3_isOpenOf_5 : decode cX3_isOpenOf 5 = .ok (.ifCond .eq 16, 3) := by decide +kernel
theorem dX3_isOpenOf_8 : decode cX3_isOpenOf 8 = .ok (.aload_n 0, 1) := by decide +kernel
theorem dX3_isOpenOf_9 : decode cX3_isOpenOf 9 = .ok (.iload_n 1, 1) := by decide +kernel
theorem dX3_isOpenOf_10 : decode cX3_isOpenOf 10 = .ok (.invokevirtual 44, 3) := by decide +kernel
theorem dX3_isOpenOf_13 : decode cX3_isOpenOf 13 = .ok (.iload_n 2, 1) := by decide +kernel
theorem dX3_isOpenOf_14 : decode cX3_isOpenOf 14 = .ok (.if_icmp .ne 7, 3) := by decide +kernel
theorem dX3_isOpenOf_17 : decode cX3_isOpenOf 17 = .ok (.iconst 1, 1) := by decide +kernel
theorem dX3_isOpenOf_18 : decode cX3_isOpenOf 18 = .ok (.goto 4, 3) := by decide +kernel
theorem dX3_isOpenOf_21 : decode cX3_isOpenOf 21 = .ok (.iconst 0, 1) := by decide +kernel
theorem dX3_isOpenOf_22 : decode cX3_isOpenOf 22 = .ok (.ireturn, 1) := by decide +kernel
def f_X3_isOpenOf (u0 : S1) (p1 : Int32) (p2 : Int32) : Option (Int32) := bn (f_X3_isOpen u0 p1) (fun z_1 => jn (fun (v22_2_0 : Int32) => some (vp_nar .boolean v22_2_0)) (fun k22_2 => jn (k22_2 0) (fun k21_3 => if z_1 = 0 then k21_3 else bn (f_X3_thingOf u0 p1) (fun z_5 => if z_5 = p2 then k22_2 1 else k21_3))))
def rmX3_isOpenOf : Room := { frames := 2, cells := 0, slots := 0, locals := 42 }
set_option maxHeartbeats 4000000 in
set_option maxRecDepth 100000 in
theorem c_X3_isOpenOf (l : Launch) (D : va_G) (cI cZ cJ cT : ClassId) (a0 : Nat → Nat) (u0 : S1) (p1 : Int32) (p2 : Int32) (o : Int32) (hf : f_X3_isOpenOf u0 p1 p2 = some o) : Met l yX3_isOpenOf wsX3_isOpenOf rmX3_isOpenOf (va_Pc [.ref (a0 0), .int p1, .int p2] (PR D cls (tys cI cZ cJ cT) ((wX3 cI cZ a0 u0)))) (QR o) 0 0 (fun _ => False) := by
  refine Met.ofW (cc := cX3_isOpenOf) (maxL := 3) (ret := (some .boolean)) (by decide) rfl ?_
  intro p e s m args below meth c s₁ B hml hv
  obtain ⟨hav, hP, hK⟩ := hv
  have hx := B.exec
  have hb := B.bytes
  have hr := B.returns
  have hlocks := B.notSynchronized
  have hts := atoms_spec (ws := wsX3_isOpenOf) B.pre
  have hown : s.vm.findClass RX3 = some m.cls := findClass_of_methodNamed B.named
  refine Wq (fun Q hQ => ?_)
  refine W_entry hav (Nat.le_of_ble_eq_true rfl) (fun ls hl => ?_)
  have hl : lv_has ls 3 [(0, .ref (a0 0)), (1, .int p1), (2, .int p2)] := hl
  unfold f_X3_isOpenOf at hf
  refine lv_aload_n hx hb dX3_isOpenOf_0 rfl (lv_at hl 0 rfl) ?_
  refine lv_iload_n hx hb dX3_isOpenOf_1 rfl (lv_at hl 1 rfl) ?_
  obtain ⟨z_1, hz_1, hf⟩ := bn_some hf
  refine cRV (As := [.int p1]) (rest := []) ⟨hx, hb, hml, hown, hts⟩ (c_X3_isOpen l D cI cZ cJ cT a0 u0 p1 z_1 hz_1) (cwV 1 hts gX3_isOpenOf_X3_isOpen rfl rfl rfl (by decide +kernel) ⟨Nat.le_of_ble_eq_true rfl, Nat.le_of_ble_eq_true rfl⟩) hP hK (va_recv hK hP (ci := 3) (q0 := 0) rfl rfl) rfl rfl hl.1 (Nat.le_of_ble_eq_true rfl) dX3_isOpenOf_2 ⟨Nat.le_of_ble_eq_true rfl, Nat.le_of_ble_eq_true rfl⟩ ?_
  obtain ⟨k22_2, hk22_2, hf⟩ := jn_some hf
  have j22_2 : ∀ (v22_2_0 : Int32) (ls : Array Slot), k22_2 v22_2_0 = some o → lv_has ls 3 [] → W p l e (headSpec wsX3_isOpenOf rmX3_isOpenOf).room s m args below meth c s.heap [] 0 0 Q (F0 m 22 ls [.int v22_2_0]) := by
    intro v22_2_0 ls hf hl
    have hf := qa1 hk22_2 hf
    rw [hQ]
    exact zretN (v := v22_2_0) (v' := vp_nar .boolean v22_2_0) hx hb hr rfl (fun t ht hW => ⟨_, rfl, Option.some.inj hf, ht⟩) (fun _ h => nomatch h) dX3_isOpenOf_22 hlocks
  obtain ⟨k21_3, hk21_3, hf⟩ := jn_some hf
  have j21_3 : ∀ (ls : Array Slot), k21_3 = some o → lv_has ls 3 [] → W p l e (headSpec wsX3_isOpenOf rmX3_isOpenOf).room s m args below meth c s.heap [] 0 0 Q (F0 m 21 ls []) := by
    intro ls hf hl
    have hf := qa0 hk21_3 hf
    refine lv_iconst (v := 0) hx hb dX3_isOpenOf_21 (by decide) ?_
    exact j22_2 _ _ hf (lv_sub hl [] rfl)
  refine lv_if_eq (tgt := 21) hx hb dX3_isOpenOf_5 (by decide) (fun c_4 => ?_) (fun c_4 => ?_)
  · have hf := ite_t hf c_4
    exact j21_3 _ hf (lv_sub hl [] rfl)
  · have hf := ite_f hf c_4
    refine lv_aload_n hx hb dX3_isOpenOf_8 rfl (lv_at hl 0 rfl) ?_
    refine lv_iload_n hx hb dX3_isOpenOf_9 rfl (lv_at hl 1 rfl) ?_
    obtain ⟨z_5, hz_5, hf⟩ := bn_some hf
    refine cRV (As := [.int p1]) (rest := []) ⟨hx, hb, hml, hown, hts⟩ (c_X3_thingOf l D cI cZ cJ cT a0 u0 p1 z_5 hz_5) (cwV 1 hts gX3_isOpenOf_X3_thingOf rfl rfl rfl (by decide +kernel) ⟨Nat.le_of_ble_eq_true rfl, Nat.le_of_ble_eq_true rfl⟩) hP hK (va_recv hK hP (ci := 3) (q0 := 0) rfl rfl) rfl rfl hl.1 (Nat.le_of_ble_eq_true rfl) dX3_isOpenOf_10 ⟨Nat.le_of_ble_eq_true rfl, Nat.le_of_ble_eq_true rfl⟩ ?_
    refine lv_iload_n hx hb dX3_isOpenOf_13 rfl (lv_at hl 2 rfl) ?_
    refine lv_icmp_ne (tgt := 21) hx hb dX3_isOpenOf_14 (by decide) (fun c_6 => ?_) (fun c_6 => ?_)
    · have hf := ite_f hf c_6
      exact j21_3 _ hf (lv_sub hl [] rfl)
    · have hf := ite_t hf c_6
      refine lv_iconst (v := 1) hx hb dX3_isOpenOf_17 (by decide) ?_
      refine lv_goto (tgt := 22) hx hb dX3_isOpenOf_18 (by decide) ?_
      exact j22_2 _ _ hf (lv_sub hl [] rfl)
set_option maxRecDepth 20000 in
theorem ggX3_countOf_X3_isOpenOf : GoodIn wsX3_countOf wsX3_isOpenOf := goodIn_r _ [5, 6, 7, 8, 4, 9, 10, 11, 12, 13, 14, 15, 16, 17, 18, 19, 20, 21, 22, 23, 24, 25] (by decide +kernel) (by decide +kernel)
set_option maxRecDepth 20000 in
theorem gX3_countOf_X3_isOpenOf : GoodIn wsX3_countOf (wsV RX3 48 RX3 yX3_isOpenOf wsX3_isOpenOf) := goodIn_app (goodIn_of _ (by decide +kernel)) ggX3_countOf_X3_isOpenOf
theorem dX3_countOf_0 : decode cX3_countOf 0 = .ok (.iconst 0, 1) := by decide +kernel
theorem dX3_countOf_1 : decode cX3_countOf 1 = .ok (.istore_n 2, 1) := by decide +kernel
theorem dX3_countOf_2 : decode cX3_countOf 2 = .ok (.iconst 0, 1) := by decide +kernel
theorem dX3_countOf_3 : decode cX3_countOf 3 = .ok (.istore_n 3, 1) := by decide +kernel
theorem dX3_countOf_4 : decode cX3_countOf 4 = .ok (.iload_n 3, 1) := by decide +kernel
theorem dX3_countOf_5 : decode cX3_countOf 5 = .ok (.bipush 30, 2) := by decide +kernel
theorem dX3_countOf_7 : decode cX3_countOf 7 = .ok (.if_icmp .ge 21, 3) := by decide +kernel
theorem dX3_countOf_10 : decode cX3_countOf 10 = .ok (.aload_n 0, 1) := by decide +kernel
theorem dX3_countOf_11 : decode cX3_countOf 11 = .ok (.iload_n 3, 1) := by decide +kernel
theorem dX3_countOf_12 : decode cX3_countOf 12 = .ok (.iload_n 1, 1) := by decide +kernel
theorem dX3_countOf_13 : decode cX3_countOf 13 = .ok (.invokevirtual 48, 3) := by decide +kernel
theorem dX3_countOf_16 : decode cX3_countOf 16 = .ok (.ifCond .eq 6, 3) := by decide +kernel
theorem dX3_countOf_19 : decode cX3_countOf 19 = .ok (.iinc 2 1, 3) := by decide +kernel
theorem dX3_countOf_22 : decode cX3_countOf 22 = .ok (.iinc 3 1, 3) := by decide +kernel
theorem dX3_countOf_25 : decode cX3_countOf 25 = .ok (.goto (-21), 3) := by decide +kernel
theorem dX3_countOf_28 : decode cX3_countOf 28 = .ok (.iload_n 2, 1) := by decide +kernel
theorem dX3_countOf_29 : decode cX3_countOf 29 = .ok (.ireturn, 1) := by decide +kernel
def f_X3_countOf (u0 : S1) (p1 : Int32) : Option (Int32) := qj2 (fun (r4_1 : Int32 → Int32 → Option (Int32)) (y4_1_2 : Int32) (y4_1_3 : Int32) => if 30 ≤ y4_1_3 then some y4_1_2 else bn (f_X3_isOpenOf u0 y4_1_3 p1) (fun z_3 => jn (fun (y22_4_2 : Int32) => r4_1 y22_4_2 (y4_1_3 + 1)) (fun k22_4 => if z_3 = 0 then k22_4 y4_1_2 else k22_4 (y4_1_2 + 1)))) (fun k4_1 => k4_1 0 0)
def rmX3_countOf : Room := { frames := 3, cells := 0, slots := 0, locals := 64 }
set_option maxHeartbeats 4000000 in
set_option maxRecDepth 100000 in
theorem c_X3_countOf (l : Launch) (D : va_G) (cI cZ cJ cT : ClassId) (a0 : Nat → Nat) (u0 : S1) (p1 : Int32) (o : Int32) (hf : f_X3_countOf u0 p1 = some o) : Met l yX3_countOf wsX3_countOf rmX3_countOf (va_Pc [.ref (a0 0), .int p1] (PR D cls (tys cI cZ cJ cT) ((wX3 cI cZ a0 u0)))) (QR o) 0 0 (fun _ => False) := by
  refine Met.ofW (cc := cX3_countOf) (maxL := 4) (ret := (some .int)) (by decide) rfl ?_
  intro p e s m args below meth c s₁ B hml hv
  obtain ⟨hav, hP, hK⟩ := hv
  have hx := B.exec
  have hb := B.bytes
  have hr := B.returns
  have hlocks := B.notSynchronized
  have hts := atoms_spec (ws := wsX3_countOf) B.pre
  have hown : s.vm.findClass RX3 = some m.cls := findClass_of_methodNamed B.named
  refine Wq (fun Q hQ => ?_)
  refine W_entry hav (Nat.le_of_ble_eq_true rfl) (fun ls hl => ?_)
  have hl : lv_has ls 4 [(0, .ref (a0 0)), (1, .int p1)] := hl
  unfold f_X3_countOf at hf
  refine lv_iconst (v := 0) hx hb dX3_countOf_0 (by decide) ?_
  refine lv_istore_n (lv' := [(2, .int 0), (0, .ref (a0 0)), (1, .int p1)]) hx hb dX3_countOf_1 rfl hl (by decide) rfl (fun ls hl => ?_)
  refine lv_iconst (v := 0) hx hb dX3_countOf_2 (by decide) ?_
  refine lv_istore_n (lv' := [(3, .int 0), (2, .int 0), (0, .ref (a0 0)), (1, .int p1)]) hx hb dX3_countOf_3 rfl hl (by decide) rfl (fun ls hl => ?_)
  obtain ⟨G4_1, hG4_1, hf⟩ := qj2_some hf
  have j4_1 : ∀ (n : Nat) (y4_1_2 : Int32) (y4_1_3 : Int32) (ls : Array Slot), ql2 G4_1 n y4_1_2 y4_1_3 = some o → lv_has ls 4 [(0, .ref (a0 0)), (1, .int p1), (2, .int y4_1_2), (3, .int y4_1_3)] → W p l e (headSpec wsX3_countOf rmX3_countOf).room s m args below meth c s.heap [] 0 0 Q (F0 m 4 ls []) := by
    intro n
    induction n with
    | zero => intro y4_1_2 y4_1_3 ls hf hl; exact (ql2_z hf).elim
    | succ n ih4_1 =>
      intro y4_1_2 y4_1_3 ls hf hl
      have hf := ql2_s hG4_1 hf
      obtain ⟨r4_1, hr4_1⟩ : ∃ z, z = ql2 G4_1 n := ⟨_, rfl⟩
      rw [← hr4_1] at hf ih4_1
      refine lv_iload_n hx hb dX3_countOf_4 rfl (lv_at hl 3 rfl) ?_
      refine lv_bipush (v := 30) hx hb dX3_countOf_5 (by decide) ?_
      refine lv_icmp_ge (tgt := 28) hx hb dX3_countOf_7 (by decide) (fun c_2 => ?_) (fun c_2 => ?_)
      · have hf := ite_t hf c_2
        refine lv_iload_n hx hb dX3_countOf_28 rfl (lv_at hl 2 rfl) ?_
        rw [hQ]
        exact W.iret hx hb hr (fun t ht hW => ⟨_, rfl, Option.some.inj hf, ht⟩) (fun _ h => nomatch h) dX3_countOf_29 hlocks
      · have hf := ite_f hf c_2
        refine lv_aload_n hx hb dX3_countOf_10 rfl (lv_at hl 0 rfl) ?_
        refine lv_iload_n hx hb dX3_countOf_11 rfl (lv_at hl 3 rfl) ?_
        refine lv_iload_n hx hb dX3_countOf_12 rfl (lv_at hl 1 rfl) ?_
        obtain ⟨z_3, hz_3, hf⟩ := bn_some hf
        refine cRV (As := [.int y4_1_3, .int p1]) (rest := []) ⟨hx, hb, hml, hown, hts⟩ (c_X3_isOpenOf l D cI cZ cJ cT a0 u0 y4_1_3 p1 z_3 hz_3) (cwV 2 hts gX3_countOf_X3_isOpenOf rfl rfl rfl (by decide +kernel) ⟨Nat.le_of_ble_eq_true rfl, Nat.le_of_ble_eq_true rfl⟩) hP hK (va_recv hK hP (ci := 3) (q0 := 0) rfl rfl) rfl rfl hl.1 (Nat.le_of_ble_eq_true rfl) dX3_countOf_13 ⟨Nat.le_of_ble_eq_true rfl, Nat.le_of_ble_eq_true rfl⟩ ?_
        obtain ⟨k22_4, hk22_4, hf⟩ := jn_some hf
        have j22_4 : ∀ (y22_4_2 : Int32) (ls : Array Slot), k22_4 y22_4_2 = some o → lv_has ls 4 [(0, .ref (a0 0)), (1, .int p1), (2, .int y22_4_2), (3, .int y4_1_3)] → W p l e (headSpec wsX3_countOf rmX3_countOf).room s m args below meth c s.heap [] 0 0 Q (F0 m 22 ls []) := by
          intro y22_4_2 ls hf hl
          have hf := qa1 hk22_4 hf
          refine lv_iinc (v := y4_1_3 + 1) (lv' := [(3, .int (y4_1_3 + 1)), (0, .ref (a0 0)), (1, .int p1), (2, .int y22_4_2)]) hx hb dX3_countOf_22 hl (k := 3) rfl rfl (by decide) rfl (fun ls hl => ?_)
          refine lv_goto (tgt := 4) hx hb dX3_countOf_25 (by decide) ?_
          exact ih4_1 _ _ _ hf (lv_sub hl [1, 2, 3, 0] rfl)
        refine lv_if_eq (tgt := 22) hx hb dX3_countOf_16 (by decide) (fun c_5 => ?_) (fun c_5 => ?_)
        · have hf := ite_t hf c_5
          exact j22_4 _ _ hf (lv_sub hl [0, 1, 2, 3] rfl)
        · have hf := ite_f hf c_5
          refine lv_iinc (v := y4_1_2 + 1) (lv' := [(2, .int (y4_1_2 + 1)), (0, .ref (a0 0)), (1, .int p1), (3, .int y4_1_3)]) hx hb dX3_countOf_19 hl (k := 2) rfl rfl (by decide) rfl (fun ls hl => ?_)
          exact j22_4 _ _ hf (lv_sub hl [1, 2, 0, 3] rfl)
  exact j4_1 4096 _ _ _ hf (lv_sub hl [2, 3, 1, 0] rfl)
set_option maxRecDepth 20000 in
theorem ggX3_lockAt_X3_isHandle : GoodIn wsX3_lockAt wsX3_isHandle := goodIn_r _ [6, 7, 8, 9, 10, 11, 12] (by decide +kernel) (by decide +kernel)
set_option maxRecDepth 20000 in
theorem gX3_lockAt_X3_isHandle : GoodIn wsX3_lockAt (wsV RX3 29 RX3 yX3_isHandle wsX3_isHandle) := goodIn_app (goodIn_of _ (by decide +kernel)) ggX3_lockAt_X3_isHandle
theorem dX3_lockAt_0 : decode cX3_lockAt 0 = .ok (.aload_n 0, 1) := by decide +kernel
theorem dX3_lockAt_1 : decode cX3_lockAt 1 = .ok (.iload_n 1, 1) := by decide +kernel
theorem dX3_lockAt_2 : decode cX3_lockAt 2 = .ok (.invokevirtual 29, 3) := by decide +kernel
theorem dX3_lockAt_5 : decode cX3_lockAt 5 = .ok (.ifCond .eq 27, 3) := by decide +kernel
theorem dX3_lockAt_8 : decode cX3_lockAt 8 = .ok (.iload_n 2, 1) := by decide +kernel
theorem dX3_lockAt_9 : decode cX3_lockAt 9 = .ok (.ifCond .lt 23, 3) := by decide +kernel
theorem dX3_lockAt_12 : decode cX3_lockAt 12 = .ok (.iload_n 2, 1) := by decide +kernel
theorem dX3_lockAt_13 : decode cX3_lockAt 13 = .ok (.bipush 16, 2) := by decide +kernel
theorem dX3_lockAt_15 : decode cX3_lockAt 15 = .ok (.if_icmp .ge 17, 3) := by decide +kernel
theorem dX3_lockAt_18 : decode cX3_lockAt 18 = .ok (.aload_n 0, 1) := by decide +kernel
theorem dX3_lockAt_19 : decode cX3_lockAt 19 = .ok (.getfield 22, 3) := by decide +kernel
theorem dX3_lockAt_22 : decode cX3_lockAt 22 = .ok (.iload_n 1, 1) := by decide +kernel
theorem dX3_lockAt_23 : decode cX3_lockAt 23 = .ok (.bipush 16, 2) := by decide +kernel
theorem dX3_lockAt_25 : decode cX3_lockAt 25 = .ok (.imul, 1) := by decide +kernel
theorem dX3_lockAt_26 : decode cX3_lockAt 26 = .ok (.iload_n 2, 1) := by decide +kernel
theorem dX3_lockAt_27 : decode cX3_lockAt 27 = .ok (.iadd, 1) := by decide +kernel
theorem dX3_lockAt_28 : decode cX3_lockAt 28 = .ok (.iaload, 1) := by decide +kernel
theorem dX3_lockAt_29 : decode cX3_lockAt 29 = .ok (.goto 4, 3) := by decide +kernel
theorem dX3_lockAt_32 : decode cX3_lockAt 32 = .ok (.iconst 0, 1) := by decide +kernel
theorem dX3_lockAt_33 : decode cX3_lockAt 33 = .ok (.ireturn, 1) := by decide +kernel
def f_X3_lockAt (u0 : S1) (p1 : Int32) (p2 : Int32) : Option (Int32) := bn (f_X3_isHandle u0 p1) (fun z_1 => jn (fun (v33_2_0 : Int32) => some v33_2_0) (fun k33_2 => jn (k33_2 0) (fun k32_3 => if z_1 = 0 then k32_3 else if p2 < 0 then k32_3 else if 16 ≤ p2 then k32_3 else chk (inb ((p1 * 16) + p2) 480) (k33_2 (u0 3 ((p1 * 16) + p2).toNatClampNeg)))))
def rmX3_lockAt : Room := { frames := 1, cells := 0, slots := 0, locals := 21 }
set_option maxHeartbeats 4000000 in
set_option maxRecDepth 100000 in
theorem c_X3_lockAt (l : Launch) (D : va_G) (cI cZ cJ cT : ClassId) (a0 : Nat → Nat) (u0 : S1) (p1 : Int32) (p2 : Int32) (o : Int32) (hf : f_X3_lockAt u0 p1 p2 = some o) : Met l yX3_lockAt wsX3_lockAt rmX3_lockAt (va_Pc [.ref (a0 0), .int p1, .int p2] (PR D cls (tys cI cZ cJ cT) ((wX3 cI cZ a0 u0)))) (QR o) 0 0 (fun _ => False) := by
  refine Met.ofW (cc := cX3_lockAt) (maxL := 3) (ret := (some .int)) (by decide) rfl ?_
  intro p e s m args below meth c s₁ B hml hv
  obtain ⟨hav, hP, hK⟩ := hv
  have hx := B.exec
  have hb := B.bytes
  have hr := B.returns
  have hlocks := B.notSynchronized
  have hts := atoms_spec (ws := wsX3_lockAt) B.pre
  have hown : s.vm.findClass RX3 = some m.cls := findClass_of_methodNamed B.named
  have i3 : ∀ w ∈ wsX30, w ∈ wsX3_lockAt := fun w h => List.mem_cons_of_mem _ (List.mem_append_right _ h)
  have hk22 := hts (.fieldLink RX3 22 "Inodery$Handles" "locks" "[I") (by decide +kernel)
  refine Wq (fun Q hQ => ?_)
  refine W_entry hav (Nat.le_of_ble_eq_true rfl) (fun ls hl => ?_)
  have hl : lv_has ls 3 [(0, .ref (a0 0)), (1, .int p1), (2, .int p2)] := hl
  unfold f_X3_lockAt at hf
  refine lv_aload_n hx hb dX3_lockAt_0 rfl (lv_at hl 0 rfl) ?_
  refine lv_iload_n hx hb dX3_lockAt_1 rfl (lv_at hl 1 rfl) ?_
  obtain ⟨z_1, hz_1, hf⟩ := bn_some hf
  refine cRV (As := [.int p1]) (rest := []) ⟨hx, hb, hml, hown, hts⟩ (c_X3_isHandle l D cI cZ cJ cT a0 u0 p1 z_1 hz_1) (cwV 1 hts gX3_lockAt_X3_isHandle rfl rfl rfl (by decide +kernel) ⟨Nat.le_of_ble_eq_true rfl, Nat.le_of_ble_eq_true rfl⟩) hP hK (va_recv hK hP (ci := 3) (q0 := 0) rfl rfl) rfl rfl hl.1 (Nat.le_of_ble_eq_true rfl) dX3_lockAt_2 ⟨Nat.le_of_ble_eq_true rfl, Nat.le_of_ble_eq_true rfl⟩ ?_
  obtain ⟨k33_2, hk33_2, hf⟩ := jn_some hf
  have j33_2 : ∀ (v33_2_0 : Int32) (ls : Array Slot), k33_2 v33_2_0 = some o → lv_has ls 3 [] → W p l e (headSpec wsX3_lockAt rmX3_lockAt).room s m args below meth c s.heap [] 0 0 Q (F0 m 33 ls [.int v33_2_0]) := by
    intro v33_2_0 ls hf hl
    have hf := qa1 hk33_2 hf
    rw [hQ]
    exact W.iret hx hb hr (fun t ht hW => ⟨_, rfl, Option.some.inj hf, ht⟩) (fun _ h => nomatch h) dX3_lockAt_33 hlocks
  obtain ⟨k32_3, hk32_3, hf⟩ := jn_some hf
  have j32_3 : ∀ (ls : Array Slot), k32_3 = some o → lv_has ls 3 [] → W p l e (headSpec wsX3_lockAt rmX3_lockAt).room s m args below meth c s.heap [] 0 0 Q (F0 m 32 ls []) := by
    intro ls hf hl
    have hf := qa0 hk32_3 hf
    refine lv_iconst (v := 0) hx hb dX3_lockAt_32 (by decide) ?_
    exact j33_2 _ _ hf (lv_sub hl [] rfl)
  refine lv_if_eq (tgt := 32) hx hb dX3_lockAt_5 (by decide) (fun c_4 => ?_) (fun c_4 => ?_)
  · have hf := ite_t hf c_4
    exact j32_3 _ hf (lv_sub hl [] rfl)
  · have hf := ite_f hf c_4
    refine lv_iload_n hx hb dX3_lockAt_8 rfl (lv_at hl 2 rfl) ?_
    refine lv_if_lt (tgt := 32) hx hb dX3_lockAt_9 (by decide) (fun c_5 => ?_) (fun c_5 => ?_)
    · have hf := ite_t hf c_5
      exact j32_3 _ hf (lv_sub hl [] rfl)
    · have hf := ite_f hf c_5
      refine lv_iload_n hx hb dX3_lockAt_12 rfl (lv_at hl 2 rfl) ?_
      refine lv_bipush (v := 16) hx hb dX3_lockAt_13 (by decide) ?_
      refine lv_icmp_ge (tgt := 32) hx hb dX3_lockAt_15 (by decide) (fun c_6 => ?_) (fun c_6 => ?_)
      · have hf := ite_t hf c_6
        exact j32_3 _ hf (lv_sub hl [] rfl)
      · have hf := ite_f hf c_6
        refine lv_aload_n hx hb dX3_lockAt_18 rfl (lv_at hl 0 rfl) ?_
        refine va_get (D := D) (ci := 3) (v := .ref (a0 4)) (C := RX3) (T := TX3) (N := 5) hx hb hts i3 hown hK hP 0 rfl rfl 3 (by decide) hk22 (fun _ h9 => h9) rfl dX3_lockAt_19 ?_
        refine lv_iload_n hx hb dX3_lockAt_22 rfl (lv_at hl 1 rfl) ?_
        refine lv_bipush (v := 16) hx hb dX3_lockAt_23 (by decide) ?_
        refine lv_imul hx hb dX3_lockAt_25 ?_
        refine lv_iload_n hx hb dX3_lockAt_26 rfl (lv_at hl 2 rfl) ?_
        refine lv_iadd hx hb dX3_lockAt_27 ?_
        obtain ⟨hi, hf⟩ := chk_some hf
        refine va_iald hx hb hK hP 4 0 rfl rfl (inb_in hi) dX3_lockAt_28 ?_
        refine lv_goto (tgt := 33) hx hb dX3_lockAt_29 (by decide) ?_
        exact j33_2 _ _ hf (lv_sub hl [] rfl)
set_option maxRecDepth 20000 in
theorem ggX3_countLocked_X3_lockAt : GoodIn wsX3_countLocked wsX3_lockAt := goodIn_r _ [5, 6, 7, 8, 9, 4, 10, 11, 12, 13, 14, 15, 16] (by decide +kernel) (by decide +kernel)
set_option maxRecDepth 20000 in
theorem gX3_countLocked_X3_lockAt : GoodIn wsX3_countLocked (wsV RX3 52 RX3 yX3_lockAt wsX3_lockAt) := goodIn_app (goodIn_of _ (by decide +kernel)) ggX3_countLocked_X3_lockAt
theorem dX3_countLocked_0 : decode cX3_countLocked 0 = .ok (.iconst 0, 1) := by decide +kernel
theorem dX3_countLocked_1 : decode cX3_countLocked 1 = .ok (.istore 5, 2) := by decide +kernel
theorem dX3_countLocked_3 : decode cX3_countLocked 3 = .ok (.iload_n 2, 1) := by decide +kernel
theorem dX3_countLocked_4 : decode cX3_countLocked 4 = .ok (.istore 6, 2) := by decide +kernel
theorem dX3_countLocked_6 : decode cX3_countLocked 6 = .ok (.iload 6, 2) := by decide +kernel
theorem dX3_countLocked_8 : decode cX3_countLocked 8 = .ok (.iload_n 3, 1) := by decide +kernel
theorem dX3_countLocked_9 : decode cX3_countLocked 9 = .ok (.if_icmp .gt 31, 3) := by decide +kernel
theorem dX3_countLocked_12 : decode cX3_countLocked 12 = .ok (.iload 6, 2) := by decide +kernel
theorem dX3_countLocked_14 : decode cX3_countLocked 14 = .ok (.bipush 16, 2) := by decide +kernel
theorem dX3_countLocked_16 : decode cX3_countLocked 16 = .ok (.if_icmp .ge 24, 3) := by decide +kernel
theorem dX3_countLocked_19 : decode cX3_countLocked 19 = .ok (.aload_n 0, 1) := by decide +kernel
theorem dX3_countLocked_20 : decode cX3_countLocked 20 = .ok (.iload_n 1, 1) := by decide +kernel
theorem dX3_countLocked_21 : decode cX3_countLocked 21 = .ok (.iload 6, 2) := by decide +kernel
theorem dX3_countLocked_23 : decode cX3_countLocked 23 = .ok (.invokevirtual 52, 3) := by decide +kernel
theorem dX3_countLocked_26 : decode cX3_countLocked 26 = .ok (.iload 4, 2) := by decide +kernel
theorem dX3_countLocked_28 : decode cX3_countLocked 28 = .ok (.if_icmp .ne 6, 3) := by decide +kernel
theorem dX3_countLocked_31 : decode cX3_countLocked 31 = .ok (.iinc 5 1, 3) := by decide +kernel
theorem dX3_countLocked_34 : decode cX3_countLocked 34 = .ok (.iinc 6 1, 3) := by decide +kernel
theorem dX3_countLocked_37 : decode cX3_countLocked 37 = .ok (.goto (-31), 3) := by decide +kernel
theorem dX3_countLocked_40 : decode cX3_countLocked 40 = .ok (.iload 5, 2) := by decide +kernel
theorem dX3_countLocked_42 : decode cX3_countLocked 42 = .ok (.ireturn, 1) := by decide +kernel
def f_X3_countLocked (u0 : S1) (p1 : Int32) (p2 : Int32) (p3 : Int32) (p4 : Int32) : Option (Int32) := qj2 (fun (r6_1 : Int32 → Int32 → Option (Int32)) (y6_1_5 : Int32) (y6_1_6 : Int32) => jn (some y6_1_5) (fun k40_2 => if p3 < y6_1_6 then k40_2 else if 16 ≤ y6_1_6 then k40_2 else bn (f_X3_lockAt u0 p1 y6_1_6) (fun z_5 => jn (fun (y34_6_5 : Int32) => r6_1 y34_6_5 (y6_1_6 + 1)) (fun k34_6 => if z_5 = p4 then k34_6 (y6_1_5 + 1) else k34_6 y6_1_5)))) (fun k6_1 => k6_1 0 p2)
def rmX3_countLocked : Room := { frames := 2, cells := 0, slots := 0, locals := 43 }
set_option maxHeartbeats 4000000 in
set_option maxRecDepth 100000 in
theorem c_X3_countLocked (l : Launch) (D : va_G) (cI cZ cJ cT : ClassId) (a0 : Nat → Nat) (u0 : S1) (p1 : Int32) (p2 : Int32) (p3 : Int32) (p4 : Int32) (o : Int32) (hf : f_X3_countLocked u0 p1 p2 p3 p4 = some o) : Met l yX3_countLocked wsX3_countLocked rmX3_countLocked (va_Pc [.ref (a0 0), .int p1, .int p2, .int p3, .int p4] (PR D cls (tys cI cZ cJ cT) ((wX3 cI cZ a0 u0)))) (QR o) 0 0 (fun _ => False) := by
  refine Met.ofW (cc := cX3_countLocked) (maxL := 7) (ret := (some .int)) (by decide) rfl ?_
  intro p e s m args below meth c s₁ B hml hv
  obtain ⟨hav, hP, hK⟩ := hv
  have hx := B.exec
  have hb := B.bytes
  have hr := B.returns
  have hlocks := B.notSynchronized
  have hts := atoms_spec (ws := wsX3_countLocked) B.pre
  have hown : s.vm.findClass RX3 = some m.cls := findClass_of_methodNamed B.named
  refine Wq (fun Q hQ => ?_)
  refine W_entry hav (Nat.le_of_ble_eq_true rfl) (fun ls hl => ?_)
  have hl : lv_has ls 7 [(0, .ref (a0 0)), (1, .int p1), (2, .int p2), (3, .int p3), (4, .int p4)] := hl
  unfold f_X3_countLocked at hf
  refine lv_iconst (v := 0) hx hb dX3_countLocked_0 (by decide) ?_
  refine lv_istore (lv' := [(5, .int 0), (0, .ref (a0 0)), (1, .int p1), (2, .int p2), (3, .int p3), (4, .int p4)]) hx hb dX3_countLocked_1 hl (by decide) rfl (fun ls hl => ?_)
  refine lv_iload_n hx hb dX3_countLocked_3 rfl (lv_at hl 3 rfl) ?_
  refine lv_istore (lv' := [(6, .int p2), (5, .int 0), (0, .ref (a0 0)), (1, .int p1), (2, .int p2), (3, .int p3), (4, .int p4)]) hx hb dX3_countLocked_4 hl (by decide) rfl (fun ls hl => ?_)
  obtain ⟨G6_1, hG6_1, hf⟩ := qj2_some hf
  have j6_1 : ∀ (n : Nat) (y6_1_5 : Int32) (y6_1_6 : Int32) (ls : Array Slot), ql2 G6_1 n y6_1_5 y6_1_6 = some o → lv_has ls 7 [(0, .ref (a0 0)), (1, .int p1), (3, .int p3), (4, .int p4), (5, .int y6_1_5), (6, .int y6_1_6)] → W p l e (headSpec wsX3_countLocked rmX3_countLocked).room s m args below meth c s.heap [] 0 0 Q (F0 m 6 ls []) := by
    intro n
    induction n with
    | zero => intro y6_1_5 y6_1_6 ls hf hl; exact (ql2_z hf).elim
    | succ n ih6_1 =>
      intro y6_1_5 y6_1_6 ls hf hl
      have hf := ql2_s hG6_1 hf
      obtain ⟨r6_1, hr6_1⟩ : ∃ z, z = ql2 G6_1 n := ⟨_, rfl⟩
      rw [← hr6_1] at hf ih6_1
      refine lv_iload hx hb dX3_countLocked_6 (lv_at hl 5 rfl) ?_
      refine lv_iload_n hx hb dX3_countLocked_8 rfl (lv_at hl 2 rfl) ?_
      obtain ⟨k40_2, hk40_2, hf⟩ := jn_some hf
      have j40_2 : ∀ (ls : Array Slot), k40_2 = some o → lv_has ls 7 [(5, .int y6_1_5)] → W p l e (headSpec wsX3_countLocked rmX3_countLocked).room s m args below meth c s.heap [] 0 0 Q (F0 m 40 ls []) := by
        intro ls hf hl
        have hf := qa0 hk40_2 hf
        refine lv_iload hx hb dX3_countLocked_40 (lv_at hl 0 rfl) ?_
        rw [hQ]
        exact W.iret hx hb hr (fun t ht hW => ⟨_, rfl, Option.some.inj hf, ht⟩) (fun _ h => nomatch h) dX3_countLocked_42 hlocks
      refine lv_icmp_gt (tgt := 40) hx hb dX3_countLocked_9 (by decide) (fun c_3 => ?_) (fun c_3 => ?_)
      · have hf := ite_t hf c_3
        exact j40_2 _ hf (lv_sub hl [4] rfl)
      · have hf := ite_f hf c_3
        refine lv_iload hx hb dX3_countLocked_12 (lv_at hl 5 rfl) ?_
        refine lv_bipush (v := 16) hx hb dX3_countLocked_14 (by decide) ?_
        refine lv_icmp_ge (tgt := 40) hx hb dX3_countLocked_16 (by decide) (fun c_4 => ?_) (fun c_4 => ?_)
        · have hf := ite_t hf c_4
          exact j40_2 _ hf (lv_sub hl [4] rfl)
        · have hf := ite_f hf c_4
          refine lv_aload_n hx hb dX3_countLocked_19 rfl (lv_at hl 0 rfl) ?_
          refine lv_iload_n hx hb dX3_countLocked_20 rfl (lv_at hl 1 rfl) ?_
          refine lv_iload hx hb dX3_countLocked_21 (lv_at hl 5 rfl) ?_
          obtain ⟨z_5, hz_5, hf⟩ := bn_some hf
          refine cRV (As := [.int p1, .int y6_1_6]) (rest := []) ⟨hx, hb, hml, hown, hts⟩ (c_X3_lockAt l D cI cZ cJ cT a0 u0 p1 y6_1_6 z_5 hz_5) (cwV 2 hts gX3_countLocked_X3_lockAt rfl rfl rfl (by decide +kernel) ⟨Nat.le_of_ble_eq_true rfl, Nat.le_of_ble_eq_true rfl⟩) hP hK (va_recv hK hP (ci := 3) (q0 := 0) rfl rfl) rfl rfl hl.1 (Nat.le_of_ble_eq_true rfl) dX3_countLocked_23 ⟨Nat.le_of_ble_eq_true rfl, Nat.le_of_ble_eq_true rfl⟩ ?_
          refine lv_iload hx hb dX3_countLocked_26 (lv_at hl 3 rfl) ?_
          obtain ⟨k34_6, hk34_6, hf⟩ := jn_some hf
          have j34_6 : ∀ (y34_6_5 : Int32) (ls : Array Slot), k34_6 y34_6_5 = some o → lv_has ls 7 [(0, .ref (a0 0)), (1, .int p1), (3, .int p3), (4, .int p4), (5, .int y34_6_5), (6, .int y6_1_6)] → W p l e (headSpec wsX3_countLocked rmX3_countLocked).room s m args below meth c s.heap [] 0 0 Q (F0 m 34 ls []) := by
            intro y34_6_5 ls hf hl
            have hf := qa1 hk34_6 hf
            refine lv_iinc (v := y6_1_6 + 1) (lv' := [(6, .int (y6_1_6 + 1)), (0, .ref (a0 0)), (1, .int p1), (3, .int p3), (4, .int p4), (5, .int y34_6_5)]) hx hb dX3_countLocked_34 hl (k := 5) rfl rfl (by decide) rfl (fun ls hl => ?_)
            refine lv_goto (tgt := 6) hx hb dX3_countLocked_37 (by decide) ?_
            exact ih6_1 _ _ _ hf (lv_sub hl [1, 2, 3, 4, 5, 0] rfl)
          refine lv_icmp_ne (tgt := 34) hx hb dX3_countLocked_28 (by decide) (fun c_7 => ?_) (fun c_7 => ?_)
          · have hf := ite_f hf c_7
            exact j34_6 _ _ hf (lv_sub hl [0, 1, 2, 3, 4, 5] rfl)
          · have hf := ite_t hf c_7
            refine lv_iinc (v := y6_1_5 + 1) (lv' := [(5, .int (y6_1_5 + 1)), (0, .ref (a0 0)), (1, .int p1), (3, .int p3), (4, .int p4), (6, .int y6_1_6)]) hx hb dX3_countLocked_31 hl (k := 4) rfl rfl (by decide) rfl (fun ls hl => ?_)
            exact j34_6 _ _ hf (lv_sub hl [1, 2, 3, 4, 0, 5] rfl)
  exact j6_1 4096 _ _ _ hf (lv_sub hl [2, 3, 5, 6, 1, 0] rfl)
set_option maxRecDepth 20000 in
theorem ggX3_isHindered_X3_countLocked : GoodIn wsX3_isHindered wsX3_countLocked := goodIn_r _ [24, 25, 26, 27, 4, 28, 29, 7, 8, 9, 10, 11, 30, 31, 32, 33, 34] (by decide +kernel) (by decide +kernel)
set_option maxRecDepth 20000 in
theorem gX3_isHindered_X3_countLocked : GoodIn wsX3_isHindered (wsV RX3 56 RX3 yX3_countLocked wsX3_countLocked) := goodIn_app (goodIn_of _ (by decide +kernel)) ggX3_isHindered_X3_countLocked
set_option maxRecDepth 20000 in
theorem ggX3_isHindered_X3_isOpenOf : GoodIn wsX3_isHindered wsX3_isOpenOf := goodIn_r _ [15, 16, 17, 18, 4, 19, 20, 7, 8, 9, 10, 11, 1, 2, 3, 5, 6, 30, 31, 32, 33, 34] (by decide +kernel) (by decide +kernel)
set_option maxRecDepth 20000 in
theorem gX3_isHindered_X3_isOpenOf : GoodIn wsX3_isHindered (wsV RX3 48 RX3 yX3_isOpenOf wsX3_isOpenOf) := goodIn_app (goodIn_of _ (by decide +kernel)) ggX3_isHindered_X3_isOpenOf
set_option maxRecDepth 20000 in
theorem ggX3_isHindered_X3_thingOf : GoodIn wsX3_isHindered wsX3_thingOf := goodIn_r _ [5, 6, 7, 8, 9, 4, 10, 11, 30, 31, 32, 33, 34] (by decide +kernel) (by decide +kernel)
set_option maxRecDepth 20000 in
theorem gX3_isHindered_X3_thingOf : GoodIn wsX3_isHindered (wsV RX3 44 RX3 yX3_thingOf wsX3_thingOf) := goodIn_app (goodIn_of _ (by decide +kernel)) ggX3_isHindered_X3_thingOf
theorem dX3_isHindered_0 : decode cX3_isHindered 0 = .ok (.aload_n 0, 1) := by decide +kernel
theorem dX3_isHindered_1 : decode cX3_isHindered 1 = .ok (.iload_n 1, 1) := by decide +kernel
theorem dX3_isHindered_2 : decode cX3_isHindered 2 = .ok (.invokevirtual 44, 3) := by decide +kernel
theorem dX3_isHindered_5 : decode cX3_isHindered 5 = .ok (.istore 5, 2) := by decide +kernel
theorem dX3_isHindered_7 : decode cX3_isHindered 7 = .ok (.iconst 0, 1) := by decide +kernel
theorem dX3_isHindered_8 : decode cX3_isHindered 8 = .ok (.istore 6, 2) := by decide +kernel
theorem dX3_isHindered_10 : decode cX3_isHindered 10 = .ok (.iload 6, 2) := by decide +kernel
theorem dX3_isHindered_12 : decode cX3_isHindered 12 = .ok (.bipush 30, 2) := by decide +kernel
theorem dX3_isHindered_14 : decode cX3_isHindered 14 = .ok (.if_icmp .ge 66, 3) := by decide +kernel
theorem dX3_isHindered_17 : decode cX3_isHindered 17 = .ok (.iload 6, 2) := by decide +kernel
theorem dX3_isHindered_19 : decode cX3_isHindered 19 = .ok (.iload_n 1, 1) := by decide +kernel
theorem dX3_isHindered_20 : decode cX3_isHindered 20 = .ok (.if_icmp .eq 54, 3) := by decide +kernel
theorem dX3_isHindered_23 : decode cX3_isHindered 23 = .ok (.aload_n 0, 1) := by decide +kernel
theorem dX3_isHindered_24 : decode cX3_isHindered 24 = .ok (.iload 6, 2) := by decide +kernel
theorem dX3_isHindered_26 : decode cX3_isHindered 26 = .ok (.iload 5, 2) := by decide +kernel
theorem dX3_isHindered_28 : decode cX3_isHindered 28 = .ok (.invokevirtual 48, 3) := by decide +kernel
theorem dX3_isHindered_31 : decode cX3_isHindered 31 = .ok (.ifCond .eq 43, 3) := by decide +kernel
theorem dX3_isHindered_34 : decode cX3_isHindered 34 = .ok (.aload_n 0, 1) := by decide +kernel
theorem dX3_isHindered_35 : decode cX3_isHindered 35 = .ok (.iload 6, 2) := by decide +kernel
theorem dX3_isHindered_37 : decode cX3_isHindered 37 = .ok (.iload_n 2, 1) := by decide +kernel
theorem dX3_isHindered_38 : decode cX3_isHindered 38 = .ok (.iload_n 3, 1) := by decide +kernel
theorem dX3_isHindered_39 : decode cX3_isHindered 39 = .ok (.iconst 1, 1) := by decide +kernel
theorem dX3_isHindered_40 : decode cX3_isHindered 40 = .ok (.invokevirtual 56, 3) := by decide +kernel
theorem dX3_isHindered_43 : decode cX3_isHindered 43 = .ok (.istore 7, 2) := by decide +kernel
theorem dX3_isHindered_45 : decode cX3_isHindered 45 = .ok (.aload_n 0, 1) := by decide +kernel
theorem dX3_isHindered_46 : decode cX3_isHindered 46 = .ok (.iload 6, 2) := by decide +kernel
theorem dX3_isHindered_48 : decode cX3_isHindered 48 = .ok (.iload_n 2, 1) := by decide +kernel
theorem dX3_isHindered_49 : decode cX3_isHindered 49 = .ok (.iload_n 3, 1) := by decide +kernel
theorem dX3_isHindered_50 : decode cX3_isHindered 50 = .ok (.iconst 2, 1) := by decide +kernel
theorem dX3_isHindered_51 : decode cX3_isHindered 51 = .ok (.invokevirtual 56, 3) := by decide +kernel
theorem dX3_isHindered_54 : decode cX3_isHindered 54 = .ok (.istore 8, 2) := by decide +kernel
theorem dX3_isHindered_56 : decode cX3_isHindered 56 = .ok (.iload 8, 2) := by decide +kernel
theorem dX3_isHindered_58 : decode cX3_isHindered 58 = .ok (.ifCond .gt 14, 3) := by decide +kernel
theorem dX3_isHindered_61 : decode cX3_isHindered 61 = .ok (.iload 4, 2) := by decide +kernel
theorem dX3_isHindered_63 : decode cX3_isHindered 63 = .ok (.iconst 2, 1) := by decide +kernel
theorem dX3_isHindered_64 : decode cX3_isHindered 64 = .ok (.if_icmp .ne 10, 3) := by decide +kernel
theorem dX3_isHindered_67 : decode cX3_isHindered 67 = .ok (.iload 7, 2) := by decide +kernel
theorem dX3_isHindered_69 : decode cX3_isHindered 69 = .ok (.ifCond .le 5, 3) := by decide +kernel
theorem dX3_isHindered_72 : decode cX3_isHindered 72 = .ok (.iconst 1, 1) := by decide +kernel
theorem dX3_isHindered_73 : decode cX3_isHindered 73 = .ok (.ireturn, 1) := by decide +kernel
theorem dX3_isHindered_74 : decode cX3_isHindered 74 = .ok (.iinc 6 1, 3) := by decide +kernel
theorem dX3_isHindered_77 : decode cX3_isHindered 77 = .ok (.goto (-67), 3) := by decide +kernel
theorem dX3_isHindered_80 : decode cX3_isHindered 80 = .ok (.iconst 0, 1) := by decide +kernel
theorem dX3_isHindered_81 : decode cX3_isHindered 81 = .ok (.ireturn, 1) := by decide +kernel
def f_X3_isHindered (u0 : S1) (p1 : Int32) (p2 : Int32) (p3 : Int32) (p4 : Int32) : Option (Int32) := bn (f_X3_thingOf u0 p1) (fun z_1 => qj1 (fun (r10_2 : Int32 → Option (Int32)) (y10_2_6 : Int32) => if 30 ≤ y10_2_6 then some 0 else jn (r10_2 (y10_2_6 + 1)) (fun k74_4 => if y10_2_6 = p1 then k74_4 else bn (f_X3_isOpenOf u0 y10_2_6 z_1) (fun z_6 => if z_6 = 0 then k74_4 else bn (f_X3_countLocked u0 y10_2_6 p2 p3 1) (fun z_8 => bn (f_X3_countLocked u0 y10_2_6 p2 p3 2) (fun z_9 => jn (some 1) (fun k72_10 => if 0 < z_9 then k72_10 else if p4 = 2 then if z_8 ≤ 0 then k74_4 else k72_10 else k74_4)))))) (fun k10_2 => k10_2 0))
def rmX3_isHindered : Room := { frames := 3, cells := 0, slots := 0, locals := 69 }
set_option maxHeartbeats 4000000 in
set_option maxRecDepth 100000 in
theorem c_X3_isHindered (l : Launch) (D : va_G) (cI cZ cJ cT : ClassId) (a0 : Nat → Nat) (u0 : S1) (p1 : Int32) (p2 : Int32) (p3 : Int32) (p4 : Int32) (o : Int32) (hf : f_X3_isHindered u0 p1 p2 p3 p4 = some o) : Met l yX3_isHindered wsX3_isHindered rmX3_isHindered (va_Pc [.ref (a0 0), .int p1, .int p2, .int p3, .int p4] (PR D cls (tys cI cZ cJ cT) ((wX3 cI cZ a0 u0)))) (QR o) 0 0 (fun _ => False) := by
  refine Met.ofW (cc := cX3_isHindered) (maxL := 9) (ret := (some .boolean)) (by decide) rfl ?_
  intro p e s m args below meth c s₁ B hml hv
  obtain ⟨hav, hP, hK⟩ := hv
  have hx := B.exec
  have hb := B.bytes
  have hr := B.returns
  have hlocks := B.notSynchronized
  have hts := atoms_spec (ws := wsX3_isHindered) B.pre
  have hown : s.vm.findClass RX3 = some m.cls := findClass_of_methodNamed B.named
  refine Wq (fun Q hQ => ?_)
  refine W_entry hav (Nat.le_of_ble_eq_true rfl) (fun ls hl => ?_)
  have hl : lv_has ls 9 [(0, .ref (a0 0)), (1, .int p1), (2, .int p2), (3, .int p3), (4, .int p4)] := hl
  unfold f_X3_isHindered at hf
  refine lv_aload_n hx hb dX3_isHindered_0 rfl (lv_at hl 0 rfl) ?_
  refine lv_iload_n hx hb dX3_isHindered_1 rfl (lv_at hl 1 rfl) ?_
  obtain ⟨z_1, hz_1, hf⟩ := bn_some hf
  refine cRV (As := [.int p1]) (rest := []) ⟨hx, hb, hml, hown, hts⟩ (c_X3_thingOf l D cI cZ cJ cT a0 u0 p1 z_1 hz_1) (cwV 1 hts gX3_isHindered_X3_thingOf rfl rfl rfl (by decide +kernel) ⟨Nat.le_of_ble_eq_true rfl, Nat.le_of_ble_eq_true rfl⟩) hP hK (va_recv hK hP (ci := 3) (q0 := 0) rfl rfl) rfl rfl hl.1 (Nat.le_of_ble_eq_true rfl) dX3_isHindered_2 ⟨Nat.le_of_ble_eq_true rfl, Nat.le_of_ble_eq_true rfl⟩ ?_
  refine lv_istore (lv' := [(5, .int z_1), (0, .ref (a0 0)), (1, .int p1), (2, .int p2), (3, .int p3), (4, .int p4)]) hx hb dX3_isHindered_5 hl (by decide) rfl (fun ls hl => ?_)
  refine lv_iconst (v := 0) hx hb dX3_isHindered_7 (by decide) ?_
  refine lv_istore (lv' := [(6, .int 0), (5, .int z_1), (0, .ref (a0 0)), (1, .int p1), (2, .int p2), (3, .int p3), (4, .int p4)]) hx hb dX3_isHindered_8 hl (by decide) rfl (fun ls hl => ?_)
  obtain ⟨G10_2, hG10_2, hf⟩ := qj1_some hf
  have j10_2 : ∀ (n : Nat) (y10_2_6 : Int32) (ls : Array Slot), ql1 G10_2 n y10_2_6 = some o → lv_has ls 9 [(0, .ref (a0 0)), (1, .int p1), (2, .int p2), (3, .int p3), (4, .int p4), (5, .int z_1), (6, .int y10_2_6)] → W p l e (headSpec wsX3_isHindered rmX3_isHindered).room s m args below meth c s.heap [] 0 0 Q (F0 m 10 ls []) := by
    intro n
    induction n with
    | zero => intro y10_2_6 ls hf hl; exact (ql1_z hf).elim
    | succ n ih10_2 =>
      intro y10_2_6 ls hf hl
      have hf := ql1_s hG10_2 hf
      obtain ⟨r10_2, hr10_2⟩ : ∃ z, z = ql1 G10_2 n := ⟨_, rfl⟩
      rw [← hr10_2] at hf ih10_2
      refine lv_iload hx hb dX3_isHindered_10 (lv_at hl 6 rfl) ?_
      refine lv_bipush (v := 30) hx hb dX3_isHindered_12 (by decide) ?_
      refine lv_icmp_ge (tgt := 80) hx hb dX3_isHindered_14 (by decide) (fun c_3 => ?_) (fun c_3 => ?_)
      · have hf := ite_t hf c_3
        refine lv_iconst (v := 0) hx hb dX3_isHindered_80 (by decide) ?_
        rw [hQ]
        exact zretN (v := 0) (v' := 0) hx hb hr rfl (fun t ht hW => ⟨_, rfl, Option.some.inj hf, ht⟩) (fun _ h => nomatch h) dX3_isHindered_81 hlocks
      · have hf := ite_f hf c_3
        refine lv_iload hx hb dX3_isHindered_17 (lv_at hl 6 rfl) ?_
        refine lv_iload_n hx hb dX3_isHindered_19 rfl (lv_at hl 1 rfl) ?_
        obtain ⟨k74_4, hk74_4, hf⟩ := jn_some hf
        have j74_4 : ∀ (ls : Array Slot), k74_4 = some o → lv_has ls 9 [(0, .ref (a0 0)), (1, .int p1), (2, .int p2), (3, .int p3), (4, .int p4), (5, .int z_1), (6, .int y10_2_6)] → W p l e (headSpec wsX3_isHindered rmX3_isHindered).room s m args below meth c s.heap [] 0 0 Q (F0 m 74 ls []) := by
          intro ls hf hl
          have hf := qa0 hk74_4 hf
          refine lv_iinc (v := y10_2_6 + 1) (lv' := [(6, .int (y10_2_6 + 1)), (0, .ref (a0 0)), (1, .int p1), (2, .int p2), (3, .int p3), (4, .int p4), (5, .int z_1)]) hx hb dX3_isHindered_74 hl (k := 6) rfl rfl (by decide) rfl (fun ls hl => ?_)
          refine lv_goto (tgt := 10) hx hb dX3_isHindered_77 (by decide) ?_
          exact ih10_2 _ _ hf (lv_sub hl [1, 2, 3, 4, 5, 6, 0] rfl)
        refine lv_icmp_eq (tgt := 74) hx hb dX3_isHindered_20 (by decide) (fun c_5 => ?_) (fun c_5 => ?_)
        · have hf := ite_t hf c_5
          exact j74_4 _ hf (lv_sub hl [0, 1, 2, 3, 4, 5, 6] rfl)
        · have hf := ite_f hf c_5
          refine lv_aload_n hx hb dX3_isHindered_23 rfl (lv_at hl 0 rfl) ?_
          refine lv_iload hx hb dX3_isHindered_24 (lv_at hl 6 rfl) ?_
          refine lv_iload hx hb dX3_isHindered_26 (lv_at hl 5 rfl) ?_
          obtain ⟨z_6, hz_6, hf⟩ := bn_some hf
          refine cRV (As := [.int y10_2_6, .int z_1]) (rest := []) ⟨hx, hb, hml, hown, hts⟩ (c_X3_isOpenOf l D cI cZ cJ cT a0 u0 y10_2_6 z_1 z_6 hz_6) (cwV 2 hts gX3_isHindered_X3_isOpenOf rfl rfl rfl (by decide +kernel) ⟨Nat.le_of_ble_eq_true rfl, Nat.le_of_ble_eq_true rfl⟩) hP hK (va_recv hK hP (ci := 3) (q0 := 0) rfl rfl) rfl rfl hl.1 (Nat.le_of_ble_eq_true rfl) dX3_isHindered_28 ⟨Nat.le_of_ble_eq_true rfl, Nat.le_of_ble_eq_true rfl⟩ ?_
          refine lv_if_eq (tgt := 74) hx hb dX3_isHindered_31 (by decide) (fun c_7 => ?_) (fun c_7 => ?_)
          · have hf := ite_t hf c_7
            exact j74_4 _ hf (lv_sub hl [0, 1, 2, 3, 4, 5, 6] rfl)
          · have hf := ite_f hf c_7
            refine lv_aload_n hx hb dX3_isHindered_34 rfl (lv_at hl 0 rfl) ?_
            refine lv_iload hx hb dX3_isHindered_35 (lv_at hl 6 rfl) ?_
            refine lv_iload_n hx hb dX3_isHindered_37 rfl (lv_at hl 2 rfl) ?_
            refine lv_iload_n hx hb dX3_isHindered_38 rfl (lv_at hl 3 rfl) ?_
            refine lv_iconst (v := 1) hx hb dX3_isHindered_39 (by decide) ?_
            obtain ⟨z_8, hz_8, hf⟩ := bn_some hf
            refine cRV (As := [.int y10_2_6, .int p2, .int p3, .int 1]) (rest := []) ⟨hx, hb, hml, hown, hts⟩ (c_X3_countLocked l D cI cZ cJ cT a0 u0 y10_2_6 p2 p3 1 z_8 hz_8) (cwV 4 hts gX3_isHindered_X3_countLocked rfl rfl rfl (by decide +kernel) ⟨Nat.le_of_ble_eq_true rfl, Nat.le_of_ble_eq_true rfl⟩) hP hK (va_recv hK hP (ci := 3) (q0 := 0) rfl rfl) rfl rfl hl.1 (Nat.le_of_ble_eq_true rfl) dX3_isHindered_40 ⟨Nat.le_of_ble_eq_true rfl, Nat.le_of_ble_eq_true rfl⟩ ?_
            refine lv_istore (lv' := [(7, .int z_8), (0, .ref (a0 0)), (1, .int p1), (2, .int p2), (3, .int p3), (4, .int p4), (5, .int z_1), (6, .int y10_2_6)]) hx hb dX3_isHindered_43 hl (by decide) rfl (fun ls hl => ?_)
            refine lv_aload_n hx hb dX3_isHindered_45 rfl (lv_at hl 1 rfl) ?_
            refine lv_iload hx hb dX3_isHindered_46 (lv_at hl 7 rfl) ?_
            refine lv_iload_n hx hb dX3_isHindered_48 rfl (lv_at hl 3 rfl) ?_
            refine lv_iload_n hx hb dX3_isHindered_49 rfl (lv_at hl 4 rfl) ?_
            refine lv_iconst (v := 2) hx hb dX3_isHindered_50 (by decide) ?_
            obtain ⟨z_9, hz_9, hf⟩ := bn_some hf
            refine cRV (As := [.int y10_2_6, .int p2, .int p3, .int 2]) (rest := []) ⟨hx, hb, hml, hown, hts⟩ (c_X3_countLocked l D cI cZ cJ cT a0 u0 y10_2_6 p2 p3 2 z_9 hz_9) (cwV 4 hts gX3_isHindered_X3_countLocked rfl rfl rfl (by decide +kernel) ⟨Nat.le_of_ble_eq_true rfl, Nat.le_of_ble_eq_true rfl⟩) hP hK (va_recv hK hP (ci := 3) (q0 := 0) rfl rfl) rfl rfl hl.1 (Nat.le_of_ble_eq_true rfl) dX3_isHindered_51 ⟨Nat.le_of_ble_eq_true rfl, Nat.le_of_ble_eq_true rfl⟩ ?_
            refine lv_istore (lv' := [(8, .int z_9), (7, .int z_8), (0, .ref (a0 0)), (1, .int p1), (2, .int p2), (3, .int p3), (4, .int p4), (5, .int z_1), (6, .int y10_2_6)]) hx hb dX3_isHindered_54 hl (by decide) rfl (fun ls hl => ?_)
            refine lv_iload hx hb dX3_isHindered_56 (lv_at hl 0 rfl) ?_
            obtain ⟨k72_10, hk72_10, hf⟩ := jn_some hf
            have j72_10 : ∀ (ls : Array Slot), k72_10 = some o → lv_has ls 9 [] → W p l e (headSpec wsX3_isHindered rmX3_isHindered).room s m args below meth c s.heap [] 0 0 Q (F0 m 72 ls []) := by
              intro ls hf hl
              have hf := qa0 hk72_10 hf
              refine lv_iconst (v := 1) hx hb dX3_isHindered_72 (by decide) ?_
              rw [hQ]
              exact zretN (v := 1) (v' := 1) hx hb hr rfl (fun t ht hW => ⟨_, rfl, Option.some.inj hf, ht⟩) (fun _ h => nomatch h) dX3_isHindered_73 hlocks
            refine lv_if_gt (tgt := 72) hx hb dX3_isHindered_58 (by decide) (fun c_11 => ?_) (fun c_11 => ?_)
            · have hf := ite_t hf c_11
              exact j72_10 _ hf (lv_sub hl [] rfl)
            · have hf := ite_f hf c_11
              refine lv_iload hx hb dX3_isHindered_61 (lv_at hl 6 rfl) ?_
              refine lv_iconst (v := 2) hx hb dX3_isHindered_63 (by decide) ?_
              refine lv_icmp_ne (tgt := 74) hx hb dX3_isHindered_64 (by decide) (fun c_12 => ?_) (fun c_12 => ?_)
              · have hf := ite_f hf c_12
                exact j74_4 _ hf (lv_sub hl [2, 3, 4, 5, 6, 7, 8] rfl)
              · have hf := ite_t hf c_12
                refine lv_iload hx hb dX3_isHindered_67 (lv_at hl 1 rfl) ?_
                refine lv_if_le (tgt := 74) hx hb dX3_isHindered_69 (by decide) (fun c_13 => ?_) (fun c_13 => ?_)
                · have hf := ite_t hf c_13
                  exact j74_4 _ hf (lv_sub hl [2, 3, 4, 5, 6, 7, 8] rfl)
                · have hf := ite_f hf c_13
                  exact j72_10 _ hf (lv_sub hl [] rfl)
  exact j10_2 4096 _ _ hf (lv_sub hl [2, 3, 4, 5, 6, 1, 0] rfl)
