theorem dX5_putNames_0 : decode cX5_putNames 0 = .ok (.iload_n 1, 1) := by decide +kernel
theorem dX5_putNames_1 : decode cX5_putNames 1 = .ok (.istore_n 2, 1) := by decide +kernel
theorem dX5_putNames_2 : decode cX5_putNames 2 = .ok (.iconst 0, 1) := by decide +kernel
theorem dX5_putNames_3 : decode cX5_putNames 3 = .ok (.istore_n 3, 1) := by decide +kernel
theorem dX5_putNames_4 : decode cX5_putNames 4 = .ok (.iload_n 3, 1) := by decide +kernel
theorem dX5_putNames_5 : decode cX5_putNames 5 = .ok (.iconst 4, 1) := by decide +kernel
theorem dX5_putNames_6 : decode cX5_putNames 6 = .ok (.if_icmp .ge 50, 3) := by decide +kernel
theorem dX5_putNames_9 : decode cX5_putNames 9 = .ok (.iload_n 2, 1) := by decide +kernel
theorem dX5_putNames_10 : decode cX5_putNames 10 = .ok (.ifCond .le 46, 3) := by decide +kernel
theorem dX5_putNames_13 : decode cX5_putNames 13 = .ok (.aload_n 0, 1) := by decide +kernel
theorem dX5_putNames_14 : decode cX5_putNames 14 = .ok (.getfield 15, 3) := by decide +kernel
theorem dX5_putNames_17 : decode cX5_putNames 17 = .ok (.bipush 20, 2) := by decide +kernel
theorem dX5_putNames_19 : decode cX5_putNames 19 = .ok (.if_icmp .ge 37, 3) := by decide +kernel
theorem dX5_putNames_22 : decode cX5_putNames 22 = .ok (.aload_n 0, 1) := by decide +kernel
theorem dX5_putNames_23 : decode cX5_putNames 23 = .ok (.getfield 11, 3) := by decide +kernel
theorem dX5_putNames_26 : decode cX5_putNames 26 = .ok (.aload_n 0, 1) := by decide +kernel
theorem dX5_putNames_27 : decode cX5_putNames 27 = .ok (.getfield 15, 3) := by decide +kernel
theorem dX5_putNames_30 : decode cX5_putNames 30 = .ok (.iload_n 2, 1) := by decide +kernel
theorem dX5_putNames_31 : decode cX5_putNames 31 = .ok (.bipush 100, 2) := by decide +kernel
theorem dX5_putNames_33 : decode cX5_putNames 33 = .ok (.irem, 1) := by decide +kernel
theorem dX5_putNames_34 : decode cX5_putNames 34 = .ok (.iastore, 1) := by decide +kernel
theorem dX5_putNames_35 : decode cX5_putNames 35 = .ok (.aload_n 0, 1) := by decide +kernel
theorem dX5_putNames_36 : decode cX5_putNames 36 = .ok (.dup, 1) := by decide +kernel
theorem dX5_putNames_37 : decode cX5_putNames 37 = .ok (.getfield 15, 3) := by decide +kernel
theorem dX5_putNames_40 : decode cX5_putNames 40 = .ok (.iconst 1, 1) := by decide +kernel
theorem dX5_putNames_41 : decode cX5_putNames 41 = .ok (.iadd, 1) := by decide +kernel
theorem dX5_putNames_42 : decode cX5_putNames 42 = .ok (.putfield 15, 3) := by decide +kernel
theorem dX5_putNames_45 : decode cX5_putNames 45 = .ok (.iload_n 2, 1) := by decide +kernel
theorem dX5_putNames_46 : decode cX5_putNames 46 = .ok (.bipush 100, 2) := by decide +kernel
theorem dX5_putNames_48 : decode cX5_putNames 48 = .ok (.idiv, 1) := by decide +kernel
theorem dX5_putNames_49 : decode cX5_putNames 49 = .ok (.istore_n 2, 1) := by decide +kernel
theorem dX5_putNames_50 : decode cX5_putNames 50 = .ok (.iinc 3 1, 3) := by decide +kernel
theorem dX5_putNames_53 : decode cX5_putNames 53 = .ok (.goto (-49), 3) := by decide +kernel
theorem dX5_putNames_56 : decode cX5_putNames 56 = .ok (.return_, 1) := by decide +kernel
def f_X5_putNames (u0 : S1) (p1 : Int32) : Option (S1) := qj3 (fun (r4_1 : Int32 → Int32 → S1 → Option (S1)) (y4_1_2 : Int32) (y4_1_3 : Int32) (u4_1_0 : S1) => jn (some (u4_1_0)) (fun k56_2 => if 4 ≤ y4_1_3 then k56_2 else if y4_1_2 ≤ 0 then k56_2 else if 20 ≤ (u4_1_0 1 0) then k56_2 else chk (inb (u4_1_0 1 0) 20) (bv (st u4_1_0 0 (u4_1_0 1 0) (y4_1_2 - y4_1_2 / 100 * 100)) (fun u_6 => bv (up u_6 1 (fun _ => (u_6 1 0) + 1)) (fun u_7 => r4_1 (y4_1_2 / 100) (y4_1_3 + 1) u_7))))) (fun k4_1 => k4_1 p1 0 u0)
def rmX5_putNames : Room := { frames := 0, cells := 0, slots := 0, locals := 0 }
set_option maxHeartbeats 4000000 in
set_option maxRecDepth 100000 in
theorem c_X5_putNames (l : Launch) (D : va_G) (cI cZ cJ cT : ClassId) (a0 : Nat → Nat) (sz : Nat) (u0 : S1) (p1 : Int32) (o : S1) (hf : f_X5_putNames u0 p1 = some o) : Met l yX5_putNames wsX5_putNames rmX5_putNames (va_Pc [.ref (a0 0), .int p1] (PW D cls (tys cI cZ cJ cT) ((wX5 cI cZ a0 u0)) sz)) (QWv D cls ((wX5 cI cZ a0 o)) (va_A ((wX5 cI cZ a0 u0)) sz)) 0 0 (va_A ((wX5 cI cZ a0 u0)) sz) := by
  refine Met.ofW (cc := cX5_putNames) (maxL := 4) (ret := none) (by decide) rfl ?_
  intro p e s m args below meth c s₁ B hml hv
  obtain ⟨hav, hsz, hP, hK, hD0⟩ := hv
  have hx := B.exec
  have hb := B.bytes
  have hr := B.returns
  have hlocks := B.notSynchronized
  have hts := atoms_spec (ws := wsX5_putNames) B.pre
  have hown : s.vm.findClass RX5 = some m.cls := findClass_of_methodNamed B.named
  have i5 : ∀ w ∈ wsX50, w ∈ wsX5_putNames := fun w h => List.mem_cons_of_mem _ (List.mem_append_right _ h)
  have hk11 := hts (.fieldLink RX5 11 "Inodery$Walk" "names" "[I") (by decide +kernel)
  have hk15 := hts (.fieldLink RX5 15 "Inodery$Walk" "left" "I") (by decide +kernel)
  subst hsz
  have hD := hD0.self (sz := s.heap.size)
  generalize hAe : va_A ((wX5 cI cZ a0 u0)) s.heap.size = A at hD ⊢
  have hA : ∀ q : Nat, s.heap.size ≤ q → A q := fun q h => by rw [← hAe]; exact Or.inr h
  have hS : va_S A s.heap s.heap [] := va_S.rf
  have hDD : ∀ w0 : S1, va_D A ((wX5 cI cZ a0 w0)) := fun _ => D_same (w := (wX5 cI cZ a0 u0)) rfl hD
  refine Wq (fun Q hQ => ?_)
  refine W_entry hav (Nat.le_of_ble_eq_true rfl) (fun ls hl => ?_)
  have hl : lv_has ls 4 [(0, .ref (a0 0)), (1, .int p1)] := hl
  unfold f_X5_putNames at hf
  refine W_heap hP hS (fun H locs hP hS => ?_)
  refine lv_iload_n hx hb dX5_putNames_0 rfl (lv_at hl 1 rfl) ?_
  refine lv_istore_n (lv' := [(2, .int p1), (0, .ref (a0 0)), (1, .int p1)]) hx hb dX5_putNames_1 rfl hl (by decide) rfl (fun ls hl => ?_)
  refine lv_iconst (v := 0) hx hb dX5_putNames_2 (by decide) ?_
  refine lv_istore_n (lv' := [(3, .int 0), (2, .int p1), (0, .ref (a0 0)), (1, .int p1)]) hx hb dX5_putNames_3 rfl hl (by decide) rfl (fun ls hl => ?_)
  obtain ⟨G4_1, hG4_1, hf⟩ := qj3_some hf
  have j4_1 : ∀ (n : Nat) (y4_1_2 : Int32) (y4_1_3 : Int32) (u4_1_0 : S1) (H : Heap) (locs : List Loc) (ls : Array Slot), ql3 G4_1 n y4_1_2 y4_1_3 u4_1_0 = some o → va_P D cls (wX5 cI cZ a0 u4_1_0) H → va_S A s.heap H locs → lv_has ls 4 [(0, .ref (a0 0)), (2, .int y4_1_2), (3, .int y4_1_3)] → W p l e (headSpec wsX5_putNames rmX5_putNames).room s m args below meth c H locs 0 0 Q (F0 m 4 ls []) := by
    intro n
    induction n with
    | zero => intro y4_1_2 y4_1_3 u4_1_0 H locs ls hf hP hS hl; exact (ql3_z hf).elim
    | succ n ih4_1 =>
      intro y4_1_2 y4_1_3 u4_1_0 H locs ls hf hP hS hl
      have hf := ql3_s hG4_1 hf
      obtain ⟨r4_1, hr4_1⟩ : ∃ z, z = ql3 G4_1 n := ⟨_, rfl⟩
      rw [← hr4_1] at hf ih4_1
      refine lv_iload_n hx hb dX5_putNames_4 rfl (lv_at hl 2 rfl) ?_
      refine lv_iconst (v := 4) hx hb dX5_putNames_5 (by decide) ?_
      obtain ⟨k56_2, hk56_2, hf⟩ := jn_some hf
      have j56_2 : ∀ (H : Heap) (locs : List Loc) (ls : Array Slot), k56_2 = some o → va_P D cls (wX5 cI cZ a0 u4_1_0) H → va_S A s.heap H locs → lv_has ls 4 [] → W p l e (headSpec wsX5_putNames rmX5_putNames).room s m args below meth c H locs 0 0 Q (F0 m 56 ls []) := by
        intro H locs ls hf hP hS hl
        have hf := qa0 hk56_2 hf
        have eo := Option.some.inj hf
        have hP : va_P D cls (wX5 cI cZ a0 o) H := by rw [← eo]; exact hP
        rw [hQ]
        exact W.vret hx hb hr (fun t ht hW => ⟨⟨(), rfl, trivial, P_at ht hP⟩, hS.F ht⟩) hS.2.2 dX5_putNames_56 hlocks
      refine lv_icmp_ge (tgt := 56) hx hb dX5_putNames_6 (by decide) (fun c_3 => ?_) (fun c_3 => ?_)
      · have hf := ite_t hf c_3
        exact j56_2 _ _ _ hf hP hS (lv_sub hl [] rfl)
      · have hf := ite_f hf c_3
        refine lv_iload_n hx hb dX5_putNames_9 rfl (lv_at hl 1 rfl) ?_
        refine lv_if_le (tgt := 56) hx hb dX5_putNames_10 (by decide) (fun c_4 => ?_) (fun c_4 => ?_)
        · have hf := ite_t hf c_4
          exact j56_2 _ _ _ hf hP hS (lv_sub hl [] rfl)
        · have hf := ite_f hf c_4
          refine lv_aload_n hx hb dX5_putNames_13 rfl (lv_at hl 0 rfl) ?_
          refine va_get (D := D) (ci := 5) (v := .int (u4_1_0 1 0)) (C := RX5) (T := TX5) (N := 2) hx hb hts i5 hown hK hP 0 rfl rfl 1 (by decide) hk15 (fun _ h9 => h9) rfl dX5_putNames_14 ?_
          refine lv_bipush (v := 20) hx hb dX5_putNames_17 (by decide) ?_
          refine lv_icmp_ge (tgt := 56) hx hb dX5_putNames_19 (by decide) (fun c_5 => ?_) (fun c_5 => ?_)
          · have hf := ite_t hf c_5
            exact j56_2 _ _ _ hf hP hS (lv_sub hl [] rfl)
          · have hf := ite_f hf c_5
            refine lv_aload_n hx hb dX5_putNames_22 rfl (lv_at hl 0 rfl) ?_
            refine va_get (D := D) (ci := 5) (v := .ref (a0 1)) (C := RX5) (T := TX5) (N := 2) hx hb hts i5 hown hK hP 0 rfl rfl 0 (by decide) hk11 (fun _ h9 => h9) rfl dX5_putNames_23 ?_
            refine lv_aload_n hx hb dX5_putNames_26 rfl (lv_at hl 0 rfl) ?_
            refine va_get (D := D) (ci := 5) (v := .int (u4_1_0 1 0)) (C := RX5) (T := TX5) (N := 2) hx hb hts i5 hown hK hP 0 rfl rfl 1 (by decide) hk15 (fun _ h9 => h9) rfl dX5_putNames_27 ?_
            refine lv_iload_n hx hb dX5_putNames_30 rfl (lv_at hl 1 rfl) ?_
            refine lv_bipush (v := 100) hx hb dX5_putNames_31 (by decide) ?_
            refine lv_irem hx hb dX5_putNames_33 (by decide) ?_
            obtain ⟨hi, hf⟩ := chk_some hf
            obtain ⟨u_6, hu_6, hf⟩ := bv_some hf
            refine va_iast hx hb hK hP (hDD u4_1_0) hS 1 0 rfl rfl (inb_in hi) dX5_putNames_34 (fun H locs hP _ hS => ?_)
            have hP : va_P D cls (wX5 cI cZ a0 u_6) H := by rw [hu_6]; exact hP
            refine lv_aload_n hx hb dX5_putNames_35 rfl (lv_at hl 0 rfl) ?_
            refine lv_dup hx hb dX5_putNames_36 rfl ?_
            refine va_get (D := D) (ci := 5) (v := .int (u_6 1 0)) (C := RX5) (T := TX5) (N := 2) hx hb hts i5 hown hK hP 0 rfl rfl 1 (by decide) hk15 (fun _ h9 => h9) rfl dX5_putNames_37 ?_
            refine lv_iconst (v := 1) hx hb dX5_putNames_40 (by decide) ?_
            refine lv_iadd hx hb dX5_putNames_41 ?_
            obtain ⟨u_7, hu_7, hf⟩ := bv_some hf
            refine va_put (D := D) (ci := 5) (v := .int ((u_6 1 0) + 1)) (ty := .int) (C := RX5) (T := TX5) (N := 2) hx hb hts i5 tyX5 tyX5_ok nmX5 hown hK hP (hDD u_6) hS 0 rfl rfl 1 (by decide) hk15 (fun _ h9 => h9) rfl (by decide +kernel) rfl rfl (Nat.le_of_ble_eq_true rfl) dX5_putNames_42 (fun H locs hP _ hS => ?_)
            have hP : va_P D cls (wX5 cI cZ a0 u_7) H := by rw [hu_7]; exact hP
            refine lv_iload_n hx hb dX5_putNames_45 rfl (lv_at hl 1 rfl) ?_
            refine lv_bipush (v := 100) hx hb dX5_putNames_46 (by decide) ?_
            refine lv_idiv hx hb dX5_putNames_48 (by decide) ?_
            refine lv_istore_n (lv' := [(2, .int (y4_1_2 / 100)), (0, .ref (a0 0)), (3, .int y4_1_3)]) hx hb dX5_putNames_49 rfl hl (by decide) rfl (fun ls hl => ?_)
            refine lv_iinc (v := y4_1_3 + 1) (lv' := [(3, .int (y4_1_3 + 1)), (2, .int (y4_1_2 / 100)), (0, .ref (a0 0))]) hx hb dX5_putNames_50 hl (k := 2) rfl rfl (by decide) rfl (fun ls hl => ?_)
            refine lv_goto (tgt := 4) hx hb dX5_putNames_53 (by decide) ?_
            exact ih4_1 _ _ _ _ _ _ hf hP hS (lv_sub hl [2, 1, 0] rfl)
  exact j4_1 4096 _ _ _ _ _ _ hf hP hS (lv_sub hl [2, 1, 0] rfl)
theorem dX5_nextName_0 : decode cX5_nextName 0 = .ok (.aload_n 0, 1) := by decide +kernel
theorem dX5_nextName_1 : decode cX5_nextName 1 = .ok (.getfield 15, 3) := by decide +kernel
theorem dX5_nextName_4 : decode cX5_nextName 4 = .ok (.iconst 1, 1) := by decide +kernel
theorem dX5_nextName_5 : decode cX5_nextName 5 = .ok (.if_icmp .lt 12, 3) := by decide +kernel
theorem dX5_nextName_8 : decode cX5_nextName 8 = .ok (.aload_n 0, 1) := by decide +kernel
theorem dX5_nextName_9 : decode cX5_nextName 9 = .ok (.getfield 15, 3) := by decide +kernel
theorem dX5_nextName_12 : decode cX5_nextName 12 = .ok (.bipush 20, 2) := by decide +kernel
theorem dX5_nextName_14 : decode cX5_nextName 14 = .ok (.if_icmp .le 5, 3) := by decide +kernel
theorem dX5_nextName_17 : decode cX5_nextName 17 = .ok (.iconst 0, 1) := by decide +kernel
theorem dX5_nextName_18 : decode cX5_nextName 18 = .ok (.ireturn, 1) := by decide +kernel
theorem dX5_nextName_19 : decode cX5_nextName 19 = .ok (.aload_n 0, 1) := by decide +kernel
theorem dX5_nextName_20 : decode cX5_nextName 20 = .ok (.dup, 1) := by decide +kernel
theorem dX5_nextName_21 : decode cX5_nextName 21 = .ok (.getfield 15, 3) := by decide +kernel
theorem dX5_nextName_24 : decode cX5_nextName 24 = .ok (.iconst 1, 1) := by decide +kernel
theorem dX5_nextName_25 : decode cX5_nextName 25 = .ok (.isub, 1) := by decide +kernel
theorem dX5_nextName_26 : decode cX5_nextName 26 = .ok (.putfield 15, 3) := by decide +kernel
theorem dX5_nextName_29 : decode cX5_nextName 29 = .ok (.aload_n 0, 1) := by decide +kernel
theorem dX5_nextName_30 : decode cX5_nextName 30 = .ok (.getfield 11, 3) := by decide +kernel
theorem dX5_nextName_33 : decode cX5_nextName 33 = .ok (.aload_n 0, 1) := by decide +kernel
theorem dX5_nextName_34 : decode cX5_nextName 34 = .ok (.getfield 15, 3) := by decide +kernel
theorem dX5_nextName_37 : decode cX5_nextName 37 = .ok (.iaload, 1) := by decide +kernel
theorem dX5_nextName_38 : decode cX5_nextName 38 = .ok (.ireturn, 1) := by decide +kernel
def f_X5_nextName (u0 : S1) : Option (Int32 × S1) := jn (some (0, u0)) (fun k17_1 => if (u0 1 0) < 1 then k17_1 else if (u0 1 0) ≤ 20 then bv (up u0 1 (fun _ => (u0 1 0) - 1)) (fun u_4 => chk (inb (u_4 1 0) 20) (some ((u_4 0 ((u_4 1 0)).toNatClampNeg), u_4))) else k17_1)
def rmX5_nextName : Room := { frames := 0, cells := 0, slots := 0, locals := 0 }
set_option maxHeartbeats 4000000 in
set_option maxRecDepth 100000 in
theorem c_X5_nextName (l : Launch) (D : va_G) (cI cZ cJ cT : ClassId) (a0 : Nat → Nat) (sz : Nat) (u0 : S1) (o : Int32 × S1) (hf : f_X5_nextName u0 = some o) : Met l yX5_nextName wsX5_nextName rmX5_nextName (va_Pc [.ref (a0 0)] (PW D cls (tys cI cZ cJ cT) ((wX5 cI cZ a0 u0)) sz)) (QWi D cls o.1 ((wX5 cI cZ a0 o.2)) (va_A ((wX5 cI cZ a0 u0)) sz)) 0 0 (va_A ((wX5 cI cZ a0 u0)) sz) := by
  refine Met.ofW (cc := cX5_nextName) (maxL := 1) (ret := (some .int)) (by decide) rfl ?_
  intro p e s m args below meth c s₁ B hml hv
  obtain ⟨hav, hsz, hP, hK, hD0⟩ := hv
  have hx := B.exec
  have hb := B.bytes
  have hr := B.returns
  have hlocks := B.notSynchronized
  have hts := atoms_spec (ws := wsX5_nextName) B.pre
  have hown : s.vm.findClass RX5 = some m.cls := findClass_of_methodNamed B.named
  have i5 : ∀ w ∈ wsX50, w ∈ wsX5_nextName := fun w h => List.mem_cons_of_mem _ (List.mem_append_right _ h)
  have hk11 := hts (.fieldLink RX5 11 "Inodery$Walk" "names" "[I") (by decide +kernel)
  have hk15 := hts (.fieldLink RX5 15 "Inodery$Walk" "left" "I") (by decide +kernel)
  subst hsz
  have hD := hD0.self (sz := s.heap.size)
  generalize hAe : va_A ((wX5 cI cZ a0 u0)) s.heap.size = A at hD ⊢
  have hA : ∀ q : Nat, s.heap.size ≤ q → A q := fun q h => by rw [← hAe]; exact Or.inr h
  have hS : va_S A s.heap s.heap [] := va_S.rf
  have hDD : ∀ w0 : S1, va_D A ((wX5 cI cZ a0 w0)) := fun _ => D_same (w := (wX5 cI cZ a0 u0)) rfl hD
  refine Wq (fun Q hQ => ?_)
  refine W_entry hav (Nat.le_of_ble_eq_true rfl) (fun ls hl => ?_)
  have hl : lv_has ls 1 [(0, .ref (a0 0))] := hl
  unfold f_X5_nextName at hf
  refine W_heap hP hS (fun H locs hP hS => ?_)
  refine lv_aload_n hx hb dX5_nextName_0 rfl (lv_at hl 0 rfl) ?_
  refine va_get (D := D) (ci := 5) (v := .int (u0 1 0)) (C := RX5) (T := TX5) (N := 2) hx hb hts i5 hown hK hP 0 rfl rfl 1 (by decide) hk15 (fun _ h9 => h9) rfl dX5_nextName_1 ?_
  refine lv_iconst (v := 1) hx hb dX5_nextName_4 (by decide) ?_
  obtain ⟨k17_1, hk17_1, hf⟩ := jn_some hf
  have j17_1 : ∀ (H : Heap) (locs : List Loc) (ls : Array Slot), k17_1 = some o → va_P D cls (wX5 cI cZ a0 u0) H → va_S A s.heap H locs → lv_has ls 1 [] → W p l e (headSpec wsX5_nextName rmX5_nextName).room s m args below meth c H locs 0 0 Q (F0 m 17 ls []) := by
    intro H locs ls hf hP hS hl
    have hf := qa0 hk17_1 hf
    refine lv_iconst (v := 0) hx hb dX5_nextName_17 (by decide) ?_
    have eo := Option.some.inj hf
    have hP : va_P D cls (wX5 cI cZ a0 o.2) H := by rw [← eo]; exact hP
    rw [hQ]
    exact W.iret hx hb hr (fun t ht hW => ⟨⟨_, (), rfl, congrArg Prod.fst eo, P_at ht hP⟩, hS.F ht⟩) hS.2.2 dX5_nextName_18 hlocks
  refine lv_icmp_lt (tgt := 17) hx hb dX5_nextName_5 (by decide) (fun c_2 => ?_) (fun c_2 => ?_)
  · have hf := ite_t hf c_2
    exact j17_1 _ _ _ hf hP hS (lv_sub hl [] rfl)
  · have hf := ite_f hf c_2
    refine lv_aload_n hx hb dX5_nextName_8 rfl (lv_at hl 0 rfl) ?_
    refine va_get (D := D) (ci := 5) (v := .int (u0 1 0)) (C := RX5) (T := TX5) (N := 2) hx hb hts i5 hown hK hP 0 rfl rfl 1 (by decide) hk15 (fun _ h9 => h9) rfl dX5_nextName_9 ?_
    refine lv_bipush (v := 20) hx hb dX5_nextName_12 (by decide) ?_
    refine lv_icmp_le (tgt := 19) hx hb dX5_nextName_14 (by decide) (fun c_3 => ?_) (fun c_3 => ?_)
    · have hf := ite_t hf c_3
      refine lv_aload_n hx hb dX5_nextName_19 rfl (lv_at hl 0 rfl) ?_
      refine lv_dup hx hb dX5_nextName_20 rfl ?_
      refine va_get (D := D) (ci := 5) (v := .int (u0 1 0)) (C := RX5) (T := TX5) (N := 2) hx hb hts i5 hown hK hP 0 rfl rfl 1 (by decide) hk15 (fun _ h9 => h9) rfl dX5_nextName_21 ?_
      refine lv_iconst (v := 1) hx hb dX5_nextName_24 (by decide) ?_
      refine lv_isub hx hb dX5_nextName_25 ?_
      obtain ⟨u_4, hu_4, hf⟩ := bv_some hf
      refine va_put (D := D) (ci := 5) (v := .int ((u0 1 0) - 1)) (ty := .int) (C := RX5) (T := TX5) (N := 2) hx hb hts i5 tyX5 tyX5_ok nmX5 hown hK hP (hDD u0) hS 0 rfl rfl 1 (by decide) hk15 (fun _ h9 => h9) rfl (by decide +kernel) rfl rfl (Nat.le_of_ble_eq_true rfl) dX5_nextName_26 (fun H locs hP _ hS => ?_)
      have hP : va_P D cls (wX5 cI cZ a0 u_4) H := by rw [hu_4]; exact hP
      refine lv_aload_n hx hb dX5_nextName_29 rfl (lv_at hl 0 rfl) ?_
      refine va_get (D := D) (ci := 5) (v := .ref (a0 1)) (C := RX5) (T := TX5) (N := 2) hx hb hts i5 hown hK hP 0 rfl rfl 0 (by decide) hk11 (fun _ h9 => h9) rfl dX5_nextName_30 ?_
      refine lv_aload_n hx hb dX5_nextName_33 rfl (lv_at hl 0 rfl) ?_
      refine va_get (D := D) (ci := 5) (v := .int (u_4 1 0)) (C := RX5) (T := TX5) (N := 2) hx hb hts i5 hown hK hP 0 rfl rfl 1 (by decide) hk15 (fun _ h9 => h9) rfl dX5_nextName_34 ?_
      obtain ⟨hi, hf⟩ := chk_some hf
      refine va_iald hx hb hK hP 1 0 rfl rfl (inb_in hi) dX5_nextName_37 ?_
      have eo := Option.some.inj hf
      have hP : va_P D cls (wX5 cI cZ a0 o.2) H := by rw [← eo]; exact hP
      rw [hQ]
      exact W.iret hx hb hr (fun t ht hW => ⟨⟨_, (), rfl, congrArg Prod.fst eo, P_at ht hP⟩, hS.F ht⟩) hS.2.2 dX5_nextName_38 hlocks
    · have hf := ite_f hf c_3
      exact j17_1 _ _ _ hf hP hS (lv_sub hl [] rfl)
set_option maxRecDepth 20000 in
theorem ggX5_thingAt_X4_isOfKind : GoodIn wsX5_thingAt wsX4_isOfKind := goodIn_r _ [35, 36, 37, 38, 39, 15, 40, 41, 42, 43, 51, 52, 53, 54, 55, 56, 57, 58, 59, 60, 61, 62] (by decide +kernel) (by decide +kernel)
set_option maxRecDepth 20000 in
theorem gX5_thingAt_X4_isOfKind : GoodIn wsX5_thingAt (wsV RX5 33 RX4 yX4_isOfKind wsX4_isOfKind) := goodIn_app (goodIn_of _ (by decide +kernel)) ggX5_thingAt_X4_isOfKind
set_option maxRecDepth 20000 in
theorem ggX5_thingAt_X4_pathOf : GoodIn wsX5_thingAt wsX4_pathOf := goodIn_r _ [47, 48, 41, 42, 15, 43, 51, 52, 53, 54, 55, 56, 57, 58, 59, 60, 61, 62] (by decide +kernel) (by decide +kernel)
set_option maxRecDepth 20000 in
theorem gX5_thingAt_X4_pathOf : GoodIn wsX5_thingAt (wsV RX5 37 RX4 yX4_pathOf wsX4_pathOf) := goodIn_app (goodIn_of _ (by decide +kernel)) ggX5_thingAt_X4_pathOf
set_option maxRecDepth 20000 in
theorem ggX5_thingAt_X4_thingNamed : GoodIn wsX5_thingAt wsX4_thingNamed := goodIn_r _ [16, 17, 18, 19, 15, 20, 21, 22, 23, 24, 25, 26, 27, 28, 29, 30, 31, 51, 52, 53, 54, 55, 56, 57, 58, 59, 60, 61, 62] (by decide +kernel) (by decide +kernel)
set_option maxRecDepth 20000 in
theorem gX5_thingAt_X4_thingNamed : GoodIn wsX5_thingAt (wsV RX5 27 RX4 yX4_thingNamed wsX4_thingNamed) := goodIn_app (goodIn_of _ (by decide +kernel)) ggX5_thingAt_X4_thingNamed
set_option maxRecDepth 20000 in
theorem ggX5_thingAt_X5_nextName : GoodIn wsX5_thingAt wsX5_nextName := goodIn_r _ [11, 1, 7, 49, 50] (by decide +kernel) (by decide +kernel)
set_option maxRecDepth 20000 in
theorem gX5_thingAt_X5_nextName : GoodIn wsX5_thingAt (wsV RX5 23 RX5 yX5_nextName wsX5_nextName) := goodIn_app (goodIn_of _ (by decide +kernel)) ggX5_thingAt_X5_nextName
set_option maxRecDepth 20000 in
theorem ggX5_thingAt_X5_putNames : GoodIn wsX5_thingAt wsX5_putNames := goodIn_r _ [6, 1, 7, 49, 50] (by decide +kernel) (by decide +kernel)
set_option maxRecDepth 20000 in
theorem gX5_thingAt_X5_putNames : GoodIn wsX5_thingAt (wsV RX5 19 RX5 yX5_putNames wsX5_putNames) := goodIn_app (goodIn_of _ (by decide +kernel)) ggX5_thingAt_X5_putNames
theorem dX5_thingAt_0 : decode cX5_thingAt 0 = .ok (.aload_n 0, 1) := by decide +kernel
theorem dX5_thingAt_1 : decode cX5_thingAt 1 = .ok (.iconst 0, 1) := by decide +kernel
theorem dX5_thingAt_2 : decode cX5_thingAt 2 = .ok (.putfield 15, 3) := by decide +kernel
theorem dX5_thingAt_5 : decode cX5_thingAt 5 = .ok (.aload_n 0, 1) := by decide +kernel
theorem dX5_thingAt_6 : decode cX5_thingAt 6 = .ok (.iload_n 2, 1) := by decide +kernel
theorem dX5_thingAt_7 : decode cX5_thingAt 7 = .ok (.invokevirtual 19, 3) := by decide +kernel
theorem dX5_thingAt_10 : decode cX5_thingAt 10 = .ok (.iconst 0, 1) := by decide +kernel
theorem dX5_thingAt_11 : decode cX5_thingAt 11 = .ok (.istore 4, 2) := by decide +kernel
theorem dX5_thingAt_13 : decode cX5_thingAt 13 = .ok (.iconst 0, 1) := by decide +kernel
theorem dX5_thingAt_14 : decode cX5_thingAt 14 = .ok (.istore 5, 2) := by decide +kernel
theorem dX5_thingAt_16 : decode cX5_thingAt 16 = .ok (.iconst 0, 1) := by decide +kernel
theorem dX5_thingAt_17 : decode cX5_thingAt 17 = .ok (.istore 6, 2) := by decide +kernel
theorem dX5_thingAt_19 : decode cX5_thingAt 19 = .ok (.iload 6, 2) := by decide +kernel
theorem dX5_thingAt_21 : decode cX5_thingAt 21 = .ok (.bipush 20, 2) := by decide +kernel
theorem dX5_thingAt_23 : decode cX5_thingAt 23 = .ok (.if_icmp .ge 81, 3) := by decide +kernel
theorem dX5_thingAt_26 : decode cX5_thingAt 26 = .ok (.aload_n 0, 1) := by decide +kernel
theorem dX5_thingAt_27 : decode cX5_thingAt 27 = .ok (.getfield 15, 3) := by decide +kernel
theorem dX5_thingAt_30 : decode cX5_thingAt 30 = .ok (.ifCond .le 74, 3) := by decide +kernel
theorem dX5_thingAt_33 : decode cX5_thingAt 33 = .ok (.aload_n 1, 1) := by decide +kernel
theorem dX5_thingAt_34 : decode cX5_thingAt 34 = .ok (.iload 4, 2) := by decide +kernel
theorem dX5_thingAt_36 : decode cX5_thingAt 36 = .ok (.aload_n 0, 1) := by decide +kernel
theorem dX5_thingAt_37 : decode cX5_thingAt 37 = .ok (.invokevirtual 23, 3) := by decide +kernel
theorem dX5_thingAt_40 : decode cX5_thingAt 40 = .ok (.invokevirtual 27, 3) := by decide +kernel
theorem dX5_thingAt_43 : decode cX5_thingAt 43 = .ok (.istore 4, 2) := by decide +kernel
theorem dX5_thingAt_45 : decode cX5_thingAt 45 = .ok (.iload 4, 2) := by decide +kernel
theorem dX5_thingAt_47 : decode cX5_thingAt 47 = .ok (.iconst (-1), 1) := by decide +kernel
theorem dX5_thingAt_48 : decode cX5_thingAt 48 = .ok (.if_icmp .ne 5, 3) := by decide +kernel
theorem dX5_thingAt_51 : decode cX5_thingAt 51 = .ok (.iconst (-1), 1) := by decide +kernel
theorem dX5_thingAt_52 : decode cX5_thingAt 52 = .ok (.ireturn, 1) := by decide +kernel
theorem dX5_thingAt_53 : decode cX5_thingAt 53 = .ok (.aload_n 1, 1) := by decide +kernel
theorem dX5_thingAt_54 : decode cX5_thingAt 54 = .ok (.iload 4, 2) := by decide +kernel
theorem dX5_thingAt_56 : decode cX5_thingAt 56 = .ok (.iconst 2, 1) := by decide +kernel
theorem dX5_thingAt_57 : decode cX5_thingAt 57 = .ok (.invokevirtual 33, 3) := by decide +kernel
theorem dX5_thingAt_60 : decode cX5_thingAt 60 = .ok (.ifCond .eq 38, 3) := by decide +kernel
theorem dX5_thingAt_63 : decode cX5_thingAt 63 = .ok (.aload_n 0, 1) := by decide +kernel
theorem dX5_thingAt_64 : decode cX5_thingAt 64 = .ok (.getfield 15, 3) := by decide +kernel
theorem dX5_thingAt_67 : decode cX5_thingAt 67 = .ok (.ifCond .gt 7, 3) := by decide +kernel
theorem dX5_thingAt_70 : decode cX5_thingAt 70 = .ok (.iload_n 3, 1) := by decide +kernel
theorem dX5_thingAt_71 : decode cX5_thingAt 71 = .ok (.ifCond .eq 27, 3) := by decide +kernel
theorem dX5_thingAt_74 : decode cX5_thingAt 74 = .ok (.iload 5, 2) := by decide +kernel
theorem dX5_thingAt_76 : decode cX5_thingAt 76 = .ok (.iconst 4, 1) := by decide +kernel
theorem dX5_thingAt_77 : decode cX5_thingAt 77 = .ok (.if_icmp .ne 5, 3) := by decide +kernel
theorem dX5_thingAt_80 : decode cX5_thingAt 80 = .ok (.iconst (-1), 1) := by decide +kernel
theorem dX5_thingAt_81 : decode cX5_thingAt 81 = .ok (.ireturn, 1) := by decide +kernel
theorem dX5_thingAt_82 : decode cX5_thingAt 82 = .ok (.iinc 5 1, 3) := by decide +kernel
theorem dX5_thingAt_85 : decode cX5_thingAt 85 = .ok (.aload_n 0, 1) := by decide +kernel
theorem dX5_thingAt_86 : decode cX5_thingAt 86 = .ok (.aload_n 1, 1) := by decide +kernel
theorem dX5_thingAt_87 : decode cX5_thingAt 87 = .ok (.iload 4, 2) := by decide +kernel
theorem dX5_thingAt_89 : decode cX5_thingAt 89 = .ok (.invokevirtual 37, 3) := by decide +kernel
theorem dX5_thingAt_92 : decode cX5_thingAt 92 = .ok (.invokevirtual 19, 3) := by decide +kernel
theorem dX5_thingAt_95 : decode cX5_thingAt 95 = .ok (.iconst 0, 1) := by decide +kernel
theorem dX5_thingAt_96 : decode cX5_thingAt 96 = .ok (.istore 4, 2) := by decide +kernel
theorem dX5_thingAt_98 : decode cX5_thingAt 98 = .ok (.iinc 6 1, 3) := by decide +kernel
theorem dX5_thingAt_101 : decode cX5_thingAt 101 = .ok (.goto (-82), 3) := by decide +kernel
theorem dX5_thingAt_104 : decode cX5_thingAt 104 = .ok (.iload 4, 2) := by decide +kernel
theorem dX5_thingAt_106 : decode cX5_thingAt 106 = .ok (.ireturn, 1) := by decide +kernel
def f_X5_thingAt (u0 : S1) (u1 : S1) (p2 : Int32) (p3 : Int32) : Option (Int32 × S1) := bv (up u0 1 (fun _ => 0)) (fun u_1 => bn (f_X5_putNames u_1 p2) (fun z_2 => qj4 (fun (r19_3 : Int32 → Int32 → Int32 → S1 → Option (Int32 × S1)) (y19_3_4 : Int32) (y19_3_5 : Int32) (y19_3_6 : Int32) (u19_3_0 : S1) => jn (some (y19_3_4, u19_3_0)) (fun k104_4 => if 20 ≤ y19_3_6 then k104_4 else if (u19_3_0 1 0) ≤ 0 then k104_4 else bn (f_X5_nextName u19_3_0) (fun z_7 => bn (f_X4_thingNamed u1 y19_3_4 z_7.1) (fun z_8 => if z_8 = (-1) then some ((-1), z_7.2) else bn (f_X4_isOfKind u1 z_8 2) (fun z_10 => jn (fun (y98_11_4 : Int32) (y98_11_5 : Int32) (u98_11_0 : S1) => r19_3 y98_11_4 y98_11_5 (y19_3_6 + 1) u98_11_0) (fun k98_11 => if z_10 = 0 then k98_11 z_8 y19_3_5 z_7.2 else jn (if y19_3_5 = 4 then some ((-1), z_7.2) else bn (f_X4_pathOf u1 z_8) (fun z_15 => bn (f_X5_putNames z_7.2 z_15) (fun z_16 => k98_11 0 (y19_3_5 + 1) z_16))) (fun k74_13 => if 0 < (z_7.2 1 0) then k74_13 else if p3 = 0 then k98_11 z_8 y19_3_5 z_7.2 else k74_13))))))) (fun k19_3 => k19_3 0 0 0 z_2)))
def rmX5_thingAt : Room := { frames := 3, cells := 0, slots := 0, locals := 67 }
set_option maxHeartbeats 4000000 in
set_option maxRecDepth 100000 in
theorem c_X5_thingAt (l : Launch) (D : va_G) (cI cZ cJ cT : ClassId) (a0 : Nat → Nat) (a1 : Nat → Nat) (sz : Nat) (u0 : S1) (u1 : S1) (p2 : Int32) (p3 : Int32) (o : Int32 × S1) (hf : f_X5_thingAt u0 u1 p2 p3 = some o) : Met l yX5_thingAt wsX5_thingAt rmX5_thingAt (va_Pc [.ref (a0 0), .ref (a1 0), .int p2, .int p3] (PW D cls (tys cI cZ cJ cT) ((List.flatten [(wX5 cI cZ a0 u0), (wX4 cI cZ a1 u1)])) sz)) (QWi D cls o.1 ((List.flatten [(wX5 cI cZ a0 o.2), (wX4 cI cZ a1 u1)])) (va_A ((List.flatten [(wX5 cI cZ a0 u0), (wX4 cI cZ a1 u1)])) sz)) 0 0 (va_A ((List.flatten [(wX5 cI cZ a0 u0), (wX4 cI cZ a1 u1)])) sz) := by
  refine Met.ofW (cc := cX5_thingAt) (maxL := 7) (ret := (some .int)) (by decide) rfl ?_
  intro p e s m args below meth c s₁ B hml hv
  obtain ⟨hav, hsz, hP, hK, hD0⟩ := hv
  have hx := B.exec
  have hb := B.bytes
  have hr := B.returns
  have hlocks := B.notSynchronized
  have hts := atoms_spec (ws := wsX5_thingAt) B.pre
  have hown : s.vm.findClass RX5 = some m.cls := findClass_of_methodNamed B.named
  have i5 : ∀ w ∈ wsX50, w ∈ wsX5_thingAt := fun w h => List.mem_cons_of_mem _ (List.mem_append_left _ (List.mem_append_right _ h))
  have hk15 := hts (.fieldLink RX5 15 "Inodery$Walk" "left" "I") (by decide +kernel)
  subst hsz
  have hD := hD0.self (sz := s.heap.size)
  generalize hAe : va_A ((List.flatten [(wX5 cI cZ a0 u0), (wX4 cI cZ a1 u1)])) s.heap.size = A at hD ⊢
  have hA : ∀ q : Nat, s.heap.size ≤ q → A q := fun q h => by rw [← hAe]; exact Or.inr h
  have hS : va_S A s.heap s.heap [] := va_S.rf
  have hDD : ∀ w0 w1 : S1, va_D A ((List.flatten [(wX5 cI cZ a0 w0), (wX4 cI cZ a1 w1)])) := fun _ _ => D_same (w := (List.flatten [(wX5 cI cZ a0 u0), (wX4 cI cZ a1 u1)])) rfl hD
  refine Wq (fun Q hQ => ?_)
  refine W_entry hav (Nat.le_of_ble_eq_true rfl) (fun ls hl => ?_)
  have hl : lv_has ls 7 [(0, .ref (a0 0)), (1, .ref (a1 0)), (2, .int p2), (3, .int p3)] := hl
  unfold f_X5_thingAt at hf
  refine W_heap hP hS (fun H locs hP hS => ?_)
  refine lv_aload_n hx hb dX5_thingAt_0 rfl (lv_at hl 0 rfl) ?_
  refine lv_iconst (v := 0) hx hb dX5_thingAt_1 (by decide) ?_
  obtain ⟨u_1, hu_1, hf⟩ := bv_some hf
  refine va_put (D := D) (ci := 5) (v := .int 0) (ty := .int) (C := RX5) (T := TX5) (N := 2) hx hb hts i5 tyX5 tyX5_ok nmX5 hown hK hP (hDD u0 u1) hS 0 rfl rfl 1 (by decide) hk15 (fun _ h9 => h9) rfl (by decide +kernel) rfl rfl (Nat.le_of_ble_eq_true rfl) dX5_thingAt_2 (fun H locs hP _ hS => ?_)
  have hP : va_P D cls (List.flatten [(wX5 cI cZ a0 u_1), (wX4 cI cZ a1 u1)]) H := by rw [hu_1]; exact hP
  refine lv_aload_n hx hb dX5_thingAt_5 rfl (lv_at hl 0 rfl) ?_
  refine lv_iload_n hx hb dX5_thingAt_6 rfl (lv_at hl 2 rfl) ?_
  obtain ⟨z_2, hz_2, hf⟩ := bn_some hf
  refine cWVv (As := [.int p2]) (rest := []) ⟨hx, hb, hml, hown, hts⟩ (c_X5_putNames l D cI cZ cJ cT a0 H.size u_1 p2 z_2 hz_2) (cwV 1 hts gX5_thingAt_X5_putNames rfl rfl rfl (by decide +kernel) ⟨Nat.le_of_ble_eq_true rfl, Nat.le_of_ble_eq_true rfl⟩) (fl_sub hP 0 rfl) hK (fl_subD (hDD u_1 u1) 0 rfl) hS (fl_free (hDD u_1 u1) hS hA 0 rfl) (va_recv hK (fl_sub hP 0 rfl) (ci := 5) (q0 := 0) rfl rfl) rfl rfl hl.1 (Nat.le_of_ble_eq_true rfl) dX5_thingAt_7 ⟨Nat.le_of_ble_eq_true rfl, Nat.le_of_ble_eq_true rfl⟩ (fun H1 locs hP1 hk1 hS => ?_)
  have hP : va_P D cls (List.flatten [(wX5 cI cZ a0 z_2), (wX4 cI cZ a1 u1)]) H1 := fl_join hP (hDD u_1 u1) 0 rfl hk1 hP1
  clear hP1 hk1
  generalize H1 = H at hP hS ⊢
  refine lv_iconst (v := 0) hx hb dX5_thingAt_10 (by decide) ?_
  refine lv_istore (lv' := [(4, .int 0), (0, .ref (a0 0)), (1, .ref (a1 0)), (2, .int p2), (3, .int p3)]) hx hb dX5_thingAt_11 hl (by decide) rfl (fun ls hl => ?_)
  refine lv_iconst (v := 0) hx hb dX5_thingAt_13 (by decide) ?_
  refine lv_istore (lv' := [(5, .int 0), (4, .int 0), (0, .ref (a0 0)), (1, .ref (a1 0)), (2, .int p2), (3, .int p3)]) hx hb dX5_thingAt_14 hl (by decide) rfl (fun ls hl => ?_)
  refine lv_iconst (v := 0) hx hb dX5_thingAt_16 (by decide) ?_
  refine lv_istore (lv' := [(6, .int 0), (5, .int 0), (4, .int 0), (0, .ref (a0 0)), (1, .ref (a1 0)), (2, .int p2), (3, .int p3)]) hx hb dX5_thingAt_17 hl (by decide) rfl (fun ls hl => ?_)
  obtain ⟨G19_3, hG19_3, hf⟩ := qj4_some hf
  have j19_3 : ∀ (n : Nat) (y19_3_4 : Int32) (y19_3_5 : Int32) (y19_3_6 : Int32) (u19_3_0 : S1) (H : Heap) (locs : List Loc) (ls : Array Slot), ql4 G19_3 n y19_3_4 y19_3_5 y19_3_6 u19_3_0 = some o → va_P D cls (List.flatten [(wX5 cI cZ a0 u19_3_0), (wX4 cI cZ a1 u1)]) H → va_S A s.heap H locs → lv_has ls 7 [(0, .ref (a0 0)), (1, .ref (a1 0)), (3, .int p3), (4, .int y19_3_4), (5, .int y19_3_5), (6, .int y19_3_6)] → W p l e (headSpec wsX5_thingAt rmX5_thingAt).room s m args below meth c H locs 0 0 Q (F0 m 19 ls []) := by
    intro n
    induction n with
    | zero => intro y19_3_4 y19_3_5 y19_3_6 u19_3_0 H locs ls hf hP hS hl; exact (ql4_z hf).elim
    | succ n ih19_3 =>
      intro y19_3_4 y19_3_5 y19_3_6 u19_3_0 H locs ls hf hP hS hl
      have hf := ql4_s hG19_3 hf
      obtain ⟨r19_3, hr19_3⟩ : ∃ z, z = ql4 G19_3 n := ⟨_, rfl⟩
      rw [← hr19_3] at hf ih19_3
      refine lv_iload hx hb dX5_thingAt_19 (lv_at hl 5 rfl) ?_
      refine lv_bipush (v := 20) hx hb dX5_thingAt_21 (by decide) ?_
      obtain ⟨k104_4, hk104_4, hf⟩ := jn_some hf
      have j104_4 : ∀ (H : Heap) (locs : List Loc) (ls : Array Slot), k104_4 = some o → va_P D cls (List.flatten [(wX5 cI cZ a0 u19_3_0), (wX4 cI cZ a1 u1)]) H → va_S A s.heap H locs → lv_has ls 7 [(4, .int y19_3_4)] → W p l e (headSpec wsX5_thingAt rmX5_thingAt).room s m args below meth c H locs 0 0 Q (F0 m 104 ls []) := by
        intro H locs ls hf hP hS hl
        have hf := qa0 hk104_4 hf
        refine lv_iload hx hb dX5_thingAt_104 (lv_at hl 0 rfl) ?_
        have eo := Option.some.inj hf
        have hP : va_P D cls (List.flatten [(wX5 cI cZ a0 o.2), (wX4 cI cZ a1 u1)]) H := by rw [← eo]; exact hP
        rw [hQ]
        exact W.iret hx hb hr (fun t ht hW => ⟨⟨_, (), rfl, congrArg Prod.fst eo, P_at ht hP⟩, hS.F ht⟩) hS.2.2 dX5_thingAt_106 hlocks
      refine lv_icmp_ge (tgt := 104) hx hb dX5_thingAt_23 (by decide) (fun c_5 => ?_) (fun c_5 => ?_)
      · have hf := ite_t hf c_5
        exact j104_4 _ _ _ hf hP hS (lv_sub hl [3] rfl)
      · have hf := ite_f hf c_5
        refine lv_aload_n hx hb dX5_thingAt_26 rfl (lv_at hl 0 rfl) ?_
        refine va_get (D := D) (ci := 5) (v := .int (u19_3_0 1 0)) (C := RX5) (T := TX5) (N := 2) hx hb hts i5 hown hK (fl_sub hP 0 rfl) 0 rfl rfl 1 (by decide) hk15 (fun _ h9 => h9) rfl dX5_thingAt_27 ?_
        refine lv_if_le (tgt := 104) hx hb dX5_thingAt_30 (by decide) (fun c_6 => ?_) (fun c_6 => ?_)
        · have hf := ite_t hf c_6
          exact j104_4 _ _ _ hf hP hS (lv_sub hl [3] rfl)
        · have hf := ite_f hf c_6
          refine lv_aload_n hx hb dX5_thingAt_33 rfl (lv_at hl 1 rfl) ?_
          refine lv_iload hx hb dX5_thingAt_34 (lv_at hl 3 rfl) ?_
          refine lv_aload_n hx hb dX5_thingAt_36 rfl (lv_at hl 0 rfl) ?_
          obtain ⟨z_7, hz_7, hf⟩ := bn_some hf
          refine cWVi (As := []) (rest := [.int y19_3_4, .ref (a1 0)]) ⟨hx, hb, hml, hown, hts⟩ (c_X5_nextName l D cI cZ cJ cT a0 H.size u19_3_0 z_7 hz_7) (cwV 0 hts gX5_thingAt_X5_nextName rfl rfl rfl (by decide +kernel) ⟨Nat.le_of_ble_eq_true rfl, Nat.le_of_ble_eq_true rfl⟩) (fl_sub hP 0 rfl) hK (fl_subD (hDD u19_3_0 u1) 0 rfl) hS (fl_free (hDD u19_3_0 u1) hS hA 0 rfl) (va_recv hK (fl_sub hP 0 rfl) (ci := 5) (q0 := 0) rfl rfl) rfl rfl hl.1 (Nat.le_of_ble_eq_true rfl) dX5_thingAt_37 ⟨Nat.le_of_ble_eq_true rfl, Nat.le_of_ble_eq_true rfl⟩ (fun H1 locs hP1 hk1 hS => ?_)
          have hP : va_P D cls (List.flatten [(wX5 cI cZ a0 z_7.2), (wX4 cI cZ a1 u1)]) H1 := fl_join hP (hDD u19_3_0 u1) 0 rfl hk1 hP1
          clear hP1 hk1
          generalize H1 = H at hP hS ⊢
          obtain ⟨z_8, hz_8, hf⟩ := bn_some hf
          refine cRV (As := [.int y19_3_4, .int z_7.1]) (rest := []) ⟨hx, hb, hml, hown, hts⟩ (c_X4_thingNamed l D cI cZ cJ cT a1 u1 y19_3_4 z_7.1 z_8 hz_8) (cwV 2 hts gX5_thingAt_X4_thingNamed rfl rfl rfl (by decide +kernel) ⟨Nat.le_of_ble_eq_true rfl, Nat.le_of_ble_eq_true rfl⟩) (fl_sub hP 1 rfl) hK (va_recv hK (fl_sub hP 1 rfl) (ci := 4) (q0 := 0) rfl rfl) rfl rfl hl.1 (Nat.le_of_ble_eq_true rfl) dX5_thingAt_40 ⟨Nat.le_of_ble_eq_true rfl, Nat.le_of_ble_eq_true rfl⟩ ?_
          refine lv_istore (lv' := [(4, .int z_8), (0, .ref (a0 0)), (1, .ref (a1 0)), (3, .int p3), (5, .int y19_3_5), (6, .int y19_3_6)]) hx hb dX5_thingAt_43 hl (by decide) rfl (fun ls hl => ?_)
          refine lv_iload hx hb dX5_thingAt_45 (lv_at hl 0 rfl) ?_
          refine lv_iconst (v := (-1)) hx hb dX5_thingAt_47 (by decide) ?_
          refine lv_icmp_ne (tgt := 53) hx hb dX5_thingAt_48 (by decide) (fun c_9 => ?_) (fun c_9 => ?_)
          · have hf := ite_f hf c_9
            refine lv_aload_n hx hb dX5_thingAt_53 rfl (lv_at hl 2 rfl) ?_
            refine lv_iload hx hb dX5_thingAt_54 (lv_at hl 0 rfl) ?_
            refine lv_iconst (v := 2) hx hb dX5_thingAt_56 (by decide) ?_
            obtain ⟨z_10, hz_10, hf⟩ := bn_some hf
            refine cRV (As := [.int z_8, .int 2]) (rest := []) ⟨hx, hb, hml, hown, hts⟩ (c_X4_isOfKind l D cI cZ cJ cT a1 u1 z_8 2 z_10 hz_10) (cwV 2 hts gX5_thingAt_X4_isOfKind rfl rfl rfl (by decide +kernel) ⟨Nat.le_of_ble_eq_true rfl, Nat.le_of_ble_eq_true rfl⟩) (fl_sub hP 1 rfl) hK (va_recv hK (fl_sub hP 1 rfl) (ci := 4) (q0 := 0) rfl rfl) rfl rfl hl.1 (Nat.le_of_ble_eq_true rfl) dX5_thingAt_57 ⟨Nat.le_of_ble_eq_true rfl, Nat.le_of_ble_eq_true rfl⟩ ?_
            obtain ⟨k98_11, hk98_11, hf⟩ := jn_some hf
            have j98_11 : ∀ (y98_11_4 : Int32) (y98_11_5 : Int32) (u98_11_0 : S1) (H : Heap) (locs : List Loc) (ls : Array Slot), k98_11 y98_11_4 y98_11_5 u98_11_0 = some o → va_P D cls (List.flatten [(wX5 cI cZ a0 u98_11_0), (wX4 cI cZ a1 u1)]) H → va_S A s.heap H locs → lv_has ls 7 [(0, .ref (a0 0)), (1, .ref (a1 0)), (3, .int p3), (4, .int y98_11_4), (5, .int y98_11_5), (6, .int y19_3_6)] → W p l e (headSpec wsX5_thingAt rmX5_thingAt).room s m args below meth c H locs 0 0 Q (F0 m 98 ls []) := by
              intro y98_11_4 y98_11_5 u98_11_0 H locs ls hf hP hS hl
              have hf := qa3 hk98_11 hf
              refine lv_iinc (v := y19_3_6 + 1) (lv' := [(6, .int (y19_3_6 + 1)), (0, .ref (a0 0)), (1, .ref (a1 0)), (3, .int p3), (4, .int y98_11_4), (5, .int y98_11_5)]) hx hb dX5_thingAt_98 hl (k := 5) rfl rfl (by decide) rfl (fun ls hl => ?_)
              refine lv_goto (tgt := 19) hx hb dX5_thingAt_101 (by decide) ?_
              exact ih19_3 _ _ _ _ _ _ _ hf hP hS (lv_sub hl [1, 2, 3, 4, 5, 0] rfl)
            refine lv_if_eq (tgt := 98) hx hb dX5_thingAt_60 (by decide) (fun c_12 => ?_) (fun c_12 => ?_)
            · have hf := ite_t hf c_12
              exact j98_11 _ _ _ _ _ _ hf hP hS (lv_sub hl [1, 2, 3, 0, 4, 5] rfl)
            · have hf := ite_f hf c_12
              refine lv_aload_n hx hb dX5_thingAt_63 rfl (lv_at hl 1 rfl) ?_
              refine va_get (D := D) (ci := 5) (v := .int (z_7.2 1 0)) (C := RX5) (T := TX5) (N := 2) hx hb hts i5 hown hK (fl_sub hP 0 rfl) 0 rfl rfl 1 (by decide) hk15 (fun _ h9 => h9) rfl dX5_thingAt_64 ?_
              obtain ⟨k74_13, hk74_13, hf⟩ := jn_some hf
              have j74_13 : ∀ (H : Heap) (locs : List Loc) (ls : Array Slot), k74_13 = some o → va_P D cls (List.flatten [(wX5 cI cZ a0 z_7.2), (wX4 cI cZ a1 u1)]) H → va_S A s.heap H locs → lv_has ls 7 [(0, .ref (a0 0)), (1, .ref (a1 0)), (3, .int p3), (4, .int z_8), (5, .int y19_3_5), (6, .int y19_3_6)] → W p l e (headSpec wsX5_thingAt rmX5_thingAt).room s m args below meth c H locs 0 0 Q (F0 m 74 ls []) := by
                intro H locs ls hf hP hS hl
                have hf := qa0 hk74_13 hf
                refine lv_iload hx hb dX5_thingAt_74 (lv_at hl 4 rfl) ?_
                refine lv_iconst (v := 4) hx hb dX5_thingAt_76 (by decide) ?_
                refine lv_icmp_ne (tgt := 82) hx hb dX5_thingAt_77 (by decide) (fun c_14 => ?_) (fun c_14 => ?_)
                · have hf := ite_f hf c_14
                  refine lv_iinc (v := y19_3_5 + 1) (lv' := [(5, .int (y19_3_5 + 1)), (0, .ref (a0 0)), (1, .ref (a1 0)), (3, .int p3), (4, .int z_8), (6, .int y19_3_6)]) hx hb dX5_thingAt_82 hl (k := 4) rfl rfl (by decide) rfl (fun ls hl => ?_)
                  refine lv_aload_n hx hb dX5_thingAt_85 rfl (lv_at hl 1 rfl) ?_
                  refine lv_aload_n hx hb dX5_thingAt_86 rfl (lv_at hl 2 rfl) ?_
                  refine lv_iload hx hb dX5_thingAt_87 (lv_at hl 4 rfl) ?_
                  obtain ⟨z_15, hz_15, hf⟩ := bn_some hf
                  refine cRV (As := [.int z_8]) (rest := [.ref (a0 0)]) ⟨hx, hb, hml, hown, hts⟩ (c_X4_pathOf l D cI cZ cJ cT a1 u1 z_8 z_15 hz_15) (cwV 1 hts gX5_thingAt_X4_pathOf rfl rfl rfl (by decide +kernel) ⟨Nat.le_of_ble_eq_true rfl, Nat.le_of_ble_eq_true rfl⟩) (fl_sub hP 1 rfl) hK (va_recv hK (fl_sub hP 1 rfl) (ci := 4) (q0 := 0) rfl rfl) rfl rfl hl.1 (Nat.le_of_ble_eq_true rfl) dX5_thingAt_89 ⟨Nat.le_of_ble_eq_true rfl, Nat.le_of_ble_eq_true rfl⟩ ?_
                  obtain ⟨z_16, hz_16, hf⟩ := bn_some hf
                  refine cWVv (As := [.int z_15]) (rest := []) ⟨hx, hb, hml, hown, hts⟩ (c_X5_putNames l D cI cZ cJ cT a0 H.size z_7.2 z_15 z_16 hz_16) (cwV 1 hts gX5_thingAt_X5_putNames rfl rfl rfl (by decide +kernel) ⟨Nat.le_of_ble_eq_true rfl, Nat.le_of_ble_eq_true rfl⟩) (fl_sub hP 0 rfl) hK (fl_subD (hDD z_7.2 u1) 0 rfl) hS (fl_free (hDD z_7.2 u1) hS hA 0 rfl) (va_recv hK (fl_sub hP 0 rfl) (ci := 5) (q0 := 0) rfl rfl) rfl rfl hl.1 (Nat.le_of_ble_eq_true rfl) dX5_thingAt_92 ⟨Nat.le_of_ble_eq_true rfl, Nat.le_of_ble_eq_true rfl⟩ (fun H1 locs hP1 hk1 hS => ?_)
                  have hP : va_P D cls (List.flatten [(wX5 cI cZ a0 z_16), (wX4 cI cZ a1 u1)]) H1 := fl_join hP (hDD z_7.2 u1) 0 rfl hk1 hP1
                  clear hP1 hk1
                  generalize H1 = H at hP hS ⊢
                  refine lv_iconst (v := 0) hx hb dX5_thingAt_95 (by decide) ?_
                  refine lv_istore (lv' := [(4, .int 0), (5, .int (y19_3_5 + 1)), (0, .ref (a0 0)), (1, .ref (a1 0)), (3, .int p3), (6, .int y19_3_6)]) hx hb dX5_thingAt_96 hl (by decide) rfl (fun ls hl => ?_)
                  exact j98_11 _ _ _ _ _ _ hf hP hS (lv_sub hl [2, 3, 4, 0, 1, 5] rfl)
                · have hf := ite_t hf c_14
                  refine lv_iconst (v := (-1)) hx hb dX5_thingAt_80 (by decide) ?_
                  have eo := Option.some.inj hf
                  have hP : va_P D cls (List.flatten [(wX5 cI cZ a0 o.2), (wX4 cI cZ a1 u1)]) H := by rw [← eo]; exact hP
                  rw [hQ]
                  exact W.iret hx hb hr (fun t ht hW => ⟨⟨_, (), rfl, congrArg Prod.fst eo, P_at ht hP⟩, hS.F ht⟩) hS.2.2 dX5_thingAt_81 hlocks
              refine lv_if_gt (tgt := 74) hx hb dX5_thingAt_67 (by decide) (fun c_17 => ?_) (fun c_17 => ?_)
              · have hf := ite_t hf c_17
                exact j74_13 _ _ _ hf hP hS (lv_sub hl [1, 2, 3, 0, 4, 5] rfl)
              · have hf := ite_f hf c_17
                refine lv_iload_n hx hb dX5_thingAt_70 rfl (lv_at hl 3 rfl) ?_
                refine lv_if_eq (tgt := 98) hx hb dX5_thingAt_71 (by decide) (fun c_18 => ?_) (fun c_18 => ?_)
                · have hf := ite_t hf c_18
                  exact j98_11 _ _ _ _ _ _ hf hP hS (lv_sub hl [1, 2, 3, 0, 4, 5] rfl)
                · have hf := ite_f hf c_18
                  exact j74_13 _ _ _ hf hP hS (lv_sub hl [1, 2, 3, 0, 4, 5] rfl)
          · have hf := ite_t hf c_9
            refine lv_iconst (v := (-1)) hx hb dX5_thingAt_51 (by decide) ?_
            have eo := Option.some.inj hf
            have hP : va_P D cls (List.flatten [(wX5 cI cZ a0 o.2), (wX4 cI cZ a1 u1)]) H := by rw [← eo]; exact hP
            rw [hQ]
            exact W.iret hx hb hr (fun t ht hW => ⟨⟨_, (), rfl, congrArg Prod.fst eo, P_at ht hP⟩, hS.F ht⟩) hS.2.2 dX5_thingAt_52 hlocks
  exact j19_3 4096 _ _ _ _ _ _ _ hf hP hS (lv_sub hl [3, 4, 6, 2, 1, 0] rfl)
