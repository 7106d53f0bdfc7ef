set_option maxRecDepth 20000 in
theorem ggX7_commit_X7_commits : GoodIn wsX7_commit wsX7_commits := goodIn_r _ [6, 7, 8, 9, 5, 10, 11, 12, 13, 14, 15, 16, 17, 18, 19, 20, 21, 22, 23, 24, 25, 26, 27, 28, 29, 30, 31, 32, 33, 34, 35, 36, 37, 38, 39, 40, 41, 42, 43, 44, 45, 46, 47, 48, 49, 50] (by decide +kernel) (by decide +kernel)
set_option maxRecDepth 20000 in
theorem gX7_commit_X7_commits : GoodIn wsX7_commit (wsV RX7 222 RX7 yX7_commits wsX7_commits) := goodIn_app (goodIn_of _ (by decide +kernel)) ggX7_commit_X7_commits
theorem dX7_commit_0 : decode cX7_commit 0 = .ok (.aload_n 0, 1) := by decide +kernel
theorem dX7_commit_1 : decode cX7_commit 1 = .ok (.iconst 0, 1) := by decide +kernel
theorem dX7_commit_2 : decode cX7_commit 2 = .ok (.putfield 58, 3) := by decide +kernel
theorem dX7_commit_5 : decode cX7_commit 5 = .ok (.aload_n 0, 1) := by decide +kernel
theorem dX7_commit_6 : decode cX7_commit 6 = .ok (.invokevirtual 222, 3) := by decide +kernel
theorem dX7_commit_9 : decode cX7_commit 9 = .ok (.ireturn, 1) := by decide +kernel
def f_X7_commit (u0 : S1) : Option (Int32 × S1) := bv (up u0 18 (fun _ => 0)) (fun u_1 => bn (f_X7_commits u_1) (fun z_2 => some (z_2.1, z_2.2)))
def rmX7_commit : Room := { frames := 5, cells := 0, slots := 0, locals := 112 }
set_option maxHeartbeats 4000000 in
set_option maxRecDepth 100000 in
theorem c_X7_commit (l : Launch) (D : va_G) (cI cZ cJ cT : ClassId) (a0 : Nat → Nat) (sz : Nat) (u0 : S1) (o : Int32 × S1) (hf : f_X7_commit u0 = some o) : Met l yX7_commit wsX7_commit rmX7_commit (va_Pc [.ref (a0 0)] (PW D cls (tys cI cZ cJ cT) ((wX7 cI cZ a0 u0)) sz)) (QWi D cls o.1 ((wX7 cI cZ a0 o.2)) (va_A ((wX7 cI cZ a0 u0)) sz)) 0 0 (va_A ((wX7 cI cZ a0 u0)) sz) := by
  refine Met.ofW (cc := cX7_commit) (maxL := 1) (ret := (some .int)) (by decide) rfl ?_
  intro p e s m args below meth c s₁ B hml hv
  obtain ⟨hav, hsz, hP, hK, hD0⟩ := hv
  have hx := B.exec
  have hb := B.bytes
  have hr := B.returns
  have hlocks := B.notSynchronized
  have hts := atoms_spec (ws := wsX7_commit) B.pre
  have hown : s.vm.findClass RX7 = some m.cls := findClass_of_methodNamed B.named
  have i7 : ∀ w ∈ wsX70, w ∈ wsX7_commit := fun w h => List.mem_cons_of_mem _ (List.mem_append_right _ h)
  have hk58 := hts (.fieldLink RX7 58 "InoderyModel" "thrown" "I") (by decide +kernel)
  subst hsz
  have hD := hD0.self (sz := s.heap.size)
  generalize hAe : va_A ((wX7 cI cZ a0 u0)) s.heap.size = A at hD ⊢
  have hA : ∀ q : Nat, s.heap.size ≤ q → A q := fun q h => by rw [← hAe]; exact Or.inr h
  have hS : va_S A s.heap s.heap [] := va_S.rf
  have hDD : ∀ w0 : S1, va_D A ((wX7 cI cZ a0 w0)) := fun _ => D_same (w := (wX7 cI cZ a0 u0)) rfl hD
  refine Wq (fun Q hQ => ?_)
  refine W_entry hav (Nat.le_of_ble_eq_true rfl) (fun ls hl => ?_)
  have hl : lv_has ls 1 [(0, .ref (a0 0))] := hl
  unfold f_X7_commit at hf
  refine W_heap hP hS (fun H locs hP hS => ?_)
  refine lv_aload_n hx hb dX7_commit_0 rfl (lv_at hl 0 rfl) ?_
  refine lv_iconst (v := 0) hx hb dX7_commit_1 (by decide) ?_
  obtain ⟨u_1, hu_1, hf⟩ := bv_some hf
  refine va_put (D := D) (ci := 7) (v := .int 0) (ty := .int) (C := RX7) (T := TX7) (N := 19) hx hb hts i7 tyX7 tyX7_ok nmX7 hown hK hP (hDD u0) hS 0 rfl rfl 18 (by decide) hk58 (fun _ h9 => h9) rfl (by decide +kernel) rfl rfl (Nat.le_of_ble_eq_true rfl) dX7_commit_2 (fun H locs hP _ hS => ?_)
  have hP : va_P D cls (wX7 cI cZ a0 u_1) H := by rw [hu_1]; exact hP
  refine lv_aload_n hx hb dX7_commit_5 rfl (lv_at hl 0 rfl) ?_
  obtain ⟨z_2, hz_2, hf⟩ := bn_some hf
  refine cWVi (As := []) (rest := []) ⟨hx, hb, hml, hown, hts⟩ (c_X7_commits l D cI cZ cJ cT a0 H.size u_1 z_2 hz_2) (cwV 0 hts gX7_commit_X7_commits rfl rfl rfl (by decide +kernel) ⟨Nat.le_of_ble_eq_true rfl, Nat.le_of_ble_eq_true rfl⟩) hP hK (hDD u_1) hS (own_free (hDD u_1) hS hA) (va_recv hK hP (ci := 7) (q0 := 0) rfl rfl) rfl rfl hl.1 (Nat.le_of_ble_eq_true rfl) dX7_commit_6 ⟨Nat.le_of_ble_eq_true rfl, Nat.le_of_ble_eq_true rfl⟩ (fun H1 locs hP1 hk1 hS => ?_)
  have hP : va_P D cls (wX7 cI cZ a0 z_2.2) H1 := hP1
  clear hP1 hk1
  generalize H1 = H at hP hS ⊢
  have eo := Option.some.inj hf
  have hP : va_P D cls (wX7 cI cZ a0 o.2) H := by rw [← eo]; exact hP
  rw [hQ]
  exact W.iret hx hb hr (fun t ht hW => ⟨⟨_, (), rfl, (by rw [← eo]), P_at ht hP⟩, hS.F ht⟩) hS.2.2 dX7_commit_9 hlocks
theorem dX7_dirties_0 : decode cX7_dirties 0 = .ok (.iconst 0, 1) := by decide +kernel
theorem dX7_dirties_1 : decode cX7_dirties 1 = .ok (.istore_n 1, 1) := by decide +kernel
theorem dX7_dirties_2 : decode cX7_dirties 2 = .ok (.iconst 0, 1) := by decide +kernel
theorem dX7_dirties_3 : decode cX7_dirties 3 = .ok (.istore_n 2, 1) := by decide +kernel
theorem dX7_dirties_4 : decode cX7_dirties 4 = .ok (.iload_n 2, 1) := by decide +kernel
theorem dX7_dirties_5 : decode cX7_dirties 5 = .ok (.sipush 512, 3) := by decide +kernel
theorem dX7_dirties_8 : decode cX7_dirties 8 = .ok (.if_icmp .ge 26, 3) := by decide +kernel
theorem dX7_dirties_11 : decode cX7_dirties 11 = .ok (.iload_n 1, 1) := by decide +kernel
theorem dX7_dirties_12 : decode cX7_dirties 12 = .ok (.aload_n 0, 1) := by decide +kernel
theorem dX7_dirties_13 : decode cX7_dirties 13 = .ok (.getfield 23, 3) := by decide +kernel
theorem dX7_dirties_16 : decode cX7_dirties 16 = .ok (.iload_n 2, 1) := by decide +kernel
theorem dX7_dirties_17 : decode cX7_dirties 17 = .ok (.baload, 1) := by decide +kernel
theorem dX7_dirties_18 : decode cX7_dirties 18 = .ok (.ifCond .eq 7, 3) := by decide +kernel
theorem dX7_dirties_21 : decode cX7_dirties 21 = .ok (.iconst 1, 1) := by decide +kernel
theorem dX7_dirties_22 : decode cX7_dirties 22 = .ok (.goto 4, 3) := by decide +kernel
theorem dX7_dirties_25 : decode cX7_dirties 25 = .ok (.iconst 0, 1) := by decide +kernel
theorem dX7_dirties_26 : decode cX7_dirties 26 = .ok (.iadd, 1) := by decide +kernel
theorem dX7_dirties_27 : decode cX7_dirties 27 = .ok (.istore_n 1, 1) := by decide +kernel
theorem dX7_dirties_28 : decode cX7_dirties 28 = .ok (.iinc 2 1, 3) := by decide +kernel
theorem dX7_dirties_31 : decode cX7_dirties 31 = .ok (.goto (-27), 3) := by decide +kernel
theorem dX7_dirties_34 : decode cX7_dirties 34 = .ok (.iload_n 1, 1) := by decide +kernel
theorem dX7_dirties_35 : decode cX7_dirties 35 = .ok (.ireturn, 1) := by decide +kernel
def f_X7_dirties (u0 : S1) : Option (Int32) := qj2 (fun (r4_1 : Int32 → Int32 → Option (Int32)) (y4_1_1 : Int32) (y4_1_2 : Int32) => if 512 ≤ y4_1_2 then some y4_1_1 else chk (inb y4_1_2 512) (jn (fun (v26_3_0 : Int32) => r4_1 (y4_1_1 + v26_3_0) (y4_1_2 + 1)) (fun k26_3 => if (u0 4 (y4_1_2).toNatClampNeg) = 0 then k26_3 0 else k26_3 1))) (fun k4_1 => k4_1 0 0)
def rmX7_dirties : Room := { frames := 0, cells := 0, slots := 0, locals := 0 }
set_option maxHeartbeats 4000000 in
set_option maxRecDepth 100000 in
theorem c_X7_dirties (l : Launch) (D : va_G) (cI cZ cJ cT : ClassId) (a0 : Nat → Nat) (u0 : S1) (o : Int32) (hf : f_X7_dirties u0 = some o) : Met l yX7_dirties wsX7_dirties rmX7_dirties (va_Pc [.ref (a0 0)] (PR D cls (tys cI cZ cJ cT) ((wX7 cI cZ a0 u0)))) (QR o) 0 0 (fun _ => False) := by
  refine Met.ofW (cc := cX7_dirties) (maxL := 3) (ret := (some .int)) (by decide) rfl ?_
  intro p e s m args below meth c s₁ B hml hv
  obtain ⟨hav, hP, hK⟩ := hv
  have hx := B.exec
  have hb := B.bytes
  have hr := B.returns
  have hlocks := B.notSynchronized
  have hts := atoms_spec (ws := wsX7_dirties) B.pre
  have hown : s.vm.findClass RX7 = some m.cls := findClass_of_methodNamed B.named
  have i7 : ∀ w ∈ wsX70, w ∈ wsX7_dirties := fun w h => List.mem_cons_of_mem _ (List.mem_append_right _ h)
  have hk23 := hts (.fieldLink RX7 23 "InoderyModel" "isDirty" "[Z") (by decide +kernel)
  refine Wq (fun Q hQ => ?_)
  refine W_entry hav (Nat.le_of_ble_eq_true rfl) (fun ls hl => ?_)
  have hl : lv_has ls 3 [(0, .ref (a0 0))] := hl
  unfold f_X7_dirties at hf
  refine lv_iconst (v := 0) hx hb dX7_dirties_0 (by decide) ?_
  refine lv_istore_n (lv' := [(1, .int 0), (0, .ref (a0 0))]) hx hb dX7_dirties_1 rfl hl (by decide) rfl (fun ls hl => ?_)
  refine lv_iconst (v := 0) hx hb dX7_dirties_2 (by decide) ?_
  refine lv_istore_n (lv' := [(2, .int 0), (1, .int 0), (0, .ref (a0 0))]) hx hb dX7_dirties_3 rfl hl (by decide) rfl (fun ls hl => ?_)
  obtain ⟨G4_1, hG4_1, hf⟩ := qj2_some hf
  have j4_1 : ∀ (n : Nat) (y4_1_1 : Int32) (y4_1_2 : Int32) (ls : Array Slot), ql2 G4_1 n y4_1_1 y4_1_2 = some o → lv_has ls 3 [(0, .ref (a0 0)), (1, .int y4_1_1), (2, .int y4_1_2)] → W p l e (headSpec wsX7_dirties rmX7_dirties).room s m args below meth c s.heap [] 0 0 Q (F0 m 4 ls []) := by
    intro n
    induction n with
    | zero => intro y4_1_1 y4_1_2 ls hf hl; exact (ql2_z hf).elim
    | succ n ih4_1 =>
      intro y4_1_1 y4_1_2 ls hf hl
      have hf := ql2_s hG4_1 hf
      obtain ⟨r4_1, hr4_1⟩ : ∃ z, z = ql2 G4_1 n := ⟨_, rfl⟩
      rw [← hr4_1] at hf ih4_1
      refine lv_iload_n hx hb dX7_dirties_4 rfl (lv_at hl 2 rfl) ?_
      refine lv_sipush (v := 512) hx hb dX7_dirties_5 (by decide) ?_
      refine lv_icmp_ge (tgt := 34) hx hb dX7_dirties_8 (by decide) (fun c_2 => ?_) (fun c_2 => ?_)
      · have hf := ite_t hf c_2
        refine lv_iload_n hx hb dX7_dirties_34 rfl (lv_at hl 1 rfl) ?_
        rw [hQ]
        exact W.iret hx hb hr (fun t ht hW => ⟨_, rfl, Option.some.inj hf, ht⟩) (fun _ h => nomatch h) dX7_dirties_35 hlocks
      · have hf := ite_f hf c_2
        refine lv_iload_n hx hb dX7_dirties_11 rfl (lv_at hl 1 rfl) ?_
        refine lv_aload_n hx hb dX7_dirties_12 rfl (lv_at hl 0 rfl) ?_
        refine va_get (D := D) (ci := 7) (v := .ref (a0 5)) (C := RX7) (T := TX7) (N := 19) hx hb hts i7 hown hK hP 0 rfl rfl 4 (by decide) hk23 (fun _ h9 => h9) rfl dX7_dirties_13 ?_
        refine lv_iload_n hx hb dX7_dirties_16 rfl (lv_at hl 2 rfl) ?_
        obtain ⟨hi, hf⟩ := chk_some hf
        refine va_zald hx hb hK hP 5 1 rfl rfl (inb_in hi) dX7_dirties_17 ?_
        obtain ⟨k26_3, hk26_3, hf⟩ := jn_some hf
        have j26_3 : ∀ (v26_3_0 : Int32) (ls : Array Slot), k26_3 v26_3_0 = some o → lv_has ls 3 [(0, .ref (a0 0)), (2, .int y4_1_2)] → W p l e (headSpec wsX7_dirties rmX7_dirties).room s m args below meth c s.heap [] 0 0 Q (F0 m 26 ls [.int v26_3_0, .int y4_1_1]) := by
          intro v26_3_0 ls hf hl
          have hf := qa1 hk26_3 hf
          refine lv_iadd hx hb dX7_dirties_26 ?_
          refine lv_istore_n (lv' := [(1, .int (y4_1_1 + v26_3_0)), (0, .ref (a0 0)), (2, .int y4_1_2)]) hx hb dX7_dirties_27 rfl hl (by decide) rfl (fun ls hl => ?_)
          refine lv_iinc (v := y4_1_2 + 1) (lv' := [(2, .int (y4_1_2 + 1)), (1, .int (y4_1_1 + v26_3_0)), (0, .ref (a0 0))]) hx hb dX7_dirties_28 hl (k := 2) rfl rfl (by decide) rfl (fun ls hl => ?_)
          refine lv_goto (tgt := 4) hx hb dX7_dirties_31 (by decide) ?_
          exact ih4_1 _ _ _ hf (lv_sub hl [2, 1, 0] rfl)
        refine lv_if_eq (tgt := 25) hx hb dX7_dirties_18 (by decide) (fun c_4 => ?_) (fun c_4 => ?_)
        · have hf := ite_t hf c_4
          refine lv_iconst (v := 0) hx hb dX7_dirties_25 (by decide) ?_
          exact j26_3 _ _ hf (lv_sub hl [0, 2] rfl)
        · have hf := ite_f hf c_4
          refine lv_iconst (v := 1) hx hb dX7_dirties_21 (by decide) ?_
          refine lv_goto (tgt := 26) hx hb dX7_dirties_22 (by decide) ?_
          exact j26_3 _ _ hf (lv_sub hl [0, 2] rfl)
  exact j4_1 4096 _ _ _ hf (lv_sub hl [2, 1, 0] rfl)
set_option maxRecDepth 20000 in
theorem ggX7_crash_X7_at : GoodIn wsX7_crash wsX7_at := goodIn_r _ [27] (by decide +kernel) (by decide +kernel)
set_option maxRecDepth 20000 in
theorem gX7_crash_X7_at : GoodIn wsX7_crash (va_wsS RX7 67 yX7_at wsX7_at) := goodIn_app (goodIn_of _ (by decide +kernel)) ggX7_crash_X7_at
set_option maxRecDepth 20000 in
theorem ggX7_crash_X7_copies : GoodIn wsX7_crash wsX7_copies := goodIn_r _ [14, 5, 36, 37, 38, 39, 40, 41, 42, 43, 44, 45, 46, 47, 48, 49, 50, 51, 52, 53, 54] (by decide +kernel) (by decide +kernel)
set_option maxRecDepth 20000 in
theorem gX7_crash_X7_copies : GoodIn wsX7_crash (wsV RX7 54 RX7 yX7_copies wsX7_copies) := goodIn_app (goodIn_of _ (by decide +kernel)) ggX7_crash_X7_copies
set_option maxRecDepth 20000 in
theorem ggX7_crash_X7_dirties : GoodIn wsX7_crash wsX7_dirties := goodIn_r _ [10, 3, 36, 37, 38, 39, 40, 41, 42, 43, 44, 45, 46, 47, 48, 49, 50, 51, 52, 53, 54] (by decide +kernel) (by decide +kernel)
set_option maxRecDepth 20000 in
theorem gX7_crash_X7_dirties : GoodIn wsX7_crash (wsV RX7 225 RX7 yX7_dirties wsX7_dirties) := goodIn_app (goodIn_of _ (by decide +kernel)) ggX7_crash_X7_dirties
set_option maxRecDepth 20000 in
theorem ggX7_crash_X7_goes : GoodIn wsX7_crash wsX7_goes := goodIn_r _ [31, 5, 4, 32, 33, 34, 9, 35, 3, 25, 26, 27, 36, 37, 38, 39, 40, 41, 42, 43, 44, 45, 46, 47, 48, 49, 50, 51, 52, 53, 54] (by decide +kernel) (by decide +kernel)
set_option maxRecDepth 20000 in
theorem gX7_crash_X7_goes : GoodIn wsX7_crash (wsV RX7 101 RX7 yX7_goes wsX7_goes) := goodIn_app (goodIn_of _ (by decide +kernel)) ggX7_crash_X7_goes
set_option maxRecDepth 20000 in
theorem ggX7_crash_X7_kindOf : GoodIn wsX7_crash wsX7_kindOf := goodIn_r _ [24, 5, 25, 26, 9, 27, 36, 37, 38, 39, 40, 41, 42, 43, 44, 45, 46, 47, 48, 49, 50, 51, 52, 53, 54] (by decide +kernel) (by decide +kernel)
set_option maxRecDepth 20000 in
theorem gX7_crash_X7_kindOf : GoodIn wsX7_crash (wsV RX7 131 RX7 yX7_kindOf wsX7_kindOf) := goodIn_app (goodIn_of _ (by decide +kernel)) ggX7_crash_X7_kindOf
set_option maxRecDepth 20000 in
theorem ggX7_crash_X7_shuts : GoodIn wsX7_crash wsX7_shuts := goodIn_r _ [18, 19, 20, 36, 37, 38, 39, 40, 41, 42, 43, 44, 45, 46, 47, 48, 49, 50, 51, 52, 53, 54] (by decide +kernel) (by decide +kernel)
set_option maxRecDepth 20000 in
theorem gX7_crash_X7_shuts : GoodIn wsX7_crash (wsV RX7 192 RX7 yX7_shuts wsX7_shuts) := goodIn_app (goodIn_of _ (by decide +kernel)) ggX7_crash_X7_shuts
theorem dX7_crash_0 : decode cX7_crash 0 = .ok (.aload_n 0, 1) := by decide +kernel
theorem dX7_crash_1 : decode cX7_crash 1 = .ok (.iconst 0, 1) := by decide +kernel
theorem dX7_crash_2 : decode cX7_crash 2 = .ok (.putfield 58, 3) := by decide +kernel
theorem dX7_crash_5 : decode cX7_crash 5 = .ok (.aload_n 0, 1) := by decide +kernel
theorem dX7_crash_6 : decode cX7_crash 6 = .ok (.invokevirtual 225, 3) := by decide +kernel
theorem dX7_crash_9 : decode cX7_crash 9 = .ok (.istore_n 1, 1) := by decide +kernel
theorem dX7_crash_10 : decode cX7_crash 10 = .ok (.aload_n 0, 1) := by decide +kernel
theorem dX7_crash_11 : decode cX7_crash 11 = .ok (.iconst 1, 1) := by decide +kernel
theorem dX7_crash_12 : decode cX7_crash 12 = .ok (.iconst 0, 1) := by decide +kernel
theorem dX7_crash_13 : decode cX7_crash 13 = .ok (.invokevirtual 54, 3) := by decide +kernel
theorem dX7_crash_16 : decode cX7_crash 16 = .ok (.iconst 0, 1) := by decide +kernel
theorem dX7_crash_17 : decode cX7_crash 17 = .ok (.istore_n 2, 1) := by decide +kernel
theorem dX7_crash_18 : decode cX7_crash 18 = .ok (.iload_n 2, 1) := by decide +kernel
theorem dX7_crash_19 : decode cX7_crash 19 = .ok (.aload_n 0, 1) := by decide +kernel
theorem dX7_crash_20 : decode cX7_crash 20 = .ok (.getfield 91, 3) := by decide +kernel
theorem dX7_crash_23 : decode cX7_crash 23 = .ok (.if_icmp .ge 14, 3) := by decide +kernel
theorem dX7_crash_26 : decode cX7_crash 26 = .ok (.aload_n 0, 1) := by decide +kernel
theorem dX7_crash_27 : decode cX7_crash 27 = .ok (.iload_n 2, 1) := by decide +kernel
theorem dX7_crash_28 : decode cX7_crash 28 = .ok (.invokevirtual 192, 3) := by decide +kernel
theorem dX7_crash_31 : decode cX7_crash 31 = .ok (.iinc 2 1, 3) := by decide +kernel
theorem dX7_crash_34 : decode cX7_crash 34 = .ok (.goto (-16), 3) := by decide +kernel
theorem dX7_crash_37 : decode cX7_crash 37 = .ok (.iconst 0, 1) := by decide +kernel
theorem dX7_crash_38 : decode cX7_crash 38 = .ok (.istore_n 2, 1) := by decide +kernel
theorem dX7_crash_39 : decode cX7_crash 39 = .ok (.iload_n 2, 1) := by decide +kernel
theorem dX7_crash_40 : decode cX7_crash 40 = .ok (.sipush 512, 3) := by decide +kernel
theorem dX7_crash_43 : decode cX7_crash 43 = .ok (.if_icmp .ge 16, 3) := by decide +kernel
theorem dX7_crash_46 : decode cX7_crash 46 = .ok (.aload_n 0, 1) := by decide +kernel
theorem dX7_crash_47 : decode cX7_crash 47 = .ok (.getfield 23, 3) := by decide +kernel
theorem dX7_crash_50 : decode cX7_crash 50 = .ok (.iload_n 2, 1) := by decide +kernel
theorem dX7_crash_51 : decode cX7_crash 51 = .ok (.iconst 0, 1) := by decide +kernel
theorem dX7_crash_52 : decode cX7_crash 52 = .ok (.bastore, 1) := by decide +kernel
theorem dX7_crash_53 : decode cX7_crash 53 = .ok (.iinc 2 1, 3) := by decide +kernel
theorem dX7_crash_56 : decode cX7_crash 56 = .ok (.goto (-17), 3) := by decide +kernel
theorem dX7_crash_59 : decode cX7_crash 59 = .ok (.iconst 0, 1) := by decide +kernel
theorem dX7_crash_60 : decode cX7_crash 60 = .ok (.istore_n 2, 1) := by decide +kernel
theorem dX7_crash_61 : decode cX7_crash 61 = .ok (.iload_n 2, 1) := by decide +kernel
theorem dX7_crash_62 : decode cX7_crash 62 = .ok (.bipush 32, 2) := by decide +kernel
theorem dX7_crash_64 : decode cX7_crash 64 = .ok (.if_icmp .ge 44, 3) := by decide +kernel
theorem dX7_crash_67 : decode cX7_crash 67 = .ok (.aload_n 0, 1) := by decide +kernel
theorem dX7_crash_68 : decode cX7_crash 68 = .ok (.getfield 29, 3) := by decide +kernel
theorem dX7_crash_71 : decode cX7_crash 71 = .ok (.iload_n 2, 1) := by decide +kernel
theorem dX7_crash_72 : decode cX7_crash 72 = .ok (.iconst 0, 1) := by decide +kernel
theorem dX7_crash_73 : decode cX7_crash 73 = .ok (.bastore, 1) := by decide +kernel
theorem dX7_crash_74 : decode cX7_crash 74 = .ok (.aload_n 0, 1) := by decide +kernel
theorem dX7_crash_75 : decode cX7_crash 75 = .ok (.iload_n 2, 1) := by decide +kernel
theorem dX7_crash_76 : decode cX7_crash 76 = .ok (.invokevirtual 131, 3) := by decide +kernel
theorem dX7_crash_79 : decode cX7_crash 79 = .ok (.ifCond .ne 23, 3) := by decide +kernel
theorem dX7_crash_82 : decode cX7_crash 82 = .ok (.aload_n 0, 1) := by decide +kernel
theorem dX7_crash_83 : decode cX7_crash 83 = .ok (.getfield 7, 3) := by decide +kernel
theorem dX7_crash_86 : decode cX7_crash 86 = .ok (.iconst 0, 1) := by decide +kernel
theorem dX7_crash_87 : decode cX7_crash 87 = .ok (.iload_n 2, 1) := by decide +kernel
theorem dX7_crash_88 : decode cX7_crash 88 = .ok (.invokestatic 67, 3) := by decide +kernel
theorem dX7_crash_91 : decode cX7_crash 91 = .ok (.iconst 3, 1) := by decide +kernel
theorem dX7_crash_92 : decode cX7_crash 92 = .ok (.iadd, 1) := by decide +kernel
theorem dX7_crash_93 : decode cX7_crash 93 = .ok (.iaload, 1) := by decide +kernel
theorem dX7_crash_94 : decode cX7_crash 94 = .ok (.ifCond .ne 8, 3) := by decide +kernel
theorem dX7_crash_97 : decode cX7_crash 97 = .ok (.aload_n 0, 1) := by decide +kernel
theorem dX7_crash_98 : decode cX7_crash 98 = .ok (.iload_n 2, 1) := by decide +kernel
theorem dX7_crash_99 : decode cX7_crash 99 = .ok (.invokevirtual 101, 3) := by decide +kernel
theorem dX7_crash_102 : decode cX7_crash 102 = .ok (.iinc 2 1, 3) := by decide +kernel
theorem dX7_crash_105 : decode cX7_crash 105 = .ok (.goto (-44), 3) := by decide +kernel
theorem dX7_crash_108 : decode cX7_crash 108 = .ok (.iload_n 1, 1) := by decide +kernel
theorem dX7_crash_109 : decode cX7_crash 109 = .ok (.ireturn, 1) := by decide +kernel
def f_X7_crash (u0 : S1) : Option (Int32 × S1) := bv (up u0 18 (fun _ => 0)) (fun u_1 => bn (f_X7_dirties u_1) (fun z_2 => bn (f_X7_copies u_1 1 0) (fun z_3 => qj2 (fun (r18_4 : Int32 → S1 → Option (Int32 × S1)) (y18_4_2 : Int32) (u18_4_0 : S1) => if (u18_4_0 9 0) ≤ y18_4_2 then qj2 (fun (r39_6 : Int32 → S1 → Option (Int32 × S1)) (y39_6_2 : Int32) (u39_6_0 : S1) => if 512 ≤ y39_6_2 then qj2 (fun (r61_8 : Int32 → S1 → Option (Int32 × S1)) (y61_8_2 : Int32) (u61_8_0 : S1) => if 32 ≤ y61_8_2 then some (z_2, u61_8_0) else chk (inb y61_8_2 32) (bv (stz u61_8_0 6 y61_8_2 0) (fun u_10 => bn (f_X7_kindOf u_10 y61_8_2) (fun z_11 => jn (fun (u102_12_0 : S1) => r61_8 (y61_8_2 + 1) u102_12_0) (fun k102_12 => if z_11 = 0 then bn (f_X7_at 0 y61_8_2) (fun z_14 => chk (inb (z_14 + 3) 8480) (if (u_10 0 (z_14 + 3).toNatClampNeg) = 0 then bn (f_X7_goes u_10 y61_8_2) (fun z_16 => k102_12 z_16) else k102_12 u_10)) else k102_12 u_10))))) (fun k61_8 => k61_8 0 u39_6_0) else chk (inb y39_6_2 512) (bv (stz u39_6_0 4 y39_6_2 0) (fun u_17 => r39_6 (y39_6_2 + 1) u_17))) (fun k39_6 => k39_6 0 u18_4_0) else bn (f_X7_shuts u18_4_0 y18_4_2) (fun z_18 => r18_4 (y18_4_2 + 1) z_18)) (fun k18_4 => k18_4 0 z_3))))
def rmX7_crash : Room := { frames := 3, cells := 0, slots := 0, locals := 65 }
set_option maxHeartbeats 4000000 in
set_option maxRecDepth 100000 in
theorem c_X7_crash (l : Launch) (D : va_G) (cI cZ cJ cT : ClassId) (a0 : Nat → Nat) (sz : Nat) (u0 : S1) (o : Int32 × S1) (hf : f_X7_crash u0 = some o) : Met l yX7_crash wsX7_crash rmX7_crash (va_Pc [.ref (a0 0)] (PW D cls (tys cI cZ cJ cT) ((wX7 cI cZ a0 u0)) sz)) (QWi D cls o.1 ((wX7 cI cZ a0 o.2)) (va_A ((wX7 cI cZ a0 u0)) sz)) 0 0 (va_A ((wX7 cI cZ a0 u0)) sz) := by
  refine Met.ofW (cc := cX7_crash) (maxL := 3) (ret := (some .int)) (by decide) rfl ?_
  intro p e s m args below meth c s₁ B hml hv
  obtain ⟨hav, hsz, hP, hK, hD0⟩ := hv
  have hx := B.exec
  have hb := B.bytes
  have hr := B.returns
  have hlocks := B.notSynchronized
  have hts := atoms_spec (ws := wsX7_crash) B.pre
  have hown : s.vm.findClass RX7 = some m.cls := findClass_of_methodNamed B.named
  have i7 : ∀ w ∈ wsX70, w ∈ wsX7_crash := fun w h => List.mem_cons_of_mem _ (List.mem_append_right _ h)
  have hk7 := hts (.fieldLink RX7 7 "InoderyModel" "s" "[I") (by decide +kernel)
  have hk23 := hts (.fieldLink RX7 23 "InoderyModel" "isDirty" "[Z") (by decide +kernel)
  have hk29 := hts (.fieldLink RX7 29 "InoderyModel" "hasError" "[Z") (by decide +kernel)
  have hk58 := hts (.fieldLink RX7 58 "InoderyModel" "thrown" "I") (by decide +kernel)
  have hk91 := hts (.fieldLink RX7 91 "InoderyModel" "handles" "I") (by decide +kernel)
  subst hsz
  have hD := hD0.self (sz := s.heap.size)
  generalize hAe : va_A ((wX7 cI cZ a0 u0)) s.heap.size = A at hD ⊢
  have hA : ∀ q : Nat, s.heap.size ≤ q → A q := fun q h => by rw [← hAe]; exact Or.inr h
  have hS : va_S A s.heap s.heap [] := va_S.rf
  have hDD : ∀ w0 : S1, va_D A ((wX7 cI cZ a0 w0)) := fun _ => D_same (w := (wX7 cI cZ a0 u0)) rfl hD
  refine Wq (fun Q hQ => ?_)
  refine W_entry hav (Nat.le_of_ble_eq_true rfl) (fun ls hl => ?_)
  have hl : lv_has ls 3 [(0, .ref (a0 0))] := hl
  unfold f_X7_crash at hf
  refine W_heap hP hS (fun H locs hP hS => ?_)
  refine lv_aload_n hx hb dX7_crash_0 rfl (lv_at hl 0 rfl) ?_
  refine lv_iconst (v := 0) hx hb dX7_crash_1 (by decide) ?_
  obtain ⟨u_1, hu_1, hf⟩ := bv_some hf
  refine va_put (D := D) (ci := 7) (v := .int 0) (ty := .int) (C := RX7) (T := TX7) (N := 19) hx hb hts i7 tyX7 tyX7_ok nmX7 hown hK hP (hDD u0) hS 0 rfl rfl 18 (by decide) hk58 (fun _ h9 => h9) rfl (by decide +kernel) rfl rfl (Nat.le_of_ble_eq_true rfl) dX7_crash_2 (fun H locs hP _ hS => ?_)
  have hP : va_P D cls (wX7 cI cZ a0 u_1) H := by rw [hu_1]; exact hP
  refine lv_aload_n hx hb dX7_crash_5 rfl (lv_at hl 0 rfl) ?_
  obtain ⟨z_2, hz_2, hf⟩ := bn_some hf
  refine cRV (As := []) (rest := []) ⟨hx, hb, hml, hown, hts⟩ (c_X7_dirties l D cI cZ cJ cT a0 u_1 z_2 hz_2) (cwV 0 hts gX7_crash_X7_dirties rfl rfl rfl (by decide +kernel) ⟨Nat.le_of_ble_eq_true rfl, Nat.le_of_ble_eq_true rfl⟩) hP hK (va_recv hK hP (ci := 7) (q0 := 0) rfl rfl) rfl rfl hl.1 (Nat.le_of_ble_eq_true rfl) dX7_crash_6 ⟨Nat.le_of_ble_eq_true rfl, Nat.le_of_ble_eq_true rfl⟩ ?_
  refine lv_istore_n (lv' := [(1, .int z_2), (0, .ref (a0 0))]) hx hb dX7_crash_9 rfl hl (by decide) rfl (fun ls hl => ?_)
  refine lv_aload_n hx hb dX7_crash_10 rfl (lv_at hl 1 rfl) ?_
  refine lv_iconst (v := 1) hx hb dX7_crash_11 (by decide) ?_
  refine lv_iconst (v := 0) hx hb dX7_crash_12 (by decide) ?_
  obtain ⟨z_3, hz_3, hf⟩ := bn_some hf
  refine cWVv (As := [.int 1, .int 0]) (rest := []) ⟨hx, hb, hml, hown, hts⟩ (c_X7_copies l D cI cZ cJ cT a0 H.size u_1 1 0 z_3 hz_3) (cwV 2 hts gX7_crash_X7_copies rfl rfl rfl (by decide +kernel) ⟨Nat.le_of_ble_eq_true rfl, Nat.le_of_ble_eq_true rfl⟩) hP hK (hDD u_1) hS (own_free (hDD u_1) hS hA) (va_recv hK hP (ci := 7) (q0 := 0) rfl rfl) rfl rfl hl.1 (Nat.le_of_ble_eq_true rfl) dX7_crash_13 ⟨Nat.le_of_ble_eq_true rfl, Nat.le_of_ble_eq_true rfl⟩ (fun H1 locs hP1 hk1 hS => ?_)
  have hP : va_P D cls (wX7 cI cZ a0 z_3) H1 := hP1
  clear hP1 hk1
  generalize H1 = H at hP hS ⊢
  refine lv_iconst (v := 0) hx hb dX7_crash_16 (by decide) ?_
  refine lv_istore_n (lv' := [(2, .int 0), (1, .int z_2), (0, .ref (a0 0))]) hx hb dX7_crash_17 rfl hl (by decide) rfl (fun ls hl => ?_)
  obtain ⟨G18_4, hG18_4, hf⟩ := qj2_some hf
  have j18_4 : ∀ (n : Nat) (y18_4_2 : Int32) (u18_4_0 : S1) (H : Heap) (locs : List Loc) (ls : Array Slot), ql2 G18_4 n y18_4_2 u18_4_0 = some o → va_P D cls (wX7 cI cZ a0 u18_4_0) H → va_S A s.heap H locs → lv_has ls 3 [(0, .ref (a0 0)), (1, .int z_2), (2, .int y18_4_2)] → W p l e (headSpec wsX7_crash rmX7_crash).room s m args below meth c H locs 0 0 Q (F0 m 18 ls []) := by
    intro n
    induction n with
    | zero => intro y18_4_2 u18_4_0 H locs ls hf hP hS hl; exact (ql2_z hf).elim
    | succ n ih18_4 =>
      intro y18_4_2 u18_4_0 H locs ls hf hP hS hl
      have hf := ql2_s hG18_4 hf
      obtain ⟨r18_4, hr18_4⟩ : ∃ z, z = ql2 G18_4 n := ⟨_, rfl⟩
      rw [← hr18_4] at hf ih18_4
      refine lv_iload_n hx hb dX7_crash_18 rfl (lv_at hl 2 rfl) ?_
      refine lv_aload_n hx hb dX7_crash_19 rfl (lv_at hl 0 rfl) ?_
      refine va_get (D := D) (ci := 7) (v := .int (u18_4_0 9 0)) (C := RX7) (T := TX7) (N := 19) hx hb hts i7 hown hK hP 0 rfl rfl 9 (by decide) hk91 (fun _ h9 => h9) rfl dX7_crash_20 ?_
      refine lv_icmp_ge (tgt := 37) hx hb dX7_crash_23 (by decide) (fun c_5 => ?_) (fun c_5 => ?_)
      · have hf := ite_t hf c_5
        refine lv_iconst (v := 0) hx hb dX7_crash_37 (by decide) ?_
        refine lv_istore_n (lv' := [(2, .int 0), (0, .ref (a0 0)), (1, .int z_2)]) hx hb dX7_crash_38 rfl hl (by decide) rfl (fun ls hl => ?_)
        obtain ⟨G39_6, hG39_6, hf⟩ := qj2_some hf
        have j39_6 : ∀ (n : Nat) (y39_6_2 : Int32) (u39_6_0 : S1) (H : Heap) (locs : List Loc) (ls : Array Slot), ql2 G39_6 n y39_6_2 u39_6_0 = some o → va_P D cls (wX7 cI cZ a0 u39_6_0) H → va_S A s.heap H locs → lv_has ls 3 [(0, .ref (a0 0)), (1, .int z_2), (2, .int y39_6_2)] → W p l e (headSpec wsX7_crash rmX7_crash).room s m args below meth c H locs 0 0 Q (F0 m 39 ls []) := by
          intro n
          induction n with
          | zero => intro y39_6_2 u39_6_0 H locs ls hf hP hS hl; exact (ql2_z hf).elim
          | succ n ih39_6 =>
            intro y39_6_2 u39_6_0 H locs ls hf hP hS hl
            have hf := ql2_s hG39_6 hf
            obtain ⟨r39_6, hr39_6⟩ : ∃ z, z = ql2 G39_6 n := ⟨_, rfl⟩
            rw [← hr39_6] at hf ih39_6
            refine lv_iload_n hx hb dX7_crash_39 rfl (lv_at hl 2 rfl) ?_
            refine lv_sipush (v := 512) hx hb dX7_crash_40 (by decide) ?_
            refine lv_icmp_ge (tgt := 59) hx hb dX7_crash_43 (by decide) (fun c_7 => ?_) (fun c_7 => ?_)
            · have hf := ite_t hf c_7
              refine lv_iconst (v := 0) hx hb dX7_crash_59 (by decide) ?_
              refine lv_istore_n (lv' := [(2, .int 0), (0, .ref (a0 0)), (1, .int z_2)]) hx hb dX7_crash_60 rfl hl (by decide) rfl (fun ls hl => ?_)
              obtain ⟨G61_8, hG61_8, hf⟩ := qj2_some hf
              have j61_8 : ∀ (n : Nat) (y61_8_2 : Int32) (u61_8_0 : S1) (H : Heap) (locs : List Loc) (ls : Array Slot), ql2 G61_8 n y61_8_2 u61_8_0 = some o → va_P D cls (wX7 cI cZ a0 u61_8_0) H → va_S A s.heap H locs → lv_has ls 3 [(0, .ref (a0 0)), (1, .int z_2), (2, .int y61_8_2)] → W p l e (headSpec wsX7_crash rmX7_crash).room s m args below meth c H locs 0 0 Q (F0 m 61 ls []) := by
                intro n
                induction n with
                | zero => intro y61_8_2 u61_8_0 H locs ls hf hP hS hl; exact (ql2_z hf).elim
                | succ n ih61_8 =>
                  intro y61_8_2 u61_8_0 H locs ls hf hP hS hl
                  have hf := ql2_s hG61_8 hf
                  obtain ⟨r61_8, hr61_8⟩ : ∃ z, z = ql2 G61_8 n := ⟨_, rfl⟩
                  rw [← hr61_8] at hf ih61_8
                  refine lv_iload_n hx hb dX7_crash_61 rfl (lv_at hl 2 rfl) ?_
                  refine lv_bipush (v := 32) hx hb dX7_crash_62 (by decide) ?_
                  refine lv_icmp_ge (tgt := 108) hx hb dX7_crash_64 (by decide) (fun c_9 => ?_) (fun c_9 => ?_)
                  · have hf := ite_t hf c_9
                    refine lv_iload_n hx hb dX7_crash_108 rfl (lv_at hl 1 rfl) ?_
                    have eo := Option.some.inj hf
                    have hP : va_P D cls (wX7 cI cZ a0 o.2) H := by rw [← eo]; exact hP
                    rw [hQ]
                    exact W.iret hx hb hr (fun t ht hW => ⟨⟨_, (), rfl, congrArg Prod.fst eo, P_at ht hP⟩, hS.F ht⟩) hS.2.2 dX7_crash_109 hlocks
                  · have hf := ite_f hf c_9
                    refine lv_aload_n hx hb dX7_crash_67 rfl (lv_at hl 0 rfl) ?_
                    refine va_get (D := D) (ci := 7) (v := .ref (a0 7)) (C := RX7) (T := TX7) (N := 19) hx hb hts i7 hown hK hP 0 rfl rfl 6 (by decide) hk29 (fun _ h9 => h9) rfl dX7_crash_68 ?_
                    refine lv_iload_n hx hb dX7_crash_71 rfl (lv_at hl 2 rfl) ?_
                    refine lv_iconst (v := 0) hx hb dX7_crash_72 (by decide) ?_
                    obtain ⟨hi, hf⟩ := chk_some hf
                    obtain ⟨u_10, hu_10, hf⟩ := bv_some hf
                    refine va_zast hx hb hK hP (hDD u61_8_0) hS 7 1 rfl rfl (inb_in hi) dX7_crash_73 (fun H locs hP _ hS => ?_)
                    have hP : va_P D cls (wX7 cI cZ a0 u_10) H := by rw [hu_10]; exact hP
                    refine lv_aload_n hx hb dX7_crash_74 rfl (lv_at hl 0 rfl) ?_
                    refine lv_iload_n hx hb dX7_crash_75 rfl (lv_at hl 2 rfl) ?_
                    obtain ⟨z_11, hz_11, hf⟩ := bn_some hf
                    refine cRV (As := [.int y61_8_2]) (rest := []) ⟨hx, hb, hml, hown, hts⟩ (c_X7_kindOf l D cI cZ cJ cT a0 u_10 y61_8_2 z_11 hz_11) (cwV 1 hts gX7_crash_X7_kindOf rfl rfl rfl (by decide +kernel) ⟨Nat.le_of_ble_eq_true rfl, Nat.le_of_ble_eq_true rfl⟩) hP hK (va_recv hK hP (ci := 7) (q0 := 0) rfl rfl) rfl rfl hl.1 (Nat.le_of_ble_eq_true rfl) dX7_crash_76 ⟨Nat.le_of_ble_eq_true rfl, Nat.le_of_ble_eq_true rfl⟩ ?_
                    obtain ⟨k102_12, hk102_12, hf⟩ := jn_some hf
                    have j102_12 : ∀ (u102_12_0 : S1) (H : Heap) (locs : List Loc) (ls : Array Slot), k102_12 u102_12_0 = some o → va_P D cls (wX7 cI cZ a0 u102_12_0) H → va_S A s.heap H locs → lv_has ls 3 [(0, .ref (a0 0)), (1, .int z_2), (2, .int y61_8_2)] → W p l e (headSpec wsX7_crash rmX7_crash).room s m args below meth c H locs 0 0 Q (F0 m 102 ls []) := by
                      intro u102_12_0 H locs ls hf hP hS hl
                      have hf := qa1 hk102_12 hf
                      refine lv_iinc (v := y61_8_2 + 1) (lv' := [(2, .int (y61_8_2 + 1)), (0, .ref (a0 0)), (1, .int z_2)]) hx hb dX7_crash_102 hl (k := 2) rfl rfl (by decide) rfl (fun ls hl => ?_)
                      refine lv_goto (tgt := 61) hx hb dX7_crash_105 (by decide) ?_
                      exact ih61_8 _ _ _ _ _ hf hP hS (lv_sub hl [1, 2, 0] rfl)
                    refine lv_if_ne (tgt := 102) hx hb dX7_crash_79 (by decide) (fun c_13 => ?_) (fun c_13 => ?_)
                    · have hf := ite_f hf c_13
                      exact j102_12 _ _ _ _ hf hP hS (lv_sub hl [0, 1, 2] rfl)
                    · have hf := ite_t hf c_13
                      refine lv_aload_n hx hb dX7_crash_82 rfl (lv_at hl 0 rfl) ?_
                      refine va_get (D := D) (ci := 7) (v := .ref (a0 1)) (C := RX7) (T := TX7) (N := 19) hx hb hts i7 hown hK hP 0 rfl rfl 0 (by decide) hk7 (fun _ h9 => h9) rfl dX7_crash_83 ?_
                      refine lv_iconst (v := 0) hx hb dX7_crash_86 (by decide) ?_
                      refine lv_iload_n hx hb dX7_crash_87 rfl (lv_at hl 2 rfl) ?_
                      obtain ⟨z_14, hz_14, hf⟩ := bn_some hf
                      refine c0S (As := [.int 0, .int y61_8_2]) (rest := [.ref (a0 1)]) ⟨hx, hb, hml, hown, hts⟩ (c_X7_at l D cI cZ cJ cT 0 y61_8_2 z_14 hz_14) (va_cwS 2 hts gX7_crash_X7_at rfl rfl rfl (by decide +kernel) ⟨Nat.le_of_ble_eq_true rfl, Nat.le_of_ble_eq_true rfl⟩) rfl rfl hl.1 (Nat.le_of_ble_eq_true rfl) dX7_crash_88 ⟨Nat.le_of_ble_eq_true rfl, Nat.le_of_ble_eq_true rfl⟩ ?_
                      refine lv_iconst (v := 3) hx hb dX7_crash_91 (by decide) ?_
                      refine lv_iadd hx hb dX7_crash_92 ?_
                      obtain ⟨hi, hf⟩ := chk_some hf
                      refine va_iald hx hb hK hP 1 0 rfl rfl (inb_in hi) dX7_crash_93 ?_
                      refine lv_if_ne (tgt := 102) hx hb dX7_crash_94 (by decide) (fun c_15 => ?_) (fun c_15 => ?_)
                      · have hf := ite_f hf c_15
                        exact j102_12 _ _ _ _ hf hP hS (lv_sub hl [0, 1, 2] rfl)
                      · have hf := ite_t hf c_15
                        refine lv_aload_n hx hb dX7_crash_97 rfl (lv_at hl 0 rfl) ?_
                        refine lv_iload_n hx hb dX7_crash_98 rfl (lv_at hl 2 rfl) ?_
                        obtain ⟨z_16, hz_16, hf⟩ := bn_some hf
                        refine cWVv (As := [.int y61_8_2]) (rest := []) ⟨hx, hb, hml, hown, hts⟩ (c_X7_goes l D cI cZ cJ cT a0 H.size u_10 y61_8_2 z_16 hz_16) (cwV 1 hts gX7_crash_X7_goes rfl rfl rfl (by decide +kernel) ⟨Nat.le_of_ble_eq_true rfl, Nat.le_of_ble_eq_true rfl⟩) hP hK (hDD u_10) hS (own_free (hDD u_10) hS hA) (va_recv hK hP (ci := 7) (q0 := 0) rfl rfl) rfl rfl hl.1 (Nat.le_of_ble_eq_true rfl) dX7_crash_99 ⟨Nat.le_of_ble_eq_true rfl, Nat.le_of_ble_eq_true rfl⟩ (fun H1 locs hP1 hk1 hS => ?_)
                        have hP : va_P D cls (wX7 cI cZ a0 z_16) H1 := hP1
                        clear hP1 hk1
                        generalize H1 = H at hP hS ⊢
                        exact j102_12 _ _ _ _ hf hP hS (lv_sub hl [0, 1, 2] rfl)
              exact j61_8 4096 _ _ _ _ _ hf hP hS (lv_sub hl [1, 2, 0] rfl)
            · have hf := ite_f hf c_7
              refine lv_aload_n hx hb dX7_crash_46 rfl (lv_at hl 0 rfl) ?_
              refine va_get (D := D) (ci := 7) (v := .ref (a0 5)) (C := RX7) (T := TX7) (N := 19) hx hb hts i7 hown hK hP 0 rfl rfl 4 (by decide) hk23 (fun _ h9 => h9) rfl dX7_crash_47 ?_
              refine lv_iload_n hx hb dX7_crash_50 rfl (lv_at hl 2 rfl) ?_
              refine lv_iconst (v := 0) hx hb dX7_crash_51 (by decide) ?_
              obtain ⟨hi, hf⟩ := chk_some hf
              obtain ⟨u_17, hu_17, hf⟩ := bv_some hf
              refine va_zast hx hb hK hP (hDD u39_6_0) hS 5 1 rfl rfl (inb_in hi) dX7_crash_52 (fun H locs hP _ hS => ?_)
              have hP : va_P D cls (wX7 cI cZ a0 u_17) H := by rw [hu_17]; exact hP
              refine lv_iinc (v := y39_6_2 + 1) (lv' := [(2, .int (y39_6_2 + 1)), (0, .ref (a0 0)), (1, .int z_2)]) hx hb dX7_crash_53 hl (k := 2) rfl rfl (by decide) rfl (fun ls hl => ?_)
              refine lv_goto (tgt := 39) hx hb dX7_crash_56 (by decide) ?_
              exact ih39_6 _ _ _ _ _ hf hP hS (lv_sub hl [1, 2, 0] rfl)
        exact j39_6 4096 _ _ _ _ _ hf hP hS (lv_sub hl [1, 2, 0] rfl)
      · have hf := ite_f hf c_5
        refine lv_aload_n hx hb dX7_crash_26 rfl (lv_at hl 0 rfl) ?_
        refine lv_iload_n hx hb dX7_crash_27 rfl (lv_at hl 2 rfl) ?_
        obtain ⟨z_18, hz_18, hf⟩ := bn_some hf
        refine cWVv (As := [.int y18_4_2]) (rest := []) ⟨hx, hb, hml, hown, hts⟩ (c_X7_shuts l D cI cZ cJ cT a0 H.size u18_4_0 y18_4_2 z_18 hz_18) (cwV 1 hts gX7_crash_X7_shuts rfl rfl rfl (by decide +kernel) ⟨Nat.le_of_ble_eq_true rfl, Nat.le_of_ble_eq_true rfl⟩) hP hK (hDD u18_4_0) hS (own_free (hDD u18_4_0) hS hA) (va_recv hK hP (ci := 7) (q0 := 0) rfl rfl) rfl rfl hl.1 (Nat.le_of_ble_eq_true rfl) dX7_crash_28 ⟨Nat.le_of_ble_eq_true rfl, Nat.le_of_ble_eq_true rfl⟩ (fun H1 locs hP1 hk1 hS => ?_)
        have hP : va_P D cls (wX7 cI cZ a0 z_18) H1 := hP1
        clear hP1 hk1
        generalize H1 = H at hP hS ⊢
        refine lv_iinc (v := y18_4_2 + 1) (lv' := [(2, .int (y18_4_2 + 1)), (0, .ref (a0 0)), (1, .int z_2)]) hx hb dX7_crash_31 hl (k := 2) rfl rfl (by decide) rfl (fun ls hl => ?_)
        refine lv_goto (tgt := 18) hx hb dX7_crash_34 (by decide) ?_
        exact ih18_4 _ _ _ _ _ hf hP hS (lv_sub hl [1, 2, 0] rfl)
  exact j18_4 4096 _ _ _ _ _ hf hP hS (lv_sub hl [2, 1, 0] rfl)
set_option maxRecDepth 20000 in
theorem ggX7_snapshot_X7_can : GoodIn wsX7_snapshot wsX7_can := goodIn_r _ [6, 7, 37, 38, 39, 40, 41, 42, 43, 44, 45, 46, 47, 48, 49, 50, 51, 52, 53, 54, 55] (by decide +kernel) (by decide +kernel)
set_option maxRecDepth 20000 in
theorem gX7_snapshot_X7_can : GoodIn wsX7_snapshot (wsV RX7 140 RX7 yX7_can wsX7_can) := goodIn_app (goodIn_of _ (by decide +kernel)) ggX7_snapshot_X7_can
set_option maxRecDepth 20000 in
theorem ggX7_snapshot_X7_commits : GoodIn wsX7_snapshot wsX7_commits := goodIn_r _ [11, 12, 13, 14, 5, 15, 16, 17, 18, 19, 20, 21, 22, 23, 24, 25, 26, 27, 28, 29, 30, 31, 32, 33, 34, 35, 36, 37, 38, 39, 40, 41, 42, 43, 44, 45, 46, 47, 48, 49, 50, 51, 52, 53, 54, 55] (by decide +kernel) (by decide +kernel)
set_option maxRecDepth 20000 in
theorem gX7_snapshot_X7_commits : GoodIn wsX7_snapshot (wsV RX7 222 RX7 yX7_commits wsX7_commits) := goodIn_app (goodIn_of _ (by decide +kernel)) ggX7_snapshot_X7_commits
set_option maxRecDepth 20000 in
theorem ggX7_snapshot_X7_copies : GoodIn wsX7_snapshot wsX7_copies := goodIn_r _ [36, 29, 37, 38, 39, 40, 41, 42, 43, 44, 45, 46, 47, 48, 49, 50, 51, 52, 53, 54, 55] (by decide +kernel) (by decide +kernel)
set_option maxRecDepth 20000 in
theorem gX7_snapshot_X7_copies : GoodIn wsX7_snapshot (wsV RX7 54 RX7 yX7_copies wsX7_copies) := goodIn_app (goodIn_of _ (by decide +kernel)) ggX7_snapshot_X7_copies
theorem dX7_snapshot_0 : decode cX7_snapshot 0 = .ok (.iconst 2, 1) := by decide +kernel
theorem dX7_snapshot_1 : decode cX7_snapshot 1 = .ok (.istore_n 1, 1) := by decide +kernel
theorem dX7_snapshot_2 : decode cX7_snapshot 2 = .ok (.iload_n 1, 1) := by decide +kernel
theorem dX7_snapshot_3 : decode cX7_snapshot 3 = .ok (.iconst 5, 1) := by decide +kernel
theorem dX7_snapshot_4 : decode cX7_snapshot 4 = .ok (.if_icmp .ge 18, 3) := by decide +kernel
theorem dX7_snapshot_7 : decode cX7_snapshot 7 = .ok (.aload_n 0, 1) := by decide +kernel
theorem dX7_snapshot_8 : decode cX7_snapshot 8 = .ok (.getfield 13, 3) := by decide +kernel
theorem dX7_snapshot_11 : decode cX7_snapshot 11 = .ok (.iload_n 1, 1) := by decide +kernel
theorem dX7_snapshot_12 : decode cX7_snapshot 12 = .ok (.baload, 1) := by decide +kernel
theorem dX7_snapshot_13 : decode cX7_snapshot 13 = .ok (.ifCond .eq 9, 3) := by decide +kernel
theorem dX7_snapshot_16 : decode cX7_snapshot 16 = .ok (.iinc 1 1, 3) := by decide +kernel
theorem dX7_snapshot_19 : decode cX7_snapshot 19 = .ok (.goto (-17), 3) := by decide +kernel
theorem dX7_snapshot_22 : decode cX7_snapshot 22 = .ok (.aload_n 0, 1) := by decide +kernel
theorem dX7_snapshot_23 : decode cX7_snapshot 23 = .ok (.iload_n 1, 1) := by decide +kernel
theorem dX7_snapshot_24 : decode cX7_snapshot 24 = .ok (.iconst 5, 1) := by decide +kernel
theorem dX7_snapshot_25 : decode cX7_snapshot 25 = .ok (.if_icmp .ge 7, 3) := by decide +kernel
theorem dX7_snapshot_28 : decode cX7_snapshot 28 = .ok (.iconst 0, 1) := by decide +kernel
theorem dX7_snapshot_29 : decode cX7_snapshot 29 = .ok (.goto 4, 3) := by decide +kernel
theorem dX7_snapshot_32 : decode cX7_snapshot 32 = .ok (.iconst 1, 1) := by decide +kernel
theorem dX7_snapshot_33 : decode cX7_snapshot 33 = .ok (.invokevirtual 140, 3) := by decide +kernel
theorem dX7_snapshot_36 : decode cX7_snapshot 36 = .ok (.ifCond .ne 5, 3) := by decide +kernel
theorem dX7_snapshot_39 : decode cX7_snapshot 39 = .ok (.iconst 0, 1) := by decide +kernel
theorem dX7_snapshot_40 : decode cX7_snapshot 40 = .ok (.ireturn, 1) := by decide +kernel
theorem dX7_snapshot_41 : decode cX7_snapshot 41 = .ok (.aload_n 0, 1) := by decide +kernel
theorem dX7_snapshot_42 : decode cX7_snapshot 42 = .ok (.invokevirtual 222, 3) := by decide +kernel
theorem dX7_snapshot_45 : decode cX7_snapshot 45 = .ok (.istore_n 2, 1) := by decide +kernel
theorem dX7_snapshot_46 : decode cX7_snapshot 46 = .ok (.aload_n 0, 1) := by decide +kernel
theorem dX7_snapshot_47 : decode cX7_snapshot 47 = .ok (.iconst 0, 1) := by decide +kernel
theorem dX7_snapshot_48 : decode cX7_snapshot 48 = .ok (.iload_n 1, 1) := by decide +kernel
theorem dX7_snapshot_49 : decode cX7_snapshot 49 = .ok (.invokevirtual 54, 3) := by decide +kernel
theorem dX7_snapshot_52 : decode cX7_snapshot 52 = .ok (.aload_n 0, 1) := by decide +kernel
theorem dX7_snapshot_53 : decode cX7_snapshot 53 = .ok (.getfield 13, 3) := by decide +kernel
theorem dX7_snapshot_56 : decode cX7_snapshot 56 = .ok (.iload_n 1, 1) := by decide +kernel
theorem dX7_snapshot_57 : decode cX7_snapshot 57 = .ok (.iconst 1, 1) := by decide +kernel
theorem dX7_snapshot_58 : decode cX7_snapshot 58 = .ok (.bastore, 1) := by decide +kernel
theorem dX7_snapshot_59 : decode cX7_snapshot 59 = .ok (.iload_n 1, 1) := by decide +kernel
theorem dX7_snapshot_60 : decode cX7_snapshot 60 = .ok (.iconst 2, 1) := by decide +kernel
theorem dX7_snapshot_61 : decode cX7_snapshot 61 = .ok (.isub, 1) := by decide +kernel
theorem dX7_snapshot_62 : decode cX7_snapshot 62 = .ok (.ireturn, 1) := by decide +kernel
def f_X7_snapshot (u0 : S1) : Option (Int32 × S1) := qj1 (fun (r2_1 : Int32 → Option (Int32 × S1)) (y2_1_1 : Int32) => jn (jn (fun (v33_3_0 : Int32) => bn (f_X7_can u0 v33_3_0) (fun z_4 => if z_4.1 = 0 then some (0, z_4.2) else bn (f_X7_commits z_4.2) (fun z_6 => bn (f_X7_copies z_6.2 0 y2_1_1) (fun z_7 => chk (inb y2_1_1 5) (bv (stz z_7 1 y2_1_1 1) (fun u_8 => some (y2_1_1 - 2, u_8))))))) (fun k33_3 => if 5 ≤ y2_1_1 then k33_3 1 else k33_3 0)) (fun k22_2 => if 5 ≤ y2_1_1 then k22_2 else chk (inb y2_1_1 5) (if (u0 1 (y2_1_1).toNatClampNeg) = 0 then k22_2 else r2_1 (y2_1_1 + 1)))) (fun k2_1 => k2_1 2)
def rmX7_snapshot : Room := { frames := 5, cells := 0, slots := 0, locals := 112 }
set_option maxHeartbeats 4000000 in
set_option maxRecDepth 100000 in
theorem c_X7_snapshot (l : Launch) (D : va_G) (cI cZ cJ cT : ClassId) (a0 : Nat → Nat) (sz : Nat) (u0 : S1) (o : Int32 × S1) (hf : f_X7_snapshot u0 = some o) : Met l yX7_snapshot wsX7_snapshot rmX7_snapshot (va_Pc [.ref (a0 0)] (PW D cls (tys cI cZ cJ cT) ((wX7 cI cZ a0 u0)) sz)) (QWi D cls o.1 ((wX7 cI cZ a0 o.2)) (va_A ((wX7 cI cZ a0 u0)) sz)) 0 0 (va_A ((wX7 cI cZ a0 u0)) sz) := by
  refine Met.ofW (cc := cX7_snapshot) (maxL := 3) (ret := (some .int)) (by decide) rfl ?_
  intro p e s m args below meth c s₁ B hml hv
  obtain ⟨hav, hsz, hP, hK, hD0⟩ := hv
  have hx := B.exec
  have hb := B.bytes
  have hr := B.returns
  have hlocks := B.notSynchronized
  have hts := atoms_spec (ws := wsX7_snapshot) B.pre
  have hown : s.vm.findClass RX7 = some m.cls := findClass_of_methodNamed B.named
  have i7 : ∀ w ∈ wsX70, w ∈ wsX7_snapshot := fun w h => List.mem_cons_of_mem _ (List.mem_append_right _ h)
  have hk13 := hts (.fieldLink RX7 13 "InoderyModel" "isGiven" "[Z") (by decide +kernel)
  subst hsz
  have hD := hD0.self (sz := s.heap.size)
  generalize hAe : va_A ((wX7 cI cZ a0 u0)) s.heap.size = A at hD ⊢
  have hA : ∀ q : Nat, s.heap.size ≤ q → A q := fun q h => by rw [← hAe]; exact Or.inr h
  have hS : va_S A s.heap s.heap [] := va_S.rf
  have hDD : ∀ w0 : S1, va_D A ((wX7 cI cZ a0 w0)) := fun _ => D_same (w := (wX7 cI cZ a0 u0)) rfl hD
  refine Wq (fun Q hQ => ?_)
  refine W_entry hav (Nat.le_of_ble_eq_true rfl) (fun ls hl => ?_)
  have hl : lv_has ls 3 [(0, .ref (a0 0))] := hl
  unfold f_X7_snapshot at hf
  refine W_heap hP hS (fun H locs hP hS => ?_)
  refine lv_iconst (v := 2) hx hb dX7_snapshot_0 (by decide) ?_
  refine lv_istore_n (lv' := [(1, .int 2), (0, .ref (a0 0))]) hx hb dX7_snapshot_1 rfl hl (by decide) rfl (fun ls hl => ?_)
  obtain ⟨G2_1, hG2_1, hf⟩ := qj1_some hf
  have j2_1 : ∀ (n : Nat) (y2_1_1 : Int32) (H : Heap) (locs : List Loc) (ls : Array Slot), ql1 G2_1 n y2_1_1 = some o → va_P D cls (wX7 cI cZ a0 u0) H → va_S A s.heap H locs → lv_has ls 3 [(0, .ref (a0 0)), (1, .int y2_1_1)] → W p l e (headSpec wsX7_snapshot rmX7_snapshot).room s m args below meth c H locs 0 0 Q (F0 m 2 ls []) := by
    intro n
    induction n with
    | zero => intro y2_1_1 H locs ls hf hP hS hl; exact (ql1_z hf).elim
    | succ n ih2_1 =>
      intro y2_1_1 H locs ls hf hP hS hl
      have hf := ql1_s hG2_1 hf
      obtain ⟨r2_1, hr2_1⟩ : ∃ z, z = ql1 G2_1 n := ⟨_, rfl⟩
      rw [← hr2_1] at hf ih2_1
      refine lv_iload_n hx hb dX7_snapshot_2 rfl (lv_at hl 1 rfl) ?_
      refine lv_iconst (v := 5) hx hb dX7_snapshot_3 (by decide) ?_
      obtain ⟨k22_2, hk22_2, hf⟩ := jn_some hf
      have j22_2 : ∀ (H : Heap) (locs : List Loc) (ls : Array Slot), k22_2 = some o → va_P D cls (wX7 cI cZ a0 u0) H → va_S A s.heap H locs → lv_has ls 3 [(0, .ref (a0 0)), (1, .int y2_1_1)] → W p l e (headSpec wsX7_snapshot rmX7_snapshot).room s m args below meth c H locs 0 0 Q (F0 m 22 ls []) := by
        intro H locs ls hf hP hS hl
        have hf := qa0 hk22_2 hf
        refine lv_aload_n hx hb dX7_snapshot_22 rfl (lv_at hl 0 rfl) ?_
        refine lv_iload_n hx hb dX7_snapshot_23 rfl (lv_at hl 1 rfl) ?_
        refine lv_iconst (v := 5) hx hb dX7_snapshot_24 (by decide) ?_
        obtain ⟨k33_3, hk33_3, hf⟩ := jn_some hf
        have j33_3 : ∀ (v33_3_0 : Int32) (H : Heap) (locs : List Loc) (ls : Array Slot), k33_3 v33_3_0 = some o → va_P D cls (wX7 cI cZ a0 u0) H → va_S A s.heap H locs → lv_has ls 3 [(0, .ref (a0 0)), (1, .int y2_1_1)] → W p l e (headSpec wsX7_snapshot rmX7_snapshot).room s m args below meth c H locs 0 0 Q (F0 m 33 ls [.int v33_3_0, .ref (a0 0)]) := by
          intro v33_3_0 H locs ls hf hP hS hl
          have hf := qa1 hk33_3 hf
          obtain ⟨z_4, hz_4, hf⟩ := bn_some hf
          refine cWVi (As := [.int v33_3_0]) (rest := []) ⟨hx, hb, hml, hown, hts⟩ (c_X7_can l D cI cZ cJ cT a0 H.size u0 v33_3_0 z_4 hz_4) (cwV 1 hts gX7_snapshot_X7_can rfl rfl rfl (by decide +kernel) ⟨Nat.le_of_ble_eq_true rfl, Nat.le_of_ble_eq_true rfl⟩) hP hK (hDD u0) hS (own_free (hDD u0) hS hA) (va_recv hK hP (ci := 7) (q0 := 0) rfl rfl) rfl rfl hl.1 (Nat.le_of_ble_eq_true rfl) dX7_snapshot_33 ⟨Nat.le_of_ble_eq_true rfl, Nat.le_of_ble_eq_true rfl⟩ (fun H1 locs hP1 hk1 hS => ?_)
          have hP : va_P D cls (wX7 cI cZ a0 z_4.2) H1 := hP1
          clear hP1 hk1
          generalize H1 = H at hP hS ⊢
          refine lv_if_ne (tgt := 41) hx hb dX7_snapshot_36 (by decide) (fun c_5 => ?_) (fun c_5 => ?_)
          · have hf := ite_f hf c_5
            refine lv_aload_n hx hb dX7_snapshot_41 rfl (lv_at hl 0 rfl) ?_
            obtain ⟨z_6, hz_6, hf⟩ := bn_some hf
            refine cWVi (As := []) (rest := []) ⟨hx, hb, hml, hown, hts⟩ (c_X7_commits l D cI cZ cJ cT a0 H.size z_4.2 z_6 hz_6) (cwV 0 hts gX7_snapshot_X7_commits rfl rfl rfl (by decide +kernel) ⟨Nat.le_of_ble_eq_true rfl, Nat.le_of_ble_eq_true rfl⟩) hP hK (hDD z_4.2) hS (own_free (hDD z_4.2) hS hA) (va_recv hK hP (ci := 7) (q0 := 0) rfl rfl) rfl rfl hl.1 (Nat.le_of_ble_eq_true rfl) dX7_snapshot_42 ⟨Nat.le_of_ble_eq_true rfl, Nat.le_of_ble_eq_true rfl⟩ (fun H1 locs hP1 hk1 hS => ?_)
            have hP : va_P D cls (wX7 cI cZ a0 z_6.2) H1 := hP1
            clear hP1 hk1
            generalize H1 = H at hP hS ⊢
            refine lv_istore_n (lv' := [(2, .int z_6.1), (0, .ref (a0 0)), (1, .int y2_1_1)]) hx hb dX7_snapshot_45 rfl hl (by decide) rfl (fun ls hl => ?_)
            refine lv_aload_n hx hb dX7_snapshot_46 rfl (lv_at hl 1 rfl) ?_
            refine lv_iconst (v := 0) hx hb dX7_snapshot_47 (by decide) ?_
            refine lv_iload_n hx hb dX7_snapshot_48 rfl (lv_at hl 2 rfl) ?_
            obtain ⟨z_7, hz_7, hf⟩ := bn_some hf
            refine cWVv (As := [.int 0, .int y2_1_1]) (rest := []) ⟨hx, hb, hml, hown, hts⟩ (c_X7_copies l D cI cZ cJ cT a0 H.size z_6.2 0 y2_1_1 z_7 hz_7) (cwV 2 hts gX7_snapshot_X7_copies rfl rfl rfl (by decide +kernel) ⟨Nat.le_of_ble_eq_true rfl, Nat.le_of_ble_eq_true rfl⟩) hP hK (hDD z_6.2) hS (own_free (hDD z_6.2) hS hA) (va_recv hK hP (ci := 7) (q0 := 0) rfl rfl) rfl rfl hl.1 (Nat.le_of_ble_eq_true rfl) dX7_snapshot_49 ⟨Nat.le_of_ble_eq_true rfl, Nat.le_of_ble_eq_true rfl⟩ (fun H1 locs hP1 hk1 hS => ?_)
            have hP : va_P D cls (wX7 cI cZ a0 z_7) H1 := hP1
            clear hP1 hk1
            generalize H1 = H at hP hS ⊢
            refine lv_aload_n hx hb dX7_snapshot_52 rfl (lv_at hl 1 rfl) ?_
            refine va_get (D := D) (ci := 7) (v := .ref (a0 2)) (C := RX7) (T := TX7) (N := 19) hx hb hts i7 hown hK hP 0 rfl rfl 1 (by decide) hk13 (fun _ h9 => h9) rfl dX7_snapshot_53 ?_
            refine lv_iload_n hx hb dX7_snapshot_56 rfl (lv_at hl 2 rfl) ?_
            refine lv_iconst (v := 1) hx hb dX7_snapshot_57 (by decide) ?_
            obtain ⟨hi, hf⟩ := chk_some hf
            obtain ⟨u_8, hu_8, hf⟩ := bv_some hf
            refine va_zast hx hb hK hP (hDD z_7) hS 2 1 rfl rfl (inb_in hi) dX7_snapshot_58 (fun H locs hP _ hS => ?_)
            have hP : va_P D cls (wX7 cI cZ a0 u_8) H := by rw [hu_8]; exact hP
            refine lv_iload_n hx hb dX7_snapshot_59 rfl (lv_at hl 2 rfl) ?_
            refine lv_iconst (v := 2) hx hb dX7_snapshot_60 (by decide) ?_
            refine lv_isub hx hb dX7_snapshot_61 ?_
            have eo := Option.some.inj hf
            have hP : va_P D cls (wX7 cI cZ a0 o.2) H := by rw [← eo]; exact hP
            rw [hQ]
            exact W.iret hx hb hr (fun t ht hW => ⟨⟨_, (), rfl, congrArg Prod.fst eo, P_at ht hP⟩, hS.F ht⟩) hS.2.2 dX7_snapshot_62 hlocks
          · have hf := ite_t hf c_5
            refine lv_iconst (v := 0) hx hb dX7_snapshot_39 (by decide) ?_
            have eo := Option.some.inj hf
            have hP : va_P D cls (wX7 cI cZ a0 o.2) H := by rw [← eo]; exact hP
            rw [hQ]
            exact W.iret hx hb hr (fun t ht hW => ⟨⟨_, (), rfl, congrArg Prod.fst eo, P_at ht hP⟩, hS.F ht⟩) hS.2.2 dX7_snapshot_40 hlocks
        refine lv_icmp_ge (tgt := 32) hx hb dX7_snapshot_25 (by decide) (fun c_9 => ?_) (fun c_9 => ?_)
        · have hf := ite_t hf c_9
          refine lv_iconst (v := 1) hx hb dX7_snapshot_32 (by decide) ?_
          exact j33_3 _ _ _ _ hf hP hS (lv_sub hl [0, 1] rfl)
        · have hf := ite_f hf c_9
          refine lv_iconst (v := 0) hx hb dX7_snapshot_28 (by decide) ?_
          refine lv_goto (tgt := 33) hx hb dX7_snapshot_29 (by decide) ?_
          exact j33_3 _ _ _ _ hf hP hS (lv_sub hl [0, 1] rfl)
      refine lv_icmp_ge (tgt := 22) hx hb dX7_snapshot_4 (by decide) (fun c_10 => ?_) (fun c_10 => ?_)
      · have hf := ite_t hf c_10
        exact j22_2 _ _ _ hf hP hS (lv_sub hl [0, 1] rfl)
      · have hf := ite_f hf c_10
        refine lv_aload_n hx hb dX7_snapshot_7 rfl (lv_at hl 0 rfl) ?_
        refine va_get (D := D) (ci := 7) (v := .ref (a0 2)) (C := RX7) (T := TX7) (N := 19) hx hb hts i7 hown hK hP 0 rfl rfl 1 (by decide) hk13 (fun _ h9 => h9) rfl dX7_snapshot_8 ?_
        refine lv_iload_n hx hb dX7_snapshot_11 rfl (lv_at hl 1 rfl) ?_
        obtain ⟨hi, hf⟩ := chk_some hf
        refine va_zald hx hb hK hP 2 1 rfl rfl (inb_in hi) dX7_snapshot_12 ?_
        refine lv_if_eq (tgt := 22) hx hb dX7_snapshot_13 (by decide) (fun c_11 => ?_) (fun c_11 => ?_)
        · have hf := ite_t hf c_11
          exact j22_2 _ _ _ hf hP hS (lv_sub hl [0, 1] rfl)
        · have hf := ite_f hf c_11
          refine lv_iinc (v := y2_1_1 + 1) (lv' := [(1, .int (y2_1_1 + 1)), (0, .ref (a0 0))]) hx hb dX7_snapshot_16 hl (k := 1) rfl rfl (by decide) rfl (fun ls hl => ?_)
          refine lv_goto (tgt := 2) hx hb dX7_snapshot_19 (by decide) ?_
          exact ih2_1 _ _ _ _ hf hP hS (lv_sub hl [1, 0] rfl)
  exact j2_1 4096 _ _ _ _ hf hP hS (lv_sub hl [1, 0] rfl)
set_option maxRecDepth 20000 in
theorem ggX7_isSnapshot_X7_isIn : GoodIn wsX7_isSnapshot wsX7_isIn := goodIn_r _ [5] (by decide +kernel) (by decide +kernel)
set_option maxRecDepth 20000 in
theorem gX7_isSnapshot_X7_isIn : GoodIn wsX7_isSnapshot (va_wsS RX7 62 yX7_isIn wsX7_isIn) := goodIn_app (goodIn_of _ (by decide +kernel)) ggX7_isSnapshot_X7_isIn
theorem dX7_isSnapshot_0 : decode cX7_isSnapshot 0 = .ok (.iload_n 1, 1) := by decide +kernel
theorem dX7_isSnapshot_1 : decode cX7_isSnapshot 1 = .ok (.iconst 0, 1) := by decide +kernel
theorem dX7_isSnapshot_2 : decode cX7_isSnapshot 2 = .ok (.iconst 2, 1) := by decide +kernel
theorem dX7_isSnapshot_3 : decode cX7_isSnapshot 3 = .ok (.invokestatic 62, 3) := by decide +kernel
theorem dX7_isSnapshot_6 : decode cX7_isSnapshot 6 = .ok (.ifCond .eq 18, 3) := by decide +kernel
theorem dX7_isSnapshot_9 : decode cX7_isSnapshot 9 = .ok (.aload_n 0, 1) := by decide +kernel
theorem dX7_isSnapshot_10 : decode cX7_isSnapshot 10 = .ok (.getfield 13, 3) := by decide +kernel
theorem dX7_isSnapshot_13 : decode cX7_isSnapshot 13 = .ok (.iconst 2, 1) := by decide +kernel
theorem dX7_isSnapshot_14 : decode cX7_isSnapshot 14 = .ok (.iload_n 1, 1) := by decide +kernel
theorem dX7_isSnapshot_15 : decode cX7_isSnapshot 15 = .ok (.iadd, 1) := by decide +kernel
theorem dX7_isSnapshot_16 : decode cX7_isSnapshot 16 = .ok (.baload, 1) := by decide +kernel
theorem dX7_isSnapshot_17 : decode cX7_isSnapshot 17 = .ok (.ifCond .eq 7, 3) := by decide +kernel
theorem dX7_isSnapshot_20 : decode cX7_isSnapshot 20 = .ok (.iconst 1, 1) := by decide +kernel
theorem dX7_isSnapshot_21 : decode cX7_isSnapshot 21 = .ok (.goto 4, 3) := by decide +kernel
theorem dX7_isSnapshot_24 : decode cX7_isSnapshot 24 = .ok (.iconst 0, 1) := by decide +kernel
theorem dX7_isSnapshot_25 : decode cX7_isSnapshot 25 = .ok (.ireturn, 1) := by decide +kernel
def f_X7_isSnapshot (u0 : S1) (p1 : Int32) : Option (Int32) := bn (f_X7_isIn p1 0 2) (fun z_1 => jn (fun (v25_2_0 : Int32) => some (vp_nar .boolean v25_2_0)) (fun k25_2 => jn (k25_2 0) (fun k24_3 => if z_1 = 0 then k24_3 else chk (inb (2 + p1) 5) (if (u0 1 (2 + p1).toNatClampNeg) = 0 then k24_3 else k25_2 1))))
def rmX7_isSnapshot : Room := { frames := 1, cells := 0, slots := 0, locals := 22 }
set_option maxHeartbeats 4000000 in
set_option maxRecDepth 100000 in
theorem c_X7_isSnapshot (l : Launch) (D : va_G) (cI cZ cJ cT : ClassId) (a0 : Nat → Nat) (u0 : S1) (p1 : Int32) (o : Int32) (hf : f_X7_isSnapshot u0 p1 = some o) : Met l yX7_isSnapshot wsX7_isSnapshot rmX7_isSnapshot (va_Pc [.ref (a0 0), .int p1] (PR D cls (tys cI cZ cJ cT) ((wX7 cI cZ a0 u0)))) (QR o) 0 0 (fun _ => False) := by
  refine Met.ofW (cc := cX7_isSnapshot) (maxL := 2) (ret := (some .boolean)) (by decide) rfl ?_
  intro p e s m args below meth c s₁ B hml hv
  obtain ⟨hav, hP, hK⟩ := hv
  have hx := B.exec
  have hb := B.bytes
  have hr := B.returns
  have hlocks := B.notSynchronized
  have hts := atoms_spec (ws := wsX7_isSnapshot) B.pre
  have hown : s.vm.findClass RX7 = some m.cls := findClass_of_methodNamed B.named
  have i7 : ∀ w ∈ wsX70, w ∈ wsX7_isSnapshot := fun w h => List.mem_cons_of_mem _ (List.mem_append_right _ h)
  have hk13 := hts (.fieldLink RX7 13 "InoderyModel" "isGiven" "[Z") (by decide +kernel)
  refine Wq (fun Q hQ => ?_)
  refine W_entry hav (Nat.le_of_ble_eq_true rfl) (fun ls hl => ?_)
  have hl : lv_has ls 2 [(0, .ref (a0 0)), (1, .int p1)] := hl
  unfold f_X7_isSnapshot at hf
  refine lv_iload_n hx hb dX7_isSnapshot_0 rfl (lv_at hl 1 rfl) ?_
  refine lv_iconst (v := 0) hx hb dX7_isSnapshot_1 (by decide) ?_
  refine lv_iconst (v := 2) hx hb dX7_isSnapshot_2 (by decide) ?_
  obtain ⟨z_1, hz_1, hf⟩ := bn_some hf
  refine c0S (As := [.int p1, .int 0, .int 2]) (rest := []) ⟨hx, hb, hml, hown, hts⟩ (c_X7_isIn l D cI cZ cJ cT p1 0 2 z_1 hz_1) (va_cwS 3 hts gX7_isSnapshot_X7_isIn rfl rfl rfl (by decide +kernel) ⟨Nat.le_of_ble_eq_true rfl, Nat.le_of_ble_eq_true rfl⟩) rfl rfl hl.1 (Nat.le_of_ble_eq_true rfl) dX7_isSnapshot_3 ⟨Nat.le_of_ble_eq_true rfl, Nat.le_of_ble_eq_true rfl⟩ ?_
  obtain ⟨k25_2, hk25_2, hf⟩ := jn_some hf
  have j25_2 : ∀ (v25_2_0 : Int32) (ls : Array Slot), k25_2 v25_2_0 = some o → lv_has ls 2 [] → W p l e (headSpec wsX7_isSnapshot rmX7_isSnapshot).room s m args below meth c s.heap [] 0 0 Q (F0 m 25 ls [.int v25_2_0]) := by
    intro v25_2_0 ls hf hl
    have hf := qa1 hk25_2 hf
    rw [hQ]
    exact zretN (v := v25_2_0) (v' := vp_nar .boolean v25_2_0) hx hb hr rfl (fun t ht hW => ⟨_, rfl, Option.some.inj hf, ht⟩) (fun _ h => nomatch h) dX7_isSnapshot_25 hlocks
  obtain ⟨k24_3, hk24_3, hf⟩ := jn_some hf
  have j24_3 : ∀ (ls : Array Slot), k24_3 = some o → lv_has ls 2 [] → W p l e (headSpec wsX7_isSnapshot rmX7_isSnapshot).room s m args below meth c s.heap [] 0 0 Q (F0 m 24 ls []) := by
    intro ls hf hl
    have hf := qa0 hk24_3 hf
    refine lv_iconst (v := 0) hx hb dX7_isSnapshot_24 (by decide) ?_
    exact j25_2 _ _ hf (lv_sub hl [] rfl)
  refine lv_if_eq (tgt := 24) hx hb dX7_isSnapshot_6 (by decide) (fun c_4 => ?_) (fun c_4 => ?_)
  · have hf := ite_t hf c_4
    exact j24_3 _ hf (lv_sub hl [] rfl)
  · have hf := ite_f hf c_4
    refine lv_aload_n hx hb dX7_isSnapshot_9 rfl (lv_at hl 0 rfl) ?_
    refine va_get (D := D) (ci := 7) (v := .ref (a0 2)) (C := RX7) (T := TX7) (N := 19) hx hb hts i7 hown hK hP 0 rfl rfl 1 (by decide) hk13 (fun _ h9 => h9) rfl dX7_isSnapshot_10 ?_
    refine lv_iconst (v := 2) hx hb dX7_isSnapshot_13 (by decide) ?_
    refine lv_iload_n hx hb dX7_isSnapshot_14 rfl (lv_at hl 1 rfl) ?_
    refine lv_iadd hx hb dX7_isSnapshot_15 ?_
    obtain ⟨hi, hf⟩ := chk_some hf
    refine va_zald hx hb hK hP 2 1 rfl rfl (inb_in hi) dX7_isSnapshot_16 ?_
    refine lv_if_eq (tgt := 24) hx hb dX7_isSnapshot_17 (by decide) (fun c_5 => ?_) (fun c_5 => ?_)
    · have hf := ite_t hf c_5
      exact j24_3 _ hf (lv_sub hl [] rfl)
    · have hf := ite_f hf c_5
      refine lv_iconst (v := 1) hx hb dX7_isSnapshot_20 (by decide) ?_
      refine lv_goto (tgt := 25) hx hb dX7_isSnapshot_21 (by decide) ?_
      exact j25_2 _ _ hf (lv_sub hl [] rfl)
set_option maxRecDepth 20000 in
theorem ggX7_freeBlocks_X7_frees : GoodIn wsX7_freeBlocks wsX7_frees := goodIn_r _ [5, 6, 7, 8, 4, 9, 10, 11, 12, 13, 14, 15, 16, 17, 18, 19, 20, 21, 22, 23, 24, 25, 26, 27, 28, 29, 30, 31, 32, 33] (by decide +kernel) (by decide +kernel)
set_option maxRecDepth 20000 in
theorem gX7_freeBlocks_X7_frees : GoodIn wsX7_freeBlocks (wsV RX7 195 RX7 yX7_frees wsX7_frees) := goodIn_app (goodIn_of _ (by decide +kernel)) ggX7_freeBlocks_X7_frees
theorem dX7_freeBlocks_0 : decode cX7_freeBlocks 0 = .ok (.iconst 0, 1) := by decide +kernel
theorem dX7_freeBlocks_1 : decode cX7_freeBlocks 1 = .ok (.istore_n 1, 1) := by decide +kernel
theorem dX7_freeBlocks_2 : decode cX7_freeBlocks 2 = .ok (.iconst 0, 1) := by decide +kernel
theorem dX7_freeBlocks_3 : decode cX7_freeBlocks 3 = .ok (.istore_n 2, 1) := by decide +kernel
theorem dX7_freeBlocks_4 : decode cX7_freeBlocks 4 = .ok (.iload_n 2, 1) := by decide +kernel
theorem dX7_freeBlocks_5 : decode cX7_freeBlocks 5 = .ok (.bipush 64, 2) := by decide +kernel
theorem dX7_freeBlocks_7 : decode cX7_freeBlocks 7 = .ok (.if_icmp .ge 25, 3) := by decide +kernel
theorem dX7_freeBlocks_10 : decode cX7_freeBlocks 10 = .ok (.iload_n 1, 1) := by decide +kernel
theorem dX7_freeBlocks_11 : decode cX7_freeBlocks 11 = .ok (.aload_n 0, 1) := by decide +kernel
theorem dX7_freeBlocks_12 : decode cX7_freeBlocks 12 = .ok (.iload_n 2, 1) := by decide +kernel
theorem dX7_freeBlocks_13 : decode cX7_freeBlocks 13 = .ok (.invokevirtual 195, 3) := by decide +kernel
theorem dX7_freeBlocks_16 : decode cX7_freeBlocks 16 = .ok (.ifCond .eq 7, 3) := by decide +kernel
theorem dX7_freeBlocks_19 : decode cX7_freeBlocks 19 = .ok (.iconst 1, 1) := by decide +kernel
theorem dX7_freeBlocks_20 : decode cX7_freeBlocks 20 = .ok (.goto 4, 3) := by decide +kernel
theorem dX7_freeBlocks_23 : decode cX7_freeBlocks 23 = .ok (.iconst 0, 1) := by decide +kernel
theorem dX7_freeBlocks_24 : decode cX7_freeBlocks 24 = .ok (.iadd, 1) := by decide +kernel
theorem dX7_freeBlocks_25 : decode cX7_freeBlocks 25 = .ok (.istore_n 1, 1) := by decide +kernel
theorem dX7_freeBlocks_26 : decode cX7_freeBlocks 26 = .ok (.iinc 2 1, 3) := by decide +kernel
theorem dX7_freeBlocks_29 : decode cX7_freeBlocks 29 = .ok (.goto (-25), 3) := by decide +kernel
theorem dX7_freeBlocks_32 : decode cX7_freeBlocks 32 = .ok (.iload_n 1, 1) := by decide +kernel
theorem dX7_freeBlocks_33 : decode cX7_freeBlocks 33 = .ok (.ireturn, 1) := by decide +kernel
def f_X7_freeBlocks (u0 : S1) : Option (Int32) := qj2 (fun (r4_1 : Int32 → Int32 → Option (Int32)) (y4_1_1 : Int32) (y4_1_2 : Int32) => if 64 ≤ y4_1_2 then some y4_1_1 else bn (f_X7_frees u0 y4_1_2) (fun z_3 => jn (fun (v24_4_0 : Int32) => r4_1 (y4_1_1 + v24_4_0) (y4_1_2 + 1)) (fun k24_4 => if z_3 = 0 then k24_4 0 else k24_4 1))) (fun k4_1 => k4_1 0 0)
def rmX7_freeBlocks : Room := { frames := 3, cells := 0, slots := 0, locals := 68 }
set_option maxHeartbeats 4000000 in
set_option maxRecDepth 100000 in
theorem c_X7_freeBlocks (l : Launch) (D : va_G) (cI cZ cJ cT : ClassId) (a0 : Nat → Nat) (u0 : S1) (o : Int32) (hf : f_X7_freeBlocks u0 = some o) : Met l yX7_freeBlocks wsX7_freeBlocks rmX7_freeBlocks (va_Pc [.ref (a0 0)] (PR D cls (tys cI cZ cJ cT) ((wX7 cI cZ a0 u0)))) (QR o) 0 0 (fun _ => False) := by
  refine Met.ofW (cc := cX7_freeBlocks) (maxL := 3) (ret := (some .int)) (by decide) rfl ?_
  intro p e s m args below meth c s₁ B hml hv
  obtain ⟨hav, hP, hK⟩ := hv
  have hx := B.exec
  have hb := B.bytes
  have hr := B.returns
  have hlocks := B.notSynchronized
  have hts := atoms_spec (ws := wsX7_freeBlocks) B.pre
  have hown : s.vm.findClass RX7 = some m.cls := findClass_of_methodNamed B.named
  refine Wq (fun Q hQ => ?_)
  refine W_entry hav (Nat.le_of_ble_eq_true rfl) (fun ls hl => ?_)
  have hl : lv_has ls 3 [(0, .ref (a0 0))] := hl
  unfold f_X7_freeBlocks at hf
  refine lv_iconst (v := 0) hx hb dX7_freeBlocks_0 (by decide) ?_
  refine lv_istore_n (lv' := [(1, .int 0), (0, .ref (a0 0))]) hx hb dX7_freeBlocks_1 rfl hl (by decide) rfl (fun ls hl => ?_)
  refine lv_iconst (v := 0) hx hb dX7_freeBlocks_2 (by decide) ?_
  refine lv_istore_n (lv' := [(2, .int 0), (1, .int 0), (0, .ref (a0 0))]) hx hb dX7_freeBlocks_3 rfl hl (by decide) rfl (fun ls hl => ?_)
  obtain ⟨G4_1, hG4_1, hf⟩ := qj2_some hf
  have j4_1 : ∀ (n : Nat) (y4_1_1 : Int32) (y4_1_2 : Int32) (ls : Array Slot), ql2 G4_1 n y4_1_1 y4_1_2 = some o → lv_has ls 3 [(0, .ref (a0 0)), (1, .int y4_1_1), (2, .int y4_1_2)] → W p l e (headSpec wsX7_freeBlocks rmX7_freeBlocks).room s m args below meth c s.heap [] 0 0 Q (F0 m 4 ls []) := by
    intro n
    induction n with
    | zero => intro y4_1_1 y4_1_2 ls hf hl; exact (ql2_z hf).elim
    | succ n ih4_1 =>
      intro y4_1_1 y4_1_2 ls hf hl
      have hf := ql2_s hG4_1 hf
      obtain ⟨r4_1, hr4_1⟩ : ∃ z, z = ql2 G4_1 n := ⟨_, rfl⟩
      rw [← hr4_1] at hf ih4_1
      refine lv_iload_n hx hb dX7_freeBlocks_4 rfl (lv_at hl 2 rfl) ?_
      refine lv_bipush (v := 64) hx hb dX7_freeBlocks_5 (by decide) ?_
      refine lv_icmp_ge (tgt := 32) hx hb dX7_freeBlocks_7 (by decide) (fun c_2 => ?_) (fun c_2 => ?_)
      · have hf := ite_t hf c_2
        refine lv_iload_n hx hb dX7_freeBlocks_32 rfl (lv_at hl 1 rfl) ?_
        rw [hQ]
        exact W.iret hx hb hr (fun t ht hW => ⟨_, rfl, Option.some.inj hf, ht⟩) (fun _ h => nomatch h) dX7_freeBlocks_33 hlocks
      · have hf := ite_f hf c_2
        refine lv_iload_n hx hb dX7_freeBlocks_10 rfl (lv_at hl 1 rfl) ?_
        refine lv_aload_n hx hb dX7_freeBlocks_11 rfl (lv_at hl 0 rfl) ?_
        refine lv_iload_n hx hb dX7_freeBlocks_12 rfl (lv_at hl 2 rfl) ?_
        obtain ⟨z_3, hz_3, hf⟩ := bn_some hf
        refine cRV (As := [.int y4_1_2]) (rest := [.int y4_1_1]) ⟨hx, hb, hml, hown, hts⟩ (c_X7_frees l D cI cZ cJ cT a0 u0 y4_1_2 z_3 hz_3) (cwV 1 hts gX7_freeBlocks_X7_frees rfl rfl rfl (by decide +kernel) ⟨Nat.le_of_ble_eq_true rfl, Nat.le_of_ble_eq_true rfl⟩) hP hK (va_recv hK hP (ci := 7) (q0 := 0) rfl rfl) rfl rfl hl.1 (Nat.le_of_ble_eq_true rfl) dX7_freeBlocks_13 ⟨Nat.le_of_ble_eq_true rfl, Nat.le_of_ble_eq_true rfl⟩ ?_
        obtain ⟨k24_4, hk24_4, hf⟩ := jn_some hf
        have j24_4 : ∀ (v24_4_0 : Int32) (ls : Array Slot), k24_4 v24_4_0 = some o → lv_has ls 3 [(0, .ref (a0 0)), (2, .int y4_1_2)] → W p l e (headSpec wsX7_freeBlocks rmX7_freeBlocks).room s m args below meth c s.heap [] 0 0 Q (F0 m 24 ls [.int v24_4_0, .int y4_1_1]) := by
          intro v24_4_0 ls hf hl
          have hf := qa1 hk24_4 hf
          refine lv_iadd hx hb dX7_freeBlocks_24 ?_
          refine lv_istore_n (lv' := [(1, .int (y4_1_1 + v24_4_0)), (0, .ref (a0 0)), (2, .int y4_1_2)]) hx hb dX7_freeBlocks_25 rfl hl (by decide) rfl (fun ls hl => ?_)
          refine lv_iinc (v := y4_1_2 + 1) (lv' := [(2, .int (y4_1_2 + 1)), (1, .int (y4_1_1 + v24_4_0)), (0, .ref (a0 0))]) hx hb dX7_freeBlocks_26 hl (k := 2) rfl rfl (by decide) rfl (fun ls hl => ?_)
          refine lv_goto (tgt := 4) hx hb dX7_freeBlocks_29 (by decide) ?_
          exact ih4_1 _ _ _ hf (lv_sub hl [2, 1, 0] rfl)
        refine lv_if_eq (tgt := 23) hx hb dX7_freeBlocks_16 (by decide) (fun c_5 => ?_) (fun c_5 => ?_)
        · have hf := ite_t hf c_5
          refine lv_iconst (v := 0) hx hb dX7_freeBlocks_23 (by decide) ?_
          exact j24_4 _ _ hf (lv_sub hl [0, 2] rfl)
        · have hf := ite_f hf c_5
          refine lv_iconst (v := 1) hx hb dX7_freeBlocks_19 (by decide) ?_
          refine lv_goto (tgt := 24) hx hb dX7_freeBlocks_20 (by decide) ?_
          exact j24_4 _ _ hf (lv_sub hl [0, 2] rfl)
  exact j4_1 4096 _ _ _ hf (lv_sub hl [2, 1, 0] rfl)
set_option maxRecDepth 20000 in
theorem ggX7_drop_X7_can : GoodIn wsX7_drop wsX7_can := goodIn_r _ [13, 14, 31, 32, 33, 34, 35, 36, 37, 38, 39, 40, 41, 42, 43, 44, 45, 46, 47, 48, 49] (by decide +kernel) (by decide +kernel)
set_option maxRecDepth 20000 in
theorem gX7_drop_X7_can : GoodIn wsX7_drop (wsV RX7 140 RX7 yX7_can wsX7_can) := goodIn_app (goodIn_of _ (by decide +kernel)) ggX7_drop_X7_can
set_option maxRecDepth 20000 in
theorem ggX7_drop_X7_freeBlocks : GoodIn wsX7_drop wsX7_freeBlocks := goodIn_r _ [18, 19, 20, 21, 5, 22, 23, 24, 25, 26, 1, 27, 28, 29, 30, 31, 32, 33, 34, 35, 36, 37, 38, 39, 40, 41, 42, 43, 44, 45, 46, 47, 48, 49] (by decide +kernel) (by decide +kernel)
set_option maxRecDepth 20000 in
theorem gX7_drop_X7_freeBlocks : GoodIn wsX7_drop (wsV RX7 231 RX7 yX7_freeBlocks wsX7_freeBlocks) := goodIn_app (goodIn_of _ (by decide +kernel)) ggX7_drop_X7_freeBlocks
set_option maxRecDepth 20000 in
theorem ggX7_drop_X7_isSnapshot : GoodIn wsX7_drop wsX7_isSnapshot := goodIn_r _ [6, 1, 7, 8, 5, 9, 31, 32, 33, 34, 35, 36, 37, 38, 39, 40, 41, 42, 43, 44, 45, 46, 47, 48, 49] (by decide +kernel) (by decide +kernel)
set_option maxRecDepth 20000 in
theorem gX7_drop_X7_isSnapshot : GoodIn wsX7_drop (wsV RX7 228 RX7 yX7_isSnapshot wsX7_isSnapshot) := goodIn_app (goodIn_of _ (by decide +kernel)) ggX7_drop_X7_isSnapshot
theorem dX7_drop_0 : decode cX7_drop 0 = .ok (.aload_n 0, 1) := by decide +kernel
theorem dX7_drop_1 : decode cX7_drop 1 = .ok (.aload_n 0, 1) := by decide +kernel
theorem dX7_drop_2 : decode cX7_drop 2 = .ok (.iload_n 1, 1) := by decide +kernel
theorem dX7_drop_3 : decode cX7_drop 3 = .ok (.invokevirtual 228, 3) := by decide +kernel
theorem dX7_drop_6 : decode cX7_drop 6 = .ok (.ifCond .eq 7, 3) := by decide +kernel
theorem dX7_drop_9 : decode cX7_drop 9 = .ok (.iconst 0, 1) := by decide +kernel
theorem dX7_drop_10 : decode cX7_drop 10 = .ok (.goto 4, 3) := by decide +kernel
theorem dX7_drop_13 : decode cX7_drop 13 = .ok (.iconst 1, 1) := by decide +kernel
theorem dX7_drop_14 : decode cX7_drop 14 = .ok (.invokevirtual 140, 3) := by decide +kernel
theorem dX7_drop_17 : decode cX7_drop 17 = .ok (.ifCond .ne 5, 3) := by decide +kernel
theorem dX7_drop_20 : decode cX7_drop 20 = .ok (.iconst 0, 1) := by decide +kernel
theorem dX7_drop_21 : decode cX7_drop 21 = .ok (.ireturn, 1) := by decide +kernel
theorem dX7_drop_22 : decode cX7_drop 22 = .ok (.aload_n 0, 1) := by decide +kernel
theorem dX7_drop_23 : decode cX7_drop 23 = .ok (.invokevirtual 231, 3) := by decide +kernel
theorem dX7_drop_26 : decode cX7_drop 26 = .ok (.istore_n 2, 1) := by decide +kernel
theorem dX7_drop_27 : decode cX7_drop 27 = .ok (.aload_n 0, 1) := by decide +kernel
theorem dX7_drop_28 : decode cX7_drop 28 = .ok (.getfield 13, 3) := by decide +kernel
theorem dX7_drop_31 : decode cX7_drop 31 = .ok (.iconst 2, 1) := by decide +kernel
theorem dX7_drop_32 : decode cX7_drop 32 = .ok (.iload_n 1, 1) := by decide +kernel
theorem dX7_drop_33 : decode cX7_drop 33 = .ok (.iadd, 1) := by decide +kernel
theorem dX7_drop_34 : decode cX7_drop 34 = .ok (.iconst 0, 1) := by decide +kernel
theorem dX7_drop_35 : decode cX7_drop 35 = .ok (.bastore, 1) := by decide +kernel
theorem dX7_drop_36 : decode cX7_drop 36 = .ok (.aload_n 0, 1) := by decide +kernel
theorem dX7_drop_37 : decode cX7_drop 37 = .ok (.invokevirtual 231, 3) := by decide +kernel
theorem dX7_drop_40 : decode cX7_drop 40 = .ok (.iload_n 2, 1) := by decide +kernel
theorem dX7_drop_41 : decode cX7_drop 41 = .ok (.isub, 1) := by decide +kernel
theorem dX7_drop_42 : decode cX7_drop 42 = .ok (.ireturn, 1) := by decide +kernel
def f_X7_drop (u0 : S1) (p1 : Int32) : Option (Int32 × S1) := bn (f_X7_isSnapshot u0 p1) (fun z_1 => jn (fun (v14_2_0 : Int32) => bn (f_X7_can u0 v14_2_0) (fun z_3 => if z_3.1 = 0 then some (0, z_3.2) else bn (f_X7_freeBlocks z_3.2) (fun z_5 => chk (inb (2 + p1) 5) (bv (stz z_3.2 1 (2 + p1) 0) (fun u_6 => bn (f_X7_freeBlocks u_6) (fun z_7 => some (z_7 - z_5, u_6))))))) (fun k14_2 => if z_1 = 0 then k14_2 1 else k14_2 0))
def rmX7_drop : Room := { frames := 4, cells := 0, slots := 0, locals := 90 }
set_option maxHeartbeats 4000000 in
set_option maxRecDepth 100000 in
theorem c_X7_drop (l : Launch) (D : va_G) (cI cZ cJ cT : ClassId) (a0 : Nat → Nat) (sz : Nat) (u0 : S1) (p1 : Int32) (o : Int32 × S1) (hf : f_X7_drop u0 p1 = some o) : Met l yX7_drop wsX7_drop rmX7_drop (va_Pc [.ref (a0 0), .int p1] (PW D cls (tys cI cZ cJ cT) ((wX7 cI cZ a0 u0)) sz)) (QWi D cls o.1 ((wX7 cI cZ a0 o.2)) (va_A ((wX7 cI cZ a0 u0)) sz)) 0 0 (va_A ((wX7 cI cZ a0 u0)) sz) := by
  refine Met.ofW (cc := cX7_drop) (maxL := 3) (ret := (some .int)) (by decide) rfl ?_
  intro p e s m args below meth c s₁ B hml hv
  obtain ⟨hav, hsz, hP, hK, hD0⟩ := hv
  have hx := B.exec
  have hb := B.bytes
  have hr := B.returns
  have hlocks := B.notSynchronized
  have hts := atoms_spec (ws := wsX7_drop) B.pre
  have hown : s.vm.findClass RX7 = some m.cls := findClass_of_methodNamed B.named
  have i7 : ∀ w ∈ wsX70, w ∈ wsX7_drop := fun w h => List.mem_cons_of_mem _ (List.mem_append_right _ h)
  have hk13 := hts (.fieldLink RX7 13 "InoderyModel" "isGiven" "[Z") (by decide +kernel)
  subst hsz
  have hD := hD0.self (sz := s.heap.size)
  generalize hAe : va_A ((wX7 cI cZ a0 u0)) s.heap.size = A at hD ⊢
  have hA : ∀ q : Nat, s.heap.size ≤ q → A q := fun q h => by rw [← hAe]; exact Or.inr h
  have hS : va_S A s.heap s.heap [] := va_S.rf
  have hDD : ∀ w0 : S1, va_D A ((wX7 cI cZ a0 w0)) := fun _ => D_same (w := (wX7 cI cZ a0 u0)) rfl hD
  refine Wq (fun Q hQ => ?_)
  refine W_entry hav (Nat.le_of_ble_eq_true rfl) (fun ls hl => ?_)
  have hl : lv_has ls 3 [(0, .ref (a0 0)), (1, .int p1)] := hl
  unfold f_X7_drop at hf
  refine W_heap hP hS (fun H locs hP hS => ?_)
  refine lv_aload_n hx hb dX7_drop_0 rfl (lv_at hl 0 rfl) ?_
  refine lv_aload_n hx hb dX7_drop_1 rfl (lv_at hl 0 rfl) ?_
  refine lv_iload_n hx hb dX7_drop_2 rfl (lv_at hl 1 rfl) ?_
  obtain ⟨z_1, hz_1, hf⟩ := bn_some hf
  refine cRV (As := [.int p1]) (rest := [.ref (a0 0)]) ⟨hx, hb, hml, hown, hts⟩ (c_X7_isSnapshot l D cI cZ cJ cT a0 u0 p1 z_1 hz_1) (cwV 1 hts gX7_drop_X7_isSnapshot rfl rfl rfl (by decide +kernel) ⟨Nat.le_of_ble_eq_true rfl, Nat.le_of_ble_eq_true rfl⟩) hP hK (va_recv hK hP (ci := 7) (q0 := 0) rfl rfl) rfl rfl hl.1 (Nat.le_of_ble_eq_true rfl) dX7_drop_3 ⟨Nat.le_of_ble_eq_true rfl, Nat.le_of_ble_eq_true rfl⟩ ?_
  obtain ⟨k14_2, hk14_2, hf⟩ := jn_some hf
  have j14_2 : ∀ (v14_2_0 : Int32) (H : Heap) (locs : List Loc) (ls : Array Slot), k14_2 v14_2_0 = some o → va_P D cls (wX7 cI cZ a0 u0) H → va_S A s.heap H locs → lv_has ls 3 [(0, .ref (a0 0)), (1, .int p1)] → W p l e (headSpec wsX7_drop rmX7_drop).room s m args below meth c H locs 0 0 Q (F0 m 14 ls [.int v14_2_0, .ref (a0 0)]) := by
    intro v14_2_0 H locs ls hf hP hS hl
    have hf := qa1 hk14_2 hf
    obtain ⟨z_3, hz_3, hf⟩ := bn_some hf
    refine cWVi (As := [.int v14_2_0]) (rest := []) ⟨hx, hb, hml, hown, hts⟩ (c_X7_can l D cI cZ cJ cT a0 H.size u0 v14_2_0 z_3 hz_3) (cwV 1 hts gX7_drop_X7_can rfl rfl rfl (by decide +kernel) ⟨Nat.le_of_ble_eq_true rfl, Nat.le_of_ble_eq_true rfl⟩) hP hK (hDD u0) hS (own_free (hDD u0) hS hA) (va_recv hK hP (ci := 7) (q0 := 0) rfl rfl) rfl rfl hl.1 (Nat.le_of_ble_eq_true rfl) dX7_drop_14 ⟨Nat.le_of_ble_eq_true rfl, Nat.le_of_ble_eq_true rfl⟩ (fun H1 locs hP1 hk1 hS => ?_)
    have hP : va_P D cls (wX7 cI cZ a0 z_3.2) H1 := hP1
    clear hP1 hk1
    generalize H1 = H at hP hS ⊢
    refine lv_if_ne (tgt := 22) hx hb dX7_drop_17 (by decide) (fun c_4 => ?_) (fun c_4 => ?_)
    · have hf := ite_f hf c_4
      refine lv_aload_n hx hb dX7_drop_22 rfl (lv_at hl 0 rfl) ?_
      obtain ⟨z_5, hz_5, hf⟩ := bn_some hf
      refine cRV (As := []) (rest := []) ⟨hx, hb, hml, hown, hts⟩ (c_X7_freeBlocks l D cI cZ cJ cT a0 z_3.2 z_5 hz_5) (cwV 0 hts gX7_drop_X7_freeBlocks rfl rfl rfl (by decide +kernel) ⟨Nat.le_of_ble_eq_true rfl, Nat.le_of_ble_eq_true rfl⟩) hP hK (va_recv hK hP (ci := 7) (q0 := 0) rfl rfl) rfl rfl hl.1 (Nat.le_of_ble_eq_true rfl) dX7_drop_23 ⟨Nat.le_of_ble_eq_true rfl, Nat.le_of_ble_eq_true rfl⟩ ?_
      refine lv_istore_n (lv' := [(2, .int z_5), (0, .ref (a0 0)), (1, .int p1)]) hx hb dX7_drop_26 rfl hl (by decide) rfl (fun ls hl => ?_)
      refine lv_aload_n hx hb dX7_drop_27 rfl (lv_at hl 1 rfl) ?_
      refine va_get (D := D) (ci := 7) (v := .ref (a0 2)) (C := RX7) (T := TX7) (N := 19) hx hb hts i7 hown hK hP 0 rfl rfl 1 (by decide) hk13 (fun _ h9 => h9) rfl dX7_drop_28 ?_
      refine lv_iconst (v := 2) hx hb dX7_drop_31 (by decide) ?_
      refine lv_iload_n hx hb dX7_drop_32 rfl (lv_at hl 2 rfl) ?_
      refine lv_iadd hx hb dX7_drop_33 ?_
      refine lv_iconst (v := 0) hx hb dX7_drop_34 (by decide) ?_
      obtain ⟨hi, hf⟩ := chk_some hf
      obtain ⟨u_6, hu_6, hf⟩ := bv_some hf
      refine va_zast hx hb hK hP (hDD z_3.2) hS 2 1 rfl rfl (inb_in hi) dX7_drop_35 (fun H locs hP _ hS => ?_)
      have hP : va_P D cls (wX7 cI cZ a0 u_6) H := by rw [hu_6]; exact hP
      refine lv_aload_n hx hb dX7_drop_36 rfl (lv_at hl 1 rfl) ?_
      obtain ⟨z_7, hz_7, hf⟩ := bn_some hf
      refine cRV (As := []) (rest := []) ⟨hx, hb, hml, hown, hts⟩ (c_X7_freeBlocks l D cI cZ cJ cT a0 u_6 z_7 hz_7) (cwV 0 hts gX7_drop_X7_freeBlocks rfl rfl rfl (by decide +kernel) ⟨Nat.le_of_ble_eq_true rfl, Nat.le_of_ble_eq_true rfl⟩) hP hK (va_recv hK hP (ci := 7) (q0 := 0) rfl rfl) rfl rfl hl.1 (Nat.le_of_ble_eq_true rfl) dX7_drop_37 ⟨Nat.le_of_ble_eq_true rfl, Nat.le_of_ble_eq_true rfl⟩ ?_
      refine lv_iload_n hx hb dX7_drop_40 rfl (lv_at hl 0 rfl) ?_
      refine lv_isub hx hb dX7_drop_41 ?_
      have eo := Option.some.inj hf
      have hP : va_P D cls (wX7 cI cZ a0 o.2) H := by rw [← eo]; exact hP
      rw [hQ]
      exact W.iret hx hb hr (fun t ht hW => ⟨⟨_, (), rfl, congrArg Prod.fst eo, P_at ht hP⟩, hS.F ht⟩) hS.2.2 dX7_drop_42 hlocks
    · have hf := ite_t hf c_4
      refine lv_iconst (v := 0) hx hb dX7_drop_20 (by decide) ?_
      have eo := Option.some.inj hf
      have hP : va_P D cls (wX7 cI cZ a0 o.2) H := by rw [← eo]; exact hP
      rw [hQ]
      exact W.iret hx hb hr (fun t ht hW => ⟨⟨_, (), rfl, congrArg Prod.fst eo, P_at ht hP⟩, hS.F ht⟩) hS.2.2 dX7_drop_21 hlocks
  refine lv_if_eq (tgt := 13) hx hb dX7_drop_6 (by decide) (fun c_8 => ?_) (fun c_8 => ?_)
  · have hf := ite_t hf c_8
    refine lv_iconst (v := 1) hx hb dX7_drop_13 (by decide) ?_
    exact j14_2 _ _ _ _ hf hP hS (lv_sub hl [0, 1] rfl)
  · have hf := ite_f hf c_8
    refine lv_iconst (v := 0) hx hb dX7_drop_9 (by decide) ?_
    refine lv_goto (tgt := 14) hx hb dX7_drop_10 (by decide) ?_
    exact j14_2 _ _ _ _ hf hP hS (lv_sub hl [0, 1] rfl)
set_option maxRecDepth 20000 in
theorem ggX7_readOld_X7_at : GoodIn wsX7_readOld wsX7_at := goodIn_r _ [30] (by decide +kernel) (by decide +kernel)
set_option maxRecDepth 20000 in
theorem gX7_readOld_X7_at : GoodIn wsX7_readOld (va_wsS RX7 67 yX7_at wsX7_at) := goodIn_app (goodIn_of _ (by decide +kernel)) ggX7_readOld_X7_at
set_option maxRecDepth 20000 in
theorem ggX7_readOld_X7_can : GoodIn wsX7_readOld wsX7_can := goodIn_r _ [42, 43, 44, 45, 46, 47, 48, 49, 50, 51, 52, 53, 54, 55, 56, 57, 58, 59, 60, 61, 62] (by decide +kernel) (by decide +kernel)
set_option maxRecDepth 20000 in
theorem gX7_readOld_X7_can : GoodIn wsX7_readOld (wsV RX7 140 RX7 yX7_can wsX7_can) := goodIn_app (goodIn_of _ (by decide +kernel)) ggX7_readOld_X7_can
set_option maxRecDepth 20000 in
theorem ggX7_readOld_X7_isIn : GoodIn wsX7_readOld wsX7_isIn := goodIn_r _ [7] (by decide +kernel) (by decide +kernel)
set_option maxRecDepth 20000 in
theorem gX7_readOld_X7_isIn : GoodIn wsX7_readOld (va_wsS RX7 62 yX7_isIn wsX7_isIn) := goodIn_app (goodIn_of _ (by decide +kernel)) ggX7_readOld_X7_isIn
set_option maxRecDepth 20000 in
theorem ggX7_readOld_X7_isPage : GoodIn wsX7_readOld wsX7_isPage := goodIn_r _ [15, 4, 5, 6, 7] (by decide +kernel) (by decide +kernel)
set_option maxRecDepth 20000 in
theorem gX7_readOld_X7_isPage : GoodIn wsX7_readOld (va_wsS RX7 201 yX7_isPage wsX7_isPage) := goodIn_app (goodIn_of _ (by decide +kernel)) ggX7_readOld_X7_isPage
set_option maxRecDepth 20000 in
theorem ggX7_readOld_X7_isSnapshot : GoodIn wsX7_readOld wsX7_isSnapshot := goodIn_r _ [11, 12, 4, 5, 6, 7, 44, 45, 46, 47, 48, 49, 50, 51, 52, 53, 54, 55, 56, 57, 58, 59, 60, 61, 62] (by decide +kernel) (by decide +kernel)
set_option maxRecDepth 20000 in
theorem gX7_readOld_X7_isSnapshot : GoodIn wsX7_readOld (wsV RX7 228 RX7 yX7_isSnapshot wsX7_isSnapshot) := goodIn_app (goodIn_of _ (by decide +kernel)) ggX7_readOld_X7_isSnapshot
set_option maxRecDepth 20000 in
theorem ggX7_readOld_X7_walks : GoodIn wsX7_readOld wsX7_walks := goodIn_r _ [19, 20, 21, 22, 23, 2, 24, 25, 26, 6, 27, 28, 29, 30, 31, 32, 33, 34, 35, 36, 37, 38, 44, 45, 46, 47, 48, 49, 50, 51, 52, 53, 54, 55, 56, 57, 58, 59, 60, 61, 62] (by decide +kernel) (by decide +kernel)
set_option maxRecDepth 20000 in
theorem gX7_readOld_X7_walks : GoodIn wsX7_readOld (wsV RX7 127 RX7 yX7_walks wsX7_walks) := goodIn_app (goodIn_of _ (by decide +kernel)) ggX7_readOld_X7_walks
theorem dX7_readOld_0 : decode cX7_readOld 0 = .ok (.iload_n 2, 1) := by decide +kernel
theorem dX7_readOld_1 : decode cX7_readOld 1 = .ok (.iconst 0, 1) := by decide +kernel
theorem dX7_readOld_2 : decode cX7_readOld 2 = .ok (.ldc 66, 2) := by decide +kernel
theorem dX7_readOld_4 : decode cX7_readOld 4 = .ok (.invokestatic 62, 3) := by decide +kernel
theorem dX7_readOld_7 : decode cX7_readOld 7 = .ok (.istore 4, 2) := by decide +kernel
theorem dX7_readOld_9 : decode cX7_readOld 9 = .ok (.iload 4, 2) := by decide +kernel
theorem dX7_readOld_11 : decode cX7_readOld 11 = .ok (.ifCond .eq 30, 3) := by decide +kernel
theorem dX7_readOld_14 : decode cX7_readOld 14 = .ok (.aload_n 0, 1) := by decide +kernel
theorem dX7_readOld_15 : decode cX7_readOld 15 = .ok (.iload_n 1, 1) := by decide +kernel
theorem dX7_readOld_16 : decode cX7_readOld 16 = .ok (.invokevirtual 228, 3) := by decide +kernel
theorem dX7_readOld_19 : decode cX7_readOld 19 = .ok (.ifCond .eq 22, 3) := by decide +kernel
theorem dX7_readOld_22 : decode cX7_readOld 22 = .ok (.iload_n 3, 1) := by decide +kernel
theorem dX7_readOld_23 : decode cX7_readOld 23 = .ok (.invokestatic 201, 3) := by decide +kernel
theorem dX7_readOld_26 : decode cX7_readOld 26 = .ok (.ifCond .eq 15, 3) := by decide +kernel
theorem dX7_readOld_29 : decode cX7_readOld 29 = .ok (.aload_n 0, 1) := by decide +kernel
theorem dX7_readOld_30 : decode cX7_readOld 30 = .ok (.iconst 2, 1) := by decide +kernel
theorem dX7_readOld_31 : decode cX7_readOld 31 = .ok (.iload_n 1, 1) := by decide +kernel
theorem dX7_readOld_32 : decode cX7_readOld 32 = .ok (.iadd, 1) := by decide +kernel
theorem dX7_readOld_33 : decode cX7_readOld 33 = .ok (.iload_n 2, 1) := by decide +kernel
theorem dX7_readOld_34 : decode cX7_readOld 34 = .ok (.iconst 1, 1) := by decide +kernel
theorem dX7_readOld_35 : decode cX7_readOld 35 = .ok (.invokevirtual 127, 3) := by decide +kernel
theorem dX7_readOld_38 : decode cX7_readOld 38 = .ok (.goto 4, 3) := by decide +kernel
theorem dX7_readOld_41 : decode cX7_readOld 41 = .ok (.iconst (-1), 1) := by decide +kernel
theorem dX7_readOld_42 : decode cX7_readOld 42 = .ok (.istore 5, 2) := by decide +kernel
theorem dX7_readOld_44 : decode cX7_readOld 44 = .ok (.aload_n 0, 1) := by decide +kernel
theorem dX7_readOld_45 : decode cX7_readOld 45 = .ok (.iload 4, 2) := by decide +kernel
theorem dX7_readOld_47 : decode cX7_readOld 47 = .ok (.ifCond .ne 7, 3) := by decide +kernel
theorem dX7_readOld_50 : decode cX7_readOld 50 = .ok (.iconst 1, 1) := by decide +kernel
theorem dX7_readOld_51 : decode cX7_readOld 51 = .ok (.goto 34, 3) := by decide +kernel
theorem dX7_readOld_54 : decode cX7_readOld 54 = .ok (.iload 5, 2) := by decide +kernel
theorem dX7_readOld_56 : decode cX7_readOld 56 = .ok (.iconst (-1), 1) := by decide +kernel
theorem dX7_readOld_57 : decode cX7_readOld 57 = .ok (.if_icmp .ne 7, 3) := by decide +kernel
theorem dX7_readOld_60 : decode cX7_readOld 60 = .ok (.iconst 2, 1) := by decide +kernel
theorem dX7_readOld_61 : decode cX7_readOld 61 = .ok (.goto 24, 3) := by decide +kernel
theorem dX7_readOld_64 : decode cX7_readOld 64 = .ok (.aload_n 0, 1) := by decide +kernel
theorem dX7_readOld_65 : decode cX7_readOld 65 = .ok (.getfield 7, 3) := by decide +kernel
theorem dX7_readOld_68 : decode cX7_readOld 68 = .ok (.iconst 2, 1) := by decide +kernel
theorem dX7_readOld_69 : decode cX7_readOld 69 = .ok (.iload_n 1, 1) := by decide +kernel
theorem dX7_readOld_70 : decode cX7_readOld 70 = .ok (.iadd, 1) := by decide +kernel
theorem dX7_readOld_71 : decode cX7_readOld 71 = .ok (.iload 5, 2) := by decide +kernel
theorem dX7_readOld_73 : decode cX7_readOld 73 = .ok (.invokestatic 67, 3) := by decide +kernel
theorem dX7_readOld_76 : decode cX7_readOld 76 = .ok (.iaload, 1) := by decide +kernel
theorem dX7_readOld_77 : decode cX7_readOld 77 = .ok (.ifCond .ne 7, 3) := by decide +kernel
theorem dX7_readOld_80 : decode cX7_readOld 80 = .ok (.iconst 0, 1) := by decide +kernel
theorem dX7_readOld_81 : decode cX7_readOld 81 = .ok (.goto 4, 3) := by decide +kernel
theorem dX7_readOld_84 : decode cX7_readOld 84 = .ok (.iconst 3, 1) := by decide +kernel
theorem dX7_readOld_85 : decode cX7_readOld 85 = .ok (.invokevirtual 140, 3) := by decide +kernel
theorem dX7_readOld_88 : decode cX7_readOld 88 = .ok (.ifCond .ne 5, 3) := by decide +kernel
theorem dX7_readOld_91 : decode cX7_readOld 91 = .ok (.iconst 0, 1) := by decide +kernel
theorem dX7_readOld_92 : decode cX7_readOld 92 = .ok (.ireturn, 1) := by decide +kernel
theorem dX7_readOld_93 : decode cX7_readOld 93 = .ok (.iconst 2, 1) := by decide +kernel
theorem dX7_readOld_94 : decode cX7_readOld 94 = .ok (.iload_n 1, 1) := by decide +kernel
theorem dX7_readOld_95 : decode cX7_readOld 95 = .ok (.iadd, 1) := by decide +kernel
theorem dX7_readOld_96 : decode cX7_readOld 96 = .ok (.iload 5, 2) := by decide +kernel
theorem dX7_readOld_98 : decode cX7_readOld 98 = .ok (.invokestatic 67, 3) := by decide +kernel
theorem dX7_readOld_101 : decode cX7_readOld 101 = .ok (.istore 6, 2) := by decide +kernel
theorem dX7_readOld_103 : decode cX7_readOld 103 = .ok (.aload_n 0, 1) := by decide +kernel
theorem dX7_readOld_104 : decode cX7_readOld 104 = .ok (.getfield 7, 3) := by decide +kernel
theorem dX7_readOld_107 : decode cX7_readOld 107 = .ok (.iload 6, 2) := by decide +kernel
theorem dX7_readOld_109 : decode cX7_readOld 109 = .ok (.bipush 37, 2) := by decide +kernel
theorem dX7_readOld_111 : decode cX7_readOld 111 = .ok (.iadd, 1) := by decide +kernel
theorem dX7_readOld_112 : decode cX7_readOld 112 = .ok (.iload_n 3, 1) := by decide +kernel
theorem dX7_readOld_113 : decode cX7_readOld 113 = .ok (.iadd, 1) := by decide +kernel
theorem dX7_readOld_114 : decode cX7_readOld 114 = .ok (.iaload, 1) := by decide +kernel
theorem dX7_readOld_115 : decode cX7_readOld 115 = .ok (.iconst 2, 1) := by decide +kernel
theorem dX7_readOld_116 : decode cX7_readOld 116 = .ok (.if_icmp .ne 23, 3) := by decide +kernel
theorem dX7_readOld_119 : decode cX7_readOld 119 = .ok (.aload_n 0, 1) := by decide +kernel
theorem dX7_readOld_120 : decode cX7_readOld 120 = .ok (.getfield 17, 3) := by decide +kernel
theorem dX7_readOld_123 : decode cX7_readOld 123 = .ok (.aload_n 0, 1) := by decide +kernel
theorem dX7_readOld_124 : decode cX7_readOld 124 = .ok (.getfield 7, 3) := by decide +kernel
theorem dX7_readOld_127 : decode cX7_readOld 127 = .ok (.iload 6, 2) := by decide +kernel
theorem dX7_readOld_129 : decode cX7_readOld 129 = .ok (.bipush 21, 2) := by decide +kernel
theorem dX7_readOld_131 : decode cX7_readOld 131 = .ok (.iadd, 1) := by decide +kernel
theorem dX7_readOld_132 : decode cX7_readOld 132 = .ok (.iload_n 3, 1) := by decide +kernel
theorem dX7_readOld_133 : decode cX7_readOld 133 = .ok (.iadd, 1) := by decide +kernel
theorem dX7_readOld_134 : decode cX7_readOld 134 = .ok (.iaload, 1) := by decide +kernel
theorem dX7_readOld_135 : decode cX7_readOld 135 = .ok (.iaload, 1) := by decide +kernel
theorem dX7_readOld_136 : decode cX7_readOld 136 = .ok (.goto 4, 3) := by decide +kernel
theorem dX7_readOld_139 : decode cX7_readOld 139 = .ok (.iconst 0, 1) := by decide +kernel
theorem dX7_readOld_140 : decode cX7_readOld 140 = .ok (.ireturn, 1) := by decide +kernel
def f_X7_readOld (u0 : S1) (p1 : Int32) (p2 : Int32) (p3 : Int32) : Option (Int32 × S1) := bn (f_X7_isIn p2 0 99999999) (fun z_1 => jn (fun (v42_2_0 : Int32) (u42_2_0 : S1) => jn (fun (v85_3_0 : Int32) => bn (f_X7_can u42_2_0 v85_3_0) (fun z_4 => if z_4.1 = 0 then some (0, z_4.2) else bn (f_X7_at (2 + p1) v42_2_0) (fun z_6 => chk (inb ((z_6 + 37) + p3) 8480) (jn (fun (v140_7_0 : Int32) => some (v140_7_0, z_4.2)) (fun k140_7 => if (z_4.2 0 ((z_6 + 37) + p3).toNatClampNeg) = 2 then chk (inb ((z_6 + 21) + p3) 8480) (chk (inb (z_4.2 0 ((z_6 + 21) + p3).toNatClampNeg) 64) (k140_7 (z_4.2 2 ((z_4.2 0 ((z_6 + 21) + p3).toNatClampNeg)).toNatClampNeg))) else k140_7 0))))) (fun k85_3 => if z_1 = 0 then k85_3 1 else if v42_2_0 = (-1) then k85_3 2 else bn (f_X7_at (2 + p1) v42_2_0) (fun z_11 => chk (inb z_11 8480) (if (u42_2_0 0 (z_11).toNatClampNeg) = 0 then k85_3 0 else k85_3 3)))) (fun k42_2 => jn (k42_2 (-1) u0) (fun k41_13 => if z_1 = 0 then k41_13 else bn (f_X7_isSnapshot u0 p1) (fun z_15 => if z_15 = 0 then k41_13 else bn (f_X7_isPage p3) (fun z_17 => if z_17 = 0 then k41_13 else bn (f_X7_walks u0 (2 + p1) p2 1) (fun z_19 => k42_2 z_19.1 z_19.2))))))
def rmX7_readOld : Room := { frames := 4, cells := 0, slots := 0, locals := 95 }
set_option maxHeartbeats 4000000 in
set_option maxRecDepth 100000 in
theorem c_X7_readOld (l : Launch) (D : va_G) (cI cZ cJ cT : ClassId) (a0 : Nat → Nat) (sz : Nat) (u0 : S1) (p1 : Int32) (p2 : Int32) (p3 : Int32) (o : Int32 × S1) (hf : f_X7_readOld u0 p1 p2 p3 = some o) : Met l yX7_readOld wsX7_readOld rmX7_readOld (va_Pc [.ref (a0 0), .int p1, .int p2, .int p3] (PW D cls (tys cI cZ cJ cT) ((wX7 cI cZ a0 u0)) sz)) (QWi D cls o.1 ((wX7 cI cZ a0 o.2)) (va_A ((wX7 cI cZ a0 u0)) sz)) 0 0 (va_A ((wX7 cI cZ a0 u0)) sz) := by
  refine Met.ofW (cc := cX7_readOld) (maxL := 7) (ret := (some .int)) (by decide) rfl ?_
  intro p e s m args below meth c s₁ B hml hv
  obtain ⟨hav, hsz, hP, hK, hD0⟩ := hv
  have hx := B.exec
  have hb := B.bytes
  have hr := B.returns
  have hlocks := B.notSynchronized
  have hts := atoms_spec (ws := wsX7_readOld) B.pre
  have hown : s.vm.findClass RX7 = some m.cls := findClass_of_methodNamed B.named
  have i7 : ∀ w ∈ wsX70, w ∈ wsX7_readOld := fun w h => List.mem_cons_of_mem _ (List.mem_append_right _ h)
  have hk7 := hts (.fieldLink RX7 7 "InoderyModel" "s" "[I") (by decide +kernel)
  have hk17 := hts (.fieldLink RX7 17 "InoderyModel" "number" "[I") (by decide +kernel)
  subst hsz
  have hD := hD0.self (sz := s.heap.size)
  generalize hAe : va_A ((wX7 cI cZ a0 u0)) s.heap.size = A at hD ⊢
  have hA : ∀ q : Nat, s.heap.size ≤ q → A q := fun q h => by rw [← hAe]; exact Or.inr h
  have hS : va_S A s.heap s.heap [] := va_S.rf
  have hDD : ∀ w0 : S1, va_D A ((wX7 cI cZ a0 w0)) := fun _ => D_same (w := (wX7 cI cZ a0 u0)) rfl hD
  refine Wq (fun Q hQ => ?_)
  refine W_entry hav (Nat.le_of_ble_eq_true rfl) (fun ls hl => ?_)
  have hl : lv_has ls 7 [(0, .ref (a0 0)), (1, .int p1), (2, .int p2), (3, .int p3)] := hl
  unfold f_X7_readOld at hf
  refine W_heap hP hS (fun H locs hP hS => ?_)
  refine lv_iload_n hx hb dX7_readOld_0 rfl (lv_at hl 2 rfl) ?_
  refine lv_iconst (v := 0) hx hb dX7_readOld_1 (by decide) ?_
  refine lv_ldc hx hb hown (hts (.constant RX7 66 (99999999)) (by decide +kernel)) dX7_readOld_2 ?_
  obtain ⟨z_1, hz_1, hf⟩ := bn_some hf
  refine c0S (As := [.int p2, .int 0, .int 99999999]) (rest := []) ⟨hx, hb, hml, hown, hts⟩ (c_X7_isIn l D cI cZ cJ cT p2 0 99999999 z_1 hz_1) (va_cwS 3 hts gX7_readOld_X7_isIn rfl rfl rfl (by decide +kernel) ⟨Nat.le_of_ble_eq_true rfl, Nat.le_of_ble_eq_true rfl⟩) rfl rfl hl.1 (Nat.le_of_ble_eq_true rfl) dX7_readOld_4 ⟨Nat.le_of_ble_eq_true rfl, Nat.le_of_ble_eq_true rfl⟩ ?_
  refine lv_istore (lv' := [(4, .int z_1), (0, .ref (a0 0)), (1, .int p1), (2, .int p2), (3, .int p3)]) hx hb dX7_readOld_7 hl (by decide) rfl (fun ls hl => ?_)
  refine lv_iload hx hb dX7_readOld_9 (lv_at hl 0 rfl) ?_
  obtain ⟨k42_2, hk42_2, hf⟩ := jn_some hf
  have j42_2 : ∀ (v42_2_0 : Int32) (u42_2_0 : S1) (H : Heap) (locs : List Loc) (ls : Array Slot), k42_2 v42_2_0 u42_2_0 = some o → va_P D cls (wX7 cI cZ a0 u42_2_0) H → va_S A s.heap H locs → lv_has ls 7 [(0, .ref (a0 0)), (1, .int p1), (3, .int p3), (4, .int z_1)] → W p l e (headSpec wsX7_readOld rmX7_readOld).room s m args below meth c H locs 0 0 Q (F0 m 42 ls [.int v42_2_0]) := by
    intro v42_2_0 u42_2_0 H locs ls hf hP hS hl
    have hf := qa2 hk42_2 hf
    refine lv_istore (lv' := [(5, .int v42_2_0), (0, .ref (a0 0)), (1, .int p1), (3, .int p3), (4, .int z_1)]) hx hb dX7_readOld_42 hl (by decide) rfl (fun ls hl => ?_)
    refine lv_aload_n hx hb dX7_readOld_44 rfl (lv_at hl 1 rfl) ?_
    refine lv_iload hx hb dX7_readOld_45 (lv_at hl 4 rfl) ?_
    obtain ⟨k85_3, hk85_3, hf⟩ := jn_some hf
    have j85_3 : ∀ (v85_3_0 : Int32) (H : Heap) (locs : List Loc) (ls : Array Slot), k85_3 v85_3_0 = some o → va_P D cls (wX7 cI cZ a0 u42_2_0) H → va_S A s.heap H locs → lv_has ls 7 [(0, .ref (a0 0)), (1, .int p1), (3, .int p3), (5, .int v42_2_0)] → W p l e (headSpec wsX7_readOld rmX7_readOld).room s m args below meth c H locs 0 0 Q (F0 m 85 ls [.int v85_3_0, .ref (a0 0)]) := by
      intro v85_3_0 H locs ls hf hP hS hl
      have hf := qa1 hk85_3 hf
      obtain ⟨z_4, hz_4, hf⟩ := bn_some hf
      refine cWVi (As := [.int v85_3_0]) (rest := []) ⟨hx, hb, hml, hown, hts⟩ (c_X7_can l D cI cZ cJ cT a0 H.size u42_2_0 v85_3_0 z_4 hz_4) (cwV 1 hts gX7_readOld_X7_can rfl rfl rfl (by decide +kernel) ⟨Nat.le_of_ble_eq_true rfl, Nat.le_of_ble_eq_true rfl⟩) hP hK (hDD u42_2_0) hS (own_free (hDD u42_2_0) hS hA) (va_recv hK hP (ci := 7) (q0 := 0) rfl rfl) rfl rfl hl.1 (Nat.le_of_ble_eq_true rfl) dX7_readOld_85 ⟨Nat.le_of_ble_eq_true rfl, Nat.le_of_ble_eq_true rfl⟩ (fun H1 locs hP1 hk1 hS => ?_)
      have hP : va_P D cls (wX7 cI cZ a0 z_4.2) H1 := hP1
      clear hP1 hk1
      generalize H1 = H at hP hS ⊢
      refine lv_if_ne (tgt := 93) hx hb dX7_readOld_88 (by decide) (fun c_5 => ?_) (fun c_5 => ?_)
      · have hf := ite_f hf c_5
        refine lv_iconst (v := 2) hx hb dX7_readOld_93 (by decide) ?_
        refine lv_iload_n hx hb dX7_readOld_94 rfl (lv_at hl 1 rfl) ?_
        refine lv_iadd hx hb dX7_readOld_95 ?_
        refine lv_iload hx hb dX7_readOld_96 (lv_at hl 3 rfl) ?_
        obtain ⟨z_6, hz_6, hf⟩ := bn_some hf
        refine c0S (As := [.int (2 + p1), .int v42_2_0]) (rest := []) ⟨hx, hb, hml, hown, hts⟩ (c_X7_at l D cI cZ cJ cT (2 + p1) v42_2_0 z_6 hz_6) (va_cwS 2 hts gX7_readOld_X7_at rfl rfl rfl (by decide +kernel) ⟨Nat.le_of_ble_eq_true rfl, Nat.le_of_ble_eq_true rfl⟩) rfl rfl hl.1 (Nat.le_of_ble_eq_true rfl) dX7_readOld_98 ⟨Nat.le_of_ble_eq_true rfl, Nat.le_of_ble_eq_true rfl⟩ ?_
        refine lv_istore (lv' := [(6, .int z_6), (0, .ref (a0 0)), (1, .int p1), (3, .int p3), (5, .int v42_2_0)]) hx hb dX7_readOld_101 hl (by decide) rfl (fun ls hl => ?_)
        refine lv_aload_n hx hb dX7_readOld_103 rfl (lv_at hl 1 rfl) ?_
        refine va_get (D := D) (ci := 7) (v := .ref (a0 1)) (C := RX7) (T := TX7) (N := 19) hx hb hts i7 hown hK hP 0 rfl rfl 0 (by decide) hk7 (fun _ h9 => h9) rfl dX7_readOld_104 ?_
        refine lv_iload hx hb dX7_readOld_107 (lv_at hl 0 rfl) ?_
        refine lv_bipush (v := 37) hx hb dX7_readOld_109 (by decide) ?_
        refine lv_iadd hx hb dX7_readOld_111 ?_
        refine lv_iload_n hx hb dX7_readOld_112 rfl (lv_at hl 3 rfl) ?_
        refine lv_iadd hx hb dX7_readOld_113 ?_
        obtain ⟨hi, hf⟩ := chk_some hf
        refine va_iald hx hb hK hP 1 0 rfl rfl (inb_in hi) dX7_readOld_114 ?_
        refine lv_iconst (v := 2) hx hb dX7_readOld_115 (by decide) ?_
        obtain ⟨k140_7, hk140_7, hf⟩ := jn_some hf
        have j140_7 : ∀ (v140_7_0 : Int32) (H : Heap) (locs : List Loc) (ls : Array Slot), k140_7 v140_7_0 = some o → va_P D cls (wX7 cI cZ a0 z_4.2) H → va_S A s.heap H locs → lv_has ls 7 [] → W p l e (headSpec wsX7_readOld rmX7_readOld).room s m args below meth c H locs 0 0 Q (F0 m 140 ls [.int v140_7_0]) := by
          intro v140_7_0 H locs ls hf hP hS hl
          have hf := qa1 hk140_7 hf
          have eo := Option.some.inj hf
          have hP : va_P D cls (wX7 cI cZ a0 o.2) H := by rw [← eo]; exact hP
          rw [hQ]
          exact W.iret hx hb hr (fun t ht hW => ⟨⟨_, (), rfl, congrArg Prod.fst eo, P_at ht hP⟩, hS.F ht⟩) hS.2.2 dX7_readOld_140 hlocks
        refine lv_icmp_ne (tgt := 139) hx hb dX7_readOld_116 (by decide) (fun c_8 => ?_) (fun c_8 => ?_)
        · have hf := ite_f hf c_8
          refine lv_iconst (v := 0) hx hb dX7_readOld_139 (by decide) ?_
          exact j140_7 _ _ _ _ hf hP hS (lv_sub hl [] rfl)
        · have hf := ite_t hf c_8
          refine lv_aload_n hx hb dX7_readOld_119 rfl (lv_at hl 1 rfl) ?_
          refine va_get (D := D) (ci := 7) (v := .ref (a0 3)) (C := RX7) (T := TX7) (N := 19) hx hb hts i7 hown hK hP 0 rfl rfl 2 (by decide) hk17 (fun _ h9 => h9) rfl dX7_readOld_120 ?_
          refine lv_aload_n hx hb dX7_readOld_123 rfl (lv_at hl 1 rfl) ?_
          refine va_get (D := D) (ci := 7) (v := .ref (a0 1)) (C := RX7) (T := TX7) (N := 19) hx hb hts i7 hown hK hP 0 rfl rfl 0 (by decide) hk7 (fun _ h9 => h9) rfl dX7_readOld_124 ?_
          refine lv_iload hx hb dX7_readOld_127 (lv_at hl 0 rfl) ?_
          refine lv_bipush (v := 21) hx hb dX7_readOld_129 (by decide) ?_
          refine lv_iadd hx hb dX7_readOld_131 ?_
          refine lv_iload_n hx hb dX7_readOld_132 rfl (lv_at hl 3 rfl) ?_
          refine lv_iadd hx hb dX7_readOld_133 ?_
          obtain ⟨hi, hf⟩ := chk_some hf
          refine va_iald hx hb hK hP 1 0 rfl rfl (inb_in hi) dX7_readOld_134 ?_
          obtain ⟨hi, hf⟩ := chk_some hf
          refine va_iald hx hb hK hP 3 0 rfl rfl (inb_in hi) dX7_readOld_135 ?_
          refine lv_goto (tgt := 140) hx hb dX7_readOld_136 (by decide) ?_
          exact j140_7 _ _ _ _ hf hP hS (lv_sub hl [] rfl)
      · have hf := ite_t hf c_5
        refine lv_iconst (v := 0) hx hb dX7_readOld_91 (by decide) ?_
        have eo := Option.some.inj hf
        have hP : va_P D cls (wX7 cI cZ a0 o.2) H := by rw [← eo]; exact hP
        rw [hQ]
        exact W.iret hx hb hr (fun t ht hW => ⟨⟨_, (), rfl, congrArg Prod.fst eo, P_at ht hP⟩, hS.F ht⟩) hS.2.2 dX7_readOld_92 hlocks
    refine lv_if_ne (tgt := 54) hx hb dX7_readOld_47 (by decide) (fun c_9 => ?_) (fun c_9 => ?_)
    · have hf := ite_f hf c_9
      refine lv_iload hx hb dX7_readOld_54 (lv_at hl 0 rfl) ?_
      refine lv_iconst (v := (-1)) hx hb dX7_readOld_56 (by decide) ?_
      refine lv_icmp_ne (tgt := 64) hx hb dX7_readOld_57 (by decide) (fun c_10 => ?_) (fun c_10 => ?_)
      · have hf := ite_f hf c_10
        refine lv_aload_n hx hb dX7_readOld_64 rfl (lv_at hl 1 rfl) ?_
        refine va_get (D := D) (ci := 7) (v := .ref (a0 1)) (C := RX7) (T := TX7) (N := 19) hx hb hts i7 hown hK hP 0 rfl rfl 0 (by decide) hk7 (fun _ h9 => h9) rfl dX7_readOld_65 ?_
        refine lv_iconst (v := 2) hx hb dX7_readOld_68 (by decide) ?_
        refine lv_iload_n hx hb dX7_readOld_69 rfl (lv_at hl 2 rfl) ?_
        refine lv_iadd hx hb dX7_readOld_70 ?_
        refine lv_iload hx hb dX7_readOld_71 (lv_at hl 0 rfl) ?_
        obtain ⟨z_11, hz_11, hf⟩ := bn_some hf
        refine c0S (As := [.int (2 + p1), .int v42_2_0]) (rest := [.ref (a0 1), .ref (a0 0)]) ⟨hx, hb, hml, hown, hts⟩ (c_X7_at l D cI cZ cJ cT (2 + p1) v42_2_0 z_11 hz_11) (va_cwS 2 hts gX7_readOld_X7_at rfl rfl rfl (by decide +kernel) ⟨Nat.le_of_ble_eq_true rfl, Nat.le_of_ble_eq_true rfl⟩) rfl rfl hl.1 (Nat.le_of_ble_eq_true rfl) dX7_readOld_73 ⟨Nat.le_of_ble_eq_true rfl, Nat.le_of_ble_eq_true rfl⟩ ?_
        obtain ⟨hi, hf⟩ := chk_some hf
        refine va_iald hx hb hK hP 1 0 rfl rfl (inb_in hi) dX7_readOld_76 ?_
        refine lv_if_ne (tgt := 84) hx hb dX7_readOld_77 (by decide) (fun c_12 => ?_) (fun c_12 => ?_)
        · have hf := ite_f hf c_12
          refine lv_iconst (v := 3) hx hb dX7_readOld_84 (by decide) ?_
          exact j85_3 _ _ _ _ hf hP hS (lv_sub hl [1, 2, 3, 0] rfl)
        · have hf := ite_t hf c_12
          refine lv_iconst (v := 0) hx hb dX7_readOld_80 (by decide) ?_
          refine lv_goto (tgt := 85) hx hb dX7_readOld_81 (by decide) ?_
          exact j85_3 _ _ _ _ hf hP hS (lv_sub hl [1, 2, 3, 0] rfl)
      · have hf := ite_t hf c_10
        refine lv_iconst (v := 2) hx hb dX7_readOld_60 (by decide) ?_
        refine lv_goto (tgt := 85) hx hb dX7_readOld_61 (by decide) ?_
        exact j85_3 _ _ _ _ hf hP hS (lv_sub hl [1, 2, 3, 0] rfl)
    · have hf := ite_t hf c_9
      refine lv_iconst (v := 1) hx hb dX7_readOld_50 (by decide) ?_
      refine lv_goto (tgt := 85) hx hb dX7_readOld_51 (by decide) ?_
      exact j85_3 _ _ _ _ hf hP hS (lv_sub hl [1, 2, 3, 0] rfl)
  obtain ⟨k41_13, hk41_13, hf⟩ := jn_some hf
  have j41_13 : ∀ (H : Heap) (locs : List Loc) (ls : Array Slot), k41_13 = some o → va_P D cls (wX7 cI cZ a0 u0) H → va_S A s.heap H locs → lv_has ls 7 [(0, .ref (a0 0)), (1, .int p1), (3, .int p3), (4, .int z_1)] → W p l e (headSpec wsX7_readOld rmX7_readOld).room s m args below meth c H locs 0 0 Q (F0 m 41 ls []) := by
    intro H locs ls hf hP hS hl
    have hf := qa0 hk41_13 hf
    refine lv_iconst (v := (-1)) hx hb dX7_readOld_41 (by decide) ?_
    exact j42_2 _ _ _ _ _ hf hP hS (lv_sub hl [0, 1, 2, 3] rfl)
  refine lv_if_eq (tgt := 41) hx hb dX7_readOld_11 (by decide) (fun c_14 => ?_) (fun c_14 => ?_)
  · have hf := ite_t hf c_14
    exact j41_13 _ _ _ hf hP hS (lv_sub hl [1, 2, 4, 0] rfl)
  · have hf := ite_f hf c_14
    refine lv_aload_n hx hb dX7_readOld_14 rfl (lv_at hl 1 rfl) ?_
    refine lv_iload_n hx hb dX7_readOld_15 rfl (lv_at hl 2 rfl) ?_
    obtain ⟨z_15, hz_15, hf⟩ := bn_some hf
    refine cRV (As := [.int p1]) (rest := []) ⟨hx, hb, hml, hown, hts⟩ (c_X7_isSnapshot l D cI cZ cJ cT a0 u0 p1 z_15 hz_15) (cwV 1 hts gX7_readOld_X7_isSnapshot rfl rfl rfl (by decide +kernel) ⟨Nat.le_of_ble_eq_true rfl, Nat.le_of_ble_eq_true rfl⟩) hP hK (va_recv hK hP (ci := 7) (q0 := 0) rfl rfl) rfl rfl hl.1 (Nat.le_of_ble_eq_true rfl) dX7_readOld_16 ⟨Nat.le_of_ble_eq_true rfl, Nat.le_of_ble_eq_true rfl⟩ ?_
    refine lv_if_eq (tgt := 41) hx hb dX7_readOld_19 (by decide) (fun c_16 => ?_) (fun c_16 => ?_)
    · have hf := ite_t hf c_16
      exact j41_13 _ _ _ hf hP hS (lv_sub hl [1, 2, 4, 0] rfl)
    · have hf := ite_f hf c_16
      refine lv_iload_n hx hb dX7_readOld_22 rfl (lv_at hl 4 rfl) ?_
      obtain ⟨z_17, hz_17, hf⟩ := bn_some hf
      refine c0S (As := [.int p3]) (rest := []) ⟨hx, hb, hml, hown, hts⟩ (c_X7_isPage l D cI cZ cJ cT p3 z_17 hz_17) (va_cwS 1 hts gX7_readOld_X7_isPage rfl rfl rfl (by decide +kernel) ⟨Nat.le_of_ble_eq_true rfl, Nat.le_of_ble_eq_true rfl⟩) rfl rfl hl.1 (Nat.le_of_ble_eq_true rfl) dX7_readOld_23 ⟨Nat.le_of_ble_eq_true rfl, Nat.le_of_ble_eq_true rfl⟩ ?_
      refine lv_if_eq (tgt := 41) hx hb dX7_readOld_26 (by decide) (fun c_18 => ?_) (fun c_18 => ?_)
      · have hf := ite_t hf c_18
        exact j41_13 _ _ _ hf hP hS (lv_sub hl [1, 2, 4, 0] rfl)
      · have hf := ite_f hf c_18
        refine lv_aload_n hx hb dX7_readOld_29 rfl (lv_at hl 1 rfl) ?_
        refine lv_iconst (v := 2) hx hb dX7_readOld_30 (by decide) ?_
        refine lv_iload_n hx hb dX7_readOld_31 rfl (lv_at hl 2 rfl) ?_
        refine lv_iadd hx hb dX7_readOld_32 ?_
        refine lv_iload_n hx hb dX7_readOld_33 rfl (lv_at hl 3 rfl) ?_
        refine lv_iconst (v := 1) hx hb dX7_readOld_34 (by decide) ?_
        obtain ⟨z_19, hz_19, hf⟩ := bn_some hf
        refine cWVi (As := [.int (2 + p1), .int p2, .int 1]) (rest := []) ⟨hx, hb, hml, hown, hts⟩ (c_X7_walks l D cI cZ cJ cT a0 H.size u0 (2 + p1) p2 1 z_19 hz_19) (cwV 3 hts gX7_readOld_X7_walks rfl rfl rfl (by decide +kernel) ⟨Nat.le_of_ble_eq_true rfl, Nat.le_of_ble_eq_true rfl⟩) hP hK (hDD u0) hS (own_free (hDD u0) hS hA) (va_recv hK hP (ci := 7) (q0 := 0) rfl rfl) rfl rfl hl.1 (Nat.le_of_ble_eq_true rfl) dX7_readOld_35 ⟨Nat.le_of_ble_eq_true rfl, Nat.le_of_ble_eq_true rfl⟩ (fun H1 locs hP1 hk1 hS => ?_)
        have hP : va_P D cls (wX7 cI cZ a0 z_19.2) H1 := hP1
        clear hP1 hk1
        generalize H1 = H at hP hS ⊢
        refine lv_goto (tgt := 42) hx hb dX7_readOld_38 (by decide) ?_
        exact j42_2 _ _ _ _ _ hf hP hS (lv_sub hl [1, 2, 4, 0] rfl)
set_option maxRecDepth 20000 in
theorem ggX7_quota_X7_can : GoodIn wsX7_quota wsX7_can := goodIn_r _ [12, 13, 14, 15, 16, 17, 18, 19, 20, 21, 22, 23, 24, 25, 26, 27, 28, 29, 30, 31, 32] (by decide +kernel) (by decide +kernel)
set_option maxRecDepth 20000 in
theorem gX7_quota_X7_can : GoodIn wsX7_quota (wsV RX7 140 RX7 yX7_can wsX7_can) := goodIn_app (goodIn_of _ (by decide +kernel)) ggX7_quota_X7_can
set_option maxRecDepth 20000 in
theorem ggX7_quota_X7_isIn : GoodIn wsX7_quota wsX7_isIn := goodIn_r _ [8] (by decide +kernel) (by decide +kernel)
set_option maxRecDepth 20000 in
theorem gX7_quota_X7_isIn : GoodIn wsX7_quota (va_wsS RX7 62 yX7_isIn wsX7_isIn) := goodIn_app (goodIn_of _ (by decide +kernel)) ggX7_quota_X7_isIn
set_option maxRecDepth 20000 in
theorem ggX7_quota_X7_isUser : GoodIn wsX7_quota wsX7_isUser := goodIn_r _ [5, 6, 7, 4, 8] (by decide +kernel) (by decide +kernel)
set_option maxRecDepth 20000 in
theorem gX7_quota_X7_isUser : GoodIn wsX7_quota (va_wsS RX7 137 yX7_isUser wsX7_isUser) := goodIn_app (goodIn_of _ (by decide +kernel)) ggX7_quota_X7_isUser
theorem dX7_quota_0 : decode cX7_quota 0 = .ok (.aload_n 0, 1) := by decide +kernel
theorem dX7_quota_1 : decode cX7_quota 1 = .ok (.iload_n 1, 1) := by decide +kernel
theorem dX7_quota_2 : decode cX7_quota 2 = .ok (.invokestatic 137, 3) := by decide +kernel
theorem dX7_quota_5 : decode cX7_quota 5 = .ok (.ifCond .ne 7, 3) := by decide +kernel
theorem dX7_quota_8 : decode cX7_quota 8 = .ok (.iconst 1, 1) := by decide +kernel
theorem dX7_quota_9 : decode cX7_quota 9 = .ok (.goto 18, 3) := by decide +kernel
theorem dX7_quota_12 : decode cX7_quota 12 = .ok (.iload_n 2, 1) := by decide +kernel
theorem dX7_quota_13 : decode cX7_quota 13 = .ok (.iconst 0, 1) := by decide +kernel
theorem dX7_quota_14 : decode cX7_quota 14 = .ok (.bipush 64, 2) := by decide +kernel
theorem dX7_quota_16 : decode cX7_quota 16 = .ok (.invokestatic 62, 3) := by decide +kernel
theorem dX7_quota_19 : decode cX7_quota 19 = .ok (.ifCond .eq 7, 3) := by decide +kernel
theorem dX7_quota_22 : decode cX7_quota 22 = .ok (.iconst 0, 1) := by decide +kernel
theorem dX7_quota_23 : decode cX7_quota 23 = .ok (.goto 4, 3) := by decide +kernel
theorem dX7_quota_26 : decode cX7_quota 26 = .ok (.iconst 2, 1) := by decide +kernel
theorem dX7_quota_27 : decode cX7_quota 27 = .ok (.invokevirtual 140, 3) := by decide +kernel
theorem dX7_quota_30 : decode cX7_quota 30 = .ok (.ifCond .ne 5, 3) := by decide +kernel
theorem dX7_quota_33 : decode cX7_quota 33 = .ok (.iconst 0, 1) := by decide +kernel
theorem dX7_quota_34 : decode cX7_quota 34 = .ok (.ireturn, 1) := by decide +kernel
theorem dX7_quota_35 : decode cX7_quota 35 = .ok (.aload_n 0, 1) := by decide +kernel
theorem dX7_quota_36 : decode cX7_quota 36 = .ok (.getfield 32, 3) := by decide +kernel
theorem dX7_quota_39 : decode cX7_quota 39 = .ok (.iload_n 1, 1) := by decide +kernel
theorem dX7_quota_40 : decode cX7_quota 40 = .ok (.iaload, 1) := by decide +kernel
theorem dX7_quota_41 : decode cX7_quota 41 = .ok (.istore_n 3, 1) := by decide +kernel
theorem dX7_quota_42 : decode cX7_quota 42 = .ok (.aload_n 0, 1) := by decide +kernel
theorem dX7_quota_43 : decode cX7_quota 43 = .ok (.getfield 32, 3) := by decide +kernel
theorem dX7_quota_46 : decode cX7_quota 46 = .ok (.iload_n 1, 1) := by decide +kernel
theorem dX7_quota_47 : decode cX7_quota 47 = .ok (.iload_n 2, 1) := by decide +kernel
theorem dX7_quota_48 : decode cX7_quota 48 = .ok (.iastore, 1) := by decide +kernel
theorem dX7_quota_49 : decode cX7_quota 49 = .ok (.iload_n 3, 1) := by decide +kernel
theorem dX7_quota_50 : decode cX7_quota 50 = .ok (.ireturn, 1) := by decide +kernel
def f_X7_quota (u0 : S1) (p1 : Int32) (p2 : Int32) : Option (Int32 × S1) := bn (f_X7_isUser p1) (fun z_1 => jn (fun (v27_2_0 : Int32) => bn (f_X7_can u0 v27_2_0) (fun z_3 => if z_3.1 = 0 then some (0, z_3.2) else chk (inb p1 4) (chk (inb p1 4) (bv (st z_3.2 8 p1 p2) (fun u_5 => some ((z_3.2 8 (p1).toNatClampNeg), u_5)))))) (fun k27_2 => if z_1 = 0 then k27_2 1 else bn (f_X7_isIn p2 0 64) (fun z_7 => if z_7 = 0 then k27_2 2 else k27_2 0)))
def rmX7_quota : Room := { frames := 2, cells := 0, slots := 0, locals := 42 }
set_option maxHeartbeats 4000000 in
set_option maxRecDepth 100000 in
theorem c_X7_quota (l : Launch) (D : va_G) (cI cZ cJ cT : ClassId) (a0 : Nat → Nat) (sz : Nat) (u0 : S1) (p1 : Int32) (p2 : Int32) (o : Int32 × S1) (hf : f_X7_quota u0 p1 p2 = some o) : Met l yX7_quota wsX7_quota rmX7_quota (va_Pc [.ref (a0 0), .int p1, .int p2] (PW D cls (tys cI cZ cJ cT) ((wX7 cI cZ a0 u0)) sz)) (QWi D cls o.1 ((wX7 cI cZ a0 o.2)) (va_A ((wX7 cI cZ a0 u0)) sz)) 0 0 (va_A ((wX7 cI cZ a0 u0)) sz) := by
  refine Met.ofW (cc := cX7_quota) (maxL := 4) (ret := (some .int)) (by decide) rfl ?_
  intro p e s m args below meth c s₁ B hml hv
  obtain ⟨hav, hsz, hP, hK, hD0⟩ := hv
  have hx := B.exec
  have hb := B.bytes
  have hr := B.returns
  have hlocks := B.notSynchronized
  have hts := atoms_spec (ws := wsX7_quota) B.pre
  have hown : s.vm.findClass RX7 = some m.cls := findClass_of_methodNamed B.named
  have i7 : ∀ w ∈ wsX70, w ∈ wsX7_quota := fun w h => List.mem_cons_of_mem _ (List.mem_append_right _ h)
  have hk32 := hts (.fieldLink RX7 32 "InoderyModel" "quota" "[I") (by decide +kernel)
  subst hsz
  have hD := hD0.self (sz := s.heap.size)
  generalize hAe : va_A ((wX7 cI cZ a0 u0)) s.heap.size = A at hD ⊢
  have hA : ∀ q : Nat, s.heap.size ≤ q → A q := fun q h => by rw [← hAe]; exact Or.inr h
  have hS : va_S A s.heap s.heap [] := va_S.rf
  have hDD : ∀ w0 : S1, va_D A ((wX7 cI cZ a0 w0)) := fun _ => D_same (w := (wX7 cI cZ a0 u0)) rfl hD
  refine Wq (fun Q hQ => ?_)
  refine W_entry hav (Nat.le_of_ble_eq_true rfl) (fun ls hl => ?_)
  have hl : lv_has ls 4 [(0, .ref (a0 0)), (1, .int p1), (2, .int p2)] := hl
  unfold f_X7_quota at hf
  refine W_heap hP hS (fun H locs hP hS => ?_)
  refine lv_aload_n hx hb dX7_quota_0 rfl (lv_at hl 0 rfl) ?_
  refine lv_iload_n hx hb dX7_quota_1 rfl (lv_at hl 1 rfl) ?_
  obtain ⟨z_1, hz_1, hf⟩ := bn_some hf
  refine c0S (As := [.int p1]) (rest := [.ref (a0 0)]) ⟨hx, hb, hml, hown, hts⟩ (c_X7_isUser l D cI cZ cJ cT p1 z_1 hz_1) (va_cwS 1 hts gX7_quota_X7_isUser rfl rfl rfl (by decide +kernel) ⟨Nat.le_of_ble_eq_true rfl, Nat.le_of_ble_eq_true rfl⟩) rfl rfl hl.1 (Nat.le_of_ble_eq_true rfl) dX7_quota_2 ⟨Nat.le_of_ble_eq_true rfl, Nat.le_of_ble_eq_true rfl⟩ ?_
  obtain ⟨k27_2, hk27_2, hf⟩ := jn_some hf
  have j27_2 : ∀ (v27_2_0 : Int32) (H : Heap) (locs : List Loc) (ls : Array Slot), k27_2 v27_2_0 = some o → va_P D cls (wX7 cI cZ a0 u0) H → va_S A s.heap H locs → lv_has ls 4 [(0, .ref (a0 0)), (1, .int p1), (2, .int p2)] → W p l e (headSpec wsX7_quota rmX7_quota).room s m args below meth c H locs 0 0 Q (F0 m 27 ls [.int v27_2_0, .ref (a0 0)]) := by
    intro v27_2_0 H locs ls hf hP hS hl
    have hf := qa1 hk27_2 hf
    obtain ⟨z_3, hz_3, hf⟩ := bn_some hf
    refine cWVi (As := [.int v27_2_0]) (rest := []) ⟨hx, hb, hml, hown, hts⟩ (c_X7_can l D cI cZ cJ cT a0 H.size u0 v27_2_0 z_3 hz_3) (cwV 1 hts gX7_quota_X7_can rfl rfl rfl (by decide +kernel) ⟨Nat.le_of_ble_eq_true rfl, Nat.le_of_ble_eq_true rfl⟩) hP hK (hDD u0) hS (own_free (hDD u0) hS hA) (va_recv hK hP (ci := 7) (q0 := 0) rfl rfl) rfl rfl hl.1 (Nat.le_of_ble_eq_true rfl) dX7_quota_27 ⟨Nat.le_of_ble_eq_true rfl, Nat.le_of_ble_eq_true rfl⟩ (fun H1 locs hP1 hk1 hS => ?_)
    have hP : va_P D cls (wX7 cI cZ a0 z_3.2) H1 := hP1
    clear hP1 hk1
    generalize H1 = H at hP hS ⊢
    refine lv_if_ne (tgt := 35) hx hb dX7_quota_30 (by decide) (fun c_4 => ?_) (fun c_4 => ?_)
    · have hf := ite_f hf c_4
      refine lv_aload_n hx hb dX7_quota_35 rfl (lv_at hl 0 rfl) ?_
      refine va_get (D := D) (ci := 7) (v := .ref (a0 9)) (C := RX7) (T := TX7) (N := 19) hx hb hts i7 hown hK hP 0 rfl rfl 8 (by decide) hk32 (fun _ h9 => h9) rfl dX7_quota_36 ?_
      refine lv_iload_n hx hb dX7_quota_39 rfl (lv_at hl 1 rfl) ?_
      obtain ⟨hi, hf⟩ := chk_some hf
      refine va_iald hx hb hK hP 8 0 rfl rfl (inb_in hi) dX7_quota_40 ?_
      refine lv_istore_n (lv' := [(3, .int (z_3.2 8 (p1).toNatClampNeg)), (0, .ref (a0 0)), (1, .int p1), (2, .int p2)]) hx hb dX7_quota_41 rfl hl (by decide) rfl (fun ls hl => ?_)
      refine lv_aload_n hx hb dX7_quota_42 rfl (lv_at hl 1 rfl) ?_
      refine va_get (D := D) (ci := 7) (v := .ref (a0 9)) (C := RX7) (T := TX7) (N := 19) hx hb hts i7 hown hK hP 0 rfl rfl 8 (by decide) hk32 (fun _ h9 => h9) rfl dX7_quota_43 ?_
      refine lv_iload_n hx hb dX7_quota_46 rfl (lv_at hl 2 rfl) ?_
      refine lv_iload_n hx hb dX7_quota_47 rfl (lv_at hl 3 rfl) ?_
      obtain ⟨hi, hf⟩ := chk_some hf
      obtain ⟨u_5, hu_5, hf⟩ := bv_some hf
      refine va_iast hx hb hK hP (hDD z_3.2) hS 8 0 rfl rfl (inb_in hi) dX7_quota_48 (fun H locs hP _ hS => ?_)
      have hP : va_P D cls (wX7 cI cZ a0 u_5) H := by rw [hu_5]; exact hP
      refine lv_iload_n hx hb dX7_quota_49 rfl (lv_at hl 0 rfl) ?_
      have eo := Option.some.inj hf
      have hP : va_P D cls (wX7 cI cZ a0 o.2) H := by rw [← eo]; exact hP
      rw [hQ]
      exact W.iret hx hb hr (fun t ht hW => ⟨⟨_, (), rfl, congrArg Prod.fst eo, P_at ht hP⟩, hS.F ht⟩) hS.2.2 dX7_quota_50 hlocks
    · have hf := ite_t hf c_4
      refine lv_iconst (v := 0) hx hb dX7_quota_33 (by decide) ?_
      have eo := Option.some.inj hf
      have hP : va_P D cls (wX7 cI cZ a0 o.2) H := by rw [← eo]; exact hP
      rw [hQ]
      exact W.iret hx hb hr (fun t ht hW => ⟨⟨_, (), rfl, congrArg Prod.fst eo, P_at ht hP⟩, hS.F ht⟩) hS.2.2 dX7_quota_34 hlocks
  refine lv_if_ne (tgt := 12) hx hb dX7_quota_5 (by decide) (fun c_6 => ?_) (fun c_6 => ?_)
  · have hf := ite_f hf c_6
    refine lv_iload_n hx hb dX7_quota_12 rfl (lv_at hl 2 rfl) ?_
    refine lv_iconst (v := 0) hx hb dX7_quota_13 (by decide) ?_
    refine lv_bipush (v := 64) hx hb dX7_quota_14 (by decide) ?_
    obtain ⟨z_7, hz_7, hf⟩ := bn_some hf
    refine c0S (As := [.int p2, .int 0, .int 64]) (rest := [.ref (a0 0)]) ⟨hx, hb, hml, hown, hts⟩ (c_X7_isIn l D cI cZ cJ cT p2 0 64 z_7 hz_7) (va_cwS 3 hts gX7_quota_X7_isIn rfl rfl rfl (by decide +kernel) ⟨Nat.le_of_ble_eq_true rfl, Nat.le_of_ble_eq_true rfl⟩) rfl rfl hl.1 (Nat.le_of_ble_eq_true rfl) dX7_quota_16 ⟨Nat.le_of_ble_eq_true rfl, Nat.le_of_ble_eq_true rfl⟩ ?_
    refine lv_if_eq (tgt := 26) hx hb dX7_quota_19 (by decide) (fun c_8 => ?_) (fun c_8 => ?_)
    · have hf := ite_t hf c_8
      refine lv_iconst (v := 2) hx hb dX7_quota_26 (by decide) ?_
      exact j27_2 _ _ _ _ hf hP hS (lv_sub hl [0, 1, 2] rfl)
    · have hf := ite_f hf c_8
      refine lv_iconst (v := 0) hx hb dX7_quota_22 (by decide) ?_
      refine lv_goto (tgt := 27) hx hb dX7_quota_23 (by decide) ?_
      exact j27_2 _ _ _ _ hf hP hS (lv_sub hl [0, 1, 2] rfl)
  · have hf := ite_t hf c_6
    refine lv_iconst (v := 1) hx hb dX7_quota_8 (by decide) ?_
    refine lv_goto (tgt := 27) hx hb dX7_quota_9 (by decide) ?_
    exact j27_2 _ _ _ _ hf hP hS (lv_sub hl [0, 1, 2] rfl)
set_option maxRecDepth 20000 in
theorem ggX7_isBlock_X7_isIn : GoodIn wsX7_isBlock wsX7_isIn := goodIn_r _ [4] (by decide +kernel) (by decide +kernel)
set_option maxRecDepth 20000 in
theorem gX7_isBlock_X7_isIn : GoodIn wsX7_isBlock (va_wsS RX7 62 yX7_isIn wsX7_isIn) := goodIn_app (goodIn_of _ (by decide +kernel)) ggX7_isBlock_X7_isIn
theorem dX7_isBlock_0 : decode cX7_isBlock 0 = .ok (.iload_n 0, 1) := by decide +kernel
theorem dX7_isBlock_1 : decode cX7_isBlock 1 = .ok (.iconst 0, 1) := by decide +kernel
theorem dX7_isBlock_2 : decode cX7_isBlock 2 = .ok (.bipush 63, 2) := by decide +kernel
theorem dX7_isBlock_4 : decode cX7_isBlock 4 = .ok (.invokestatic 62, 3) := by decide +kernel
theorem dX7_isBlock_7 : decode cX7_isBlock 7 = .ok (.ireturn, 1) := by decide +kernel
def f_X7_isBlock (p0 : Int32) : Option (Int32) := bn (f_X7_isIn p0 0 63) (fun z_1 => some (vp_nar .boolean z_1))
def rmX7_isBlock : Room := { frames := 1, cells := 0, slots := 0, locals := 22 }
set_option maxHeartbeats 4000000 in
set_option maxRecDepth 100000 in
theorem c_X7_isBlock (l : Launch) (D : va_G) (cI cZ cJ cT : ClassId) (p0 : Int32) (o : Int32) (hf : f_X7_isBlock p0 = some o) : Met l yX7_isBlock wsX7_isBlock rmX7_isBlock (va_Pc [.int p0] (fun _ => True)) (QR o) 0 0 (fun _ => False) := by
  refine Met.ofW (cc := cX7_isBlock) (maxL := 1) (ret := (some .boolean)) (by decide) rfl ?_
  intro p e s m args below meth c s₁ B hml hv
  obtain ⟨hav, -⟩ := hv
  have hx := B.exec
  have hb := B.bytes
  have hr := B.returns
  have hlocks := B.notSynchronized
  have hts := atoms_spec (ws := wsX7_isBlock) B.pre
  have hown : s.vm.findClass RX7 = some m.cls := findClass_of_methodNamed B.named
  refine Wq (fun Q hQ => ?_)
  refine W_entry hav (Nat.le_of_ble_eq_true rfl) (fun ls hl => ?_)
  have hl : lv_has ls 1 [(0, .int p0)] := hl
  unfold f_X7_isBlock at hf
  refine lv_iload_n hx hb dX7_isBlock_0 rfl (lv_at hl 0 rfl) ?_
  refine lv_iconst (v := 0) hx hb dX7_isBlock_1 (by decide) ?_
  refine lv_bipush (v := 63) hx hb dX7_isBlock_2 (by decide) ?_
  obtain ⟨z_1, hz_1, hf⟩ := bn_some hf
  refine c0S (As := [.int p0, .int 0, .int 63]) (rest := []) ⟨hx, hb, hml, hown, hts⟩ (c_X7_isIn l D cI cZ cJ cT p0 0 63 z_1 hz_1) (va_cwS 3 hts gX7_isBlock_X7_isIn rfl rfl rfl (by decide +kernel) ⟨Nat.le_of_ble_eq_true rfl, Nat.le_of_ble_eq_true rfl⟩) rfl rfl hl.1 (Nat.le_of_ble_eq_true rfl) dX7_isBlock_4 ⟨Nat.le_of_ble_eq_true rfl, Nat.le_of_ble_eq_true rfl⟩ ?_
  rw [hQ]
  exact zretN (v := z_1) (v' := vp_nar .boolean z_1) hx hb hr rfl (fun t ht hW => ⟨_, rfl, Option.some.inj hf, ht⟩) (fun _ h => nomatch h) dX7_isBlock_7 hlocks
set_option maxRecDepth 20000 in
theorem ggX7_bad_X7_can : GoodIn wsX7_bad wsX7_can := goodIn_r _ [12, 13, 14, 15, 16, 17, 18, 19, 20, 21, 22, 23, 24, 25, 26, 27, 28, 29, 30, 31, 32] (by decide +kernel) (by decide +kernel)
set_option maxRecDepth 20000 in
theorem gX7_bad_X7_can : GoodIn wsX7_bad (wsV RX7 140 RX7 yX7_can wsX7_can) := goodIn_app (goodIn_of _ (by decide +kernel)) ggX7_bad_X7_can
set_option maxRecDepth 20000 in
theorem ggX7_bad_X7_isBlock : GoodIn wsX7_bad wsX7_isBlock := goodIn_r _ [5, 6, 7, 4, 8] (by decide +kernel) (by decide +kernel)
set_option maxRecDepth 20000 in
theorem gX7_bad_X7_isBlock : GoodIn wsX7_bad (va_wsS RX7 234 yX7_isBlock wsX7_isBlock) := goodIn_app (goodIn_of _ (by decide +kernel)) ggX7_bad_X7_isBlock
theorem dX7_bad_0 : decode cX7_bad 0 = .ok (.aload_n 0, 1) := by decide +kernel
theorem dX7_bad_1 : decode cX7_bad 1 = .ok (.iload_n 1, 1) := by decide +kernel
theorem dX7_bad_2 : decode cX7_bad 2 = .ok (.invokestatic 234, 3) := by decide +kernel
theorem dX7_bad_5 : decode cX7_bad 5 = .ok (.ifCond .eq 7, 3) := by decide +kernel
theorem dX7_bad_8 : decode cX7_bad 8 = .ok (.iconst 0, 1) := by decide +kernel
theorem dX7_bad_9 : decode cX7_bad 9 = .ok (.goto 4, 3) := by decide +kernel
theorem dX7_bad_12 : decode cX7_bad 12 = .ok (.iconst 1, 1) := by decide +kernel
theorem dX7_bad_13 : decode cX7_bad 13 = .ok (.invokevirtual 140, 3) := by decide +kernel
theorem dX7_bad_16 : decode cX7_bad 16 = .ok (.ifCond .ne 5, 3) := by decide +kernel
theorem dX7_bad_19 : decode cX7_bad 19 = .ok (.iconst 0, 1) := by decide +kernel
theorem dX7_bad_20 : decode cX7_bad 20 = .ok (.ireturn, 1) := by decide +kernel
theorem dX7_bad_21 : decode cX7_bad 21 = .ok (.aload_n 0, 1) := by decide +kernel
theorem dX7_bad_22 : decode cX7_bad 22 = .ok (.getfield 20, 3) := by decide +kernel
theorem dX7_bad_25 : decode cX7_bad 25 = .ok (.iload_n 1, 1) := by decide +kernel
theorem dX7_bad_26 : decode cX7_bad 26 = .ok (.baload, 1) := by decide +kernel
theorem dX7_bad_27 : decode cX7_bad 27 = .ok (.istore_n 3, 1) := by decide +kernel
theorem dX7_bad_28 : decode cX7_bad 28 = .ok (.aload_n 0, 1) := by decide +kernel
theorem dX7_bad_29 : decode cX7_bad 29 = .ok (.getfield 20, 3) := by decide +kernel
theorem dX7_bad_32 : decode cX7_bad 32 = .ok (.iload_n 1, 1) := by decide +kernel
theorem dX7_bad_33 : decode cX7_bad 33 = .ok (.iload_n 2, 1) := by decide +kernel
theorem dX7_bad_34 : decode cX7_bad 34 = .ok (.bastore, 1) := by decide +kernel
theorem dX7_bad_35 : decode cX7_bad 35 = .ok (.iload_n 3, 1) := by decide +kernel
theorem dX7_bad_36 : decode cX7_bad 36 = .ok (.ireturn, 1) := by decide +kernel
def f_X7_bad (u0 : S1) (p1 : Int32) (p2 : Int32) : Option (Int32 × S1) := bn (f_X7_isBlock p1) (fun z_1 => jn (fun (v13_2_0 : Int32) => bn (f_X7_can u0 v13_2_0) (fun z_3 => if z_3.1 = 0 then some (0, z_3.2) else chk (inb p1 64) (chk (inb p1 64) (bv (stz z_3.2 3 p1 p2) (fun u_5 => some (vp_nar .boolean (z_3.2 3 (p1).toNatClampNeg), u_5)))))) (fun k13_2 => if z_1 = 0 then k13_2 1 else k13_2 0))
def rmX7_bad : Room := { frames := 2, cells := 0, slots := 0, locals := 42 }
set_option maxHeartbeats 4000000 in
set_option maxRecDepth 100000 in
theorem c_X7_bad (l : Launch) (D : va_G) (cI cZ cJ cT : ClassId) (a0 : Nat → Nat) (sz : Nat) (u0 : S1) (p1 : Int32) (p2 : Int32) (o : Int32 × S1) (hf : f_X7_bad u0 p1 p2 = some o) : Met l yX7_bad wsX7_bad rmX7_bad (va_Pc [.ref (a0 0), .int p1, .int p2] (PW D cls (tys cI cZ cJ cT) ((wX7 cI cZ a0 u0)) sz)) (QWi D cls o.1 ((wX7 cI cZ a0 o.2)) (va_A ((wX7 cI cZ a0 u0)) sz)) 0 0 (va_A ((wX7 cI cZ a0 u0)) sz) := by
  refine Met.ofW (cc := cX7_bad) (maxL := 4) (ret := (some .boolean)) (by decide) rfl ?_
  intro p e s m args below meth c s₁ B hml hv
  obtain ⟨hav, hsz, hP, hK, hD0⟩ := hv
  have hx := B.exec
  have hb := B.bytes
  have hr := B.returns
  have hlocks := B.notSynchronized
  have hts := atoms_spec (ws := wsX7_bad) B.pre
  have hown : s.vm.findClass RX7 = some m.cls := findClass_of_methodNamed B.named
  have i7 : ∀ w ∈ wsX70, w ∈ wsX7_bad := fun w h => List.mem_cons_of_mem _ (List.mem_append_right _ h)
  have hk20 := hts (.fieldLink RX7 20 "InoderyModel" "isBad" "[Z") (by decide +kernel)
  subst hsz
  have hD := hD0.self (sz := s.heap.size)
  generalize hAe : va_A ((wX7 cI cZ a0 u0)) s.heap.size = A at hD ⊢
  have hA : ∀ q : Nat, s.heap.size ≤ q → A q := fun q h => by rw [← hAe]; exact Or.inr h
  have hS : va_S A s.heap s.heap [] := va_S.rf
  have hDD : ∀ w0 : S1, va_D A ((wX7 cI cZ a0 w0)) := fun _ => D_same (w := (wX7 cI cZ a0 u0)) rfl hD
  refine Wq (fun Q hQ => ?_)
  refine W_entry hav (Nat.le_of_ble_eq_true rfl) (fun ls hl => ?_)
  have hl : lv_has ls 4 [(0, .ref (a0 0)), (1, .int p1), (2, .int p2)] := hl
  unfold f_X7_bad at hf
  refine W_heap hP hS (fun H locs hP hS => ?_)
  refine lv_aload_n hx hb dX7_bad_0 rfl (lv_at hl 0 rfl) ?_
  refine lv_iload_n hx hb dX7_bad_1 rfl (lv_at hl 1 rfl) ?_
  obtain ⟨z_1, hz_1, hf⟩ := bn_some hf
  refine c0S (As := [.int p1]) (rest := [.ref (a0 0)]) ⟨hx, hb, hml, hown, hts⟩ (c_X7_isBlock l D cI cZ cJ cT p1 z_1 hz_1) (va_cwS 1 hts gX7_bad_X7_isBlock rfl rfl rfl (by decide +kernel) ⟨Nat.le_of_ble_eq_true rfl, Nat.le_of_ble_eq_true rfl⟩) rfl rfl hl.1 (Nat.le_of_ble_eq_true rfl) dX7_bad_2 ⟨Nat.le_of_ble_eq_true rfl, Nat.le_of_ble_eq_true rfl⟩ ?_
  obtain ⟨k13_2, hk13_2, hf⟩ := jn_some hf
  have j13_2 : ∀ (v13_2_0 : Int32) (H : Heap) (locs : List Loc) (ls : Array Slot), k13_2 v13_2_0 = some o → va_P D cls (wX7 cI cZ a0 u0) H → va_S A s.heap H locs → lv_has ls 4 [(0, .ref (a0 0)), (1, .int p1), (2, .int p2)] → W p l e (headSpec wsX7_bad rmX7_bad).room s m args below meth c H locs 0 0 Q (F0 m 13 ls [.int v13_2_0, .ref (a0 0)]) := by
    intro v13_2_0 H locs ls hf hP hS hl
    have hf := qa1 hk13_2 hf
    obtain ⟨z_3, hz_3, hf⟩ := bn_some hf
    refine cWVi (As := [.int v13_2_0]) (rest := []) ⟨hx, hb, hml, hown, hts⟩ (c_X7_can l D cI cZ cJ cT a0 H.size u0 v13_2_0 z_3 hz_3) (cwV 1 hts gX7_bad_X7_can rfl rfl rfl (by decide +kernel) ⟨Nat.le_of_ble_eq_true rfl, Nat.le_of_ble_eq_true rfl⟩) hP hK (hDD u0) hS (own_free (hDD u0) hS hA) (va_recv hK hP (ci := 7) (q0 := 0) rfl rfl) rfl rfl hl.1 (Nat.le_of_ble_eq_true rfl) dX7_bad_13 ⟨Nat.le_of_ble_eq_true rfl, Nat.le_of_ble_eq_true rfl⟩ (fun H1 locs hP1 hk1 hS => ?_)
    have hP : va_P D cls (wX7 cI cZ a0 z_3.2) H1 := hP1
    clear hP1 hk1
    generalize H1 = H at hP hS ⊢
    refine lv_if_ne (tgt := 21) hx hb dX7_bad_16 (by decide) (fun c_4 => ?_) (fun c_4 => ?_)
    · have hf := ite_f hf c_4
      refine lv_aload_n hx hb dX7_bad_21 rfl (lv_at hl 0 rfl) ?_
      refine va_get (D := D) (ci := 7) (v := .ref (a0 4)) (C := RX7) (T := TX7) (N := 19) hx hb hts i7 hown hK hP 0 rfl rfl 3 (by decide) hk20 (fun _ h9 => h9) rfl dX7_bad_22 ?_
      refine lv_iload_n hx hb dX7_bad_25 rfl (lv_at hl 1 rfl) ?_
      obtain ⟨hi, hf⟩ := chk_some hf
      refine va_zald hx hb hK hP 4 1 rfl rfl (inb_in hi) dX7_bad_26 ?_
      refine lv_istore_n (lv' := [(3, .int (z_3.2 3 (p1).toNatClampNeg)), (0, .ref (a0 0)), (1, .int p1), (2, .int p2)]) hx hb dX7_bad_27 rfl hl (by decide) rfl (fun ls hl => ?_)
      refine lv_aload_n hx hb dX7_bad_28 rfl (lv_at hl 1 rfl) ?_
      refine va_get (D := D) (ci := 7) (v := .ref (a0 4)) (C := RX7) (T := TX7) (N := 19) hx hb hts i7 hown hK hP 0 rfl rfl 3 (by decide) hk20 (fun _ h9 => h9) rfl dX7_bad_29 ?_
      refine lv_iload_n hx hb dX7_bad_32 rfl (lv_at hl 2 rfl) ?_
      refine lv_iload_n hx hb dX7_bad_33 rfl (lv_at hl 3 rfl) ?_
      obtain ⟨hi, hf⟩ := chk_some hf
      obtain ⟨u_5, hu_5, hf⟩ := bv_some hf
      refine va_zast hx hb hK hP (hDD z_3.2) hS 4 1 rfl rfl (inb_in hi) dX7_bad_34 (fun H locs hP _ hS => ?_)
      have hP : va_P D cls (wX7 cI cZ a0 u_5) H := by rw [hu_5]; exact hP
      refine lv_iload_n hx hb dX7_bad_35 rfl (lv_at hl 0 rfl) ?_
      have eo := Option.some.inj hf
      have hP : va_P D cls (wX7 cI cZ a0 o.2) H := by rw [← eo]; exact hP
      rw [hQ]
      exact zretN (v := (z_3.2 3 (p1).toNatClampNeg)) (v' := vp_nar .boolean (z_3.2 3 (p1).toNatClampNeg)) hx hb hr rfl (fun t ht hW => ⟨⟨_, (), rfl, congrArg Prod.fst eo, P_at ht hP⟩, hS.F ht⟩) hS.2.2 dX7_bad_36 hlocks
    · have hf := ite_t hf c_4
      refine lv_iconst (v := 0) hx hb dX7_bad_19 (by decide) ?_
      have eo := Option.some.inj hf
      have hP : va_P D cls (wX7 cI cZ a0 o.2) H := by rw [← eo]; exact hP
      rw [hQ]
      exact zretN (v := 0) (v' := 0) hx hb hr rfl (fun t ht hW => ⟨⟨_, (), rfl, congrArg Prod.fst eo, P_at ht hP⟩, hS.F ht⟩) hS.2.2 dX7_bad_20 hlocks
  refine lv_if_eq (tgt := 12) hx hb dX7_bad_5 (by decide) (fun c_6 => ?_) (fun c_6 => ?_)
  · have hf := ite_t hf c_6
    refine lv_iconst (v := 1) hx hb dX7_bad_12 (by decide) ?_
    exact j13_2 _ _ _ _ hf hP hS (lv_sub hl [0, 1, 2] rfl)
  · have hf := ite_f hf c_6
    refine lv_iconst (v := 0) hx hb dX7_bad_8 (by decide) ?_
    refine lv_goto (tgt := 13) hx hb dX7_bad_9 (by decide) ?_
    exact j13_2 _ _ _ _ hf hP hS (lv_sub hl [0, 1, 2] rfl)
set_option maxRecDepth 20000 in
theorem ggX7_damage_X7_at : GoodIn wsX7_damage wsX7_at := goodIn_r _ [16] (by decide +kernel) (by decide +kernel)
set_option maxRecDepth 20000 in
theorem gX7_damage_X7_at : GoodIn wsX7_damage (va_wsS RX7 67 yX7_at wsX7_at) := goodIn_app (goodIn_of _ (by decide +kernel)) ggX7_damage_X7_at
set_option maxRecDepth 20000 in
theorem ggX7_damage_X7_blockOf : GoodIn wsX7_damage wsX7_blockOf := goodIn_r _ [24, 1, 14, 15, 5, 16, 47, 48, 49, 50, 51, 52, 53, 54, 55, 56, 57, 58, 59, 60, 61, 62, 63, 64, 65] (by decide +kernel) (by decide +kernel)
set_option maxRecDepth 20000 in
theorem gX7_damage_X7_blockOf : GoodIn wsX7_damage (wsV RX7 82 RX7 yX7_blockOf wsX7_blockOf) := goodIn_app (goodIn_of _ (by decide +kernel)) ggX7_damage_X7_blockOf
set_option maxRecDepth 20000 in
theorem ggX7_damage_X7_can : GoodIn wsX7_damage wsX7_can := goodIn_r _ [32, 33, 47, 48, 49, 50, 51, 52, 53, 54, 55, 56, 57, 58, 59, 60, 61, 62, 63, 64, 65] (by decide +kernel) (by decide +kernel)
set_option maxRecDepth 20000 in
theorem gX7_damage_X7_can : GoodIn wsX7_damage (wsV RX7 140 RX7 yX7_can wsX7_can) := goodIn_app (goodIn_of _ (by decide +kernel)) ggX7_damage_X7_can
set_option maxRecDepth 20000 in
theorem ggX7_damage_X7_digs : GoodIn wsX7_damage wsX7_digs := goodIn_r _ [37, 1, 38, 14, 15, 5, 16, 47, 48, 49, 50, 51, 52, 53, 54, 55, 56, 57, 58, 59, 60, 61, 62, 63, 64, 65] (by decide +kernel) (by decide +kernel)
set_option maxRecDepth 20000 in
theorem gX7_damage_X7_digs : GoodIn wsX7_damage (wsV RX7 94 RX7 yX7_digs wsX7_digs) := goodIn_app (goodIn_of _ (by decide +kernel)) ggX7_damage_X7_digs
set_option maxRecDepth 20000 in
theorem ggX7_damage_X7_entries : GoodIn wsX7_damage wsX7_entries := goodIn_r _ [28, 1, 14, 15, 5, 16, 47, 48, 49, 50, 51, 52, 53, 54, 55, 56, 57, 58, 59, 60, 61, 62, 63, 64, 65] (by decide +kernel) (by decide +kernel)
set_option maxRecDepth 20000 in
theorem gX7_damage_X7_entries : GoodIn wsX7_damage (wsV RX7 109 RX7 yX7_entries wsX7_entries) := goodIn_app (goodIn_of _ (by decide +kernel)) ggX7_damage_X7_entries
set_option maxRecDepth 20000 in
theorem ggX7_damage_X7_isIn : GoodIn wsX7_damage wsX7_isIn := goodIn_r _ [13] (by decide +kernel) (by decide +kernel)
set_option maxRecDepth 20000 in
theorem gX7_damage_X7_isIn : GoodIn wsX7_damage (va_wsS RX7 62 yX7_isIn wsX7_isIn) := goodIn_app (goodIn_of _ (by decide +kernel)) ggX7_damage_X7_isIn
set_option maxRecDepth 20000 in
theorem ggX7_damage_X7_isThing : GoodIn wsX7_damage wsX7_isThing := goodIn_r _ [6, 7, 8, 9, 5, 10, 1, 11, 12, 13, 14, 15, 16, 47, 48, 49, 50, 51, 52, 53, 54, 55, 56, 57, 58, 59, 60, 61, 62, 63, 64, 65] (by decide +kernel) (by decide +kernel)
set_option maxRecDepth 20000 in
theorem gX7_damage_X7_isThing : GoodIn wsX7_damage (wsV RX7 143 RX7 yX7_isThing wsX7_isThing) := goodIn_app (goodIn_of _ (by decide +kernel)) ggX7_damage_X7_isThing
set_option maxRecDepth 20000 in
theorem ggX7_damage_X7_kindOf : GoodIn wsX7_damage wsX7_kindOf := goodIn_r _ [20, 1, 14, 15, 5, 16, 47, 48, 49, 50, 51, 52, 53, 54, 55, 56, 57, 58, 59, 60, 61, 62, 63, 64, 65] (by decide +kernel) (by decide +kernel)
set_option maxRecDepth 20000 in
theorem gX7_damage_X7_kindOf : GoodIn wsX7_damage (wsV RX7 131 RX7 yX7_kindOf wsX7_kindOf) := goodIn_app (goodIn_of _ (by decide +kernel)) ggX7_damage_X7_kindOf
set_option maxRecDepth 20000 in
theorem ggX7_damage_X7_leaves : GoodIn wsX7_damage wsX7_leaves := goodIn_r _ [42, 1, 14, 15, 5, 16, 25, 26, 27, 28, 43, 44, 45, 46, 47, 48, 49, 50, 51, 52, 53, 54, 55, 56, 57, 58, 59, 60, 61, 62, 63, 64, 65] (by decide +kernel) (by decide +kernel)
set_option maxRecDepth 20000 in
theorem gX7_damage_X7_leaves : GoodIn wsX7_damage (wsV RX7 180 RX7 yX7_leaves wsX7_leaves) := goodIn_app (goodIn_of _ (by decide +kernel)) ggX7_damage_X7_leaves
theorem dX7_damage_0 : decode cX7_damage 0 = .ok (.aload_n 0, 1) := by decide +kernel
theorem dX7_damage_1 : decode cX7_damage 1 = .ok (.iload_n 2, 1) := by decide +kernel
theorem dX7_damage_2 : decode cX7_damage 2 = .ok (.invokevirtual 143, 3) := by decide +kernel
theorem dX7_damage_5 : decode cX7_damage 5 = .ok (.ifCond .eq 20, 3) := by decide +kernel
theorem dX7_damage_8 : decode cX7_damage 8 = .ok (.iload_n 1, 1) := by decide +kernel
theorem dX7_damage_9 : decode cX7_damage 9 = .ok (.iconst 1, 1) := by decide +kernel
theorem dX7_damage_10 : decode cX7_damage 10 = .ok (.if_icmp .ne 11, 3) := by decide +kernel
theorem dX7_damage_13 : decode cX7_damage 13 = .ok (.aload_n 0, 1) := by decide +kernel
theorem dX7_damage_14 : decode cX7_damage 14 = .ok (.iload_n 3, 1) := by decide +kernel
theorem dX7_damage_15 : decode cX7_damage 15 = .ok (.invokevirtual 143, 3) := by decide +kernel
theorem dX7_damage_18 : decode cX7_damage 18 = .ok (.ifCond .eq 7, 3) := by decide +kernel
theorem dX7_damage_21 : decode cX7_damage 21 = .ok (.iconst 1, 1) := by decide +kernel
theorem dX7_damage_22 : decode cX7_damage 22 = .ok (.goto 4, 3) := by decide +kernel
theorem dX7_damage_25 : decode cX7_damage 25 = .ok (.iconst 0, 1) := by decide +kernel
theorem dX7_damage_26 : decode cX7_damage 26 = .ok (.istore 4, 2) := by decide +kernel
theorem dX7_damage_28 : decode cX7_damage 28 = .ok (.iload 4, 2) := by decide +kernel
theorem dX7_damage_30 : decode cX7_damage 30 = .ok (.ifCond .eq 68, 3) := by decide +kernel
theorem dX7_damage_33 : decode cX7_damage 33 = .ok (.iload_n 1, 1) := by decide +kernel
theorem dX7_damage_34 : decode cX7_damage 34 = .ok (.ifCond .eq 60, 3) := by decide +kernel
theorem dX7_damage_37 : decode cX7_damage 37 = .ok (.iload_n 1, 1) := by decide +kernel
theorem dX7_damage_38 : decode cX7_damage 38 = .ok (.iconst 1, 1) := by decide +kernel
theorem dX7_damage_39 : decode cX7_damage 39 = .ok (.if_icmp .ne 37, 3) := by decide +kernel
theorem dX7_damage_42 : decode cX7_damage 42 = .ok (.aload_n 0, 1) := by decide +kernel
theorem dX7_damage_43 : decode cX7_damage 43 = .ok (.iload_n 2, 1) := by decide +kernel
theorem dX7_damage_44 : decode cX7_damage 44 = .ok (.invokevirtual 131, 3) := by decide +kernel
theorem dX7_damage_47 : decode cX7_damage 47 = .ok (.ifCond .ne 51, 3) := by decide +kernel
theorem dX7_damage_50 : decode cX7_damage 50 = .ok (.aload_n 0, 1) := by decide +kernel
theorem dX7_damage_51 : decode cX7_damage 51 = .ok (.iload_n 3, 1) := by decide +kernel
theorem dX7_damage_52 : decode cX7_damage 52 = .ok (.invokevirtual 131, 3) := by decide +kernel
theorem dX7_damage_55 : decode cX7_damage 55 = .ok (.ifCond .ne 43, 3) := by decide +kernel
theorem dX7_damage_58 : decode cX7_damage 58 = .ok (.iload_n 2, 1) := by decide +kernel
theorem dX7_damage_59 : decode cX7_damage 59 = .ok (.iload_n 3, 1) := by decide +kernel
theorem dX7_damage_60 : decode cX7_damage 60 = .ok (.if_icmp .eq 38, 3) := by decide +kernel
theorem dX7_damage_63 : decode cX7_damage 63 = .ok (.aload_n 0, 1) := by decide +kernel
theorem dX7_damage_64 : decode cX7_damage 64 = .ok (.iload_n 3, 1) := by decide +kernel
theorem dX7_damage_65 : decode cX7_damage 65 = .ok (.iconst 0, 1) := by decide +kernel
theorem dX7_damage_66 : decode cX7_damage 66 = .ok (.invokevirtual 82, 3) := by decide +kernel
theorem dX7_damage_69 : decode cX7_damage 69 = .ok (.iconst (-1), 1) := by decide +kernel
theorem dX7_damage_70 : decode cX7_damage 70 = .ok (.if_icmp .eq 28, 3) := by decide +kernel
theorem dX7_damage_73 : decode cX7_damage 73 = .ok (.goto 21, 3) := by decide +kernel
theorem dX7_damage_76 : decode cX7_damage 76 = .ok (.aload_n 0, 1) := by decide +kernel
theorem dX7_damage_77 : decode cX7_damage 77 = .ok (.iload_n 2, 1) := by decide +kernel
theorem dX7_damage_78 : decode cX7_damage 78 = .ok (.invokevirtual 131, 3) := by decide +kernel
theorem dX7_damage_81 : decode cX7_damage 81 = .ok (.iconst 1, 1) := by decide +kernel
theorem dX7_damage_82 : decode cX7_damage 82 = .ok (.if_icmp .ne 16, 3) := by decide +kernel
theorem dX7_damage_85 : decode cX7_damage 85 = .ok (.aload_n 0, 1) := by decide +kernel
theorem dX7_damage_86 : decode cX7_damage 86 = .ok (.iconst 0, 1) := by decide +kernel
theorem dX7_damage_87 : decode cX7_damage 87 = .ok (.iload_n 2, 1) := by decide +kernel
theorem dX7_damage_88 : decode cX7_damage 88 = .ok (.invokevirtual 109, 3) := by decide +kernel
theorem dX7_damage_91 : decode cX7_damage 91 = .ok (.ifCond .le 7, 3) := by decide +kernel
theorem dX7_damage_94 : decode cX7_damage 94 = .ok (.iconst 1, 1) := by decide +kernel
theorem dX7_damage_95 : decode cX7_damage 95 = .ok (.goto 4, 3) := by decide +kernel
theorem dX7_damage_98 : decode cX7_damage 98 = .ok (.iconst 0, 1) := by decide +kernel
theorem dX7_damage_99 : decode cX7_damage 99 = .ok (.istore 5, 2) := by decide +kernel
theorem dX7_damage_101 : decode cX7_damage 101 = .ok (.aload_n 0, 1) := by decide +kernel
theorem dX7_damage_102 : decode cX7_damage 102 = .ok (.iload_n 1, 1) := by decide +kernel
theorem dX7_damage_103 : decode cX7_damage 103 = .ok (.iconst 0, 1) := by decide +kernel
theorem dX7_damage_104 : decode cX7_damage 104 = .ok (.iconst 2, 1) := by decide +kernel
theorem dX7_damage_105 : decode cX7_damage 105 = .ok (.invokestatic 62, 3) := by decide +kernel
theorem dX7_damage_108 : decode cX7_damage 108 = .ok (.ifCond .ne 7, 3) := by decide +kernel
theorem dX7_damage_111 : decode cX7_damage 111 = .ok (.iconst 1, 1) := by decide +kernel
theorem dX7_damage_112 : decode cX7_damage 112 = .ok (.goto 22, 3) := by decide +kernel
theorem dX7_damage_115 : decode cX7_damage 115 = .ok (.iload 4, 2) := by decide +kernel
theorem dX7_damage_117 : decode cX7_damage 117 = .ok (.ifCond .ne 7, 3) := by decide +kernel
theorem dX7_damage_120 : decode cX7_damage 120 = .ok (.iconst 2, 1) := by decide +kernel
theorem dX7_damage_121 : decode cX7_damage 121 = .ok (.goto 13, 3) := by decide +kernel
theorem dX7_damage_124 : decode cX7_damage 124 = .ok (.iload 5, 2) := by decide +kernel
theorem dX7_damage_126 : decode cX7_damage 126 = .ok (.ifCond .eq 7, 3) := by decide +kernel
theorem dX7_damage_129 : decode cX7_damage 129 = .ok (.iconst 0, 1) := by decide +kernel
theorem dX7_damage_130 : decode cX7_damage 130 = .ok (.goto 4, 3) := by decide +kernel
theorem dX7_damage_133 : decode cX7_damage 133 = .ok (.iconst 3, 1) := by decide +kernel
theorem dX7_damage_134 : decode cX7_damage 134 = .ok (.invokevirtual 140, 3) := by decide +kernel
theorem dX7_damage_137 : decode cX7_damage 137 = .ok (.ifCond .ne 4, 3) := by decide +kernel
theorem dX7_damage_140 : decode cX7_damage 140 = .ok (.return_, 1) := by decide +kernel
theorem dX7_damage_141 : decode cX7_damage 141 = .ok (.iconst 0, 1) := by decide +kernel
theorem dX7_damage_142 : decode cX7_damage 142 = .ok (.iload_n 2, 1) := by decide +kernel
theorem dX7_damage_143 : decode cX7_damage 143 = .ok (.invokestatic 67, 3) := by decide +kernel
theorem dX7_damage_146 : decode cX7_damage 146 = .ok (.istore 6, 2) := by decide +kernel
theorem dX7_damage_148 : decode cX7_damage 148 = .ok (.iload_n 1, 1) := by decide +kernel
theorem dX7_damage_149 : decode cX7_damage 149 = .ok (.ifCond .ne 19, 3) := by decide +kernel
theorem dX7_damage_152 : decode cX7_damage 152 = .ok (.aload_n 0, 1) := by decide +kernel
theorem dX7_damage_153 : decode cX7_damage 153 = .ok (.getfield 7, 3) := by decide +kernel
theorem dX7_damage_156 : decode cX7_damage 156 = .ok (.iload 6, 2) := by decide +kernel
theorem dX7_damage_158 : decode cX7_damage 158 = .ok (.iconst 3, 1) := by decide +kernel
theorem dX7_damage_159 : decode cX7_damage 159 = .ok (.iadd, 1) := by decide +kernel
theorem dX7_damage_160 : decode cX7_damage 160 = .ok (.dup2, 1) := by decide +kernel
theorem dX7_damage_161 : decode cX7_damage 161 = .ok (.iaload, 1) := by decide +kernel
theorem dX7_damage_162 : decode cX7_damage 162 = .ok (.iconst 1, 1) := by decide +kernel
theorem dX7_damage_163 : decode cX7_damage 163 = .ok (.iadd, 1) := by decide +kernel
theorem dX7_damage_164 : decode cX7_damage 164 = .ok (.iastore, 1) := by decide +kernel
theorem dX7_damage_165 : decode cX7_damage 165 = .ok (.goto 58, 3) := by decide +kernel
theorem dX7_damage_168 : decode cX7_damage 168 = .ok (.iload_n 1, 1) := by decide +kernel
theorem dX7_damage_169 : decode cX7_damage 169 = .ok (.iconst 1, 1) := by decide +kernel
theorem dX7_damage_170 : decode cX7_damage 170 = .ok (.if_icmp .ne 39, 3) := by decide +kernel
theorem dX7_damage_173 : decode cX7_damage 173 = .ok (.aload_n 0, 1) := by decide +kernel
theorem dX7_damage_174 : decode cX7_damage 174 = .ok (.iload_n 2, 1) := by decide +kernel
theorem dX7_damage_175 : decode cX7_damage 175 = .ok (.iconst 0, 1) := by decide +kernel
theorem dX7_damage_176 : decode cX7_damage 176 = .ok (.invokevirtual 94, 3) := by decide +kernel
theorem dX7_damage_179 : decode cX7_damage 179 = .ok (.aload_n 0, 1) := by decide +kernel
theorem dX7_damage_180 : decode cX7_damage 180 = .ok (.getfield 7, 3) := by decide +kernel
theorem dX7_damage_183 : decode cX7_damage 183 = .ok (.iload 6, 2) := by decide +kernel
theorem dX7_damage_185 : decode cX7_damage 185 = .ok (.bipush 21, 2) := by decide +kernel
theorem dX7_damage_187 : decode cX7_damage 187 = .ok (.iadd, 1) := by decide +kernel
theorem dX7_damage_188 : decode cX7_damage 188 = .ok (.aload_n 0, 1) := by decide +kernel
theorem dX7_damage_189 : decode cX7_damage 189 = .ok (.iload_n 3, 1) := by decide +kernel
theorem dX7_damage_190 : decode cX7_damage 190 = .ok (.iconst 0, 1) := by decide +kernel
theorem dX7_damage_191 : decode cX7_damage 191 = .ok (.invokevirtual 82, 3) := by decide +kernel
theorem dX7_damage_194 : decode cX7_damage 194 = .ok (.iastore, 1) := by decide +kernel
theorem dX7_damage_195 : decode cX7_damage 195 = .ok (.aload_n 0, 1) := by decide +kernel
theorem dX7_damage_196 : decode cX7_damage 196 = .ok (.getfield 7, 3) := by decide +kernel
theorem dX7_damage_199 : decode cX7_damage 199 = .ok (.iload 6, 2) := by decide +kernel
theorem dX7_damage_201 : decode cX7_damage 201 = .ok (.bipush 37, 2) := by decide +kernel
theorem dX7_damage_203 : decode cX7_damage 203 = .ok (.iadd, 1) := by decide +kernel
theorem dX7_damage_204 : decode cX7_damage 204 = .ok (.iconst 2, 1) := by decide +kernel
theorem dX7_damage_205 : decode cX7_damage 205 = .ok (.iastore, 1) := by decide +kernel
theorem dX7_damage_206 : decode cX7_damage 206 = .ok (.goto 17, 3) := by decide +kernel
theorem dX7_damage_209 : decode cX7_damage 209 = .ok (.aload_n 0, 1) := by decide +kernel
theorem dX7_damage_210 : decode cX7_damage 210 = .ok (.iload_n 2, 1) := by decide +kernel
theorem dX7_damage_211 : decode cX7_damage 211 = .ok (.aload_n 0, 1) := by decide +kernel
theorem dX7_damage_212 : decode cX7_damage 212 = .ok (.getfield 7, 3) := by decide +kernel
theorem dX7_damage_215 : decode cX7_damage 215 = .ok (.iload 6, 2) := by decide +kernel
theorem dX7_damage_217 : decode cX7_damage 217 = .ok (.iconst 5, 1) := by decide +kernel
theorem dX7_damage_218 : decode cX7_damage 218 = .ok (.iadd, 1) := by decide +kernel
theorem dX7_damage_219 : decode cX7_damage 219 = .ok (.iaload, 1) := by decide +kernel
theorem dX7_damage_220 : decode cX7_damage 220 = .ok (.invokevirtual 180, 3) := by decide +kernel
theorem dX7_damage_223 : decode cX7_damage 223 = .ok (.return_, 1) := by decide +kernel
def f_X7_damage (u0 : S1) (p1 : Int32) (p2 : Int32) (p3 : Int32) : Option (S1) := bn (f_X7_isThing u0 p2) (fun z_1 => jn (fun (v26_2_0 : Int32) => jn (fun (v99_3_0 : Int32) => bn (f_X7_isIn p1 0 2) (fun z_4 => jn (fun (v134_5_0 : Int32) => bn (f_X7_can u0 v134_5_0) (fun z_6 => if z_6.1 = 0 then some (z_6.2) else bn (f_X7_at 0 p2) (fun z_8 => jn (fun (u223_9_0 : S1) => some (u223_9_0)) (fun k223_9 => if p1 = 0 then chk (inb (z_8 + 3) 8480) (chk (inb (z_8 + 3) 8480) (bv (st z_6.2 0 (z_8 + 3) ((z_6.2 0 (z_8 + 3).toNatClampNeg) + 1)) (fun u_17 => k223_9 u_17))) else if p1 = 1 then bn (f_X7_digs z_6.2 p2 0) (fun z_13 => bn (f_X7_blockOf z_13 p3 0) (fun z_14 => chk (inb (z_8 + 21) 8480) (bv (st z_13 0 (z_8 + 21) z_14) (fun u_15 => chk (inb (z_8 + 37) 8480) (bv (st u_15 0 (z_8 + 37) 2) (fun u_16 => k223_9 u_16)))))) else chk (inb (z_8 + 5) 8480) (bn (f_X7_leaves z_6.2 p2 (z_6.2 0 (z_8 + 5).toNatClampNeg)) (fun z_12 => k223_9 z_12)))))) (fun k134_5 => if z_4 = 0 then k134_5 1 else if v26_2_0 = 0 then k134_5 2 else if v99_3_0 = 0 then k134_5 3 else k134_5 0))) (fun k99_3 => jn (k99_3 0) (fun k98_21 => if v26_2_0 = 0 then k98_21 else jn (k99_3 1) (fun k94_23 => if p1 = 0 then k94_23 else if p1 = 1 then bn (f_X7_kindOf u0 p2) (fun z_30 => if z_30 = 0 then bn (f_X7_kindOf u0 p3) (fun z_32 => if z_32 = 0 then if p2 = p3 then k98_21 else bn (f_X7_blockOf u0 p3 0) (fun z_35 => if z_35 = (-1) then k98_21 else k94_23) else k98_21) else k98_21) else bn (f_X7_kindOf u0 p2) (fun z_26 => if z_26 = 1 then bn (f_X7_entries u0 0 p2) (fun z_28 => if z_28 ≤ 0 then k98_21 else k94_23) else k98_21))))) (fun k26_2 => jn (k26_2 0) (fun k25_37 => if z_1 = 0 then k25_37 else jn (k26_2 1) (fun k21_39 => if p1 = 1 then bn (f_X7_isThing u0 p3) (fun z_41 => if z_41 = 0 then k25_37 else k21_39) else k21_39))))
def rmX7_damage : Room := { frames := 3, cells := 0, slots := 0, locals := 71 }
set_option maxHeartbeats 4000000 in
set_option maxRecDepth 100000 in
theorem c_X7_damage (l : Launch) (D : va_G) (cI cZ cJ cT : ClassId) (a0 : Nat → Nat) (sz : Nat) (u0 : S1) (p1 : Int32) (p2 : Int32) (p3 : Int32) (o : S1) (hf : f_X7_damage u0 p1 p2 p3 = some o) : Met l yX7_damage wsX7_damage rmX7_damage (va_Pc [.ref (a0 0), .int p1, .int p2, .int p3] (PW D cls (tys cI cZ cJ cT) ((wX7 cI cZ a0 u0)) sz)) (QWv D cls ((wX7 cI cZ a0 o)) (va_A ((wX7 cI cZ a0 u0)) sz)) 0 0 (va_A ((wX7 cI cZ a0 u0)) sz) := by
  refine Met.ofW (cc := cX7_damage) (maxL := 7) (ret := none) (by decide) rfl ?_
  intro p e s m args below meth c s₁ B hml hv
  obtain ⟨hav, hsz, hP, hK, hD0⟩ := hv
  have hx := B.exec
  have hb := B.bytes
  have hr := B.returns
  have hlocks := B.notSynchronized
  have hts := atoms_spec (ws := wsX7_damage) B.pre
  have hown : s.vm.findClass RX7 = some m.cls := findClass_of_methodNamed B.named
  have i7 : ∀ w ∈ wsX70, w ∈ wsX7_damage := fun w h => List.mem_cons_of_mem _ (List.mem_append_right _ h)
  have hk7 := hts (.fieldLink RX7 7 "InoderyModel" "s" "[I") (by decide +kernel)
  subst hsz
  have hD := hD0.self (sz := s.heap.size)
  generalize hAe : va_A ((wX7 cI cZ a0 u0)) s.heap.size = A at hD ⊢
  have hA : ∀ q : Nat, s.heap.size ≤ q → A q := fun q h => by rw [← hAe]; exact Or.inr h
  have hS : va_S A s.heap s.heap [] := va_S.rf
  have hDD : ∀ w0 : S1, va_D A ((wX7 cI cZ a0 w0)) := fun _ => D_same (w := (wX7 cI cZ a0 u0)) rfl hD
  refine Wq (fun Q hQ => ?_)
  refine W_entry hav (Nat.le_of_ble_eq_true rfl) (fun ls hl => ?_)
  have hl : lv_has ls 7 [(0, .ref (a0 0)), (1, .int p1), (2, .int p2), (3, .int p3)] := hl
  unfold f_X7_damage at hf
  refine W_heap hP hS (fun H locs hP hS => ?_)
  refine lv_aload_n hx hb dX7_damage_0 rfl (lv_at hl 0 rfl) ?_
  refine lv_iload_n hx hb dX7_damage_1 rfl (lv_at hl 2 rfl) ?_
  obtain ⟨z_1, hz_1, hf⟩ := bn_some hf
  refine cRV (As := [.int p2]) (rest := []) ⟨hx, hb, hml, hown, hts⟩ (c_X7_isThing l D cI cZ cJ cT a0 u0 p2 z_1 hz_1) (cwV 1 hts gX7_damage_X7_isThing rfl rfl rfl (by decide +kernel) ⟨Nat.le_of_ble_eq_true rfl, Nat.le_of_ble_eq_true rfl⟩) hP hK (va_recv hK hP (ci := 7) (q0 := 0) rfl rfl) rfl rfl hl.1 (Nat.le_of_ble_eq_true rfl) dX7_damage_2 ⟨Nat.le_of_ble_eq_true rfl, Nat.le_of_ble_eq_true rfl⟩ ?_
  obtain ⟨k26_2, hk26_2, hf⟩ := jn_some hf
  have j26_2 : ∀ (v26_2_0 : Int32) (H : Heap) (locs : List Loc) (ls : Array Slot), k26_2 v26_2_0 = some o → va_P D cls (wX7 cI cZ a0 u0) H → va_S A s.heap H locs → lv_has ls 7 [(0, .ref (a0 0)), (1, .int p1), (2, .int p2), (3, .int p3)] → W p l e (headSpec wsX7_damage rmX7_damage).room s m args below meth c H locs 0 0 Q (F0 m 26 ls [.int v26_2_0]) := by
    intro v26_2_0 H locs ls hf hP hS hl
    have hf := qa1 hk26_2 hf
    refine lv_istore (lv' := [(4, .int v26_2_0), (0, .ref (a0 0)), (1, .int p1), (2, .int p2), (3, .int p3)]) hx hb dX7_damage_26 hl (by decide) rfl (fun ls hl => ?_)
    refine lv_iload hx hb dX7_damage_28 (lv_at hl 0 rfl) ?_
    obtain ⟨k99_3, hk99_3, hf⟩ := jn_some hf
    have j99_3 : ∀ (v99_3_0 : Int32) (H : Heap) (locs : List Loc) (ls : Array Slot), k99_3 v99_3_0 = some o → va_P D cls (wX7 cI cZ a0 u0) H → va_S A s.heap H locs → lv_has ls 7 [(0, .ref (a0 0)), (1, .int p1), (2, .int p2), (3, .int p3), (4, .int v26_2_0)] → W p l e (headSpec wsX7_damage rmX7_damage).room s m args below meth c H locs 0 0 Q (F0 m 99 ls [.int v99_3_0]) := by
      intro v99_3_0 H locs ls hf hP hS hl
      have hf := qa1 hk99_3 hf
      refine lv_istore (lv' := [(5, .int v99_3_0), (0, .ref (a0 0)), (1, .int p1), (2, .int p2), (3, .int p3), (4, .int v26_2_0)]) hx hb dX7_damage_99 hl (by decide) rfl (fun ls hl => ?_)
      refine lv_aload_n hx hb dX7_damage_101 rfl (lv_at hl 1 rfl) ?_
      refine lv_iload_n hx hb dX7_damage_102 rfl (lv_at hl 2 rfl) ?_
      refine lv_iconst (v := 0) hx hb dX7_damage_103 (by decide) ?_
      refine lv_iconst (v := 2) hx hb dX7_damage_104 (by decide) ?_
      obtain ⟨z_4, hz_4, hf⟩ := bn_some hf
      refine c0S (As := [.int p1, .int 0, .int 2]) (rest := [.ref (a0 0)]) ⟨hx, hb, hml, hown, hts⟩ (c_X7_isIn l D cI cZ cJ cT p1 0 2 z_4 hz_4) (va_cwS 3 hts gX7_damage_X7_isIn rfl rfl rfl (by decide +kernel) ⟨Nat.le_of_ble_eq_true rfl, Nat.le_of_ble_eq_true rfl⟩) rfl rfl hl.1 (Nat.le_of_ble_eq_true rfl) dX7_damage_105 ⟨Nat.le_of_ble_eq_true rfl, Nat.le_of_ble_eq_true rfl⟩ ?_
      obtain ⟨k134_5, hk134_5, hf⟩ := jn_some hf
      have j134_5 : ∀ (v134_5_0 : Int32) (H : Heap) (locs : List Loc) (ls : Array Slot), k134_5 v134_5_0 = some o → va_P D cls (wX7 cI cZ a0 u0) H → va_S A s.heap H locs → lv_has ls 7 [(0, .ref (a0 0)), (1, .int p1), (2, .int p2), (3, .int p3)] → W p l e (headSpec wsX7_damage rmX7_damage).room s m args below meth c H locs 0 0 Q (F0 m 134 ls [.int v134_5_0, .ref (a0 0)]) := by
        intro v134_5_0 H locs ls hf hP hS hl
        have hf := qa1 hk134_5 hf
        obtain ⟨z_6, hz_6, hf⟩ := bn_some hf
        refine cWVi (As := [.int v134_5_0]) (rest := []) ⟨hx, hb, hml, hown, hts⟩ (c_X7_can l D cI cZ cJ cT a0 H.size u0 v134_5_0 z_6 hz_6) (cwV 1 hts gX7_damage_X7_can rfl rfl rfl (by decide +kernel) ⟨Nat.le_of_ble_eq_true rfl, Nat.le_of_ble_eq_true rfl⟩) hP hK (hDD u0) hS (own_free (hDD u0) hS hA) (va_recv hK hP (ci := 7) (q0 := 0) rfl rfl) rfl rfl hl.1 (Nat.le_of_ble_eq_true rfl) dX7_damage_134 ⟨Nat.le_of_ble_eq_true rfl, Nat.le_of_ble_eq_true rfl⟩ (fun H1 locs hP1 hk1 hS => ?_)
        have hP : va_P D cls (wX7 cI cZ a0 z_6.2) H1 := hP1
        clear hP1 hk1
        generalize H1 = H at hP hS ⊢
        refine lv_if_ne (tgt := 141) hx hb dX7_damage_137 (by decide) (fun c_7 => ?_) (fun c_7 => ?_)
        · have hf := ite_f hf c_7
          refine lv_iconst (v := 0) hx hb dX7_damage_141 (by decide) ?_
          refine lv_iload_n hx hb dX7_damage_142 rfl (lv_at hl 2 rfl) ?_
          obtain ⟨z_8, hz_8, hf⟩ := bn_some hf
          refine c0S (As := [.int 0, .int p2]) (rest := []) ⟨hx, hb, hml, hown, hts⟩ (c_X7_at l D cI cZ cJ cT 0 p2 z_8 hz_8) (va_cwS 2 hts gX7_damage_X7_at rfl rfl rfl (by decide +kernel) ⟨Nat.le_of_ble_eq_true rfl, Nat.le_of_ble_eq_true rfl⟩) rfl rfl hl.1 (Nat.le_of_ble_eq_true rfl) dX7_damage_143 ⟨Nat.le_of_ble_eq_true rfl, Nat.le_of_ble_eq_true rfl⟩ ?_
          refine lv_istore (lv' := [(6, .int z_8), (0, .ref (a0 0)), (1, .int p1), (2, .int p2), (3, .int p3)]) hx hb dX7_damage_146 hl (by decide) rfl (fun ls hl => ?_)
          refine lv_iload_n hx hb dX7_damage_148 rfl (lv_at hl 2 rfl) ?_
          obtain ⟨k223_9, hk223_9, hf⟩ := jn_some hf
          have j223_9 : ∀ (u223_9_0 : S1) (H : Heap) (locs : List Loc) (ls : Array Slot), k223_9 u223_9_0 = some o → va_P D cls (wX7 cI cZ a0 u223_9_0) H → va_S A s.heap H locs → lv_has ls 7 [] → W p l e (headSpec wsX7_damage rmX7_damage).room s m args below meth c H locs 0 0 Q (F0 m 223 ls []) := by
            intro u223_9_0 H locs ls hf hP hS hl
            have hf := qa1 hk223_9 hf
            have eo := Option.some.inj hf
            have hP : va_P D cls (wX7 cI cZ a0 o) H := by rw [← eo]; exact hP
            rw [hQ]
            exact W.vret hx hb hr (fun t ht hW => ⟨⟨(), rfl, trivial, P_at ht hP⟩, hS.F ht⟩) hS.2.2 dX7_damage_223 hlocks
          refine lv_if_ne (tgt := 168) hx hb dX7_damage_149 (by decide) (fun c_10 => ?_) (fun c_10 => ?_)
          · have hf := ite_f hf c_10
            refine lv_iload_n hx hb dX7_damage_168 rfl (lv_at hl 2 rfl) ?_
            refine lv_iconst (v := 1) hx hb dX7_damage_169 (by decide) ?_
            refine lv_icmp_ne (tgt := 209) hx hb dX7_damage_170 (by decide) (fun c_11 => ?_) (fun c_11 => ?_)
            · have hf := ite_f hf c_11
              refine lv_aload_n hx hb dX7_damage_209 rfl (lv_at hl 1 rfl) ?_
              refine lv_iload_n hx hb dX7_damage_210 rfl (lv_at hl 3 rfl) ?_
              refine lv_aload_n hx hb dX7_damage_211 rfl (lv_at hl 1 rfl) ?_
              refine va_get (D := D) (ci := 7) (v := .ref (a0 1)) (C := RX7) (T := TX7) (N := 19) hx hb hts i7 hown hK hP 0 rfl rfl 0 (by decide) hk7 (fun _ h9 => h9) rfl dX7_damage_212 ?_
              refine lv_iload hx hb dX7_damage_215 (lv_at hl 0 rfl) ?_
              refine lv_iconst (v := 5) hx hb dX7_damage_217 (by decide) ?_
              refine lv_iadd hx hb dX7_damage_218 ?_
              obtain ⟨hi, hf⟩ := chk_some hf
              refine va_iald hx hb hK hP 1 0 rfl rfl (inb_in hi) dX7_damage_219 ?_
              obtain ⟨z_12, hz_12, hf⟩ := bn_some hf
              refine cWVv (As := [.int p2, .int (z_6.2 0 (z_8 + 5).toNatClampNeg)]) (rest := []) ⟨hx, hb, hml, hown, hts⟩ (c_X7_leaves l D cI cZ cJ cT a0 H.size z_6.2 p2 (z_6.2 0 (z_8 + 5).toNatClampNeg) z_12 hz_12) (cwV 2 hts gX7_damage_X7_leaves rfl rfl rfl (by decide +kernel) ⟨Nat.le_of_ble_eq_true rfl, Nat.le_of_ble_eq_true rfl⟩) hP hK (hDD z_6.2) hS (own_free (hDD z_6.2) hS hA) (va_recv hK hP (ci := 7) (q0 := 0) rfl rfl) rfl rfl hl.1 (Nat.le_of_ble_eq_true rfl) dX7_damage_220 ⟨Nat.le_of_ble_eq_true rfl, Nat.le_of_ble_eq_true rfl⟩ (fun H1 locs hP1 hk1 hS => ?_)
              have hP : va_P D cls (wX7 cI cZ a0 z_12) H1 := hP1
              clear hP1 hk1
              generalize H1 = H at hP hS ⊢
              exact j223_9 _ _ _ _ hf hP hS (lv_sub hl [] rfl)
            · have hf := ite_t hf c_11
              refine lv_aload_n hx hb dX7_damage_173 rfl (lv_at hl 1 rfl) ?_
              refine lv_iload_n hx hb dX7_damage_174 rfl (lv_at hl 3 rfl) ?_
              refine lv_iconst (v := 0) hx hb dX7_damage_175 (by decide) ?_
              obtain ⟨z_13, hz_13, hf⟩ := bn_some hf
              refine cWVv (As := [.int p2, .int 0]) (rest := []) ⟨hx, hb, hml, hown, hts⟩ (c_X7_digs l D cI cZ cJ cT a0 H.size z_6.2 p2 0 z_13 hz_13) (cwV 2 hts gX7_damage_X7_digs rfl rfl rfl (by decide +kernel) ⟨Nat.le_of_ble_eq_true rfl, Nat.le_of_ble_eq_true rfl⟩) hP hK (hDD z_6.2) hS (own_free (hDD z_6.2) hS hA) (va_recv hK hP (ci := 7) (q0 := 0) rfl rfl) rfl rfl hl.1 (Nat.le_of_ble_eq_true rfl) dX7_damage_176 ⟨Nat.le_of_ble_eq_true rfl, Nat.le_of_ble_eq_true rfl⟩ (fun H1 locs hP1 hk1 hS => ?_)
              have hP : va_P D cls (wX7 cI cZ a0 z_13) H1 := hP1
              clear hP1 hk1
              generalize H1 = H at hP hS ⊢
              refine lv_aload_n hx hb dX7_damage_179 rfl (lv_at hl 1 rfl) ?_
              refine va_get (D := D) (ci := 7) (v := .ref (a0 1)) (C := RX7) (T := TX7) (N := 19) hx hb hts i7 hown hK hP 0 rfl rfl 0 (by decide) hk7 (fun _ h9 => h9) rfl dX7_damage_180 ?_
              refine lv_iload hx hb dX7_damage_183 (lv_at hl 0 rfl) ?_
              refine lv_bipush (v := 21) hx hb dX7_damage_185 (by decide) ?_
              refine lv_iadd hx hb dX7_damage_187 ?_
              refine lv_aload_n hx hb dX7_damage_188 rfl (lv_at hl 1 rfl) ?_
              refine lv_iload_n hx hb dX7_damage_189 rfl (lv_at hl 4 rfl) ?_
              refine lv_iconst (v := 0) hx hb dX7_damage_190 (by decide) ?_
              obtain ⟨z_14, hz_14, hf⟩ := bn_some hf
              refine cRV (As := [.int p3, .int 0]) (rest := [.int (z_8 + 21), .ref (a0 1)]) ⟨hx, hb, hml, hown, hts⟩ (c_X7_blockOf l D cI cZ cJ cT a0 z_13 p3 0 z_14 hz_14) (cwV 2 hts gX7_damage_X7_blockOf rfl rfl rfl (by decide +kernel) ⟨Nat.le_of_ble_eq_true rfl, Nat.le_of_ble_eq_true rfl⟩) hP hK (va_recv hK hP (ci := 7) (q0 := 0) rfl rfl) rfl rfl hl.1 (Nat.le_of_ble_eq_true rfl) dX7_damage_191 ⟨Nat.le_of_ble_eq_true rfl, Nat.le_of_ble_eq_true rfl⟩ ?_
              obtain ⟨hi, hf⟩ := chk_some hf
              obtain ⟨u_15, hu_15, hf⟩ := bv_some hf
              refine va_iast hx hb hK hP (hDD z_13) hS 1 0 rfl rfl (inb_in hi) dX7_damage_194 (fun H locs hP _ hS => ?_)
              have hP : va_P D cls (wX7 cI cZ a0 u_15) H := by rw [hu_15]; exact hP
              refine lv_aload_n hx hb dX7_damage_195 rfl (lv_at hl 1 rfl) ?_
              refine va_get (D := D) (ci := 7) (v := .ref (a0 1)) (C := RX7) (T := TX7) (N := 19) hx hb hts i7 hown hK hP 0 rfl rfl 0 (by decide) hk7 (fun _ h9 => h9) rfl dX7_damage_196 ?_
              refine lv_iload hx hb dX7_damage_199 (lv_at hl 0 rfl) ?_
              refine lv_bipush (v := 37) hx hb dX7_damage_201 (by decide) ?_
              refine lv_iadd hx hb dX7_damage_203 ?_
              refine lv_iconst (v := 2) hx hb dX7_damage_204 (by decide) ?_
              obtain ⟨hi, hf⟩ := chk_some hf
              obtain ⟨u_16, hu_16, hf⟩ := bv_some hf
              refine va_iast hx hb hK hP (hDD u_15) hS 1 0 rfl rfl (inb_in hi) dX7_damage_205 (fun H locs hP _ hS => ?_)
              have hP : va_P D cls (wX7 cI cZ a0 u_16) H := by rw [hu_16]; exact hP
              refine lv_goto (tgt := 223) hx hb dX7_damage_206 (by decide) ?_
              exact j223_9 _ _ _ _ hf hP hS (lv_sub hl [] rfl)
          · have hf := ite_t hf c_10
            refine lv_aload_n hx hb dX7_damage_152 rfl (lv_at hl 1 rfl) ?_
            refine va_get (D := D) (ci := 7) (v := .ref (a0 1)) (C := RX7) (T := TX7) (N := 19) hx hb hts i7 hown hK hP 0 rfl rfl 0 (by decide) hk7 (fun _ h9 => h9) rfl dX7_damage_153 ?_
            refine lv_iload hx hb dX7_damage_156 (lv_at hl 0 rfl) ?_
            refine lv_iconst (v := 3) hx hb dX7_damage_158 (by decide) ?_
            refine lv_iadd hx hb dX7_damage_159 ?_
            refine lv_dup2_11 hx hb dX7_damage_160 rfl rfl ?_
            obtain ⟨hi, hf⟩ := chk_some hf
            refine va_iald hx hb hK hP 1 0 rfl rfl (inb_in hi) dX7_damage_161 ?_
            refine lv_iconst (v := 1) hx hb dX7_damage_162 (by decide) ?_
            refine lv_iadd hx hb dX7_damage_163 ?_
            obtain ⟨hi, hf⟩ := chk_some hf
            obtain ⟨u_17, hu_17, hf⟩ := bv_some hf
            refine va_iast hx hb hK hP (hDD z_6.2) hS 1 0 rfl rfl (inb_in hi) dX7_damage_164 (fun H locs hP _ hS => ?_)
            have hP : va_P D cls (wX7 cI cZ a0 u_17) H := by rw [hu_17]; exact hP
            refine lv_goto (tgt := 223) hx hb dX7_damage_165 (by decide) ?_
            exact j223_9 _ _ _ _ hf hP hS (lv_sub hl [] rfl)
        · have hf := ite_t hf c_7
          have eo := Option.some.inj hf
          have hP : va_P D cls (wX7 cI cZ a0 o) H := by rw [← eo]; exact hP
          rw [hQ]
          exact W.vret hx hb hr (fun t ht hW => ⟨⟨(), rfl, trivial, P_at ht hP⟩, hS.F ht⟩) hS.2.2 dX7_damage_140 hlocks
      refine lv_if_ne (tgt := 115) hx hb dX7_damage_108 (by decide) (fun c_18 => ?_) (fun c_18 => ?_)
      · have hf := ite_f hf c_18
        refine lv_iload hx hb dX7_damage_115 (lv_at hl 5 rfl) ?_
        refine lv_if_ne (tgt := 124) hx hb dX7_damage_117 (by decide) (fun c_19 => ?_) (fun c_19 => ?_)
        · have hf := ite_f hf c_19
          refine lv_iload hx hb dX7_damage_124 (lv_at hl 0 rfl) ?_
          refine lv_if_eq (tgt := 133) hx hb dX7_damage_126 (by decide) (fun c_20 => ?_) (fun c_20 => ?_)
          · have hf := ite_t hf c_20
            refine lv_iconst (v := 3) hx hb dX7_damage_133 (by decide) ?_
            exact j134_5 _ _ _ _ hf hP hS (lv_sub hl [1, 2, 3, 4] rfl)
          · have hf := ite_f hf c_20
            refine lv_iconst (v := 0) hx hb dX7_damage_129 (by decide) ?_
            refine lv_goto (tgt := 134) hx hb dX7_damage_130 (by decide) ?_
            exact j134_5 _ _ _ _ hf hP hS (lv_sub hl [1, 2, 3, 4] rfl)
        · have hf := ite_t hf c_19
          refine lv_iconst (v := 2) hx hb dX7_damage_120 (by decide) ?_
          refine lv_goto (tgt := 134) hx hb dX7_damage_121 (by decide) ?_
          exact j134_5 _ _ _ _ hf hP hS (lv_sub hl [1, 2, 3, 4] rfl)
      · have hf := ite_t hf c_18
        refine lv_iconst (v := 1) hx hb dX7_damage_111 (by decide) ?_
        refine lv_goto (tgt := 134) hx hb dX7_damage_112 (by decide) ?_
        exact j134_5 _ _ _ _ hf hP hS (lv_sub hl [1, 2, 3, 4] rfl)
    obtain ⟨k98_21, hk98_21, hf⟩ := jn_some hf
    have j98_21 : ∀ (H : Heap) (locs : List Loc) (ls : Array Slot), k98_21 = some o → va_P D cls (wX7 cI cZ a0 u0) H → va_S A s.heap H locs → lv_has ls 7 [(0, .ref (a0 0)), (1, .int p1), (2, .int p2), (3, .int p3), (4, .int v26_2_0)] → W p l e (headSpec wsX7_damage rmX7_damage).room s m args below meth c H locs 0 0 Q (F0 m 98 ls []) := by
      intro H locs ls hf hP hS hl
      have hf := qa0 hk98_21 hf
      refine lv_iconst (v := 0) hx hb dX7_damage_98 (by decide) ?_
      exact j99_3 _ _ _ _ hf hP hS (lv_sub hl [0, 1, 2, 3, 4] rfl)
    refine lv_if_eq (tgt := 98) hx hb dX7_damage_30 (by decide) (fun c_22 => ?_) (fun c_22 => ?_)
    · have hf := ite_t hf c_22
      exact j98_21 _ _ _ hf hP hS (lv_sub hl [1, 2, 3, 4, 0] rfl)
    · have hf := ite_f hf c_22
      refine lv_iload_n hx hb dX7_damage_33 rfl (lv_at hl 2 rfl) ?_
      obtain ⟨k94_23, hk94_23, hf⟩ := jn_some hf
      have j94_23 : ∀ (H : Heap) (locs : List Loc) (ls : Array Slot), k94_23 = some o → va_P D cls (wX7 cI cZ a0 u0) H → va_S A s.heap H locs → lv_has ls 7 [(0, .ref (a0 0)), (1, .int p1), (2, .int p2), (3, .int p3), (4, .int v26_2_0)] → W p l e (headSpec wsX7_damage rmX7_damage).room s m args below meth c H locs 0 0 Q (F0 m 94 ls []) := by
        intro H locs ls hf hP hS hl
        have hf := qa0 hk94_23 hf
        refine lv_iconst (v := 1) hx hb dX7_damage_94 (by decide) ?_
        refine lv_goto (tgt := 99) hx hb dX7_damage_95 (by decide) ?_
        exact j99_3 _ _ _ _ hf hP hS (lv_sub hl [0, 1, 2, 3, 4] rfl)
      refine lv_if_eq (tgt := 94) hx hb dX7_damage_34 (by decide) (fun c_24 => ?_) (fun c_24 => ?_)
      · have hf := ite_t hf c_24
        exact j94_23 _ _ _ hf hP hS (lv_sub hl [1, 2, 3, 4, 0] rfl)
      · have hf := ite_f hf c_24
        refine lv_iload_n hx hb dX7_damage_37 rfl (lv_at hl 2 rfl) ?_
        refine lv_iconst (v := 1) hx hb dX7_damage_38 (by decide) ?_
        refine lv_icmp_ne (tgt := 76) hx hb dX7_damage_39 (by decide) (fun c_25 => ?_) (fun c_25 => ?_)
        · have hf := ite_f hf c_25
          refine lv_aload_n hx hb dX7_damage_76 rfl (lv_at hl 1 rfl) ?_
          refine lv_iload_n hx hb dX7_damage_77 rfl (lv_at hl 3 rfl) ?_
          obtain ⟨z_26, hz_26, hf⟩ := bn_some hf
          refine cRV (As := [.int p2]) (rest := []) ⟨hx, hb, hml, hown, hts⟩ (c_X7_kindOf l D cI cZ cJ cT a0 u0 p2 z_26 hz_26) (cwV 1 hts gX7_damage_X7_kindOf rfl rfl rfl (by decide +kernel) ⟨Nat.le_of_ble_eq_true rfl, Nat.le_of_ble_eq_true rfl⟩) hP hK (va_recv hK hP (ci := 7) (q0 := 0) rfl rfl) rfl rfl hl.1 (Nat.le_of_ble_eq_true rfl) dX7_damage_78 ⟨Nat.le_of_ble_eq_true rfl, Nat.le_of_ble_eq_true rfl⟩ ?_
          refine lv_iconst (v := 1) hx hb dX7_damage_81 (by decide) ?_
          refine lv_icmp_ne (tgt := 98) hx hb dX7_damage_82 (by decide) (fun c_27 => ?_) (fun c_27 => ?_)
          · have hf := ite_f hf c_27
            exact j98_21 _ _ _ hf hP hS (lv_sub hl [1, 2, 3, 4, 0] rfl)
          · have hf := ite_t hf c_27
            refine lv_aload_n hx hb dX7_damage_85 rfl (lv_at hl 1 rfl) ?_
            refine lv_iconst (v := 0) hx hb dX7_damage_86 (by decide) ?_
            refine lv_iload_n hx hb dX7_damage_87 rfl (lv_at hl 3 rfl) ?_
            obtain ⟨z_28, hz_28, hf⟩ := bn_some hf
            refine cRV (As := [.int 0, .int p2]) (rest := []) ⟨hx, hb, hml, hown, hts⟩ (c_X7_entries l D cI cZ cJ cT a0 u0 0 p2 z_28 hz_28) (cwV 2 hts gX7_damage_X7_entries rfl rfl rfl (by decide +kernel) ⟨Nat.le_of_ble_eq_true rfl, Nat.le_of_ble_eq_true rfl⟩) hP hK (va_recv hK hP (ci := 7) (q0 := 0) rfl rfl) rfl rfl hl.1 (Nat.le_of_ble_eq_true rfl) dX7_damage_88 ⟨Nat.le_of_ble_eq_true rfl, Nat.le_of_ble_eq_true rfl⟩ ?_
            refine lv_if_le (tgt := 98) hx hb dX7_damage_91 (by decide) (fun c_29 => ?_) (fun c_29 => ?_)
            · have hf := ite_t hf c_29
              exact j98_21 _ _ _ hf hP hS (lv_sub hl [1, 2, 3, 4, 0] rfl)
            · have hf := ite_f hf c_29
              exact j94_23 _ _ _ hf hP hS (lv_sub hl [1, 2, 3, 4, 0] rfl)
        · have hf := ite_t hf c_25
          refine lv_aload_n hx hb dX7_damage_42 rfl (lv_at hl 1 rfl) ?_
          refine lv_iload_n hx hb dX7_damage_43 rfl (lv_at hl 3 rfl) ?_
          obtain ⟨z_30, hz_30, hf⟩ := bn_some hf
          refine cRV (As := [.int p2]) (rest := []) ⟨hx, hb, hml, hown, hts⟩ (c_X7_kindOf l D cI cZ cJ cT a0 u0 p2 z_30 hz_30) (cwV 1 hts gX7_damage_X7_kindOf rfl rfl rfl (by decide +kernel) ⟨Nat.le_of_ble_eq_true rfl, Nat.le_of_ble_eq_true rfl⟩) hP hK (va_recv hK hP (ci := 7) (q0 := 0) rfl rfl) rfl rfl hl.1 (Nat.le_of_ble_eq_true rfl) dX7_damage_44 ⟨Nat.le_of_ble_eq_true rfl, Nat.le_of_ble_eq_true rfl⟩ ?_
          refine lv_if_ne (tgt := 98) hx hb dX7_damage_47 (by decide) (fun c_31 => ?_) (fun c_31 => ?_)
          · have hf := ite_f hf c_31
            exact j98_21 _ _ _ hf hP hS (lv_sub hl [1, 2, 3, 4, 0] rfl)
          · have hf := ite_t hf c_31
            refine lv_aload_n hx hb dX7_damage_50 rfl (lv_at hl 1 rfl) ?_
            refine lv_iload_n hx hb dX7_damage_51 rfl (lv_at hl 4 rfl) ?_
            obtain ⟨z_32, hz_32, hf⟩ := bn_some hf
            refine cRV (As := [.int p3]) (rest := []) ⟨hx, hb, hml, hown, hts⟩ (c_X7_kindOf l D cI cZ cJ cT a0 u0 p3 z_32 hz_32) (cwV 1 hts gX7_damage_X7_kindOf rfl rfl rfl (by decide +kernel) ⟨Nat.le_of_ble_eq_true rfl, Nat.le_of_ble_eq_true rfl⟩) hP hK (va_recv hK hP (ci := 7) (q0 := 0) rfl rfl) rfl rfl hl.1 (Nat.le_of_ble_eq_true rfl) dX7_damage_52 ⟨Nat.le_of_ble_eq_true rfl, Nat.le_of_ble_eq_true rfl⟩ ?_
            refine lv_if_ne (tgt := 98) hx hb dX7_damage_55 (by decide) (fun c_33 => ?_) (fun c_33 => ?_)
            · have hf := ite_f hf c_33
              exact j98_21 _ _ _ hf hP hS (lv_sub hl [1, 2, 3, 4, 0] rfl)
            · have hf := ite_t hf c_33
              refine lv_iload_n hx hb dX7_damage_58 rfl (lv_at hl 3 rfl) ?_
              refine lv_iload_n hx hb dX7_damage_59 rfl (lv_at hl 4 rfl) ?_
              refine lv_icmp_eq (tgt := 98) hx hb dX7_damage_60 (by decide) (fun c_34 => ?_) (fun c_34 => ?_)
              · have hf := ite_t hf c_34
                exact j98_21 _ _ _ hf hP hS (lv_sub hl [1, 2, 3, 4, 0] rfl)
              · have hf := ite_f hf c_34
                refine lv_aload_n hx hb dX7_damage_63 rfl (lv_at hl 1 rfl) ?_
                refine lv_iload_n hx hb dX7_damage_64 rfl (lv_at hl 4 rfl) ?_
                refine lv_iconst (v := 0) hx hb dX7_damage_65 (by decide) ?_
                obtain ⟨z_35, hz_35, hf⟩ := bn_some hf
                refine cRV (As := [.int p3, .int 0]) (rest := []) ⟨hx, hb, hml, hown, hts⟩ (c_X7_blockOf l D cI cZ cJ cT a0 u0 p3 0 z_35 hz_35) (cwV 2 hts gX7_damage_X7_blockOf rfl rfl rfl (by decide +kernel) ⟨Nat.le_of_ble_eq_true rfl, Nat.le_of_ble_eq_true rfl⟩) hP hK (va_recv hK hP (ci := 7) (q0 := 0) rfl rfl) rfl rfl hl.1 (Nat.le_of_ble_eq_true rfl) dX7_damage_66 ⟨Nat.le_of_ble_eq_true rfl, Nat.le_of_ble_eq_true rfl⟩ ?_
                refine lv_iconst (v := (-1)) hx hb dX7_damage_69 (by decide) ?_
                refine lv_icmp_eq (tgt := 98) hx hb dX7_damage_70 (by decide) (fun c_36 => ?_) (fun c_36 => ?_)
                · have hf := ite_t hf c_36
                  exact j98_21 _ _ _ hf hP hS (lv_sub hl [1, 2, 3, 4, 0] rfl)
                · have hf := ite_f hf c_36
                  refine lv_goto (tgt := 94) hx hb dX7_damage_73 (by decide) ?_
                  exact j94_23 _ _ _ hf hP hS (lv_sub hl [1, 2, 3, 4, 0] rfl)
  obtain ⟨k25_37, hk25_37, hf⟩ := jn_some hf
  have j25_37 : ∀ (H : Heap) (locs : List Loc) (ls : Array Slot), k25_37 = some o → va_P D cls (wX7 cI cZ a0 u0) H → va_S A s.heap H locs → lv_has ls 7 [(0, .ref (a0 0)), (1, .int p1), (2, .int p2), (3, .int p3)] → W p l e (headSpec wsX7_damage rmX7_damage).room s m args below meth c H locs 0 0 Q (F0 m 25 ls []) := by
    intro H locs ls hf hP hS hl
    have hf := qa0 hk25_37 hf
    refine lv_iconst (v := 0) hx hb dX7_damage_25 (by decide) ?_
    exact j26_2 _ _ _ _ hf hP hS (lv_sub hl [0, 1, 2, 3] rfl)
  refine lv_if_eq (tgt := 25) hx hb dX7_damage_5 (by decide) (fun c_38 => ?_) (fun c_38 => ?_)
  · have hf := ite_t hf c_38
    exact j25_37 _ _ _ hf hP hS (lv_sub hl [0, 1, 2, 3] rfl)
  · have hf := ite_f hf c_38
    refine lv_iload_n hx hb dX7_damage_8 rfl (lv_at hl 1 rfl) ?_
    refine lv_iconst (v := 1) hx hb dX7_damage_9 (by decide) ?_
    obtain ⟨k21_39, hk21_39, hf⟩ := jn_some hf
    have j21_39 : ∀ (H : Heap) (locs : List Loc) (ls : Array Slot), k21_39 = some o → va_P D cls (wX7 cI cZ a0 u0) H → va_S A s.heap H locs → lv_has ls 7 [(0, .ref (a0 0)), (1, .int p1), (2, .int p2), (3, .int p3)] → W p l e (headSpec wsX7_damage rmX7_damage).room s m args below meth c H locs 0 0 Q (F0 m 21 ls []) := by
      intro H locs ls hf hP hS hl
      have hf := qa0 hk21_39 hf
      refine lv_iconst (v := 1) hx hb dX7_damage_21 (by decide) ?_
      refine lv_goto (tgt := 26) hx hb dX7_damage_22 (by decide) ?_
      exact j26_2 _ _ _ _ hf hP hS (lv_sub hl [0, 1, 2, 3] rfl)
    refine lv_icmp_ne (tgt := 21) hx hb dX7_damage_10 (by decide) (fun c_40 => ?_) (fun c_40 => ?_)
    · have hf := ite_f hf c_40
      exact j21_39 _ _ _ hf hP hS (lv_sub hl [0, 1, 2, 3] rfl)
    · have hf := ite_t hf c_40
      refine lv_aload_n hx hb dX7_damage_13 rfl (lv_at hl 0 rfl) ?_
      refine lv_iload_n hx hb dX7_damage_14 rfl (lv_at hl 3 rfl) ?_
      obtain ⟨z_41, hz_41, hf⟩ := bn_some hf
      refine cRV (As := [.int p3]) (rest := []) ⟨hx, hb, hml, hown, hts⟩ (c_X7_isThing l D cI cZ cJ cT a0 u0 p3 z_41 hz_41) (cwV 1 hts gX7_damage_X7_isThing rfl rfl rfl (by decide +kernel) ⟨Nat.le_of_ble_eq_true rfl, Nat.le_of_ble_eq_true rfl⟩) hP hK (va_recv hK hP (ci := 7) (q0 := 0) rfl rfl) rfl rfl hl.1 (Nat.le_of_ble_eq_true rfl) dX7_damage_15 ⟨Nat.le_of_ble_eq_true rfl, Nat.le_of_ble_eq_true rfl⟩ ?_
      refine lv_if_eq (tgt := 25) hx hb dX7_damage_18 (by decide) (fun c_42 => ?_) (fun c_42 => ?_)
      · have hf := ite_t hf c_42
        exact j25_37 _ _ _ hf hP hS (lv_sub hl [0, 1, 2, 3] rfl)
      · have hf := ite_f hf c_42
        exact j21_39 _ _ _ hf hP hS (lv_sub hl [0, 1, 2, 3] rfl)
set_option maxRecDepth 20000 in
theorem ggX7_doublePages_X7_blockOf : GoodIn wsX7_doublePages wsX7_blockOf := goodIn_r _ [20, 10, 14, 15, 4, 16, 26, 27, 28, 29, 30, 31, 32, 33, 34, 35, 36, 37, 38, 39, 40, 41, 42, 43, 44] (by decide +kernel) (by decide +kernel)
set_option maxRecDepth 20000 in
theorem gX7_doublePages_X7_blockOf : GoodIn wsX7_doublePages (wsV RX7 82 RX7 yX7_blockOf wsX7_blockOf) := goodIn_app (goodIn_of _ (by decide +kernel)) ggX7_doublePages_X7_blockOf
set_option maxRecDepth 20000 in
theorem ggX7_doublePages_X7_digs : GoodIn wsX7_doublePages wsX7_digs := goodIn_r _ [24, 10, 25, 14, 15, 4, 16, 26, 27, 28, 29, 30, 31, 32, 33, 34, 35, 36, 37, 38, 39, 40, 41, 42, 43, 44] (by decide +kernel) (by decide +kernel)
set_option maxRecDepth 20000 in
theorem gX7_doublePages_X7_digs : GoodIn wsX7_doublePages (wsV RX7 94 RX7 yX7_digs wsX7_digs) := goodIn_app (goodIn_of _ (by decide +kernel)) ggX7_doublePages_X7_digs
set_option maxRecDepth 20000 in
theorem ggX7_doublePages_X7_isThing : GoodIn wsX7_doublePages wsX7_isThing := goodIn_r _ [5, 6, 7, 8, 4, 9, 10, 11, 12, 13, 14, 15, 16, 26, 27, 28, 29, 30, 31, 32, 33, 34, 35, 36, 37, 38, 39, 40, 41, 42, 43, 44] (by decide +kernel) (by decide +kernel)
set_option maxRecDepth 20000 in
theorem gX7_doublePages_X7_isThing : GoodIn wsX7_doublePages (wsV RX7 143 RX7 yX7_isThing wsX7_isThing) := goodIn_app (goodIn_of _ (by decide +kernel)) ggX7_doublePages_X7_isThing
theorem dX7_doublePages_0 : decode cX7_doublePages 0 = .ok (.iconst 0, 1) := by decide +kernel
theorem dX7_doublePages_1 : decode cX7_doublePages 1 = .ok (.istore_n 1, 1) := by decide +kernel
theorem dX7_doublePages_2 : decode cX7_doublePages 2 = .ok (.iconst 0, 1) := by decide +kernel
theorem dX7_doublePages_3 : decode cX7_doublePages 3 = .ok (.istore_n 2, 1) := by decide +kernel
theorem dX7_doublePages_4 : decode cX7_doublePages 4 = .ok (.iload_n 2, 1) := by decide +kernel
theorem dX7_doublePages_5 : decode cX7_doublePages 5 = .ok (.sipush 512, 3) := by decide +kernel
theorem dX7_doublePages_8 : decode cX7_doublePages 8 = .ok (.if_icmp .ge 122, 3) := by decide +kernel
theorem dX7_doublePages_11 : decode cX7_doublePages 11 = .ok (.aload_n 0, 1) := by decide +kernel
theorem dX7_doublePages_12 : decode cX7_doublePages 12 = .ok (.iload_n 2, 1) := by decide +kernel
theorem dX7_doublePages_13 : decode cX7_doublePages 13 = .ok (.bipush 16, 2) := by decide +kernel
theorem dX7_doublePages_15 : decode cX7_doublePages 15 = .ok (.idiv, 1) := by decide +kernel
theorem dX7_doublePages_16 : decode cX7_doublePages 16 = .ok (.invokevirtual 143, 3) := by decide +kernel
theorem dX7_doublePages_19 : decode cX7_doublePages 19 = .ok (.ifCond .eq 18, 3) := by decide +kernel
theorem dX7_doublePages_22 : decode cX7_doublePages 22 = .ok (.aload_n 0, 1) := by decide +kernel
theorem dX7_doublePages_23 : decode cX7_doublePages 23 = .ok (.iload_n 2, 1) := by decide +kernel
theorem dX7_doublePages_24 : decode cX7_doublePages 24 = .ok (.bipush 16, 2) := by decide +kernel
theorem dX7_doublePages_26 : decode cX7_doublePages 26 = .ok (.idiv, 1) := by decide +kernel
theorem dX7_doublePages_27 : decode cX7_doublePages 27 = .ok (.iload_n 2, 1) := by decide +kernel
theorem dX7_doublePages_28 : decode cX7_doublePages 28 = .ok (.bipush 16, 2) := by decide +kernel
theorem dX7_doublePages_30 : decode cX7_doublePages 30 = .ok (.irem, 1) := by decide +kernel
theorem dX7_doublePages_31 : decode cX7_doublePages 31 = .ok (.invokevirtual 82, 3) := by decide +kernel
theorem dX7_doublePages_34 : decode cX7_doublePages 34 = .ok (.goto 4, 3) := by decide +kernel
theorem dX7_doublePages_37 : decode cX7_doublePages 37 = .ok (.iconst (-1), 1) := by decide +kernel
theorem dX7_doublePages_38 : decode cX7_doublePages 38 = .ok (.istore_n 3, 1) := by decide +kernel
theorem dX7_doublePages_39 : decode cX7_doublePages 39 = .ok (.iconst 0, 1) := by decide +kernel
theorem dX7_doublePages_40 : decode cX7_doublePages 40 = .ok (.istore 4, 2) := by decide +kernel
theorem dX7_doublePages_42 : decode cX7_doublePages 42 = .ok (.iconst 0, 1) := by decide +kernel
theorem dX7_doublePages_43 : decode cX7_doublePages 43 = .ok (.istore 5, 2) := by decide +kernel
theorem dX7_doublePages_45 : decode cX7_doublePages 45 = .ok (.iload 5, 2) := by decide +kernel
theorem dX7_doublePages_47 : decode cX7_doublePages 47 = .ok (.iload_n 2, 1) := by decide +kernel
theorem dX7_doublePages_48 : decode cX7_doublePages 48 = .ok (.if_icmp .ge 56, 3) := by decide +kernel
theorem dX7_doublePages_51 : decode cX7_doublePages 51 = .ok (.iload_n 3, 1) := by decide +kernel
theorem dX7_doublePages_52 : decode cX7_doublePages 52 = .ok (.iconst (-1), 1) := by decide +kernel
theorem dX7_doublePages_53 : decode cX7_doublePages 53 = .ok (.if_icmp .eq 51, 3) := by decide +kernel
theorem dX7_doublePages_56 : decode cX7_doublePages 56 = .ok (.iload 4, 2) := by decide +kernel
theorem dX7_doublePages_58 : decode cX7_doublePages 58 = .ok (.ifCond .ne 33, 3) := by decide +kernel
theorem dX7_doublePages_61 : decode cX7_doublePages 61 = .ok (.aload_n 0, 1) := by decide +kernel
theorem dX7_doublePages_62 : decode cX7_doublePages 62 = .ok (.iload 5, 2) := by decide +kernel
theorem dX7_doublePages_64 : decode cX7_doublePages 64 = .ok (.bipush 16, 2) := by decide +kernel
theorem dX7_doublePages_66 : decode cX7_doublePages 66 = .ok (.idiv, 1) := by decide +kernel
theorem dX7_doublePages_67 : decode cX7_doublePages 67 = .ok (.invokevirtual 143, 3) := by decide +kernel
theorem dX7_doublePages_70 : decode cX7_doublePages 70 = .ok (.ifCond .eq 25, 3) := by decide +kernel
theorem dX7_doublePages_73 : decode cX7_doublePages 73 = .ok (.aload_n 0, 1) := by decide +kernel
theorem dX7_doublePages_74 : decode cX7_doublePages 74 = .ok (.iload 5, 2) := by decide +kernel
theorem dX7_doublePages_76 : decode cX7_doublePages 76 = .ok (.bipush 16, 2) := by decide +kernel
theorem dX7_doublePages_78 : decode cX7_doublePages 78 = .ok (.idiv, 1) := by decide +kernel
theorem dX7_doublePages_79 : decode cX7_doublePages 79 = .ok (.iload 5, 2) := by decide +kernel
theorem dX7_doublePages_81 : decode cX7_doublePages 81 = .ok (.bipush 16, 2) := by decide +kernel
theorem dX7_doublePages_83 : decode cX7_doublePages 83 = .ok (.irem, 1) := by decide +kernel
theorem dX7_doublePages_84 : decode cX7_doublePages 84 = .ok (.invokevirtual 82, 3) := by decide +kernel
theorem dX7_doublePages_87 : decode cX7_doublePages 87 = .ok (.iload_n 3, 1) := by decide +kernel
theorem dX7_doublePages_88 : decode cX7_doublePages 88 = .ok (.if_icmp .ne 7, 3) := by decide +kernel
theorem dX7_doublePages_91 : decode cX7_doublePages 91 = .ok (.iconst 1, 1) := by decide +kernel
theorem dX7_doublePages_92 : decode cX7_doublePages 92 = .ok (.goto 4, 3) := by decide +kernel
theorem dX7_doublePages_95 : decode cX7_doublePages 95 = .ok (.iconst 0, 1) := by decide +kernel
theorem dX7_doublePages_96 : decode cX7_doublePages 96 = .ok (.istore 4, 2) := by decide +kernel
theorem dX7_doublePages_98 : decode cX7_doublePages 98 = .ok (.iinc 5 1, 3) := by decide +kernel
theorem dX7_doublePages_101 : decode cX7_doublePages 101 = .ok (.goto (-56), 3) := by decide +kernel
theorem dX7_doublePages_104 : decode cX7_doublePages 104 = .ok (.iload 4, 2) := by decide +kernel
theorem dX7_doublePages_106 : decode cX7_doublePages 106 = .ok (.ifCond .eq 18, 3) := by decide +kernel
theorem dX7_doublePages_109 : decode cX7_doublePages 109 = .ok (.aload_n 0, 1) := by decide +kernel
theorem dX7_doublePages_110 : decode cX7_doublePages 110 = .ok (.iload_n 2, 1) := by decide +kernel
theorem dX7_doublePages_111 : decode cX7_doublePages 111 = .ok (.bipush 16, 2) := by decide +kernel
theorem dX7_doublePages_113 : decode cX7_doublePages 113 = .ok (.idiv, 1) := by decide +kernel
theorem dX7_doublePages_114 : decode cX7_doublePages 114 = .ok (.iload_n 2, 1) := by decide +kernel
theorem dX7_doublePages_115 : decode cX7_doublePages 115 = .ok (.bipush 16, 2) := by decide +kernel
theorem dX7_doublePages_117 : decode cX7_doublePages 117 = .ok (.irem, 1) := by decide +kernel
theorem dX7_doublePages_118 : decode cX7_doublePages 118 = .ok (.invokevirtual 94, 3) := by decide +kernel
theorem dX7_doublePages_121 : decode cX7_doublePages 121 = .ok (.iinc 1 1, 3) := by decide +kernel
theorem dX7_doublePages_124 : decode cX7_doublePages 124 = .ok (.iinc 2 1, 3) := by decide +kernel
theorem dX7_doublePages_127 : decode cX7_doublePages 127 = .ok (.goto (-123), 3) := by decide +kernel
theorem dX7_doublePages_130 : decode cX7_doublePages 130 = .ok (.iload_n 1, 1) := by decide +kernel
theorem dX7_doublePages_131 : decode cX7_doublePages 131 = .ok (.ireturn, 1) := by decide +kernel
def f_X7_doublePages (u0 : S1) : Option (Int32 × S1) := qj3 (fun (r4_1 : Int32 → Int32 → S1 → Option (Int32 × S1)) (y4_1_1 : Int32) (y4_1_2 : Int32) (u4_1_0 : S1) => if 512 ≤ y4_1_2 then some (y4_1_1, u4_1_0) else bn (f_X7_isThing u4_1_0 (y4_1_2 / 16)) (fun z_3 => jn (fun (v38_4_0 : Int32) => qj6 (fun (r45_5 : Int32 → Int32 → Int32 → Int32 → Int32 → S1 → Option (Int32 × S1)) (y45_5_1 : Int32) (y45_5_2 : Int32) (y45_5_3 : Int32) (y45_5_4 : Int32) (y45_5_5 : Int32) (u45_5_0 : S1) => jn (jn (fun (y124_7_1 : Int32) (u124_7_0 : S1) => r4_1 y124_7_1 (y45_5_2 + 1) u124_7_0) (fun k124_7 => if y45_5_4 = 0 then k124_7 y45_5_1 u45_5_0 else bn (f_X7_digs u45_5_0 (y45_5_2 / 16) (y45_5_2 - y45_5_2 / 16 * 16)) (fun z_9 => k124_7 (y45_5_1 + 1) z_9))) (fun k104_6 => if y45_5_2 ≤ y45_5_5 then k104_6 else if y45_5_3 = (-1) then k104_6 else jn (fun (v96_12_0 : Int32) => r45_5 y45_5_1 y45_5_2 y45_5_3 v96_12_0 (y45_5_5 + 1) u45_5_0) (fun k96_12 => jn (k96_12 1) (fun k91_13 => if y45_5_4 = 0 then bn (f_X7_isThing u45_5_0 (y45_5_5 / 16)) (fun z_15 => jn (k96_12 0) (fun k95_16 => if z_15 = 0 then k95_16 else bn (f_X7_blockOf u45_5_0 (y45_5_5 / 16) (y45_5_5 - y45_5_5 / 16 * 16)) (fun z_18 => if z_18 = y45_5_3 then k91_13 else k95_16))) else k91_13)))) (fun k45_5 => k45_5 y4_1_1 y4_1_2 v38_4_0 0 0 u4_1_0)) (fun k38_4 => if z_3 = 0 then k38_4 (-1) else bn (f_X7_blockOf u4_1_0 (y4_1_2 / 16) (y4_1_2 - y4_1_2 / 16 * 16)) (fun z_21 => k38_4 z_21)))) (fun k4_1 => k4_1 0 0 u0)
def rmX7_doublePages : Room := { frames := 3, cells := 0, slots := 0, locals := 65 }
set_option maxHeartbeats 4000000 in
set_option maxRecDepth 100000 in
theorem c_X7_doublePages (l : Launch) (D : va_G) (cI cZ cJ cT : ClassId) (a0 : Nat → Nat) (sz : Nat) (u0 : S1) (o : Int32 × S1) (hf : f_X7_doublePages u0 = some o) : Met l yX7_doublePages wsX7_doublePages rmX7_doublePages (va_Pc [.ref (a0 0)] (PW D cls (tys cI cZ cJ cT) ((wX7 cI cZ a0 u0)) sz)) (QWi D cls o.1 ((wX7 cI cZ a0 o.2)) (va_A ((wX7 cI cZ a0 u0)) sz)) 0 0 (va_A ((wX7 cI cZ a0 u0)) sz) := by
  refine Met.ofW (cc := cX7_doublePages) (maxL := 6) (ret := (some .int)) (by decide) rfl ?_
  intro p e s m args below meth c s₁ B hml hv
  obtain ⟨hav, hsz, hP, hK, hD0⟩ := hv
  have hx := B.exec
  have hb := B.bytes
  have hr := B.returns
  have hlocks := B.notSynchronized
  have hts := atoms_spec (ws := wsX7_doublePages) B.pre
  have hown : s.vm.findClass RX7 = some m.cls := findClass_of_methodNamed B.named
  subst hsz
  have hD := hD0.self (sz := s.heap.size)
  generalize hAe : va_A ((wX7 cI cZ a0 u0)) s.heap.size = A at hD ⊢
  have hA : ∀ q : Nat, s.heap.size ≤ q → A q := fun q h => by rw [← hAe]; exact Or.inr h
  have hS : va_S A s.heap s.heap [] := va_S.rf
  have hDD : ∀ w0 : S1, va_D A ((wX7 cI cZ a0 w0)) := fun _ => D_same (w := (wX7 cI cZ a0 u0)) rfl hD
  refine Wq (fun Q hQ => ?_)
  refine W_entry hav (Nat.le_of_ble_eq_true rfl) (fun ls hl => ?_)
  have hl : lv_has ls 6 [(0, .ref (a0 0))] := hl
  unfold f_X7_doublePages at hf
  refine W_heap hP hS (fun H locs hP hS => ?_)
  refine lv_iconst (v := 0) hx hb dX7_doublePages_0 (by decide) ?_
  refine lv_istore_n (lv' := [(1, .int 0), (0, .ref (a0 0))]) hx hb dX7_doublePages_1 rfl hl (by decide) rfl (fun ls hl => ?_)
  refine lv_iconst (v := 0) hx hb dX7_doublePages_2 (by decide) ?_
  refine lv_istore_n (lv' := [(2, .int 0), (1, .int 0), (0, .ref (a0 0))]) hx hb dX7_doublePages_3 rfl hl (by decide) rfl (fun ls hl => ?_)
  obtain ⟨G4_1, hG4_1, hf⟩ := qj3_some hf
  have j4_1 : ∀ (n : Nat) (y4_1_1 : Int32) (y4_1_2 : Int32) (u4_1_0 : S1) (H : Heap) (locs : List Loc) (ls : Array Slot), ql3 G4_1 n y4_1_1 y4_1_2 u4_1_0 = some o → va_P D cls (wX7 cI cZ a0 u4_1_0) H → va_S A s.heap H locs → lv_has ls 6 [(0, .ref (a0 0)), (1, .int y4_1_1), (2, .int y4_1_2)] → W p l e (headSpec wsX7_doublePages rmX7_doublePages).room s m args below meth c H locs 0 0 Q (F0 m 4 ls []) := by
    intro n
    induction n with
    | zero => intro y4_1_1 y4_1_2 u4_1_0 H locs ls hf hP hS hl; exact (ql3_z hf).elim
    | succ n ih4_1 =>
      intro y4_1_1 y4_1_2 u4_1_0 H locs ls hf hP hS hl
      have hf := ql3_s hG4_1 hf
      obtain ⟨r4_1, hr4_1⟩ : ∃ z, z = ql3 G4_1 n := ⟨_, rfl⟩
      rw [← hr4_1] at hf ih4_1
      refine lv_iload_n hx hb dX7_doublePages_4 rfl (lv_at hl 2 rfl) ?_
      refine lv_sipush (v := 512) hx hb dX7_doublePages_5 (by decide) ?_
      refine lv_icmp_ge (tgt := 130) hx hb dX7_doublePages_8 (by decide) (fun c_2 => ?_) (fun c_2 => ?_)
      · have hf := ite_t hf c_2
        refine lv_iload_n hx hb dX7_doublePages_130 rfl (lv_at hl 1 rfl) ?_
        have eo := Option.some.inj hf
        have hP : va_P D cls (wX7 cI cZ a0 o.2) H := by rw [← eo]; exact hP
        rw [hQ]
        exact W.iret hx hb hr (fun t ht hW => ⟨⟨_, (), rfl, congrArg Prod.fst eo, P_at ht hP⟩, hS.F ht⟩) hS.2.2 dX7_doublePages_131 hlocks
      · have hf := ite_f hf c_2
        refine lv_aload_n hx hb dX7_doublePages_11 rfl (lv_at hl 0 rfl) ?_
        refine lv_iload_n hx hb dX7_doublePages_12 rfl (lv_at hl 2 rfl) ?_
        refine lv_bipush (v := 16) hx hb dX7_doublePages_13 (by decide) ?_
        refine lv_idiv hx hb dX7_doublePages_15 (by decide) ?_
        obtain ⟨z_3, hz_3, hf⟩ := bn_some hf
        refine cRV (As := [.int (y4_1_2 / 16)]) (rest := []) ⟨hx, hb, hml, hown, hts⟩ (c_X7_isThing l D cI cZ cJ cT a0 u4_1_0 (y4_1_2 / 16) z_3 hz_3) (cwV 1 hts gX7_doublePages_X7_isThing rfl rfl rfl (by decide +kernel) ⟨Nat.le_of_ble_eq_true rfl, Nat.le_of_ble_eq_true rfl⟩) hP hK (va_recv hK hP (ci := 7) (q0 := 0) rfl rfl) rfl rfl hl.1 (Nat.le_of_ble_eq_true rfl) dX7_doublePages_16 ⟨Nat.le_of_ble_eq_true rfl, Nat.le_of_ble_eq_true rfl⟩ ?_
        obtain ⟨k38_4, hk38_4, hf⟩ := jn_some hf
        have j38_4 : ∀ (v38_4_0 : Int32) (H : Heap) (locs : List Loc) (ls : Array Slot), k38_4 v38_4_0 = some o → va_P D cls (wX7 cI cZ a0 u4_1_0) H → va_S A s.heap H locs → lv_has ls 6 [(0, .ref (a0 0)), (1, .int y4_1_1), (2, .int y4_1_2)] → W p l e (headSpec wsX7_doublePages rmX7_doublePages).room s m args below meth c H locs 0 0 Q (F0 m 38 ls [.int v38_4_0]) := by
          intro v38_4_0 H locs ls hf hP hS hl
          have hf := qa1 hk38_4 hf
          refine lv_istore_n (lv' := [(3, .int v38_4_0), (0, .ref (a0 0)), (1, .int y4_1_1), (2, .int y4_1_2)]) hx hb dX7_doublePages_38 rfl hl (by decide) rfl (fun ls hl => ?_)
          refine lv_iconst (v := 0) hx hb dX7_doublePages_39 (by decide) ?_
          refine lv_istore (lv' := [(4, .int 0), (3, .int v38_4_0), (0, .ref (a0 0)), (1, .int y4_1_1), (2, .int y4_1_2)]) hx hb dX7_doublePages_40 hl (by decide) rfl (fun ls hl => ?_)
          refine lv_iconst (v := 0) hx hb dX7_doublePages_42 (by decide) ?_
          refine lv_istore (lv' := [(5, .int 0), (4, .int 0), (3, .int v38_4_0), (0, .ref (a0 0)), (1, .int y4_1_1), (2, .int y4_1_2)]) hx hb dX7_doublePages_43 hl (by decide) rfl (fun ls hl => ?_)
          obtain ⟨G45_5, hG45_5, hf⟩ := qj6_some hf
          have j45_5 : ∀ (n : Nat) (y45_5_1 : Int32) (y45_5_2 : Int32) (y45_5_3 : Int32) (y45_5_4 : Int32) (y45_5_5 : Int32) (u45_5_0 : S1) (H : Heap) (locs : List Loc) (ls : Array Slot), ql6 G45_5 n y45_5_1 y45_5_2 y45_5_3 y45_5_4 y45_5_5 u45_5_0 = some o → va_P D cls (wX7 cI cZ a0 u45_5_0) H → va_S A s.heap H locs → lv_has ls 6 [(0, .ref (a0 0)), (1, .int y45_5_1), (2, .int y45_5_2), (3, .int y45_5_3), (4, .int y45_5_4), (5, .int y45_5_5)] → W p l e (headSpec wsX7_doublePages rmX7_doublePages).room s m args below meth c H locs 0 0 Q (F0 m 45 ls []) := by
            intro n
            induction n with
            | zero => intro y45_5_1 y45_5_2 y45_5_3 y45_5_4 y45_5_5 u45_5_0 H locs ls hf hP hS hl; exact (ql6_z hf).elim
            | succ n ih45_5 =>
              intro y45_5_1 y45_5_2 y45_5_3 y45_5_4 y45_5_5 u45_5_0 H locs ls hf hP hS hl
              have hf := ql6_s hG45_5 hf
              obtain ⟨r45_5, hr45_5⟩ : ∃ z, z = ql6 G45_5 n := ⟨_, rfl⟩
              rw [← hr45_5] at hf ih45_5
              refine lv_iload hx hb dX7_doublePages_45 (lv_at hl 5 rfl) ?_
              refine lv_iload_n hx hb dX7_doublePages_47 rfl (lv_at hl 2 rfl) ?_
              obtain ⟨k104_6, hk104_6, hf⟩ := jn_some hf
              have j104_6 : ∀ (H : Heap) (locs : List Loc) (ls : Array Slot), k104_6 = some o → va_P D cls (wX7 cI cZ a0 u45_5_0) H → va_S A s.heap H locs → lv_has ls 6 [(0, .ref (a0 0)), (1, .int y45_5_1), (2, .int y45_5_2), (4, .int y45_5_4)] → W p l e (headSpec wsX7_doublePages rmX7_doublePages).room s m args below meth c H locs 0 0 Q (F0 m 104 ls []) := by
                intro H locs ls hf hP hS hl
                have hf := qa0 hk104_6 hf
                refine lv_iload hx hb dX7_doublePages_104 (lv_at hl 3 rfl) ?_
                obtain ⟨k124_7, hk124_7, hf⟩ := jn_some hf
                have j124_7 : ∀ (y124_7_1 : Int32) (u124_7_0 : S1) (H : Heap) (locs : List Loc) (ls : Array Slot), k124_7 y124_7_1 u124_7_0 = some o → va_P D cls (wX7 cI cZ a0 u124_7_0) H → va_S A s.heap H locs → lv_has ls 6 [(0, .ref (a0 0)), (1, .int y124_7_1), (2, .int y45_5_2)] → W p l e (headSpec wsX7_doublePages rmX7_doublePages).room s m args below meth c H locs 0 0 Q (F0 m 124 ls []) := by
                  intro y124_7_1 u124_7_0 H locs ls hf hP hS hl
                  have hf := qa2 hk124_7 hf
                  refine lv_iinc (v := y45_5_2 + 1) (lv' := [(2, .int (y45_5_2 + 1)), (0, .ref (a0 0)), (1, .int y124_7_1)]) hx hb dX7_doublePages_124 hl (k := 2) rfl rfl (by decide) rfl (fun ls hl => ?_)
                  refine lv_goto (tgt := 4) hx hb dX7_doublePages_127 (by decide) ?_
                  exact ih4_1 _ _ _ _ _ _ hf hP hS (lv_sub hl [1, 2, 0] rfl)
                refine lv_if_eq (tgt := 124) hx hb dX7_doublePages_106 (by decide) (fun c_8 => ?_) (fun c_8 => ?_)
                · have hf := ite_t hf c_8
                  exact j124_7 _ _ _ _ _ hf hP hS (lv_sub hl [0, 1, 2] rfl)
                · have hf := ite_f hf c_8
                  refine lv_aload_n hx hb dX7_doublePages_109 rfl (lv_at hl 0 rfl) ?_
                  refine lv_iload_n hx hb dX7_doublePages_110 rfl (lv_at hl 2 rfl) ?_
                  refine lv_bipush (v := 16) hx hb dX7_doublePages_111 (by decide) ?_
                  refine lv_idiv hx hb dX7_doublePages_113 (by decide) ?_
                  refine lv_iload_n hx hb dX7_doublePages_114 rfl (lv_at hl 2 rfl) ?_
                  refine lv_bipush (v := 16) hx hb dX7_doublePages_115 (by decide) ?_
                  refine lv_irem hx hb dX7_doublePages_117 (by decide) ?_
                  obtain ⟨z_9, hz_9, hf⟩ := bn_some hf
                  refine cWVv (As := [.int (y45_5_2 / 16), .int (y45_5_2 - y45_5_2 / 16 * 16)]) (rest := []) ⟨hx, hb, hml, hown, hts⟩ (c_X7_digs l D cI cZ cJ cT a0 H.size u45_5_0 (y45_5_2 / 16) (y45_5_2 - y45_5_2 / 16 * 16) z_9 hz_9) (cwV 2 hts gX7_doublePages_X7_digs rfl rfl rfl (by decide +kernel) ⟨Nat.le_of_ble_eq_true rfl, Nat.le_of_ble_eq_true rfl⟩) hP hK (hDD u45_5_0) hS (own_free (hDD u45_5_0) hS hA) (va_recv hK hP (ci := 7) (q0 := 0) rfl rfl) rfl rfl hl.1 (Nat.le_of_ble_eq_true rfl) dX7_doublePages_118 ⟨Nat.le_of_ble_eq_true rfl, Nat.le_of_ble_eq_true rfl⟩ (fun H1 locs hP1 hk1 hS => ?_)
                  have hP : va_P D cls (wX7 cI cZ a0 z_9) H1 := hP1
                  clear hP1 hk1
                  generalize H1 = H at hP hS ⊢
                  refine lv_iinc (v := y45_5_1 + 1) (lv' := [(1, .int (y45_5_1 + 1)), (0, .ref (a0 0)), (2, .int y45_5_2), (4, .int y45_5_4)]) hx hb dX7_doublePages_121 hl (k := 1) rfl rfl (by decide) rfl (fun ls hl => ?_)
                  exact j124_7 _ _ _ _ _ hf hP hS (lv_sub hl [1, 0, 2] rfl)
              refine lv_icmp_ge (tgt := 104) hx hb dX7_doublePages_48 (by decide) (fun c_10 => ?_) (fun c_10 => ?_)
              · have hf := ite_t hf c_10
                exact j104_6 _ _ _ hf hP hS (lv_sub hl [0, 1, 2, 4] rfl)
              · have hf := ite_f hf c_10
                refine lv_iload_n hx hb dX7_doublePages_51 rfl (lv_at hl 3 rfl) ?_
                refine lv_iconst (v := (-1)) hx hb dX7_doublePages_52 (by decide) ?_
                refine lv_icmp_eq (tgt := 104) hx hb dX7_doublePages_53 (by decide) (fun c_11 => ?_) (fun c_11 => ?_)
                · have hf := ite_t hf c_11
                  exact j104_6 _ _ _ hf hP hS (lv_sub hl [0, 1, 2, 4] rfl)
                · have hf := ite_f hf c_11
                  refine lv_iload hx hb dX7_doublePages_56 (lv_at hl 4 rfl) ?_
                  obtain ⟨k96_12, hk96_12, hf⟩ := jn_some hf
                  have j96_12 : ∀ (v96_12_0 : Int32) (H : Heap) (locs : List Loc) (ls : Array Slot), k96_12 v96_12_0 = some o → va_P D cls (wX7 cI cZ a0 u45_5_0) H → va_S A s.heap H locs → lv_has ls 6 [(0, .ref (a0 0)), (1, .int y45_5_1), (2, .int y45_5_2), (3, .int y45_5_3), (5, .int y45_5_5)] → W p l e (headSpec wsX7_doublePages rmX7_doublePages).room s m args below meth c H locs 0 0 Q (F0 m 96 ls [.int v96_12_0]) := by
                    intro v96_12_0 H locs ls hf hP hS hl
                    have hf := qa1 hk96_12 hf
                    refine lv_istore (lv' := [(4, .int v96_12_0), (0, .ref (a0 0)), (1, .int y45_5_1), (2, .int y45_5_2), (3, .int y45_5_3), (5, .int y45_5_5)]) hx hb dX7_doublePages_96 hl (by decide) rfl (fun ls hl => ?_)
                    refine lv_iinc (v := y45_5_5 + 1) (lv' := [(5, .int (y45_5_5 + 1)), (4, .int v96_12_0), (0, .ref (a0 0)), (1, .int y45_5_1), (2, .int y45_5_2), (3, .int y45_5_3)]) hx hb dX7_doublePages_98 hl (k := 5) rfl rfl (by decide) rfl (fun ls hl => ?_)
                    refine lv_goto (tgt := 45) hx hb dX7_doublePages_101 (by decide) ?_
                    exact ih45_5 _ _ _ _ _ _ _ _ _ hf hP hS (lv_sub hl [2, 3, 4, 5, 1, 0] rfl)
                  obtain ⟨k91_13, hk91_13, hf⟩ := jn_some hf
                  have j91_13 : ∀ (H : Heap) (locs : List Loc) (ls : Array Slot), k91_13 = some o → va_P D cls (wX7 cI cZ a0 u45_5_0) H → va_S A s.heap H locs → lv_has ls 6 [(0, .ref (a0 0)), (1, .int y45_5_1), (2, .int y45_5_2), (3, .int y45_5_3), (5, .int y45_5_5)] → W p l e (headSpec wsX7_doublePages rmX7_doublePages).room s m args below meth c H locs 0 0 Q (F0 m 91 ls []) := by
                    intro H locs ls hf hP hS hl
                    have hf := qa0 hk91_13 hf
                    refine lv_iconst (v := 1) hx hb dX7_doublePages_91 (by decide) ?_
                    refine lv_goto (tgt := 96) hx hb dX7_doublePages_92 (by decide) ?_
                    exact j96_12 _ _ _ _ hf hP hS (lv_sub hl [0, 1, 2, 3, 4] rfl)
                  refine lv_if_ne (tgt := 91) hx hb dX7_doublePages_58 (by decide) (fun c_14 => ?_) (fun c_14 => ?_)
                  · have hf := ite_f hf c_14
                    exact j91_13 _ _ _ hf hP hS (lv_sub hl [0, 1, 2, 3, 5] rfl)
                  · have hf := ite_t hf c_14
                    refine lv_aload_n hx hb dX7_doublePages_61 rfl (lv_at hl 0 rfl) ?_
                    refine lv_iload hx hb dX7_doublePages_62 (lv_at hl 5 rfl) ?_
                    refine lv_bipush (v := 16) hx hb dX7_doublePages_64 (by decide) ?_
                    refine lv_idiv hx hb dX7_doublePages_66 (by decide) ?_
                    obtain ⟨z_15, hz_15, hf⟩ := bn_some hf
                    refine cRV (As := [.int (y45_5_5 / 16)]) (rest := []) ⟨hx, hb, hml, hown, hts⟩ (c_X7_isThing l D cI cZ cJ cT a0 u45_5_0 (y45_5_5 / 16) z_15 hz_15) (cwV 1 hts gX7_doublePages_X7_isThing rfl rfl rfl (by decide +kernel) ⟨Nat.le_of_ble_eq_true rfl, Nat.le_of_ble_eq_true rfl⟩) hP hK (va_recv hK hP (ci := 7) (q0 := 0) rfl rfl) rfl rfl hl.1 (Nat.le_of_ble_eq_true rfl) dX7_doublePages_67 ⟨Nat.le_of_ble_eq_true rfl, Nat.le_of_ble_eq_true rfl⟩ ?_
                    obtain ⟨k95_16, hk95_16, hf⟩ := jn_some hf
                    have j95_16 : ∀ (H : Heap) (locs : List Loc) (ls : Array Slot), k95_16 = some o → va_P D cls (wX7 cI cZ a0 u45_5_0) H → va_S A s.heap H locs → lv_has ls 6 [(0, .ref (a0 0)), (1, .int y45_5_1), (2, .int y45_5_2), (3, .int y45_5_3), (5, .int y45_5_5)] → W p l e (headSpec wsX7_doublePages rmX7_doublePages).room s m args below meth c H locs 0 0 Q (F0 m 95 ls []) := by
                      intro H locs ls hf hP hS hl
                      have hf := qa0 hk95_16 hf
                      refine lv_iconst (v := 0) hx hb dX7_doublePages_95 (by decide) ?_
                      exact j96_12 _ _ _ _ hf hP hS (lv_sub hl [0, 1, 2, 3, 4] rfl)
                    refine lv_if_eq (tgt := 95) hx hb dX7_doublePages_70 (by decide) (fun c_17 => ?_) (fun c_17 => ?_)
                    · have hf := ite_t hf c_17
                      exact j95_16 _ _ _ hf hP hS (lv_sub hl [0, 1, 2, 3, 5] rfl)
                    · have hf := ite_f hf c_17
                      refine lv_aload_n hx hb dX7_doublePages_73 rfl (lv_at hl 0 rfl) ?_
                      refine lv_iload hx hb dX7_doublePages_74 (lv_at hl 5 rfl) ?_
                      refine lv_bipush (v := 16) hx hb dX7_doublePages_76 (by decide) ?_
                      refine lv_idiv hx hb dX7_doublePages_78 (by decide) ?_
                      refine lv_iload hx hb dX7_doublePages_79 (lv_at hl 5 rfl) ?_
                      refine lv_bipush (v := 16) hx hb dX7_doublePages_81 (by decide) ?_
                      refine lv_irem hx hb dX7_doublePages_83 (by decide) ?_
                      obtain ⟨z_18, hz_18, hf⟩ := bn_some hf
                      refine cRV (As := [.int (y45_5_5 / 16), .int (y45_5_5 - y45_5_5 / 16 * 16)]) (rest := []) ⟨hx, hb, hml, hown, hts⟩ (c_X7_blockOf l D cI cZ cJ cT a0 u45_5_0 (y45_5_5 / 16) (y45_5_5 - y45_5_5 / 16 * 16) z_18 hz_18) (cwV 2 hts gX7_doublePages_X7_blockOf rfl rfl rfl (by decide +kernel) ⟨Nat.le_of_ble_eq_true rfl, Nat.le_of_ble_eq_true rfl⟩) hP hK (va_recv hK hP (ci := 7) (q0 := 0) rfl rfl) rfl rfl hl.1 (Nat.le_of_ble_eq_true rfl) dX7_doublePages_84 ⟨Nat.le_of_ble_eq_true rfl, Nat.le_of_ble_eq_true rfl⟩ ?_
                      refine lv_iload_n hx hb dX7_doublePages_87 rfl (lv_at hl 3 rfl) ?_
                      refine lv_icmp_ne (tgt := 95) hx hb dX7_doublePages_88 (by decide) (fun c_19 => ?_) (fun c_19 => ?_)
                      · have hf := ite_f hf c_19
                        exact j95_16 _ _ _ hf hP hS (lv_sub hl [0, 1, 2, 3, 5] rfl)
                      · have hf := ite_t hf c_19
                        exact j91_13 _ _ _ hf hP hS (lv_sub hl [0, 1, 2, 3, 5] rfl)
          exact j45_5 4096 _ _ _ _ _ _ _ _ _ hf hP hS (lv_sub hl [3, 4, 5, 2, 1, 0] rfl)
        refine lv_if_eq (tgt := 37) hx hb dX7_doublePages_19 (by decide) (fun c_20 => ?_) (fun c_20 => ?_)
        · have hf := ite_t hf c_20
          refine lv_iconst (v := (-1)) hx hb dX7_doublePages_37 (by decide) ?_
          exact j38_4 _ _ _ _ hf hP hS (lv_sub hl [0, 1, 2] rfl)
        · have hf := ite_f hf c_20
          refine lv_aload_n hx hb dX7_doublePages_22 rfl (lv_at hl 0 rfl) ?_
          refine lv_iload_n hx hb dX7_doublePages_23 rfl (lv_at hl 2 rfl) ?_
          refine lv_bipush (v := 16) hx hb dX7_doublePages_24 (by decide) ?_
          refine lv_idiv hx hb dX7_doublePages_26 (by decide) ?_
          refine lv_iload_n hx hb dX7_doublePages_27 rfl (lv_at hl 2 rfl) ?_
          refine lv_bipush (v := 16) hx hb dX7_doublePages_28 (by decide) ?_
          refine lv_irem hx hb dX7_doublePages_30 (by decide) ?_
          obtain ⟨z_21, hz_21, hf⟩ := bn_some hf
          refine cRV (As := [.int (y4_1_2 / 16), .int (y4_1_2 - y4_1_2 / 16 * 16)]) (rest := []) ⟨hx, hb, hml, hown, hts⟩ (c_X7_blockOf l D cI cZ cJ cT a0 u4_1_0 (y4_1_2 / 16) (y4_1_2 - y4_1_2 / 16 * 16) z_21 hz_21) (cwV 2 hts gX7_doublePages_X7_blockOf rfl rfl rfl (by decide +kernel) ⟨Nat.le_of_ble_eq_true rfl, Nat.le_of_ble_eq_true rfl⟩) hP hK (va_recv hK hP (ci := 7) (q0 := 0) rfl rfl) rfl rfl hl.1 (Nat.le_of_ble_eq_true rfl) dX7_doublePages_31 ⟨Nat.le_of_ble_eq_true rfl, Nat.le_of_ble_eq_true rfl⟩ ?_
          refine lv_goto (tgt := 38) hx hb dX7_doublePages_34 (by decide) ?_
          exact j38_4 _ _ _ _ hf hP hS (lv_sub hl [0, 1, 2] rfl)
  exact j4_1 4096 _ _ _ _ _ _ hf hP hS (lv_sub hl [2, 1, 0] rfl)
set_option maxRecDepth 20000 in
theorem ggX7_namesOf_X7_at : GoodIn wsX7_namesOf wsX7_at := goodIn_r _ [9] (by decide +kernel) (by decide +kernel)
set_option maxRecDepth 20000 in
theorem gX7_namesOf_X7_at : GoodIn wsX7_namesOf (va_wsS RX7 67 yX7_at wsX7_at) := goodIn_app (goodIn_of _ (by decide +kernel)) ggX7_namesOf_X7_at
set_option maxRecDepth 20000 in
theorem ggX7_namesOf_X7_entries : GoodIn wsX7_namesOf wsX7_entries := goodIn_r _ [13, 1, 7, 8, 5, 9, 14, 15, 16, 17, 18, 19, 20, 21, 22, 23, 24, 25, 26, 27, 28, 29, 30, 31, 32] (by decide +kernel) (by decide +kernel)
set_option maxRecDepth 20000 in
theorem gX7_namesOf_X7_entries : GoodIn wsX7_namesOf (wsV RX7 109 RX7 yX7_entries wsX7_entries) := goodIn_app (goodIn_of _ (by decide +kernel)) ggX7_namesOf_X7_entries
set_option maxRecDepth 20000 in
theorem ggX7_namesOf_X7_kindOf : GoodIn wsX7_namesOf wsX7_kindOf := goodIn_r _ [6, 1, 7, 8, 5, 9, 14, 15, 16, 17, 18, 19, 20, 21, 22, 23, 24, 25, 26, 27, 28, 29, 30, 31, 32] (by decide +kernel) (by decide +kernel)
set_option maxRecDepth 20000 in
theorem gX7_namesOf_X7_kindOf : GoodIn wsX7_namesOf (wsV RX7 131 RX7 yX7_kindOf wsX7_kindOf) := goodIn_app (goodIn_of _ (by decide +kernel)) ggX7_namesOf_X7_kindOf
theorem dX7_namesOf_0 : decode cX7_namesOf 0 = .ok (.iconst 0, 1) := by decide +kernel
theorem dX7_namesOf_1 : decode cX7_namesOf 1 = .ok (.istore_n 2, 1) := by decide +kernel
theorem dX7_namesOf_2 : decode cX7_namesOf 2 = .ok (.iconst 0, 1) := by decide +kernel
theorem dX7_namesOf_3 : decode cX7_namesOf 3 = .ok (.istore_n 3, 1) := by decide +kernel
theorem dX7_namesOf_4 : decode cX7_namesOf 4 = .ok (.iload_n 3, 1) := by decide +kernel
theorem dX7_namesOf_5 : decode cX7_namesOf 5 = .ok (.bipush 32, 2) := by decide +kernel
theorem dX7_namesOf_7 : decode cX7_namesOf 7 = .ok (.if_icmp .ge 66, 3) := by decide +kernel
theorem dX7_namesOf_10 : decode cX7_namesOf 10 = .ok (.iconst 0, 1) := by decide +kernel
theorem dX7_namesOf_11 : decode cX7_namesOf 11 = .ok (.istore 4, 2) := by decide +kernel
theorem dX7_namesOf_13 : decode cX7_namesOf 13 = .ok (.aload_n 0, 1) := by decide +kernel
theorem dX7_namesOf_14 : decode cX7_namesOf 14 = .ok (.iload_n 3, 1) := by decide +kernel
theorem dX7_namesOf_15 : decode cX7_namesOf 15 = .ok (.invokevirtual 131, 3) := by decide +kernel
theorem dX7_namesOf_18 : decode cX7_namesOf 18 = .ok (.iconst 1, 1) := by decide +kernel
theorem dX7_namesOf_19 : decode cX7_namesOf 19 = .ok (.if_icmp .ne 48, 3) := by decide +kernel
theorem dX7_namesOf_22 : decode cX7_namesOf 22 = .ok (.iload 4, 2) := by decide +kernel
theorem dX7_namesOf_24 : decode cX7_namesOf 24 = .ok (.aload_n 0, 1) := by decide +kernel
theorem dX7_namesOf_25 : decode cX7_namesOf 25 = .ok (.iconst 0, 1) := by decide +kernel
theorem dX7_namesOf_26 : decode cX7_namesOf 26 = .ok (.iload_n 3, 1) := by decide +kernel
theorem dX7_namesOf_27 : decode cX7_namesOf 27 = .ok (.invokevirtual 109, 3) := by decide +kernel
theorem dX7_namesOf_30 : decode cX7_namesOf 30 = .ok (.if_icmp .ge 37, 3) := by decide +kernel
theorem dX7_namesOf_33 : decode cX7_namesOf 33 = .ok (.iload_n 2, 1) := by decide +kernel
theorem dX7_namesOf_34 : decode cX7_namesOf 34 = .ok (.aload_n 0, 1) := by decide +kernel
theorem dX7_namesOf_35 : decode cX7_namesOf 35 = .ok (.getfield 7, 3) := by decide +kernel
theorem dX7_namesOf_38 : decode cX7_namesOf 38 = .ok (.iconst 0, 1) := by decide +kernel
theorem dX7_namesOf_39 : decode cX7_namesOf 39 = .ok (.iload_n 3, 1) := by decide +kernel
theorem dX7_namesOf_40 : decode cX7_namesOf 40 = .ok (.invokestatic 67, 3) := by decide +kernel
theorem dX7_namesOf_43 : decode cX7_namesOf 43 = .ok (.bipush 13, 2) := by decide +kernel
theorem dX7_namesOf_45 : decode cX7_namesOf 45 = .ok (.iadd, 1) := by decide +kernel
theorem dX7_namesOf_46 : decode cX7_namesOf 46 = .ok (.iload 4, 2) := by decide +kernel
theorem dX7_namesOf_48 : decode cX7_namesOf 48 = .ok (.iadd, 1) := by decide +kernel
theorem dX7_namesOf_49 : decode cX7_namesOf 49 = .ok (.iaload, 1) := by decide +kernel
theorem dX7_namesOf_50 : decode cX7_namesOf 50 = .ok (.iload_n 1, 1) := by decide +kernel
theorem dX7_namesOf_51 : decode cX7_namesOf 51 = .ok (.if_icmp .ne 7, 3) := by decide +kernel
theorem dX7_namesOf_54 : decode cX7_namesOf 54 = .ok (.iconst 1, 1) := by decide +kernel
theorem dX7_namesOf_55 : decode cX7_namesOf 55 = .ok (.goto 4, 3) := by decide +kernel
theorem dX7_namesOf_58 : decode cX7_namesOf 58 = .ok (.iconst 0, 1) := by decide +kernel
theorem dX7_namesOf_59 : decode cX7_namesOf 59 = .ok (.iadd, 1) := by decide +kernel
theorem dX7_namesOf_60 : decode cX7_namesOf 60 = .ok (.istore_n 2, 1) := by decide +kernel
theorem dX7_namesOf_61 : decode cX7_namesOf 61 = .ok (.iinc 4 1, 3) := by decide +kernel
theorem dX7_namesOf_64 : decode cX7_namesOf 64 = .ok (.goto (-51), 3) := by decide +kernel
theorem dX7_namesOf_67 : decode cX7_namesOf 67 = .ok (.iinc 3 1, 3) := by decide +kernel
theorem dX7_namesOf_70 : decode cX7_namesOf 70 = .ok (.goto (-66), 3) := by decide +kernel
theorem dX7_namesOf_73 : decode cX7_namesOf 73 = .ok (.iload_n 2, 1) := by decide +kernel
theorem dX7_namesOf_74 : decode cX7_namesOf 74 = .ok (.ireturn, 1) := by decide +kernel
def f_X7_namesOf (u0 : S1) (p1 : Int32) : Option (Int32) := qj2 (fun (r4_1 : Int32 → Int32 → Option (Int32)) (y4_1_2 : Int32) (y4_1_3 : Int32) => if 32 ≤ y4_1_3 then some y4_1_2 else qj3 (fun (r13_3 : Int32 → Int32 → Int32 → Option (Int32)) (y13_3_2 : Int32) (y13_3_3 : Int32) (y13_3_4 : Int32) => bn (f_X7_kindOf u0 y13_3_3) (fun z_4 => jn (r4_1 y13_3_2 (y13_3_3 + 1)) (fun k67_5 => if z_4 = 1 then bn (f_X7_entries u0 0 y13_3_3) (fun z_7 => if z_7 ≤ y13_3_4 then k67_5 else bn (f_X7_at 0 y13_3_3) (fun z_9 => chk (inb ((z_9 + 13) + y13_3_4) 8480) (jn (fun (v59_10_0 : Int32) => r13_3 (y13_3_2 + v59_10_0) y13_3_3 (y13_3_4 + 1)) (fun k59_10 => if (u0 0 ((z_9 + 13) + y13_3_4).toNatClampNeg) = p1 then k59_10 1 else k59_10 0)))) else k67_5))) (fun k13_3 => k13_3 y4_1_2 y4_1_3 0)) (fun k4_1 => k4_1 0 0)
def rmX7_namesOf : Room := { frames := 2, cells := 0, slots := 0, locals := 44 }
set_option maxHeartbeats 4000000 in
set_option maxRecDepth 100000 in
theorem c_X7_namesOf (l : Launch) (D : va_G) (cI cZ cJ cT : ClassId) (a0 : Nat → Nat) (u0 : S1) (p1 : Int32) (o : Int32) (hf : f_X7_namesOf u0 p1 = some o) : Met l yX7_namesOf wsX7_namesOf rmX7_namesOf (va_Pc [.ref (a0 0), .int p1] (PR D cls (tys cI cZ cJ cT) ((wX7 cI cZ a0 u0)))) (QR o) 0 0 (fun _ => False) := by
  refine Met.ofW (cc := cX7_namesOf) (maxL := 5) (ret := (some .int)) (by decide) rfl ?_
  intro p e s m args below meth c s₁ B hml hv
  obtain ⟨hav, hP, hK⟩ := hv
  have hx := B.exec
  have hb := B.bytes
  have hr := B.returns
  have hlocks := B.notSynchronized
  have hts := atoms_spec (ws := wsX7_namesOf) B.pre
  have hown : s.vm.findClass RX7 = some m.cls := findClass_of_methodNamed B.named
  have i7 : ∀ w ∈ wsX70, w ∈ wsX7_namesOf := fun w h => List.mem_cons_of_mem _ (List.mem_append_right _ h)
  have hk7 := hts (.fieldLink RX7 7 "InoderyModel" "s" "[I") (by decide +kernel)
  refine Wq (fun Q hQ => ?_)
  refine W_entry hav (Nat.le_of_ble_eq_true rfl) (fun ls hl => ?_)
  have hl : lv_has ls 5 [(0, .ref (a0 0)), (1, .int p1)] := hl
  unfold f_X7_namesOf at hf
  refine lv_iconst (v := 0) hx hb dX7_namesOf_0 (by decide) ?_
  refine lv_istore_n (lv' := [(2, .int 0), (0, .ref (a0 0)), (1, .int p1)]) hx hb dX7_namesOf_1 rfl hl (by decide) rfl (fun ls hl => ?_)
  refine lv_iconst (v := 0) hx hb dX7_namesOf_2 (by decide) ?_
  refine lv_istore_n (lv' := [(3, .int 0), (2, .int 0), (0, .ref (a0 0)), (1, .int p1)]) hx hb dX7_namesOf_3 rfl hl (by decide) rfl (fun ls hl => ?_)
  obtain ⟨G4_1, hG4_1, hf⟩ := qj2_some hf
  have j4_1 : ∀ (n : Nat) (y4_1_2 : Int32) (y4_1_3 : Int32) (ls : Array Slot), ql2 G4_1 n y4_1_2 y4_1_3 = some o → lv_has ls 5 [(0, .ref (a0 0)), (1, .int p1), (2, .int y4_1_2), (3, .int y4_1_3)] → W p l e (headSpec wsX7_namesOf rmX7_namesOf).room s m args below meth c s.heap [] 0 0 Q (F0 m 4 ls []) := by
    intro n
    induction n with
    | zero => intro y4_1_2 y4_1_3 ls hf hl; exact (ql2_z hf).elim
    | succ n ih4_1 =>
      intro y4_1_2 y4_1_3 ls hf hl
      have hf := ql2_s hG4_1 hf
      obtain ⟨r4_1, hr4_1⟩ : ∃ z, z = ql2 G4_1 n := ⟨_, rfl⟩
      rw [← hr4_1] at hf ih4_1
      refine lv_iload_n hx hb dX7_namesOf_4 rfl (lv_at hl 3 rfl) ?_
      refine lv_bipush (v := 32) hx hb dX7_namesOf_5 (by decide) ?_
      refine lv_icmp_ge (tgt := 73) hx hb dX7_namesOf_7 (by decide) (fun c_2 => ?_) (fun c_2 => ?_)
      · have hf := ite_t hf c_2
        refine lv_iload_n hx hb dX7_namesOf_73 rfl (lv_at hl 2 rfl) ?_
        rw [hQ]
        exact W.iret hx hb hr (fun t ht hW => ⟨_, rfl, Option.some.inj hf, ht⟩) (fun _ h => nomatch h) dX7_namesOf_74 hlocks
      · have hf := ite_f hf c_2
        refine lv_iconst (v := 0) hx hb dX7_namesOf_10 (by decide) ?_
        refine lv_istore (lv' := [(4, .int 0), (0, .ref (a0 0)), (1, .int p1), (2, .int y4_1_2), (3, .int y4_1_3)]) hx hb dX7_namesOf_11 hl (by decide) rfl (fun ls hl => ?_)
        obtain ⟨G13_3, hG13_3, hf⟩ := qj3_some hf
        have j13_3 : ∀ (n : Nat) (y13_3_2 : Int32) (y13_3_3 : Int32) (y13_3_4 : Int32) (ls : Array Slot), ql3 G13_3 n y13_3_2 y13_3_3 y13_3_4 = some o → lv_has ls 5 [(0, .ref (a0 0)), (1, .int p1), (2, .int y13_3_2), (3, .int y13_3_3), (4, .int y13_3_4)] → W p l e (headSpec wsX7_namesOf rmX7_namesOf).room s m args below meth c s.heap [] 0 0 Q (F0 m 13 ls []) := by
          intro n
          induction n with
          | zero => intro y13_3_2 y13_3_3 y13_3_4 ls hf hl; exact (ql3_z hf).elim
          | succ n ih13_3 =>
            intro y13_3_2 y13_3_3 y13_3_4 ls hf hl
            have hf := ql3_s hG13_3 hf
            obtain ⟨r13_3, hr13_3⟩ : ∃ z, z = ql3 G13_3 n := ⟨_, rfl⟩
            rw [← hr13_3] at hf ih13_3
            refine lv_aload_n hx hb dX7_namesOf_13 rfl (lv_at hl 0 rfl) ?_
            refine lv_iload_n hx hb dX7_namesOf_14 rfl (lv_at hl 3 rfl) ?_
            obtain ⟨z_4, hz_4, hf⟩ := bn_some hf
            refine cRV (As := [.int y13_3_3]) (rest := []) ⟨hx, hb, hml, hown, hts⟩ (c_X7_kindOf l D cI cZ cJ cT a0 u0 y13_3_3 z_4 hz_4) (cwV 1 hts gX7_namesOf_X7_kindOf rfl rfl rfl (by decide +kernel) ⟨Nat.le_of_ble_eq_true rfl, Nat.le_of_ble_eq_true rfl⟩) hP hK (va_recv hK hP (ci := 7) (q0 := 0) rfl rfl) rfl rfl hl.1 (Nat.le_of_ble_eq_true rfl) dX7_namesOf_15 ⟨Nat.le_of_ble_eq_true rfl, Nat.le_of_ble_eq_true rfl⟩ ?_
            refine lv_iconst (v := 1) hx hb dX7_namesOf_18 (by decide) ?_
            obtain ⟨k67_5, hk67_5, hf⟩ := jn_some hf
            have j67_5 : ∀ (ls : Array Slot), k67_5 = some o → lv_has ls 5 [(0, .ref (a0 0)), (1, .int p1), (2, .int y13_3_2), (3, .int y13_3_3)] → W p l e (headSpec wsX7_namesOf rmX7_namesOf).room s m args below meth c s.heap [] 0 0 Q (F0 m 67 ls []) := by
              intro ls hf hl
              have hf := qa0 hk67_5 hf
              refine lv_iinc (v := y13_3_3 + 1) (lv' := [(3, .int (y13_3_3 + 1)), (0, .ref (a0 0)), (1, .int p1), (2, .int y13_3_2)]) hx hb dX7_namesOf_67 hl (k := 3) rfl rfl (by decide) rfl (fun ls hl => ?_)
              refine lv_goto (tgt := 4) hx hb dX7_namesOf_70 (by decide) ?_
              exact ih4_1 _ _ _ hf (lv_sub hl [1, 2, 3, 0] rfl)
            refine lv_icmp_ne (tgt := 67) hx hb dX7_namesOf_19 (by decide) (fun c_6 => ?_) (fun c_6 => ?_)
            · have hf := ite_f hf c_6
              exact j67_5 _ hf (lv_sub hl [0, 1, 2, 3] rfl)
            · have hf := ite_t hf c_6
              refine lv_iload hx hb dX7_namesOf_22 (lv_at hl 4 rfl) ?_
              refine lv_aload_n hx hb dX7_namesOf_24 rfl (lv_at hl 0 rfl) ?_
              refine lv_iconst (v := 0) hx hb dX7_namesOf_25 (by decide) ?_
              refine lv_iload_n hx hb dX7_namesOf_26 rfl (lv_at hl 3 rfl) ?_
              obtain ⟨z_7, hz_7, hf⟩ := bn_some hf
              refine cRV (As := [.int 0, .int y13_3_3]) (rest := [.int y13_3_4]) ⟨hx, hb, hml, hown, hts⟩ (c_X7_entries l D cI cZ cJ cT a0 u0 0 y13_3_3 z_7 hz_7) (cwV 2 hts gX7_namesOf_X7_entries rfl rfl rfl (by decide +kernel) ⟨Nat.le_of_ble_eq_true rfl, Nat.le_of_ble_eq_true rfl⟩) hP hK (va_recv hK hP (ci := 7) (q0 := 0) rfl rfl) rfl rfl hl.1 (Nat.le_of_ble_eq_true rfl) dX7_namesOf_27 ⟨Nat.le_of_ble_eq_true rfl, Nat.le_of_ble_eq_true rfl⟩ ?_
              refine lv_icmp_ge (tgt := 67) hx hb dX7_namesOf_30 (by decide) (fun c_8 => ?_) (fun c_8 => ?_)
              · have hf := ite_t hf c_8
                exact j67_5 _ hf (lv_sub hl [0, 1, 2, 3] rfl)
              · have hf := ite_f hf c_8
                refine lv_iload_n hx hb dX7_namesOf_33 rfl (lv_at hl 2 rfl) ?_
                refine lv_aload_n hx hb dX7_namesOf_34 rfl (lv_at hl 0 rfl) ?_
                refine va_get (D := D) (ci := 7) (v := .ref (a0 1)) (C := RX7) (T := TX7) (N := 19) hx hb hts i7 hown hK hP 0 rfl rfl 0 (by decide) hk7 (fun _ h9 => h9) rfl dX7_namesOf_35 ?_
                refine lv_iconst (v := 0) hx hb dX7_namesOf_38 (by decide) ?_
                refine lv_iload_n hx hb dX7_namesOf_39 rfl (lv_at hl 3 rfl) ?_
                obtain ⟨z_9, hz_9, hf⟩ := bn_some hf
                refine c0S (As := [.int 0, .int y13_3_3]) (rest := [.ref (a0 1), .int y13_3_2]) ⟨hx, hb, hml, hown, hts⟩ (c_X7_at l D cI cZ cJ cT 0 y13_3_3 z_9 hz_9) (va_cwS 2 hts gX7_namesOf_X7_at rfl rfl rfl (by decide +kernel) ⟨Nat.le_of_ble_eq_true rfl, Nat.le_of_ble_eq_true rfl⟩) rfl rfl hl.1 (Nat.le_of_ble_eq_true rfl) dX7_namesOf_40 ⟨Nat.le_of_ble_eq_true rfl, Nat.le_of_ble_eq_true rfl⟩ ?_
                refine lv_bipush (v := 13) hx hb dX7_namesOf_43 (by decide) ?_
                refine lv_iadd hx hb dX7_namesOf_45 ?_
                refine lv_iload hx hb dX7_namesOf_46 (lv_at hl 4 rfl) ?_
                refine lv_iadd hx hb dX7_namesOf_48 ?_
                obtain ⟨hi, hf⟩ := chk_some hf
                refine va_iald hx hb hK hP 1 0 rfl rfl (inb_in hi) dX7_namesOf_49 ?_
                refine lv_iload_n hx hb dX7_namesOf_50 rfl (lv_at hl 1 rfl) ?_
                obtain ⟨k59_10, hk59_10, hf⟩ := jn_some hf
                have j59_10 : ∀ (v59_10_0 : Int32) (ls : Array Slot), k59_10 v59_10_0 = some o → lv_has ls 5 [(0, .ref (a0 0)), (1, .int p1), (3, .int y13_3_3), (4, .int y13_3_4)] → W p l e (headSpec wsX7_namesOf rmX7_namesOf).room s m args below meth c s.heap [] 0 0 Q (F0 m 59 ls [.int v59_10_0, .int y13_3_2]) := by
                  intro v59_10_0 ls hf hl
                  have hf := qa1 hk59_10 hf
                  refine lv_iadd hx hb dX7_namesOf_59 ?_
                  refine lv_istore_n (lv' := [(2, .int (y13_3_2 + v59_10_0)), (0, .ref (a0 0)), (1, .int p1), (3, .int y13_3_3), (4, .int y13_3_4)]) hx hb dX7_namesOf_60 rfl hl (by decide) rfl (fun ls hl => ?_)
                  refine lv_iinc (v := y13_3_4 + 1) (lv' := [(4, .int (y13_3_4 + 1)), (2, .int (y13_3_2 + v59_10_0)), (0, .ref (a0 0)), (1, .int p1), (3, .int y13_3_3)]) hx hb dX7_namesOf_61 hl (k := 4) rfl rfl (by decide) rfl (fun ls hl => ?_)
                  refine lv_goto (tgt := 13) hx hb dX7_namesOf_64 (by decide) ?_
                  exact ih13_3 _ _ _ _ hf (lv_sub hl [2, 3, 1, 4, 0] rfl)
                refine lv_icmp_ne (tgt := 58) hx hb dX7_namesOf_51 (by decide) (fun c_11 => ?_) (fun c_11 => ?_)
                · have hf := ite_f hf c_11
                  refine lv_iconst (v := 0) hx hb dX7_namesOf_58 (by decide) ?_
                  exact j59_10 _ _ hf (lv_sub hl [0, 1, 3, 4] rfl)
                · have hf := ite_t hf c_11
                  refine lv_iconst (v := 1) hx hb dX7_namesOf_54 (by decide) ?_
                  refine lv_goto (tgt := 59) hx hb dX7_namesOf_55 (by decide) ?_
                  exact j59_10 _ _ hf (lv_sub hl [0, 1, 3, 4] rfl)
        exact j13_3 4096 _ _ _ _ hf (lv_sub hl [1, 2, 3, 4, 0] rfl)
  exact j4_1 4096 _ _ _ hf (lv_sub hl [2, 3, 1, 0] rfl)
set_option maxRecDepth 20000 in
theorem ggX7_check_X7_at : GoodIn wsX7_check wsX7_at := goodIn_r _ [27] (by decide +kernel) (by decide +kernel)
set_option maxRecDepth 20000 in
theorem gX7_check_X7_at : GoodIn wsX7_check (va_wsS RX7 67 yX7_at wsX7_at) := goodIn_app (goodIn_of _ (by decide +kernel)) ggX7_check_X7_at
set_option maxRecDepth 20000 in
theorem ggX7_check_X7_below : GoodIn wsX7_check wsX7_below := goodIn_r _ [40, 3, 41, 42, 43, 7, 44, 25, 26, 27, 45, 46, 47, 48, 58, 59, 60, 61, 62, 63, 64, 65, 66, 67, 68, 69, 70, 71, 72, 73, 74, 75, 76] (by decide +kernel) (by decide +kernel)
set_option maxRecDepth 20000 in
theorem gX7_check_X7_below : GoodIn wsX7_check (wsV RX7 173 RX7 yX7_below wsX7_below) := goodIn_app (goodIn_of _ (by decide +kernel)) ggX7_check_X7_below
set_option maxRecDepth 20000 in
theorem ggX7_check_X7_can : GoodIn wsX7_check wsX7_can := goodIn_r _ [8, 9, 58, 59, 60, 61, 62, 63, 64, 65, 66, 67, 68, 69, 70, 71, 72, 73, 74, 75, 76] (by decide +kernel) (by decide +kernel)
set_option maxRecDepth 20000 in
theorem gX7_check_X7_can : GoodIn wsX7_check (wsV RX7 140 RX7 yX7_can wsX7_can) := goodIn_app (goodIn_of _ (by decide +kernel)) ggX7_check_X7_can
set_option maxRecDepth 20000 in
theorem ggX7_check_X7_doublePages : GoodIn wsX7_check wsX7_doublePages := goodIn_r _ [13, 14, 15, 16, 7, 17, 18, 19, 20, 21, 3, 22, 23, 24, 25, 26, 27, 28, 29, 30, 31, 32, 33, 34, 35, 36, 58, 59, 60, 61, 62, 63, 64, 65, 66, 67, 68, 69, 70, 71, 72, 73, 74, 75, 76] (by decide +kernel) (by decide +kernel)
set_option maxRecDepth 20000 in
theorem gX7_check_X7_doublePages : GoodIn wsX7_check (wsV RX7 237 RX7 yX7_doublePages wsX7_doublePages) := goodIn_app (goodIn_of _ (by decide +kernel)) ggX7_check_X7_doublePages
set_option maxRecDepth 20000 in
theorem ggX7_check_X7_goes : GoodIn wsX7_check wsX7_goes := goodIn_r _ [52, 3, 53, 32, 33, 34, 7, 35, 36, 25, 26, 27, 58, 59, 60, 61, 62, 63, 64, 65, 66, 67, 68, 69, 70, 71, 72, 73, 74, 75, 76] (by decide +kernel) (by decide +kernel)
set_option maxRecDepth 20000 in
theorem gX7_check_X7_goes : GoodIn wsX7_check (wsV RX7 101 RX7 yX7_goes wsX7_goes) := goodIn_app (goodIn_of _ (by decide +kernel)) ggX7_check_X7_goes
set_option maxRecDepth 20000 in
theorem ggX7_check_X7_isThing : GoodIn wsX7_check wsX7_isThing := goodIn_r _ [17, 18, 19, 20, 7, 21, 3, 22, 23, 24, 25, 26, 27, 58, 59, 60, 61, 62, 63, 64, 65, 66, 67, 68, 69, 70, 71, 72, 73, 74, 75, 76] (by decide +kernel) (by decide +kernel)
set_option maxRecDepth 20000 in
theorem gX7_check_X7_isThing : GoodIn wsX7_check (wsV RX7 143 RX7 yX7_isThing wsX7_isThing) := goodIn_app (goodIn_of _ (by decide +kernel)) ggX7_check_X7_isThing
set_option maxRecDepth 20000 in
theorem ggX7_check_X7_namesOf : GoodIn wsX7_check wsX7_namesOf := goodIn_r _ [57, 3, 41, 42, 43, 7, 44, 25, 26, 27, 45, 46, 47, 48, 58, 59, 60, 61, 62, 63, 64, 65, 66, 67, 68, 69, 70, 71, 72, 73, 74, 75, 76] (by decide +kernel) (by decide +kernel)
set_option maxRecDepth 20000 in
theorem gX7_check_X7_namesOf : GoodIn wsX7_check (wsV RX7 240 RX7 yX7_namesOf wsX7_namesOf) := goodIn_app (goodIn_of _ (by decide +kernel)) ggX7_check_X7_namesOf
theorem dX7_check_0 : decode cX7_check 0 = .ok (.iconst 0, 1) := by decide +kernel
theorem dX7_check_1 : decode cX7_check 1 = .ok (.istore_n 1, 1) := by decide +kernel
theorem dX7_check_2 : decode cX7_check 2 = .ok (.iconst 0, 1) := by decide +kernel
theorem dX7_check_3 : decode cX7_check 3 = .ok (.istore_n 2, 1) := by decide +kernel
theorem dX7_check_4 : decode cX7_check 4 = .ok (.iload_n 2, 1) := by decide +kernel
theorem dX7_check_5 : decode cX7_check 5 = .ok (.aload_n 0, 1) := by decide +kernel
theorem dX7_check_6 : decode cX7_check 6 = .ok (.getfield 91, 3) := by decide +kernel
theorem dX7_check_9 : decode cX7_check 9 = .ok (.if_icmp .ge 28, 3) := by decide +kernel
theorem dX7_check_12 : decode cX7_check 12 = .ok (.iload_n 1, 1) := by decide +kernel
theorem dX7_check_13 : decode cX7_check 13 = .ok (.ifCond .ne 12, 3) := by decide +kernel
theorem dX7_check_16 : decode cX7_check 16 = .ok (.aload_n 0, 1) := by decide +kernel
theorem dX7_check_17 : decode cX7_check 17 = .ok (.getfield 41, 3) := by decide +kernel
theorem dX7_check_20 : decode cX7_check 20 = .ok (.iload_n 2, 1) := by decide +kernel
theorem dX7_check_21 : decode cX7_check 21 = .ok (.baload, 1) := by decide +kernel
theorem dX7_check_22 : decode cX7_check 22 = .ok (.ifCond .eq 7, 3) := by decide +kernel
theorem dX7_check_25 : decode cX7_check 25 = .ok (.iconst 1, 1) := by decide +kernel
theorem dX7_check_26 : decode cX7_check 26 = .ok (.goto 4, 3) := by decide +kernel
theorem dX7_check_29 : decode cX7_check 29 = .ok (.iconst 0, 1) := by decide +kernel
theorem dX7_check_30 : decode cX7_check 30 = .ok (.istore_n 1, 1) := by decide +kernel
theorem dX7_check_31 : decode cX7_check 31 = .ok (.iinc 2 1, 3) := by decide +kernel
theorem dX7_check_34 : decode cX7_check 34 = .ok (.goto (-30), 3) := by decide +kernel
theorem dX7_check_37 : decode cX7_check 37 = .ok (.aload_n 0, 1) := by decide +kernel
theorem dX7_check_38 : decode cX7_check 38 = .ok (.iload_n 1, 1) := by decide +kernel
theorem dX7_check_39 : decode cX7_check 39 = .ok (.ifCond .eq 7, 3) := by decide +kernel
theorem dX7_check_42 : decode cX7_check 42 = .ok (.iconst 1, 1) := by decide +kernel
theorem dX7_check_43 : decode cX7_check 43 = .ok (.goto 4, 3) := by decide +kernel
theorem dX7_check_46 : decode cX7_check 46 = .ok (.iconst 0, 1) := by decide +kernel
theorem dX7_check_47 : decode cX7_check 47 = .ok (.invokevirtual 140, 3) := by decide +kernel
theorem dX7_check_50 : decode cX7_check 50 = .ok (.ifCond .ne 5, 3) := by decide +kernel
theorem dX7_check_53 : decode cX7_check 53 = .ok (.iconst 0, 1) := by decide +kernel
theorem dX7_check_54 : decode cX7_check 54 = .ok (.ireturn, 1) := by decide +kernel
theorem dX7_check_55 : decode cX7_check 55 = .ok (.sipush 10000, 3) := by decide +kernel
theorem dX7_check_58 : decode cX7_check 58 = .ok (.aload_n 0, 1) := by decide +kernel
theorem dX7_check_59 : decode cX7_check 59 = .ok (.invokevirtual 237, 3) := by decide +kernel
theorem dX7_check_62 : decode cX7_check 62 = .ok (.imul, 1) := by decide +kernel
theorem dX7_check_63 : decode cX7_check 63 = .ok (.istore_n 2, 1) := by decide +kernel
theorem dX7_check_64 : decode cX7_check 64 = .ok (.aload_n 0, 1) := by decide +kernel
theorem dX7_check_65 : decode cX7_check 65 = .ok (.iconst 0, 1) := by decide +kernel
theorem dX7_check_66 : decode cX7_check 66 = .ok (.invokevirtual 173, 3) := by decide +kernel
theorem dX7_check_69 : decode cX7_check 69 = .ok (.istore_n 3, 1) := by decide +kernel
theorem dX7_check_70 : decode cX7_check 70 = .ok (.iconst 1, 1) := by decide +kernel
theorem dX7_check_71 : decode cX7_check 71 = .ok (.istore 4, 2) := by decide +kernel
theorem dX7_check_73 : decode cX7_check 73 = .ok (.iload 4, 2) := by decide +kernel
theorem dX7_check_75 : decode cX7_check 75 = .ok (.bipush 32, 2) := by decide +kernel
theorem dX7_check_77 : decode cX7_check 77 = .ok (.if_icmp .ge 36, 3) := by decide +kernel
theorem dX7_check_80 : decode cX7_check 80 = .ok (.aload_n 0, 1) := by decide +kernel
theorem dX7_check_81 : decode cX7_check 81 = .ok (.iload 4, 2) := by decide +kernel
theorem dX7_check_83 : decode cX7_check 83 = .ok (.invokevirtual 143, 3) := by decide +kernel
theorem dX7_check_86 : decode cX7_check 86 = .ok (.ifCond .eq 21, 3) := by decide +kernel
theorem dX7_check_89 : decode cX7_check 89 = .ok (.iload_n 3, 1) := by decide +kernel
theorem dX7_check_90 : decode cX7_check 90 = .ok (.iload 4, 2) := by decide +kernel
theorem dX7_check_92 : decode cX7_check 92 = .ok (.ishr, 1) := by decide +kernel
theorem dX7_check_93 : decode cX7_check 93 = .ok (.iconst 1, 1) := by decide +kernel
theorem dX7_check_94 : decode cX7_check 94 = .ok (.iand, 1) := by decide +kernel
theorem dX7_check_95 : decode cX7_check 95 = .ok (.ifCond .ne 12, 3) := by decide +kernel
theorem dX7_check_98 : decode cX7_check 98 = .ok (.aload_n 0, 1) := by decide +kernel
theorem dX7_check_99 : decode cX7_check 99 = .ok (.iload 4, 2) := by decide +kernel
theorem dX7_check_101 : decode cX7_check 101 = .ok (.invokevirtual 101, 3) := by decide +kernel
theorem dX7_check_104 : decode cX7_check 104 = .ok (.iinc 2 100, 3) := by decide +kernel
theorem dX7_check_107 : decode cX7_check 107 = .ok (.iinc 4 1, 3) := by decide +kernel
theorem dX7_check_110 : decode cX7_check 110 = .ok (.goto (-37), 3) := by decide +kernel
theorem dX7_check_113 : decode cX7_check 113 = .ok (.iconst 0, 1) := by decide +kernel
theorem dX7_check_114 : decode cX7_check 114 = .ok (.istore 4, 2) := by decide +kernel
theorem dX7_check_116 : decode cX7_check 116 = .ok (.iload 4, 2) := by decide +kernel
theorem dX7_check_118 : decode cX7_check 118 = .ok (.bipush 32, 2) := by decide +kernel
theorem dX7_check_120 : decode cX7_check 120 = .ok (.if_icmp .ge 62, 3) := by decide +kernel
theorem dX7_check_123 : decode cX7_check 123 = .ok (.aload_n 0, 1) := by decide +kernel
theorem dX7_check_124 : decode cX7_check 124 = .ok (.iload 4, 2) := by decide +kernel
theorem dX7_check_126 : decode cX7_check 126 = .ok (.invokevirtual 143, 3) := by decide +kernel
theorem dX7_check_129 : decode cX7_check 129 = .ok (.ifCond .eq 47, 3) := by decide +kernel
theorem dX7_check_132 : decode cX7_check 132 = .ok (.aload_n 0, 1) := by decide +kernel
theorem dX7_check_133 : decode cX7_check 133 = .ok (.getfield 7, 3) := by decide +kernel
theorem dX7_check_136 : decode cX7_check 136 = .ok (.iconst 0, 1) := by decide +kernel
theorem dX7_check_137 : decode cX7_check 137 = .ok (.iload 4, 2) := by decide +kernel
theorem dX7_check_139 : decode cX7_check 139 = .ok (.invokestatic 67, 3) := by decide +kernel
theorem dX7_check_142 : decode cX7_check 142 = .ok (.iconst 3, 1) := by decide +kernel
theorem dX7_check_143 : decode cX7_check 143 = .ok (.iadd, 1) := by decide +kernel
theorem dX7_check_144 : decode cX7_check 144 = .ok (.iaload, 1) := by decide +kernel
theorem dX7_check_145 : decode cX7_check 145 = .ok (.aload_n 0, 1) := by decide +kernel
theorem dX7_check_146 : decode cX7_check 146 = .ok (.iload 4, 2) := by decide +kernel
theorem dX7_check_148 : decode cX7_check 148 = .ok (.invokevirtual 240, 3) := by decide +kernel
theorem dX7_check_151 : decode cX7_check 151 = .ok (.if_icmp .eq 25, 3) := by decide +kernel
theorem dX7_check_154 : decode cX7_check 154 = .ok (.aload_n 0, 1) := by decide +kernel
theorem dX7_check_155 : decode cX7_check 155 = .ok (.getfield 7, 3) := by decide +kernel
theorem dX7_check_158 : decode cX7_check 158 = .ok (.iconst 0, 1) := by decide +kernel
theorem dX7_check_159 : decode cX7_check 159 = .ok (.iload 4, 2) := by decide +kernel
theorem dX7_check_161 : decode cX7_check 161 = .ok (.invokestatic 67, 3) := by decide +kernel
theorem dX7_check_164 : decode cX7_check 164 = .ok (.iconst 3, 1) := by decide +kernel
theorem dX7_check_165 : decode cX7_check 165 = .ok (.iadd, 1) := by decide +kernel
theorem dX7_check_166 : decode cX7_check 166 = .ok (.aload_n 0, 1) := by decide +kernel
theorem dX7_check_167 : decode cX7_check 167 = .ok (.iload 4, 2) := by decide +kernel
theorem dX7_check_169 : decode cX7_check 169 = .ok (.invokevirtual 240, 3) := by decide +kernel
theorem dX7_check_172 : decode cX7_check 172 = .ok (.iastore, 1) := by decide +kernel
theorem dX7_check_173 : decode cX7_check 173 = .ok (.iinc 2 1, 3) := by decide +kernel
theorem dX7_check_176 : decode cX7_check 176 = .ok (.iinc 4 1, 3) := by decide +kernel
theorem dX7_check_179 : decode cX7_check 179 = .ok (.goto (-63), 3) := by decide +kernel
theorem dX7_check_182 : decode cX7_check 182 = .ok (.iload_n 2, 1) := by decide +kernel
theorem dX7_check_183 : decode cX7_check 183 = .ok (.ireturn, 1) := by decide +kernel
def f_X7_check (u0 : S1) : Option (Int32 × S1) := qj2 (fun (r4_1 : Int32 → Int32 → Option (Int32 × S1)) (y4_1_1 : Int32) (y4_1_2 : Int32) => if (u0 9 0) ≤ y4_1_2 then jn (fun (v47_3_0 : Int32) => bn (f_X7_can u0 v47_3_0) (fun z_4 => if z_4.1 = 0 then some (0, z_4.2) else bn (f_X7_doublePages z_4.2) (fun z_6 => bn (f_X7_below z_6.2 0) (fun z_7 => qj3 (fun (r73_8 : Int32 → Int32 → S1 → Option (Int32 × S1)) (y73_8_2 : Int32) (y73_8_4 : Int32) (u73_8_0 : S1) => if 32 ≤ y73_8_4 then qj3 (fun (r116_10 : Int32 → Int32 → S1 → Option (Int32 × S1)) (y116_10_2 : Int32) (y116_10_4 : Int32) (u116_10_0 : S1) => if 32 ≤ y116_10_4 then some (y116_10_2, u116_10_0) else bn (f_X7_isThing u116_10_0 y116_10_4) (fun z_12 => jn (fun (y176_13_2 : Int32) (u176_13_0 : S1) => r116_10 y176_13_2 (y116_10_4 + 1) u176_13_0) (fun k176_13 => if z_12 = 0 then k176_13 y116_10_2 u116_10_0 else bn (f_X7_at 0 y116_10_4) (fun z_15 => chk (inb (z_15 + 3) 8480) (bn (f_X7_namesOf u116_10_0 y116_10_4) (fun z_16 => if (u116_10_0 0 (z_15 + 3).toNatClampNeg) = z_16 then k176_13 y116_10_2 u116_10_0 else bn (f_X7_at 0 y116_10_4) (fun z_18 => bn (f_X7_namesOf u116_10_0 y116_10_4) (fun z_19 => chk (inb (z_18 + 3) 8480) (bv (st u116_10_0 0 (z_18 + 3) z_19) (fun u_20 => k176_13 (y116_10_2 + 1) u_20)))))))))) (fun k116_10 => k116_10 y73_8_2 0 u73_8_0) else bn (f_X7_isThing u73_8_0 y73_8_4) (fun z_21 => jn (fun (y107_22_2 : Int32) (u107_22_0 : S1) => r73_8 y107_22_2 (y73_8_4 + 1) u107_22_0) (fun k107_22 => if z_21 = 0 then k107_22 y73_8_2 u73_8_0 else if ((z_7 >>> (y73_8_4 &&& 31)) &&& 1) = 0 then bn (f_X7_goes u73_8_0 y73_8_4) (fun z_25 => k107_22 (y73_8_2 + 100) z_25) else k107_22 y73_8_2 u73_8_0))) (fun k73_8 => k73_8 (10000 * z_6.1) 1 z_6.2))))) (fun k47_3 => if y4_1_1 = 0 then k47_3 0 else k47_3 1) else jn (fun (v30_27_0 : Int32) => r4_1 v30_27_0 (y4_1_2 + 1)) (fun k30_27 => jn (k30_27 1) (fun k25_28 => if y4_1_1 = 0 then chk (inb y4_1_2 30) (if (u0 12 (y4_1_2).toNatClampNeg) = 0 then k30_27 0 else k25_28) else k25_28))) (fun k4_1 => k4_1 0 0)
def rmX7_check : Room := { frames := 4, cells := 0, slots := 0, locals := 90 }
set_option maxHeartbeats 4000000 in
set_option maxRecDepth 100000 in
theorem c_X7_check (l : Launch) (D : va_G) (cI cZ cJ cT : ClassId) (a0 : Nat → Nat) (sz : Nat) (u0 : S1) (o : Int32 × S1) (hf : f_X7_check u0 = some o) : Met l yX7_check wsX7_check rmX7_check (va_Pc [.ref (a0 0)] (PW D cls (tys cI cZ cJ cT) ((wX7 cI cZ a0 u0)) sz)) (QWi D cls o.1 ((wX7 cI cZ a0 o.2)) (va_A ((wX7 cI cZ a0 u0)) sz)) 0 0 (va_A ((wX7 cI cZ a0 u0)) sz) := by
  refine Met.ofW (cc := cX7_check) (maxL := 5) (ret := (some .int)) (by decide) rfl ?_
  intro p e s m args below meth c s₁ B hml hv
  obtain ⟨hav, hsz, hP, hK, hD0⟩ := hv
  have hx := B.exec
  have hb := B.bytes
  have hr := B.returns
  have hlocks := B.notSynchronized
  have hts := atoms_spec (ws := wsX7_check) B.pre
  have hown : s.vm.findClass RX7 = some m.cls := findClass_of_methodNamed B.named
  have i7 : ∀ w ∈ wsX70, w ∈ wsX7_check := fun w h => List.mem_cons_of_mem _ (List.mem_append_right _ h)
  have hk7 := hts (.fieldLink RX7 7 "InoderyModel" "s" "[I") (by decide +kernel)
  have hk41 := hts (.fieldLink RX7 41 "InoderyModel" "isOpen" "[Z") (by decide +kernel)
  have hk91 := hts (.fieldLink RX7 91 "InoderyModel" "handles" "I") (by decide +kernel)
  subst hsz
  have hD := hD0.self (sz := s.heap.size)
  generalize hAe : va_A ((wX7 cI cZ a0 u0)) s.heap.size = A at hD ⊢
  have hA : ∀ q : Nat, s.heap.size ≤ q → A q := fun q h => by rw [← hAe]; exact Or.inr h
  have hS : va_S A s.heap s.heap [] := va_S.rf
  have hDD : ∀ w0 : S1, va_D A ((wX7 cI cZ a0 w0)) := fun _ => D_same (w := (wX7 cI cZ a0 u0)) rfl hD
  refine Wq (fun Q hQ => ?_)
  refine W_entry hav (Nat.le_of_ble_eq_true rfl) (fun ls hl => ?_)
  have hl : lv_has ls 5 [(0, .ref (a0 0))] := hl
  unfold f_X7_check at hf
  refine W_heap hP hS (fun H locs hP hS => ?_)
  refine lv_iconst (v := 0) hx hb dX7_check_0 (by decide) ?_
  refine lv_istore_n (lv' := [(1, .int 0), (0, .ref (a0 0))]) hx hb dX7_check_1 rfl hl (by decide) rfl (fun ls hl => ?_)
  refine lv_iconst (v := 0) hx hb dX7_check_2 (by decide) ?_
  refine lv_istore_n (lv' := [(2, .int 0), (1, .int 0), (0, .ref (a0 0))]) hx hb dX7_check_3 rfl hl (by decide) rfl (fun ls hl => ?_)
  obtain ⟨G4_1, hG4_1, hf⟩ := qj2_some hf
  have j4_1 : ∀ (n : Nat) (y4_1_1 : Int32) (y4_1_2 : Int32) (H : Heap) (locs : List Loc) (ls : Array Slot), ql2 G4_1 n y4_1_1 y4_1_2 = some o → va_P D cls (wX7 cI cZ a0 u0) H → va_S A s.heap H locs → lv_has ls 5 [(0, .ref (a0 0)), (1, .int y4_1_1), (2, .int y4_1_2)] → W p l e (headSpec wsX7_check rmX7_check).room s m args below meth c H locs 0 0 Q (F0 m 4 ls []) := by
    intro n
    induction n with
    | zero => intro y4_1_1 y4_1_2 H locs ls hf hP hS hl; exact (ql2_z hf).elim
    | succ n ih4_1 =>
      intro y4_1_1 y4_1_2 H locs ls hf hP hS hl
      have hf := ql2_s hG4_1 hf
      obtain ⟨r4_1, hr4_1⟩ : ∃ z, z = ql2 G4_1 n := ⟨_, rfl⟩
      rw [← hr4_1] at hf ih4_1
      refine lv_iload_n hx hb dX7_check_4 rfl (lv_at hl 2 rfl) ?_
      refine lv_aload_n hx hb dX7_check_5 rfl (lv_at hl 0 rfl) ?_
      refine va_get (D := D) (ci := 7) (v := .int (u0 9 0)) (C := RX7) (T := TX7) (N := 19) hx hb hts i7 hown hK hP 0 rfl rfl 9 (by decide) hk91 (fun _ h9 => h9) rfl dX7_check_6 ?_
      refine lv_icmp_ge (tgt := 37) hx hb dX7_check_9 (by decide) (fun c_2 => ?_) (fun c_2 => ?_)
      · have hf := ite_t hf c_2
        refine lv_aload_n hx hb dX7_check_37 rfl (lv_at hl 0 rfl) ?_
        refine lv_iload_n hx hb dX7_check_38 rfl (lv_at hl 1 rfl) ?_
        obtain ⟨k47_3, hk47_3, hf⟩ := jn_some hf
        have j47_3 : ∀ (v47_3_0 : Int32) (H : Heap) (locs : List Loc) (ls : Array Slot), k47_3 v47_3_0 = some o → va_P D cls (wX7 cI cZ a0 u0) H → va_S A s.heap H locs → lv_has ls 5 [(0, .ref (a0 0))] → W p l e (headSpec wsX7_check rmX7_check).room s m args below meth c H locs 0 0 Q (F0 m 47 ls [.int v47_3_0, .ref (a0 0)]) := by
          intro v47_3_0 H locs ls hf hP hS hl
          have hf := qa1 hk47_3 hf
          obtain ⟨z_4, hz_4, hf⟩ := bn_some hf
          refine cWVi (As := [.int v47_3_0]) (rest := []) ⟨hx, hb, hml, hown, hts⟩ (c_X7_can l D cI cZ cJ cT a0 H.size u0 v47_3_0 z_4 hz_4) (cwV 1 hts gX7_check_X7_can rfl rfl rfl (by decide +kernel) ⟨Nat.le_of_ble_eq_true rfl, Nat.le_of_ble_eq_true rfl⟩) hP hK (hDD u0) hS (own_free (hDD u0) hS hA) (va_recv hK hP (ci := 7) (q0 := 0) rfl rfl) rfl rfl hl.1 (Nat.le_of_ble_eq_true rfl) dX7_check_47 ⟨Nat.le_of_ble_eq_true rfl, Nat.le_of_ble_eq_true rfl⟩ (fun H1 locs hP1 hk1 hS => ?_)
          have hP : va_P D cls (wX7 cI cZ a0 z_4.2) H1 := hP1
          clear hP1 hk1
          generalize H1 = H at hP hS ⊢
          refine lv_if_ne (tgt := 55) hx hb dX7_check_50 (by decide) (fun c_5 => ?_) (fun c_5 => ?_)
          · have hf := ite_f hf c_5
            refine lv_sipush (v := 10000) hx hb dX7_check_55 (by decide) ?_
            refine lv_aload_n hx hb dX7_check_58 rfl (lv_at hl 0 rfl) ?_
            obtain ⟨z_6, hz_6, hf⟩ := bn_some hf
            refine cWVi (As := []) (rest := [.int 10000]) ⟨hx, hb, hml, hown, hts⟩ (c_X7_doublePages l D cI cZ cJ cT a0 H.size z_4.2 z_6 hz_6) (cwV 0 hts gX7_check_X7_doublePages rfl rfl rfl (by decide +kernel) ⟨Nat.le_of_ble_eq_true rfl, Nat.le_of_ble_eq_true rfl⟩) hP hK (hDD z_4.2) hS (own_free (hDD z_4.2) hS hA) (va_recv hK hP (ci := 7) (q0 := 0) rfl rfl) rfl rfl hl.1 (Nat.le_of_ble_eq_true rfl) dX7_check_59 ⟨Nat.le_of_ble_eq_true rfl, Nat.le_of_ble_eq_true rfl⟩ (fun H1 locs hP1 hk1 hS => ?_)
            have hP : va_P D cls (wX7 cI cZ a0 z_6.2) H1 := hP1
            clear hP1 hk1
            generalize H1 = H at hP hS ⊢
            refine lv_imul hx hb dX7_check_62 ?_
            refine lv_istore_n (lv' := [(2, .int (10000 * z_6.1)), (0, .ref (a0 0))]) hx hb dX7_check_63 rfl hl (by decide) rfl (fun ls hl => ?_)
            refine lv_aload_n hx hb dX7_check_64 rfl (lv_at hl 1 rfl) ?_
            refine lv_iconst (v := 0) hx hb dX7_check_65 (by decide) ?_
            obtain ⟨z_7, hz_7, hf⟩ := bn_some hf
            refine cRV (As := [.int 0]) (rest := []) ⟨hx, hb, hml, hown, hts⟩ (c_X7_below l D cI cZ cJ cT a0 z_6.2 0 z_7 hz_7) (cwV 1 hts gX7_check_X7_below rfl rfl rfl (by decide +kernel) ⟨Nat.le_of_ble_eq_true rfl, Nat.le_of_ble_eq_true rfl⟩) hP hK (va_recv hK hP (ci := 7) (q0 := 0) rfl rfl) rfl rfl hl.1 (Nat.le_of_ble_eq_true rfl) dX7_check_66 ⟨Nat.le_of_ble_eq_true rfl, Nat.le_of_ble_eq_true rfl⟩ ?_
            refine lv_istore_n (lv' := [(3, .int z_7), (2, .int (10000 * z_6.1)), (0, .ref (a0 0))]) hx hb dX7_check_69 rfl hl (by decide) rfl (fun ls hl => ?_)
            refine lv_iconst (v := 1) hx hb dX7_check_70 (by decide) ?_
            refine lv_istore (lv' := [(4, .int 1), (3, .int z_7), (2, .int (10000 * z_6.1)), (0, .ref (a0 0))]) hx hb dX7_check_71 hl (by decide) rfl (fun ls hl => ?_)
            obtain ⟨G73_8, hG73_8, hf⟩ := qj3_some hf
            have j73_8 : ∀ (n : Nat) (y73_8_2 : Int32) (y73_8_4 : Int32) (u73_8_0 : S1) (H : Heap) (locs : List Loc) (ls : Array Slot), ql3 G73_8 n y73_8_2 y73_8_4 u73_8_0 = some o → va_P D cls (wX7 cI cZ a0 u73_8_0) H → va_S A s.heap H locs → lv_has ls 5 [(0, .ref (a0 0)), (2, .int y73_8_2), (3, .int z_7), (4, .int y73_8_4)] → W p l e (headSpec wsX7_check rmX7_check).room s m args below meth c H locs 0 0 Q (F0 m 73 ls []) := by
              intro n
              induction n with
              | zero => intro y73_8_2 y73_8_4 u73_8_0 H locs ls hf hP hS hl; exact (ql3_z hf).elim
              | succ n ih73_8 =>
                intro y73_8_2 y73_8_4 u73_8_0 H locs ls hf hP hS hl
                have hf := ql3_s hG73_8 hf
                obtain ⟨r73_8, hr73_8⟩ : ∃ z, z = ql3 G73_8 n := ⟨_, rfl⟩
                rw [← hr73_8] at hf ih73_8
                refine lv_iload hx hb dX7_check_73 (lv_at hl 3 rfl) ?_
                refine lv_bipush (v := 32) hx hb dX7_check_75 (by decide) ?_
                refine lv_icmp_ge (tgt := 113) hx hb dX7_check_77 (by decide) (fun c_9 => ?_) (fun c_9 => ?_)
                · have hf := ite_t hf c_9
                  refine lv_iconst (v := 0) hx hb dX7_check_113 (by decide) ?_
                  refine lv_istore (lv' := [(4, .int 0), (0, .ref (a0 0)), (2, .int y73_8_2), (3, .int z_7)]) hx hb dX7_check_114 hl (by decide) rfl (fun ls hl => ?_)
                  obtain ⟨G116_10, hG116_10, hf⟩ := qj3_some hf
                  have j116_10 : ∀ (n : Nat) (y116_10_2 : Int32) (y116_10_4 : Int32) (u116_10_0 : S1) (H : Heap) (locs : List Loc) (ls : Array Slot), ql3 G116_10 n y116_10_2 y116_10_4 u116_10_0 = some o → va_P D cls (wX7 cI cZ a0 u116_10_0) H → va_S A s.heap H locs → lv_has ls 5 [(0, .ref (a0 0)), (2, .int y116_10_2), (4, .int y116_10_4)] → W p l e (headSpec wsX7_check rmX7_check).room s m args below meth c H locs 0 0 Q (F0 m 116 ls []) := by
                    intro n
                    induction n with
                    | zero => intro y116_10_2 y116_10_4 u116_10_0 H locs ls hf hP hS hl; exact (ql3_z hf).elim
                    | succ n ih116_10 =>
                      intro y116_10_2 y116_10_4 u116_10_0 H locs ls hf hP hS hl
                      have hf := ql3_s hG116_10 hf
                      obtain ⟨r116_10, hr116_10⟩ : ∃ z, z = ql3 G116_10 n := ⟨_, rfl⟩
                      rw [← hr116_10] at hf ih116_10
                      refine lv_iload hx hb dX7_check_116 (lv_at hl 2 rfl) ?_
                      refine lv_bipush (v := 32) hx hb dX7_check_118 (by decide) ?_
                      refine lv_icmp_ge (tgt := 182) hx hb dX7_check_120 (by decide) (fun c_11 => ?_) (fun c_11 => ?_)
                      · have hf := ite_t hf c_11
                        refine lv_iload_n hx hb dX7_check_182 rfl (lv_at hl 1 rfl) ?_
                        have eo := Option.some.inj hf
                        have hP : va_P D cls (wX7 cI cZ a0 o.2) H := by rw [← eo]; exact hP
                        rw [hQ]
                        exact W.iret hx hb hr (fun t ht hW => ⟨⟨_, (), rfl, congrArg Prod.fst eo, P_at ht hP⟩, hS.F ht⟩) hS.2.2 dX7_check_183 hlocks
                      · have hf := ite_f hf c_11
                        refine lv_aload_n hx hb dX7_check_123 rfl (lv_at hl 0 rfl) ?_
                        refine lv_iload hx hb dX7_check_124 (lv_at hl 2 rfl) ?_
                        obtain ⟨z_12, hz_12, hf⟩ := bn_some hf
                        refine cRV (As := [.int y116_10_4]) (rest := []) ⟨hx, hb, hml, hown, hts⟩ (c_X7_isThing l D cI cZ cJ cT a0 u116_10_0 y116_10_4 z_12 hz_12) (cwV 1 hts gX7_check_X7_isThing rfl rfl rfl (by decide +kernel) ⟨Nat.le_of_ble_eq_true rfl, Nat.le_of_ble_eq_true rfl⟩) hP hK (va_recv hK hP (ci := 7) (q0 := 0) rfl rfl) rfl rfl hl.1 (Nat.le_of_ble_eq_true rfl) dX7_check_126 ⟨Nat.le_of_ble_eq_true rfl, Nat.le_of_ble_eq_true rfl⟩ ?_
                        obtain ⟨k176_13, hk176_13, hf⟩ := jn_some hf
                        have j176_13 : ∀ (y176_13_2 : Int32) (u176_13_0 : S1) (H : Heap) (locs : List Loc) (ls : Array Slot), k176_13 y176_13_2 u176_13_0 = some o → va_P D cls (wX7 cI cZ a0 u176_13_0) H → va_S A s.heap H locs → lv_has ls 5 [(0, .ref (a0 0)), (2, .int y176_13_2), (4, .int y116_10_4)] → W p l e (headSpec wsX7_check rmX7_check).room s m args below meth c H locs 0 0 Q (F0 m 176 ls []) := by
                          intro y176_13_2 u176_13_0 H locs ls hf hP hS hl
                          have hf := qa2 hk176_13 hf
                          refine lv_iinc (v := y116_10_4 + 1) (lv' := [(4, .int (y116_10_4 + 1)), (0, .ref (a0 0)), (2, .int y176_13_2)]) hx hb dX7_check_176 hl (k := 2) rfl rfl (by decide) rfl (fun ls hl => ?_)
                          refine lv_goto (tgt := 116) hx hb dX7_check_179 (by decide) ?_
                          exact ih116_10 _ _ _ _ _ _ hf hP hS (lv_sub hl [1, 2, 0] rfl)
                        refine lv_if_eq (tgt := 176) hx hb dX7_check_129 (by decide) (fun c_14 => ?_) (fun c_14 => ?_)
                        · have hf := ite_t hf c_14
                          exact j176_13 _ _ _ _ _ hf hP hS (lv_sub hl [0, 1, 2] rfl)
                        · have hf := ite_f hf c_14
                          refine lv_aload_n hx hb dX7_check_132 rfl (lv_at hl 0 rfl) ?_
                          refine va_get (D := D) (ci := 7) (v := .ref (a0 1)) (C := RX7) (T := TX7) (N := 19) hx hb hts i7 hown hK hP 0 rfl rfl 0 (by decide) hk7 (fun _ h9 => h9) rfl dX7_check_133 ?_
                          refine lv_iconst (v := 0) hx hb dX7_check_136 (by decide) ?_
                          refine lv_iload hx hb dX7_check_137 (lv_at hl 2 rfl) ?_
                          obtain ⟨z_15, hz_15, hf⟩ := bn_some hf
                          refine c0S (As := [.int 0, .int y116_10_4]) (rest := [.ref (a0 1)]) ⟨hx, hb, hml, hown, hts⟩ (c_X7_at l D cI cZ cJ cT 0 y116_10_4 z_15 hz_15) (va_cwS 2 hts gX7_check_X7_at rfl rfl rfl (by decide +kernel) ⟨Nat.le_of_ble_eq_true rfl, Nat.le_of_ble_eq_true rfl⟩) rfl rfl hl.1 (Nat.le_of_ble_eq_true rfl) dX7_check_139 ⟨Nat.le_of_ble_eq_true rfl, Nat.le_of_ble_eq_true rfl⟩ ?_
                          refine lv_iconst (v := 3) hx hb dX7_check_142 (by decide) ?_
                          refine lv_iadd hx hb dX7_check_143 ?_
                          obtain ⟨hi, hf⟩ := chk_some hf
                          refine va_iald hx hb hK hP 1 0 rfl rfl (inb_in hi) dX7_check_144 ?_
                          refine lv_aload_n hx hb dX7_check_145 rfl (lv_at hl 0 rfl) ?_
                          refine lv_iload hx hb dX7_check_146 (lv_at hl 2 rfl) ?_
                          obtain ⟨z_16, hz_16, hf⟩ := bn_some hf
                          refine cRV (As := [.int y116_10_4]) (rest := [.int (u116_10_0 0 (z_15 + 3).toNatClampNeg)]) ⟨hx, hb, hml, hown, hts⟩ (c_X7_namesOf l D cI cZ cJ cT a0 u116_10_0 y116_10_4 z_16 hz_16) (cwV 1 hts gX7_check_X7_namesOf rfl rfl rfl (by decide +kernel) ⟨Nat.le_of_ble_eq_true rfl, Nat.le_of_ble_eq_true rfl⟩) hP hK (va_recv hK hP (ci := 7) (q0 := 0) rfl rfl) rfl rfl hl.1 (Nat.le_of_ble_eq_true rfl) dX7_check_148 ⟨Nat.le_of_ble_eq_true rfl, Nat.le_of_ble_eq_true rfl⟩ ?_
                          refine lv_icmp_eq (tgt := 176) hx hb dX7_check_151 (by decide) (fun c_17 => ?_) (fun c_17 => ?_)
                          · have hf := ite_t hf c_17
                            exact j176_13 _ _ _ _ _ hf hP hS (lv_sub hl [0, 1, 2] rfl)
                          · have hf := ite_f hf c_17
                            refine lv_aload_n hx hb dX7_check_154 rfl (lv_at hl 0 rfl) ?_
                            refine va_get (D := D) (ci := 7) (v := .ref (a0 1)) (C := RX7) (T := TX7) (N := 19) hx hb hts i7 hown hK hP 0 rfl rfl 0 (by decide) hk7 (fun _ h9 => h9) rfl dX7_check_155 ?_
                            refine lv_iconst (v := 0) hx hb dX7_check_158 (by decide) ?_
                            refine lv_iload hx hb dX7_check_159 (lv_at hl 2 rfl) ?_
                            obtain ⟨z_18, hz_18, hf⟩ := bn_some hf
                            refine c0S (As := [.int 0, .int y116_10_4]) (rest := [.ref (a0 1)]) ⟨hx, hb, hml, hown, hts⟩ (c_X7_at l D cI cZ cJ cT 0 y116_10_4 z_18 hz_18) (va_cwS 2 hts gX7_check_X7_at rfl rfl rfl (by decide +kernel) ⟨Nat.le_of_ble_eq_true rfl, Nat.le_of_ble_eq_true rfl⟩) rfl rfl hl.1 (Nat.le_of_ble_eq_true rfl) dX7_check_161 ⟨Nat.le_of_ble_eq_true rfl, Nat.le_of_ble_eq_true rfl⟩ ?_
                            refine lv_iconst (v := 3) hx hb dX7_check_164 (by decide) ?_
                            refine lv_iadd hx hb dX7_check_165 ?_
                            refine lv_aload_n hx hb dX7_check_166 rfl (lv_at hl 0 rfl) ?_
                            refine lv_iload hx hb dX7_check_167 (lv_at hl 2 rfl) ?_
                            obtain ⟨z_19, hz_19, hf⟩ := bn_some hf
                            refine cRV (As := [.int y116_10_4]) (rest := [.int (z_18 + 3), .ref (a0 1)]) ⟨hx, hb, hml, hown, hts⟩ (c_X7_namesOf l D cI cZ cJ cT a0 u116_10_0 y116_10_4 z_19 hz_19) (cwV 1 hts gX7_check_X7_namesOf rfl rfl rfl (by decide +kernel) ⟨Nat.le_of_ble_eq_true rfl, Nat.le_of_ble_eq_true rfl⟩) hP hK (va_recv hK hP (ci := 7) (q0 := 0) rfl rfl) rfl rfl hl.1 (Nat.le_of_ble_eq_true rfl) dX7_check_169 ⟨Nat.le_of_ble_eq_true rfl, Nat.le_of_ble_eq_true rfl⟩ ?_
                            obtain ⟨hi, hf⟩ := chk_some hf
                            obtain ⟨u_20, hu_20, hf⟩ := bv_some hf
                            refine va_iast hx hb hK hP (hDD u116_10_0) hS 1 0 rfl rfl (inb_in hi) dX7_check_172 (fun H locs hP _ hS => ?_)
                            have hP : va_P D cls (wX7 cI cZ a0 u_20) H := by rw [hu_20]; exact hP
                            refine lv_iinc (v := y116_10_2 + 1) (lv' := [(2, .int (y116_10_2 + 1)), (0, .ref (a0 0)), (4, .int y116_10_4)]) hx hb dX7_check_173 hl (k := 1) rfl rfl (by decide) rfl (fun ls hl => ?_)
                            exact j176_13 _ _ _ _ _ hf hP hS (lv_sub hl [1, 0, 2] rfl)
                  exact j116_10 4096 _ _ _ _ _ _ hf hP hS (lv_sub hl [1, 2, 0] rfl)
                · have hf := ite_f hf c_9
                  refine lv_aload_n hx hb dX7_check_80 rfl (lv_at hl 0 rfl) ?_
                  refine lv_iload hx hb dX7_check_81 (lv_at hl 3 rfl) ?_
                  obtain ⟨z_21, hz_21, hf⟩ := bn_some hf
                  refine cRV (As := [.int y73_8_4]) (rest := []) ⟨hx, hb, hml, hown, hts⟩ (c_X7_isThing l D cI cZ cJ cT a0 u73_8_0 y73_8_4 z_21 hz_21) (cwV 1 hts gX7_check_X7_isThing rfl rfl rfl (by decide +kernel) ⟨Nat.le_of_ble_eq_true rfl, Nat.le_of_ble_eq_true rfl⟩) hP hK (va_recv hK hP (ci := 7) (q0 := 0) rfl rfl) rfl rfl hl.1 (Nat.le_of_ble_eq_true rfl) dX7_check_83 ⟨Nat.le_of_ble_eq_true rfl, Nat.le_of_ble_eq_true rfl⟩ ?_
                  obtain ⟨k107_22, hk107_22, hf⟩ := jn_some hf
                  have j107_22 : ∀ (y107_22_2 : Int32) (u107_22_0 : S1) (H : Heap) (locs : List Loc) (ls : Array Slot), k107_22 y107_22_2 u107_22_0 = some o → va_P D cls (wX7 cI cZ a0 u107_22_0) H → va_S A s.heap H locs → lv_has ls 5 [(0, .ref (a0 0)), (2, .int y107_22_2), (3, .int z_7), (4, .int y73_8_4)] → W p l e (headSpec wsX7_check rmX7_check).room s m args below meth c H locs 0 0 Q (F0 m 107 ls []) := by
                    intro y107_22_2 u107_22_0 H locs ls hf hP hS hl
                    have hf := qa2 hk107_22 hf
                    refine lv_iinc (v := y73_8_4 + 1) (lv' := [(4, .int (y73_8_4 + 1)), (0, .ref (a0 0)), (2, .int y107_22_2), (3, .int z_7)]) hx hb dX7_check_107 hl (k := 3) rfl rfl (by decide) rfl (fun ls hl => ?_)
                    refine lv_goto (tgt := 73) hx hb dX7_check_110 (by decide) ?_
                    exact ih73_8 _ _ _ _ _ _ hf hP hS (lv_sub hl [1, 2, 3, 0] rfl)
                  refine lv_if_eq (tgt := 107) hx hb dX7_check_86 (by decide) (fun c_23 => ?_) (fun c_23 => ?_)
                  · have hf := ite_t hf c_23
                    exact j107_22 _ _ _ _ _ hf hP hS (lv_sub hl [0, 1, 2, 3] rfl)
                  · have hf := ite_f hf c_23
                    refine lv_iload_n hx hb dX7_check_89 rfl (lv_at hl 2 rfl) ?_
                    refine lv_iload hx hb dX7_check_90 (lv_at hl 3 rfl) ?_
                    refine lv_ishr hx hb dX7_check_92 ?_
                    refine lv_iconst (v := 1) hx hb dX7_check_93 (by decide) ?_
                    refine lv_iand hx hb dX7_check_94 ?_
                    refine lv_if_ne (tgt := 107) hx hb dX7_check_95 (by decide) (fun c_24 => ?_) (fun c_24 => ?_)
                    · have hf := ite_f hf c_24
                      exact j107_22 _ _ _ _ _ hf hP hS (lv_sub hl [0, 1, 2, 3] rfl)
                    · have hf := ite_t hf c_24
                      refine lv_aload_n hx hb dX7_check_98 rfl (lv_at hl 0 rfl) ?_
                      refine lv_iload hx hb dX7_check_99 (lv_at hl 3 rfl) ?_
                      obtain ⟨z_25, hz_25, hf⟩ := bn_some hf
                      refine cWVv (As := [.int y73_8_4]) (rest := []) ⟨hx, hb, hml, hown, hts⟩ (c_X7_goes l D cI cZ cJ cT a0 H.size u73_8_0 y73_8_4 z_25 hz_25) (cwV 1 hts gX7_check_X7_goes rfl rfl rfl (by decide +kernel) ⟨Nat.le_of_ble_eq_true rfl, Nat.le_of_ble_eq_true rfl⟩) hP hK (hDD u73_8_0) hS (own_free (hDD u73_8_0) hS hA) (va_recv hK hP (ci := 7) (q0 := 0) rfl rfl) rfl rfl hl.1 (Nat.le_of_ble_eq_true rfl) dX7_check_101 ⟨Nat.le_of_ble_eq_true rfl, Nat.le_of_ble_eq_true rfl⟩ (fun H1 locs hP1 hk1 hS => ?_)
                      have hP : va_P D cls (wX7 cI cZ a0 z_25) H1 := hP1
                      clear hP1 hk1
                      generalize H1 = H at hP hS ⊢
                      refine lv_iinc (v := y73_8_2 + 100) (lv' := [(2, .int (y73_8_2 + 100)), (0, .ref (a0 0)), (3, .int z_7), (4, .int y73_8_4)]) hx hb dX7_check_104 hl (k := 1) rfl rfl (by decide) rfl (fun ls hl => ?_)
                      exact j107_22 _ _ _ _ _ hf hP hS (lv_sub hl [1, 0, 2, 3] rfl)
            exact j73_8 4096 _ _ _ _ _ _ hf hP hS (lv_sub hl [3, 2, 1, 0] rfl)
          · have hf := ite_t hf c_5
            refine lv_iconst (v := 0) hx hb dX7_check_53 (by decide) ?_
            have eo := Option.some.inj hf
            have hP : va_P D cls (wX7 cI cZ a0 o.2) H := by rw [← eo]; exact hP
            rw [hQ]
            exact W.iret hx hb hr (fun t ht hW => ⟨⟨_, (), rfl, congrArg Prod.fst eo, P_at ht hP⟩, hS.F ht⟩) hS.2.2 dX7_check_54 hlocks
        refine lv_if_eq (tgt := 46) hx hb dX7_check_39 (by decide) (fun c_26 => ?_) (fun c_26 => ?_)
        · have hf := ite_t hf c_26
          refine lv_iconst (v := 0) hx hb dX7_check_46 (by decide) ?_
          exact j47_3 _ _ _ _ hf hP hS (lv_sub hl [0] rfl)
        · have hf := ite_f hf c_26
          refine lv_iconst (v := 1) hx hb dX7_check_42 (by decide) ?_
          refine lv_goto (tgt := 47) hx hb dX7_check_43 (by decide) ?_
          exact j47_3 _ _ _ _ hf hP hS (lv_sub hl [0] rfl)
      · have hf := ite_f hf c_2
        refine lv_iload_n hx hb dX7_check_12 rfl (lv_at hl 1 rfl) ?_
        obtain ⟨k30_27, hk30_27, hf⟩ := jn_some hf
        have j30_27 : ∀ (v30_27_0 : Int32) (H : Heap) (locs : List Loc) (ls : Array Slot), k30_27 v30_27_0 = some o → va_P D cls (wX7 cI cZ a0 u0) H → va_S A s.heap H locs → lv_has ls 5 [(0, .ref (a0 0)), (2, .int y4_1_2)] → W p l e (headSpec wsX7_check rmX7_check).room s m args below meth c H locs 0 0 Q (F0 m 30 ls [.int v30_27_0]) := by
          intro v30_27_0 H locs ls hf hP hS hl
          have hf := qa1 hk30_27 hf
          refine lv_istore_n (lv' := [(1, .int v30_27_0), (0, .ref (a0 0)), (2, .int y4_1_2)]) hx hb dX7_check_30 rfl hl (by decide) rfl (fun ls hl => ?_)
          refine lv_iinc (v := y4_1_2 + 1) (lv' := [(2, .int (y4_1_2 + 1)), (1, .int v30_27_0), (0, .ref (a0 0))]) hx hb dX7_check_31 hl (k := 2) rfl rfl (by decide) rfl (fun ls hl => ?_)
          refine lv_goto (tgt := 4) hx hb dX7_check_34 (by decide) ?_
          exact ih4_1 _ _ _ _ _ hf hP hS (lv_sub hl [2, 1, 0] rfl)
        obtain ⟨k25_28, hk25_28, hf⟩ := jn_some hf
        have j25_28 : ∀ (H : Heap) (locs : List Loc) (ls : Array Slot), k25_28 = some o → va_P D cls (wX7 cI cZ a0 u0) H → va_S A s.heap H locs → lv_has ls 5 [(0, .ref (a0 0)), (2, .int y4_1_2)] → W p l e (headSpec wsX7_check rmX7_check).room s m args below meth c H locs 0 0 Q (F0 m 25 ls []) := by
          intro H locs ls hf hP hS hl
          have hf := qa0 hk25_28 hf
          refine lv_iconst (v := 1) hx hb dX7_check_25 (by decide) ?_
          refine lv_goto (tgt := 30) hx hb dX7_check_26 (by decide) ?_
          exact j30_27 _ _ _ _ hf hP hS (lv_sub hl [0, 1] rfl)
        refine lv_if_ne (tgt := 25) hx hb dX7_check_13 (by decide) (fun c_29 => ?_) (fun c_29 => ?_)
        · have hf := ite_f hf c_29
          exact j25_28 _ _ _ hf hP hS (lv_sub hl [0, 2] rfl)
        · have hf := ite_t hf c_29
          refine lv_aload_n hx hb dX7_check_16 rfl (lv_at hl 0 rfl) ?_
          refine va_get (D := D) (ci := 7) (v := .ref (a0 13)) (C := RX7) (T := TX7) (N := 19) hx hb hts i7 hown hK hP 0 rfl rfl 12 (by decide) hk41 (fun _ h9 => h9) rfl dX7_check_17 ?_
          refine lv_iload_n hx hb dX7_check_20 rfl (lv_at hl 2 rfl) ?_
          obtain ⟨hi, hf⟩ := chk_some hf
          refine va_zald hx hb hK hP 11 1 rfl rfl (inb_in hi) dX7_check_21 ?_
          refine lv_if_eq (tgt := 29) hx hb dX7_check_22 (by decide) (fun c_30 => ?_) (fun c_30 => ?_)
          · have hf := ite_t hf c_30
            refine lv_iconst (v := 0) hx hb dX7_check_29 (by decide) ?_
            exact j30_27 _ _ _ _ hf hP hS (lv_sub hl [0, 2] rfl)
          · have hf := ite_f hf c_30
            exact j25_28 _ _ _ hf hP hS (lv_sub hl [0, 2] rfl)
  exact j4_1 4096 _ _ _ _ _ hf hP hS (lv_sub hl [2, 1, 0] rfl)
set_option maxRecDepth 20000 in
theorem ggX7_about_X7_at : GoodIn wsX7_about wsX7_at := goodIn_r _ [17] (by decide +kernel) (by decide +kernel)
set_option maxRecDepth 20000 in
theorem gX7_about_X7_at : GoodIn wsX7_about (va_wsS RX7 67 yX7_at wsX7_at) := goodIn_app (goodIn_of _ (by decide +kernel)) ggX7_about_X7_at
set_option maxRecDepth 20000 in
theorem ggX7_about_X7_can : GoodIn wsX7_about wsX7_can := goodIn_r _ [21, 22, 42, 43, 44, 45, 46, 47, 48, 49, 50, 51, 52, 53, 54, 55, 56, 57, 58, 59, 60] (by decide +kernel) (by decide +kernel)
set_option maxRecDepth 20000 in
theorem gX7_about_X7_can : GoodIn wsX7_about (wsV RX7 140 RX7 yX7_can wsX7_can) := goodIn_app (goodIn_of _ (by decide +kernel)) ggX7_about_X7_can
set_option maxRecDepth 20000 in
theorem ggX7_about_X7_entries : GoodIn wsX7_about wsX7_entries := goodIn_r _ [26, 1, 15, 16, 6, 17, 42, 43, 44, 45, 46, 47, 48, 49, 50, 51, 52, 53, 54, 55, 56, 57, 58, 59, 60] (by decide +kernel) (by decide +kernel)
set_option maxRecDepth 20000 in
theorem gX7_about_X7_entries : GoodIn wsX7_about (wsV RX7 109 RX7 yX7_entries wsX7_entries) := goodIn_app (goodIn_of _ (by decide +kernel)) ggX7_about_X7_entries
set_option maxRecDepth 20000 in
theorem ggX7_about_X7_handlesOf : GoodIn wsX7_about wsX7_handlesOf := goodIn_r _ [38, 39, 40, 41, 42, 43, 44, 45, 46, 47, 48, 49, 50, 51, 52, 53, 54, 55, 56, 57, 58, 59, 60] (by decide +kernel) (by decide +kernel)
set_option maxRecDepth 20000 in
theorem gX7_about_X7_handlesOf : GoodIn wsX7_about (wsV RX7 88 RX7 yX7_handlesOf wsX7_handlesOf) := goodIn_app (goodIn_of _ (by decide +kernel)) ggX7_about_X7_handlesOf
set_option maxRecDepth 20000 in
theorem ggX7_about_X7_isIn : GoodIn wsX7_about wsX7_isIn := goodIn_r _ [14] (by decide +kernel) (by decide +kernel)
set_option maxRecDepth 20000 in
theorem gX7_about_X7_isIn : GoodIn wsX7_about (va_wsS RX7 62 yX7_isIn wsX7_isIn) := goodIn_app (goodIn_of _ (by decide +kernel)) ggX7_about_X7_isIn
set_option maxRecDepth 20000 in
theorem ggX7_about_X7_isThing : GoodIn wsX7_about wsX7_isThing := goodIn_r _ [7, 8, 9, 10, 6, 11, 1, 12, 13, 14, 15, 16, 17, 42, 43, 44, 45, 46, 47, 48, 49, 50, 51, 52, 53, 54, 55, 56, 57, 58, 59, 60] (by decide +kernel) (by decide +kernel)
set_option maxRecDepth 20000 in
theorem gX7_about_X7_isThing : GoodIn wsX7_about (wsV RX7 143 RX7 yX7_isThing wsX7_isThing) := goodIn_app (goodIn_of _ (by decide +kernel)) ggX7_about_X7_isThing
set_option maxRecDepth 20000 in
theorem ggX7_about_X7_pagesOf : GoodIn wsX7_about wsX7_pagesOf := goodIn_r _ [30, 31, 32, 33, 6, 34, 1, 15, 16, 17, 42, 43, 44, 45, 46, 47, 48, 49, 50, 51, 52, 53, 54, 55, 56, 57, 58, 59, 60] (by decide +kernel) (by decide +kernel)
set_option maxRecDepth 20000 in
theorem gX7_about_X7_pagesOf : GoodIn wsX7_about (wsV RX7 78 RX7 yX7_pagesOf wsX7_pagesOf) := goodIn_app (goodIn_of _ (by decide +kernel)) ggX7_about_X7_pagesOf
theorem dX7_about_0 : decode cX7_about 0 = .ok (.aload_n 0, 1) := by decide +kernel
theorem dX7_about_1 : decode cX7_about 1 = .ok (.aload_n 0, 1) := by decide +kernel
theorem dX7_about_2 : decode cX7_about 2 = .ok (.iload_n 1, 1) := by decide +kernel
theorem dX7_about_3 : decode cX7_about 3 = .ok (.invokevirtual 143, 3) := by decide +kernel
theorem dX7_about_6 : decode cX7_about 6 = .ok (.ifCond .ne 7, 3) := by decide +kernel
theorem dX7_about_9 : decode cX7_about 9 = .ok (.iconst 1, 1) := by decide +kernel
theorem dX7_about_10 : decode cX7_about 10 = .ok (.goto 18, 3) := by decide +kernel
theorem dX7_about_13 : decode cX7_about 13 = .ok (.iload_n 2, 1) := by decide +kernel
theorem dX7_about_14 : decode cX7_about 14 = .ok (.iconst 0, 1) := by decide +kernel
theorem dX7_about_15 : decode cX7_about 15 = .ok (.bipush 6, 2) := by decide +kernel
theorem dX7_about_17 : decode cX7_about 17 = .ok (.invokestatic 62, 3) := by decide +kernel
theorem dX7_about_20 : decode cX7_about 20 = .ok (.ifCond .eq 7, 3) := by decide +kernel
theorem dX7_about_23 : decode cX7_about 23 = .ok (.iconst 0, 1) := by decide +kernel
theorem dX7_about_24 : decode cX7_about 24 = .ok (.goto 4, 3) := by decide +kernel
theorem dX7_about_27 : decode cX7_about 27 = .ok (.iconst 2, 1) := by decide +kernel
theorem dX7_about_28 : decode cX7_about 28 = .ok (.invokevirtual 140, 3) := by decide +kernel
theorem dX7_about_31 : decode cX7_about 31 = .ok (.ifCond .ne 5, 3) := by decide +kernel
theorem dX7_about_34 : decode cX7_about 34 = .ok (.iconst 0, 1) := by decide +kernel
theorem dX7_about_35 : decode cX7_about 35 = .ok (.ireturn, 1) := by decide +kernel
theorem dX7_about_36 : decode cX7_about 36 = .ok (.iconst 0, 1) := by decide +kernel
theorem dX7_about_37 : decode cX7_about 37 = .ok (.iload_n 1, 1) := by decide +kernel
theorem dX7_about_38 : decode cX7_about 38 = .ok (.invokestatic 67, 3) := by decide +kernel
theorem dX7_about_41 : decode cX7_about 41 = .ok (.istore_n 3, 1) := by decide +kernel
theorem dX7_about_42 : decode cX7_about 42 = .ok (.iload_n 2, 1) := by decide +kernel
theorem dX7_about_43 : decode cX7_about 43 = .ok (.tableswitch 94 0 6 #[41, 94, 94, 94, 48, 73, 79], 41) := by decide +kernel
theorem dX7_about_84 : decode cX7_about 84 = .ok (.aload_n 0, 1) := by decide +kernel
theorem dX7_about_85 : decode cX7_about 85 = .ok (.getfield 7, 3) := by decide +kernel
theorem dX7_about_88 : decode cX7_about 88 = .ok (.iload_n 3, 1) := by decide +kernel
theorem dX7_about_89 : decode cX7_about 89 = .ok (.iaload, 1) := by decide +kernel
theorem dX7_about_90 : decode cX7_about 90 = .ok (.ireturn, 1) := by decide +kernel
theorem dX7_about_91 : decode cX7_about 91 = .ok (.aload_n 0, 1) := by decide +kernel
theorem dX7_about_92 : decode cX7_about 92 = .ok (.getfield 7, 3) := by decide +kernel
theorem dX7_about_95 : decode cX7_about 95 = .ok (.iload_n 3, 1) := by decide +kernel
theorem dX7_about_96 : decode cX7_about 96 = .ok (.iaload, 1) := by decide +kernel
theorem dX7_about_97 : decode cX7_about 97 = .ok (.iconst 1, 1) := by decide +kernel
theorem dX7_about_98 : decode cX7_about 98 = .ok (.if_icmp .ne 12, 3) := by decide +kernel
theorem dX7_about_101 : decode cX7_about 101 = .ok (.aload_n 0, 1) := by decide +kernel
theorem dX7_about_102 : decode cX7_about 102 = .ok (.iconst 0, 1) := by decide +kernel
theorem dX7_about_103 : decode cX7_about 103 = .ok (.iload_n 1, 1) := by decide +kernel
theorem dX7_about_104 : decode cX7_about 104 = .ok (.invokevirtual 109, 3) := by decide +kernel
theorem dX7_about_107 : decode cX7_about 107 = .ok (.goto 8, 3) := by decide +kernel
theorem dX7_about_110 : decode cX7_about 110 = .ok (.aload_n 0, 1) := by decide +kernel
theorem dX7_about_111 : decode cX7_about 111 = .ok (.iload_n 1, 1) := by decide +kernel
theorem dX7_about_112 : decode cX7_about 112 = .ok (.invokevirtual 78, 3) := by decide +kernel
theorem dX7_about_115 : decode cX7_about 115 = .ok (.ireturn, 1) := by decide +kernel
theorem dX7_about_116 : decode cX7_about 116 = .ok (.aload_n 0, 1) := by decide +kernel
theorem dX7_about_117 : decode cX7_about 117 = .ok (.iload_n 1, 1) := by decide +kernel
theorem dX7_about_118 : decode cX7_about 118 = .ok (.invokevirtual 88, 3) := by decide +kernel
theorem dX7_about_121 : decode cX7_about 121 = .ok (.ireturn, 1) := by decide +kernel
theorem dX7_about_122 : decode cX7_about 122 = .ok (.aload_n 0, 1) := by decide +kernel
theorem dX7_about_123 : decode cX7_about 123 = .ok (.getfield 29, 3) := by decide +kernel
theorem dX7_about_126 : decode cX7_about 126 = .ok (.iload_n 1, 1) := by decide +kernel
theorem dX7_about_127 : decode cX7_about 127 = .ok (.baload, 1) := by decide +kernel
theorem dX7_about_128 : decode cX7_about 128 = .ok (.ifCond .eq 7, 3) := by decide +kernel
theorem dX7_about_131 : decode cX7_about 131 = .ok (.iconst 1, 1) := by decide +kernel
theorem dX7_about_132 : decode cX7_about 132 = .ok (.goto 4, 3) := by decide +kernel
theorem dX7_about_135 : decode cX7_about 135 = .ok (.iconst 0, 1) := by decide +kernel
theorem dX7_about_136 : decode cX7_about 136 = .ok (.ireturn, 1) := by decide +kernel
theorem dX7_about_137 : decode cX7_about 137 = .ok (.aload_n 0, 1) := by decide +kernel
theorem dX7_about_138 : decode cX7_about 138 = .ok (.getfield 7, 3) := by decide +kernel
theorem dX7_about_141 : decode cX7_about 141 = .ok (.iload_n 3, 1) := by decide +kernel
theorem dX7_about_142 : decode cX7_about 142 = .ok (.iload_n 2, 1) := by decide +kernel
theorem dX7_about_143 : decode cX7_about 143 = .ok (.iadd, 1) := by decide +kernel
theorem dX7_about_144 : decode cX7_about 144 = .ok (.iaload, 1) := by decide +kernel
theorem dX7_about_145 : decode cX7_about 145 = .ok (.ireturn, 1) := by decide +kernel
def f_X7_about (u0 : S1) (p1 : Int32) (p2 : Int32) : Option (Int32 × S1) := bn (f_X7_isThing u0 p1) (fun z_1 => jn (fun (v28_2_0 : Int32) => bn (f_X7_can u0 v28_2_0) (fun z_3 => if z_3.1 = 0 then some (0, z_3.2) else bn (f_X7_at 0 p1) (fun z_5 => jn (chk (inb (z_5 + p2) 8480) (some ((z_3.2 0 (z_5 + p2).toNatClampNeg), z_3.2))) (fun k137_6 => if p2.toInt < 0 ∨ 6 < p2.toInt then k137_6 else if p2 = 0 then chk (inb z_5 8480) (some ((z_3.2 0 (z_5).toNatClampNeg), z_3.2)) else if p2 = 1 then k137_6 else if p2 = 2 then k137_6 else if p2 = 3 then k137_6 else if p2 = 4 then chk (inb z_5 8480) (jn (fun (v115_13_0 : Int32) => some (v115_13_0, z_3.2)) (fun k115_13 => if (z_3.2 0 (z_5).toNatClampNeg) = 1 then bn (f_X7_entries z_3.2 0 p1) (fun z_16 => k115_13 z_16) else bn (f_X7_pagesOf z_3.2 p1) (fun z_15 => k115_13 z_15))) else if p2 = 5 then bn (f_X7_handlesOf z_3.2 p1) (fun z_18 => some (z_18, z_3.2)) else if p2 = 6 then chk (inb p1 32) (jn (fun (v136_20_0 : Int32) => some (v136_20_0, z_3.2)) (fun k136_20 => if (z_3.2 6 (p1).toNatClampNeg) = 0 then k136_20 0 else k136_20 1)) else none)))) (fun k28_2 => if z_1 = 0 then k28_2 1 else bn (f_X7_isIn p2 0 6) (fun z_23 => if z_23 = 0 then k28_2 2 else k28_2 0)))
def rmX7_about : Room := { frames := 3, cells := 0, slots := 0, locals := 66 }
set_option maxHeartbeats 4000000 in
set_option maxRecDepth 100000 in
theorem c_X7_about (l : Launch) (D : va_G) (cI cZ cJ cT : ClassId) (a0 : Nat → Nat) (sz : Nat) (u0 : S1) (p1 : Int32) (p2 : Int32) (o : Int32 × S1) (hf : f_X7_about u0 p1 p2 = some o) : Met l yX7_about wsX7_about rmX7_about (va_Pc [.ref (a0 0), .int p1, .int p2] (PW D cls (tys cI cZ cJ cT) ((wX7 cI cZ a0 u0)) sz)) (QWi D cls o.1 ((wX7 cI cZ a0 o.2)) (va_A ((wX7 cI cZ a0 u0)) sz)) 0 0 (va_A ((wX7 cI cZ a0 u0)) sz) := by
  refine Met.ofW (cc := cX7_about) (maxL := 4) (ret := (some .int)) (by decide) rfl ?_
  intro p e s m args below meth c s₁ B hml hv
  obtain ⟨hav, hsz, hP, hK, hD0⟩ := hv
  have hx := B.exec
  have hb := B.bytes
  have hr := B.returns
  have hlocks := B.notSynchronized
  have hts := atoms_spec (ws := wsX7_about) B.pre
  have hown : s.vm.findClass RX7 = some m.cls := findClass_of_methodNamed B.named
  have i7 : ∀ w ∈ wsX70, w ∈ wsX7_about := fun w h => List.mem_cons_of_mem _ (List.mem_append_right _ h)
  have hk7 := hts (.fieldLink RX7 7 "InoderyModel" "s" "[I") (by decide +kernel)
  have hk29 := hts (.fieldLink RX7 29 "InoderyModel" "hasError" "[Z") (by decide +kernel)
  subst hsz
  have hD := hD0.self (sz := s.heap.size)
  generalize hAe : va_A ((wX7 cI cZ a0 u0)) s.heap.size = A at hD ⊢
  have hA : ∀ q : Nat, s.heap.size ≤ q → A q := fun q h => by rw [← hAe]; exact Or.inr h
  have hS : va_S A s.heap s.heap [] := va_S.rf
  have hDD : ∀ w0 : S1, va_D A ((wX7 cI cZ a0 w0)) := fun _ => D_same (w := (wX7 cI cZ a0 u0)) rfl hD
  refine Wq (fun Q hQ => ?_)
  refine W_entry hav (Nat.le_of_ble_eq_true rfl) (fun ls hl => ?_)
  have hl : lv_has ls 4 [(0, .ref (a0 0)), (1, .int p1), (2, .int p2)] := hl
  unfold f_X7_about at hf
  refine W_heap hP hS (fun H locs hP hS => ?_)
  refine lv_aload_n hx hb dX7_about_0 rfl (lv_at hl 0 rfl) ?_
  refine lv_aload_n hx hb dX7_about_1 rfl (lv_at hl 0 rfl) ?_
  refine lv_iload_n hx hb dX7_about_2 rfl (lv_at hl 1 rfl) ?_
  obtain ⟨z_1, hz_1, hf⟩ := bn_some hf
  refine cRV (As := [.int p1]) (rest := [.ref (a0 0)]) ⟨hx, hb, hml, hown, hts⟩ (c_X7_isThing l D cI cZ cJ cT a0 u0 p1 z_1 hz_1) (cwV 1 hts gX7_about_X7_isThing rfl rfl rfl (by decide +kernel) ⟨Nat.le_of_ble_eq_true rfl, Nat.le_of_ble_eq_true rfl⟩) hP hK (va_recv hK hP (ci := 7) (q0 := 0) rfl rfl) rfl rfl hl.1 (Nat.le_of_ble_eq_true rfl) dX7_about_3 ⟨Nat.le_of_ble_eq_true rfl, Nat.le_of_ble_eq_true rfl⟩ ?_
  obtain ⟨k28_2, hk28_2, hf⟩ := jn_some hf
  have j28_2 : ∀ (v28_2_0 : Int32) (H : Heap) (locs : List Loc) (ls : Array Slot), k28_2 v28_2_0 = some o → va_P D cls (wX7 cI cZ a0 u0) H → va_S A s.heap H locs → lv_has ls 4 [(0, .ref (a0 0)), (1, .int p1), (2, .int p2)] → W p l e (headSpec wsX7_about rmX7_about).room s m args below meth c H locs 0 0 Q (F0 m 28 ls [.int v28_2_0, .ref (a0 0)]) := by
    intro v28_2_0 H locs ls hf hP hS hl
    have hf := qa1 hk28_2 hf
    obtain ⟨z_3, hz_3, hf⟩ := bn_some hf
    refine cWVi (As := [.int v28_2_0]) (rest := []) ⟨hx, hb, hml, hown, hts⟩ (c_X7_can l D cI cZ cJ cT a0 H.size u0 v28_2_0 z_3 hz_3) (cwV 1 hts gX7_about_X7_can rfl rfl rfl (by decide +kernel) ⟨Nat.le_of_ble_eq_true rfl, Nat.le_of_ble_eq_true rfl⟩) hP hK (hDD u0) hS (own_free (hDD u0) hS hA) (va_recv hK hP (ci := 7) (q0 := 0) rfl rfl) rfl rfl hl.1 (Nat.le_of_ble_eq_true rfl) dX7_about_28 ⟨Nat.le_of_ble_eq_true rfl, Nat.le_of_ble_eq_true rfl⟩ (fun H1 locs hP1 hk1 hS => ?_)
    have hP : va_P D cls (wX7 cI cZ a0 z_3.2) H1 := hP1
    clear hP1 hk1
    generalize H1 = H at hP hS ⊢
    refine lv_if_ne (tgt := 36) hx hb dX7_about_31 (by decide) (fun c_4 => ?_) (fun c_4 => ?_)
    · have hf := ite_f hf c_4
      refine lv_iconst (v := 0) hx hb dX7_about_36 (by decide) ?_
      refine lv_iload_n hx hb dX7_about_37 rfl (lv_at hl 1 rfl) ?_
      obtain ⟨z_5, hz_5, hf⟩ := bn_some hf
      refine c0S (As := [.int 0, .int p1]) (rest := []) ⟨hx, hb, hml, hown, hts⟩ (c_X7_at l D cI cZ cJ cT 0 p1 z_5 hz_5) (va_cwS 2 hts gX7_about_X7_at rfl rfl rfl (by decide +kernel) ⟨Nat.le_of_ble_eq_true rfl, Nat.le_of_ble_eq_true rfl⟩) rfl rfl hl.1 (Nat.le_of_ble_eq_true rfl) dX7_about_38 ⟨Nat.le_of_ble_eq_true rfl, Nat.le_of_ble_eq_true rfl⟩ ?_
      refine lv_istore_n (lv' := [(3, .int z_5), (0, .ref (a0 0)), (1, .int p1), (2, .int p2)]) hx hb dX7_about_41 rfl hl (by decide) rfl (fun ls hl => ?_)
      refine lv_iload_n hx hb dX7_about_42 rfl (lv_at hl 3 rfl) ?_
      obtain ⟨k137_6, hk137_6, hf⟩ := jn_some hf
      have j137_6 : ∀ (H : Heap) (locs : List Loc) (ls : Array Slot), k137_6 = some o → va_P D cls (wX7 cI cZ a0 z_3.2) H → va_S A s.heap H locs → lv_has ls 4 [(0, .ref (a0 0)), (2, .int p2), (3, .int z_5)] → W p l e (headSpec wsX7_about rmX7_about).room s m args below meth c H locs 0 0 Q (F0 m 137 ls []) := by
        intro H locs ls hf hP hS hl
        have hf := qa0 hk137_6 hf
        refine lv_aload_n hx hb dX7_about_137 rfl (lv_at hl 0 rfl) ?_
        refine va_get (D := D) (ci := 7) (v := .ref (a0 1)) (C := RX7) (T := TX7) (N := 19) hx hb hts i7 hown hK hP 0 rfl rfl 0 (by decide) hk7 (fun _ h9 => h9) rfl dX7_about_138 ?_
        refine lv_iload_n hx hb dX7_about_141 rfl (lv_at hl 2 rfl) ?_
        refine lv_iload_n hx hb dX7_about_142 rfl (lv_at hl 1 rfl) ?_
        refine lv_iadd hx hb dX7_about_143 ?_
        obtain ⟨hi, hf⟩ := chk_some hf
        refine va_iald hx hb hK hP 1 0 rfl rfl (inb_in hi) dX7_about_144 ?_
        have eo := Option.some.inj hf
        have hP : va_P D cls (wX7 cI cZ a0 o.2) H := by rw [← eo]; exact hP
        rw [hQ]
        exact W.iret hx hb hr (fun t ht hW => ⟨⟨_, (), rfl, congrArg Prod.fst eo, P_at ht hP⟩, hS.F ht⟩) hS.2.2 dX7_about_145 hlocks
      by_cases c_7 : p2.toInt < 0 ∨ 6 < p2.toInt
      · have hf := ite_t hf c_7
        refine lv_tableOut (tgt := 137) hx hb dX7_about_43 c_7 (by decide) ?_
        exact j137_6 _ _ _ hf hP hS (lv_sub hl [1, 3, 0] rfl)
      have hf := ite_f hf c_7
      by_cases e_8 : p2 = 0
      · have hf := ite_t hf e_8
        refine lv_tableIn (off := 41) (tgt := 84) hx hb dX7_about_43 (by rw [e_8]; decide) (by rw [e_8]; decide) (by rw [e_8]; rfl) (by decide) ?_
        refine lv_aload_n hx hb dX7_about_84 rfl (lv_at hl 1 rfl) ?_
        refine va_get (D := D) (ci := 7) (v := .ref (a0 1)) (C := RX7) (T := TX7) (N := 19) hx hb hts i7 hown hK hP 0 rfl rfl 0 (by decide) hk7 (fun _ h9 => h9) rfl dX7_about_85 ?_
        refine lv_iload_n hx hb dX7_about_88 rfl (lv_at hl 0 rfl) ?_
        obtain ⟨hi, hf⟩ := chk_some hf
        refine va_iald hx hb hK hP 1 0 rfl rfl (inb_in hi) dX7_about_89 ?_
        have eo := Option.some.inj hf
        have hP : va_P D cls (wX7 cI cZ a0 o.2) H := by rw [← eo]; exact hP
        rw [hQ]
        exact W.iret hx hb hr (fun t ht hW => ⟨⟨_, (), rfl, congrArg Prod.fst eo, P_at ht hP⟩, hS.F ht⟩) hS.2.2 dX7_about_90 hlocks
      have hf := ite_f hf e_8
      by_cases e_9 : p2 = 1
      · have hf := ite_t hf e_9
        refine lv_tableIn (off := 94) (tgt := 137) hx hb dX7_about_43 (by rw [e_9]; decide) (by rw [e_9]; decide) (by rw [e_9]; rfl) (by decide) ?_
        exact j137_6 _ _ _ hf hP hS (lv_sub hl [1, 3, 0] rfl)
      have hf := ite_f hf e_9
      by_cases e_10 : p2 = 2
      · have hf := ite_t hf e_10
        refine lv_tableIn (off := 94) (tgt := 137) hx hb dX7_about_43 (by rw [e_10]; decide) (by rw [e_10]; decide) (by rw [e_10]; rfl) (by decide) ?_
        exact j137_6 _ _ _ hf hP hS (lv_sub hl [1, 3, 0] rfl)
      have hf := ite_f hf e_10
      by_cases e_11 : p2 = 3
      · have hf := ite_t hf e_11
        refine lv_tableIn (off := 94) (tgt := 137) hx hb dX7_about_43 (by rw [e_11]; decide) (by rw [e_11]; decide) (by rw [e_11]; rfl) (by decide) ?_
        exact j137_6 _ _ _ hf hP hS (lv_sub hl [1, 3, 0] rfl)
      have hf := ite_f hf e_11
      by_cases e_12 : p2 = 4
      · have hf := ite_t hf e_12
        refine lv_tableIn (off := 48) (tgt := 91) hx hb dX7_about_43 (by rw [e_12]; decide) (by rw [e_12]; decide) (by rw [e_12]; rfl) (by decide) ?_
        refine lv_aload_n hx hb dX7_about_91 rfl (lv_at hl 1 rfl) ?_
        refine va_get (D := D) (ci := 7) (v := .ref (a0 1)) (C := RX7) (T := TX7) (N := 19) hx hb hts i7 hown hK hP 0 rfl rfl 0 (by decide) hk7 (fun _ h9 => h9) rfl dX7_about_92 ?_
        refine lv_iload_n hx hb dX7_about_95 rfl (lv_at hl 0 rfl) ?_
        obtain ⟨hi, hf⟩ := chk_some hf
        refine va_iald hx hb hK hP 1 0 rfl rfl (inb_in hi) dX7_about_96 ?_
        refine lv_iconst (v := 1) hx hb dX7_about_97 (by decide) ?_
        obtain ⟨k115_13, hk115_13, hf⟩ := jn_some hf
        have j115_13 : ∀ (v115_13_0 : Int32) (H : Heap) (locs : List Loc) (ls : Array Slot), k115_13 v115_13_0 = some o → va_P D cls (wX7 cI cZ a0 z_3.2) H → va_S A s.heap H locs → lv_has ls 4 [] → W p l e (headSpec wsX7_about rmX7_about).room s m args below meth c H locs 0 0 Q (F0 m 115 ls [.int v115_13_0]) := by
          intro v115_13_0 H locs ls hf hP hS hl
          have hf := qa1 hk115_13 hf
          have eo := Option.some.inj hf
          have hP : va_P D cls (wX7 cI cZ a0 o.2) H := by rw [← eo]; exact hP
          rw [hQ]
          exact W.iret hx hb hr (fun t ht hW => ⟨⟨_, (), rfl, congrArg Prod.fst eo, P_at ht hP⟩, hS.F ht⟩) hS.2.2 dX7_about_115 hlocks
        refine lv_icmp_ne (tgt := 110) hx hb dX7_about_98 (by decide) (fun c_14 => ?_) (fun c_14 => ?_)
        · have hf := ite_f hf c_14
          refine lv_aload_n hx hb dX7_about_110 rfl (lv_at hl 1 rfl) ?_
          refine lv_iload_n hx hb dX7_about_111 rfl (lv_at hl 2 rfl) ?_
          obtain ⟨z_15, hz_15, hf⟩ := bn_some hf
          refine cRV (As := [.int p1]) (rest := []) ⟨hx, hb, hml, hown, hts⟩ (c_X7_pagesOf l D cI cZ cJ cT a0 z_3.2 p1 z_15 hz_15) (cwV 1 hts gX7_about_X7_pagesOf rfl rfl rfl (by decide +kernel) ⟨Nat.le_of_ble_eq_true rfl, Nat.le_of_ble_eq_true rfl⟩) hP hK (va_recv hK hP (ci := 7) (q0 := 0) rfl rfl) rfl rfl hl.1 (Nat.le_of_ble_eq_true rfl) dX7_about_112 ⟨Nat.le_of_ble_eq_true rfl, Nat.le_of_ble_eq_true rfl⟩ ?_
          exact j115_13 _ _ _ _ hf hP hS (lv_sub hl [] rfl)
        · have hf := ite_t hf c_14
          refine lv_aload_n hx hb dX7_about_101 rfl (lv_at hl 1 rfl) ?_
          refine lv_iconst (v := 0) hx hb dX7_about_102 (by decide) ?_
          refine lv_iload_n hx hb dX7_about_103 rfl (lv_at hl 2 rfl) ?_
          obtain ⟨z_16, hz_16, hf⟩ := bn_some hf
          refine cRV (As := [.int 0, .int p1]) (rest := []) ⟨hx, hb, hml, hown, hts⟩ (c_X7_entries l D cI cZ cJ cT a0 z_3.2 0 p1 z_16 hz_16) (cwV 2 hts gX7_about_X7_entries rfl rfl rfl (by decide +kernel) ⟨Nat.le_of_ble_eq_true rfl, Nat.le_of_ble_eq_true rfl⟩) hP hK (va_recv hK hP (ci := 7) (q0 := 0) rfl rfl) rfl rfl hl.1 (Nat.le_of_ble_eq_true rfl) dX7_about_104 ⟨Nat.le_of_ble_eq_true rfl, Nat.le_of_ble_eq_true rfl⟩ ?_
          refine lv_goto (tgt := 115) hx hb dX7_about_107 (by decide) ?_
          exact j115_13 _ _ _ _ hf hP hS (lv_sub hl [] rfl)
      have hf := ite_f hf e_12
      by_cases e_17 : p2 = 5
      · have hf := ite_t hf e_17
        refine lv_tableIn (off := 73) (tgt := 116) hx hb dX7_about_43 (by rw [e_17]; decide) (by rw [e_17]; decide) (by rw [e_17]; rfl) (by decide) ?_
        refine lv_aload_n hx hb dX7_about_116 rfl (lv_at hl 1 rfl) ?_
        refine lv_iload_n hx hb dX7_about_117 rfl (lv_at hl 2 rfl) ?_
        obtain ⟨z_18, hz_18, hf⟩ := bn_some hf
        refine cRV (As := [.int p1]) (rest := []) ⟨hx, hb, hml, hown, hts⟩ (c_X7_handlesOf l D cI cZ cJ cT a0 z_3.2 p1 z_18 hz_18) (cwV 1 hts gX7_about_X7_handlesOf rfl rfl rfl (by decide +kernel) ⟨Nat.le_of_ble_eq_true rfl, Nat.le_of_ble_eq_true rfl⟩) hP hK (va_recv hK hP (ci := 7) (q0 := 0) rfl rfl) rfl rfl hl.1 (Nat.le_of_ble_eq_true rfl) dX7_about_118 ⟨Nat.le_of_ble_eq_true rfl, Nat.le_of_ble_eq_true rfl⟩ ?_
        have eo := Option.some.inj hf
        have hP : va_P D cls (wX7 cI cZ a0 o.2) H := by rw [← eo]; exact hP
        rw [hQ]
        exact W.iret hx hb hr (fun t ht hW => ⟨⟨_, (), rfl, congrArg Prod.fst eo, P_at ht hP⟩, hS.F ht⟩) hS.2.2 dX7_about_121 hlocks
      have hf := ite_f hf e_17
      by_cases e_19 : p2 = 6
      · have hf := ite_t hf e_19
        refine lv_tableIn (off := 79) (tgt := 122) hx hb dX7_about_43 (by rw [e_19]; decide) (by rw [e_19]; decide) (by rw [e_19]; rfl) (by decide) ?_
        refine lv_aload_n hx hb dX7_about_122 rfl (lv_at hl 1 rfl) ?_
        refine va_get (D := D) (ci := 7) (v := .ref (a0 7)) (C := RX7) (T := TX7) (N := 19) hx hb hts i7 hown hK hP 0 rfl rfl 6 (by decide) hk29 (fun _ h9 => h9) rfl dX7_about_123 ?_
        refine lv_iload_n hx hb dX7_about_126 rfl (lv_at hl 2 rfl) ?_
        obtain ⟨hi, hf⟩ := chk_some hf
        refine va_zald hx hb hK hP 7 1 rfl rfl (inb_in hi) dX7_about_127 ?_
        obtain ⟨k136_20, hk136_20, hf⟩ := jn_some hf
        have j136_20 : ∀ (v136_20_0 : Int32) (H : Heap) (locs : List Loc) (ls : Array Slot), k136_20 v136_20_0 = some o → va_P D cls (wX7 cI cZ a0 z_3.2) H → va_S A s.heap H locs → lv_has ls 4 [] → W p l e (headSpec wsX7_about rmX7_about).room s m args below meth c H locs 0 0 Q (F0 m 136 ls [.int v136_20_0]) := by
          intro v136_20_0 H locs ls hf hP hS hl
          have hf := qa1 hk136_20 hf
          have eo := Option.some.inj hf
          have hP : va_P D cls (wX7 cI cZ a0 o.2) H := by rw [← eo]; exact hP
          rw [hQ]
          exact W.iret hx hb hr (fun t ht hW => ⟨⟨_, (), rfl, congrArg Prod.fst eo, P_at ht hP⟩, hS.F ht⟩) hS.2.2 dX7_about_136 hlocks
        refine lv_if_eq (tgt := 135) hx hb dX7_about_128 (by decide) (fun c_21 => ?_) (fun c_21 => ?_)
        · have hf := ite_t hf c_21
          refine lv_iconst (v := 0) hx hb dX7_about_135 (by decide) ?_
          exact j136_20 _ _ _ _ hf hP hS (lv_sub hl [] rfl)
        · have hf := ite_f hf c_21
          refine lv_iconst (v := 1) hx hb dX7_about_131 (by decide) ?_
          refine lv_goto (tgt := 136) hx hb dX7_about_132 (by decide) ?_
          exact j136_20 _ _ _ _ hf hP hS (lv_sub hl [] rfl)
      have hf := ite_f hf e_19
      exact nomatch hf
    · have hf := ite_t hf c_4
      refine lv_iconst (v := 0) hx hb dX7_about_34 (by decide) ?_
      have eo := Option.some.inj hf
      have hP : va_P D cls (wX7 cI cZ a0 o.2) H := by rw [← eo]; exact hP
      rw [hQ]
      exact W.iret hx hb hr (fun t ht hW => ⟨⟨_, (), rfl, congrArg Prod.fst eo, P_at ht hP⟩, hS.F ht⟩) hS.2.2 dX7_about_35 hlocks
  refine lv_if_ne (tgt := 13) hx hb dX7_about_6 (by decide) (fun c_22 => ?_) (fun c_22 => ?_)
  · have hf := ite_f hf c_22
    refine lv_iload_n hx hb dX7_about_13 rfl (lv_at hl 2 rfl) ?_
    refine lv_iconst (v := 0) hx hb dX7_about_14 (by decide) ?_
    refine lv_bipush (v := 6) hx hb dX7_about_15 (by decide) ?_
    obtain ⟨z_23, hz_23, hf⟩ := bn_some hf
    refine c0S (As := [.int p2, .int 0, .int 6]) (rest := [.ref (a0 0)]) ⟨hx, hb, hml, hown, hts⟩ (c_X7_isIn l D cI cZ cJ cT p2 0 6 z_23 hz_23) (va_cwS 3 hts gX7_about_X7_isIn rfl rfl rfl (by decide +kernel) ⟨Nat.le_of_ble_eq_true rfl, Nat.le_of_ble_eq_true rfl⟩) rfl rfl hl.1 (Nat.le_of_ble_eq_true rfl) dX7_about_17 ⟨Nat.le_of_ble_eq_true rfl, Nat.le_of_ble_eq_true rfl⟩ ?_
    refine lv_if_eq (tgt := 27) hx hb dX7_about_20 (by decide) (fun c_24 => ?_) (fun c_24 => ?_)
    · have hf := ite_t hf c_24
      refine lv_iconst (v := 2) hx hb dX7_about_27 (by decide) ?_
      exact j28_2 _ _ _ _ hf hP hS (lv_sub hl [0, 1, 2] rfl)
    · have hf := ite_f hf c_24
      refine lv_iconst (v := 0) hx hb dX7_about_23 (by decide) ?_
      refine lv_goto (tgt := 28) hx hb dX7_about_24 (by decide) ?_
      exact j28_2 _ _ _ _ hf hP hS (lv_sub hl [0, 1, 2] rfl)
  · have hf := ite_t hf c_22
    refine lv_iconst (v := 1) hx hb dX7_about_9 (by decide) ?_
    refine lv_goto (tgt := 28) hx hb dX7_about_10 (by decide) ?_
    exact j28_2 _ _ _ _ hf hP hS (lv_sub hl [0, 1, 2] rfl)
set_option maxRecDepth 20000 in
theorem ggX7_entry_X7_at : GoodIn wsX7_entry wsX7_at := goodIn_r _ [16] (by decide +kernel) (by decide +kernel)
set_option maxRecDepth 20000 in
theorem gX7_entry_X7_at : GoodIn wsX7_entry (va_wsS RX7 67 yX7_at wsX7_at) := goodIn_app (goodIn_of _ (by decide +kernel)) ggX7_entry_X7_at
set_option maxRecDepth 20000 in
theorem ggX7_entry_X7_can : GoodIn wsX7_entry wsX7_can := goodIn_r _ [28, 29, 30, 31, 32, 33, 34, 35, 36, 37, 38, 39, 40, 41, 42, 43, 44, 45, 46, 47, 48] (by decide +kernel) (by decide +kernel)
set_option maxRecDepth 20000 in
theorem gX7_entry_X7_can : GoodIn wsX7_entry (wsV RX7 140 RX7 yX7_can wsX7_can) := goodIn_app (goodIn_of _ (by decide +kernel)) ggX7_entry_X7_can
set_option maxRecDepth 20000 in
theorem ggX7_entry_X7_entries : GoodIn wsX7_entry wsX7_entries := goodIn_r _ [24, 1, 14, 15, 5, 16, 30, 31, 32, 33, 34, 35, 36, 37, 38, 39, 40, 41, 42, 43, 44, 45, 46, 47, 48] (by decide +kernel) (by decide +kernel)
set_option maxRecDepth 20000 in
theorem gX7_entry_X7_entries : GoodIn wsX7_entry (wsV RX7 109 RX7 yX7_entries wsX7_entries) := goodIn_app (goodIn_of _ (by decide +kernel)) ggX7_entry_X7_entries
set_option maxRecDepth 20000 in
theorem ggX7_entry_X7_isIn : GoodIn wsX7_entry wsX7_isIn := goodIn_r _ [13] (by decide +kernel) (by decide +kernel)
set_option maxRecDepth 20000 in
theorem gX7_entry_X7_isIn : GoodIn wsX7_entry (va_wsS RX7 62 yX7_isIn wsX7_isIn) := goodIn_app (goodIn_of _ (by decide +kernel)) ggX7_entry_X7_isIn
set_option maxRecDepth 20000 in
theorem ggX7_entry_X7_isThing : GoodIn wsX7_entry wsX7_isThing := goodIn_r _ [6, 7, 8, 9, 5, 10, 1, 11, 12, 13, 14, 15, 16, 30, 31, 32, 33, 34, 35, 36, 37, 38, 39, 40, 41, 42, 43, 44, 45, 46, 47, 48] (by decide +kernel) (by decide +kernel)
set_option maxRecDepth 20000 in
theorem gX7_entry_X7_isThing : GoodIn wsX7_entry (wsV RX7 143 RX7 yX7_isThing wsX7_isThing) := goodIn_app (goodIn_of _ (by decide +kernel)) ggX7_entry_X7_isThing
set_option maxRecDepth 20000 in
theorem ggX7_entry_X7_kindOf : GoodIn wsX7_entry wsX7_kindOf := goodIn_r _ [20, 1, 14, 15, 5, 16, 30, 31, 32, 33, 34, 35, 36, 37, 38, 39, 40, 41, 42, 43, 44, 45, 46, 47, 48] (by decide +kernel) (by decide +kernel)
set_option maxRecDepth 20000 in
theorem gX7_entry_X7_kindOf : GoodIn wsX7_entry (wsV RX7 131 RX7 yX7_kindOf wsX7_kindOf) := goodIn_app (goodIn_of _ (by decide +kernel)) ggX7_entry_X7_kindOf
theorem dX7_entry_0 : decode cX7_entry 0 = .ok (.aload_n 0, 1) := by decide +kernel
theorem dX7_entry_1 : decode cX7_entry 1 = .ok (.iload_n 1, 1) := by decide +kernel
theorem dX7_entry_2 : decode cX7_entry 2 = .ok (.invokevirtual 143, 3) := by decide +kernel
theorem dX7_entry_5 : decode cX7_entry 5 = .ok (.ifCond .eq 32, 3) := by decide +kernel
theorem dX7_entry_8 : decode cX7_entry 8 = .ok (.aload_n 0, 1) := by decide +kernel
theorem dX7_entry_9 : decode cX7_entry 9 = .ok (.iload_n 1, 1) := by decide +kernel
theorem dX7_entry_10 : decode cX7_entry 10 = .ok (.invokevirtual 131, 3) := by decide +kernel
theorem dX7_entry_13 : decode cX7_entry 13 = .ok (.iconst 1, 1) := by decide +kernel
theorem dX7_entry_14 : decode cX7_entry 14 = .ok (.if_icmp .ne 23, 3) := by decide +kernel
theorem dX7_entry_17 : decode cX7_entry 17 = .ok (.iload_n 2, 1) := by decide +kernel
theorem dX7_entry_18 : decode cX7_entry 18 = .ok (.iconst 0, 1) := by decide +kernel
theorem dX7_entry_19 : decode cX7_entry 19 = .ok (.aload_n 0, 1) := by decide +kernel
theorem dX7_entry_20 : decode cX7_entry 20 = .ok (.iconst 0, 1) := by decide +kernel
theorem dX7_entry_21 : decode cX7_entry 21 = .ok (.iload_n 1, 1) := by decide +kernel
theorem dX7_entry_22 : decode cX7_entry 22 = .ok (.invokevirtual 109, 3) := by decide +kernel
theorem dX7_entry_25 : decode cX7_entry 25 = .ok (.iconst 1, 1) := by decide +kernel
theorem dX7_entry_26 : decode cX7_entry 26 = .ok (.isub, 1) := by decide +kernel
theorem dX7_entry_27 : decode cX7_entry 27 = .ok (.invokestatic 62, 3) := by decide +kernel
theorem dX7_entry_30 : decode cX7_entry 30 = .ok (.ifCond .eq 7, 3) := by decide +kernel
theorem dX7_entry_33 : decode cX7_entry 33 = .ok (.iconst 1, 1) := by decide +kernel
theorem dX7_entry_34 : decode cX7_entry 34 = .ok (.goto 4, 3) := by decide +kernel
theorem dX7_entry_37 : decode cX7_entry 37 = .ok (.iconst 0, 1) := by decide +kernel
theorem dX7_entry_38 : decode cX7_entry 38 = .ok (.istore_n 3, 1) := by decide +kernel
theorem dX7_entry_39 : decode cX7_entry 39 = .ok (.aload_n 0, 1) := by decide +kernel
theorem dX7_entry_40 : decode cX7_entry 40 = .ok (.iload_n 3, 1) := by decide +kernel
theorem dX7_entry_41 : decode cX7_entry 41 = .ok (.ifCond .eq 7, 3) := by decide +kernel
theorem dX7_entry_44 : decode cX7_entry 44 = .ok (.iconst 0, 1) := by decide +kernel
theorem dX7_entry_45 : decode cX7_entry 45 = .ok (.goto 4, 3) := by decide +kernel
theorem dX7_entry_48 : decode cX7_entry 48 = .ok (.iconst 1, 1) := by decide +kernel
theorem dX7_entry_49 : decode cX7_entry 49 = .ok (.invokevirtual 140, 3) := by decide +kernel
theorem dX7_entry_52 : decode cX7_entry 52 = .ok (.ifCond .eq 39, 3) := by decide +kernel
theorem dX7_entry_55 : decode cX7_entry 55 = .ok (.bipush 100, 2) := by decide +kernel
theorem dX7_entry_57 : decode cX7_entry 57 = .ok (.aload_n 0, 1) := by decide +kernel
theorem dX7_entry_58 : decode cX7_entry 58 = .ok (.getfield 7, 3) := by decide +kernel
theorem dX7_entry_61 : decode cX7_entry 61 = .ok (.iconst 0, 1) := by decide +kernel
theorem dX7_entry_62 : decode cX7_entry 62 = .ok (.iload_n 1, 1) := by decide +kernel
theorem dX7_entry_63 : decode cX7_entry 63 = .ok (.invokestatic 67, 3) := by decide +kernel
theorem dX7_entry_66 : decode cX7_entry 66 = .ok (.bipush 13, 2) := by decide +kernel
theorem dX7_entry_68 : decode cX7_entry 68 = .ok (.iadd, 1) := by decide +kernel
theorem dX7_entry_69 : decode cX7_entry 69 = .ok (.iload_n 2, 1) := by decide +kernel
theorem dX7_entry_70 : decode cX7_entry 70 = .ok (.iadd, 1) := by decide +kernel
theorem dX7_entry_71 : decode cX7_entry 71 = .ok (.iaload, 1) := by decide +kernel
theorem dX7_entry_72 : decode cX7_entry 72 = .ok (.imul, 1) := by decide +kernel
theorem dX7_entry_73 : decode cX7_entry 73 = .ok (.aload_n 0, 1) := by decide +kernel
theorem dX7_entry_74 : decode cX7_entry 74 = .ok (.getfield 7, 3) := by decide +kernel
theorem dX7_entry_77 : decode cX7_entry 77 = .ok (.iconst 0, 1) := by decide +kernel
theorem dX7_entry_78 : decode cX7_entry 78 = .ok (.iload_n 1, 1) := by decide +kernel
theorem dX7_entry_79 : decode cX7_entry 79 = .ok (.invokestatic 67, 3) := by decide +kernel
theorem dX7_entry_82 : decode cX7_entry 82 = .ok (.iconst 5, 1) := by decide +kernel
theorem dX7_entry_83 : decode cX7_entry 83 = .ok (.iadd, 1) := by decide +kernel
theorem dX7_entry_84 : decode cX7_entry 84 = .ok (.iload_n 2, 1) := by decide +kernel
theorem dX7_entry_85 : decode cX7_entry 85 = .ok (.iadd, 1) := by decide +kernel
theorem dX7_entry_86 : decode cX7_entry 86 = .ok (.iaload, 1) := by decide +kernel
theorem dX7_entry_87 : decode cX7_entry 87 = .ok (.iadd, 1) := by decide +kernel
theorem dX7_entry_88 : decode cX7_entry 88 = .ok (.goto 4, 3) := by decide +kernel
theorem dX7_entry_91 : decode cX7_entry 91 = .ok (.iconst 0, 1) := by decide +kernel
theorem dX7_entry_92 : decode cX7_entry 92 = .ok (.ireturn, 1) := by decide +kernel
def f_X7_entry (u0 : S1) (p1 : Int32) (p2 : Int32) : Option (Int32 × S1) := bn (f_X7_isThing u0 p1) (fun z_1 => jn (fun (v38_2_0 : Int32) => jn (fun (v49_3_0 : Int32) => bn (f_X7_can u0 v49_3_0) (fun z_4 => jn (fun (v92_5_0 : Int32) => some (v92_5_0, z_4.2)) (fun k92_5 => if z_4.1 = 0 then k92_5 0 else bn (f_X7_at 0 p1) (fun z_7 => chk (inb ((z_7 + 13) + p2) 8480) (bn (f_X7_at 0 p1) (fun z_8 => chk (inb ((z_8 + 5) + p2) 8480) (k92_5 ((100 * (z_4.2 0 ((z_7 + 13) + p2).toNatClampNeg)) + (z_4.2 0 ((z_8 + 5) + p2).toNatClampNeg))))))))) (fun k49_3 => if v38_2_0 = 0 then k49_3 1 else k49_3 0)) (fun k38_2 => jn (k38_2 0) (fun k37_10 => if z_1 = 0 then k37_10 else bn (f_X7_kindOf u0 p1) (fun z_12 => if z_12 = 1 then bn (f_X7_entries u0 0 p1) (fun z_14 => bn (f_X7_isIn p2 0 (z_14 - 1)) (fun z_15 => if z_15 = 0 then k37_10 else k38_2 1)) else k37_10))))
def rmX7_entry : Room := { frames := 3, cells := 0, slots := 0, locals := 65 }
set_option maxHeartbeats 4000000 in
set_option maxRecDepth 100000 in
theorem c_X7_entry (l : Launch) (D : va_G) (cI cZ cJ cT : ClassId) (a0 : Nat → Nat) (sz : Nat) (u0 : S1) (p1 : Int32) (p2 : Int32) (o : Int32 × S1) (hf : f_X7_entry u0 p1 p2 = some o) : Met l yX7_entry wsX7_entry rmX7_entry (va_Pc [.ref (a0 0), .int p1, .int p2] (PW D cls (tys cI cZ cJ cT) ((wX7 cI cZ a0 u0)) sz)) (QWi D cls o.1 ((wX7 cI cZ a0 o.2)) (va_A ((wX7 cI cZ a0 u0)) sz)) 0 0 (va_A ((wX7 cI cZ a0 u0)) sz) := by
  refine Met.ofW (cc := cX7_entry) (maxL := 4) (ret := (some .int)) (by decide) rfl ?_
  intro p e s m args below meth c s₁ B hml hv
  obtain ⟨hav, hsz, hP, hK, hD0⟩ := hv
  have hx := B.exec
  have hb := B.bytes
  have hr := B.returns
  have hlocks := B.notSynchronized
  have hts := atoms_spec (ws := wsX7_entry) B.pre
  have hown : s.vm.findClass RX7 = some m.cls := findClass_of_methodNamed B.named
  have i7 : ∀ w ∈ wsX70, w ∈ wsX7_entry := fun w h => List.mem_cons_of_mem _ (List.mem_append_right _ h)
  have hk7 := hts (.fieldLink RX7 7 "InoderyModel" "s" "[I") (by decide +kernel)
  subst hsz
  have hD := hD0.self (sz := s.heap.size)
  generalize hAe : va_A ((wX7 cI cZ a0 u0)) s.heap.size = A at hD ⊢
  have hA : ∀ q : Nat, s.heap.size ≤ q → A q := fun q h => by rw [← hAe]; exact Or.inr h
  have hS : va_S A s.heap s.heap [] := va_S.rf
  have hDD : ∀ w0 : S1, va_D A ((wX7 cI cZ a0 w0)) := fun _ => D_same (w := (wX7 cI cZ a0 u0)) rfl hD
  refine Wq (fun Q hQ => ?_)
  refine W_entry hav (Nat.le_of_ble_eq_true rfl) (fun ls hl => ?_)
  have hl : lv_has ls 4 [(0, .ref (a0 0)), (1, .int p1), (2, .int p2)] := hl
  unfold f_X7_entry at hf
  refine W_heap hP hS (fun H locs hP hS => ?_)
  refine lv_aload_n hx hb dX7_entry_0 rfl (lv_at hl 0 rfl) ?_
  refine lv_iload_n hx hb dX7_entry_1 rfl (lv_at hl 1 rfl) ?_
  obtain ⟨z_1, hz_1, hf⟩ := bn_some hf
  refine cRV (As := [.int p1]) (rest := []) ⟨hx, hb, hml, hown, hts⟩ (c_X7_isThing l D cI cZ cJ cT a0 u0 p1 z_1 hz_1) (cwV 1 hts gX7_entry_X7_isThing rfl rfl rfl (by decide +kernel) ⟨Nat.le_of_ble_eq_true rfl, Nat.le_of_ble_eq_true rfl⟩) hP hK (va_recv hK hP (ci := 7) (q0 := 0) rfl rfl) rfl rfl hl.1 (Nat.le_of_ble_eq_true rfl) dX7_entry_2 ⟨Nat.le_of_ble_eq_true rfl, Nat.le_of_ble_eq_true rfl⟩ ?_
  obtain ⟨k38_2, hk38_2, hf⟩ := jn_some hf
  have j38_2 : ∀ (v38_2_0 : Int32) (H : Heap) (locs : List Loc) (ls : Array Slot), k38_2 v38_2_0 = some o → va_P D cls (wX7 cI cZ a0 u0) H → va_S A s.heap H locs → lv_has ls 4 [(0, .ref (a0 0)), (1, .int p1), (2, .int p2)] → W p l e (headSpec wsX7_entry rmX7_entry).room s m args below meth c H locs 0 0 Q (F0 m 38 ls [.int v38_2_0]) := by
    intro v38_2_0 H locs ls hf hP hS hl
    have hf := qa1 hk38_2 hf
    refine lv_istore_n (lv' := [(3, .int v38_2_0), (0, .ref (a0 0)), (1, .int p1), (2, .int p2)]) hx hb dX7_entry_38 rfl hl (by decide) rfl (fun ls hl => ?_)
    refine lv_aload_n hx hb dX7_entry_39 rfl (lv_at hl 1 rfl) ?_
    refine lv_iload_n hx hb dX7_entry_40 rfl (lv_at hl 0 rfl) ?_
    obtain ⟨k49_3, hk49_3, hf⟩ := jn_some hf
    have j49_3 : ∀ (v49_3_0 : Int32) (H : Heap) (locs : List Loc) (ls : Array Slot), k49_3 v49_3_0 = some o → va_P D cls (wX7 cI cZ a0 u0) H → va_S A s.heap H locs → lv_has ls 4 [(0, .ref (a0 0)), (1, .int p1), (2, .int p2)] → W p l e (headSpec wsX7_entry rmX7_entry).room s m args below meth c H locs 0 0 Q (F0 m 49 ls [.int v49_3_0, .ref (a0 0)]) := by
      intro v49_3_0 H locs ls hf hP hS hl
      have hf := qa1 hk49_3 hf
      obtain ⟨z_4, hz_4, hf⟩ := bn_some hf
      refine cWVi (As := [.int v49_3_0]) (rest := []) ⟨hx, hb, hml, hown, hts⟩ (c_X7_can l D cI cZ cJ cT a0 H.size u0 v49_3_0 z_4 hz_4) (cwV 1 hts gX7_entry_X7_can rfl rfl rfl (by decide +kernel) ⟨Nat.le_of_ble_eq_true rfl, Nat.le_of_ble_eq_true rfl⟩) hP hK (hDD u0) hS (own_free (hDD u0) hS hA) (va_recv hK hP (ci := 7) (q0 := 0) rfl rfl) rfl rfl hl.1 (Nat.le_of_ble_eq_true rfl) dX7_entry_49 ⟨Nat.le_of_ble_eq_true rfl, Nat.le_of_ble_eq_true rfl⟩ (fun H1 locs hP1 hk1 hS => ?_)
      have hP : va_P D cls (wX7 cI cZ a0 z_4.2) H1 := hP1
      clear hP1 hk1
      generalize H1 = H at hP hS ⊢
      obtain ⟨k92_5, hk92_5, hf⟩ := jn_some hf
      have j92_5 : ∀ (v92_5_0 : Int32) (H : Heap) (locs : List Loc) (ls : Array Slot), k92_5 v92_5_0 = some o → va_P D cls (wX7 cI cZ a0 z_4.2) H → va_S A s.heap H locs → lv_has ls 4 [] → W p l e (headSpec wsX7_entry rmX7_entry).room s m args below meth c H locs 0 0 Q (F0 m 92 ls [.int v92_5_0]) := by
        intro v92_5_0 H locs ls hf hP hS hl
        have hf := qa1 hk92_5 hf
        have eo := Option.some.inj hf
        have hP : va_P D cls (wX7 cI cZ a0 o.2) H := by rw [← eo]; exact hP
        rw [hQ]
        exact W.iret hx hb hr (fun t ht hW => ⟨⟨_, (), rfl, congrArg Prod.fst eo, P_at ht hP⟩, hS.F ht⟩) hS.2.2 dX7_entry_92 hlocks
      refine lv_if_eq (tgt := 91) hx hb dX7_entry_52 (by decide) (fun c_6 => ?_) (fun c_6 => ?_)
      · have hf := ite_t hf c_6
        refine lv_iconst (v := 0) hx hb dX7_entry_91 (by decide) ?_
        exact j92_5 _ _ _ _ hf hP hS (lv_sub hl [] rfl)
      · have hf := ite_f hf c_6
        refine lv_bipush (v := 100) hx hb dX7_entry_55 (by decide) ?_
        refine lv_aload_n hx hb dX7_entry_57 rfl (lv_at hl 0 rfl) ?_
        refine va_get (D := D) (ci := 7) (v := .ref (a0 1)) (C := RX7) (T := TX7) (N := 19) hx hb hts i7 hown hK hP 0 rfl rfl 0 (by decide) hk7 (fun _ h9 => h9) rfl dX7_entry_58 ?_
        refine lv_iconst (v := 0) hx hb dX7_entry_61 (by decide) ?_
        refine lv_iload_n hx hb dX7_entry_62 rfl (lv_at hl 1 rfl) ?_
        obtain ⟨z_7, hz_7, hf⟩ := bn_some hf
        refine c0S (As := [.int 0, .int p1]) (rest := [.ref (a0 1), .int 100]) ⟨hx, hb, hml, hown, hts⟩ (c_X7_at l D cI cZ cJ cT 0 p1 z_7 hz_7) (va_cwS 2 hts gX7_entry_X7_at rfl rfl rfl (by decide +kernel) ⟨Nat.le_of_ble_eq_true rfl, Nat.le_of_ble_eq_true rfl⟩) rfl rfl hl.1 (Nat.le_of_ble_eq_true rfl) dX7_entry_63 ⟨Nat.le_of_ble_eq_true rfl, Nat.le_of_ble_eq_true rfl⟩ ?_
        refine lv_bipush (v := 13) hx hb dX7_entry_66 (by decide) ?_
        refine lv_iadd hx hb dX7_entry_68 ?_
        refine lv_iload_n hx hb dX7_entry_69 rfl (lv_at hl 2 rfl) ?_
        refine lv_iadd hx hb dX7_entry_70 ?_
        obtain ⟨hi, hf⟩ := chk_some hf
        refine va_iald hx hb hK hP 1 0 rfl rfl (inb_in hi) dX7_entry_71 ?_
        refine lv_imul hx hb dX7_entry_72 ?_
        refine lv_aload_n hx hb dX7_entry_73 rfl (lv_at hl 0 rfl) ?_
        refine va_get (D := D) (ci := 7) (v := .ref (a0 1)) (C := RX7) (T := TX7) (N := 19) hx hb hts i7 hown hK hP 0 rfl rfl 0 (by decide) hk7 (fun _ h9 => h9) rfl dX7_entry_74 ?_
        refine lv_iconst (v := 0) hx hb dX7_entry_77 (by decide) ?_
        refine lv_iload_n hx hb dX7_entry_78 rfl (lv_at hl 1 rfl) ?_
        obtain ⟨z_8, hz_8, hf⟩ := bn_some hf
        refine c0S (As := [.int 0, .int p1]) (rest := [.ref (a0 1), .int (100 * (z_4.2 0 ((z_7 + 13) + p2).toNatClampNeg))]) ⟨hx, hb, hml, hown, hts⟩ (c_X7_at l D cI cZ cJ cT 0 p1 z_8 hz_8) (va_cwS 2 hts gX7_entry_X7_at rfl rfl rfl (by decide +kernel) ⟨Nat.le_of_ble_eq_true rfl, Nat.le_of_ble_eq_true rfl⟩) rfl rfl hl.1 (Nat.le_of_ble_eq_true rfl) dX7_entry_79 ⟨Nat.le_of_ble_eq_true rfl, Nat.le_of_ble_eq_true rfl⟩ ?_
        refine lv_iconst (v := 5) hx hb dX7_entry_82 (by decide) ?_
        refine lv_iadd hx hb dX7_entry_83 ?_
        refine lv_iload_n hx hb dX7_entry_84 rfl (lv_at hl 2 rfl) ?_
        refine lv_iadd hx hb dX7_entry_85 ?_
        obtain ⟨hi, hf⟩ := chk_some hf
        refine va_iald hx hb hK hP 1 0 rfl rfl (inb_in hi) dX7_entry_86 ?_
        refine lv_iadd hx hb dX7_entry_87 ?_
        refine lv_goto (tgt := 92) hx hb dX7_entry_88 (by decide) ?_
        exact j92_5 _ _ _ _ hf hP hS (lv_sub hl [] rfl)
    refine lv_if_eq (tgt := 48) hx hb dX7_entry_41 (by decide) (fun c_9 => ?_) (fun c_9 => ?_)
    · have hf := ite_t hf c_9
      refine lv_iconst (v := 1) hx hb dX7_entry_48 (by decide) ?_
      exact j49_3 _ _ _ _ hf hP hS (lv_sub hl [1, 2, 3] rfl)
    · have hf := ite_f hf c_9
      refine lv_iconst (v := 0) hx hb dX7_entry_44 (by decide) ?_
      refine lv_goto (tgt := 49) hx hb dX7_entry_45 (by decide) ?_
      exact j49_3 _ _ _ _ hf hP hS (lv_sub hl [1, 2, 3] rfl)
  obtain ⟨k37_10, hk37_10, hf⟩ := jn_some hf
  have j37_10 : ∀ (H : Heap) (locs : List Loc) (ls : Array Slot), k37_10 = some o → va_P D cls (wX7 cI cZ a0 u0) H → va_S A s.heap H locs → lv_has ls 4 [(0, .ref (a0 0)), (1, .int p1), (2, .int p2)] → W p l e (headSpec wsX7_entry rmX7_entry).room s m args below meth c H locs 0 0 Q (F0 m 37 ls []) := by
    intro H locs ls hf hP hS hl
    have hf := qa0 hk37_10 hf
    refine lv_iconst (v := 0) hx hb dX7_entry_37 (by decide) ?_
    exact j38_2 _ _ _ _ hf hP hS (lv_sub hl [0, 1, 2] rfl)
  refine lv_if_eq (tgt := 37) hx hb dX7_entry_5 (by decide) (fun c_11 => ?_) (fun c_11 => ?_)
  · have hf := ite_t hf c_11
    exact j37_10 _ _ _ hf hP hS (lv_sub hl [0, 1, 2] rfl)
  · have hf := ite_f hf c_11
    refine lv_aload_n hx hb dX7_entry_8 rfl (lv_at hl 0 rfl) ?_
    refine lv_iload_n hx hb dX7_entry_9 rfl (lv_at hl 1 rfl) ?_
    obtain ⟨z_12, hz_12, hf⟩ := bn_some hf
    refine cRV (As := [.int p1]) (rest := []) ⟨hx, hb, hml, hown, hts⟩ (c_X7_kindOf l D cI cZ cJ cT a0 u0 p1 z_12 hz_12) (cwV 1 hts gX7_entry_X7_kindOf rfl rfl rfl (by decide +kernel) ⟨Nat.le_of_ble_eq_true rfl, Nat.le_of_ble_eq_true rfl⟩) hP hK (va_recv hK hP (ci := 7) (q0 := 0) rfl rfl) rfl rfl hl.1 (Nat.le_of_ble_eq_true rfl) dX7_entry_10 ⟨Nat.le_of_ble_eq_true rfl, Nat.le_of_ble_eq_true rfl⟩ ?_
    refine lv_iconst (v := 1) hx hb dX7_entry_13 (by decide) ?_
    refine lv_icmp_ne (tgt := 37) hx hb dX7_entry_14 (by decide) (fun c_13 => ?_) (fun c_13 => ?_)
    · have hf := ite_f hf c_13
      exact j37_10 _ _ _ hf hP hS (lv_sub hl [0, 1, 2] rfl)
    · have hf := ite_t hf c_13
      refine lv_iload_n hx hb dX7_entry_17 rfl (lv_at hl 2 rfl) ?_
      refine lv_iconst (v := 0) hx hb dX7_entry_18 (by decide) ?_
      refine lv_aload_n hx hb dX7_entry_19 rfl (lv_at hl 0 rfl) ?_
      refine lv_iconst (v := 0) hx hb dX7_entry_20 (by decide) ?_
      refine lv_iload_n hx hb dX7_entry_21 rfl (lv_at hl 1 rfl) ?_
      obtain ⟨z_14, hz_14, hf⟩ := bn_some hf
      refine cRV (As := [.int 0, .int p1]) (rest := [.int 0, .int p2]) ⟨hx, hb, hml, hown, hts⟩ (c_X7_entries l D cI cZ cJ cT a0 u0 0 p1 z_14 hz_14) (cwV 2 hts gX7_entry_X7_entries rfl rfl rfl (by decide +kernel) ⟨Nat.le_of_ble_eq_true rfl, Nat.le_of_ble_eq_true rfl⟩) hP hK (va_recv hK hP (ci := 7) (q0 := 0) rfl rfl) rfl rfl hl.1 (Nat.le_of_ble_eq_true rfl) dX7_entry_22 ⟨Nat.le_of_ble_eq_true rfl, Nat.le_of_ble_eq_true rfl⟩ ?_
      refine lv_iconst (v := 1) hx hb dX7_entry_25 (by decide) ?_
      refine lv_isub hx hb dX7_entry_26 ?_
      obtain ⟨z_15, hz_15, hf⟩ := bn_some hf
      refine c0S (As := [.int p2, .int 0, .int (z_14 - 1)]) (rest := []) ⟨hx, hb, hml, hown, hts⟩ (c_X7_isIn l D cI cZ cJ cT p2 0 (z_14 - 1) z_15 hz_15) (va_cwS 3 hts gX7_entry_X7_isIn rfl rfl rfl (by decide +kernel) ⟨Nat.le_of_ble_eq_true rfl, Nat.le_of_ble_eq_true rfl⟩) rfl rfl hl.1 (Nat.le_of_ble_eq_true rfl) dX7_entry_27 ⟨Nat.le_of_ble_eq_true rfl, Nat.le_of_ble_eq_true rfl⟩ ?_
      refine lv_if_eq (tgt := 37) hx hb dX7_entry_30 (by decide) (fun c_16 => ?_) (fun c_16 => ?_)
      · have hf := ite_t hf c_16
        exact j37_10 _ _ _ hf hP hS (lv_sub hl [0, 1, 2] rfl)
      · have hf := ite_f hf c_16
        refine lv_iconst (v := 1) hx hb dX7_entry_33 (by decide) ?_
        refine lv_goto (tgt := 38) hx hb dX7_entry_34 (by decide) ?_
        exact j38_2 _ _ _ _ hf hP hS (lv_sub hl [0, 1, 2] rfl)
set_option maxRecDepth 20000 in
theorem ggX7_target_X7_at : GoodIn wsX7_target wsX7_at := goodIn_r _ [16] (by decide +kernel) (by decide +kernel)
set_option maxRecDepth 20000 in
theorem gX7_target_X7_at : GoodIn wsX7_target (va_wsS RX7 67 yX7_at wsX7_at) := goodIn_app (goodIn_of _ (by decide +kernel)) ggX7_target_X7_at
set_option maxRecDepth 20000 in
theorem ggX7_target_X7_can : GoodIn wsX7_target wsX7_can := goodIn_r _ [20, 21, 22, 23, 24, 25, 26, 27, 28, 29, 30, 31, 32, 33, 34, 35, 36, 37, 38, 39, 40] (by decide +kernel) (by decide +kernel)
set_option maxRecDepth 20000 in
theorem gX7_target_X7_can : GoodIn wsX7_target (wsV RX7 140 RX7 yX7_can wsX7_can) := goodIn_app (goodIn_of _ (by decide +kernel)) ggX7_target_X7_can
set_option maxRecDepth 20000 in
theorem ggX7_target_X7_isThing : GoodIn wsX7_target wsX7_isThing := goodIn_r _ [6, 7, 8, 9, 5, 10, 1, 11, 12, 13, 14, 15, 16, 22, 23, 24, 25, 26, 27, 28, 29, 30, 31, 32, 33, 34, 35, 36, 37, 38, 39, 40] (by decide +kernel) (by decide +kernel)
set_option maxRecDepth 20000 in
theorem gX7_target_X7_isThing : GoodIn wsX7_target (wsV RX7 143 RX7 yX7_isThing wsX7_isThing) := goodIn_app (goodIn_of _ (by decide +kernel)) ggX7_target_X7_isThing
theorem dX7_target_0 : decode cX7_target 0 = .ok (.aload_n 0, 1) := by decide +kernel
theorem dX7_target_1 : decode cX7_target 1 = .ok (.aload_n 0, 1) := by decide +kernel
theorem dX7_target_2 : decode cX7_target 2 = .ok (.iload_n 1, 1) := by decide +kernel
theorem dX7_target_3 : decode cX7_target 3 = .ok (.invokevirtual 143, 3) := by decide +kernel
theorem dX7_target_6 : decode cX7_target 6 = .ok (.ifCond .eq 7, 3) := by decide +kernel
theorem dX7_target_9 : decode cX7_target 9 = .ok (.iconst 0, 1) := by decide +kernel
theorem dX7_target_10 : decode cX7_target 10 = .ok (.goto 4, 3) := by decide +kernel
theorem dX7_target_13 : decode cX7_target 13 = .ok (.iconst 1, 1) := by decide +kernel
theorem dX7_target_14 : decode cX7_target 14 = .ok (.invokevirtual 140, 3) := by decide +kernel
theorem dX7_target_17 : decode cX7_target 17 = .ok (.ifCond .eq 18, 3) := by decide +kernel
theorem dX7_target_20 : decode cX7_target 20 = .ok (.aload_n 0, 1) := by decide +kernel
theorem dX7_target_21 : decode cX7_target 21 = .ok (.getfield 7, 3) := by decide +kernel
theorem dX7_target_24 : decode cX7_target 24 = .ok (.iconst 0, 1) := by decide +kernel
theorem dX7_target_25 : decode cX7_target 25 = .ok (.iload_n 1, 1) := by decide +kernel
theorem dX7_target_26 : decode cX7_target 26 = .ok (.invokestatic 67, 3) := by decide +kernel
theorem dX7_target_29 : decode cX7_target 29 = .ok (.iconst 4, 1) := by decide +kernel
theorem dX7_target_30 : decode cX7_target 30 = .ok (.iadd, 1) := by decide +kernel
theorem dX7_target_31 : decode cX7_target 31 = .ok (.iaload, 1) := by decide +kernel
theorem dX7_target_32 : decode cX7_target 32 = .ok (.goto 4, 3) := by decide +kernel
theorem dX7_target_35 : decode cX7_target 35 = .ok (.iconst 0, 1) := by decide +kernel
theorem dX7_target_36 : decode cX7_target 36 = .ok (.ireturn, 1) := by decide +kernel
def f_X7_target (u0 : S1) (p1 : Int32) : Option (Int32 × S1) := bn (f_X7_isThing u0 p1) (fun z_1 => jn (fun (v14_2_0 : Int32) => bn (f_X7_can u0 v14_2_0) (fun z_3 => jn (fun (v36_4_0 : Int32) => some (v36_4_0, z_3.2)) (fun k36_4 => if z_3.1 = 0 then k36_4 0 else bn (f_X7_at 0 p1) (fun z_6 => chk (inb (z_6 + 4) 8480) (k36_4 (z_3.2 0 (z_6 + 4).toNatClampNeg)))))) (fun k14_2 => if z_1 = 0 then k14_2 1 else k14_2 0))
def rmX7_target : Room := { frames := 3, cells := 0, slots := 0, locals := 65 }
set_option maxHeartbeats 4000000 in
set_option maxRecDepth 100000 in
theorem c_X7_target (l : Launch) (D : va_G) (cI cZ cJ cT : ClassId) (a0 : Nat → Nat) (sz : Nat) (u0 : S1) (p1 : Int32) (o : Int32 × S1) (hf : f_X7_target u0 p1 = some o) : Met l yX7_target wsX7_target rmX7_target (va_Pc [.ref (a0 0), .int p1] (PW D cls (tys cI cZ cJ cT) ((wX7 cI cZ a0 u0)) sz)) (QWi D cls o.1 ((wX7 cI cZ a0 o.2)) (va_A ((wX7 cI cZ a0 u0)) sz)) 0 0 (va_A ((wX7 cI cZ a0 u0)) sz) := by
  refine Met.ofW (cc := cX7_target) (maxL := 2) (ret := (some .int)) (by decide) rfl ?_
  intro p e s m args below meth c s₁ B hml hv
  obtain ⟨hav, hsz, hP, hK, hD0⟩ := hv
  have hx := B.exec
  have hb := B.bytes
  have hr := B.returns
  have hlocks := B.notSynchronized
  have hts := atoms_spec (ws := wsX7_target) B.pre
  have hown : s.vm.findClass RX7 = some m.cls := findClass_of_methodNamed B.named
  have i7 : ∀ w ∈ wsX70, w ∈ wsX7_target := fun w h => List.mem_cons_of_mem _ (List.mem_append_right _ h)
  have hk7 := hts (.fieldLink RX7 7 "InoderyModel" "s" "[I") (by decide +kernel)
  subst hsz
  have hD := hD0.self (sz := s.heap.size)
  generalize hAe : va_A ((wX7 cI cZ a0 u0)) s.heap.size = A at hD ⊢
  have hA : ∀ q : Nat, s.heap.size ≤ q → A q := fun q h => by rw [← hAe]; exact Or.inr h
  have hS : va_S A s.heap s.heap [] := va_S.rf
  have hDD : ∀ w0 : S1, va_D A ((wX7 cI cZ a0 w0)) := fun _ => D_same (w := (wX7 cI cZ a0 u0)) rfl hD
  refine Wq (fun Q hQ => ?_)
  refine W_entry hav (Nat.le_of_ble_eq_true rfl) (fun ls hl => ?_)
  have hl : lv_has ls 2 [(0, .ref (a0 0)), (1, .int p1)] := hl
  unfold f_X7_target at hf
  refine W_heap hP hS (fun H locs hP hS => ?_)
  refine lv_aload_n hx hb dX7_target_0 rfl (lv_at hl 0 rfl) ?_
  refine lv_aload_n hx hb dX7_target_1 rfl (lv_at hl 0 rfl) ?_
  refine lv_iload_n hx hb dX7_target_2 rfl (lv_at hl 1 rfl) ?_
  obtain ⟨z_1, hz_1, hf⟩ := bn_some hf
  refine cRV (As := [.int p1]) (rest := [.ref (a0 0)]) ⟨hx, hb, hml, hown, hts⟩ (c_X7_isThing l D cI cZ cJ cT a0 u0 p1 z_1 hz_1) (cwV 1 hts gX7_target_X7_isThing rfl rfl rfl (by decide +kernel) ⟨Nat.le_of_ble_eq_true rfl, Nat.le_of_ble_eq_true rfl⟩) hP hK (va_recv hK hP (ci := 7) (q0 := 0) rfl rfl) rfl rfl hl.1 (Nat.le_of_ble_eq_true rfl) dX7_target_3 ⟨Nat.le_of_ble_eq_true rfl, Nat.le_of_ble_eq_true rfl⟩ ?_
  obtain ⟨k14_2, hk14_2, hf⟩ := jn_some hf
  have j14_2 : ∀ (v14_2_0 : Int32) (H : Heap) (locs : List Loc) (ls : Array Slot), k14_2 v14_2_0 = some o → va_P D cls (wX7 cI cZ a0 u0) H → va_S A s.heap H locs → lv_has ls 2 [(0, .ref (a0 0)), (1, .int p1)] → W p l e (headSpec wsX7_target rmX7_target).room s m args below meth c H locs 0 0 Q (F0 m 14 ls [.int v14_2_0, .ref (a0 0)]) := by
    intro v14_2_0 H locs ls hf hP hS hl
    have hf := qa1 hk14_2 hf
    obtain ⟨z_3, hz_3, hf⟩ := bn_some hf
    refine cWVi (As := [.int v14_2_0]) (rest := []) ⟨hx, hb, hml, hown, hts⟩ (c_X7_can l D cI cZ cJ cT a0 H.size u0 v14_2_0 z_3 hz_3) (cwV 1 hts gX7_target_X7_can rfl rfl rfl (by decide +kernel) ⟨Nat.le_of_ble_eq_true rfl, Nat.le_of_ble_eq_true rfl⟩) hP hK (hDD u0) hS (own_free (hDD u0) hS hA) (va_recv hK hP (ci := 7) (q0 := 0) rfl rfl) rfl rfl hl.1 (Nat.le_of_ble_eq_true rfl) dX7_target_14 ⟨Nat.le_of_ble_eq_true rfl, Nat.le_of_ble_eq_true rfl⟩ (fun H1 locs hP1 hk1 hS => ?_)
    have hP : va_P D cls (wX7 cI cZ a0 z_3.2) H1 := hP1
    clear hP1 hk1
    generalize H1 = H at hP hS ⊢
    obtain ⟨k36_4, hk36_4, hf⟩ := jn_some hf
    have j36_4 : ∀ (v36_4_0 : Int32) (H : Heap) (locs : List Loc) (ls : Array Slot), k36_4 v36_4_0 = some o → va_P D cls (wX7 cI cZ a0 z_3.2) H → va_S A s.heap H locs → lv_has ls 2 [] → W p l e (headSpec wsX7_target rmX7_target).room s m args below meth c H locs 0 0 Q (F0 m 36 ls [.int v36_4_0]) := by
      intro v36_4_0 H locs ls hf hP hS hl
      have hf := qa1 hk36_4 hf
      have eo := Option.some.inj hf
      have hP : va_P D cls (wX7 cI cZ a0 o.2) H := by rw [← eo]; exact hP
      rw [hQ]
      exact W.iret hx hb hr (fun t ht hW => ⟨⟨_, (), rfl, congrArg Prod.fst eo, P_at ht hP⟩, hS.F ht⟩) hS.2.2 dX7_target_36 hlocks
    refine lv_if_eq (tgt := 35) hx hb dX7_target_17 (by decide) (fun c_5 => ?_) (fun c_5 => ?_)
    · have hf := ite_t hf c_5
      refine lv_iconst (v := 0) hx hb dX7_target_35 (by decide) ?_
      exact j36_4 _ _ _ _ hf hP hS (lv_sub hl [] rfl)
    · have hf := ite_f hf c_5
      refine lv_aload_n hx hb dX7_target_20 rfl (lv_at hl 0 rfl) ?_
      refine va_get (D := D) (ci := 7) (v := .ref (a0 1)) (C := RX7) (T := TX7) (N := 19) hx hb hts i7 hown hK hP 0 rfl rfl 0 (by decide) hk7 (fun _ h9 => h9) rfl dX7_target_21 ?_
      refine lv_iconst (v := 0) hx hb dX7_target_24 (by decide) ?_
      refine lv_iload_n hx hb dX7_target_25 rfl (lv_at hl 1 rfl) ?_
      obtain ⟨z_6, hz_6, hf⟩ := bn_some hf
      refine c0S (As := [.int 0, .int p1]) (rest := [.ref (a0 1)]) ⟨hx, hb, hml, hown, hts⟩ (c_X7_at l D cI cZ cJ cT 0 p1 z_6 hz_6) (va_cwS 2 hts gX7_target_X7_at rfl rfl rfl (by decide +kernel) ⟨Nat.le_of_ble_eq_true rfl, Nat.le_of_ble_eq_true rfl⟩) rfl rfl hl.1 (Nat.le_of_ble_eq_true rfl) dX7_target_26 ⟨Nat.le_of_ble_eq_true rfl, Nat.le_of_ble_eq_true rfl⟩ ?_
      refine lv_iconst (v := 4) hx hb dX7_target_29 (by decide) ?_
      refine lv_iadd hx hb dX7_target_30 ?_
      obtain ⟨hi, hf⟩ := chk_some hf
      refine va_iald hx hb hK hP 1 0 rfl rfl (inb_in hi) dX7_target_31 ?_
      refine lv_goto (tgt := 36) hx hb dX7_target_32 (by decide) ?_
      exact j36_4 _ _ _ _ hf hP hS (lv_sub hl [] rfl)
  refine lv_if_eq (tgt := 13) hx hb dX7_target_6 (by decide) (fun c_7 => ?_) (fun c_7 => ?_)
  · have hf := ite_t hf c_7
    refine lv_iconst (v := 1) hx hb dX7_target_13 (by decide) ?_
    exact j14_2 _ _ _ _ hf hP hS (lv_sub hl [0, 1] rfl)
  · have hf := ite_f hf c_7
    refine lv_iconst (v := 0) hx hb dX7_target_9 (by decide) ?_
    refine lv_goto (tgt := 14) hx hb dX7_target_10 (by decide) ?_
    exact j14_2 _ _ _ _ hf hP hS (lv_sub hl [0, 1] rfl)
set_option maxRecDepth 20000 in
theorem ggX7_page_X7_at : GoodIn wsX7_page wsX7_at := goodIn_r _ [17] (by decide +kernel) (by decide +kernel)
set_option maxRecDepth 20000 in
theorem gX7_page_X7_at : GoodIn wsX7_page (va_wsS RX7 67 yX7_at wsX7_at) := goodIn_app (goodIn_of _ (by decide +kernel)) ggX7_page_X7_at
set_option maxRecDepth 20000 in
theorem ggX7_page_X7_blockOf : GoodIn wsX7_page wsX7_blockOf := goodIn_r _ [29, 1, 15, 16, 6, 17, 30, 31, 32, 33, 34, 35, 36, 37, 38, 39, 40, 41, 42, 43, 44, 45, 46, 47, 48] (by decide +kernel) (by decide +kernel)
set_option maxRecDepth 20000 in
theorem gX7_page_X7_blockOf : GoodIn wsX7_page (wsV RX7 82 RX7 yX7_blockOf wsX7_blockOf) := goodIn_app (goodIn_of _ (by decide +kernel)) ggX7_page_X7_blockOf
set_option maxRecDepth 20000 in
theorem ggX7_page_X7_can : GoodIn wsX7_page wsX7_can := goodIn_r _ [24, 25, 30, 31, 32, 33, 34, 35, 36, 37, 38, 39, 40, 41, 42, 43, 44, 45, 46, 47, 48] (by decide +kernel) (by decide +kernel)
set_option maxRecDepth 20000 in
theorem gX7_page_X7_can : GoodIn wsX7_page (wsV RX7 140 RX7 yX7_can wsX7_can) := goodIn_app (goodIn_of _ (by decide +kernel)) ggX7_page_X7_can
set_option maxRecDepth 20000 in
theorem ggX7_page_X7_isIn : GoodIn wsX7_page wsX7_isIn := goodIn_r _ [14] (by decide +kernel) (by decide +kernel)
set_option maxRecDepth 20000 in
theorem gX7_page_X7_isIn : GoodIn wsX7_page (va_wsS RX7 62 yX7_isIn wsX7_isIn) := goodIn_app (goodIn_of _ (by decide +kernel)) ggX7_page_X7_isIn
set_option maxRecDepth 20000 in
theorem ggX7_page_X7_isPage : GoodIn wsX7_page wsX7_isPage := goodIn_r _ [20, 12, 13, 6, 14] (by decide +kernel) (by decide +kernel)
set_option maxRecDepth 20000 in
theorem gX7_page_X7_isPage : GoodIn wsX7_page (va_wsS RX7 201 yX7_isPage wsX7_isPage) := goodIn_app (goodIn_of _ (by decide +kernel)) ggX7_page_X7_isPage
set_option maxRecDepth 20000 in
theorem ggX7_page_X7_isThing : GoodIn wsX7_page wsX7_isThing := goodIn_r _ [7, 8, 9, 10, 6, 11, 1, 12, 13, 14, 15, 16, 17, 30, 31, 32, 33, 34, 35, 36, 37, 38, 39, 40, 41, 42, 43, 44, 45, 46, 47, 48] (by decide +kernel) (by decide +kernel)
set_option maxRecDepth 20000 in
theorem gX7_page_X7_isThing : GoodIn wsX7_page (wsV RX7 143 RX7 yX7_isThing wsX7_isThing) := goodIn_app (goodIn_of _ (by decide +kernel)) ggX7_page_X7_isThing
theorem dX7_page_0 : decode cX7_page 0 = .ok (.aload_n 0, 1) := by decide +kernel
theorem dX7_page_1 : decode cX7_page 1 = .ok (.aload_n 0, 1) := by decide +kernel
theorem dX7_page_2 : decode cX7_page 2 = .ok (.iload_n 1, 1) := by decide +kernel
theorem dX7_page_3 : decode cX7_page 3 = .ok (.invokevirtual 143, 3) := by decide +kernel
theorem dX7_page_6 : decode cX7_page 6 = .ok (.ifCond .eq 10, 3) := by decide +kernel
theorem dX7_page_9 : decode cX7_page 9 = .ok (.iload_n 2, 1) := by decide +kernel
theorem dX7_page_10 : decode cX7_page 10 = .ok (.invokestatic 201, 3) := by decide +kernel
theorem dX7_page_13 : decode cX7_page 13 = .ok (.ifCond .ne 7, 3) := by decide +kernel
theorem dX7_page_16 : decode cX7_page 16 = .ok (.iconst 1, 1) := by decide +kernel
theorem dX7_page_17 : decode cX7_page 17 = .ok (.goto 17, 3) := by decide +kernel
theorem dX7_page_20 : decode cX7_page 20 = .ok (.iload_n 3, 1) := by decide +kernel
theorem dX7_page_21 : decode cX7_page 21 = .ok (.iconst 0, 1) := by decide +kernel
theorem dX7_page_22 : decode cX7_page 22 = .ok (.iconst 2, 1) := by decide +kernel
theorem dX7_page_23 : decode cX7_page 23 = .ok (.invokestatic 62, 3) := by decide +kernel
theorem dX7_page_26 : decode cX7_page 26 = .ok (.ifCond .eq 7, 3) := by decide +kernel
theorem dX7_page_29 : decode cX7_page 29 = .ok (.iconst 0, 1) := by decide +kernel
theorem dX7_page_30 : decode cX7_page 30 = .ok (.goto 4, 3) := by decide +kernel
theorem dX7_page_33 : decode cX7_page 33 = .ok (.iconst 2, 1) := by decide +kernel
theorem dX7_page_34 : decode cX7_page 34 = .ok (.invokevirtual 140, 3) := by decide +kernel
theorem dX7_page_37 : decode cX7_page 37 = .ok (.ifCond .ne 5, 3) := by decide +kernel
theorem dX7_page_40 : decode cX7_page 40 = .ok (.iconst 0, 1) := by decide +kernel
theorem dX7_page_41 : decode cX7_page 41 = .ok (.ireturn, 1) := by decide +kernel
theorem dX7_page_42 : decode cX7_page 42 = .ok (.iload_n 3, 1) := by decide +kernel
theorem dX7_page_43 : decode cX7_page 43 = .ok (.ifCond .ne 21, 3) := by decide +kernel
theorem dX7_page_46 : decode cX7_page 46 = .ok (.aload_n 0, 1) := by decide +kernel
theorem dX7_page_47 : decode cX7_page 47 = .ok (.getfield 7, 3) := by decide +kernel
theorem dX7_page_50 : decode cX7_page 50 = .ok (.iconst 0, 1) := by decide +kernel
theorem dX7_page_51 : decode cX7_page 51 = .ok (.iload_n 1, 1) := by decide +kernel
theorem dX7_page_52 : decode cX7_page 52 = .ok (.invokestatic 67, 3) := by decide +kernel
theorem dX7_page_55 : decode cX7_page 55 = .ok (.bipush 37, 2) := by decide +kernel
theorem dX7_page_57 : decode cX7_page 57 = .ok (.iadd, 1) := by decide +kernel
theorem dX7_page_58 : decode cX7_page 58 = .ok (.iload_n 2, 1) := by decide +kernel
theorem dX7_page_59 : decode cX7_page 59 = .ok (.iadd, 1) := by decide +kernel
theorem dX7_page_60 : decode cX7_page 60 = .ok (.iaload, 1) := by decide +kernel
theorem dX7_page_61 : decode cX7_page 61 = .ok (.goto 36, 3) := by decide +kernel
theorem dX7_page_64 : decode cX7_page 64 = .ok (.iload_n 3, 1) := by decide +kernel
theorem dX7_page_65 : decode cX7_page 65 = .ok (.iconst 1, 1) := by decide +kernel
theorem dX7_page_66 : decode cX7_page 66 = .ok (.if_icmp .ne 12, 3) := by decide +kernel
theorem dX7_page_69 : decode cX7_page 69 = .ok (.aload_n 0, 1) := by decide +kernel
theorem dX7_page_70 : decode cX7_page 70 = .ok (.iload_n 1, 1) := by decide +kernel
theorem dX7_page_71 : decode cX7_page 71 = .ok (.iload_n 2, 1) := by decide +kernel
theorem dX7_page_72 : decode cX7_page 72 = .ok (.invokevirtual 82, 3) := by decide +kernel
theorem dX7_page_75 : decode cX7_page 75 = .ok (.goto 22, 3) := by decide +kernel
theorem dX7_page_78 : decode cX7_page 78 = .ok (.aload_n 0, 1) := by decide +kernel
theorem dX7_page_79 : decode cX7_page 79 = .ok (.getfield 23, 3) := by decide +kernel
theorem dX7_page_82 : decode cX7_page 82 = .ok (.bipush 16, 2) := by decide +kernel
theorem dX7_page_84 : decode cX7_page 84 = .ok (.iload_n 1, 1) := by decide +kernel
theorem dX7_page_85 : decode cX7_page 85 = .ok (.imul, 1) := by decide +kernel
theorem dX7_page_86 : decode cX7_page 86 = .ok (.iload_n 2, 1) := by decide +kernel
theorem dX7_page_87 : decode cX7_page 87 = .ok (.iadd, 1) := by decide +kernel
theorem dX7_page_88 : decode cX7_page 88 = .ok (.baload, 1) := by decide +kernel
theorem dX7_page_89 : decode cX7_page 89 = .ok (.ifCond .eq 7, 3) := by decide +kernel
theorem dX7_page_92 : decode cX7_page 92 = .ok (.iconst 1, 1) := by decide +kernel
theorem dX7_page_93 : decode cX7_page 93 = .ok (.goto 4, 3) := by decide +kernel
theorem dX7_page_96 : decode cX7_page 96 = .ok (.iconst 0, 1) := by decide +kernel
theorem dX7_page_97 : decode cX7_page 97 = .ok (.ireturn, 1) := by decide +kernel
def f_X7_page (u0 : S1) (p1 : Int32) (p2 : Int32) (p3 : Int32) : Option (Int32 × S1) := bn (f_X7_isThing u0 p1) (fun z_1 => jn (fun (v34_2_0 : Int32) => bn (f_X7_can u0 v34_2_0) (fun z_3 => if z_3.1 = 0 then some (0, z_3.2) else jn (fun (v97_5_0 : Int32) => some (v97_5_0, z_3.2)) (fun k97_5 => if p3 = 0 then bn (f_X7_at 0 p1) (fun z_10 => chk (inb ((z_10 + 37) + p2) 8480) (k97_5 (z_3.2 0 ((z_10 + 37) + p2).toNatClampNeg))) else if p3 = 1 then bn (f_X7_blockOf z_3.2 p1 p2) (fun z_9 => k97_5 z_9) else chk (inb ((16 * p1) + p2) 512) (if (z_3.2 4 ((16 * p1) + p2).toNatClampNeg) = 0 then k97_5 0 else k97_5 1)))) (fun k34_2 => jn (k34_2 1) (fun k16_11 => if z_1 = 0 then k16_11 else bn (f_X7_isPage p2) (fun z_13 => if z_13 = 0 then k16_11 else bn (f_X7_isIn p3 0 2) (fun z_15 => if z_15 = 0 then k34_2 2 else k34_2 0)))))
def rmX7_page : Room := { frames := 3, cells := 0, slots := 0, locals := 65 }
set_option maxHeartbeats 4000000 in
set_option maxRecDepth 100000 in
theorem c_X7_page (l : Launch) (D : va_G) (cI cZ cJ cT : ClassId) (a0 : Nat → Nat) (sz : Nat) (u0 : S1) (p1 : Int32) (p2 : Int32) (p3 : Int32) (o : Int32 × S1) (hf : f_X7_page u0 p1 p2 p3 = some o) : Met l yX7_page wsX7_page rmX7_page (va_Pc [.ref (a0 0), .int p1, .int p2, .int p3] (PW D cls (tys cI cZ cJ cT) ((wX7 cI cZ a0 u0)) sz)) (QWi D cls o.1 ((wX7 cI cZ a0 o.2)) (va_A ((wX7 cI cZ a0 u0)) sz)) 0 0 (va_A ((wX7 cI cZ a0 u0)) sz) := by
  refine Met.ofW (cc := cX7_page) (maxL := 4) (ret := (some .int)) (by decide) rfl ?_
  intro p e s m args below meth c s₁ B hml hv
  obtain ⟨hav, hsz, hP, hK, hD0⟩ := hv
  have hx := B.exec
  have hb := B.bytes
  have hr := B.returns
  have hlocks := B.notSynchronized
  have hts := atoms_spec (ws := wsX7_page) B.pre
  have hown : s.vm.findClass RX7 = some m.cls := findClass_of_methodNamed B.named
  have i7 : ∀ w ∈ wsX70, w ∈ wsX7_page := fun w h => List.mem_cons_of_mem _ (List.mem_append_right _ h)
  have hk7 := hts (.fieldLink RX7 7 "InoderyModel" "s" "[I") (by decide +kernel)
  have hk23 := hts (.fieldLink RX7 23 "InoderyModel" "isDirty" "[Z") (by decide +kernel)
  subst hsz
  have hD := hD0.self (sz := s.heap.size)
  generalize hAe : va_A ((wX7 cI cZ a0 u0)) s.heap.size = A at hD ⊢
  have hA : ∀ q : Nat, s.heap.size ≤ q → A q := fun q h => by rw [← hAe]; exact Or.inr h
  have hS : va_S A s.heap s.heap [] := va_S.rf
  have hDD : ∀ w0 : S1, va_D A ((wX7 cI cZ a0 w0)) := fun _ => D_same (w := (wX7 cI cZ a0 u0)) rfl hD
  refine Wq (fun Q hQ => ?_)
  refine W_entry hav (Nat.le_of_ble_eq_true rfl) (fun ls hl => ?_)
  have hl : lv_has ls 4 [(0, .ref (a0 0)), (1, .int p1), (2, .int p2), (3, .int p3)] := hl
  unfold f_X7_page at hf
  refine W_heap hP hS (fun H locs hP hS => ?_)
  refine lv_aload_n hx hb dX7_page_0 rfl (lv_at hl 0 rfl) ?_
  refine lv_aload_n hx hb dX7_page_1 rfl (lv_at hl 0 rfl) ?_
  refine lv_iload_n hx hb dX7_page_2 rfl (lv_at hl 1 rfl) ?_
  obtain ⟨z_1, hz_1, hf⟩ := bn_some hf
  refine cRV (As := [.int p1]) (rest := [.ref (a0 0)]) ⟨hx, hb, hml, hown, hts⟩ (c_X7_isThing l D cI cZ cJ cT a0 u0 p1 z_1 hz_1) (cwV 1 hts gX7_page_X7_isThing rfl rfl rfl (by decide +kernel) ⟨Nat.le_of_ble_eq_true rfl, Nat.le_of_ble_eq_true rfl⟩) hP hK (va_recv hK hP (ci := 7) (q0 := 0) rfl rfl) rfl rfl hl.1 (Nat.le_of_ble_eq_true rfl) dX7_page_3 ⟨Nat.le_of_ble_eq_true rfl, Nat.le_of_ble_eq_true rfl⟩ ?_
  obtain ⟨k34_2, hk34_2, hf⟩ := jn_some hf
  have j34_2 : ∀ (v34_2_0 : Int32) (H : Heap) (locs : List Loc) (ls : Array Slot), k34_2 v34_2_0 = some o → va_P D cls (wX7 cI cZ a0 u0) H → va_S A s.heap H locs → lv_has ls 4 [(0, .ref (a0 0)), (1, .int p1), (2, .int p2), (3, .int p3)] → W p l e (headSpec wsX7_page rmX7_page).room s m args below meth c H locs 0 0 Q (F0 m 34 ls [.int v34_2_0, .ref (a0 0)]) := by
    intro v34_2_0 H locs ls hf hP hS hl
    have hf := qa1 hk34_2 hf
    obtain ⟨z_3, hz_3, hf⟩ := bn_some hf
    refine cWVi (As := [.int v34_2_0]) (rest := []) ⟨hx, hb, hml, hown, hts⟩ (c_X7_can l D cI cZ cJ cT a0 H.size u0 v34_2_0 z_3 hz_3) (cwV 1 hts gX7_page_X7_can rfl rfl rfl (by decide +kernel) ⟨Nat.le_of_ble_eq_true rfl, Nat.le_of_ble_eq_true rfl⟩) hP hK (hDD u0) hS (own_free (hDD u0) hS hA) (va_recv hK hP (ci := 7) (q0 := 0) rfl rfl) rfl rfl hl.1 (Nat.le_of_ble_eq_true rfl) dX7_page_34 ⟨Nat.le_of_ble_eq_true rfl, Nat.le_of_ble_eq_true rfl⟩ (fun H1 locs hP1 hk1 hS => ?_)
    have hP : va_P D cls (wX7 cI cZ a0 z_3.2) H1 := hP1
    clear hP1 hk1
    generalize H1 = H at hP hS ⊢
    refine lv_if_ne (tgt := 42) hx hb dX7_page_37 (by decide) (fun c_4 => ?_) (fun c_4 => ?_)
    · have hf := ite_f hf c_4
      refine lv_iload_n hx hb dX7_page_42 rfl (lv_at hl 3 rfl) ?_
      obtain ⟨k97_5, hk97_5, hf⟩ := jn_some hf
      have j97_5 : ∀ (v97_5_0 : Int32) (H : Heap) (locs : List Loc) (ls : Array Slot), k97_5 v97_5_0 = some o → va_P D cls (wX7 cI cZ a0 z_3.2) H → va_S A s.heap H locs → lv_has ls 4 [] → W p l e (headSpec wsX7_page rmX7_page).room s m args below meth c H locs 0 0 Q (F0 m 97 ls [.int v97_5_0]) := by
        intro v97_5_0 H locs ls hf hP hS hl
        have hf := qa1 hk97_5 hf
        have eo := Option.some.inj hf
        have hP : va_P D cls (wX7 cI cZ a0 o.2) H := by rw [← eo]; exact hP
        rw [hQ]
        exact W.iret hx hb hr (fun t ht hW => ⟨⟨_, (), rfl, congrArg Prod.fst eo, P_at ht hP⟩, hS.F ht⟩) hS.2.2 dX7_page_97 hlocks
      refine lv_if_ne (tgt := 64) hx hb dX7_page_43 (by decide) (fun c_6 => ?_) (fun c_6 => ?_)
      · have hf := ite_f hf c_6
        refine lv_iload_n hx hb dX7_page_64 rfl (lv_at hl 3 rfl) ?_
        refine lv_iconst (v := 1) hx hb dX7_page_65 (by decide) ?_
        refine lv_icmp_ne (tgt := 78) hx hb dX7_page_66 (by decide) (fun c_7 => ?_) (fun c_7 => ?_)
        · have hf := ite_f hf c_7
          refine lv_aload_n hx hb dX7_page_78 rfl (lv_at hl 0 rfl) ?_
          refine va_get (D := D) (ci := 7) (v := .ref (a0 5)) (C := RX7) (T := TX7) (N := 19) hx hb hts i7 hown hK hP 0 rfl rfl 4 (by decide) hk23 (fun _ h9 => h9) rfl dX7_page_79 ?_
          refine lv_bipush (v := 16) hx hb dX7_page_82 (by decide) ?_
          refine lv_iload_n hx hb dX7_page_84 rfl (lv_at hl 1 rfl) ?_
          refine lv_imul hx hb dX7_page_85 ?_
          refine lv_iload_n hx hb dX7_page_86 rfl (lv_at hl 2 rfl) ?_
          refine lv_iadd hx hb dX7_page_87 ?_
          obtain ⟨hi, hf⟩ := chk_some hf
          refine va_zald hx hb hK hP 5 1 rfl rfl (inb_in hi) dX7_page_88 ?_
          refine lv_if_eq (tgt := 96) hx hb dX7_page_89 (by decide) (fun c_8 => ?_) (fun c_8 => ?_)
          · have hf := ite_t hf c_8
            refine lv_iconst (v := 0) hx hb dX7_page_96 (by decide) ?_
            exact j97_5 _ _ _ _ hf hP hS (lv_sub hl [] rfl)
          · have hf := ite_f hf c_8
            refine lv_iconst (v := 1) hx hb dX7_page_92 (by decide) ?_
            refine lv_goto (tgt := 97) hx hb dX7_page_93 (by decide) ?_
            exact j97_5 _ _ _ _ hf hP hS (lv_sub hl [] rfl)
        · have hf := ite_t hf c_7
          refine lv_aload_n hx hb dX7_page_69 rfl (lv_at hl 0 rfl) ?_
          refine lv_iload_n hx hb dX7_page_70 rfl (lv_at hl 1 rfl) ?_
          refine lv_iload_n hx hb dX7_page_71 rfl (lv_at hl 2 rfl) ?_
          obtain ⟨z_9, hz_9, hf⟩ := bn_some hf
          refine cRV (As := [.int p1, .int p2]) (rest := []) ⟨hx, hb, hml, hown, hts⟩ (c_X7_blockOf l D cI cZ cJ cT a0 z_3.2 p1 p2 z_9 hz_9) (cwV 2 hts gX7_page_X7_blockOf rfl rfl rfl (by decide +kernel) ⟨Nat.le_of_ble_eq_true rfl, Nat.le_of_ble_eq_true rfl⟩) hP hK (va_recv hK hP (ci := 7) (q0 := 0) rfl rfl) rfl rfl hl.1 (Nat.le_of_ble_eq_true rfl) dX7_page_72 ⟨Nat.le_of_ble_eq_true rfl, Nat.le_of_ble_eq_true rfl⟩ ?_
          refine lv_goto (tgt := 97) hx hb dX7_page_75 (by decide) ?_
          exact j97_5 _ _ _ _ hf hP hS (lv_sub hl [] rfl)
      · have hf := ite_t hf c_6
        refine lv_aload_n hx hb dX7_page_46 rfl (lv_at hl 0 rfl) ?_
        refine va_get (D := D) (ci := 7) (v := .ref (a0 1)) (C := RX7) (T := TX7) (N := 19) hx hb hts i7 hown hK hP 0 rfl rfl 0 (by decide) hk7 (fun _ h9 => h9) rfl dX7_page_47 ?_
        refine lv_iconst (v := 0) hx hb dX7_page_50 (by decide) ?_
        refine lv_iload_n hx hb dX7_page_51 rfl (lv_at hl 1 rfl) ?_
        obtain ⟨z_10, hz_10, hf⟩ := bn_some hf
        refine c0S (As := [.int 0, .int p1]) (rest := [.ref (a0 1)]) ⟨hx, hb, hml, hown, hts⟩ (c_X7_at l D cI cZ cJ cT 0 p1 z_10 hz_10) (va_cwS 2 hts gX7_page_X7_at rfl rfl rfl (by decide +kernel) ⟨Nat.le_of_ble_eq_true rfl, Nat.le_of_ble_eq_true rfl⟩) rfl rfl hl.1 (Nat.le_of_ble_eq_true rfl) dX7_page_52 ⟨Nat.le_of_ble_eq_true rfl, Nat.le_of_ble_eq_true rfl⟩ ?_
        refine lv_bipush (v := 37) hx hb dX7_page_55 (by decide) ?_
        refine lv_iadd hx hb dX7_page_57 ?_
        refine lv_iload_n hx hb dX7_page_58 rfl (lv_at hl 2 rfl) ?_
        refine lv_iadd hx hb dX7_page_59 ?_
        obtain ⟨hi, hf⟩ := chk_some hf
        refine va_iald hx hb hK hP 1 0 rfl rfl (inb_in hi) dX7_page_60 ?_
        refine lv_goto (tgt := 97) hx hb dX7_page_61 (by decide) ?_
        exact j97_5 _ _ _ _ hf hP hS (lv_sub hl [] rfl)
    · have hf := ite_t hf c_4
      refine lv_iconst (v := 0) hx hb dX7_page_40 (by decide) ?_
      have eo := Option.some.inj hf
      have hP : va_P D cls (wX7 cI cZ a0 o.2) H := by rw [← eo]; exact hP
      rw [hQ]
      exact W.iret hx hb hr (fun t ht hW => ⟨⟨_, (), rfl, congrArg Prod.fst eo, P_at ht hP⟩, hS.F ht⟩) hS.2.2 dX7_page_41 hlocks
  obtain ⟨k16_11, hk16_11, hf⟩ := jn_some hf
  have j16_11 : ∀ (H : Heap) (locs : List Loc) (ls : Array Slot), k16_11 = some o → va_P D cls (wX7 cI cZ a0 u0) H → va_S A s.heap H locs → lv_has ls 4 [(0, .ref (a0 0)), (1, .int p1), (2, .int p2), (3, .int p3)] → W p l e (headSpec wsX7_page rmX7_page).room s m args below meth c H locs 0 0 Q (F0 m 16 ls [.ref (a0 0)]) := by
    intro H locs ls hf hP hS hl
    have hf := qa0 hk16_11 hf
    refine lv_iconst (v := 1) hx hb dX7_page_16 (by decide) ?_
    refine lv_goto (tgt := 34) hx hb dX7_page_17 (by decide) ?_
    exact j34_2 _ _ _ _ hf hP hS (lv_sub hl [0, 1, 2, 3] rfl)
  refine lv_if_eq (tgt := 16) hx hb dX7_page_6 (by decide) (fun c_12 => ?_) (fun c_12 => ?_)
  · have hf := ite_t hf c_12
    exact j16_11 _ _ _ hf hP hS (lv_sub hl [0, 1, 2, 3] rfl)
  · have hf := ite_f hf c_12
    refine lv_iload_n hx hb dX7_page_9 rfl (lv_at hl 2 rfl) ?_
    obtain ⟨z_13, hz_13, hf⟩ := bn_some hf
    refine c0S (As := [.int p2]) (rest := [.ref (a0 0)]) ⟨hx, hb, hml, hown, hts⟩ (c_X7_isPage l D cI cZ cJ cT p2 z_13 hz_13) (va_cwS 1 hts gX7_page_X7_isPage rfl rfl rfl (by decide +kernel) ⟨Nat.le_of_ble_eq_true rfl, Nat.le_of_ble_eq_true rfl⟩) rfl rfl hl.1 (Nat.le_of_ble_eq_true rfl) dX7_page_10 ⟨Nat.le_of_ble_eq_true rfl, Nat.le_of_ble_eq_true rfl⟩ ?_
    refine lv_if_ne (tgt := 20) hx hb dX7_page_13 (by decide) (fun c_14 => ?_) (fun c_14 => ?_)
    · have hf := ite_f hf c_14
      refine lv_iload_n hx hb dX7_page_20 rfl (lv_at hl 3 rfl) ?_
      refine lv_iconst (v := 0) hx hb dX7_page_21 (by decide) ?_
      refine lv_iconst (v := 2) hx hb dX7_page_22 (by decide) ?_
      obtain ⟨z_15, hz_15, hf⟩ := bn_some hf
      refine c0S (As := [.int p3, .int 0, .int 2]) (rest := [.ref (a0 0)]) ⟨hx, hb, hml, hown, hts⟩ (c_X7_isIn l D cI cZ cJ cT p3 0 2 z_15 hz_15) (va_cwS 3 hts gX7_page_X7_isIn rfl rfl rfl (by decide +kernel) ⟨Nat.le_of_ble_eq_true rfl, Nat.le_of_ble_eq_true rfl⟩) rfl rfl hl.1 (Nat.le_of_ble_eq_true rfl) dX7_page_23 ⟨Nat.le_of_ble_eq_true rfl, Nat.le_of_ble_eq_true rfl⟩ ?_
      refine lv_if_eq (tgt := 33) hx hb dX7_page_26 (by decide) (fun c_16 => ?_) (fun c_16 => ?_)
      · have hf := ite_t hf c_16
        refine lv_iconst (v := 2) hx hb dX7_page_33 (by decide) ?_
        exact j34_2 _ _ _ _ hf hP hS (lv_sub hl [0, 1, 2, 3] rfl)
      · have hf := ite_f hf c_16
        refine lv_iconst (v := 0) hx hb dX7_page_29 (by decide) ?_
        refine lv_goto (tgt := 34) hx hb dX7_page_30 (by decide) ?_
        exact j34_2 _ _ _ _ hf hP hS (lv_sub hl [0, 1, 2, 3] rfl)
    · have hf := ite_t hf c_14
      exact j16_11 _ _ _ hf hP hS (lv_sub hl [0, 1, 2, 3] rfl)
set_option maxRecDepth 20000 in
theorem ggX7_number_X7_can : GoodIn wsX7_number wsX7_can := goodIn_r _ [12, 13, 14, 15, 16, 17, 18, 19, 20, 21, 22, 23, 24, 25, 26, 27, 28, 29, 30, 31, 32] (by decide +kernel) (by decide +kernel)
set_option maxRecDepth 20000 in
theorem gX7_number_X7_can : GoodIn wsX7_number (wsV RX7 140 RX7 yX7_can wsX7_can) := goodIn_app (goodIn_of _ (by decide +kernel)) ggX7_number_X7_can
set_option maxRecDepth 20000 in
theorem ggX7_number_X7_isBlock : GoodIn wsX7_number wsX7_isBlock := goodIn_r _ [5, 6, 7, 4, 8] (by decide +kernel) (by decide +kernel)
set_option maxRecDepth 20000 in
theorem gX7_number_X7_isBlock : GoodIn wsX7_number (va_wsS RX7 234 yX7_isBlock wsX7_isBlock) := goodIn_app (goodIn_of _ (by decide +kernel)) ggX7_number_X7_isBlock
theorem dX7_number_0 : decode cX7_number 0 = .ok (.aload_n 0, 1) := by decide +kernel
theorem dX7_number_1 : decode cX7_number 1 = .ok (.iload_n 1, 1) := by decide +kernel
theorem dX7_number_2 : decode cX7_number 2 = .ok (.invokestatic 234, 3) := by decide +kernel
theorem dX7_number_5 : decode cX7_number 5 = .ok (.ifCond .eq 7, 3) := by decide +kernel
theorem dX7_number_8 : decode cX7_number 8 = .ok (.iconst 0, 1) := by decide +kernel
theorem dX7_number_9 : decode cX7_number 9 = .ok (.goto 4, 3) := by decide +kernel
theorem dX7_number_12 : decode cX7_number 12 = .ok (.iconst 1, 1) := by decide +kernel
theorem dX7_number_13 : decode cX7_number 13 = .ok (.invokevirtual 140, 3) := by decide +kernel
theorem dX7_number_16 : decode cX7_number 16 = .ok (.ifCond .eq 12, 3) := by decide +kernel
theorem dX7_number_19 : decode cX7_number 19 = .ok (.aload_n 0, 1) := by decide +kernel
theorem dX7_number_20 : decode cX7_number 20 = .ok (.getfield 17, 3) := by decide +kernel
theorem dX7_number_23 : decode cX7_number 23 = .ok (.iload_n 1, 1) := by decide +kernel
theorem dX7_number_24 : decode cX7_number 24 = .ok (.iaload, 1) := by decide +kernel
theorem dX7_number_25 : decode cX7_number 25 = .ok (.goto 4, 3) := by decide +kernel
theorem dX7_number_28 : decode cX7_number 28 = .ok (.iconst 0, 1) := by decide +kernel
theorem dX7_number_29 : decode cX7_number 29 = .ok (.ireturn, 1) := by decide +kernel
def f_X7_number (u0 : S1) (p1 : Int32) : Option (Int32 × S1) := bn (f_X7_isBlock p1) (fun z_1 => jn (fun (v13_2_0 : Int32) => bn (f_X7_can u0 v13_2_0) (fun z_3 => jn (fun (v29_4_0 : Int32) => some (v29_4_0, z_3.2)) (fun k29_4 => if z_3.1 = 0 then k29_4 0 else chk (inb p1 64) (k29_4 (z_3.2 2 (p1).toNatClampNeg))))) (fun k13_2 => if z_1 = 0 then k13_2 1 else k13_2 0))
def rmX7_number : Room := { frames := 2, cells := 0, slots := 0, locals := 42 }
set_option maxHeartbeats 4000000 in
set_option maxRecDepth 100000 in
theorem c_X7_number (l : Launch) (D : va_G) (cI cZ cJ cT : ClassId) (a0 : Nat → Nat) (sz : Nat) (u0 : S1) (p1 : Int32) (o : Int32 × S1) (hf : f_X7_number u0 p1 = some o) : Met l yX7_number wsX7_number rmX7_number (va_Pc [.ref (a0 0), .int p1] (PW D cls (tys cI cZ cJ cT) ((wX7 cI cZ a0 u0)) sz)) (QWi D cls o.1 ((wX7 cI cZ a0 o.2)) (va_A ((wX7 cI cZ a0 u0)) sz)) 0 0 (va_A ((wX7 cI cZ a0 u0)) sz) := by
  refine Met.ofW (cc := cX7_number) (maxL := 2) (ret := (some .int)) (by decide) rfl ?_
  intro p e s m args below meth c s₁ B hml hv
  obtain ⟨hav, hsz, hP, hK, hD0⟩ := hv
  have hx := B.exec
  have hb := B.bytes
  have hr := B.returns
  have hlocks := B.notSynchronized
  have hts := atoms_spec (ws := wsX7_number) B.pre
  have hown : s.vm.findClass RX7 = some m.cls := findClass_of_methodNamed B.named
  have i7 : ∀ w ∈ wsX70, w ∈ wsX7_number := fun w h => List.mem_cons_of_mem _ (List.mem_append_right _ h)
  have hk17 := hts (.fieldLink RX7 17 "InoderyModel" "number" "[I") (by decide +kernel)
  subst hsz
  have hD := hD0.self (sz := s.heap.size)
  generalize hAe : va_A ((wX7 cI cZ a0 u0)) s.heap.size = A at hD ⊢
  have hA : ∀ q : Nat, s.heap.size ≤ q → A q := fun q h => by rw [← hAe]; exact Or.inr h
  have hS : va_S A s.heap s.heap [] := va_S.rf
  have hDD : ∀ w0 : S1, va_D A ((wX7 cI cZ a0 w0)) := fun _ => D_same (w := (wX7 cI cZ a0 u0)) rfl hD
  refine Wq (fun Q hQ => ?_)
  refine W_entry hav (Nat.le_of_ble_eq_true rfl) (fun ls hl => ?_)
  have hl : lv_has ls 2 [(0, .ref (a0 0)), (1, .int p1)] := hl
  unfold f_X7_number at hf
  refine W_heap hP hS (fun H locs hP hS => ?_)
  refine lv_aload_n hx hb dX7_number_0 rfl (lv_at hl 0 rfl) ?_
  refine lv_iload_n hx hb dX7_number_1 rfl (lv_at hl 1 rfl) ?_
  obtain ⟨z_1, hz_1, hf⟩ := bn_some hf
  refine c0S (As := [.int p1]) (rest := [.ref (a0 0)]) ⟨hx, hb, hml, hown, hts⟩ (c_X7_isBlock l D cI cZ cJ cT p1 z_1 hz_1) (va_cwS 1 hts gX7_number_X7_isBlock rfl rfl rfl (by decide +kernel) ⟨Nat.le_of_ble_eq_true rfl, Nat.le_of_ble_eq_true rfl⟩) rfl rfl hl.1 (Nat.le_of_ble_eq_true rfl) dX7_number_2 ⟨Nat.le_of_ble_eq_true rfl, Nat.le_of_ble_eq_true rfl⟩ ?_
  obtain ⟨k13_2, hk13_2, hf⟩ := jn_some hf
  have j13_2 : ∀ (v13_2_0 : Int32) (H : Heap) (locs : List Loc) (ls : Array Slot), k13_2 v13_2_0 = some o → va_P D cls (wX7 cI cZ a0 u0) H → va_S A s.heap H locs → lv_has ls 2 [(0, .ref (a0 0)), (1, .int p1)] → W p l e (headSpec wsX7_number rmX7_number).room s m args below meth c H locs 0 0 Q (F0 m 13 ls [.int v13_2_0, .ref (a0 0)]) := by
    intro v13_2_0 H locs ls hf hP hS hl
    have hf := qa1 hk13_2 hf
    obtain ⟨z_3, hz_3, hf⟩ := bn_some hf
    refine cWVi (As := [.int v13_2_0]) (rest := []) ⟨hx, hb, hml, hown, hts⟩ (c_X7_can l D cI cZ cJ cT a0 H.size u0 v13_2_0 z_3 hz_3) (cwV 1 hts gX7_number_X7_can rfl rfl rfl (by decide +kernel) ⟨Nat.le_of_ble_eq_true rfl, Nat.le_of_ble_eq_true rfl⟩) hP hK (hDD u0) hS (own_free (hDD u0) hS hA) (va_recv hK hP (ci := 7) (q0 := 0) rfl rfl) rfl rfl hl.1 (Nat.le_of_ble_eq_true rfl) dX7_number_13 ⟨Nat.le_of_ble_eq_true rfl, Nat.le_of_ble_eq_true rfl⟩ (fun H1 locs hP1 hk1 hS => ?_)
    have hP : va_P D cls (wX7 cI cZ a0 z_3.2) H1 := hP1
    clear hP1 hk1
    generalize H1 = H at hP hS ⊢
    obtain ⟨k29_4, hk29_4, hf⟩ := jn_some hf
    have j29_4 : ∀ (v29_4_0 : Int32) (H : Heap) (locs : List Loc) (ls : Array Slot), k29_4 v29_4_0 = some o → va_P D cls (wX7 cI cZ a0 z_3.2) H → va_S A s.heap H locs → lv_has ls 2 [] → W p l e (headSpec wsX7_number rmX7_number).room s m args below meth c H locs 0 0 Q (F0 m 29 ls [.int v29_4_0]) := by
      intro v29_4_0 H locs ls hf hP hS hl
      have hf := qa1 hk29_4 hf
      have eo := Option.some.inj hf
      have hP : va_P D cls (wX7 cI cZ a0 o.2) H := by rw [← eo]; exact hP
      rw [hQ]
      exact W.iret hx hb hr (fun t ht hW => ⟨⟨_, (), rfl, congrArg Prod.fst eo, P_at ht hP⟩, hS.F ht⟩) hS.2.2 dX7_number_29 hlocks
    refine lv_if_eq (tgt := 28) hx hb dX7_number_16 (by decide) (fun c_5 => ?_) (fun c_5 => ?_)
    · have hf := ite_t hf c_5
      refine lv_iconst (v := 0) hx hb dX7_number_28 (by decide) ?_
      exact j29_4 _ _ _ _ hf hP hS (lv_sub hl [] rfl)
    · have hf := ite_f hf c_5
      refine lv_aload_n hx hb dX7_number_19 rfl (lv_at hl 0 rfl) ?_
      refine va_get (D := D) (ci := 7) (v := .ref (a0 3)) (C := RX7) (T := TX7) (N := 19) hx hb hts i7 hown hK hP 0 rfl rfl 2 (by decide) hk17 (fun _ h9 => h9) rfl dX7_number_20 ?_
      refine lv_iload_n hx hb dX7_number_23 rfl (lv_at hl 1 rfl) ?_
      obtain ⟨hi, hf⟩ := chk_some hf
      refine va_iald hx hb hK hP 3 0 rfl rfl (inb_in hi) dX7_number_24 ?_
      refine lv_goto (tgt := 29) hx hb dX7_number_25 (by decide) ?_
      exact j29_4 _ _ _ _ hf hP hS (lv_sub hl [] rfl)
  refine lv_if_eq (tgt := 12) hx hb dX7_number_5 (by decide) (fun c_6 => ?_) (fun c_6 => ?_)
  · have hf := ite_t hf c_6
    refine lv_iconst (v := 1) hx hb dX7_number_12 (by decide) ?_
    exact j13_2 _ _ _ _ hf hP hS (lv_sub hl [0, 1] rfl)
  · have hf := ite_f hf c_6
    refine lv_iconst (v := 0) hx hb dX7_number_8 (by decide) ?_
    refine lv_goto (tgt := 13) hx hb dX7_number_9 (by decide) ?_
    exact j13_2 _ _ _ _ hf hP hS (lv_sub hl [0, 1] rfl)
set_option maxRecDepth 20000 in
theorem ggX7_isFree_X7_can : GoodIn wsX7_isFree wsX7_can := goodIn_r _ [11, 12, 26, 27, 28, 29, 30, 31, 32, 33, 34, 35, 36, 37, 38, 39, 40, 41, 42, 43, 44] (by decide +kernel) (by decide +kernel)
set_option maxRecDepth 20000 in
theorem gX7_isFree_X7_can : GoodIn wsX7_isFree (wsV RX7 140 RX7 yX7_can wsX7_can) := goodIn_app (goodIn_of _ (by decide +kernel)) ggX7_isFree_X7_can
set_option maxRecDepth 20000 in
theorem ggX7_isFree_X7_frees : GoodIn wsX7_isFree wsX7_frees := goodIn_r _ [16, 17, 18, 19, 3, 20, 21, 22, 23, 24, 25, 26, 27, 28, 29, 30, 31, 32, 33, 34, 35, 36, 37, 38, 39, 40, 41, 42, 43, 44] (by decide +kernel) (by decide +kernel)
set_option maxRecDepth 20000 in
theorem gX7_isFree_X7_frees : GoodIn wsX7_isFree (wsV RX7 195 RX7 yX7_frees wsX7_frees) := goodIn_app (goodIn_of _ (by decide +kernel)) ggX7_isFree_X7_frees
set_option maxRecDepth 20000 in
theorem ggX7_isFree_X7_isBlock : GoodIn wsX7_isFree wsX7_isBlock := goodIn_r _ [4, 5, 6, 3, 7] (by decide +kernel) (by decide +kernel)
set_option maxRecDepth 20000 in
theorem gX7_isFree_X7_isBlock : GoodIn wsX7_isFree (va_wsS RX7 234 yX7_isBlock wsX7_isBlock) := goodIn_app (goodIn_of _ (by decide +kernel)) ggX7_isFree_X7_isBlock
theorem dX7_isFree_0 : decode cX7_isFree 0 = .ok (.aload_n 0, 1) := by decide +kernel
theorem dX7_isFree_1 : decode cX7_isFree 1 = .ok (.iload_n 1, 1) := by decide +kernel
theorem dX7_isFree_2 : decode cX7_isFree 2 = .ok (.invokestatic 234, 3) := by decide +kernel
theorem dX7_isFree_5 : decode cX7_isFree 5 = .ok (.ifCond .eq 7, 3) := by decide +kernel
theorem dX7_isFree_8 : decode cX7_isFree 8 = .ok (.iconst 0, 1) := by decide +kernel
theorem dX7_isFree_9 : decode cX7_isFree 9 = .ok (.goto 4, 3) := by decide +kernel
theorem dX7_isFree_12 : decode cX7_isFree 12 = .ok (.iconst 1, 1) := by decide +kernel
theorem dX7_isFree_13 : decode cX7_isFree 13 = .ok (.invokevirtual 140, 3) := by decide +kernel
theorem dX7_isFree_16 : decode cX7_isFree 16 = .ok (.ifCond .eq 15, 3) := by decide +kernel
theorem dX7_isFree_19 : decode cX7_isFree 19 = .ok (.aload_n 0, 1) := by decide +kernel
theorem dX7_isFree_20 : decode cX7_isFree 20 = .ok (.iload_n 1, 1) := by decide +kernel
theorem dX7_isFree_21 : decode cX7_isFree 21 = .ok (.invokevirtual 195, 3) := by decide +kernel
theorem dX7_isFree_24 : decode cX7_isFree 24 = .ok (.ifCond .eq 7, 3) := by decide +kernel
theorem dX7_isFree_27 : decode cX7_isFree 27 = .ok (.iconst 1, 1) := by decide +kernel
theorem dX7_isFree_28 : decode cX7_isFree 28 = .ok (.goto 4, 3) := by decide +kernel
theorem dX7_isFree_31 : decode cX7_isFree 31 = .ok (.iconst 0, 1) := by decide +kernel
theorem dX7_isFree_32 : decode cX7_isFree 32 = .ok (.ireturn, 1) := by decide +kernel
def f_X7_isFree (u0 : S1) (p1 : Int32) : Option (Int32 × S1) := bn (f_X7_isBlock p1) (fun z_1 => jn (fun (v13_2_0 : Int32) => bn (f_X7_can u0 v13_2_0) (fun z_3 => jn (fun (v32_4_0 : Int32) => some (vp_nar .boolean v32_4_0, z_3.2)) (fun k32_4 => jn (k32_4 0) (fun k31_5 => if z_3.1 = 0 then k31_5 else bn (f_X7_frees z_3.2 p1) (fun z_7 => if z_7 = 0 then k31_5 else k32_4 1))))) (fun k13_2 => if z_1 = 0 then k13_2 1 else k13_2 0))
def rmX7_isFree : Room := { frames := 3, cells := 0, slots := 0, locals := 68 }
set_option maxHeartbeats 4000000 in
set_option maxRecDepth 100000 in
theorem c_X7_isFree (l : Launch) (D : va_G) (cI cZ cJ cT : ClassId) (a0 : Nat → Nat) (sz : Nat) (u0 : S1) (p1 : Int32) (o : Int32 × S1) (hf : f_X7_isFree u0 p1 = some o) : Met l yX7_isFree wsX7_isFree rmX7_isFree (va_Pc [.ref (a0 0), .int p1] (PW D cls (tys cI cZ cJ cT) ((wX7 cI cZ a0 u0)) sz)) (QWi D cls o.1 ((wX7 cI cZ a0 o.2)) (va_A ((wX7 cI cZ a0 u0)) sz)) 0 0 (va_A ((wX7 cI cZ a0 u0)) sz) := by
  refine Met.ofW (cc := cX7_isFree) (maxL := 2) (ret := (some .boolean)) (by decide) rfl ?_
  intro p e s m args below meth c s₁ B hml hv
  obtain ⟨hav, hsz, hP, hK, hD0⟩ := hv
  have hx := B.exec
  have hb := B.bytes
  have hr := B.returns
  have hlocks := B.notSynchronized
  have hts := atoms_spec (ws := wsX7_isFree) B.pre
  have hown : s.vm.findClass RX7 = some m.cls := findClass_of_methodNamed B.named
  subst hsz
  have hD := hD0.self (sz := s.heap.size)
  generalize hAe : va_A ((wX7 cI cZ a0 u0)) s.heap.size = A at hD ⊢
  have hA : ∀ q : Nat, s.heap.size ≤ q → A q := fun q h => by rw [← hAe]; exact Or.inr h
  have hS : va_S A s.heap s.heap [] := va_S.rf
  have hDD : ∀ w0 : S1, va_D A ((wX7 cI cZ a0 w0)) := fun _ => D_same (w := (wX7 cI cZ a0 u0)) rfl hD
  refine Wq (fun Q hQ => ?_)
  refine W_entry hav (Nat.le_of_ble_eq_true rfl) (fun ls hl => ?_)
  have hl : lv_has ls 2 [(0, .ref (a0 0)), (1, .int p1)] := hl
  unfold f_X7_isFree at hf
  refine W_heap hP hS (fun H locs hP hS => ?_)
  refine lv_aload_n hx hb dX7_isFree_0 rfl (lv_at hl 0 rfl) ?_
  refine lv_iload_n hx hb dX7_isFree_1 rfl (lv_at hl 1 rfl) ?_
  obtain ⟨z_1, hz_1, hf⟩ := bn_some hf
  refine c0S (As := [.int p1]) (rest := [.ref (a0 0)]) ⟨hx, hb, hml, hown, hts⟩ (c_X7_isBlock l D cI cZ cJ cT p1 z_1 hz_1) (va_cwS 1 hts gX7_isFree_X7_isBlock rfl rfl rfl (by decide +kernel) ⟨Nat.le_of_ble_eq_true rfl, Nat.le_of_ble_eq_true rfl⟩) rfl rfl hl.1 (Nat.le_of_ble_eq_true rfl) dX7_isFree_2 ⟨Nat.le_of_ble_eq_true rfl, Nat.le_of_ble_eq_true rfl⟩ ?_
  obtain ⟨k13_2, hk13_2, hf⟩ := jn_some hf
  have j13_2 : ∀ (v13_2_0 : Int32) (H : Heap) (locs : List Loc) (ls : Array Slot), k13_2 v13_2_0 = some o → va_P D cls (wX7 cI cZ a0 u0) H → va_S A s.heap H locs → lv_has ls 2 [(0, .ref (a0 0)), (1, .int p1)] → W p l e (headSpec wsX7_isFree rmX7_isFree).room s m args below meth c H locs 0 0 Q (F0 m 13 ls [.int v13_2_0, .ref (a0 0)]) := by
    intro v13_2_0 H locs ls hf hP hS hl
    have hf := qa1 hk13_2 hf
    obtain ⟨z_3, hz_3, hf⟩ := bn_some hf
    refine cWVi (As := [.int v13_2_0]) (rest := []) ⟨hx, hb, hml, hown, hts⟩ (c_X7_can l D cI cZ cJ cT a0 H.size u0 v13_2_0 z_3 hz_3) (cwV 1 hts gX7_isFree_X7_can rfl rfl rfl (by decide +kernel) ⟨Nat.le_of_ble_eq_true rfl, Nat.le_of_ble_eq_true rfl⟩) hP hK (hDD u0) hS (own_free (hDD u0) hS hA) (va_recv hK hP (ci := 7) (q0 := 0) rfl rfl) rfl rfl hl.1 (Nat.le_of_ble_eq_true rfl) dX7_isFree_13 ⟨Nat.le_of_ble_eq_true rfl, Nat.le_of_ble_eq_true rfl⟩ (fun H1 locs hP1 hk1 hS => ?_)
    have hP : va_P D cls (wX7 cI cZ a0 z_3.2) H1 := hP1
    clear hP1 hk1
    generalize H1 = H at hP hS ⊢
    obtain ⟨k32_4, hk32_4, hf⟩ := jn_some hf
    have j32_4 : ∀ (v32_4_0 : Int32) (H : Heap) (locs : List Loc) (ls : Array Slot), k32_4 v32_4_0 = some o → va_P D cls (wX7 cI cZ a0 z_3.2) H → va_S A s.heap H locs → lv_has ls 2 [] → W p l e (headSpec wsX7_isFree rmX7_isFree).room s m args below meth c H locs 0 0 Q (F0 m 32 ls [.int v32_4_0]) := by
      intro v32_4_0 H locs ls hf hP hS hl
      have hf := qa1 hk32_4 hf
      have eo := Option.some.inj hf
      have hP : va_P D cls (wX7 cI cZ a0 o.2) H := by rw [← eo]; exact hP
      rw [hQ]
      exact zretN (v := v32_4_0) (v' := vp_nar .boolean v32_4_0) hx hb hr rfl (fun t ht hW => ⟨⟨_, (), rfl, congrArg Prod.fst eo, P_at ht hP⟩, hS.F ht⟩) hS.2.2 dX7_isFree_32 hlocks
    obtain ⟨k31_5, hk31_5, hf⟩ := jn_some hf
    have j31_5 : ∀ (H : Heap) (locs : List Loc) (ls : Array Slot), k31_5 = some o → va_P D cls (wX7 cI cZ a0 z_3.2) H → va_S A s.heap H locs → lv_has ls 2 [] → W p l e (headSpec wsX7_isFree rmX7_isFree).room s m args below meth c H locs 0 0 Q (F0 m 31 ls []) := by
      intro H locs ls hf hP hS hl
      have hf := qa0 hk31_5 hf
      refine lv_iconst (v := 0) hx hb dX7_isFree_31 (by decide) ?_
      exact j32_4 _ _ _ _ hf hP hS (lv_sub hl [] rfl)
    refine lv_if_eq (tgt := 31) hx hb dX7_isFree_16 (by decide) (fun c_6 => ?_) (fun c_6 => ?_)
    · have hf := ite_t hf c_6
      exact j31_5 _ _ _ hf hP hS (lv_sub hl [] rfl)
    · have hf := ite_f hf c_6
      refine lv_aload_n hx hb dX7_isFree_19 rfl (lv_at hl 0 rfl) ?_
      refine lv_iload_n hx hb dX7_isFree_20 rfl (lv_at hl 1 rfl) ?_
      obtain ⟨z_7, hz_7, hf⟩ := bn_some hf
      refine cRV (As := [.int p1]) (rest := []) ⟨hx, hb, hml, hown, hts⟩ (c_X7_frees l D cI cZ cJ cT a0 z_3.2 p1 z_7 hz_7) (cwV 1 hts gX7_isFree_X7_frees rfl rfl rfl (by decide +kernel) ⟨Nat.le_of_ble_eq_true rfl, Nat.le_of_ble_eq_true rfl⟩) hP hK (va_recv hK hP (ci := 7) (q0 := 0) rfl rfl) rfl rfl hl.1 (Nat.le_of_ble_eq_true rfl) dX7_isFree_21 ⟨Nat.le_of_ble_eq_true rfl, Nat.le_of_ble_eq_true rfl⟩ ?_
      refine lv_if_eq (tgt := 31) hx hb dX7_isFree_24 (by decide) (fun c_8 => ?_) (fun c_8 => ?_)
      · have hf := ite_t hf c_8
        exact j31_5 _ _ _ hf hP hS (lv_sub hl [] rfl)
      · have hf := ite_f hf c_8
        refine lv_iconst (v := 1) hx hb dX7_isFree_27 (by decide) ?_
        refine lv_goto (tgt := 32) hx hb dX7_isFree_28 (by decide) ?_
        exact j32_4 _ _ _ _ hf hP hS (lv_sub hl [] rfl)
  refine lv_if_eq (tgt := 12) hx hb dX7_isFree_5 (by decide) (fun c_9 => ?_) (fun c_9 => ?_)
  · have hf := ite_t hf c_9
    refine lv_iconst (v := 1) hx hb dX7_isFree_12 (by decide) ?_
    exact j13_2 _ _ _ _ hf hP hS (lv_sub hl [0, 1] rfl)
  · have hf := ite_f hf c_9
    refine lv_iconst (v := 0) hx hb dX7_isFree_8 (by decide) ?_
    refine lv_goto (tgt := 13) hx hb dX7_isFree_9 (by decide) ?_
    exact j13_2 _ _ _ _ hf hP hS (lv_sub hl [0, 1] rfl)
set_option maxRecDepth 20000 in
theorem ggX7_used_X7_blocksOf : GoodIn wsX7_used wsX7_blocksOf := goodIn_r _ [16, 17, 18, 19, 3, 20, 21, 22, 23, 24, 25, 26, 27, 28, 29, 30, 31, 32, 33, 34, 35, 36, 37, 38, 39, 40, 41, 42, 43, 44, 45, 46, 47] (by decide +kernel) (by decide +kernel)
set_option maxRecDepth 20000 in
theorem gX7_used_X7_blocksOf : GoodIn wsX7_used (wsV RX7 198 RX7 yX7_blocksOf wsX7_blocksOf) := goodIn_app (goodIn_of _ (by decide +kernel)) ggX7_used_X7_blocksOf
set_option maxRecDepth 20000 in
theorem ggX7_used_X7_can : GoodIn wsX7_used wsX7_can := goodIn_r _ [11, 12, 29, 30, 31, 32, 33, 34, 35, 36, 37, 38, 39, 40, 41, 42, 43, 44, 45, 46, 47] (by decide +kernel) (by decide +kernel)
set_option maxRecDepth 20000 in
theorem gX7_used_X7_can : GoodIn wsX7_used (wsV RX7 140 RX7 yX7_can wsX7_can) := goodIn_app (goodIn_of _ (by decide +kernel)) ggX7_used_X7_can
set_option maxRecDepth 20000 in
theorem ggX7_used_X7_isUser : GoodIn wsX7_used wsX7_isUser := goodIn_r _ [4, 5, 6, 3, 7] (by decide +kernel) (by decide +kernel)
set_option maxRecDepth 20000 in
theorem gX7_used_X7_isUser : GoodIn wsX7_used (va_wsS RX7 137 yX7_isUser wsX7_isUser) := goodIn_app (goodIn_of _ (by decide +kernel)) ggX7_used_X7_isUser
theorem dX7_used_0 : decode cX7_used 0 = .ok (.aload_n 0, 1) := by decide +kernel
theorem dX7_used_1 : decode cX7_used 1 = .ok (.iload_n 1, 1) := by decide +kernel
theorem dX7_used_2 : decode cX7_used 2 = .ok (.invokestatic 137, 3) := by decide +kernel
theorem dX7_used_5 : decode cX7_used 5 = .ok (.ifCond .eq 7, 3) := by decide +kernel
theorem dX7_used_8 : decode cX7_used 8 = .ok (.iconst 0, 1) := by decide +kernel
theorem dX7_used_9 : decode cX7_used 9 = .ok (.goto 4, 3) := by decide +kernel
theorem dX7_used_12 : decode cX7_used 12 = .ok (.iconst 1, 1) := by decide +kernel
theorem dX7_used_13 : decode cX7_used 13 = .ok (.invokevirtual 140, 3) := by decide +kernel
theorem dX7_used_16 : decode cX7_used 16 = .ok (.ifCond .eq 11, 3) := by decide +kernel
theorem dX7_used_19 : decode cX7_used 19 = .ok (.aload_n 0, 1) := by decide +kernel
theorem dX7_used_20 : decode cX7_used 20 = .ok (.iload_n 1, 1) := by decide +kernel
theorem dX7_used_21 : decode cX7_used 21 = .ok (.invokevirtual 198, 3) := by decide +kernel
theorem dX7_used_24 : decode cX7_used 24 = .ok (.goto 4, 3) := by decide +kernel
theorem dX7_used_27 : decode cX7_used 27 = .ok (.iconst 0, 1) := by decide +kernel
theorem dX7_used_28 : decode cX7_used 28 = .ok (.ireturn, 1) := by decide +kernel
def f_X7_used (u0 : S1) (p1 : Int32) : Option (Int32 × S1) := bn (f_X7_isUser p1) (fun z_1 => jn (fun (v13_2_0 : Int32) => bn (f_X7_can u0 v13_2_0) (fun z_3 => jn (fun (v28_4_0 : Int32) => some (v28_4_0, z_3.2)) (fun k28_4 => if z_3.1 = 0 then k28_4 0 else bn (f_X7_blocksOf z_3.2 p1) (fun z_6 => k28_4 z_6)))) (fun k13_2 => if z_1 = 0 then k13_2 1 else k13_2 0))
def rmX7_used : Room := { frames := 4, cells := 0, slots := 0, locals := 89 }
set_option maxHeartbeats 4000000 in
set_option maxRecDepth 100000 in
theorem c_X7_used (l : Launch) (D : va_G) (cI cZ cJ cT : ClassId) (a0 : Nat → Nat) (sz : Nat) (u0 : S1) (p1 : Int32) (o : Int32 × S1) (hf : f_X7_used u0 p1 = some o) : Met l yX7_used wsX7_used rmX7_used (va_Pc [.ref (a0 0), .int p1] (PW D cls (tys cI cZ cJ cT) ((wX7 cI cZ a0 u0)) sz)) (QWi D cls o.1 ((wX7 cI cZ a0 o.2)) (va_A ((wX7 cI cZ a0 u0)) sz)) 0 0 (va_A ((wX7 cI cZ a0 u0)) sz) := by
  refine Met.ofW (cc := cX7_used) (maxL := 2) (ret := (some .int)) (by decide) rfl ?_
  intro p e s m args below meth c s₁ B hml hv
  obtain ⟨hav, hsz, hP, hK, hD0⟩ := hv
  have hx := B.exec
  have hb := B.bytes
  have hr := B.returns
  have hlocks := B.notSynchronized
  have hts := atoms_spec (ws := wsX7_used) B.pre
  have hown : s.vm.findClass RX7 = some m.cls := findClass_of_methodNamed B.named
  subst hsz
  have hD := hD0.self (sz := s.heap.size)
  generalize hAe : va_A ((wX7 cI cZ a0 u0)) s.heap.size = A at hD ⊢
  have hA : ∀ q : Nat, s.heap.size ≤ q → A q := fun q h => by rw [← hAe]; exact Or.inr h
  have hS : va_S A s.heap s.heap [] := va_S.rf
  have hDD : ∀ w0 : S1, va_D A ((wX7 cI cZ a0 w0)) := fun _ => D_same (w := (wX7 cI cZ a0 u0)) rfl hD
  refine Wq (fun Q hQ => ?_)
  refine W_entry hav (Nat.le_of_ble_eq_true rfl) (fun ls hl => ?_)
  have hl : lv_has ls 2 [(0, .ref (a0 0)), (1, .int p1)] := hl
  unfold f_X7_used at hf
  refine W_heap hP hS (fun H locs hP hS => ?_)
  refine lv_aload_n hx hb dX7_used_0 rfl (lv_at hl 0 rfl) ?_
  refine lv_iload_n hx hb dX7_used_1 rfl (lv_at hl 1 rfl) ?_
  obtain ⟨z_1, hz_1, hf⟩ := bn_some hf
  refine c0S (As := [.int p1]) (rest := [.ref (a0 0)]) ⟨hx, hb, hml, hown, hts⟩ (c_X7_isUser l D cI cZ cJ cT p1 z_1 hz_1) (va_cwS 1 hts gX7_used_X7_isUser rfl rfl rfl (by decide +kernel) ⟨Nat.le_of_ble_eq_true rfl, Nat.le_of_ble_eq_true rfl⟩) rfl rfl hl.1 (Nat.le_of_ble_eq_true rfl) dX7_used_2 ⟨Nat.le_of_ble_eq_true rfl, Nat.le_of_ble_eq_true rfl⟩ ?_
  obtain ⟨k13_2, hk13_2, hf⟩ := jn_some hf
  have j13_2 : ∀ (v13_2_0 : Int32) (H : Heap) (locs : List Loc) (ls : Array Slot), k13_2 v13_2_0 = some o → va_P D cls (wX7 cI cZ a0 u0) H → va_S A s.heap H locs → lv_has ls 2 [(0, .ref (a0 0)), (1, .int p1)] → W p l e (headSpec wsX7_used rmX7_used).room s m args below meth c H locs 0 0 Q (F0 m 13 ls [.int v13_2_0, .ref (a0 0)]) := by
    intro v13_2_0 H locs ls hf hP hS hl
    have hf := qa1 hk13_2 hf
    obtain ⟨z_3, hz_3, hf⟩ := bn_some hf
    refine cWVi (As := [.int v13_2_0]) (rest := []) ⟨hx, hb, hml, hown, hts⟩ (c_X7_can l D cI cZ cJ cT a0 H.size u0 v13_2_0 z_3 hz_3) (cwV 1 hts gX7_used_X7_can rfl rfl rfl (by decide +kernel) ⟨Nat.le_of_ble_eq_true rfl, Nat.le_of_ble_eq_true rfl⟩) hP hK (hDD u0) hS (own_free (hDD u0) hS hA) (va_recv hK hP (ci := 7) (q0 := 0) rfl rfl) rfl rfl hl.1 (Nat.le_of_ble_eq_true rfl) dX7_used_13 ⟨Nat.le_of_ble_eq_true rfl, Nat.le_of_ble_eq_true rfl⟩ (fun H1 locs hP1 hk1 hS => ?_)
    have hP : va_P D cls (wX7 cI cZ a0 z_3.2) H1 := hP1
    clear hP1 hk1
    generalize H1 = H at hP hS ⊢
    obtain ⟨k28_4, hk28_4, hf⟩ := jn_some hf
    have j28_4 : ∀ (v28_4_0 : Int32) (H : Heap) (locs : List Loc) (ls : Array Slot), k28_4 v28_4_0 = some o → va_P D cls (wX7 cI cZ a0 z_3.2) H → va_S A s.heap H locs → lv_has ls 2 [] → W p l e (headSpec wsX7_used rmX7_used).room s m args below meth c H locs 0 0 Q (F0 m 28 ls [.int v28_4_0]) := by
      intro v28_4_0 H locs ls hf hP hS hl
      have hf := qa1 hk28_4 hf
      have eo := Option.some.inj hf
      have hP : va_P D cls (wX7 cI cZ a0 o.2) H := by rw [← eo]; exact hP
      rw [hQ]
      exact W.iret hx hb hr (fun t ht hW => ⟨⟨_, (), rfl, congrArg Prod.fst eo, P_at ht hP⟩, hS.F ht⟩) hS.2.2 dX7_used_28 hlocks
    refine lv_if_eq (tgt := 27) hx hb dX7_used_16 (by decide) (fun c_5 => ?_) (fun c_5 => ?_)
    · have hf := ite_t hf c_5
      refine lv_iconst (v := 0) hx hb dX7_used_27 (by decide) ?_
      exact j28_4 _ _ _ _ hf hP hS (lv_sub hl [] rfl)
    · have hf := ite_f hf c_5
      refine lv_aload_n hx hb dX7_used_19 rfl (lv_at hl 0 rfl) ?_
      refine lv_iload_n hx hb dX7_used_20 rfl (lv_at hl 1 rfl) ?_
      obtain ⟨z_6, hz_6, hf⟩ := bn_some hf
      refine cRV (As := [.int p1]) (rest := []) ⟨hx, hb, hml, hown, hts⟩ (c_X7_blocksOf l D cI cZ cJ cT a0 z_3.2 p1 z_6 hz_6) (cwV 1 hts gX7_used_X7_blocksOf rfl rfl rfl (by decide +kernel) ⟨Nat.le_of_ble_eq_true rfl, Nat.le_of_ble_eq_true rfl⟩) hP hK (va_recv hK hP (ci := 7) (q0 := 0) rfl rfl) rfl rfl hl.1 (Nat.le_of_ble_eq_true rfl) dX7_used_21 ⟨Nat.le_of_ble_eq_true rfl, Nat.le_of_ble_eq_true rfl⟩ ?_
      refine lv_goto (tgt := 28) hx hb dX7_used_24 (by decide) ?_
      exact j28_4 _ _ _ _ hf hP hS (lv_sub hl [] rfl)
  refine lv_if_eq (tgt := 12) hx hb dX7_used_5 (by decide) (fun c_7 => ?_) (fun c_7 => ?_)
  · have hf := ite_t hf c_7
    refine lv_iconst (v := 1) hx hb dX7_used_12 (by decide) ?_
    exact j13_2 _ _ _ _ hf hP hS (lv_sub hl [0, 1] rfl)
  · have hf := ite_f hf c_7
    refine lv_iconst (v := 0) hx hb dX7_used_8 (by decide) ?_
    refine lv_goto (tgt := 13) hx hb dX7_used_9 (by decide) ?_
    exact j13_2 _ _ _ _ hf hP hS (lv_sub hl [0, 1] rfl)
set_option maxRecDepth 20000 in
theorem ggX7_dirty_X7_dirties : GoodIn wsX7_dirty wsX7_dirties := goodIn_r _ [6, 7, 8, 9, 10, 11, 12, 13, 14, 15, 16, 17, 18, 19, 20, 21, 22, 23, 24, 25, 26] (by decide +kernel) (by decide +kernel)
set_option maxRecDepth 20000 in
theorem gX7_dirty_X7_dirties : GoodIn wsX7_dirty (wsV RX7 225 RX7 yX7_dirties wsX7_dirties) := goodIn_app (goodIn_of _ (by decide +kernel)) ggX7_dirty_X7_dirties
theorem dX7_dirty_0 : decode cX7_dirty 0 = .ok (.aload_n 0, 1) := by decide +kernel
theorem dX7_dirty_1 : decode cX7_dirty 1 = .ok (.iconst 0, 1) := by decide +kernel
theorem dX7_dirty_2 : decode cX7_dirty 2 = .ok (.putfield 58, 3) := by decide +kernel
theorem dX7_dirty_5 : decode cX7_dirty 5 = .ok (.aload_n 0, 1) := by decide +kernel
theorem dX7_dirty_6 : decode cX7_dirty 6 = .ok (.invokevirtual 225, 3) := by decide +kernel
theorem dX7_dirty_9 : decode cX7_dirty 9 = .ok (.ireturn, 1) := by decide +kernel
def f_X7_dirty (u0 : S1) : Option (Int32 × S1) := bv (up u0 18 (fun _ => 0)) (fun u_1 => bn (f_X7_dirties u_1) (fun z_2 => some (z_2, u_1)))
def rmX7_dirty : Room := { frames := 1, cells := 0, slots := 0, locals := 22 }
set_option maxHeartbeats 4000000 in
set_option maxRecDepth 100000 in
theorem c_X7_dirty (l : Launch) (D : va_G) (cI cZ cJ cT : ClassId) (a0 : Nat → Nat) (sz : Nat) (u0 : S1) (o : Int32 × S1) (hf : f_X7_dirty u0 = some o) : Met l yX7_dirty wsX7_dirty rmX7_dirty (va_Pc [.ref (a0 0)] (PW D cls (tys cI cZ cJ cT) ((wX7 cI cZ a0 u0)) sz)) (QWi D cls o.1 ((wX7 cI cZ a0 o.2)) (va_A ((wX7 cI cZ a0 u0)) sz)) 0 0 (va_A ((wX7 cI cZ a0 u0)) sz) := by
  refine Met.ofW (cc := cX7_dirty) (maxL := 1) (ret := (some .int)) (by decide) rfl ?_
  intro p e s m args below meth c s₁ B hml hv
  obtain ⟨hav, hsz, hP, hK, hD0⟩ := hv
  have hx := B.exec
  have hb := B.bytes
  have hr := B.returns
  have hlocks := B.notSynchronized
  have hts := atoms_spec (ws := wsX7_dirty) B.pre
  have hown : s.vm.findClass RX7 = some m.cls := findClass_of_methodNamed B.named
  have i7 : ∀ w ∈ wsX70, w ∈ wsX7_dirty := fun w h => List.mem_cons_of_mem _ (List.mem_append_right _ h)
  have hk58 := hts (.fieldLink RX7 58 "InoderyModel" "thrown" "I") (by decide +kernel)
  subst hsz
  have hD := hD0.self (sz := s.heap.size)
  generalize hAe : va_A ((wX7 cI cZ a0 u0)) s.heap.size = A at hD ⊢
  have hA : ∀ q : Nat, s.heap.size ≤ q → A q := fun q h => by rw [← hAe]; exact Or.inr h
  have hS : va_S A s.heap s.heap [] := va_S.rf
  have hDD : ∀ w0 : S1, va_D A ((wX7 cI cZ a0 w0)) := fun _ => D_same (w := (wX7 cI cZ a0 u0)) rfl hD
  refine Wq (fun Q hQ => ?_)
  refine W_entry hav (Nat.le_of_ble_eq_true rfl) (fun ls hl => ?_)
  have hl : lv_has ls 1 [(0, .ref (a0 0))] := hl
  unfold f_X7_dirty at hf
  refine W_heap hP hS (fun H locs hP hS => ?_)
  refine lv_aload_n hx hb dX7_dirty_0 rfl (lv_at hl 0 rfl) ?_
  refine lv_iconst (v := 0) hx hb dX7_dirty_1 (by decide) ?_
  obtain ⟨u_1, hu_1, hf⟩ := bv_some hf
  refine va_put (D := D) (ci := 7) (v := .int 0) (ty := .int) (C := RX7) (T := TX7) (N := 19) hx hb hts i7 tyX7 tyX7_ok nmX7 hown hK hP (hDD u0) hS 0 rfl rfl 18 (by decide) hk58 (fun _ h9 => h9) rfl (by decide +kernel) rfl rfl (Nat.le_of_ble_eq_true rfl) dX7_dirty_2 (fun H locs hP _ hS => ?_)
  have hP : va_P D cls (wX7 cI cZ a0 u_1) H := by rw [hu_1]; exact hP
  refine lv_aload_n hx hb dX7_dirty_5 rfl (lv_at hl 0 rfl) ?_
  obtain ⟨z_2, hz_2, hf⟩ := bn_some hf
  refine cRV (As := []) (rest := []) ⟨hx, hb, hml, hown, hts⟩ (c_X7_dirties l D cI cZ cJ cT a0 u_1 z_2 hz_2) (cwV 0 hts gX7_dirty_X7_dirties rfl rfl rfl (by decide +kernel) ⟨Nat.le_of_ble_eq_true rfl, Nat.le_of_ble_eq_true rfl⟩) hP hK (va_recv hK hP (ci := 7) (q0 := 0) rfl rfl) rfl rfl hl.1 (Nat.le_of_ble_eq_true rfl) dX7_dirty_6 ⟨Nat.le_of_ble_eq_true rfl, Nat.le_of_ble_eq_true rfl⟩ ?_
  have eo := Option.some.inj hf
  have hP : va_P D cls (wX7 cI cZ a0 o.2) H := by rw [← eo]; exact hP
  rw [hQ]
  exact W.iret hx hb hr (fun t ht hW => ⟨⟨_, (), rfl, congrArg Prod.fst eo, P_at ht hP⟩, hS.F ht⟩) hS.2.2 dX7_dirty_9 hlocks
