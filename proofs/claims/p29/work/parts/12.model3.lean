set_option maxRecDepth 20000 in
theorem ggX7_rights_X7_areRights : GoodIn wsX7_rights wsX7_areRights := goodIn_r _ [10, 4, 5, 6, 7] (by decide +kernel) (by decide +kernel)
set_option maxRecDepth 20000 in
theorem gX7_rights_X7_areRights : GoodIn wsX7_rights (va_wsS RX7 166 yX7_areRights wsX7_areRights) := goodIn_app (goodIn_of _ (by decide +kernel)) ggX7_rights_X7_areRights
set_option maxRecDepth 20000 in
theorem ggX7_rights_X7_at : GoodIn wsX7_rights wsX7_at := goodIn_r _ [25] (by decide +kernel) (by decide +kernel)
set_option maxRecDepth 20000 in
theorem gX7_rights_X7_at : GoodIn wsX7_rights (va_wsS RX7 67 yX7_at wsX7_at) := goodIn_app (goodIn_of _ (by decide +kernel)) ggX7_rights_X7_at
set_option maxRecDepth 20000 in
theorem ggX7_rights_X7_can : GoodIn wsX7_rights wsX7_can := goodIn_r _ [37, 38, 39, 40, 41, 42, 43, 44, 45, 46, 47, 48, 49, 50, 51, 52, 53, 54, 55, 56, 57] (by decide +kernel) (by decide +kernel)
set_option maxRecDepth 20000 in
theorem gX7_rights_X7_can : GoodIn wsX7_rights (wsV RX7 140 RX7 yX7_can wsX7_can) := goodIn_app (goodIn_of _ (by decide +kernel)) ggX7_rights_X7_can
set_option maxRecDepth 20000 in
theorem ggX7_rights_X7_isIn : GoodIn wsX7_rights wsX7_isIn := goodIn_r _ [7] (by decide +kernel) (by decide +kernel)
set_option maxRecDepth 20000 in
theorem gX7_rights_X7_isIn : GoodIn wsX7_rights (va_wsS RX7 62 yX7_isIn wsX7_isIn) := goodIn_app (goodIn_of _ (by decide +kernel)) ggX7_rights_X7_isIn
set_option maxRecDepth 20000 in
theorem ggX7_rights_X7_walks : GoodIn wsX7_rights wsX7_walks := goodIn_r _ [14, 15, 16, 17, 18, 3, 19, 20, 21, 6, 22, 23, 24, 25, 26, 27, 28, 29, 30, 31, 32, 33, 39, 40, 41, 42, 43, 44, 45, 46, 47, 48, 49, 50, 51, 52, 53, 54, 55, 56, 57] (by decide +kernel) (by decide +kernel)
set_option maxRecDepth 20000 in
theorem gX7_rights_X7_walks : GoodIn wsX7_rights (wsV RX7 127 RX7 yX7_walks wsX7_walks) := goodIn_app (goodIn_of _ (by decide +kernel)) ggX7_rights_X7_walks
theorem dX7_rights_0 : decode cX7_rights 0 = .ok (.iload_n 1, 1) := by decide +kernel
theorem dX7_rights_1 : decode cX7_rights 1 = .ok (.iconst 0, 1) := by decide +kernel
theorem dX7_rights_2 : decode cX7_rights 2 = .ok (.ldc 66, 2) := by decide +kernel
theorem dX7_rights_4 : decode cX7_rights 4 = .ok (.invokestatic 62, 3) := by decide +kernel
theorem dX7_rights_7 : decode cX7_rights 7 = .ok (.ifCond .eq 14, 3) := by decide +kernel
theorem dX7_rights_10 : decode cX7_rights 10 = .ok (.iload_n 2, 1) := by decide +kernel
theorem dX7_rights_11 : decode cX7_rights 11 = .ok (.invokestatic 166, 3) := by decide +kernel
theorem dX7_rights_14 : decode cX7_rights 14 = .ok (.ifCond .eq 7, 3) := by decide +kernel
theorem dX7_rights_17 : decode cX7_rights 17 = .ok (.iconst 1, 1) := by decide +kernel
theorem dX7_rights_18 : decode cX7_rights 18 = .ok (.goto 4, 3) := by decide +kernel
theorem dX7_rights_21 : decode cX7_rights 21 = .ok (.iconst 0, 1) := by decide +kernel
theorem dX7_rights_22 : decode cX7_rights 22 = .ok (.istore_n 3, 1) := by decide +kernel
theorem dX7_rights_23 : decode cX7_rights 23 = .ok (.iload_n 3, 1) := by decide +kernel
theorem dX7_rights_24 : decode cX7_rights 24 = .ok (.ifCond .eq 13, 3) := by decide +kernel
theorem dX7_rights_27 : decode cX7_rights 27 = .ok (.aload_n 0, 1) := by decide +kernel
theorem dX7_rights_28 : decode cX7_rights 28 = .ok (.iconst 0, 1) := by decide +kernel
theorem dX7_rights_29 : decode cX7_rights 29 = .ok (.iload_n 1, 1) := by decide +kernel
theorem dX7_rights_30 : decode cX7_rights 30 = .ok (.iconst 1, 1) := by decide +kernel
theorem dX7_rights_31 : decode cX7_rights 31 = .ok (.invokevirtual 127, 3) := by decide +kernel
theorem dX7_rights_34 : decode cX7_rights 34 = .ok (.goto 4, 3) := by decide +kernel
theorem dX7_rights_37 : decode cX7_rights 37 = .ok (.iconst (-1), 1) := by decide +kernel
theorem dX7_rights_38 : decode cX7_rights 38 = .ok (.istore 4, 2) := by decide +kernel
theorem dX7_rights_40 : decode cX7_rights 40 = .ok (.aload_n 0, 1) := by decide +kernel
theorem dX7_rights_41 : decode cX7_rights 41 = .ok (.iload_n 3, 1) := by decide +kernel
theorem dX7_rights_42 : decode cX7_rights 42 = .ok (.ifCond .ne 7, 3) := by decide +kernel
theorem dX7_rights_45 : decode cX7_rights 45 = .ok (.iconst 1, 1) := by decide +kernel
theorem dX7_rights_46 : decode cX7_rights 46 = .ok (.goto 45, 3) := by decide +kernel
theorem dX7_rights_49 : decode cX7_rights 49 = .ok (.iload 4, 2) := by decide +kernel
theorem dX7_rights_51 : decode cX7_rights 51 = .ok (.iconst (-1), 1) := by decide +kernel
theorem dX7_rights_52 : decode cX7_rights 52 = .ok (.if_icmp .ne 7, 3) := by decide +kernel
theorem dX7_rights_55 : decode cX7_rights 55 = .ok (.iconst 2, 1) := by decide +kernel
theorem dX7_rights_56 : decode cX7_rights 56 = .ok (.goto 35, 3) := by decide +kernel
theorem dX7_rights_59 : decode cX7_rights 59 = .ok (.aload_n 0, 1) := by decide +kernel
theorem dX7_rights_60 : decode cX7_rights 60 = .ok (.getfield 85, 3) := by decide +kernel
theorem dX7_rights_63 : decode cX7_rights 63 = .ok (.ifCond .eq 27, 3) := by decide +kernel
theorem dX7_rights_66 : decode cX7_rights 66 = .ok (.aload_n 0, 1) := by decide +kernel
theorem dX7_rights_67 : decode cX7_rights 67 = .ok (.getfield 7, 3) := by decide +kernel
theorem dX7_rights_70 : decode cX7_rights 70 = .ok (.iconst 0, 1) := by decide +kernel
theorem dX7_rights_71 : decode cX7_rights 71 = .ok (.iload 4, 2) := by decide +kernel
theorem dX7_rights_73 : decode cX7_rights 73 = .ok (.invokestatic 67, 3) := by decide +kernel
theorem dX7_rights_76 : decode cX7_rights 76 = .ok (.iconst 1, 1) := by decide +kernel
theorem dX7_rights_77 : decode cX7_rights 77 = .ok (.iadd, 1) := by decide +kernel
theorem dX7_rights_78 : decode cX7_rights 78 = .ok (.iaload, 1) := by decide +kernel
theorem dX7_rights_79 : decode cX7_rights 79 = .ok (.aload_n 0, 1) := by decide +kernel
theorem dX7_rights_80 : decode cX7_rights 80 = .ok (.getfield 85, 3) := by decide +kernel
theorem dX7_rights_83 : decode cX7_rights 83 = .ok (.if_icmp .eq 7, 3) := by decide +kernel
theorem dX7_rights_86 : decode cX7_rights 86 = .ok (.iconst 3, 1) := by decide +kernel
theorem dX7_rights_87 : decode cX7_rights 87 = .ok (.goto 4, 3) := by decide +kernel
theorem dX7_rights_90 : decode cX7_rights 90 = .ok (.iconst 0, 1) := by decide +kernel
theorem dX7_rights_91 : decode cX7_rights 91 = .ok (.invokevirtual 140, 3) := by decide +kernel
theorem dX7_rights_94 : decode cX7_rights 94 = .ok (.ifCond .ne 5, 3) := by decide +kernel
theorem dX7_rights_97 : decode cX7_rights 97 = .ok (.iconst 0, 1) := by decide +kernel
theorem dX7_rights_98 : decode cX7_rights 98 = .ok (.ireturn, 1) := by decide +kernel
theorem dX7_rights_99 : decode cX7_rights 99 = .ok (.aload_n 0, 1) := by decide +kernel
theorem dX7_rights_100 : decode cX7_rights 100 = .ok (.getfield 7, 3) := by decide +kernel
theorem dX7_rights_103 : decode cX7_rights 103 = .ok (.iconst 0, 1) := by decide +kernel
theorem dX7_rights_104 : decode cX7_rights 104 = .ok (.iload 4, 2) := by decide +kernel
theorem dX7_rights_106 : decode cX7_rights 106 = .ok (.invokestatic 67, 3) := by decide +kernel
theorem dX7_rights_109 : decode cX7_rights 109 = .ok (.iconst 2, 1) := by decide +kernel
theorem dX7_rights_110 : decode cX7_rights 110 = .ok (.iadd, 1) := by decide +kernel
theorem dX7_rights_111 : decode cX7_rights 111 = .ok (.iaload, 1) := by decide +kernel
theorem dX7_rights_112 : decode cX7_rights 112 = .ok (.istore 5, 2) := by decide +kernel
theorem dX7_rights_114 : decode cX7_rights 114 = .ok (.aload_n 0, 1) := by decide +kernel
theorem dX7_rights_115 : decode cX7_rights 115 = .ok (.getfield 7, 3) := by decide +kernel
theorem dX7_rights_118 : decode cX7_rights 118 = .ok (.iconst 0, 1) := by decide +kernel
theorem dX7_rights_119 : decode cX7_rights 119 = .ok (.iload 4, 2) := by decide +kernel
theorem dX7_rights_121 : decode cX7_rights 121 = .ok (.invokestatic 67, 3) := by decide +kernel
theorem dX7_rights_124 : decode cX7_rights 124 = .ok (.iconst 2, 1) := by decide +kernel
theorem dX7_rights_125 : decode cX7_rights 125 = .ok (.iadd, 1) := by decide +kernel
theorem dX7_rights_126 : decode cX7_rights 126 = .ok (.iload_n 2, 1) := by decide +kernel
theorem dX7_rights_127 : decode cX7_rights 127 = .ok (.iastore, 1) := by decide +kernel
theorem dX7_rights_128 : decode cX7_rights 128 = .ok (.iload 5, 2) := by decide +kernel
theorem dX7_rights_130 : decode cX7_rights 130 = .ok (.ireturn, 1) := by decide +kernel
def f_X7_rights (u0 : S1) (p1 : Int32) (p2 : Int32) : Option (Int32 × S1) := bn (f_X7_isIn p1 0 99999999) (fun z_1 => jn (fun (v22_2_0 : Int32) => jn (fun (v38_3_0 : Int32) (u38_3_0 : S1) => jn (fun (v91_4_0 : Int32) => bn (f_X7_can u38_3_0 v91_4_0) (fun z_5 => if z_5.1 = 0 then some (0, z_5.2) else bn (f_X7_at 0 v38_3_0) (fun z_7 => chk (inb (z_7 + 2) 8480) (bn (f_X7_at 0 v38_3_0) (fun z_8 => chk (inb (z_8 + 2) 8480) (bv (st z_5.2 0 (z_8 + 2) p2) (fun u_9 => some ((z_5.2 0 (z_7 + 2).toNatClampNeg), u_9)))))))) (fun k91_4 => if v22_2_0 = 0 then k91_4 1 else if v38_3_0 = (-1) then k91_4 2 else jn (k91_4 0) (fun k90_12 => if (u38_3_0 7 0) = 0 then k90_12 else bn (f_X7_at 0 v38_3_0) (fun z_14 => chk (inb (z_14 + 1) 8480) (if (u38_3_0 0 (z_14 + 1).toNatClampNeg) = (u38_3_0 7 0) then k90_12 else k91_4 3))))) (fun k38_3 => if v22_2_0 = 0 then k38_3 (-1) u0 else bn (f_X7_walks u0 0 p1 1) (fun z_17 => k38_3 z_17.1 z_17.2))) (fun k22_2 => jn (k22_2 0) (fun k21_18 => if z_1 = 0 then k21_18 else bn (f_X7_areRights p2) (fun z_20 => if z_20 = 0 then k21_18 else k22_2 1))))
def rmX7_rights : Room := { frames := 4, cells := 0, slots := 0, locals := 95 }
set_option maxHeartbeats 4000000 in
set_option maxRecDepth 100000 in
theorem c_X7_rights (l : Launch) (D : va_G) (cI cZ cJ cT : ClassId) (a0 : Nat → Nat) (sz : Nat) (u0 : S1) (p1 : Int32) (p2 : Int32) (o : Int32 × S1) (hf : f_X7_rights u0 p1 p2 = some o) : Met l yX7_rights wsX7_rights rmX7_rights (va_Pc [.ref (a0 0), .int p1, .int p2] (PW D cls (tys cI cZ cJ cT) ((wX7 cI cZ a0 u0)) sz)) (QWi D cls o.1 ((wX7 cI cZ a0 o.2)) (va_A ((wX7 cI cZ a0 u0)) sz)) 0 0 (va_A ((wX7 cI cZ a0 u0)) sz) := by
  refine Met.ofW (cc := cX7_rights) (maxL := 6) (ret := (some .int)) (by decide) rfl ?_
  intro p e s m args below meth c s₁ B hml hv
  obtain ⟨hav, hsz, hP, hK, hD0⟩ := hv
  have hx := B.exec
  have hb := B.bytes
  have hr := B.returns
  have hlocks := B.notSynchronized
  have hts := atoms_spec (ws := wsX7_rights) B.pre
  have hown : s.vm.findClass RX7 = some m.cls := findClass_of_methodNamed B.named
  have i7 : ∀ w ∈ wsX70, w ∈ wsX7_rights := fun w h => List.mem_cons_of_mem _ (List.mem_append_right _ h)
  have hk7 := hts (.fieldLink RX7 7 "InoderyModel" "s" "[I") (by decide +kernel)
  have hk85 := hts (.fieldLink RX7 85 "InoderyModel" "user" "I") (by decide +kernel)
  subst hsz
  have hD := hD0.self (sz := s.heap.size)
  generalize hAe : va_A ((wX7 cI cZ a0 u0)) s.heap.size = A at hD ⊢
  have hA : ∀ q : Nat, s.heap.size ≤ q → A q := fun q h => by rw [← hAe]; exact Or.inr h
  have hS : va_S A s.heap s.heap [] := va_S.rf
  have hDD : ∀ w0 : S1, va_D A ((wX7 cI cZ a0 w0)) := fun _ => D_same (w := (wX7 cI cZ a0 u0)) rfl hD
  refine Wq (fun Q hQ => ?_)
  refine W_entry hav (Nat.le_of_ble_eq_true rfl) (fun ls hl => ?_)
  have hl : lv_has ls 6 [(0, .ref (a0 0)), (1, .int p1), (2, .int p2)] := hl
  unfold f_X7_rights at hf
  refine W_heap hP hS (fun H locs hP hS => ?_)
  refine lv_iload_n hx hb dX7_rights_0 rfl (lv_at hl 1 rfl) ?_
  refine lv_iconst (v := 0) hx hb dX7_rights_1 (by decide) ?_
  refine lv_ldc hx hb hown (hts (.constant RX7 66 (99999999)) (by decide +kernel)) dX7_rights_2 ?_
  obtain ⟨z_1, hz_1, hf⟩ := bn_some hf
  refine c0S (As := [.int p1, .int 0, .int 99999999]) (rest := []) ⟨hx, hb, hml, hown, hts⟩ (c_X7_isIn l D cI cZ cJ cT p1 0 99999999 z_1 hz_1) (va_cwS 3 hts gX7_rights_X7_isIn rfl rfl rfl (by decide +kernel) ⟨Nat.le_of_ble_eq_true rfl, Nat.le_of_ble_eq_true rfl⟩) rfl rfl hl.1 (Nat.le_of_ble_eq_true rfl) dX7_rights_4 ⟨Nat.le_of_ble_eq_true rfl, Nat.le_of_ble_eq_true rfl⟩ ?_
  obtain ⟨k22_2, hk22_2, hf⟩ := jn_some hf
  have j22_2 : ∀ (v22_2_0 : Int32) (H : Heap) (locs : List Loc) (ls : Array Slot), k22_2 v22_2_0 = some o → va_P D cls (wX7 cI cZ a0 u0) H → va_S A s.heap H locs → lv_has ls 6 [(0, .ref (a0 0)), (1, .int p1), (2, .int p2)] → W p l e (headSpec wsX7_rights rmX7_rights).room s m args below meth c H locs 0 0 Q (F0 m 22 ls [.int v22_2_0]) := by
    intro v22_2_0 H locs ls hf hP hS hl
    have hf := qa1 hk22_2 hf
    refine lv_istore_n (lv' := [(3, .int v22_2_0), (0, .ref (a0 0)), (1, .int p1), (2, .int p2)]) hx hb dX7_rights_22 rfl hl (by decide) rfl (fun ls hl => ?_)
    refine lv_iload_n hx hb dX7_rights_23 rfl (lv_at hl 0 rfl) ?_
    obtain ⟨k38_3, hk38_3, hf⟩ := jn_some hf
    have j38_3 : ∀ (v38_3_0 : Int32) (u38_3_0 : S1) (H : Heap) (locs : List Loc) (ls : Array Slot), k38_3 v38_3_0 u38_3_0 = some o → va_P D cls (wX7 cI cZ a0 u38_3_0) H → va_S A s.heap H locs → lv_has ls 6 [(0, .ref (a0 0)), (2, .int p2), (3, .int v22_2_0)] → W p l e (headSpec wsX7_rights rmX7_rights).room s m args below meth c H locs 0 0 Q (F0 m 38 ls [.int v38_3_0]) := by
      intro v38_3_0 u38_3_0 H locs ls hf hP hS hl
      have hf := qa2 hk38_3 hf
      refine lv_istore (lv' := [(4, .int v38_3_0), (0, .ref (a0 0)), (2, .int p2), (3, .int v22_2_0)]) hx hb dX7_rights_38 hl (by decide) rfl (fun ls hl => ?_)
      refine lv_aload_n hx hb dX7_rights_40 rfl (lv_at hl 1 rfl) ?_
      refine lv_iload_n hx hb dX7_rights_41 rfl (lv_at hl 3 rfl) ?_
      obtain ⟨k91_4, hk91_4, hf⟩ := jn_some hf
      have j91_4 : ∀ (v91_4_0 : Int32) (H : Heap) (locs : List Loc) (ls : Array Slot), k91_4 v91_4_0 = some o → va_P D cls (wX7 cI cZ a0 u38_3_0) H → va_S A s.heap H locs → lv_has ls 6 [(0, .ref (a0 0)), (2, .int p2), (4, .int v38_3_0)] → W p l e (headSpec wsX7_rights rmX7_rights).room s m args below meth c H locs 0 0 Q (F0 m 91 ls [.int v91_4_0, .ref (a0 0)]) := by
        intro v91_4_0 H locs ls hf hP hS hl
        have hf := qa1 hk91_4 hf
        obtain ⟨z_5, hz_5, hf⟩ := bn_some hf
        refine cWVi (As := [.int v91_4_0]) (rest := []) ⟨hx, hb, hml, hown, hts⟩ (c_X7_can l D cI cZ cJ cT a0 H.size u38_3_0 v91_4_0 z_5 hz_5) (cwV 1 hts gX7_rights_X7_can rfl rfl rfl (by decide +kernel) ⟨Nat.le_of_ble_eq_true rfl, Nat.le_of_ble_eq_true rfl⟩) hP hK (hDD u38_3_0) hS (own_free (hDD u38_3_0) hS hA) (va_recv hK hP (ci := 7) (q0 := 0) rfl rfl) rfl rfl hl.1 (Nat.le_of_ble_eq_true rfl) dX7_rights_91 ⟨Nat.le_of_ble_eq_true rfl, Nat.le_of_ble_eq_true rfl⟩ (fun H1 locs hP1 hk1 hS => ?_)
        have hP : va_P D cls (wX7 cI cZ a0 z_5.2) H1 := hP1
        clear hP1 hk1
        generalize H1 = H at hP hS ⊢
        refine lv_if_ne (tgt := 99) hx hb dX7_rights_94 (by decide) (fun c_6 => ?_) (fun c_6 => ?_)
        · have hf := ite_f hf c_6
          refine lv_aload_n hx hb dX7_rights_99 rfl (lv_at hl 0 rfl) ?_
          refine va_get (D := D) (ci := 7) (v := .ref (a0 1)) (C := RX7) (T := TX7) (N := 19) hx hb hts i7 hown hK hP 0 rfl rfl 0 (by decide) hk7 (fun _ h9 => h9) rfl dX7_rights_100 ?_
          refine lv_iconst (v := 0) hx hb dX7_rights_103 (by decide) ?_
          refine lv_iload hx hb dX7_rights_104 (lv_at hl 2 rfl) ?_
          obtain ⟨z_7, hz_7, hf⟩ := bn_some hf
          refine c0S (As := [.int 0, .int v38_3_0]) (rest := [.ref (a0 1)]) ⟨hx, hb, hml, hown, hts⟩ (c_X7_at l D cI cZ cJ cT 0 v38_3_0 z_7 hz_7) (va_cwS 2 hts gX7_rights_X7_at rfl rfl rfl (by decide +kernel) ⟨Nat.le_of_ble_eq_true rfl, Nat.le_of_ble_eq_true rfl⟩) rfl rfl hl.1 (Nat.le_of_ble_eq_true rfl) dX7_rights_106 ⟨Nat.le_of_ble_eq_true rfl, Nat.le_of_ble_eq_true rfl⟩ ?_
          refine lv_iconst (v := 2) hx hb dX7_rights_109 (by decide) ?_
          refine lv_iadd hx hb dX7_rights_110 ?_
          obtain ⟨hi, hf⟩ := chk_some hf
          refine va_iald hx hb hK hP 1 0 rfl rfl (inb_in hi) dX7_rights_111 ?_
          refine lv_istore (lv' := [(5, .int (z_5.2 0 (z_7 + 2).toNatClampNeg)), (0, .ref (a0 0)), (2, .int p2), (4, .int v38_3_0)]) hx hb dX7_rights_112 hl (by decide) rfl (fun ls hl => ?_)
          refine lv_aload_n hx hb dX7_rights_114 rfl (lv_at hl 1 rfl) ?_
          refine va_get (D := D) (ci := 7) (v := .ref (a0 1)) (C := RX7) (T := TX7) (N := 19) hx hb hts i7 hown hK hP 0 rfl rfl 0 (by decide) hk7 (fun _ h9 => h9) rfl dX7_rights_115 ?_
          refine lv_iconst (v := 0) hx hb dX7_rights_118 (by decide) ?_
          refine lv_iload hx hb dX7_rights_119 (lv_at hl 3 rfl) ?_
          obtain ⟨z_8, hz_8, hf⟩ := bn_some hf
          refine c0S (As := [.int 0, .int v38_3_0]) (rest := [.ref (a0 1)]) ⟨hx, hb, hml, hown, hts⟩ (c_X7_at l D cI cZ cJ cT 0 v38_3_0 z_8 hz_8) (va_cwS 2 hts gX7_rights_X7_at rfl rfl rfl (by decide +kernel) ⟨Nat.le_of_ble_eq_true rfl, Nat.le_of_ble_eq_true rfl⟩) rfl rfl hl.1 (Nat.le_of_ble_eq_true rfl) dX7_rights_121 ⟨Nat.le_of_ble_eq_true rfl, Nat.le_of_ble_eq_true rfl⟩ ?_
          refine lv_iconst (v := 2) hx hb dX7_rights_124 (by decide) ?_
          refine lv_iadd hx hb dX7_rights_125 ?_
          refine lv_iload_n hx hb dX7_rights_126 rfl (lv_at hl 2 rfl) ?_
          obtain ⟨hi, hf⟩ := chk_some hf
          obtain ⟨u_9, hu_9, hf⟩ := bv_some hf
          refine va_iast hx hb hK hP (hDD z_5.2) hS 1 0 rfl rfl (inb_in hi) dX7_rights_127 (fun H locs hP _ hS => ?_)
          have hP : va_P D cls (wX7 cI cZ a0 u_9) H := by rw [hu_9]; exact hP
          refine lv_iload hx hb dX7_rights_128 (lv_at hl 0 rfl) ?_
          have eo := Option.some.inj hf
          have hP : va_P D cls (wX7 cI cZ a0 o.2) H := by rw [← eo]; exact hP
          rw [hQ]
          exact W.iret hx hb hr (fun t ht hW => ⟨⟨_, (), rfl, congrArg Prod.fst eo, P_at ht hP⟩, hS.F ht⟩) hS.2.2 dX7_rights_130 hlocks
        · have hf := ite_t hf c_6
          refine lv_iconst (v := 0) hx hb dX7_rights_97 (by decide) ?_
          have eo := Option.some.inj hf
          have hP : va_P D cls (wX7 cI cZ a0 o.2) H := by rw [← eo]; exact hP
          rw [hQ]
          exact W.iret hx hb hr (fun t ht hW => ⟨⟨_, (), rfl, congrArg Prod.fst eo, P_at ht hP⟩, hS.F ht⟩) hS.2.2 dX7_rights_98 hlocks
      refine lv_if_ne (tgt := 49) hx hb dX7_rights_42 (by decide) (fun c_10 => ?_) (fun c_10 => ?_)
      · have hf := ite_f hf c_10
        refine lv_iload hx hb dX7_rights_49 (lv_at hl 0 rfl) ?_
        refine lv_iconst (v := (-1)) hx hb dX7_rights_51 (by decide) ?_
        refine lv_icmp_ne (tgt := 59) hx hb dX7_rights_52 (by decide) (fun c_11 => ?_) (fun c_11 => ?_)
        · have hf := ite_f hf c_11
          refine lv_aload_n hx hb dX7_rights_59 rfl (lv_at hl 1 rfl) ?_
          refine va_get (D := D) (ci := 7) (v := .int (u38_3_0 7 0)) (C := RX7) (T := TX7) (N := 19) hx hb hts i7 hown hK hP 0 rfl rfl 7 (by decide) hk85 (fun _ h9 => h9) rfl dX7_rights_60 ?_
          obtain ⟨k90_12, hk90_12, hf⟩ := jn_some hf
          have j90_12 : ∀ (H : Heap) (locs : List Loc) (ls : Array Slot), k90_12 = some o → va_P D cls (wX7 cI cZ a0 u38_3_0) H → va_S A s.heap H locs → lv_has ls 6 [(0, .ref (a0 0)), (2, .int p2), (4, .int v38_3_0)] → W p l e (headSpec wsX7_rights rmX7_rights).room s m args below meth c H locs 0 0 Q (F0 m 90 ls [.ref (a0 0)]) := by
            intro H locs ls hf hP hS hl
            have hf := qa0 hk90_12 hf
            refine lv_iconst (v := 0) hx hb dX7_rights_90 (by decide) ?_
            exact j91_4 _ _ _ _ hf hP hS (lv_sub hl [0, 1, 2] rfl)
          refine lv_if_eq (tgt := 90) hx hb dX7_rights_63 (by decide) (fun c_13 => ?_) (fun c_13 => ?_)
          · have hf := ite_t hf c_13
            exact j90_12 _ _ _ hf hP hS (lv_sub hl [1, 2, 0] rfl)
          · have hf := ite_f hf c_13
            refine lv_aload_n hx hb dX7_rights_66 rfl (lv_at hl 1 rfl) ?_
            refine va_get (D := D) (ci := 7) (v := .ref (a0 1)) (C := RX7) (T := TX7) (N := 19) hx hb hts i7 hown hK hP 0 rfl rfl 0 (by decide) hk7 (fun _ h9 => h9) rfl dX7_rights_67 ?_
            refine lv_iconst (v := 0) hx hb dX7_rights_70 (by decide) ?_
            refine lv_iload hx hb dX7_rights_71 (lv_at hl 0 rfl) ?_
            obtain ⟨z_14, hz_14, hf⟩ := bn_some hf
            refine c0S (As := [.int 0, .int v38_3_0]) (rest := [.ref (a0 1), .ref (a0 0)]) ⟨hx, hb, hml, hown, hts⟩ (c_X7_at l D cI cZ cJ cT 0 v38_3_0 z_14 hz_14) (va_cwS 2 hts gX7_rights_X7_at rfl rfl rfl (by decide +kernel) ⟨Nat.le_of_ble_eq_true rfl, Nat.le_of_ble_eq_true rfl⟩) rfl rfl hl.1 (Nat.le_of_ble_eq_true rfl) dX7_rights_73 ⟨Nat.le_of_ble_eq_true rfl, Nat.le_of_ble_eq_true rfl⟩ ?_
            refine lv_iconst (v := 1) hx hb dX7_rights_76 (by decide) ?_
            refine lv_iadd hx hb dX7_rights_77 ?_
            obtain ⟨hi, hf⟩ := chk_some hf
            refine va_iald hx hb hK hP 1 0 rfl rfl (inb_in hi) dX7_rights_78 ?_
            refine lv_aload_n hx hb dX7_rights_79 rfl (lv_at hl 1 rfl) ?_
            refine va_get (D := D) (ci := 7) (v := .int (u38_3_0 7 0)) (C := RX7) (T := TX7) (N := 19) hx hb hts i7 hown hK hP 0 rfl rfl 7 (by decide) hk85 (fun _ h9 => h9) rfl dX7_rights_80 ?_
            refine lv_icmp_eq (tgt := 90) hx hb dX7_rights_83 (by decide) (fun c_15 => ?_) (fun c_15 => ?_)
            · have hf := ite_t hf c_15
              exact j90_12 _ _ _ hf hP hS (lv_sub hl [1, 2, 0] rfl)
            · have hf := ite_f hf c_15
              refine lv_iconst (v := 3) hx hb dX7_rights_86 (by decide) ?_
              refine lv_goto (tgt := 91) hx hb dX7_rights_87 (by decide) ?_
              exact j91_4 _ _ _ _ hf hP hS (lv_sub hl [1, 2, 0] rfl)
        · have hf := ite_t hf c_11
          refine lv_iconst (v := 2) hx hb dX7_rights_55 (by decide) ?_
          refine lv_goto (tgt := 91) hx hb dX7_rights_56 (by decide) ?_
          exact j91_4 _ _ _ _ hf hP hS (lv_sub hl [1, 2, 0] rfl)
      · have hf := ite_t hf c_10
        refine lv_iconst (v := 1) hx hb dX7_rights_45 (by decide) ?_
        refine lv_goto (tgt := 91) hx hb dX7_rights_46 (by decide) ?_
        exact j91_4 _ _ _ _ hf hP hS (lv_sub hl [1, 2, 0] rfl)
    refine lv_if_eq (tgt := 37) hx hb dX7_rights_24 (by decide) (fun c_16 => ?_) (fun c_16 => ?_)
    · have hf := ite_t hf c_16
      refine lv_iconst (v := (-1)) hx hb dX7_rights_37 (by decide) ?_
      exact j38_3 _ _ _ _ _ hf hP hS (lv_sub hl [1, 3, 0] rfl)
    · have hf := ite_f hf c_16
      refine lv_aload_n hx hb dX7_rights_27 rfl (lv_at hl 1 rfl) ?_
      refine lv_iconst (v := 0) hx hb dX7_rights_28 (by decide) ?_
      refine lv_iload_n hx hb dX7_rights_29 rfl (lv_at hl 2 rfl) ?_
      refine lv_iconst (v := 1) hx hb dX7_rights_30 (by decide) ?_
      obtain ⟨z_17, hz_17, hf⟩ := bn_some hf
      refine cWVi (As := [.int 0, .int p1, .int 1]) (rest := []) ⟨hx, hb, hml, hown, hts⟩ (c_X7_walks l D cI cZ cJ cT a0 H.size u0 0 p1 1 z_17 hz_17) (cwV 3 hts gX7_rights_X7_walks rfl rfl rfl (by decide +kernel) ⟨Nat.le_of_ble_eq_true rfl, Nat.le_of_ble_eq_true rfl⟩) hP hK (hDD u0) hS (own_free (hDD u0) hS hA) (va_recv hK hP (ci := 7) (q0 := 0) rfl rfl) rfl rfl hl.1 (Nat.le_of_ble_eq_true rfl) dX7_rights_31 ⟨Nat.le_of_ble_eq_true rfl, Nat.le_of_ble_eq_true rfl⟩ (fun H1 locs hP1 hk1 hS => ?_)
      have hP : va_P D cls (wX7 cI cZ a0 z_17.2) H1 := hP1
      clear hP1 hk1
      generalize H1 = H at hP hS ⊢
      refine lv_goto (tgt := 38) hx hb dX7_rights_34 (by decide) ?_
      exact j38_3 _ _ _ _ _ hf hP hS (lv_sub hl [1, 3, 0] rfl)
  obtain ⟨k21_18, hk21_18, hf⟩ := jn_some hf
  have j21_18 : ∀ (H : Heap) (locs : List Loc) (ls : Array Slot), k21_18 = some o → va_P D cls (wX7 cI cZ a0 u0) H → va_S A s.heap H locs → lv_has ls 6 [(0, .ref (a0 0)), (1, .int p1), (2, .int p2)] → W p l e (headSpec wsX7_rights rmX7_rights).room s m args below meth c H locs 0 0 Q (F0 m 21 ls []) := by
    intro H locs ls hf hP hS hl
    have hf := qa0 hk21_18 hf
    refine lv_iconst (v := 0) hx hb dX7_rights_21 (by decide) ?_
    exact j22_2 _ _ _ _ hf hP hS (lv_sub hl [0, 1, 2] rfl)
  refine lv_if_eq (tgt := 21) hx hb dX7_rights_7 (by decide) (fun c_19 => ?_) (fun c_19 => ?_)
  · have hf := ite_t hf c_19
    exact j21_18 _ _ _ hf hP hS (lv_sub hl [0, 1, 2] rfl)
  · have hf := ite_f hf c_19
    refine lv_iload_n hx hb dX7_rights_10 rfl (lv_at hl 2 rfl) ?_
    obtain ⟨z_20, hz_20, hf⟩ := bn_some hf
    refine c0S (As := [.int p2]) (rest := []) ⟨hx, hb, hml, hown, hts⟩ (c_X7_areRights l D cI cZ cJ cT p2 z_20 hz_20) (va_cwS 1 hts gX7_rights_X7_areRights rfl rfl rfl (by decide +kernel) ⟨Nat.le_of_ble_eq_true rfl, Nat.le_of_ble_eq_true rfl⟩) rfl rfl hl.1 (Nat.le_of_ble_eq_true rfl) dX7_rights_11 ⟨Nat.le_of_ble_eq_true rfl, Nat.le_of_ble_eq_true rfl⟩ ?_
    refine lv_if_eq (tgt := 21) hx hb dX7_rights_14 (by decide) (fun c_21 => ?_) (fun c_21 => ?_)
    · have hf := ite_t hf c_21
      exact j21_18 _ _ _ hf hP hS (lv_sub hl [0, 1, 2] rfl)
    · have hf := ite_f hf c_21
      refine lv_iconst (v := 1) hx hb dX7_rights_17 (by decide) ?_
      refine lv_goto (tgt := 22) hx hb dX7_rights_18 (by decide) ?_
      exact j22_2 _ _ _ _ hf hP hS (lv_sub hl [0, 1, 2] rfl)
set_option maxRecDepth 20000 in
theorem ggX7_own_X7_at : GoodIn wsX7_own wsX7_at := goodIn_r _ [22] (by decide +kernel) (by decide +kernel)
set_option maxRecDepth 20000 in
theorem gX7_own_X7_at : GoodIn wsX7_own (va_wsS RX7 67 yX7_at wsX7_at) := goodIn_app (goodIn_of _ (by decide +kernel)) ggX7_own_X7_at
set_option maxRecDepth 20000 in
theorem ggX7_own_X7_can : GoodIn wsX7_own wsX7_can := goodIn_r _ [37, 38, 39, 40, 41, 42, 43, 44, 45, 46, 47, 48, 49, 50, 51, 52, 53, 54, 55, 56, 57] (by decide +kernel) (by decide +kernel)
set_option maxRecDepth 20000 in
theorem gX7_own_X7_can : GoodIn wsX7_own (wsV RX7 140 RX7 yX7_can wsX7_can) := goodIn_app (goodIn_of _ (by decide +kernel)) ggX7_own_X7_can
set_option maxRecDepth 20000 in
theorem ggX7_own_X7_isIn : GoodIn wsX7_own wsX7_isIn := goodIn_r _ [7] (by decide +kernel) (by decide +kernel)
set_option maxRecDepth 20000 in
theorem gX7_own_X7_isIn : GoodIn wsX7_own (va_wsS RX7 62 yX7_isIn wsX7_isIn) := goodIn_app (goodIn_of _ (by decide +kernel)) ggX7_own_X7_isIn
set_option maxRecDepth 20000 in
theorem ggX7_own_X7_isUser : GoodIn wsX7_own wsX7_isUser := goodIn_r _ [33, 4, 5, 6, 7] (by decide +kernel) (by decide +kernel)
set_option maxRecDepth 20000 in
theorem gX7_own_X7_isUser : GoodIn wsX7_own (va_wsS RX7 137 yX7_isUser wsX7_isUser) := goodIn_app (goodIn_of _ (by decide +kernel)) ggX7_own_X7_isUser
set_option maxRecDepth 20000 in
theorem ggX7_own_X7_walks : GoodIn wsX7_own wsX7_walks := goodIn_r _ [11, 12, 13, 14, 15, 3, 16, 17, 18, 6, 19, 20, 21, 22, 23, 24, 25, 26, 27, 28, 29, 30, 39, 40, 41, 42, 43, 44, 45, 46, 47, 48, 49, 50, 51, 52, 53, 54, 55, 56, 57] (by decide +kernel) (by decide +kernel)
set_option maxRecDepth 20000 in
theorem gX7_own_X7_walks : GoodIn wsX7_own (wsV RX7 127 RX7 yX7_walks wsX7_walks) := goodIn_app (goodIn_of _ (by decide +kernel)) ggX7_own_X7_walks
theorem dX7_own_0 : decode cX7_own 0 = .ok (.iload_n 1, 1) := by decide +kernel
theorem dX7_own_1 : decode cX7_own 1 = .ok (.iconst 0, 1) := by decide +kernel
theorem dX7_own_2 : decode cX7_own 2 = .ok (.ldc 66, 2) := by decide +kernel
theorem dX7_own_4 : decode cX7_own 4 = .ok (.invokestatic 62, 3) := by decide +kernel
theorem dX7_own_7 : decode cX7_own 7 = .ok (.istore_n 3, 1) := by decide +kernel
theorem dX7_own_8 : decode cX7_own 8 = .ok (.iload_n 3, 1) := by decide +kernel
theorem dX7_own_9 : decode cX7_own 9 = .ok (.ifCond .eq 13, 3) := by decide +kernel
theorem dX7_own_12 : decode cX7_own 12 = .ok (.aload_n 0, 1) := by decide +kernel
theorem dX7_own_13 : decode cX7_own 13 = .ok (.iconst 0, 1) := by decide +kernel
theorem dX7_own_14 : decode cX7_own 14 = .ok (.iload_n 1, 1) := by decide +kernel
theorem dX7_own_15 : decode cX7_own 15 = .ok (.iconst 1, 1) := by decide +kernel
theorem dX7_own_16 : decode cX7_own 16 = .ok (.invokevirtual 127, 3) := by decide +kernel
theorem dX7_own_19 : decode cX7_own 19 = .ok (.goto 4, 3) := by decide +kernel
theorem dX7_own_22 : decode cX7_own 22 = .ok (.iconst (-1), 1) := by decide +kernel
theorem dX7_own_23 : decode cX7_own 23 = .ok (.istore 4, 2) := by decide +kernel
theorem dX7_own_25 : decode cX7_own 25 = .ok (.aload_n 0, 1) := by decide +kernel
theorem dX7_own_26 : decode cX7_own 26 = .ok (.iload_n 3, 1) := by decide +kernel
theorem dX7_own_27 : decode cX7_own 27 = .ok (.ifCond .ne 7, 3) := by decide +kernel
theorem dX7_own_30 : decode cX7_own 30 = .ok (.iconst 1, 1) := by decide +kernel
theorem dX7_own_31 : decode cX7_own 31 = .ok (.goto 32, 3) := by decide +kernel
theorem dX7_own_34 : decode cX7_own 34 = .ok (.iload 4, 2) := by decide +kernel
theorem dX7_own_36 : decode cX7_own 36 = .ok (.iconst (-1), 1) := by decide +kernel
theorem dX7_own_37 : decode cX7_own 37 = .ok (.if_icmp .eq 10, 3) := by decide +kernel
theorem dX7_own_40 : decode cX7_own 40 = .ok (.iload_n 2, 1) := by decide +kernel
theorem dX7_own_41 : decode cX7_own 41 = .ok (.invokestatic 137, 3) := by decide +kernel
theorem dX7_own_44 : decode cX7_own 44 = .ok (.ifCond .ne 7, 3) := by decide +kernel
theorem dX7_own_47 : decode cX7_own 47 = .ok (.iconst 2, 1) := by decide +kernel
theorem dX7_own_48 : decode cX7_own 48 = .ok (.goto 15, 3) := by decide +kernel
theorem dX7_own_51 : decode cX7_own 51 = .ok (.aload_n 0, 1) := by decide +kernel
theorem dX7_own_52 : decode cX7_own 52 = .ok (.getfield 85, 3) := by decide +kernel
theorem dX7_own_55 : decode cX7_own 55 = .ok (.ifCond .eq 7, 3) := by decide +kernel
theorem dX7_own_58 : decode cX7_own 58 = .ok (.iconst 3, 1) := by decide +kernel
theorem dX7_own_59 : decode cX7_own 59 = .ok (.goto 4, 3) := by decide +kernel
theorem dX7_own_62 : decode cX7_own 62 = .ok (.iconst 0, 1) := by decide +kernel
theorem dX7_own_63 : decode cX7_own 63 = .ok (.invokevirtual 140, 3) := by decide +kernel
theorem dX7_own_66 : decode cX7_own 66 = .ok (.ifCond .ne 5, 3) := by decide +kernel
theorem dX7_own_69 : decode cX7_own 69 = .ok (.iconst 0, 1) := by decide +kernel
theorem dX7_own_70 : decode cX7_own 70 = .ok (.ireturn, 1) := by decide +kernel
theorem dX7_own_71 : decode cX7_own 71 = .ok (.aload_n 0, 1) := by decide +kernel
theorem dX7_own_72 : decode cX7_own 72 = .ok (.getfield 7, 3) := by decide +kernel
theorem dX7_own_75 : decode cX7_own 75 = .ok (.iconst 0, 1) := by decide +kernel
theorem dX7_own_76 : decode cX7_own 76 = .ok (.iload 4, 2) := by decide +kernel
theorem dX7_own_78 : decode cX7_own 78 = .ok (.invokestatic 67, 3) := by decide +kernel
theorem dX7_own_81 : decode cX7_own 81 = .ok (.iconst 1, 1) := by decide +kernel
theorem dX7_own_82 : decode cX7_own 82 = .ok (.iadd, 1) := by decide +kernel
theorem dX7_own_83 : decode cX7_own 83 = .ok (.iaload, 1) := by decide +kernel
theorem dX7_own_84 : decode cX7_own 84 = .ok (.istore 5, 2) := by decide +kernel
theorem dX7_own_86 : decode cX7_own 86 = .ok (.aload_n 0, 1) := by decide +kernel
theorem dX7_own_87 : decode cX7_own 87 = .ok (.getfield 7, 3) := by decide +kernel
theorem dX7_own_90 : decode cX7_own 90 = .ok (.iconst 0, 1) := by decide +kernel
theorem dX7_own_91 : decode cX7_own 91 = .ok (.iload 4, 2) := by decide +kernel
theorem dX7_own_93 : decode cX7_own 93 = .ok (.invokestatic 67, 3) := by decide +kernel
theorem dX7_own_96 : decode cX7_own 96 = .ok (.iconst 1, 1) := by decide +kernel
theorem dX7_own_97 : decode cX7_own 97 = .ok (.iadd, 1) := by decide +kernel
theorem dX7_own_98 : decode cX7_own 98 = .ok (.iload_n 2, 1) := by decide +kernel
theorem dX7_own_99 : decode cX7_own 99 = .ok (.iastore, 1) := by decide +kernel
theorem dX7_own_100 : decode cX7_own 100 = .ok (.iload 5, 2) := by decide +kernel
theorem dX7_own_102 : decode cX7_own 102 = .ok (.ireturn, 1) := by decide +kernel
def f_X7_own (u0 : S1) (p1 : Int32) (p2 : Int32) : Option (Int32 × S1) := bn (f_X7_isIn p1 0 99999999) (fun z_1 => jn (fun (v23_2_0 : Int32) (u23_2_0 : S1) => jn (fun (v63_3_0 : Int32) => bn (f_X7_can u23_2_0 v63_3_0) (fun z_4 => if z_4.1 = 0 then some (0, z_4.2) else bn (f_X7_at 0 v23_2_0) (fun z_6 => chk (inb (z_6 + 1) 8480) (bn (f_X7_at 0 v23_2_0) (fun z_7 => chk (inb (z_7 + 1) 8480) (bv (st z_4.2 0 (z_7 + 1) p2) (fun u_8 => some ((z_4.2 0 (z_6 + 1).toNatClampNeg), u_8)))))))) (fun k63_3 => if z_1 = 0 then k63_3 1 else jn (k63_3 2) (fun k47_10 => if v23_2_0 = (-1) then k47_10 else bn (f_X7_isUser p2) (fun z_12 => if z_12 = 0 then k47_10 else if (u23_2_0 7 0) = 0 then k63_3 0 else k63_3 3)))) (fun k23_2 => if z_1 = 0 then k23_2 (-1) u0 else bn (f_X7_walks u0 0 p1 1) (fun z_16 => k23_2 z_16.1 z_16.2)))
def rmX7_own : Room := { frames := 4, cells := 0, slots := 0, locals := 95 }
set_option maxHeartbeats 4000000 in
set_option maxRecDepth 100000 in
theorem c_X7_own (l : Launch) (D : va_G) (cI cZ cJ cT : ClassId) (a0 : Nat → Nat) (sz : Nat) (u0 : S1) (p1 : Int32) (p2 : Int32) (o : Int32 × S1) (hf : f_X7_own u0 p1 p2 = some o) : Met l yX7_own wsX7_own rmX7_own (va_Pc [.ref (a0 0), .int p1, .int p2] (PW D cls (tys cI cZ cJ cT) ((wX7 cI cZ a0 u0)) sz)) (QWi D cls o.1 ((wX7 cI cZ a0 o.2)) (va_A ((wX7 cI cZ a0 u0)) sz)) 0 0 (va_A ((wX7 cI cZ a0 u0)) sz) := by
  refine Met.ofW (cc := cX7_own) (maxL := 6) (ret := (some .int)) (by decide) rfl ?_
  intro p e s m args below meth c s₁ B hml hv
  obtain ⟨hav, hsz, hP, hK, hD0⟩ := hv
  have hx := B.exec
  have hb := B.bytes
  have hr := B.returns
  have hlocks := B.notSynchronized
  have hts := atoms_spec (ws := wsX7_own) B.pre
  have hown : s.vm.findClass RX7 = some m.cls := findClass_of_methodNamed B.named
  have i7 : ∀ w ∈ wsX70, w ∈ wsX7_own := fun w h => List.mem_cons_of_mem _ (List.mem_append_right _ h)
  have hk7 := hts (.fieldLink RX7 7 "InoderyModel" "s" "[I") (by decide +kernel)
  have hk85 := hts (.fieldLink RX7 85 "InoderyModel" "user" "I") (by decide +kernel)
  subst hsz
  have hD := hD0.self (sz := s.heap.size)
  generalize hAe : va_A ((wX7 cI cZ a0 u0)) s.heap.size = A at hD ⊢
  have hA : ∀ q : Nat, s.heap.size ≤ q → A q := fun q h => by rw [← hAe]; exact Or.inr h
  have hS : va_S A s.heap s.heap [] := va_S.rf
  have hDD : ∀ w0 : S1, va_D A ((wX7 cI cZ a0 w0)) := fun _ => D_same (w := (wX7 cI cZ a0 u0)) rfl hD
  refine Wq (fun Q hQ => ?_)
  refine W_entry hav (Nat.le_of_ble_eq_true rfl) (fun ls hl => ?_)
  have hl : lv_has ls 6 [(0, .ref (a0 0)), (1, .int p1), (2, .int p2)] := hl
  unfold f_X7_own at hf
  refine W_heap hP hS (fun H locs hP hS => ?_)
  refine lv_iload_n hx hb dX7_own_0 rfl (lv_at hl 1 rfl) ?_
  refine lv_iconst (v := 0) hx hb dX7_own_1 (by decide) ?_
  refine lv_ldc hx hb hown (hts (.constant RX7 66 (99999999)) (by decide +kernel)) dX7_own_2 ?_
  obtain ⟨z_1, hz_1, hf⟩ := bn_some hf
  refine c0S (As := [.int p1, .int 0, .int 99999999]) (rest := []) ⟨hx, hb, hml, hown, hts⟩ (c_X7_isIn l D cI cZ cJ cT p1 0 99999999 z_1 hz_1) (va_cwS 3 hts gX7_own_X7_isIn rfl rfl rfl (by decide +kernel) ⟨Nat.le_of_ble_eq_true rfl, Nat.le_of_ble_eq_true rfl⟩) rfl rfl hl.1 (Nat.le_of_ble_eq_true rfl) dX7_own_4 ⟨Nat.le_of_ble_eq_true rfl, Nat.le_of_ble_eq_true rfl⟩ ?_
  refine lv_istore_n (lv' := [(3, .int z_1), (0, .ref (a0 0)), (1, .int p1), (2, .int p2)]) hx hb dX7_own_7 rfl hl (by decide) rfl (fun ls hl => ?_)
  refine lv_iload_n hx hb dX7_own_8 rfl (lv_at hl 0 rfl) ?_
  obtain ⟨k23_2, hk23_2, hf⟩ := jn_some hf
  have j23_2 : ∀ (v23_2_0 : Int32) (u23_2_0 : S1) (H : Heap) (locs : List Loc) (ls : Array Slot), k23_2 v23_2_0 u23_2_0 = some o → va_P D cls (wX7 cI cZ a0 u23_2_0) H → va_S A s.heap H locs → lv_has ls 6 [(0, .ref (a0 0)), (2, .int p2), (3, .int z_1)] → W p l e (headSpec wsX7_own rmX7_own).room s m args below meth c H locs 0 0 Q (F0 m 23 ls [.int v23_2_0]) := by
    intro v23_2_0 u23_2_0 H locs ls hf hP hS hl
    have hf := qa2 hk23_2 hf
    refine lv_istore (lv' := [(4, .int v23_2_0), (0, .ref (a0 0)), (2, .int p2), (3, .int z_1)]) hx hb dX7_own_23 hl (by decide) rfl (fun ls hl => ?_)
    refine lv_aload_n hx hb dX7_own_25 rfl (lv_at hl 1 rfl) ?_
    refine lv_iload_n hx hb dX7_own_26 rfl (lv_at hl 3 rfl) ?_
    obtain ⟨k63_3, hk63_3, hf⟩ := jn_some hf
    have j63_3 : ∀ (v63_3_0 : Int32) (H : Heap) (locs : List Loc) (ls : Array Slot), k63_3 v63_3_0 = some o → va_P D cls (wX7 cI cZ a0 u23_2_0) H → va_S A s.heap H locs → lv_has ls 6 [(0, .ref (a0 0)), (2, .int p2), (4, .int v23_2_0)] → W p l e (headSpec wsX7_own rmX7_own).room s m args below meth c H locs 0 0 Q (F0 m 63 ls [.int v63_3_0, .ref (a0 0)]) := by
      intro v63_3_0 H locs ls hf hP hS hl
      have hf := qa1 hk63_3 hf
      obtain ⟨z_4, hz_4, hf⟩ := bn_some hf
      refine cWVi (As := [.int v63_3_0]) (rest := []) ⟨hx, hb, hml, hown, hts⟩ (c_X7_can l D cI cZ cJ cT a0 H.size u23_2_0 v63_3_0 z_4 hz_4) (cwV 1 hts gX7_own_X7_can rfl rfl rfl (by decide +kernel) ⟨Nat.le_of_ble_eq_true rfl, Nat.le_of_ble_eq_true rfl⟩) hP hK (hDD u23_2_0) hS (own_free (hDD u23_2_0) hS hA) (va_recv hK hP (ci := 7) (q0 := 0) rfl rfl) rfl rfl hl.1 (Nat.le_of_ble_eq_true rfl) dX7_own_63 ⟨Nat.le_of_ble_eq_true rfl, Nat.le_of_ble_eq_true rfl⟩ (fun H1 locs hP1 hk1 hS => ?_)
      have hP : va_P D cls (wX7 cI cZ a0 z_4.2) H1 := hP1
      clear hP1 hk1
      generalize H1 = H at hP hS ⊢
      refine lv_if_ne (tgt := 71) hx hb dX7_own_66 (by decide) (fun c_5 => ?_) (fun c_5 => ?_)
      · have hf := ite_f hf c_5
        refine lv_aload_n hx hb dX7_own_71 rfl (lv_at hl 0 rfl) ?_
        refine va_get (D := D) (ci := 7) (v := .ref (a0 1)) (C := RX7) (T := TX7) (N := 19) hx hb hts i7 hown hK hP 0 rfl rfl 0 (by decide) hk7 (fun _ h9 => h9) rfl dX7_own_72 ?_
        refine lv_iconst (v := 0) hx hb dX7_own_75 (by decide) ?_
        refine lv_iload hx hb dX7_own_76 (lv_at hl 2 rfl) ?_
        obtain ⟨z_6, hz_6, hf⟩ := bn_some hf
        refine c0S (As := [.int 0, .int v23_2_0]) (rest := [.ref (a0 1)]) ⟨hx, hb, hml, hown, hts⟩ (c_X7_at l D cI cZ cJ cT 0 v23_2_0 z_6 hz_6) (va_cwS 2 hts gX7_own_X7_at rfl rfl rfl (by decide +kernel) ⟨Nat.le_of_ble_eq_true rfl, Nat.le_of_ble_eq_true rfl⟩) rfl rfl hl.1 (Nat.le_of_ble_eq_true rfl) dX7_own_78 ⟨Nat.le_of_ble_eq_true rfl, Nat.le_of_ble_eq_true rfl⟩ ?_
        refine lv_iconst (v := 1) hx hb dX7_own_81 (by decide) ?_
        refine lv_iadd hx hb dX7_own_82 ?_
        obtain ⟨hi, hf⟩ := chk_some hf
        refine va_iald hx hb hK hP 1 0 rfl rfl (inb_in hi) dX7_own_83 ?_
        refine lv_istore (lv' := [(5, .int (z_4.2 0 (z_6 + 1).toNatClampNeg)), (0, .ref (a0 0)), (2, .int p2), (4, .int v23_2_0)]) hx hb dX7_own_84 hl (by decide) rfl (fun ls hl => ?_)
        refine lv_aload_n hx hb dX7_own_86 rfl (lv_at hl 1 rfl) ?_
        refine va_get (D := D) (ci := 7) (v := .ref (a0 1)) (C := RX7) (T := TX7) (N := 19) hx hb hts i7 hown hK hP 0 rfl rfl 0 (by decide) hk7 (fun _ h9 => h9) rfl dX7_own_87 ?_
        refine lv_iconst (v := 0) hx hb dX7_own_90 (by decide) ?_
        refine lv_iload hx hb dX7_own_91 (lv_at hl 3 rfl) ?_
        obtain ⟨z_7, hz_7, hf⟩ := bn_some hf
        refine c0S (As := [.int 0, .int v23_2_0]) (rest := [.ref (a0 1)]) ⟨hx, hb, hml, hown, hts⟩ (c_X7_at l D cI cZ cJ cT 0 v23_2_0 z_7 hz_7) (va_cwS 2 hts gX7_own_X7_at rfl rfl rfl (by decide +kernel) ⟨Nat.le_of_ble_eq_true rfl, Nat.le_of_ble_eq_true rfl⟩) rfl rfl hl.1 (Nat.le_of_ble_eq_true rfl) dX7_own_93 ⟨Nat.le_of_ble_eq_true rfl, Nat.le_of_ble_eq_true rfl⟩ ?_
        refine lv_iconst (v := 1) hx hb dX7_own_96 (by decide) ?_
        refine lv_iadd hx hb dX7_own_97 ?_
        refine lv_iload_n hx hb dX7_own_98 rfl (lv_at hl 2 rfl) ?_
        obtain ⟨hi, hf⟩ := chk_some hf
        obtain ⟨u_8, hu_8, hf⟩ := bv_some hf
        refine va_iast hx hb hK hP (hDD z_4.2) hS 1 0 rfl rfl (inb_in hi) dX7_own_99 (fun H locs hP _ hS => ?_)
        have hP : va_P D cls (wX7 cI cZ a0 u_8) H := by rw [hu_8]; exact hP
        refine lv_iload hx hb dX7_own_100 (lv_at hl 0 rfl) ?_
        have eo := Option.some.inj hf
        have hP : va_P D cls (wX7 cI cZ a0 o.2) H := by rw [← eo]; exact hP
        rw [hQ]
        exact W.iret hx hb hr (fun t ht hW => ⟨⟨_, (), rfl, congrArg Prod.fst eo, P_at ht hP⟩, hS.F ht⟩) hS.2.2 dX7_own_102 hlocks
      · have hf := ite_t hf c_5
        refine lv_iconst (v := 0) hx hb dX7_own_69 (by decide) ?_
        have eo := Option.some.inj hf
        have hP : va_P D cls (wX7 cI cZ a0 o.2) H := by rw [← eo]; exact hP
        rw [hQ]
        exact W.iret hx hb hr (fun t ht hW => ⟨⟨_, (), rfl, congrArg Prod.fst eo, P_at ht hP⟩, hS.F ht⟩) hS.2.2 dX7_own_70 hlocks
    refine lv_if_ne (tgt := 34) hx hb dX7_own_27 (by decide) (fun c_9 => ?_) (fun c_9 => ?_)
    · have hf := ite_f hf c_9
      refine lv_iload hx hb dX7_own_34 (lv_at hl 0 rfl) ?_
      refine lv_iconst (v := (-1)) hx hb dX7_own_36 (by decide) ?_
      obtain ⟨k47_10, hk47_10, hf⟩ := jn_some hf
      have j47_10 : ∀ (H : Heap) (locs : List Loc) (ls : Array Slot), k47_10 = some o → va_P D cls (wX7 cI cZ a0 u23_2_0) H → va_S A s.heap H locs → lv_has ls 6 [(0, .ref (a0 0)), (2, .int p2), (4, .int v23_2_0)] → W p l e (headSpec wsX7_own rmX7_own).room s m args below meth c H locs 0 0 Q (F0 m 47 ls [.ref (a0 0)]) := by
        intro H locs ls hf hP hS hl
        have hf := qa0 hk47_10 hf
        refine lv_iconst (v := 2) hx hb dX7_own_47 (by decide) ?_
        refine lv_goto (tgt := 63) hx hb dX7_own_48 (by decide) ?_
        exact j63_3 _ _ _ _ hf hP hS (lv_sub hl [0, 1, 2] rfl)
      refine lv_icmp_eq (tgt := 47) hx hb dX7_own_37 (by decide) (fun c_11 => ?_) (fun c_11 => ?_)
      · have hf := ite_t hf c_11
        exact j47_10 _ _ _ hf hP hS (lv_sub hl [1, 2, 0] rfl)
      · have hf := ite_f hf c_11
        refine lv_iload_n hx hb dX7_own_40 rfl (lv_at hl 2 rfl) ?_
        obtain ⟨z_12, hz_12, hf⟩ := bn_some hf
        refine c0S (As := [.int p2]) (rest := [.ref (a0 0)]) ⟨hx, hb, hml, hown, hts⟩ (c_X7_isUser l D cI cZ cJ cT p2 z_12 hz_12) (va_cwS 1 hts gX7_own_X7_isUser rfl rfl rfl (by decide +kernel) ⟨Nat.le_of_ble_eq_true rfl, Nat.le_of_ble_eq_true rfl⟩) rfl rfl hl.1 (Nat.le_of_ble_eq_true rfl) dX7_own_41 ⟨Nat.le_of_ble_eq_true rfl, Nat.le_of_ble_eq_true rfl⟩ ?_
        refine lv_if_ne (tgt := 51) hx hb dX7_own_44 (by decide) (fun c_13 => ?_) (fun c_13 => ?_)
        · have hf := ite_f hf c_13
          refine lv_aload_n hx hb dX7_own_51 rfl (lv_at hl 1 rfl) ?_
          refine va_get (D := D) (ci := 7) (v := .int (u23_2_0 7 0)) (C := RX7) (T := TX7) (N := 19) hx hb hts i7 hown hK hP 0 rfl rfl 7 (by decide) hk85 (fun _ h9 => h9) rfl dX7_own_52 ?_
          refine lv_if_eq (tgt := 62) hx hb dX7_own_55 (by decide) (fun c_14 => ?_) (fun c_14 => ?_)
          · have hf := ite_t hf c_14
            refine lv_iconst (v := 0) hx hb dX7_own_62 (by decide) ?_
            exact j63_3 _ _ _ _ hf hP hS (lv_sub hl [1, 2, 0] rfl)
          · have hf := ite_f hf c_14
            refine lv_iconst (v := 3) hx hb dX7_own_58 (by decide) ?_
            refine lv_goto (tgt := 63) hx hb dX7_own_59 (by decide) ?_
            exact j63_3 _ _ _ _ hf hP hS (lv_sub hl [1, 2, 0] rfl)
        · have hf := ite_t hf c_13
          exact j47_10 _ _ _ hf hP hS (lv_sub hl [1, 2, 0] rfl)
    · have hf := ite_t hf c_9
      refine lv_iconst (v := 1) hx hb dX7_own_30 (by decide) ?_
      refine lv_goto (tgt := 63) hx hb dX7_own_31 (by decide) ?_
      exact j63_3 _ _ _ _ hf hP hS (lv_sub hl [1, 2, 0] rfl)
  refine lv_if_eq (tgt := 22) hx hb dX7_own_9 (by decide) (fun c_15 => ?_) (fun c_15 => ?_)
  · have hf := ite_t hf c_15
    refine lv_iconst (v := (-1)) hx hb dX7_own_22 (by decide) ?_
    exact j23_2 _ _ _ _ _ hf hP hS (lv_sub hl [1, 3, 0] rfl)
  · have hf := ite_f hf c_15
    refine lv_aload_n hx hb dX7_own_12 rfl (lv_at hl 1 rfl) ?_
    refine lv_iconst (v := 0) hx hb dX7_own_13 (by decide) ?_
    refine lv_iload_n hx hb dX7_own_14 rfl (lv_at hl 2 rfl) ?_
    refine lv_iconst (v := 1) hx hb dX7_own_15 (by decide) ?_
    obtain ⟨z_16, hz_16, hf⟩ := bn_some hf
    refine cWVi (As := [.int 0, .int p1, .int 1]) (rest := []) ⟨hx, hb, hml, hown, hts⟩ (c_X7_walks l D cI cZ cJ cT a0 H.size u0 0 p1 1 z_16 hz_16) (cwV 3 hts gX7_own_X7_walks rfl rfl rfl (by decide +kernel) ⟨Nat.le_of_ble_eq_true rfl, Nat.le_of_ble_eq_true rfl⟩) hP hK (hDD u0) hS (own_free (hDD u0) hS hA) (va_recv hK hP (ci := 7) (q0 := 0) rfl rfl) rfl rfl hl.1 (Nat.le_of_ble_eq_true rfl) dX7_own_16 ⟨Nat.le_of_ble_eq_true rfl, Nat.le_of_ble_eq_true rfl⟩ (fun H1 locs hP1 hk1 hS => ?_)
    have hP : va_P D cls (wX7 cI cZ a0 z_16.2) H1 := hP1
    clear hP1 hk1
    generalize H1 = H at hP hS ⊢
    refine lv_goto (tgt := 23) hx hb dX7_own_19 (by decide) ?_
    exact j23_2 _ _ _ _ _ hf hP hS (lv_sub hl [1, 3, 0] rfl)
set_option maxRecDepth 20000 in
theorem ggX7_look_X7_can : GoodIn wsX7_look wsX7_can := goodIn_r _ [33, 34, 35, 36, 37, 38, 39, 40, 41, 42, 43, 44, 45, 46, 47, 48, 49, 50, 51, 52, 53] (by decide +kernel) (by decide +kernel)
set_option maxRecDepth 20000 in
theorem gX7_look_X7_can : GoodIn wsX7_look (wsV RX7 140 RX7 yX7_can wsX7_can) := goodIn_app (goodIn_of _ (by decide +kernel)) ggX7_look_X7_can
set_option maxRecDepth 20000 in
theorem ggX7_look_X7_isIn : GoodIn wsX7_look wsX7_isIn := goodIn_r _ [5] (by decide +kernel) (by decide +kernel)
set_option maxRecDepth 20000 in
theorem gX7_look_X7_isIn : GoodIn wsX7_look (va_wsS RX7 62 yX7_isIn wsX7_isIn) := goodIn_app (goodIn_of _ (by decide +kernel)) ggX7_look_X7_isIn
set_option maxRecDepth 20000 in
theorem ggX7_look_X7_walks : GoodIn wsX7_look wsX7_walks := goodIn_r _ [9, 10, 11, 12, 13, 14, 15, 16, 17, 4, 18, 19, 20, 21, 22, 23, 24, 25, 26, 27, 28, 29, 35, 36, 37, 38, 39, 40, 41, 42, 43, 44, 45, 46, 47, 48, 49, 50, 51, 52, 53] (by decide +kernel) (by decide +kernel)
set_option maxRecDepth 20000 in
theorem gX7_look_X7_walks : GoodIn wsX7_look (wsV RX7 127 RX7 yX7_walks wsX7_walks) := goodIn_app (goodIn_of _ (by decide +kernel)) ggX7_look_X7_walks
theorem dX7_look_0 : decode cX7_look 0 = .ok (.iload_n 1, 1) := by decide +kernel
theorem dX7_look_1 : decode cX7_look 1 = .ok (.iconst 0, 1) := by decide +kernel
theorem dX7_look_2 : decode cX7_look 2 = .ok (.ldc 66, 2) := by decide +kernel
theorem dX7_look_4 : decode cX7_look 4 = .ok (.invokestatic 62, 3) := by decide +kernel
theorem dX7_look_7 : decode cX7_look 7 = .ok (.istore_n 3, 1) := by decide +kernel
theorem dX7_look_8 : decode cX7_look 8 = .ok (.iload_n 3, 1) := by decide +kernel
theorem dX7_look_9 : decode cX7_look 9 = .ok (.ifCond .eq 13, 3) := by decide +kernel
theorem dX7_look_12 : decode cX7_look 12 = .ok (.aload_n 0, 1) := by decide +kernel
theorem dX7_look_13 : decode cX7_look 13 = .ok (.iconst 0, 1) := by decide +kernel
theorem dX7_look_14 : decode cX7_look 14 = .ok (.iload_n 1, 1) := by decide +kernel
theorem dX7_look_15 : decode cX7_look 15 = .ok (.iload_n 2, 1) := by decide +kernel
theorem dX7_look_16 : decode cX7_look 16 = .ok (.invokevirtual 127, 3) := by decide +kernel
theorem dX7_look_19 : decode cX7_look 19 = .ok (.goto 4, 3) := by decide +kernel
theorem dX7_look_22 : decode cX7_look 22 = .ok (.iconst (-1), 1) := by decide +kernel
theorem dX7_look_23 : decode cX7_look 23 = .ok (.istore 4, 2) := by decide +kernel
theorem dX7_look_25 : decode cX7_look 25 = .ok (.aload_n 0, 1) := by decide +kernel
theorem dX7_look_26 : decode cX7_look 26 = .ok (.iload_n 3, 1) := by decide +kernel
theorem dX7_look_27 : decode cX7_look 27 = .ok (.ifCond .ne 7, 3) := by decide +kernel
theorem dX7_look_30 : decode cX7_look 30 = .ok (.iconst 1, 1) := by decide +kernel
theorem dX7_look_31 : decode cX7_look 31 = .ok (.goto 14, 3) := by decide +kernel
theorem dX7_look_34 : decode cX7_look 34 = .ok (.iload 4, 2) := by decide +kernel
theorem dX7_look_36 : decode cX7_look 36 = .ok (.iconst (-1), 1) := by decide +kernel
theorem dX7_look_37 : decode cX7_look 37 = .ok (.if_icmp .ne 7, 3) := by decide +kernel
theorem dX7_look_40 : decode cX7_look 40 = .ok (.iconst 2, 1) := by decide +kernel
theorem dX7_look_41 : decode cX7_look 41 = .ok (.goto 4, 3) := by decide +kernel
theorem dX7_look_44 : decode cX7_look 44 = .ok (.iconst 0, 1) := by decide +kernel
theorem dX7_look_45 : decode cX7_look 45 = .ok (.invokevirtual 140, 3) := by decide +kernel
theorem dX7_look_48 : decode cX7_look 48 = .ok (.ifCond .eq 8, 3) := by decide +kernel
theorem dX7_look_51 : decode cX7_look 51 = .ok (.iload 4, 2) := by decide +kernel
theorem dX7_look_53 : decode cX7_look 53 = .ok (.goto 4, 3) := by decide +kernel
theorem dX7_look_56 : decode cX7_look 56 = .ok (.iconst 0, 1) := by decide +kernel
theorem dX7_look_57 : decode cX7_look 57 = .ok (.ireturn, 1) := by decide +kernel
def f_X7_look (u0 : S1) (p1 : Int32) (p2 : Int32) : Option (Int32 × S1) := bn (f_X7_isIn p1 0 99999999) (fun z_1 => jn (fun (v23_2_0 : Int32) (u23_2_0 : S1) => jn (fun (v45_3_0 : Int32) => bn (f_X7_can u23_2_0 v45_3_0) (fun z_4 => jn (fun (v57_5_0 : Int32) => some (v57_5_0, z_4.2)) (fun k57_5 => if z_4.1 = 0 then k57_5 0 else k57_5 v23_2_0))) (fun k45_3 => if z_1 = 0 then k45_3 1 else if v23_2_0 = (-1) then k45_3 2 else k45_3 0)) (fun k23_2 => if z_1 = 0 then k23_2 (-1) u0 else bn (f_X7_walks u0 0 p1 p2) (fun z_10 => k23_2 z_10.1 z_10.2)))
def rmX7_look : Room := { frames := 4, cells := 0, slots := 0, locals := 95 }
set_option maxHeartbeats 4000000 in
set_option maxRecDepth 100000 in
theorem c_X7_look (l : Launch) (D : va_G) (cI cZ cJ cT : ClassId) (a0 : Nat → Nat) (sz : Nat) (u0 : S1) (p1 : Int32) (p2 : Int32) (o : Int32 × S1) (hf : f_X7_look u0 p1 p2 = some o) : Met l yX7_look wsX7_look rmX7_look (va_Pc [.ref (a0 0), .int p1, .int p2] (PW D cls (tys cI cZ cJ cT) ((wX7 cI cZ a0 u0)) sz)) (QWi D cls o.1 ((wX7 cI cZ a0 o.2)) (va_A ((wX7 cI cZ a0 u0)) sz)) 0 0 (va_A ((wX7 cI cZ a0 u0)) sz) := by
  refine Met.ofW (cc := cX7_look) (maxL := 5) (ret := (some .int)) (by decide) rfl ?_
  intro p e s m args below meth c s₁ B hml hv
  obtain ⟨hav, hsz, hP, hK, hD0⟩ := hv
  have hx := B.exec
  have hb := B.bytes
  have hr := B.returns
  have hlocks := B.notSynchronized
  have hts := atoms_spec (ws := wsX7_look) B.pre
  have hown : s.vm.findClass RX7 = some m.cls := findClass_of_methodNamed B.named
  subst hsz
  have hD := hD0.self (sz := s.heap.size)
  generalize hAe : va_A ((wX7 cI cZ a0 u0)) s.heap.size = A at hD ⊢
  have hA : ∀ q : Nat, s.heap.size ≤ q → A q := fun q h => by rw [← hAe]; exact Or.inr h
  have hS : va_S A s.heap s.heap [] := va_S.rf
  have hDD : ∀ w0 : S1, va_D A ((wX7 cI cZ a0 w0)) := fun _ => D_same (w := (wX7 cI cZ a0 u0)) rfl hD
  refine Wq (fun Q hQ => ?_)
  refine W_entry hav (Nat.le_of_ble_eq_true rfl) (fun ls hl => ?_)
  have hl : lv_has ls 5 [(0, .ref (a0 0)), (1, .int p1), (2, .int p2)] := hl
  unfold f_X7_look at hf
  refine W_heap hP hS (fun H locs hP hS => ?_)
  refine lv_iload_n hx hb dX7_look_0 rfl (lv_at hl 1 rfl) ?_
  refine lv_iconst (v := 0) hx hb dX7_look_1 (by decide) ?_
  refine lv_ldc hx hb hown (hts (.constant RX7 66 (99999999)) (by decide +kernel)) dX7_look_2 ?_
  obtain ⟨z_1, hz_1, hf⟩ := bn_some hf
  refine c0S (As := [.int p1, .int 0, .int 99999999]) (rest := []) ⟨hx, hb, hml, hown, hts⟩ (c_X7_isIn l D cI cZ cJ cT p1 0 99999999 z_1 hz_1) (va_cwS 3 hts gX7_look_X7_isIn rfl rfl rfl (by decide +kernel) ⟨Nat.le_of_ble_eq_true rfl, Nat.le_of_ble_eq_true rfl⟩) rfl rfl hl.1 (Nat.le_of_ble_eq_true rfl) dX7_look_4 ⟨Nat.le_of_ble_eq_true rfl, Nat.le_of_ble_eq_true rfl⟩ ?_
  refine lv_istore_n (lv' := [(3, .int z_1), (0, .ref (a0 0)), (1, .int p1), (2, .int p2)]) hx hb dX7_look_7 rfl hl (by decide) rfl (fun ls hl => ?_)
  refine lv_iload_n hx hb dX7_look_8 rfl (lv_at hl 0 rfl) ?_
  obtain ⟨k23_2, hk23_2, hf⟩ := jn_some hf
  have j23_2 : ∀ (v23_2_0 : Int32) (u23_2_0 : S1) (H : Heap) (locs : List Loc) (ls : Array Slot), k23_2 v23_2_0 u23_2_0 = some o → va_P D cls (wX7 cI cZ a0 u23_2_0) H → va_S A s.heap H locs → lv_has ls 5 [(0, .ref (a0 0)), (3, .int z_1)] → W p l e (headSpec wsX7_look rmX7_look).room s m args below meth c H locs 0 0 Q (F0 m 23 ls [.int v23_2_0]) := by
    intro v23_2_0 u23_2_0 H locs ls hf hP hS hl
    have hf := qa2 hk23_2 hf
    refine lv_istore (lv' := [(4, .int v23_2_0), (0, .ref (a0 0)), (3, .int z_1)]) hx hb dX7_look_23 hl (by decide) rfl (fun ls hl => ?_)
    refine lv_aload_n hx hb dX7_look_25 rfl (lv_at hl 1 rfl) ?_
    refine lv_iload_n hx hb dX7_look_26 rfl (lv_at hl 2 rfl) ?_
    obtain ⟨k45_3, hk45_3, hf⟩ := jn_some hf
    have j45_3 : ∀ (v45_3_0 : Int32) (H : Heap) (locs : List Loc) (ls : Array Slot), k45_3 v45_3_0 = some o → va_P D cls (wX7 cI cZ a0 u23_2_0) H → va_S A s.heap H locs → lv_has ls 5 [(4, .int v23_2_0)] → W p l e (headSpec wsX7_look rmX7_look).room s m args below meth c H locs 0 0 Q (F0 m 45 ls [.int v45_3_0, .ref (a0 0)]) := by
      intro v45_3_0 H locs ls hf hP hS hl
      have hf := qa1 hk45_3 hf
      obtain ⟨z_4, hz_4, hf⟩ := bn_some hf
      refine cWVi (As := [.int v45_3_0]) (rest := []) ⟨hx, hb, hml, hown, hts⟩ (c_X7_can l D cI cZ cJ cT a0 H.size u23_2_0 v45_3_0 z_4 hz_4) (cwV 1 hts gX7_look_X7_can rfl rfl rfl (by decide +kernel) ⟨Nat.le_of_ble_eq_true rfl, Nat.le_of_ble_eq_true rfl⟩) hP hK (hDD u23_2_0) hS (own_free (hDD u23_2_0) hS hA) (va_recv hK hP (ci := 7) (q0 := 0) rfl rfl) rfl rfl hl.1 (Nat.le_of_ble_eq_true rfl) dX7_look_45 ⟨Nat.le_of_ble_eq_true rfl, Nat.le_of_ble_eq_true rfl⟩ (fun H1 locs hP1 hk1 hS => ?_)
      have hP : va_P D cls (wX7 cI cZ a0 z_4.2) H1 := hP1
      clear hP1 hk1
      generalize H1 = H at hP hS ⊢
      obtain ⟨k57_5, hk57_5, hf⟩ := jn_some hf
      have j57_5 : ∀ (v57_5_0 : Int32) (H : Heap) (locs : List Loc) (ls : Array Slot), k57_5 v57_5_0 = some o → va_P D cls (wX7 cI cZ a0 z_4.2) H → va_S A s.heap H locs → lv_has ls 5 [] → W p l e (headSpec wsX7_look rmX7_look).room s m args below meth c H locs 0 0 Q (F0 m 57 ls [.int v57_5_0]) := by
        intro v57_5_0 H locs ls hf hP hS hl
        have hf := qa1 hk57_5 hf
        have eo := Option.some.inj hf
        have hP : va_P D cls (wX7 cI cZ a0 o.2) H := by rw [← eo]; exact hP
        rw [hQ]
        exact W.iret hx hb hr (fun t ht hW => ⟨⟨_, (), rfl, congrArg Prod.fst eo, P_at ht hP⟩, hS.F ht⟩) hS.2.2 dX7_look_57 hlocks
      refine lv_if_eq (tgt := 56) hx hb dX7_look_48 (by decide) (fun c_6 => ?_) (fun c_6 => ?_)
      · have hf := ite_t hf c_6
        refine lv_iconst (v := 0) hx hb dX7_look_56 (by decide) ?_
        exact j57_5 _ _ _ _ hf hP hS (lv_sub hl [] rfl)
      · have hf := ite_f hf c_6
        refine lv_iload hx hb dX7_look_51 (lv_at hl 0 rfl) ?_
        refine lv_goto (tgt := 57) hx hb dX7_look_53 (by decide) ?_
        exact j57_5 _ _ _ _ hf hP hS (lv_sub hl [] rfl)
    refine lv_if_ne (tgt := 34) hx hb dX7_look_27 (by decide) (fun c_7 => ?_) (fun c_7 => ?_)
    · have hf := ite_f hf c_7
      refine lv_iload hx hb dX7_look_34 (lv_at hl 0 rfl) ?_
      refine lv_iconst (v := (-1)) hx hb dX7_look_36 (by decide) ?_
      refine lv_icmp_ne (tgt := 44) hx hb dX7_look_37 (by decide) (fun c_8 => ?_) (fun c_8 => ?_)
      · have hf := ite_f hf c_8
        refine lv_iconst (v := 0) hx hb dX7_look_44 (by decide) ?_
        exact j45_3 _ _ _ _ hf hP hS (lv_sub hl [0] rfl)
      · have hf := ite_t hf c_8
        refine lv_iconst (v := 2) hx hb dX7_look_40 (by decide) ?_
        refine lv_goto (tgt := 45) hx hb dX7_look_41 (by decide) ?_
        exact j45_3 _ _ _ _ hf hP hS (lv_sub hl [0] rfl)
    · have hf := ite_t hf c_7
      refine lv_iconst (v := 1) hx hb dX7_look_30 (by decide) ?_
      refine lv_goto (tgt := 45) hx hb dX7_look_31 (by decide) ?_
      exact j45_3 _ _ _ _ hf hP hS (lv_sub hl [0] rfl)
  refine lv_if_eq (tgt := 22) hx hb dX7_look_9 (by decide) (fun c_9 => ?_) (fun c_9 => ?_)
  · have hf := ite_t hf c_9
    refine lv_iconst (v := (-1)) hx hb dX7_look_22 (by decide) ?_
    exact j23_2 _ _ _ _ _ hf hP hS (lv_sub hl [1, 0] rfl)
  · have hf := ite_f hf c_9
    refine lv_aload_n hx hb dX7_look_12 rfl (lv_at hl 1 rfl) ?_
    refine lv_iconst (v := 0) hx hb dX7_look_13 (by decide) ?_
    refine lv_iload_n hx hb dX7_look_14 rfl (lv_at hl 2 rfl) ?_
    refine lv_iload_n hx hb dX7_look_15 rfl (lv_at hl 3 rfl) ?_
    obtain ⟨z_10, hz_10, hf⟩ := bn_some hf
    refine cWVi (As := [.int 0, .int p1, .int p2]) (rest := []) ⟨hx, hb, hml, hown, hts⟩ (c_X7_walks l D cI cZ cJ cT a0 H.size u0 0 p1 p2 z_10 hz_10) (cwV 3 hts gX7_look_X7_walks rfl rfl rfl (by decide +kernel) ⟨Nat.le_of_ble_eq_true rfl, Nat.le_of_ble_eq_true rfl⟩) hP hK (hDD u0) hS (own_free (hDD u0) hS hA) (va_recv hK hP (ci := 7) (q0 := 0) rfl rfl) rfl rfl hl.1 (Nat.le_of_ble_eq_true rfl) dX7_look_16 ⟨Nat.le_of_ble_eq_true rfl, Nat.le_of_ble_eq_true rfl⟩ (fun H1 locs hP1 hk1 hS => ?_)
    have hP : va_P D cls (wX7 cI cZ a0 z_10.2) H1 := hP1
    clear hP1 hk1
    generalize H1 = H at hP hS ⊢
    refine lv_goto (tgt := 23) hx hb dX7_look_19 (by decide) ?_
    exact j23_2 _ _ _ _ _ hf hP hS (lv_sub hl [1, 0] rfl)
set_option maxRecDepth 20000 in
theorem ggX7_open_X7_can : GoodIn wsX7_open wsX7_can := goodIn_r _ [46, 47, 48, 49, 50, 51, 52, 53, 54, 55, 56, 57, 58, 59, 60, 61, 62, 63, 64, 65, 66] (by decide +kernel) (by decide +kernel)
set_option maxRecDepth 20000 in
theorem gX7_open_X7_can : GoodIn wsX7_open (wsV RX7 140 RX7 yX7_can wsX7_can) := goodIn_app (goodIn_of _ (by decide +kernel)) ggX7_open_X7_can
set_option maxRecDepth 20000 in
theorem ggX7_open_X7_isIn : GoodIn wsX7_open wsX7_isIn := goodIn_r _ [9] (by decide +kernel) (by decide +kernel)
set_option maxRecDepth 20000 in
theorem gX7_open_X7_isIn : GoodIn wsX7_open (va_wsS RX7 62 yX7_isIn wsX7_isIn) := goodIn_app (goodIn_of _ (by decide +kernel)) ggX7_open_X7_isIn
set_option maxRecDepth 20000 in
theorem ggX7_open_X7_kindOf : GoodIn wsX7_open wsX7_kindOf := goodIn_r _ [37, 18, 23, 24, 8, 25, 48, 49, 50, 51, 52, 53, 54, 55, 56, 57, 58, 59, 60, 61, 62, 63, 64, 65, 66] (by decide +kernel) (by decide +kernel)
set_option maxRecDepth 20000 in
theorem gX7_open_X7_kindOf : GoodIn wsX7_open (wsV RX7 131 RX7 yX7_kindOf wsX7_kindOf) := goodIn_app (goodIn_of _ (by decide +kernel)) ggX7_open_X7_kindOf
set_option maxRecDepth 20000 in
theorem ggX7_open_X7_may : GoodIn wsX7_open wsX7_may := goodIn_r _ [41, 18, 42, 23, 24, 8, 25, 48, 49, 50, 51, 52, 53, 54, 55, 56, 57, 58, 59, 60, 61, 62, 63, 64, 65, 66] (by decide +kernel) (by decide +kernel)
set_option maxRecDepth 20000 in
theorem gX7_open_X7_may : GoodIn wsX7_open (wsV RX7 134 RX7 yX7_may wsX7_may) := goodIn_app (goodIn_of _ (by decide +kernel)) ggX7_open_X7_may
set_option maxRecDepth 20000 in
theorem ggX7_open_X7_walks : GoodIn wsX7_open wsX7_walks := goodIn_r _ [13, 14, 15, 16, 17, 18, 19, 20, 21, 8, 22, 23, 24, 25, 26, 27, 28, 29, 30, 31, 32, 33, 48, 49, 50, 51, 52, 53, 54, 55, 56, 57, 58, 59, 60, 61, 62, 63, 64, 65, 66] (by decide +kernel) (by decide +kernel)
set_option maxRecDepth 20000 in
theorem gX7_open_X7_walks : GoodIn wsX7_open (wsV RX7 127 RX7 yX7_walks wsX7_walks) := goodIn_app (goodIn_of _ (by decide +kernel)) ggX7_open_X7_walks
theorem dX7_open_0 : decode cX7_open 0 = .ok (.iload_n 1, 1) := by decide +kernel
theorem dX7_open_1 : decode cX7_open 1 = .ok (.iconst 0, 1) := by decide +kernel
theorem dX7_open_2 : decode cX7_open 2 = .ok (.ldc 66, 2) := by decide +kernel
theorem dX7_open_4 : decode cX7_open 4 = .ok (.invokestatic 62, 3) := by decide +kernel
theorem dX7_open_7 : decode cX7_open 7 = .ok (.istore_n 3, 1) := by decide +kernel
theorem dX7_open_8 : decode cX7_open 8 = .ok (.iload_n 3, 1) := by decide +kernel
theorem dX7_open_9 : decode cX7_open 9 = .ok (.ifCond .eq 13, 3) := by decide +kernel
theorem dX7_open_12 : decode cX7_open 12 = .ok (.aload_n 0, 1) := by decide +kernel
theorem dX7_open_13 : decode cX7_open 13 = .ok (.iconst 0, 1) := by decide +kernel
theorem dX7_open_14 : decode cX7_open 14 = .ok (.iload_n 1, 1) := by decide +kernel
theorem dX7_open_15 : decode cX7_open 15 = .ok (.iconst 1, 1) := by decide +kernel
theorem dX7_open_16 : decode cX7_open 16 = .ok (.invokevirtual 127, 3) := by decide +kernel
theorem dX7_open_19 : decode cX7_open 19 = .ok (.goto 4, 3) := by decide +kernel
theorem dX7_open_22 : decode cX7_open 22 = .ok (.iconst (-1), 1) := by decide +kernel
theorem dX7_open_23 : decode cX7_open 23 = .ok (.istore 4, 2) := by decide +kernel
theorem dX7_open_25 : decode cX7_open 25 = .ok (.iload 4, 2) := by decide +kernel
theorem dX7_open_27 : decode cX7_open 27 = .ok (.iconst (-1), 1) := by decide +kernel
theorem dX7_open_28 : decode cX7_open 28 = .ok (.if_icmp .eq 43, 3) := by decide +kernel
theorem dX7_open_31 : decode cX7_open 31 = .ok (.aload_n 0, 1) := by decide +kernel
theorem dX7_open_32 : decode cX7_open 32 = .ok (.iload 4, 2) := by decide +kernel
theorem dX7_open_34 : decode cX7_open 34 = .ok (.invokevirtual 131, 3) := by decide +kernel
theorem dX7_open_37 : decode cX7_open 37 = .ok (.ifCond .ne 34, 3) := by decide +kernel
theorem dX7_open_40 : decode cX7_open 40 = .ok (.aload_n 0, 1) := by decide +kernel
theorem dX7_open_41 : decode cX7_open 41 = .ok (.iload 4, 2) := by decide +kernel
theorem dX7_open_43 : decode cX7_open 43 = .ok (.iload_n 2, 1) := by decide +kernel
theorem dX7_open_44 : decode cX7_open 44 = .ok (.ifCond .eq 7, 3) := by decide +kernel
theorem dX7_open_47 : decode cX7_open 47 = .ok (.iconst 3, 1) := by decide +kernel
theorem dX7_open_48 : decode cX7_open 48 = .ok (.goto 4, 3) := by decide +kernel
theorem dX7_open_51 : decode cX7_open 51 = .ok (.iconst 2, 1) := by decide +kernel
theorem dX7_open_52 : decode cX7_open 52 = .ok (.invokevirtual 134, 3) := by decide +kernel
theorem dX7_open_55 : decode cX7_open 55 = .ok (.ifCond .eq 16, 3) := by decide +kernel
theorem dX7_open_58 : decode cX7_open 58 = .ok (.aload_n 0, 1) := by decide +kernel
theorem dX7_open_59 : decode cX7_open 59 = .ok (.getfield 91, 3) := by decide +kernel
theorem dX7_open_62 : decode cX7_open 62 = .ok (.bipush 30, 2) := by decide +kernel
theorem dX7_open_64 : decode cX7_open 64 = .ok (.if_icmp .ge 7, 3) := by decide +kernel
theorem dX7_open_67 : decode cX7_open 67 = .ok (.iconst 1, 1) := by decide +kernel
theorem dX7_open_68 : decode cX7_open 68 = .ok (.goto 4, 3) := by decide +kernel
theorem dX7_open_71 : decode cX7_open 71 = .ok (.iconst 0, 1) := by decide +kernel
theorem dX7_open_72 : decode cX7_open 72 = .ok (.istore 5, 2) := by decide +kernel
theorem dX7_open_74 : decode cX7_open 74 = .ok (.aload_n 0, 1) := by decide +kernel
theorem dX7_open_75 : decode cX7_open 75 = .ok (.iload_n 3, 1) := by decide +kernel
theorem dX7_open_76 : decode cX7_open 76 = .ok (.ifCond .ne 7, 3) := by decide +kernel
theorem dX7_open_79 : decode cX7_open 79 = .ok (.iconst 1, 1) := by decide +kernel
theorem dX7_open_80 : decode cX7_open 80 = .ok (.goto 23, 3) := by decide +kernel
theorem dX7_open_83 : decode cX7_open 83 = .ok (.iload 4, 2) := by decide +kernel
theorem dX7_open_85 : decode cX7_open 85 = .ok (.iconst (-1), 1) := by decide +kernel
theorem dX7_open_86 : decode cX7_open 86 = .ok (.if_icmp .ne 7, 3) := by decide +kernel
theorem dX7_open_89 : decode cX7_open 89 = .ok (.iconst 2, 1) := by decide +kernel
theorem dX7_open_90 : decode cX7_open 90 = .ok (.goto 13, 3) := by decide +kernel
theorem dX7_open_93 : decode cX7_open 93 = .ok (.iload 5, 2) := by decide +kernel
theorem dX7_open_95 : decode cX7_open 95 = .ok (.ifCond .eq 7, 3) := by decide +kernel
theorem dX7_open_98 : decode cX7_open 98 = .ok (.iconst 0, 1) := by decide +kernel
theorem dX7_open_99 : decode cX7_open 99 = .ok (.goto 4, 3) := by decide +kernel
theorem dX7_open_102 : decode cX7_open 102 = .ok (.iconst 3, 1) := by decide +kernel
theorem dX7_open_103 : decode cX7_open 103 = .ok (.invokevirtual 140, 3) := by decide +kernel
theorem dX7_open_106 : decode cX7_open 106 = .ok (.ifCond .ne 5, 3) := by decide +kernel
theorem dX7_open_109 : decode cX7_open 109 = .ok (.iconst 0, 1) := by decide +kernel
theorem dX7_open_110 : decode cX7_open 110 = .ok (.ireturn, 1) := by decide +kernel
theorem dX7_open_111 : decode cX7_open 111 = .ok (.aload_n 0, 1) := by decide +kernel
theorem dX7_open_112 : decode cX7_open 112 = .ok (.getfield 35, 3) := by decide +kernel
theorem dX7_open_115 : decode cX7_open 115 = .ok (.aload_n 0, 1) := by decide +kernel
theorem dX7_open_116 : decode cX7_open 116 = .ok (.getfield 91, 3) := by decide +kernel
theorem dX7_open_119 : decode cX7_open 119 = .ok (.iload 4, 2) := by decide +kernel
theorem dX7_open_121 : decode cX7_open 121 = .ok (.iastore, 1) := by decide +kernel
theorem dX7_open_122 : decode cX7_open 122 = .ok (.aload_n 0, 1) := by decide +kernel
theorem dX7_open_123 : decode cX7_open 123 = .ok (.getfield 38, 3) := by decide +kernel
theorem dX7_open_126 : decode cX7_open 126 = .ok (.aload_n 0, 1) := by decide +kernel
theorem dX7_open_127 : decode cX7_open 127 = .ok (.getfield 91, 3) := by decide +kernel
theorem dX7_open_130 : decode cX7_open 130 = .ok (.iload_n 2, 1) := by decide +kernel
theorem dX7_open_131 : decode cX7_open 131 = .ok (.bastore, 1) := by decide +kernel
theorem dX7_open_132 : decode cX7_open 132 = .ok (.aload_n 0, 1) := by decide +kernel
theorem dX7_open_133 : decode cX7_open 133 = .ok (.getfield 41, 3) := by decide +kernel
theorem dX7_open_136 : decode cX7_open 136 = .ok (.aload_n 0, 1) := by decide +kernel
theorem dX7_open_137 : decode cX7_open 137 = .ok (.getfield 91, 3) := by decide +kernel
theorem dX7_open_140 : decode cX7_open 140 = .ok (.iconst 1, 1) := by decide +kernel
theorem dX7_open_141 : decode cX7_open 141 = .ok (.bastore, 1) := by decide +kernel
theorem dX7_open_142 : decode cX7_open 142 = .ok (.aload_n 0, 1) := by decide +kernel
theorem dX7_open_143 : decode cX7_open 143 = .ok (.dup, 1) := by decide +kernel
theorem dX7_open_144 : decode cX7_open 144 = .ok (.getfield 91, 3) := by decide +kernel
theorem dX7_open_147 : decode cX7_open 147 = .ok (.iconst 1, 1) := by decide +kernel
theorem dX7_open_148 : decode cX7_open 148 = .ok (.iadd, 1) := by decide +kernel
theorem dX7_open_149 : decode cX7_open 149 = .ok (.putfield 91, 3) := by decide +kernel
theorem dX7_open_152 : decode cX7_open 152 = .ok (.aload_n 0, 1) := by decide +kernel
theorem dX7_open_153 : decode cX7_open 153 = .ok (.getfield 91, 3) := by decide +kernel
theorem dX7_open_156 : decode cX7_open 156 = .ok (.iconst 1, 1) := by decide +kernel
theorem dX7_open_157 : decode cX7_open 157 = .ok (.isub, 1) := by decide +kernel
theorem dX7_open_158 : decode cX7_open 158 = .ok (.ireturn, 1) := by decide +kernel
def f_X7_open (u0 : S1) (p1 : Int32) (p2 : Int32) : Option (Int32 × S1) := bn (f_X7_isIn p1 0 99999999) (fun z_1 => jn (fun (v23_2_0 : Int32) (u23_2_0 : S1) => jn (fun (v72_3_0 : Int32) => jn (fun (v103_4_0 : Int32) => bn (f_X7_can u23_2_0 v103_4_0) (fun z_5 => if z_5.1 = 0 then some (0, z_5.2) else chk (inb (z_5.2 9 0) 30) (bv (st z_5.2 10 (z_5.2 9 0) v23_2_0) (fun u_7 => chk (inb (u_7 9 0) 30) (bv (stz u_7 11 (u_7 9 0) p2) (fun u_8 => chk (inb (u_8 9 0) 30) (bv (stz u_8 12 (u_8 9 0) 1) (fun u_9 => bv (up u_9 9 (fun _ => (u_9 9 0) + 1)) (fun u_10 => some ((u_10 9 0) - 1, u_10)))))))))) (fun k103_4 => if z_1 = 0 then k103_4 1 else if v23_2_0 = (-1) then k103_4 2 else if v72_3_0 = 0 then k103_4 3 else k103_4 0)) (fun k72_3 => jn (k72_3 0) (fun k71_14 => if v23_2_0 = (-1) then k71_14 else bn (f_X7_kindOf u23_2_0 v23_2_0) (fun z_16 => if z_16 = 0 then jn (fun (v52_18_0 : Int32) => bn (f_X7_may u23_2_0 v23_2_0 v52_18_0) (fun z_19 => if z_19 = 0 then k71_14 else if 30 ≤ (u23_2_0 9 0) then k71_14 else k72_3 1)) (fun k52_18 => if p2 = 0 then k52_18 2 else k52_18 3) else k71_14)))) (fun k23_2 => if z_1 = 0 then k23_2 (-1) u0 else bn (f_X7_walks u0 0 p1 1) (fun z_24 => k23_2 z_24.1 z_24.2)))
def rmX7_open : Room := { frames := 4, cells := 0, slots := 0, locals := 95 }
set_option maxHeartbeats 4000000 in
set_option maxRecDepth 100000 in
theorem c_X7_open (l : Launch) (D : va_G) (cI cZ cJ cT : ClassId) (a0 : Nat → Nat) (sz : Nat) (u0 : S1) (p1 : Int32) (p2 : Int32) (o : Int32 × S1) (hf : f_X7_open u0 p1 p2 = some o) : Met l yX7_open wsX7_open rmX7_open (va_Pc [.ref (a0 0), .int p1, .int p2] (PW D cls (tys cI cZ cJ cT) ((wX7 cI cZ a0 u0)) sz)) (QWi D cls o.1 ((wX7 cI cZ a0 o.2)) (va_A ((wX7 cI cZ a0 u0)) sz)) 0 0 (va_A ((wX7 cI cZ a0 u0)) sz) := by
  refine Met.ofW (cc := cX7_open) (maxL := 6) (ret := (some .int)) (by decide) rfl ?_
  intro p e s m args below meth c s₁ B hml hv
  obtain ⟨hav, hsz, hP, hK, hD0⟩ := hv
  have hx := B.exec
  have hb := B.bytes
  have hr := B.returns
  have hlocks := B.notSynchronized
  have hts := atoms_spec (ws := wsX7_open) B.pre
  have hown : s.vm.findClass RX7 = some m.cls := findClass_of_methodNamed B.named
  have i7 : ∀ w ∈ wsX70, w ∈ wsX7_open := fun w h => List.mem_cons_of_mem _ (List.mem_append_right _ h)
  have hk35 := hts (.fieldLink RX7 35 "InoderyModel" "of" "[I") (by decide +kernel)
  have hk38 := hts (.fieldLink RX7 38 "InoderyModel" "isWriting" "[Z") (by decide +kernel)
  have hk41 := hts (.fieldLink RX7 41 "InoderyModel" "isOpen" "[Z") (by decide +kernel)
  have hk91 := hts (.fieldLink RX7 91 "InoderyModel" "handles" "I") (by decide +kernel)
  subst hsz
  have hD := hD0.self (sz := s.heap.size)
  generalize hAe : va_A ((wX7 cI cZ a0 u0)) s.heap.size = A at hD ⊢
  have hA : ∀ q : Nat, s.heap.size ≤ q → A q := fun q h => by rw [← hAe]; exact Or.inr h
  have hS : va_S A s.heap s.heap [] := va_S.rf
  have hDD : ∀ w0 : S1, va_D A ((wX7 cI cZ a0 w0)) := fun _ => D_same (w := (wX7 cI cZ a0 u0)) rfl hD
  refine Wq (fun Q hQ => ?_)
  refine W_entry hav (Nat.le_of_ble_eq_true rfl) (fun ls hl => ?_)
  have hl : lv_has ls 6 [(0, .ref (a0 0)), (1, .int p1), (2, .int p2)] := hl
  unfold f_X7_open at hf
  refine W_heap hP hS (fun H locs hP hS => ?_)
  refine lv_iload_n hx hb dX7_open_0 rfl (lv_at hl 1 rfl) ?_
  refine lv_iconst (v := 0) hx hb dX7_open_1 (by decide) ?_
  refine lv_ldc hx hb hown (hts (.constant RX7 66 (99999999)) (by decide +kernel)) dX7_open_2 ?_
  obtain ⟨z_1, hz_1, hf⟩ := bn_some hf
  refine c0S (As := [.int p1, .int 0, .int 99999999]) (rest := []) ⟨hx, hb, hml, hown, hts⟩ (c_X7_isIn l D cI cZ cJ cT p1 0 99999999 z_1 hz_1) (va_cwS 3 hts gX7_open_X7_isIn rfl rfl rfl (by decide +kernel) ⟨Nat.le_of_ble_eq_true rfl, Nat.le_of_ble_eq_true rfl⟩) rfl rfl hl.1 (Nat.le_of_ble_eq_true rfl) dX7_open_4 ⟨Nat.le_of_ble_eq_true rfl, Nat.le_of_ble_eq_true rfl⟩ ?_
  refine lv_istore_n (lv' := [(3, .int z_1), (0, .ref (a0 0)), (1, .int p1), (2, .int p2)]) hx hb dX7_open_7 rfl hl (by decide) rfl (fun ls hl => ?_)
  refine lv_iload_n hx hb dX7_open_8 rfl (lv_at hl 0 rfl) ?_
  obtain ⟨k23_2, hk23_2, hf⟩ := jn_some hf
  have j23_2 : ∀ (v23_2_0 : Int32) (u23_2_0 : S1) (H : Heap) (locs : List Loc) (ls : Array Slot), k23_2 v23_2_0 u23_2_0 = some o → va_P D cls (wX7 cI cZ a0 u23_2_0) H → va_S A s.heap H locs → lv_has ls 6 [(0, .ref (a0 0)), (2, .int p2), (3, .int z_1)] → W p l e (headSpec wsX7_open rmX7_open).room s m args below meth c H locs 0 0 Q (F0 m 23 ls [.int v23_2_0]) := by
    intro v23_2_0 u23_2_0 H locs ls hf hP hS hl
    have hf := qa2 hk23_2 hf
    refine lv_istore (lv' := [(4, .int v23_2_0), (0, .ref (a0 0)), (2, .int p2), (3, .int z_1)]) hx hb dX7_open_23 hl (by decide) rfl (fun ls hl => ?_)
    refine lv_iload hx hb dX7_open_25 (lv_at hl 0 rfl) ?_
    refine lv_iconst (v := (-1)) hx hb dX7_open_27 (by decide) ?_
    obtain ⟨k72_3, hk72_3, hf⟩ := jn_some hf
    have j72_3 : ∀ (v72_3_0 : Int32) (H : Heap) (locs : List Loc) (ls : Array Slot), k72_3 v72_3_0 = some o → va_P D cls (wX7 cI cZ a0 u23_2_0) H → va_S A s.heap H locs → lv_has ls 6 [(0, .ref (a0 0)), (2, .int p2), (3, .int z_1), (4, .int v23_2_0)] → W p l e (headSpec wsX7_open rmX7_open).room s m args below meth c H locs 0 0 Q (F0 m 72 ls [.int v72_3_0]) := by
      intro v72_3_0 H locs ls hf hP hS hl
      have hf := qa1 hk72_3 hf
      refine lv_istore (lv' := [(5, .int v72_3_0), (0, .ref (a0 0)), (2, .int p2), (3, .int z_1), (4, .int v23_2_0)]) hx hb dX7_open_72 hl (by decide) rfl (fun ls hl => ?_)
      refine lv_aload_n hx hb dX7_open_74 rfl (lv_at hl 1 rfl) ?_
      refine lv_iload_n hx hb dX7_open_75 rfl (lv_at hl 3 rfl) ?_
      obtain ⟨k103_4, hk103_4, hf⟩ := jn_some hf
      have j103_4 : ∀ (v103_4_0 : Int32) (H : Heap) (locs : List Loc) (ls : Array Slot), k103_4 v103_4_0 = some o → va_P D cls (wX7 cI cZ a0 u23_2_0) H → va_S A s.heap H locs → lv_has ls 6 [(0, .ref (a0 0)), (2, .int p2), (4, .int v23_2_0)] → W p l e (headSpec wsX7_open rmX7_open).room s m args below meth c H locs 0 0 Q (F0 m 103 ls [.int v103_4_0, .ref (a0 0)]) := by
        intro v103_4_0 H locs ls hf hP hS hl
        have hf := qa1 hk103_4 hf
        obtain ⟨z_5, hz_5, hf⟩ := bn_some hf
        refine cWVi (As := [.int v103_4_0]) (rest := []) ⟨hx, hb, hml, hown, hts⟩ (c_X7_can l D cI cZ cJ cT a0 H.size u23_2_0 v103_4_0 z_5 hz_5) (cwV 1 hts gX7_open_X7_can rfl rfl rfl (by decide +kernel) ⟨Nat.le_of_ble_eq_true rfl, Nat.le_of_ble_eq_true rfl⟩) hP hK (hDD u23_2_0) hS (own_free (hDD u23_2_0) hS hA) (va_recv hK hP (ci := 7) (q0 := 0) rfl rfl) rfl rfl hl.1 (Nat.le_of_ble_eq_true rfl) dX7_open_103 ⟨Nat.le_of_ble_eq_true rfl, Nat.le_of_ble_eq_true rfl⟩ (fun H1 locs hP1 hk1 hS => ?_)
        have hP : va_P D cls (wX7 cI cZ a0 z_5.2) H1 := hP1
        clear hP1 hk1
        generalize H1 = H at hP hS ⊢
        refine lv_if_ne (tgt := 111) hx hb dX7_open_106 (by decide) (fun c_6 => ?_) (fun c_6 => ?_)
        · have hf := ite_f hf c_6
          refine lv_aload_n hx hb dX7_open_111 rfl (lv_at hl 0 rfl) ?_
          refine va_get (D := D) (ci := 7) (v := .ref (a0 11)) (C := RX7) (T := TX7) (N := 19) hx hb hts i7 hown hK hP 0 rfl rfl 10 (by decide) hk35 (fun _ h9 => h9) rfl dX7_open_112 ?_
          refine lv_aload_n hx hb dX7_open_115 rfl (lv_at hl 0 rfl) ?_
          refine va_get (D := D) (ci := 7) (v := .int (z_5.2 9 0)) (C := RX7) (T := TX7) (N := 19) hx hb hts i7 hown hK hP 0 rfl rfl 9 (by decide) hk91 (fun _ h9 => h9) rfl dX7_open_116 ?_
          refine lv_iload hx hb dX7_open_119 (lv_at hl 2 rfl) ?_
          obtain ⟨hi, hf⟩ := chk_some hf
          obtain ⟨u_7, hu_7, hf⟩ := bv_some hf
          refine va_iast hx hb hK hP (hDD z_5.2) hS 9 0 rfl rfl (inb_in hi) dX7_open_121 (fun H locs hP _ hS => ?_)
          have hP : va_P D cls (wX7 cI cZ a0 u_7) H := by rw [hu_7]; exact hP
          refine lv_aload_n hx hb dX7_open_122 rfl (lv_at hl 0 rfl) ?_
          refine va_get (D := D) (ci := 7) (v := .ref (a0 12)) (C := RX7) (T := TX7) (N := 19) hx hb hts i7 hown hK hP 0 rfl rfl 11 (by decide) hk38 (fun _ h9 => h9) rfl dX7_open_123 ?_
          refine lv_aload_n hx hb dX7_open_126 rfl (lv_at hl 0 rfl) ?_
          refine va_get (D := D) (ci := 7) (v := .int (u_7 9 0)) (C := RX7) (T := TX7) (N := 19) hx hb hts i7 hown hK hP 0 rfl rfl 9 (by decide) hk91 (fun _ h9 => h9) rfl dX7_open_127 ?_
          refine lv_iload_n hx hb dX7_open_130 rfl (lv_at hl 1 rfl) ?_
          obtain ⟨hi, hf⟩ := chk_some hf
          obtain ⟨u_8, hu_8, hf⟩ := bv_some hf
          refine va_zast hx hb hK hP (hDD u_7) hS 10 1 rfl rfl (inb_in hi) dX7_open_131 (fun H locs hP _ hS => ?_)
          have hP : va_P D cls (wX7 cI cZ a0 u_8) H := by rw [hu_8]; exact hP
          refine lv_aload_n hx hb dX7_open_132 rfl (lv_at hl 0 rfl) ?_
          refine va_get (D := D) (ci := 7) (v := .ref (a0 13)) (C := RX7) (T := TX7) (N := 19) hx hb hts i7 hown hK hP 0 rfl rfl 12 (by decide) hk41 (fun _ h9 => h9) rfl dX7_open_133 ?_
          refine lv_aload_n hx hb dX7_open_136 rfl (lv_at hl 0 rfl) ?_
          refine va_get (D := D) (ci := 7) (v := .int (u_8 9 0)) (C := RX7) (T := TX7) (N := 19) hx hb hts i7 hown hK hP 0 rfl rfl 9 (by decide) hk91 (fun _ h9 => h9) rfl dX7_open_137 ?_
          refine lv_iconst (v := 1) hx hb dX7_open_140 (by decide) ?_
          obtain ⟨hi, hf⟩ := chk_some hf
          obtain ⟨u_9, hu_9, hf⟩ := bv_some hf
          refine va_zast hx hb hK hP (hDD u_8) hS 11 1 rfl rfl (inb_in hi) dX7_open_141 (fun H locs hP _ hS => ?_)
          have hP : va_P D cls (wX7 cI cZ a0 u_9) H := by rw [hu_9]; exact hP
          refine lv_aload_n hx hb dX7_open_142 rfl (lv_at hl 0 rfl) ?_
          refine lv_dup hx hb dX7_open_143 rfl ?_
          refine va_get (D := D) (ci := 7) (v := .int (u_9 9 0)) (C := RX7) (T := TX7) (N := 19) hx hb hts i7 hown hK hP 0 rfl rfl 9 (by decide) hk91 (fun _ h9 => h9) rfl dX7_open_144 ?_
          refine lv_iconst (v := 1) hx hb dX7_open_147 (by decide) ?_
          refine lv_iadd hx hb dX7_open_148 ?_
          obtain ⟨u_10, hu_10, hf⟩ := bv_some hf
          refine va_put (D := D) (ci := 7) (v := .int ((u_9 9 0) + 1)) (ty := .int) (C := RX7) (T := TX7) (N := 19) hx hb hts i7 tyX7 tyX7_ok nmX7 hown hK hP (hDD u_9) hS 0 rfl rfl 9 (by decide) hk91 (fun _ h9 => h9) rfl (by decide +kernel) rfl rfl (Nat.le_of_ble_eq_true rfl) dX7_open_149 (fun H locs hP _ hS => ?_)
          have hP : va_P D cls (wX7 cI cZ a0 u_10) H := by rw [hu_10]; exact hP
          refine lv_aload_n hx hb dX7_open_152 rfl (lv_at hl 0 rfl) ?_
          refine va_get (D := D) (ci := 7) (v := .int (u_10 9 0)) (C := RX7) (T := TX7) (N := 19) hx hb hts i7 hown hK hP 0 rfl rfl 9 (by decide) hk91 (fun _ h9 => h9) rfl dX7_open_153 ?_
          refine lv_iconst (v := 1) hx hb dX7_open_156 (by decide) ?_
          refine lv_isub hx hb dX7_open_157 ?_
          have eo := Option.some.inj hf
          have hP : va_P D cls (wX7 cI cZ a0 o.2) H := by rw [← eo]; exact hP
          rw [hQ]
          exact W.iret hx hb hr (fun t ht hW => ⟨⟨_, (), rfl, congrArg Prod.fst eo, P_at ht hP⟩, hS.F ht⟩) hS.2.2 dX7_open_158 hlocks
        · have hf := ite_t hf c_6
          refine lv_iconst (v := 0) hx hb dX7_open_109 (by decide) ?_
          have eo := Option.some.inj hf
          have hP : va_P D cls (wX7 cI cZ a0 o.2) H := by rw [← eo]; exact hP
          rw [hQ]
          exact W.iret hx hb hr (fun t ht hW => ⟨⟨_, (), rfl, congrArg Prod.fst eo, P_at ht hP⟩, hS.F ht⟩) hS.2.2 dX7_open_110 hlocks
      refine lv_if_ne (tgt := 83) hx hb dX7_open_76 (by decide) (fun c_11 => ?_) (fun c_11 => ?_)
      · have hf := ite_f hf c_11
        refine lv_iload hx hb dX7_open_83 (lv_at hl 4 rfl) ?_
        refine lv_iconst (v := (-1)) hx hb dX7_open_85 (by decide) ?_
        refine lv_icmp_ne (tgt := 93) hx hb dX7_open_86 (by decide) (fun c_12 => ?_) (fun c_12 => ?_)
        · have hf := ite_f hf c_12
          refine lv_iload hx hb dX7_open_93 (lv_at hl 0 rfl) ?_
          refine lv_if_eq (tgt := 102) hx hb dX7_open_95 (by decide) (fun c_13 => ?_) (fun c_13 => ?_)
          · have hf := ite_t hf c_13
            refine lv_iconst (v := 3) hx hb dX7_open_102 (by decide) ?_
            exact j103_4 _ _ _ _ hf hP hS (lv_sub hl [1, 2, 4] rfl)
          · have hf := ite_f hf c_13
            refine lv_iconst (v := 0) hx hb dX7_open_98 (by decide) ?_
            refine lv_goto (tgt := 103) hx hb dX7_open_99 (by decide) ?_
            exact j103_4 _ _ _ _ hf hP hS (lv_sub hl [1, 2, 4] rfl)
        · have hf := ite_t hf c_12
          refine lv_iconst (v := 2) hx hb dX7_open_89 (by decide) ?_
          refine lv_goto (tgt := 103) hx hb dX7_open_90 (by decide) ?_
          exact j103_4 _ _ _ _ hf hP hS (lv_sub hl [1, 2, 4] rfl)
      · have hf := ite_t hf c_11
        refine lv_iconst (v := 1) hx hb dX7_open_79 (by decide) ?_
        refine lv_goto (tgt := 103) hx hb dX7_open_80 (by decide) ?_
        exact j103_4 _ _ _ _ hf hP hS (lv_sub hl [1, 2, 4] rfl)
    obtain ⟨k71_14, hk71_14, hf⟩ := jn_some hf
    have j71_14 : ∀ (H : Heap) (locs : List Loc) (ls : Array Slot), k71_14 = some o → va_P D cls (wX7 cI cZ a0 u23_2_0) H → va_S A s.heap H locs → lv_has ls 6 [(0, .ref (a0 0)), (2, .int p2), (3, .int z_1), (4, .int v23_2_0)] → W p l e (headSpec wsX7_open rmX7_open).room s m args below meth c H locs 0 0 Q (F0 m 71 ls []) := by
      intro H locs ls hf hP hS hl
      have hf := qa0 hk71_14 hf
      refine lv_iconst (v := 0) hx hb dX7_open_71 (by decide) ?_
      exact j72_3 _ _ _ _ hf hP hS (lv_sub hl [0, 1, 2, 3] rfl)
    refine lv_icmp_eq (tgt := 71) hx hb dX7_open_28 (by decide) (fun c_15 => ?_) (fun c_15 => ?_)
    · have hf := ite_t hf c_15
      exact j71_14 _ _ _ hf hP hS (lv_sub hl [1, 2, 3, 0] rfl)
    · have hf := ite_f hf c_15
      refine lv_aload_n hx hb dX7_open_31 rfl (lv_at hl 1 rfl) ?_
      refine lv_iload hx hb dX7_open_32 (lv_at hl 0 rfl) ?_
      obtain ⟨z_16, hz_16, hf⟩ := bn_some hf
      refine cRV (As := [.int v23_2_0]) (rest := []) ⟨hx, hb, hml, hown, hts⟩ (c_X7_kindOf l D cI cZ cJ cT a0 u23_2_0 v23_2_0 z_16 hz_16) (cwV 1 hts gX7_open_X7_kindOf rfl rfl rfl (by decide +kernel) ⟨Nat.le_of_ble_eq_true rfl, Nat.le_of_ble_eq_true rfl⟩) hP hK (va_recv hK hP (ci := 7) (q0 := 0) rfl rfl) rfl rfl hl.1 (Nat.le_of_ble_eq_true rfl) dX7_open_34 ⟨Nat.le_of_ble_eq_true rfl, Nat.le_of_ble_eq_true rfl⟩ ?_
      refine lv_if_ne (tgt := 71) hx hb dX7_open_37 (by decide) (fun c_17 => ?_) (fun c_17 => ?_)
      · have hf := ite_f hf c_17
        exact j71_14 _ _ _ hf hP hS (lv_sub hl [1, 2, 3, 0] rfl)
      · have hf := ite_t hf c_17
        refine lv_aload_n hx hb dX7_open_40 rfl (lv_at hl 1 rfl) ?_
        refine lv_iload hx hb dX7_open_41 (lv_at hl 0 rfl) ?_
        refine lv_iload_n hx hb dX7_open_43 rfl (lv_at hl 2 rfl) ?_
        obtain ⟨k52_18, hk52_18, hf⟩ := jn_some hf
        have j52_18 : ∀ (v52_18_0 : Int32) (H : Heap) (locs : List Loc) (ls : Array Slot), k52_18 v52_18_0 = some o → va_P D cls (wX7 cI cZ a0 u23_2_0) H → va_S A s.heap H locs → lv_has ls 6 [(0, .ref (a0 0)), (2, .int p2), (3, .int z_1), (4, .int v23_2_0)] → W p l e (headSpec wsX7_open rmX7_open).room s m args below meth c H locs 0 0 Q (F0 m 52 ls [.int v52_18_0, .int v23_2_0, .ref (a0 0)]) := by
          intro v52_18_0 H locs ls hf hP hS hl
          have hf := qa1 hk52_18 hf
          obtain ⟨z_19, hz_19, hf⟩ := bn_some hf
          refine cRV (As := [.int v23_2_0, .int v52_18_0]) (rest := []) ⟨hx, hb, hml, hown, hts⟩ (c_X7_may l D cI cZ cJ cT a0 u23_2_0 v23_2_0 v52_18_0 z_19 hz_19) (cwV 2 hts gX7_open_X7_may rfl rfl rfl (by decide +kernel) ⟨Nat.le_of_ble_eq_true rfl, Nat.le_of_ble_eq_true rfl⟩) hP hK (va_recv hK hP (ci := 7) (q0 := 0) rfl rfl) rfl rfl hl.1 (Nat.le_of_ble_eq_true rfl) dX7_open_52 ⟨Nat.le_of_ble_eq_true rfl, Nat.le_of_ble_eq_true rfl⟩ ?_
          refine lv_if_eq (tgt := 71) hx hb dX7_open_55 (by decide) (fun c_20 => ?_) (fun c_20 => ?_)
          · have hf := ite_t hf c_20
            exact j71_14 _ _ _ hf hP hS (lv_sub hl [0, 1, 2, 3] rfl)
          · have hf := ite_f hf c_20
            refine lv_aload_n hx hb dX7_open_58 rfl (lv_at hl 0 rfl) ?_
            refine va_get (D := D) (ci := 7) (v := .int (u23_2_0 9 0)) (C := RX7) (T := TX7) (N := 19) hx hb hts i7 hown hK hP 0 rfl rfl 9 (by decide) hk91 (fun _ h9 => h9) rfl dX7_open_59 ?_
            refine lv_bipush (v := 30) hx hb dX7_open_62 (by decide) ?_
            refine lv_icmp_ge (tgt := 71) hx hb dX7_open_64 (by decide) (fun c_21 => ?_) (fun c_21 => ?_)
            · have hf := ite_t hf c_21
              exact j71_14 _ _ _ hf hP hS (lv_sub hl [0, 1, 2, 3] rfl)
            · have hf := ite_f hf c_21
              refine lv_iconst (v := 1) hx hb dX7_open_67 (by decide) ?_
              refine lv_goto (tgt := 72) hx hb dX7_open_68 (by decide) ?_
              exact j72_3 _ _ _ _ hf hP hS (lv_sub hl [0, 1, 2, 3] rfl)
        refine lv_if_eq (tgt := 51) hx hb dX7_open_44 (by decide) (fun c_22 => ?_) (fun c_22 => ?_)
        · have hf := ite_t hf c_22
          refine lv_iconst (v := 2) hx hb dX7_open_51 (by decide) ?_
          exact j52_18 _ _ _ _ hf hP hS (lv_sub hl [1, 2, 3, 0] rfl)
        · have hf := ite_f hf c_22
          refine lv_iconst (v := 3) hx hb dX7_open_47 (by decide) ?_
          refine lv_goto (tgt := 52) hx hb dX7_open_48 (by decide) ?_
          exact j52_18 _ _ _ _ hf hP hS (lv_sub hl [1, 2, 3, 0] rfl)
  refine lv_if_eq (tgt := 22) hx hb dX7_open_9 (by decide) (fun c_23 => ?_) (fun c_23 => ?_)
  · have hf := ite_t hf c_23
    refine lv_iconst (v := (-1)) hx hb dX7_open_22 (by decide) ?_
    exact j23_2 _ _ _ _ _ hf hP hS (lv_sub hl [1, 3, 0] rfl)
  · have hf := ite_f hf c_23
    refine lv_aload_n hx hb dX7_open_12 rfl (lv_at hl 1 rfl) ?_
    refine lv_iconst (v := 0) hx hb dX7_open_13 (by decide) ?_
    refine lv_iload_n hx hb dX7_open_14 rfl (lv_at hl 2 rfl) ?_
    refine lv_iconst (v := 1) hx hb dX7_open_15 (by decide) ?_
    obtain ⟨z_24, hz_24, hf⟩ := bn_some hf
    refine cWVi (As := [.int 0, .int p1, .int 1]) (rest := []) ⟨hx, hb, hml, hown, hts⟩ (c_X7_walks l D cI cZ cJ cT a0 H.size u0 0 p1 1 z_24 hz_24) (cwV 3 hts gX7_open_X7_walks rfl rfl rfl (by decide +kernel) ⟨Nat.le_of_ble_eq_true rfl, Nat.le_of_ble_eq_true rfl⟩) hP hK (hDD u0) hS (own_free (hDD u0) hS hA) (va_recv hK hP (ci := 7) (q0 := 0) rfl rfl) rfl rfl hl.1 (Nat.le_of_ble_eq_true rfl) dX7_open_16 ⟨Nat.le_of_ble_eq_true rfl, Nat.le_of_ble_eq_true rfl⟩ (fun H1 locs hP1 hk1 hS => ?_)
    have hP : va_P D cls (wX7 cI cZ a0 z_24.2) H1 := hP1
    clear hP1 hk1
    generalize H1 = H at hP hS ⊢
    refine lv_goto (tgt := 23) hx hb dX7_open_19 (by decide) ?_
    exact j23_2 _ _ _ _ _ hf hP hS (lv_sub hl [1, 3, 0] rfl)
set_option maxRecDepth 20000 in
theorem ggX7_isHandle_X7_isIn : GoodIn wsX7_isHandle wsX7_isIn := goodIn_r _ [5] (by decide +kernel) (by decide +kernel)
set_option maxRecDepth 20000 in
theorem gX7_isHandle_X7_isIn : GoodIn wsX7_isHandle (va_wsS RX7 62 yX7_isIn wsX7_isIn) := goodIn_app (goodIn_of _ (by decide +kernel)) ggX7_isHandle_X7_isIn
theorem dX7_isHandle_0 : decode cX7_isHandle 0 = .ok (.iload_n 1, 1) := by decide +kernel
theorem dX7_isHandle_1 : decode cX7_isHandle 1 = .ok (.iconst 0, 1) := by decide +kernel
theorem dX7_isHandle_2 : decode cX7_isHandle 2 = .ok (.aload_n 0, 1) := by decide +kernel
theorem dX7_isHandle_3 : decode cX7_isHandle 3 = .ok (.getfield 91, 3) := by decide +kernel
theorem dX7_isHandle_6 : decode cX7_isHandle 6 = .ok (.iconst 1, 1) := by decide +kernel
theorem dX7_isHandle_7 : decode cX7_isHandle 7 = .ok (.isub, 1) := by decide +kernel
theorem dX7_isHandle_8 : decode cX7_isHandle 8 = .ok (.invokestatic 62, 3) := by decide +kernel
theorem dX7_isHandle_11 : decode cX7_isHandle 11 = .ok (.ireturn, 1) := by decide +kernel
def f_X7_isHandle (u0 : S1) (p1 : Int32) : Option (Int32) := bn (f_X7_isIn p1 0 ((u0 9 0) - 1)) (fun z_1 => some (vp_nar .boolean z_1))
def rmX7_isHandle : Room := { frames := 1, cells := 0, slots := 0, locals := 22 }
set_option maxHeartbeats 4000000 in
set_option maxRecDepth 100000 in
theorem c_X7_isHandle (l : Launch) (D : va_G) (cI cZ cJ cT : ClassId) (a0 : Nat → Nat) (u0 : S1) (p1 : Int32) (o : Int32) (hf : f_X7_isHandle u0 p1 = some o) : Met l yX7_isHandle wsX7_isHandle rmX7_isHandle (va_Pc [.ref (a0 0), .int p1] (PR D cls (tys cI cZ cJ cT) ((wX7 cI cZ a0 u0)))) (QR o) 0 0 (fun _ => False) := by
  refine Met.ofW (cc := cX7_isHandle) (maxL := 2) (ret := (some .boolean)) (by decide) rfl ?_
  intro p e s m args below meth c s₁ B hml hv
  obtain ⟨hav, hP, hK⟩ := hv
  have hx := B.exec
  have hb := B.bytes
  have hr := B.returns
  have hlocks := B.notSynchronized
  have hts := atoms_spec (ws := wsX7_isHandle) B.pre
  have hown : s.vm.findClass RX7 = some m.cls := findClass_of_methodNamed B.named
  have i7 : ∀ w ∈ wsX70, w ∈ wsX7_isHandle := fun w h => List.mem_cons_of_mem _ (List.mem_append_right _ h)
  have hk91 := hts (.fieldLink RX7 91 "InoderyModel" "handles" "I") (by decide +kernel)
  refine Wq (fun Q hQ => ?_)
  refine W_entry hav (Nat.le_of_ble_eq_true rfl) (fun ls hl => ?_)
  have hl : lv_has ls 2 [(0, .ref (a0 0)), (1, .int p1)] := hl
  unfold f_X7_isHandle at hf
  refine lv_iload_n hx hb dX7_isHandle_0 rfl (lv_at hl 1 rfl) ?_
  refine lv_iconst (v := 0) hx hb dX7_isHandle_1 (by decide) ?_
  refine lv_aload_n hx hb dX7_isHandle_2 rfl (lv_at hl 0 rfl) ?_
  refine va_get (D := D) (ci := 7) (v := .int (u0 9 0)) (C := RX7) (T := TX7) (N := 19) hx hb hts i7 hown hK hP 0 rfl rfl 9 (by decide) hk91 (fun _ h9 => h9) rfl dX7_isHandle_3 ?_
  refine lv_iconst (v := 1) hx hb dX7_isHandle_6 (by decide) ?_
  refine lv_isub hx hb dX7_isHandle_7 ?_
  obtain ⟨z_1, hz_1, hf⟩ := bn_some hf
  refine c0S (As := [.int p1, .int 0, .int ((u0 9 0) - 1)]) (rest := []) ⟨hx, hb, hml, hown, hts⟩ (c_X7_isIn l D cI cZ cJ cT p1 0 ((u0 9 0) - 1) z_1 hz_1) (va_cwS 3 hts gX7_isHandle_X7_isIn rfl rfl rfl (by decide +kernel) ⟨Nat.le_of_ble_eq_true rfl, Nat.le_of_ble_eq_true rfl⟩) rfl rfl hl.1 (Nat.le_of_ble_eq_true rfl) dX7_isHandle_8 ⟨Nat.le_of_ble_eq_true rfl, Nat.le_of_ble_eq_true rfl⟩ ?_
  rw [hQ]
  exact zretN (v := z_1) (v' := vp_nar .boolean z_1) hx hb hr rfl (fun t ht hW => ⟨_, rfl, Option.some.inj hf, ht⟩) (fun _ h => nomatch h) dX7_isHandle_11 hlocks
theorem dX7_tells_0 : decode cX7_tells 0 = .ok (.aload_n 0, 1) := by decide +kernel
theorem dX7_tells_1 : decode cX7_tells 1 = .ok (.getfield 29, 3) := by decide +kernel
theorem dX7_tells_4 : decode cX7_tells 4 = .ok (.iload_n 1, 1) := by decide +kernel
theorem dX7_tells_5 : decode cX7_tells 5 = .ok (.baload, 1) := by decide +kernel
theorem dX7_tells_6 : decode cX7_tells 6 = .ok (.istore_n 2, 1) := by decide +kernel
theorem dX7_tells_7 : decode cX7_tells 7 = .ok (.aload_n 0, 1) := by decide +kernel
theorem dX7_tells_8 : decode cX7_tells 8 = .ok (.getfield 29, 3) := by decide +kernel
theorem dX7_tells_11 : decode cX7_tells 11 = .ok (.iload_n 1, 1) := by decide +kernel
theorem dX7_tells_12 : decode cX7_tells 12 = .ok (.iconst 0, 1) := by decide +kernel
theorem dX7_tells_13 : decode cX7_tells 13 = .ok (.bastore, 1) := by decide +kernel
theorem dX7_tells_14 : decode cX7_tells 14 = .ok (.iload_n 2, 1) := by decide +kernel
theorem dX7_tells_15 : decode cX7_tells 15 = .ok (.ireturn, 1) := by decide +kernel
def f_X7_tells (u0 : S1) (p1 : Int32) : Option (Int32 × S1) := chk (inb p1 32) (chk (inb p1 32) (bv (stz u0 6 p1 0) (fun u_1 => some (vp_nar .boolean (u0 6 (p1).toNatClampNeg), u_1))))
def rmX7_tells : Room := { frames := 0, cells := 0, slots := 0, locals := 0 }
set_option maxHeartbeats 4000000 in
set_option maxRecDepth 100000 in
theorem c_X7_tells (l : Launch) (D : va_G) (cI cZ cJ cT : ClassId) (a0 : Nat → Nat) (sz : Nat) (u0 : S1) (p1 : Int32) (o : Int32 × S1) (hf : f_X7_tells u0 p1 = some o) : Met l yX7_tells wsX7_tells rmX7_tells (va_Pc [.ref (a0 0), .int p1] (PW D cls (tys cI cZ cJ cT) ((wX7 cI cZ a0 u0)) sz)) (QWi D cls o.1 ((wX7 cI cZ a0 o.2)) (va_A ((wX7 cI cZ a0 u0)) sz)) 0 0 (va_A ((wX7 cI cZ a0 u0)) sz) := by
  refine Met.ofW (cc := cX7_tells) (maxL := 3) (ret := (some .boolean)) (by decide) rfl ?_
  intro p e s m args below meth c s₁ B hml hv
  obtain ⟨hav, hsz, hP, hK, hD0⟩ := hv
  have hx := B.exec
  have hb := B.bytes
  have hr := B.returns
  have hlocks := B.notSynchronized
  have hts := atoms_spec (ws := wsX7_tells) B.pre
  have hown : s.vm.findClass RX7 = some m.cls := findClass_of_methodNamed B.named
  have i7 : ∀ w ∈ wsX70, w ∈ wsX7_tells := fun w h => List.mem_cons_of_mem _ (List.mem_append_right _ h)
  have hk29 := hts (.fieldLink RX7 29 "InoderyModel" "hasError" "[Z") (by decide +kernel)
  subst hsz
  have hD := hD0.self (sz := s.heap.size)
  generalize hAe : va_A ((wX7 cI cZ a0 u0)) s.heap.size = A at hD ⊢
  have hA : ∀ q : Nat, s.heap.size ≤ q → A q := fun q h => by rw [← hAe]; exact Or.inr h
  have hS : va_S A s.heap s.heap [] := va_S.rf
  have hDD : ∀ w0 : S1, va_D A ((wX7 cI cZ a0 w0)) := fun _ => D_same (w := (wX7 cI cZ a0 u0)) rfl hD
  refine Wq (fun Q hQ => ?_)
  refine W_entry hav (Nat.le_of_ble_eq_true rfl) (fun ls hl => ?_)
  have hl : lv_has ls 3 [(0, .ref (a0 0)), (1, .int p1)] := hl
  unfold f_X7_tells at hf
  refine W_heap hP hS (fun H locs hP hS => ?_)
  refine lv_aload_n hx hb dX7_tells_0 rfl (lv_at hl 0 rfl) ?_
  refine va_get (D := D) (ci := 7) (v := .ref (a0 7)) (C := RX7) (T := TX7) (N := 19) hx hb hts i7 hown hK hP 0 rfl rfl 6 (by decide) hk29 (fun _ h9 => h9) rfl dX7_tells_1 ?_
  refine lv_iload_n hx hb dX7_tells_4 rfl (lv_at hl 1 rfl) ?_
  obtain ⟨hi, hf⟩ := chk_some hf
  refine va_zald hx hb hK hP 7 1 rfl rfl (inb_in hi) dX7_tells_5 ?_
  refine lv_istore_n (lv' := [(2, .int (u0 6 (p1).toNatClampNeg)), (0, .ref (a0 0)), (1, .int p1)]) hx hb dX7_tells_6 rfl hl (by decide) rfl (fun ls hl => ?_)
  refine lv_aload_n hx hb dX7_tells_7 rfl (lv_at hl 1 rfl) ?_
  refine va_get (D := D) (ci := 7) (v := .ref (a0 7)) (C := RX7) (T := TX7) (N := 19) hx hb hts i7 hown hK hP 0 rfl rfl 6 (by decide) hk29 (fun _ h9 => h9) rfl dX7_tells_8 ?_
  refine lv_iload_n hx hb dX7_tells_11 rfl (lv_at hl 2 rfl) ?_
  refine lv_iconst (v := 0) hx hb dX7_tells_12 (by decide) ?_
  obtain ⟨hi, hf⟩ := chk_some hf
  obtain ⟨u_1, hu_1, hf⟩ := bv_some hf
  refine va_zast hx hb hK hP (hDD u0) hS 7 1 rfl rfl (inb_in hi) dX7_tells_13 (fun H locs hP _ hS => ?_)
  have hP : va_P D cls (wX7 cI cZ a0 u_1) H := by rw [hu_1]; exact hP
  refine lv_iload_n hx hb dX7_tells_14 rfl (lv_at hl 0 rfl) ?_
  have eo := Option.some.inj hf
  have hP : va_P D cls (wX7 cI cZ a0 o.2) H := by rw [← eo]; exact hP
  rw [hQ]
  exact zretN (v := (u0 6 (p1).toNatClampNeg)) (v' := vp_nar .boolean (u0 6 (p1).toNatClampNeg)) hx hb hr rfl (fun t ht hW => ⟨⟨_, (), rfl, congrArg Prod.fst eo, P_at ht hP⟩, hS.F ht⟩) hS.2.2 dX7_tells_15 hlocks
theorem dX7_shuts_0 : decode cX7_shuts 0 = .ok (.aload_n 0, 1) := by decide +kernel
theorem dX7_shuts_1 : decode cX7_shuts 1 = .ok (.getfield 41, 3) := by decide +kernel
theorem dX7_shuts_4 : decode cX7_shuts 4 = .ok (.iload_n 1, 1) := by decide +kernel
theorem dX7_shuts_5 : decode cX7_shuts 5 = .ok (.iconst 0, 1) := by decide +kernel
theorem dX7_shuts_6 : decode cX7_shuts 6 = .ok (.bastore, 1) := by decide +kernel
theorem dX7_shuts_7 : decode cX7_shuts 7 = .ok (.iconst 0, 1) := by decide +kernel
theorem dX7_shuts_8 : decode cX7_shuts 8 = .ok (.istore_n 2, 1) := by decide +kernel
theorem dX7_shuts_9 : decode cX7_shuts 9 = .ok (.iload_n 2, 1) := by decide +kernel
theorem dX7_shuts_10 : decode cX7_shuts 10 = .ok (.bipush 16, 2) := by decide +kernel
theorem dX7_shuts_12 : decode cX7_shuts 12 = .ok (.if_icmp .ge 21, 3) := by decide +kernel
theorem dX7_shuts_15 : decode cX7_shuts 15 = .ok (.aload_n 0, 1) := by decide +kernel
theorem dX7_shuts_16 : decode cX7_shuts 16 = .ok (.getfield 44, 3) := by decide +kernel
theorem dX7_shuts_19 : decode cX7_shuts 19 = .ok (.bipush 16, 2) := by decide +kernel
theorem dX7_shuts_21 : decode cX7_shuts 21 = .ok (.iload_n 1, 1) := by decide +kernel
theorem dX7_shuts_22 : decode cX7_shuts 22 = .ok (.imul, 1) := by decide +kernel
theorem dX7_shuts_23 : decode cX7_shuts 23 = .ok (.iload_n 2, 1) := by decide +kernel
theorem dX7_shuts_24 : decode cX7_shuts 24 = .ok (.iadd, 1) := by decide +kernel
theorem dX7_shuts_25 : decode cX7_shuts 25 = .ok (.iconst 0, 1) := by decide +kernel
theorem dX7_shuts_26 : decode cX7_shuts 26 = .ok (.iastore, 1) := by decide +kernel
theorem dX7_shuts_27 : decode cX7_shuts 27 = .ok (.iinc 2 1, 3) := by decide +kernel
theorem dX7_shuts_30 : decode cX7_shuts 30 = .ok (.goto (-21), 3) := by decide +kernel
theorem dX7_shuts_33 : decode cX7_shuts 33 = .ok (.return_, 1) := by decide +kernel
def f_X7_shuts (u0 : S1) (p1 : Int32) : Option (S1) := chk (inb p1 30) (bv (stz u0 12 p1 0) (fun u_1 => qj2 (fun (r9_2 : Int32 → S1 → Option (S1)) (y9_2_2 : Int32) (u9_2_0 : S1) => if 16 ≤ y9_2_2 then some (u9_2_0) else chk (inb ((16 * p1) + y9_2_2) 480) (bv (st u9_2_0 13 ((16 * p1) + y9_2_2) 0) (fun u_4 => r9_2 (y9_2_2 + 1) u_4))) (fun k9_2 => k9_2 0 u_1)))
def rmX7_shuts : Room := { frames := 0, cells := 0, slots := 0, locals := 0 }
set_option maxHeartbeats 4000000 in
set_option maxRecDepth 100000 in
theorem c_X7_shuts (l : Launch) (D : va_G) (cI cZ cJ cT : ClassId) (a0 : Nat → Nat) (sz : Nat) (u0 : S1) (p1 : Int32) (o : S1) (hf : f_X7_shuts u0 p1 = some o) : Met l yX7_shuts wsX7_shuts rmX7_shuts (va_Pc [.ref (a0 0), .int p1] (PW D cls (tys cI cZ cJ cT) ((wX7 cI cZ a0 u0)) sz)) (QWv D cls ((wX7 cI cZ a0 o)) (va_A ((wX7 cI cZ a0 u0)) sz)) 0 0 (va_A ((wX7 cI cZ a0 u0)) sz) := by
  refine Met.ofW (cc := cX7_shuts) (maxL := 3) (ret := none) (by decide) rfl ?_
  intro p e s m args below meth c s₁ B hml hv
  obtain ⟨hav, hsz, hP, hK, hD0⟩ := hv
  have hx := B.exec
  have hb := B.bytes
  have hr := B.returns
  have hlocks := B.notSynchronized
  have hts := atoms_spec (ws := wsX7_shuts) B.pre
  have hown : s.vm.findClass RX7 = some m.cls := findClass_of_methodNamed B.named
  have i7 : ∀ w ∈ wsX70, w ∈ wsX7_shuts := fun w h => List.mem_cons_of_mem _ (List.mem_append_right _ h)
  have hk41 := hts (.fieldLink RX7 41 "InoderyModel" "isOpen" "[Z") (by decide +kernel)
  have hk44 := hts (.fieldLink RX7 44 "InoderyModel" "lock" "[I") (by decide +kernel)
  subst hsz
  have hD := hD0.self (sz := s.heap.size)
  generalize hAe : va_A ((wX7 cI cZ a0 u0)) s.heap.size = A at hD ⊢
  have hA : ∀ q : Nat, s.heap.size ≤ q → A q := fun q h => by rw [← hAe]; exact Or.inr h
  have hS : va_S A s.heap s.heap [] := va_S.rf
  have hDD : ∀ w0 : S1, va_D A ((wX7 cI cZ a0 w0)) := fun _ => D_same (w := (wX7 cI cZ a0 u0)) rfl hD
  refine Wq (fun Q hQ => ?_)
  refine W_entry hav (Nat.le_of_ble_eq_true rfl) (fun ls hl => ?_)
  have hl : lv_has ls 3 [(0, .ref (a0 0)), (1, .int p1)] := hl
  unfold f_X7_shuts at hf
  refine W_heap hP hS (fun H locs hP hS => ?_)
  refine lv_aload_n hx hb dX7_shuts_0 rfl (lv_at hl 0 rfl) ?_
  refine va_get (D := D) (ci := 7) (v := .ref (a0 13)) (C := RX7) (T := TX7) (N := 19) hx hb hts i7 hown hK hP 0 rfl rfl 12 (by decide) hk41 (fun _ h9 => h9) rfl dX7_shuts_1 ?_
  refine lv_iload_n hx hb dX7_shuts_4 rfl (lv_at hl 1 rfl) ?_
  refine lv_iconst (v := 0) hx hb dX7_shuts_5 (by decide) ?_
  obtain ⟨hi, hf⟩ := chk_some hf
  obtain ⟨u_1, hu_1, hf⟩ := bv_some hf
  refine va_zast hx hb hK hP (hDD u0) hS 11 1 rfl rfl (inb_in hi) dX7_shuts_6 (fun H locs hP _ hS => ?_)
  have hP : va_P D cls (wX7 cI cZ a0 u_1) H := by rw [hu_1]; exact hP
  refine lv_iconst (v := 0) hx hb dX7_shuts_7 (by decide) ?_
  refine lv_istore_n (lv' := [(2, .int 0), (0, .ref (a0 0)), (1, .int p1)]) hx hb dX7_shuts_8 rfl hl (by decide) rfl (fun ls hl => ?_)
  obtain ⟨G9_2, hG9_2, hf⟩ := qj2_some hf
  have j9_2 : ∀ (n : Nat) (y9_2_2 : Int32) (u9_2_0 : S1) (H : Heap) (locs : List Loc) (ls : Array Slot), ql2 G9_2 n y9_2_2 u9_2_0 = some o → va_P D cls (wX7 cI cZ a0 u9_2_0) H → va_S A s.heap H locs → lv_has ls 3 [(0, .ref (a0 0)), (1, .int p1), (2, .int y9_2_2)] → W p l e (headSpec wsX7_shuts rmX7_shuts).room s m args below meth c H locs 0 0 Q (F0 m 9 ls []) := by
    intro n
    induction n with
    | zero => intro y9_2_2 u9_2_0 H locs ls hf hP hS hl; exact (ql2_z hf).elim
    | succ n ih9_2 =>
      intro y9_2_2 u9_2_0 H locs ls hf hP hS hl
      have hf := ql2_s hG9_2 hf
      obtain ⟨r9_2, hr9_2⟩ : ∃ z, z = ql2 G9_2 n := ⟨_, rfl⟩
      rw [← hr9_2] at hf ih9_2
      refine lv_iload_n hx hb dX7_shuts_9 rfl (lv_at hl 2 rfl) ?_
      refine lv_bipush (v := 16) hx hb dX7_shuts_10 (by decide) ?_
      refine lv_icmp_ge (tgt := 33) hx hb dX7_shuts_12 (by decide) (fun c_3 => ?_) (fun c_3 => ?_)
      · have hf := ite_t hf c_3
        have eo := Option.some.inj hf
        have hP : va_P D cls (wX7 cI cZ a0 o) H := by rw [← eo]; exact hP
        rw [hQ]
        exact W.vret hx hb hr (fun t ht hW => ⟨⟨(), rfl, trivial, P_at ht hP⟩, hS.F ht⟩) hS.2.2 dX7_shuts_33 hlocks
      · have hf := ite_f hf c_3
        refine lv_aload_n hx hb dX7_shuts_15 rfl (lv_at hl 0 rfl) ?_
        refine va_get (D := D) (ci := 7) (v := .ref (a0 14)) (C := RX7) (T := TX7) (N := 19) hx hb hts i7 hown hK hP 0 rfl rfl 13 (by decide) hk44 (fun _ h9 => h9) rfl dX7_shuts_16 ?_
        refine lv_bipush (v := 16) hx hb dX7_shuts_19 (by decide) ?_
        refine lv_iload_n hx hb dX7_shuts_21 rfl (lv_at hl 1 rfl) ?_
        refine lv_imul hx hb dX7_shuts_22 ?_
        refine lv_iload_n hx hb dX7_shuts_23 rfl (lv_at hl 2 rfl) ?_
        refine lv_iadd hx hb dX7_shuts_24 ?_
        refine lv_iconst (v := 0) hx hb dX7_shuts_25 (by decide) ?_
        obtain ⟨hi, hf⟩ := chk_some hf
        obtain ⟨u_4, hu_4, hf⟩ := bv_some hf
        refine va_iast hx hb hK hP (hDD u9_2_0) hS 12 0 rfl rfl (inb_in hi) dX7_shuts_26 (fun H locs hP _ hS => ?_)
        have hP : va_P D cls (wX7 cI cZ a0 u_4) H := by rw [hu_4]; exact hP
        refine lv_iinc (v := y9_2_2 + 1) (lv' := [(2, .int (y9_2_2 + 1)), (0, .ref (a0 0)), (1, .int p1)]) hx hb dX7_shuts_27 hl (k := 2) rfl rfl (by decide) rfl (fun ls hl => ?_)
        refine lv_goto (tgt := 9) hx hb dX7_shuts_30 (by decide) ?_
        exact ih9_2 _ _ _ _ _ hf hP hS (lv_sub hl [1, 2, 0] rfl)
  exact j9_2 4096 _ _ _ _ _ hf hP hS (lv_sub hl [1, 2, 0] rfl)
set_option maxRecDepth 20000 in
theorem ggX7_close_X7_at : GoodIn wsX7_close wsX7_at := goodIn_r _ [30] (by decide +kernel) (by decide +kernel)
set_option maxRecDepth 20000 in
theorem gX7_close_X7_at : GoodIn wsX7_close (va_wsS RX7 67 yX7_at wsX7_at) := goodIn_app (goodIn_of _ (by decide +kernel)) ggX7_close_X7_at
set_option maxRecDepth 20000 in
theorem ggX7_close_X7_can : GoodIn wsX7_close wsX7_can := goodIn_r _ [16, 17, 48, 49, 50, 51, 52, 53, 54, 55, 56, 57, 58, 59, 60, 61, 62, 63, 64, 65, 66] (by decide +kernel) (by decide +kernel)
set_option maxRecDepth 20000 in
theorem gX7_close_X7_can : GoodIn wsX7_close (wsV RX7 140 RX7 yX7_can wsX7_can) := goodIn_app (goodIn_of _ (by decide +kernel)) ggX7_close_X7_can
set_option maxRecDepth 20000 in
theorem ggX7_close_X7_goes : GoodIn wsX7_close wsX7_goes := goodIn_r _ [42, 3, 22, 43, 44, 45, 7, 46, 47, 28, 29, 30, 48, 49, 50, 51, 52, 53, 54, 55, 56, 57, 58, 59, 60, 61, 62, 63, 64, 65, 66] (by decide +kernel) (by decide +kernel)
set_option maxRecDepth 20000 in
theorem gX7_close_X7_goes : GoodIn wsX7_close (wsV RX7 101 RX7 yX7_goes wsX7_goes) := goodIn_app (goodIn_of _ (by decide +kernel)) ggX7_close_X7_goes
set_option maxRecDepth 20000 in
theorem ggX7_close_X7_isHandle : GoodIn wsX7_close wsX7_isHandle := goodIn_r _ [8, 9, 10, 11, 7, 12, 48, 49, 50, 51, 52, 53, 54, 55, 56, 57, 58, 59, 60, 61, 62, 63, 64, 65, 66] (by decide +kernel) (by decide +kernel)
set_option maxRecDepth 20000 in
theorem gX7_close_X7_isHandle : GoodIn wsX7_close (wsV RX7 186 RX7 yX7_isHandle wsX7_isHandle) := goodIn_app (goodIn_of _ (by decide +kernel)) ggX7_close_X7_isHandle
set_option maxRecDepth 20000 in
theorem ggX7_close_X7_isHeld : GoodIn wsX7_close wsX7_isHeld := goodIn_r _ [34, 35, 36, 37, 7, 38, 9, 1, 2, 48, 49, 50, 51, 52, 53, 54, 55, 56, 57, 58, 59, 60, 61, 62, 63, 64, 65, 66] (by decide +kernel) (by decide +kernel)
set_option maxRecDepth 20000 in
theorem gX7_close_X7_isHeld : GoodIn wsX7_close (wsV RX7 97 RX7 yX7_isHeld wsX7_isHeld) := goodIn_app (goodIn_of _ (by decide +kernel)) ggX7_close_X7_isHeld
set_option maxRecDepth 20000 in
theorem ggX7_close_X7_shuts : GoodIn wsX7_close wsX7_shuts := goodIn_r _ [26, 1, 27, 48, 49, 50, 51, 52, 53, 54, 55, 56, 57, 58, 59, 60, 61, 62, 63, 64, 65, 66] (by decide +kernel) (by decide +kernel)
set_option maxRecDepth 20000 in
theorem gX7_close_X7_shuts : GoodIn wsX7_close (wsV RX7 192 RX7 yX7_shuts wsX7_shuts) := goodIn_app (goodIn_of _ (by decide +kernel)) ggX7_close_X7_shuts
set_option maxRecDepth 20000 in
theorem ggX7_close_X7_tells : GoodIn wsX7_close wsX7_tells := goodIn_r _ [21, 22, 48, 49, 50, 51, 52, 53, 54, 55, 56, 57, 58, 59, 60, 61, 62, 63, 64, 65, 66] (by decide +kernel) (by decide +kernel)
set_option maxRecDepth 20000 in
theorem gX7_close_X7_tells : GoodIn wsX7_close (wsV RX7 189 RX7 yX7_tells wsX7_tells) := goodIn_app (goodIn_of _ (by decide +kernel)) ggX7_close_X7_tells
theorem dX7_close_0 : decode cX7_close 0 = .ok (.aload_n 0, 1) := by decide +kernel
theorem dX7_close_1 : decode cX7_close 1 = .ok (.aload_n 0, 1) := by decide +kernel
theorem dX7_close_2 : decode cX7_close 2 = .ok (.iload_n 1, 1) := by decide +kernel
theorem dX7_close_3 : decode cX7_close 3 = .ok (.invokevirtual 186, 3) := by decide +kernel
theorem dX7_close_6 : decode cX7_close 6 = .ok (.ifCond .ne 7, 3) := by decide +kernel
theorem dX7_close_9 : decode cX7_close 9 = .ok (.iconst 1, 1) := by decide +kernel
theorem dX7_close_10 : decode cX7_close 10 = .ok (.goto 17, 3) := by decide +kernel
theorem dX7_close_13 : decode cX7_close 13 = .ok (.aload_n 0, 1) := by decide +kernel
theorem dX7_close_14 : decode cX7_close 14 = .ok (.getfield 41, 3) := by decide +kernel
theorem dX7_close_17 : decode cX7_close 17 = .ok (.iload_n 1, 1) := by decide +kernel
theorem dX7_close_18 : decode cX7_close 18 = .ok (.baload, 1) := by decide +kernel
theorem dX7_close_19 : decode cX7_close 19 = .ok (.ifCond .eq 7, 3) := by decide +kernel
theorem dX7_close_22 : decode cX7_close 22 = .ok (.iconst 0, 1) := by decide +kernel
theorem dX7_close_23 : decode cX7_close 23 = .ok (.goto 4, 3) := by decide +kernel
theorem dX7_close_26 : decode cX7_close 26 = .ok (.iconst 2, 1) := by decide +kernel
theorem dX7_close_27 : decode cX7_close 27 = .ok (.invokevirtual 140, 3) := by decide +kernel
theorem dX7_close_30 : decode cX7_close 30 = .ok (.ifCond .ne 5, 3) := by decide +kernel
theorem dX7_close_33 : decode cX7_close 33 = .ok (.iconst 0, 1) := by decide +kernel
theorem dX7_close_34 : decode cX7_close 34 = .ok (.ireturn, 1) := by decide +kernel
theorem dX7_close_35 : decode cX7_close 35 = .ok (.aload_n 0, 1) := by decide +kernel
theorem dX7_close_36 : decode cX7_close 36 = .ok (.getfield 35, 3) := by decide +kernel
theorem dX7_close_39 : decode cX7_close 39 = .ok (.iload_n 1, 1) := by decide +kernel
theorem dX7_close_40 : decode cX7_close 40 = .ok (.iaload, 1) := by decide +kernel
theorem dX7_close_41 : decode cX7_close 41 = .ok (.istore_n 2, 1) := by decide +kernel
theorem dX7_close_42 : decode cX7_close 42 = .ok (.aload_n 0, 1) := by decide +kernel
theorem dX7_close_43 : decode cX7_close 43 = .ok (.iload_n 2, 1) := by decide +kernel
theorem dX7_close_44 : decode cX7_close 44 = .ok (.invokevirtual 189, 3) := by decide +kernel
theorem dX7_close_47 : decode cX7_close 47 = .ok (.istore_n 3, 1) := by decide +kernel
theorem dX7_close_48 : decode cX7_close 48 = .ok (.aload_n 0, 1) := by decide +kernel
theorem dX7_close_49 : decode cX7_close 49 = .ok (.iload_n 1, 1) := by decide +kernel
theorem dX7_close_50 : decode cX7_close 50 = .ok (.invokevirtual 192, 3) := by decide +kernel
theorem dX7_close_53 : decode cX7_close 53 = .ok (.aload_n 0, 1) := by decide +kernel
theorem dX7_close_54 : decode cX7_close 54 = .ok (.getfield 7, 3) := by decide +kernel
theorem dX7_close_57 : decode cX7_close 57 = .ok (.iconst 0, 1) := by decide +kernel
theorem dX7_close_58 : decode cX7_close 58 = .ok (.iload_n 2, 1) := by decide +kernel
theorem dX7_close_59 : decode cX7_close 59 = .ok (.invokestatic 67, 3) := by decide +kernel
theorem dX7_close_62 : decode cX7_close 62 = .ok (.iconst 3, 1) := by decide +kernel
theorem dX7_close_63 : decode cX7_close 63 = .ok (.iadd, 1) := by decide +kernel
theorem dX7_close_64 : decode cX7_close 64 = .ok (.iaload, 1) := by decide +kernel
theorem dX7_close_65 : decode cX7_close 65 = .ok (.ifCond .ne 16, 3) := by decide +kernel
theorem dX7_close_68 : decode cX7_close 68 = .ok (.aload_n 0, 1) := by decide +kernel
theorem dX7_close_69 : decode cX7_close 69 = .ok (.iload_n 2, 1) := by decide +kernel
theorem dX7_close_70 : decode cX7_close 70 = .ok (.invokevirtual 97, 3) := by decide +kernel
theorem dX7_close_73 : decode cX7_close 73 = .ok (.ifCond .ne 8, 3) := by decide +kernel
theorem dX7_close_76 : decode cX7_close 76 = .ok (.aload_n 0, 1) := by decide +kernel
theorem dX7_close_77 : decode cX7_close 77 = .ok (.iload_n 2, 1) := by decide +kernel
theorem dX7_close_78 : decode cX7_close 78 = .ok (.invokevirtual 101, 3) := by decide +kernel
theorem dX7_close_81 : decode cX7_close 81 = .ok (.iload_n 3, 1) := by decide +kernel
theorem dX7_close_82 : decode cX7_close 82 = .ok (.ireturn, 1) := by decide +kernel
def f_X7_close (u0 : S1) (p1 : Int32) : Option (Int32 × S1) := bn (f_X7_isHandle u0 p1) (fun z_1 => jn (fun (v27_2_0 : Int32) => bn (f_X7_can u0 v27_2_0) (fun z_3 => if z_3.1 = 0 then some (0, z_3.2) else chk (inb p1 30) (bn (f_X7_tells z_3.2 (z_3.2 10 (p1).toNatClampNeg)) (fun z_5 => bn (f_X7_shuts z_5.2 p1) (fun z_6 => bn (f_X7_at 0 (z_3.2 10 (p1).toNatClampNeg)) (fun z_7 => chk (inb (z_7 + 3) 8480) (jn (fun (u81_8_0 : S1) => some (vp_nar .boolean z_5.1, u81_8_0)) (fun k81_8 => if (z_6 0 (z_7 + 3).toNatClampNeg) = 0 then bn (f_X7_isHeld z_6 (z_3.2 10 (p1).toNatClampNeg)) (fun z_10 => if z_10 = 0 then bn (f_X7_goes z_6 (z_3.2 10 (p1).toNatClampNeg)) (fun z_12 => k81_8 z_12) else k81_8 z_6) else k81_8 z_6)))))))) (fun k27_2 => if z_1 = 0 then k27_2 1 else chk (inb p1 30) (if (u0 12 (p1).toNatClampNeg) = 0 then k27_2 2 else k27_2 0)))
def rmX7_close : Room := { frames := 3, cells := 0, slots := 0, locals := 65 }
set_option maxHeartbeats 4000000 in
set_option maxRecDepth 100000 in
theorem c_X7_close (l : Launch) (D : va_G) (cI cZ cJ cT : ClassId) (a0 : Nat → Nat) (sz : Nat) (u0 : S1) (p1 : Int32) (o : Int32 × S1) (hf : f_X7_close u0 p1 = some o) : Met l yX7_close wsX7_close rmX7_close (va_Pc [.ref (a0 0), .int p1] (PW D cls (tys cI cZ cJ cT) ((wX7 cI cZ a0 u0)) sz)) (QWi D cls o.1 ((wX7 cI cZ a0 o.2)) (va_A ((wX7 cI cZ a0 u0)) sz)) 0 0 (va_A ((wX7 cI cZ a0 u0)) sz) := by
  refine Met.ofW (cc := cX7_close) (maxL := 4) (ret := (some .boolean)) (by decide) rfl ?_
  intro p e s m args below meth c s₁ B hml hv
  obtain ⟨hav, hsz, hP, hK, hD0⟩ := hv
  have hx := B.exec
  have hb := B.bytes
  have hr := B.returns
  have hlocks := B.notSynchronized
  have hts := atoms_spec (ws := wsX7_close) B.pre
  have hown : s.vm.findClass RX7 = some m.cls := findClass_of_methodNamed B.named
  have i7 : ∀ w ∈ wsX70, w ∈ wsX7_close := fun w h => List.mem_cons_of_mem _ (List.mem_append_right _ h)
  have hk7 := hts (.fieldLink RX7 7 "InoderyModel" "s" "[I") (by decide +kernel)
  have hk35 := hts (.fieldLink RX7 35 "InoderyModel" "of" "[I") (by decide +kernel)
  have hk41 := hts (.fieldLink RX7 41 "InoderyModel" "isOpen" "[Z") (by decide +kernel)
  subst hsz
  have hD := hD0.self (sz := s.heap.size)
  generalize hAe : va_A ((wX7 cI cZ a0 u0)) s.heap.size = A at hD ⊢
  have hA : ∀ q : Nat, s.heap.size ≤ q → A q := fun q h => by rw [← hAe]; exact Or.inr h
  have hS : va_S A s.heap s.heap [] := va_S.rf
  have hDD : ∀ w0 : S1, va_D A ((wX7 cI cZ a0 w0)) := fun _ => D_same (w := (wX7 cI cZ a0 u0)) rfl hD
  refine Wq (fun Q hQ => ?_)
  refine W_entry hav (Nat.le_of_ble_eq_true rfl) (fun ls hl => ?_)
  have hl : lv_has ls 4 [(0, .ref (a0 0)), (1, .int p1)] := hl
  unfold f_X7_close at hf
  refine W_heap hP hS (fun H locs hP hS => ?_)
  refine lv_aload_n hx hb dX7_close_0 rfl (lv_at hl 0 rfl) ?_
  refine lv_aload_n hx hb dX7_close_1 rfl (lv_at hl 0 rfl) ?_
  refine lv_iload_n hx hb dX7_close_2 rfl (lv_at hl 1 rfl) ?_
  obtain ⟨z_1, hz_1, hf⟩ := bn_some hf
  refine cRV (As := [.int p1]) (rest := [.ref (a0 0)]) ⟨hx, hb, hml, hown, hts⟩ (c_X7_isHandle l D cI cZ cJ cT a0 u0 p1 z_1 hz_1) (cwV 1 hts gX7_close_X7_isHandle rfl rfl rfl (by decide +kernel) ⟨Nat.le_of_ble_eq_true rfl, Nat.le_of_ble_eq_true rfl⟩) hP hK (va_recv hK hP (ci := 7) (q0 := 0) rfl rfl) rfl rfl hl.1 (Nat.le_of_ble_eq_true rfl) dX7_close_3 ⟨Nat.le_of_ble_eq_true rfl, Nat.le_of_ble_eq_true rfl⟩ ?_
  obtain ⟨k27_2, hk27_2, hf⟩ := jn_some hf
  have j27_2 : ∀ (v27_2_0 : Int32) (H : Heap) (locs : List Loc) (ls : Array Slot), k27_2 v27_2_0 = some o → va_P D cls (wX7 cI cZ a0 u0) H → va_S A s.heap H locs → lv_has ls 4 [(0, .ref (a0 0)), (1, .int p1)] → W p l e (headSpec wsX7_close rmX7_close).room s m args below meth c H locs 0 0 Q (F0 m 27 ls [.int v27_2_0, .ref (a0 0)]) := by
    intro v27_2_0 H locs ls hf hP hS hl
    have hf := qa1 hk27_2 hf
    obtain ⟨z_3, hz_3, hf⟩ := bn_some hf
    refine cWVi (As := [.int v27_2_0]) (rest := []) ⟨hx, hb, hml, hown, hts⟩ (c_X7_can l D cI cZ cJ cT a0 H.size u0 v27_2_0 z_3 hz_3) (cwV 1 hts gX7_close_X7_can rfl rfl rfl (by decide +kernel) ⟨Nat.le_of_ble_eq_true rfl, Nat.le_of_ble_eq_true rfl⟩) hP hK (hDD u0) hS (own_free (hDD u0) hS hA) (va_recv hK hP (ci := 7) (q0 := 0) rfl rfl) rfl rfl hl.1 (Nat.le_of_ble_eq_true rfl) dX7_close_27 ⟨Nat.le_of_ble_eq_true rfl, Nat.le_of_ble_eq_true rfl⟩ (fun H1 locs hP1 hk1 hS => ?_)
    have hP : va_P D cls (wX7 cI cZ a0 z_3.2) H1 := hP1
    clear hP1 hk1
    generalize H1 = H at hP hS ⊢
    refine lv_if_ne (tgt := 35) hx hb dX7_close_30 (by decide) (fun c_4 => ?_) (fun c_4 => ?_)
    · have hf := ite_f hf c_4
      refine lv_aload_n hx hb dX7_close_35 rfl (lv_at hl 0 rfl) ?_
      refine va_get (D := D) (ci := 7) (v := .ref (a0 11)) (C := RX7) (T := TX7) (N := 19) hx hb hts i7 hown hK hP 0 rfl rfl 10 (by decide) hk35 (fun _ h9 => h9) rfl dX7_close_36 ?_
      refine lv_iload_n hx hb dX7_close_39 rfl (lv_at hl 1 rfl) ?_
      obtain ⟨hi, hf⟩ := chk_some hf
      refine va_iald hx hb hK hP 9 0 rfl rfl (inb_in hi) dX7_close_40 ?_
      refine lv_istore_n (lv' := [(2, .int (z_3.2 10 (p1).toNatClampNeg)), (0, .ref (a0 0)), (1, .int p1)]) hx hb dX7_close_41 rfl hl (by decide) rfl (fun ls hl => ?_)
      refine lv_aload_n hx hb dX7_close_42 rfl (lv_at hl 1 rfl) ?_
      refine lv_iload_n hx hb dX7_close_43 rfl (lv_at hl 0 rfl) ?_
      obtain ⟨z_5, hz_5, hf⟩ := bn_some hf
      refine cWVi (As := [.int (z_3.2 10 (p1).toNatClampNeg)]) (rest := []) ⟨hx, hb, hml, hown, hts⟩ (c_X7_tells l D cI cZ cJ cT a0 H.size z_3.2 (z_3.2 10 (p1).toNatClampNeg) z_5 hz_5) (cwV 1 hts gX7_close_X7_tells rfl rfl rfl (by decide +kernel) ⟨Nat.le_of_ble_eq_true rfl, Nat.le_of_ble_eq_true rfl⟩) hP hK (hDD z_3.2) hS (own_free (hDD z_3.2) hS hA) (va_recv hK hP (ci := 7) (q0 := 0) rfl rfl) rfl rfl hl.1 (Nat.le_of_ble_eq_true rfl) dX7_close_44 ⟨Nat.le_of_ble_eq_true rfl, Nat.le_of_ble_eq_true rfl⟩ (fun H1 locs hP1 hk1 hS => ?_)
      have hP : va_P D cls (wX7 cI cZ a0 z_5.2) H1 := hP1
      clear hP1 hk1
      generalize H1 = H at hP hS ⊢
      refine lv_istore_n (lv' := [(3, .int z_5.1), (2, .int (z_3.2 10 (p1).toNatClampNeg)), (0, .ref (a0 0)), (1, .int p1)]) hx hb dX7_close_47 rfl hl (by decide) rfl (fun ls hl => ?_)
      refine lv_aload_n hx hb dX7_close_48 rfl (lv_at hl 2 rfl) ?_
      refine lv_iload_n hx hb dX7_close_49 rfl (lv_at hl 3 rfl) ?_
      obtain ⟨z_6, hz_6, hf⟩ := bn_some hf
      refine cWVv (As := [.int p1]) (rest := []) ⟨hx, hb, hml, hown, hts⟩ (c_X7_shuts l D cI cZ cJ cT a0 H.size z_5.2 p1 z_6 hz_6) (cwV 1 hts gX7_close_X7_shuts rfl rfl rfl (by decide +kernel) ⟨Nat.le_of_ble_eq_true rfl, Nat.le_of_ble_eq_true rfl⟩) hP hK (hDD z_5.2) hS (own_free (hDD z_5.2) hS hA) (va_recv hK hP (ci := 7) (q0 := 0) rfl rfl) rfl rfl hl.1 (Nat.le_of_ble_eq_true rfl) dX7_close_50 ⟨Nat.le_of_ble_eq_true rfl, Nat.le_of_ble_eq_true rfl⟩ (fun H1 locs hP1 hk1 hS => ?_)
      have hP : va_P D cls (wX7 cI cZ a0 z_6) H1 := hP1
      clear hP1 hk1
      generalize H1 = H at hP hS ⊢
      refine lv_aload_n hx hb dX7_close_53 rfl (lv_at hl 2 rfl) ?_
      refine va_get (D := D) (ci := 7) (v := .ref (a0 1)) (C := RX7) (T := TX7) (N := 19) hx hb hts i7 hown hK hP 0 rfl rfl 0 (by decide) hk7 (fun _ h9 => h9) rfl dX7_close_54 ?_
      refine lv_iconst (v := 0) hx hb dX7_close_57 (by decide) ?_
      refine lv_iload_n hx hb dX7_close_58 rfl (lv_at hl 1 rfl) ?_
      obtain ⟨z_7, hz_7, hf⟩ := bn_some hf
      refine c0S (As := [.int 0, .int (z_3.2 10 (p1).toNatClampNeg)]) (rest := [.ref (a0 1)]) ⟨hx, hb, hml, hown, hts⟩ (c_X7_at l D cI cZ cJ cT 0 (z_3.2 10 (p1).toNatClampNeg) z_7 hz_7) (va_cwS 2 hts gX7_close_X7_at rfl rfl rfl (by decide +kernel) ⟨Nat.le_of_ble_eq_true rfl, Nat.le_of_ble_eq_true rfl⟩) rfl rfl hl.1 (Nat.le_of_ble_eq_true rfl) dX7_close_59 ⟨Nat.le_of_ble_eq_true rfl, Nat.le_of_ble_eq_true rfl⟩ ?_
      refine lv_iconst (v := 3) hx hb dX7_close_62 (by decide) ?_
      refine lv_iadd hx hb dX7_close_63 ?_
      obtain ⟨hi, hf⟩ := chk_some hf
      refine va_iald hx hb hK hP 1 0 rfl rfl (inb_in hi) dX7_close_64 ?_
      obtain ⟨k81_8, hk81_8, hf⟩ := jn_some hf
      have j81_8 : ∀ (u81_8_0 : S1) (H : Heap) (locs : List Loc) (ls : Array Slot), k81_8 u81_8_0 = some o → va_P D cls (wX7 cI cZ a0 u81_8_0) H → va_S A s.heap H locs → lv_has ls 4 [(3, .int z_5.1)] → W p l e (headSpec wsX7_close rmX7_close).room s m args below meth c H locs 0 0 Q (F0 m 81 ls []) := by
        intro u81_8_0 H locs ls hf hP hS hl
        have hf := qa1 hk81_8 hf
        refine lv_iload_n hx hb dX7_close_81 rfl (lv_at hl 0 rfl) ?_
        have eo := Option.some.inj hf
        have hP : va_P D cls (wX7 cI cZ a0 o.2) H := by rw [← eo]; exact hP
        rw [hQ]
        exact zretN (v := z_5.1) (v' := vp_nar .boolean z_5.1) hx hb hr rfl (fun t ht hW => ⟨⟨_, (), rfl, (by rw [← eo]), P_at ht hP⟩, hS.F ht⟩) hS.2.2 dX7_close_82 hlocks
      refine lv_if_ne (tgt := 81) hx hb dX7_close_65 (by decide) (fun c_9 => ?_) (fun c_9 => ?_)
      · have hf := ite_f hf c_9
        exact j81_8 _ _ _ _ hf hP hS (lv_sub hl [0] rfl)
      · have hf := ite_t hf c_9
        refine lv_aload_n hx hb dX7_close_68 rfl (lv_at hl 2 rfl) ?_
        refine lv_iload_n hx hb dX7_close_69 rfl (lv_at hl 1 rfl) ?_
        obtain ⟨z_10, hz_10, hf⟩ := bn_some hf
        refine cRV (As := [.int (z_3.2 10 (p1).toNatClampNeg)]) (rest := []) ⟨hx, hb, hml, hown, hts⟩ (c_X7_isHeld l D cI cZ cJ cT a0 z_6 (z_3.2 10 (p1).toNatClampNeg) z_10 hz_10) (cwV 1 hts gX7_close_X7_isHeld rfl rfl rfl (by decide +kernel) ⟨Nat.le_of_ble_eq_true rfl, Nat.le_of_ble_eq_true rfl⟩) hP hK (va_recv hK hP (ci := 7) (q0 := 0) rfl rfl) rfl rfl hl.1 (Nat.le_of_ble_eq_true rfl) dX7_close_70 ⟨Nat.le_of_ble_eq_true rfl, Nat.le_of_ble_eq_true rfl⟩ ?_
        refine lv_if_ne (tgt := 81) hx hb dX7_close_73 (by decide) (fun c_11 => ?_) (fun c_11 => ?_)
        · have hf := ite_f hf c_11
          exact j81_8 _ _ _ _ hf hP hS (lv_sub hl [0] rfl)
        · have hf := ite_t hf c_11
          refine lv_aload_n hx hb dX7_close_76 rfl (lv_at hl 2 rfl) ?_
          refine lv_iload_n hx hb dX7_close_77 rfl (lv_at hl 1 rfl) ?_
          obtain ⟨z_12, hz_12, hf⟩ := bn_some hf
          refine cWVv (As := [.int (z_3.2 10 (p1).toNatClampNeg)]) (rest := []) ⟨hx, hb, hml, hown, hts⟩ (c_X7_goes l D cI cZ cJ cT a0 H.size z_6 (z_3.2 10 (p1).toNatClampNeg) z_12 hz_12) (cwV 1 hts gX7_close_X7_goes rfl rfl rfl (by decide +kernel) ⟨Nat.le_of_ble_eq_true rfl, Nat.le_of_ble_eq_true rfl⟩) hP hK (hDD z_6) hS (own_free (hDD z_6) hS hA) (va_recv hK hP (ci := 7) (q0 := 0) rfl rfl) rfl rfl hl.1 (Nat.le_of_ble_eq_true rfl) dX7_close_78 ⟨Nat.le_of_ble_eq_true rfl, Nat.le_of_ble_eq_true rfl⟩ (fun H1 locs hP1 hk1 hS => ?_)
          have hP : va_P D cls (wX7 cI cZ a0 z_12) H1 := hP1
          clear hP1 hk1
          generalize H1 = H at hP hS ⊢
          exact j81_8 _ _ _ _ hf hP hS (lv_sub hl [0] rfl)
    · have hf := ite_t hf c_4
      refine lv_iconst (v := 0) hx hb dX7_close_33 (by decide) ?_
      have eo := Option.some.inj hf
      have hP : va_P D cls (wX7 cI cZ a0 o.2) H := by rw [← eo]; exact hP
      rw [hQ]
      exact zretN (v := 0) (v' := 0) hx hb hr rfl (fun t ht hW => ⟨⟨_, (), rfl, congrArg Prod.fst eo, P_at ht hP⟩, hS.F ht⟩) hS.2.2 dX7_close_34 hlocks
  refine lv_if_ne (tgt := 13) hx hb dX7_close_6 (by decide) (fun c_13 => ?_) (fun c_13 => ?_)
  · have hf := ite_f hf c_13
    refine lv_aload_n hx hb dX7_close_13 rfl (lv_at hl 0 rfl) ?_
    refine va_get (D := D) (ci := 7) (v := .ref (a0 13)) (C := RX7) (T := TX7) (N := 19) hx hb hts i7 hown hK hP 0 rfl rfl 12 (by decide) hk41 (fun _ h9 => h9) rfl dX7_close_14 ?_
    refine lv_iload_n hx hb dX7_close_17 rfl (lv_at hl 1 rfl) ?_
    obtain ⟨hi, hf⟩ := chk_some hf
    refine va_zald hx hb hK hP 11 1 rfl rfl (inb_in hi) dX7_close_18 ?_
    refine lv_if_eq (tgt := 26) hx hb dX7_close_19 (by decide) (fun c_14 => ?_) (fun c_14 => ?_)
    · have hf := ite_t hf c_14
      refine lv_iconst (v := 2) hx hb dX7_close_26 (by decide) ?_
      exact j27_2 _ _ _ _ hf hP hS (lv_sub hl [0, 1] rfl)
    · have hf := ite_f hf c_14
      refine lv_iconst (v := 0) hx hb dX7_close_22 (by decide) ?_
      refine lv_goto (tgt := 27) hx hb dX7_close_23 (by decide) ?_
      exact j27_2 _ _ _ _ hf hP hS (lv_sub hl [0, 1] rfl)
  · have hf := ite_t hf c_13
    refine lv_iconst (v := 1) hx hb dX7_close_9 (by decide) ?_
    refine lv_goto (tgt := 27) hx hb dX7_close_10 (by decide) ?_
    exact j27_2 _ _ _ _ hf hP hS (lv_sub hl [0, 1] rfl)
set_option maxRecDepth 20000 in
theorem ggX7_blockFor_X7_blockOf : GoodIn wsX7_blockFor wsX7_blockOf := goodIn_r _ [5, 6, 7, 8, 4, 9, 19, 20, 21, 22, 23, 24, 25, 26, 27, 28, 29, 30, 31, 32, 33, 34, 35, 36, 37] (by decide +kernel) (by decide +kernel)
set_option maxRecDepth 20000 in
theorem gX7_blockFor_X7_blockOf : GoodIn wsX7_blockFor (wsV RX7 82 RX7 yX7_blockOf wsX7_blockOf) := goodIn_app (goodIn_of _ (by decide +kernel)) ggX7_blockFor_X7_blockOf
set_option maxRecDepth 20000 in
theorem ggX7_blockFor_X7_frees : GoodIn wsX7_blockFor wsX7_frees := goodIn_r _ [13, 14, 15, 16, 4, 17, 18, 6, 7, 8, 9, 19, 20, 21, 22, 23, 24, 25, 26, 27, 28, 29, 30, 31, 32, 33, 34, 35, 36, 37] (by decide +kernel) (by decide +kernel)
set_option maxRecDepth 20000 in
theorem gX7_blockFor_X7_frees : GoodIn wsX7_blockFor (wsV RX7 195 RX7 yX7_frees wsX7_frees) := goodIn_app (goodIn_of _ (by decide +kernel)) ggX7_blockFor_X7_frees
theorem dX7_blockFor_0 : decode cX7_blockFor 0 = .ok (.iload_n 2, 1) := by decide +kernel
theorem dX7_blockFor_1 : decode cX7_blockFor 1 = .ok (.ifCond .ne 7, 3) := by decide +kernel
theorem dX7_blockFor_4 : decode cX7_blockFor 4 = .ok (.iconst (-1), 1) := by decide +kernel
theorem dX7_blockFor_5 : decode cX7_blockFor 5 = .ok (.goto 11, 3) := by decide +kernel
theorem dX7_blockFor_8 : decode cX7_blockFor 8 = .ok (.aload_n 0, 1) := by decide +kernel
theorem dX7_blockFor_9 : decode cX7_blockFor 9 = .ok (.iload_n 1, 1) := by decide +kernel
theorem dX7_blockFor_10 : decode cX7_blockFor 10 = .ok (.iload_n 2, 1) := by decide +kernel
theorem dX7_blockFor_11 : decode cX7_blockFor 11 = .ok (.iconst 1, 1) := by decide +kernel
theorem dX7_blockFor_12 : decode cX7_blockFor 12 = .ok (.isub, 1) := by decide +kernel
theorem dX7_blockFor_13 : decode cX7_blockFor 13 = .ok (.invokevirtual 82, 3) := by decide +kernel
theorem dX7_blockFor_16 : decode cX7_blockFor 16 = .ok (.istore_n 3, 1) := by decide +kernel
theorem dX7_blockFor_17 : decode cX7_blockFor 17 = .ok (.iload_n 3, 1) := by decide +kernel
theorem dX7_blockFor_18 : decode cX7_blockFor 18 = .ok (.iconst (-1), 1) := by decide +kernel
theorem dX7_blockFor_19 : decode cX7_blockFor 19 = .ok (.if_icmp .eq 26, 3) := by decide +kernel
theorem dX7_blockFor_22 : decode cX7_blockFor 22 = .ok (.iload_n 3, 1) := by decide +kernel
theorem dX7_blockFor_23 : decode cX7_blockFor 23 = .ok (.bipush 16, 2) := by decide +kernel
theorem dX7_blockFor_25 : decode cX7_blockFor 25 = .ok (.irem, 1) := by decide +kernel
theorem dX7_blockFor_26 : decode cX7_blockFor 26 = .ok (.bipush 15, 2) := by decide +kernel
theorem dX7_blockFor_28 : decode cX7_blockFor 28 = .ok (.if_icmp .ge 17, 3) := by decide +kernel
theorem dX7_blockFor_31 : decode cX7_blockFor 31 = .ok (.aload_n 0, 1) := by decide +kernel
theorem dX7_blockFor_32 : decode cX7_blockFor 32 = .ok (.iload_n 3, 1) := by decide +kernel
theorem dX7_blockFor_33 : decode cX7_blockFor 33 = .ok (.iconst 1, 1) := by decide +kernel
theorem dX7_blockFor_34 : decode cX7_blockFor 34 = .ok (.iadd, 1) := by decide +kernel
theorem dX7_blockFor_35 : decode cX7_blockFor 35 = .ok (.invokevirtual 195, 3) := by decide +kernel
theorem dX7_blockFor_38 : decode cX7_blockFor 38 = .ok (.ifCond .eq 7, 3) := by decide +kernel
theorem dX7_blockFor_41 : decode cX7_blockFor 41 = .ok (.iload_n 3, 1) := by decide +kernel
theorem dX7_blockFor_42 : decode cX7_blockFor 42 = .ok (.iconst 1, 1) := by decide +kernel
theorem dX7_blockFor_43 : decode cX7_blockFor 43 = .ok (.iadd, 1) := by decide +kernel
theorem dX7_blockFor_44 : decode cX7_blockFor 44 = .ok (.ireturn, 1) := by decide +kernel
theorem dX7_blockFor_45 : decode cX7_blockFor 45 = .ok (.iconst 0, 1) := by decide +kernel
theorem dX7_blockFor_46 : decode cX7_blockFor 46 = .ok (.istore 4, 2) := by decide +kernel
theorem dX7_blockFor_48 : decode cX7_blockFor 48 = .ok (.iload 4, 2) := by decide +kernel
theorem dX7_blockFor_50 : decode cX7_blockFor 50 = .ok (.bipush 64, 2) := by decide +kernel
theorem dX7_blockFor_52 : decode cX7_blockFor 52 = .ok (.if_icmp .ge 35, 3) := by decide +kernel
theorem dX7_blockFor_55 : decode cX7_blockFor 55 = .ok (.bipush 16, 2) := by decide +kernel
theorem dX7_blockFor_57 : decode cX7_blockFor 57 = .ok (.iload_n 1, 1) := by decide +kernel
theorem dX7_blockFor_58 : decode cX7_blockFor 58 = .ok (.iconst 4, 1) := by decide +kernel
theorem dX7_blockFor_59 : decode cX7_blockFor 59 = .ok (.irem, 1) := by decide +kernel
theorem dX7_blockFor_60 : decode cX7_blockFor 60 = .ok (.imul, 1) := by decide +kernel
theorem dX7_blockFor_61 : decode cX7_blockFor 61 = .ok (.iload 4, 2) := by decide +kernel
theorem dX7_blockFor_63 : decode cX7_blockFor 63 = .ok (.iadd, 1) := by decide +kernel
theorem dX7_blockFor_64 : decode cX7_blockFor 64 = .ok (.bipush 64, 2) := by decide +kernel
theorem dX7_blockFor_66 : decode cX7_blockFor 66 = .ok (.irem, 1) := by decide +kernel
theorem dX7_blockFor_67 : decode cX7_blockFor 67 = .ok (.istore 5, 2) := by decide +kernel
theorem dX7_blockFor_69 : decode cX7_blockFor 69 = .ok (.aload_n 0, 1) := by decide +kernel
theorem dX7_blockFor_70 : decode cX7_blockFor 70 = .ok (.iload 5, 2) := by decide +kernel
theorem dX7_blockFor_72 : decode cX7_blockFor 72 = .ok (.invokevirtual 195, 3) := by decide +kernel
theorem dX7_blockFor_75 : decode cX7_blockFor 75 = .ok (.ifCond .eq 6, 3) := by decide +kernel
theorem dX7_blockFor_78 : decode cX7_blockFor 78 = .ok (.iload 5, 2) := by decide +kernel
theorem dX7_blockFor_80 : decode cX7_blockFor 80 = .ok (.ireturn, 1) := by decide +kernel
theorem dX7_blockFor_81 : decode cX7_blockFor 81 = .ok (.iinc 4 1, 3) := by decide +kernel
theorem dX7_blockFor_84 : decode cX7_blockFor 84 = .ok (.goto (-36), 3) := by decide +kernel
theorem dX7_blockFor_87 : decode cX7_blockFor 87 = .ok (.iconst (-1), 1) := by decide +kernel
theorem dX7_blockFor_88 : decode cX7_blockFor 88 = .ok (.ireturn, 1) := by decide +kernel
def f_X7_blockFor (u0 : S1) (p1 : Int32) (p2 : Int32) : Option (Int32) := jn (fun (v16_1_0 : Int32) => jn (qj1 (fun (r48_3 : Int32 → Option (Int32)) (y48_3_4 : Int32) => if 64 ≤ y48_3_4 then some (-1) else bn (f_X7_frees u0 (((16 * (p1 - p1 / 4 * 4)) + y48_3_4) - ((16 * (p1 - p1 / 4 * 4)) + y48_3_4) / 64 * 64)) (fun z_5 => if z_5 = 0 then r48_3 (y48_3_4 + 1) else some (((16 * (p1 - p1 / 4 * 4)) + y48_3_4) - ((16 * (p1 - p1 / 4 * 4)) + y48_3_4) / 64 * 64))) (fun k48_3 => k48_3 0)) (fun k45_2 => if v16_1_0 = (-1) then k45_2 else if 15 ≤ (v16_1_0 - v16_1_0 / 16 * 16) then k45_2 else bn (f_X7_frees u0 (v16_1_0 + 1)) (fun z_9 => if z_9 = 0 then k45_2 else some (v16_1_0 + 1)))) (fun k16_1 => if p2 = 0 then k16_1 (-1) else bn (f_X7_blockOf u0 p1 (p2 - 1)) (fun z_12 => k16_1 z_12))
def rmX7_blockFor : Room := { frames := 3, cells := 0, slots := 0, locals := 68 }
set_option maxHeartbeats 4000000 in
set_option maxRecDepth 100000 in
theorem c_X7_blockFor (l : Launch) (D : va_G) (cI cZ cJ cT : ClassId) (a0 : Nat → Nat) (u0 : S1) (p1 : Int32) (p2 : Int32) (o : Int32) (hf : f_X7_blockFor u0 p1 p2 = some o) : Met l yX7_blockFor wsX7_blockFor rmX7_blockFor (va_Pc [.ref (a0 0), .int p1, .int p2] (PR D cls (tys cI cZ cJ cT) ((wX7 cI cZ a0 u0)))) (QR o) 0 0 (fun _ => False) := by
  refine Met.ofW (cc := cX7_blockFor) (maxL := 6) (ret := (some .int)) (by decide) rfl ?_
  intro p e s m args below meth c s₁ B hml hv
  obtain ⟨hav, hP, hK⟩ := hv
  have hx := B.exec
  have hb := B.bytes
  have hr := B.returns
  have hlocks := B.notSynchronized
  have hts := atoms_spec (ws := wsX7_blockFor) B.pre
  have hown : s.vm.findClass RX7 = some m.cls := findClass_of_methodNamed B.named
  refine Wq (fun Q hQ => ?_)
  refine W_entry hav (Nat.le_of_ble_eq_true rfl) (fun ls hl => ?_)
  have hl : lv_has ls 6 [(0, .ref (a0 0)), (1, .int p1), (2, .int p2)] := hl
  unfold f_X7_blockFor at hf
  refine lv_iload_n hx hb dX7_blockFor_0 rfl (lv_at hl 2 rfl) ?_
  obtain ⟨k16_1, hk16_1, hf⟩ := jn_some hf
  have j16_1 : ∀ (v16_1_0 : Int32) (ls : Array Slot), k16_1 v16_1_0 = some o → lv_has ls 6 [(0, .ref (a0 0)), (1, .int p1)] → W p l e (headSpec wsX7_blockFor rmX7_blockFor).room s m args below meth c s.heap [] 0 0 Q (F0 m 16 ls [.int v16_1_0]) := by
    intro v16_1_0 ls hf hl
    have hf := qa1 hk16_1 hf
    refine lv_istore_n (lv' := [(3, .int v16_1_0), (0, .ref (a0 0)), (1, .int p1)]) hx hb dX7_blockFor_16 rfl hl (by decide) rfl (fun ls hl => ?_)
    refine lv_iload_n hx hb dX7_blockFor_17 rfl (lv_at hl 0 rfl) ?_
    refine lv_iconst (v := (-1)) hx hb dX7_blockFor_18 (by decide) ?_
    obtain ⟨k45_2, hk45_2, hf⟩ := jn_some hf
    have j45_2 : ∀ (ls : Array Slot), k45_2 = some o → lv_has ls 6 [(0, .ref (a0 0)), (1, .int p1)] → W p l e (headSpec wsX7_blockFor rmX7_blockFor).room s m args below meth c s.heap [] 0 0 Q (F0 m 45 ls []) := by
      intro ls hf hl
      have hf := qa0 hk45_2 hf
      refine lv_iconst (v := 0) hx hb dX7_blockFor_45 (by decide) ?_
      refine lv_istore (lv' := [(4, .int 0), (0, .ref (a0 0)), (1, .int p1)]) hx hb dX7_blockFor_46 hl (by decide) rfl (fun ls hl => ?_)
      obtain ⟨G48_3, hG48_3, hf⟩ := qj1_some hf
      have j48_3 : ∀ (n : Nat) (y48_3_4 : Int32) (ls : Array Slot), ql1 G48_3 n y48_3_4 = some o → lv_has ls 6 [(0, .ref (a0 0)), (1, .int p1), (4, .int y48_3_4)] → W p l e (headSpec wsX7_blockFor rmX7_blockFor).room s m args below meth c s.heap [] 0 0 Q (F0 m 48 ls []) := by
        intro n
        induction n with
        | zero => intro y48_3_4 ls hf hl; exact (ql1_z hf).elim
        | succ n ih48_3 =>
          intro y48_3_4 ls hf hl
          have hf := ql1_s hG48_3 hf
          obtain ⟨r48_3, hr48_3⟩ : ∃ z, z = ql1 G48_3 n := ⟨_, rfl⟩
          rw [← hr48_3] at hf ih48_3
          refine lv_iload hx hb dX7_blockFor_48 (lv_at hl 2 rfl) ?_
          refine lv_bipush (v := 64) hx hb dX7_blockFor_50 (by decide) ?_
          refine lv_icmp_ge (tgt := 87) hx hb dX7_blockFor_52 (by decide) (fun c_4 => ?_) (fun c_4 => ?_)
          · have hf := ite_t hf c_4
            refine lv_iconst (v := (-1)) hx hb dX7_blockFor_87 (by decide) ?_
            rw [hQ]
            exact W.iret hx hb hr (fun t ht hW => ⟨_, rfl, Option.some.inj hf, ht⟩) (fun _ h => nomatch h) dX7_blockFor_88 hlocks
          · have hf := ite_f hf c_4
            refine lv_bipush (v := 16) hx hb dX7_blockFor_55 (by decide) ?_
            refine lv_iload_n hx hb dX7_blockFor_57 rfl (lv_at hl 1 rfl) ?_
            refine lv_iconst (v := 4) hx hb dX7_blockFor_58 (by decide) ?_
            refine lv_irem hx hb dX7_blockFor_59 (by decide) ?_
            refine lv_imul hx hb dX7_blockFor_60 ?_
            refine lv_iload hx hb dX7_blockFor_61 (lv_at hl 2 rfl) ?_
            refine lv_iadd hx hb dX7_blockFor_63 ?_
            refine lv_bipush (v := 64) hx hb dX7_blockFor_64 (by decide) ?_
            refine lv_irem hx hb dX7_blockFor_66 (by decide) ?_
            refine lv_istore (lv' := [(5, .int (((16 * (p1 - p1 / 4 * 4)) + y48_3_4) - ((16 * (p1 - p1 / 4 * 4)) + y48_3_4) / 64 * 64)), (0, .ref (a0 0)), (1, .int p1), (4, .int y48_3_4)]) hx hb dX7_blockFor_67 hl (by decide) rfl (fun ls hl => ?_)
            refine lv_aload_n hx hb dX7_blockFor_69 rfl (lv_at hl 1 rfl) ?_
            refine lv_iload hx hb dX7_blockFor_70 (lv_at hl 0 rfl) ?_
            obtain ⟨z_5, hz_5, hf⟩ := bn_some hf
            refine cRV (As := [.int (((16 * (p1 - p1 / 4 * 4)) + y48_3_4) - ((16 * (p1 - p1 / 4 * 4)) + y48_3_4) / 64 * 64)]) (rest := []) ⟨hx, hb, hml, hown, hts⟩ (c_X7_frees l D cI cZ cJ cT a0 u0 (((16 * (p1 - p1 / 4 * 4)) + y48_3_4) - ((16 * (p1 - p1 / 4 * 4)) + y48_3_4) / 64 * 64) z_5 hz_5) (cwV 1 hts gX7_blockFor_X7_frees rfl rfl rfl (by decide +kernel) ⟨Nat.le_of_ble_eq_true rfl, Nat.le_of_ble_eq_true rfl⟩) hP hK (va_recv hK hP (ci := 7) (q0 := 0) rfl rfl) rfl rfl hl.1 (Nat.le_of_ble_eq_true rfl) dX7_blockFor_72 ⟨Nat.le_of_ble_eq_true rfl, Nat.le_of_ble_eq_true rfl⟩ ?_
            refine lv_if_eq (tgt := 81) hx hb dX7_blockFor_75 (by decide) (fun c_6 => ?_) (fun c_6 => ?_)
            · have hf := ite_t hf c_6
              refine lv_iinc (v := y48_3_4 + 1) (lv' := [(4, .int (y48_3_4 + 1)), (5, .int (((16 * (p1 - p1 / 4 * 4)) + y48_3_4) - ((16 * (p1 - p1 / 4 * 4)) + y48_3_4) / 64 * 64)), (0, .ref (a0 0)), (1, .int p1)]) hx hb dX7_blockFor_81 hl (k := 3) rfl rfl (by decide) rfl (fun ls hl => ?_)
              refine lv_goto (tgt := 48) hx hb dX7_blockFor_84 (by decide) ?_
              exact ih48_3 _ _ hf (lv_sub hl [2, 3, 0] rfl)
            · have hf := ite_f hf c_6
              refine lv_iload hx hb dX7_blockFor_78 (lv_at hl 0 rfl) ?_
              rw [hQ]
              exact W.iret hx hb hr (fun t ht hW => ⟨_, rfl, Option.some.inj hf, ht⟩) (fun _ h => nomatch h) dX7_blockFor_80 hlocks
      exact j48_3 4096 _ _ hf (lv_sub hl [1, 2, 0] rfl)
    refine lv_icmp_eq (tgt := 45) hx hb dX7_blockFor_19 (by decide) (fun c_7 => ?_) (fun c_7 => ?_)
    · have hf := ite_t hf c_7
      exact j45_2 _ hf (lv_sub hl [1, 2] rfl)
    · have hf := ite_f hf c_7
      refine lv_iload_n hx hb dX7_blockFor_22 rfl (lv_at hl 0 rfl) ?_
      refine lv_bipush (v := 16) hx hb dX7_blockFor_23 (by decide) ?_
      refine lv_irem hx hb dX7_blockFor_25 (by decide) ?_
      refine lv_bipush (v := 15) hx hb dX7_blockFor_26 (by decide) ?_
      refine lv_icmp_ge (tgt := 45) hx hb dX7_blockFor_28 (by decide) (fun c_8 => ?_) (fun c_8 => ?_)
      · have hf := ite_t hf c_8
        exact j45_2 _ hf (lv_sub hl [1, 2] rfl)
      · have hf := ite_f hf c_8
        refine lv_aload_n hx hb dX7_blockFor_31 rfl (lv_at hl 1 rfl) ?_
        refine lv_iload_n hx hb dX7_blockFor_32 rfl (lv_at hl 0 rfl) ?_
        refine lv_iconst (v := 1) hx hb dX7_blockFor_33 (by decide) ?_
        refine lv_iadd hx hb dX7_blockFor_34 ?_
        obtain ⟨z_9, hz_9, hf⟩ := bn_some hf
        refine cRV (As := [.int (v16_1_0 + 1)]) (rest := []) ⟨hx, hb, hml, hown, hts⟩ (c_X7_frees l D cI cZ cJ cT a0 u0 (v16_1_0 + 1) z_9 hz_9) (cwV 1 hts gX7_blockFor_X7_frees rfl rfl rfl (by decide +kernel) ⟨Nat.le_of_ble_eq_true rfl, Nat.le_of_ble_eq_true rfl⟩) hP hK (va_recv hK hP (ci := 7) (q0 := 0) rfl rfl) rfl rfl hl.1 (Nat.le_of_ble_eq_true rfl) dX7_blockFor_35 ⟨Nat.le_of_ble_eq_true rfl, Nat.le_of_ble_eq_true rfl⟩ ?_
        refine lv_if_eq (tgt := 45) hx hb dX7_blockFor_38 (by decide) (fun c_10 => ?_) (fun c_10 => ?_)
        · have hf := ite_t hf c_10
          exact j45_2 _ hf (lv_sub hl [1, 2] rfl)
        · have hf := ite_f hf c_10
          refine lv_iload_n hx hb dX7_blockFor_41 rfl (lv_at hl 0 rfl) ?_
          refine lv_iconst (v := 1) hx hb dX7_blockFor_42 (by decide) ?_
          refine lv_iadd hx hb dX7_blockFor_43 ?_
          rw [hQ]
          exact W.iret hx hb hr (fun t ht hW => ⟨_, rfl, Option.some.inj hf, ht⟩) (fun _ h => nomatch h) dX7_blockFor_44 hlocks
  refine lv_if_ne (tgt := 8) hx hb dX7_blockFor_1 (by decide) (fun c_11 => ?_) (fun c_11 => ?_)
  · have hf := ite_f hf c_11
    refine lv_aload_n hx hb dX7_blockFor_8 rfl (lv_at hl 0 rfl) ?_
    refine lv_iload_n hx hb dX7_blockFor_9 rfl (lv_at hl 1 rfl) ?_
    refine lv_iload_n hx hb dX7_blockFor_10 rfl (lv_at hl 2 rfl) ?_
    refine lv_iconst (v := 1) hx hb dX7_blockFor_11 (by decide) ?_
    refine lv_isub hx hb dX7_blockFor_12 ?_
    obtain ⟨z_12, hz_12, hf⟩ := bn_some hf
    refine cRV (As := [.int p1, .int (p2 - 1)]) (rest := []) ⟨hx, hb, hml, hown, hts⟩ (c_X7_blockOf l D cI cZ cJ cT a0 u0 p1 (p2 - 1) z_12 hz_12) (cwV 2 hts gX7_blockFor_X7_blockOf rfl rfl rfl (by decide +kernel) ⟨Nat.le_of_ble_eq_true rfl, Nat.le_of_ble_eq_true rfl⟩) hP hK (va_recv hK hP (ci := 7) (q0 := 0) rfl rfl) rfl rfl hl.1 (Nat.le_of_ble_eq_true rfl) dX7_blockFor_13 ⟨Nat.le_of_ble_eq_true rfl, Nat.le_of_ble_eq_true rfl⟩ ?_
    exact j16_1 _ _ hf (lv_sub hl [0, 1] rfl)
  · have hf := ite_t hf c_11
    refine lv_iconst (v := (-1)) hx hb dX7_blockFor_4 (by decide) ?_
    refine lv_goto (tgt := 16) hx hb dX7_blockFor_5 (by decide) ?_
    exact j16_1 _ _ hf (lv_sub hl [0, 1] rfl)
set_option maxRecDepth 20000 in
theorem ggX7_isShort_X7_at : GoodIn wsX7_isShort wsX7_at := goodIn_r _ [6] (by decide +kernel) (by decide +kernel)
set_option maxRecDepth 20000 in
theorem gX7_isShort_X7_at : GoodIn wsX7_isShort (va_wsS RX7 67 yX7_at wsX7_at) := goodIn_app (goodIn_of _ (by decide +kernel)) ggX7_isShort_X7_at
set_option maxRecDepth 20000 in
theorem ggX7_isShort_X7_blocksOf : GoodIn wsX7_isShort wsX7_blocksOf := goodIn_r _ [10, 1, 3, 4, 5, 6, 11, 12, 13, 14, 15, 16, 17, 18, 19, 20, 21, 22, 23, 24, 25, 26, 27, 28, 29, 30, 31, 32, 33, 34, 35, 36, 37] (by decide +kernel) (by decide +kernel)
set_option maxRecDepth 20000 in
theorem gX7_isShort_X7_blocksOf : GoodIn wsX7_isShort (wsV RX7 198 RX7 yX7_blocksOf wsX7_blocksOf) := goodIn_app (goodIn_of _ (by decide +kernel)) ggX7_isShort_X7_blocksOf
theorem dX7_isShort_0 : decode cX7_isShort 0 = .ok (.aload_n 0, 1) := by decide +kernel
theorem dX7_isShort_1 : decode cX7_isShort 1 = .ok (.getfield 7, 3) := by decide +kernel
theorem dX7_isShort_4 : decode cX7_isShort 4 = .ok (.iconst 0, 1) := by decide +kernel
theorem dX7_isShort_5 : decode cX7_isShort 5 = .ok (.iload_n 1, 1) := by decide +kernel
theorem dX7_isShort_6 : decode cX7_isShort 6 = .ok (.invokestatic 67, 3) := by decide +kernel
theorem dX7_isShort_9 : decode cX7_isShort 9 = .ok (.iconst 1, 1) := by decide +kernel
theorem dX7_isShort_10 : decode cX7_isShort 10 = .ok (.iadd, 1) := by decide +kernel
theorem dX7_isShort_11 : decode cX7_isShort 11 = .ok (.iaload, 1) := by decide +kernel
theorem dX7_isShort_12 : decode cX7_isShort 12 = .ok (.istore_n 2, 1) := by decide +kernel
theorem dX7_isShort_13 : decode cX7_isShort 13 = .ok (.aload_n 0, 1) := by decide +kernel
theorem dX7_isShort_14 : decode cX7_isShort 14 = .ok (.iload_n 2, 1) := by decide +kernel
theorem dX7_isShort_15 : decode cX7_isShort 15 = .ok (.invokevirtual 198, 3) := by decide +kernel
theorem dX7_isShort_18 : decode cX7_isShort 18 = .ok (.aload_n 0, 1) := by decide +kernel
theorem dX7_isShort_19 : decode cX7_isShort 19 = .ok (.getfield 32, 3) := by decide +kernel
theorem dX7_isShort_22 : decode cX7_isShort 22 = .ok (.iload_n 2, 1) := by decide +kernel
theorem dX7_isShort_23 : decode cX7_isShort 23 = .ok (.iaload, 1) := by decide +kernel
theorem dX7_isShort_24 : decode cX7_isShort 24 = .ok (.if_icmp .lt 7, 3) := by decide +kernel
theorem dX7_isShort_27 : decode cX7_isShort 27 = .ok (.iconst 1, 1) := by decide +kernel
theorem dX7_isShort_28 : decode cX7_isShort 28 = .ok (.goto 4, 3) := by decide +kernel
theorem dX7_isShort_31 : decode cX7_isShort 31 = .ok (.iconst 0, 1) := by decide +kernel
theorem dX7_isShort_32 : decode cX7_isShort 32 = .ok (.ireturn, 1) := by decide +kernel
def f_X7_isShort (u0 : S1) (p1 : Int32) : Option (Int32) := bn (f_X7_at 0 p1) (fun z_1 => chk (inb (z_1 + 1) 8480) (bn (f_X7_blocksOf u0 (u0 0 (z_1 + 1).toNatClampNeg)) (fun z_2 => chk (inb (u0 0 (z_1 + 1).toNatClampNeg) 4) (jn (fun (v32_3_0 : Int32) => some (vp_nar .boolean v32_3_0)) (fun k32_3 => if z_2 < (u0 8 ((u0 0 (z_1 + 1).toNatClampNeg)).toNatClampNeg) then k32_3 0 else k32_3 1)))))
def rmX7_isShort : Room := { frames := 4, cells := 0, slots := 0, locals := 89 }
set_option maxHeartbeats 4000000 in
set_option maxRecDepth 100000 in
theorem c_X7_isShort (l : Launch) (D : va_G) (cI cZ cJ cT : ClassId) (a0 : Nat → Nat) (u0 : S1) (p1 : Int32) (o : Int32) (hf : f_X7_isShort u0 p1 = some o) : Met l yX7_isShort wsX7_isShort rmX7_isShort (va_Pc [.ref (a0 0), .int p1] (PR D cls (tys cI cZ cJ cT) ((wX7 cI cZ a0 u0)))) (QR o) 0 0 (fun _ => False) := by
  refine Met.ofW (cc := cX7_isShort) (maxL := 3) (ret := (some .boolean)) (by decide) rfl ?_
  intro p e s m args below meth c s₁ B hml hv
  obtain ⟨hav, hP, hK⟩ := hv
  have hx := B.exec
  have hb := B.bytes
  have hr := B.returns
  have hlocks := B.notSynchronized
  have hts := atoms_spec (ws := wsX7_isShort) B.pre
  have hown : s.vm.findClass RX7 = some m.cls := findClass_of_methodNamed B.named
  have i7 : ∀ w ∈ wsX70, w ∈ wsX7_isShort := fun w h => List.mem_cons_of_mem _ (List.mem_append_right _ h)
  have hk7 := hts (.fieldLink RX7 7 "InoderyModel" "s" "[I") (by decide +kernel)
  have hk32 := hts (.fieldLink RX7 32 "InoderyModel" "quota" "[I") (by decide +kernel)
  refine Wq (fun Q hQ => ?_)
  refine W_entry hav (Nat.le_of_ble_eq_true rfl) (fun ls hl => ?_)
  have hl : lv_has ls 3 [(0, .ref (a0 0)), (1, .int p1)] := hl
  unfold f_X7_isShort at hf
  refine lv_aload_n hx hb dX7_isShort_0 rfl (lv_at hl 0 rfl) ?_
  refine va_get (D := D) (ci := 7) (v := .ref (a0 1)) (C := RX7) (T := TX7) (N := 19) hx hb hts i7 hown hK hP 0 rfl rfl 0 (by decide) hk7 (fun _ h9 => h9) rfl dX7_isShort_1 ?_
  refine lv_iconst (v := 0) hx hb dX7_isShort_4 (by decide) ?_
  refine lv_iload_n hx hb dX7_isShort_5 rfl (lv_at hl 1 rfl) ?_
  obtain ⟨z_1, hz_1, hf⟩ := bn_some hf
  refine c0S (As := [.int 0, .int p1]) (rest := [.ref (a0 1)]) ⟨hx, hb, hml, hown, hts⟩ (c_X7_at l D cI cZ cJ cT 0 p1 z_1 hz_1) (va_cwS 2 hts gX7_isShort_X7_at rfl rfl rfl (by decide +kernel) ⟨Nat.le_of_ble_eq_true rfl, Nat.le_of_ble_eq_true rfl⟩) rfl rfl hl.1 (Nat.le_of_ble_eq_true rfl) dX7_isShort_6 ⟨Nat.le_of_ble_eq_true rfl, Nat.le_of_ble_eq_true rfl⟩ ?_
  refine lv_iconst (v := 1) hx hb dX7_isShort_9 (by decide) ?_
  refine lv_iadd hx hb dX7_isShort_10 ?_
  obtain ⟨hi, hf⟩ := chk_some hf
  refine va_iald hx hb hK hP 1 0 rfl rfl (inb_in hi) dX7_isShort_11 ?_
  refine lv_istore_n (lv' := [(2, .int (u0 0 (z_1 + 1).toNatClampNeg)), (0, .ref (a0 0)), (1, .int p1)]) hx hb dX7_isShort_12 rfl hl (by decide) rfl (fun ls hl => ?_)
  refine lv_aload_n hx hb dX7_isShort_13 rfl (lv_at hl 1 rfl) ?_
  refine lv_iload_n hx hb dX7_isShort_14 rfl (lv_at hl 0 rfl) ?_
  obtain ⟨z_2, hz_2, hf⟩ := bn_some hf
  refine cRV (As := [.int (u0 0 (z_1 + 1).toNatClampNeg)]) (rest := []) ⟨hx, hb, hml, hown, hts⟩ (c_X7_blocksOf l D cI cZ cJ cT a0 u0 (u0 0 (z_1 + 1).toNatClampNeg) z_2 hz_2) (cwV 1 hts gX7_isShort_X7_blocksOf rfl rfl rfl (by decide +kernel) ⟨Nat.le_of_ble_eq_true rfl, Nat.le_of_ble_eq_true rfl⟩) hP hK (va_recv hK hP (ci := 7) (q0 := 0) rfl rfl) rfl rfl hl.1 (Nat.le_of_ble_eq_true rfl) dX7_isShort_15 ⟨Nat.le_of_ble_eq_true rfl, Nat.le_of_ble_eq_true rfl⟩ ?_
  refine lv_aload_n hx hb dX7_isShort_18 rfl (lv_at hl 1 rfl) ?_
  refine va_get (D := D) (ci := 7) (v := .ref (a0 9)) (C := RX7) (T := TX7) (N := 19) hx hb hts i7 hown hK hP 0 rfl rfl 8 (by decide) hk32 (fun _ h9 => h9) rfl dX7_isShort_19 ?_
  refine lv_iload_n hx hb dX7_isShort_22 rfl (lv_at hl 0 rfl) ?_
  obtain ⟨hi, hf⟩ := chk_some hf
  refine va_iald hx hb hK hP 8 0 rfl rfl (inb_in hi) dX7_isShort_23 ?_
  obtain ⟨k32_3, hk32_3, hf⟩ := jn_some hf
  have j32_3 : ∀ (v32_3_0 : Int32) (ls : Array Slot), k32_3 v32_3_0 = some o → lv_has ls 3 [] → W p l e (headSpec wsX7_isShort rmX7_isShort).room s m args below meth c s.heap [] 0 0 Q (F0 m 32 ls [.int v32_3_0]) := by
    intro v32_3_0 ls hf hl
    have hf := qa1 hk32_3 hf
    rw [hQ]
    exact zretN (v := v32_3_0) (v' := vp_nar .boolean v32_3_0) hx hb hr rfl (fun t ht hW => ⟨_, rfl, Option.some.inj hf, ht⟩) (fun _ h => nomatch h) dX7_isShort_32 hlocks
  refine lv_icmp_lt (tgt := 31) hx hb dX7_isShort_24 (by decide) (fun c_4 => ?_) (fun c_4 => ?_)
  · have hf := ite_t hf c_4
    refine lv_iconst (v := 0) hx hb dX7_isShort_31 (by decide) ?_
    exact j32_3 _ _ hf (lv_sub hl [] rfl)
  · have hf := ite_f hf c_4
    refine lv_iconst (v := 1) hx hb dX7_isShort_27 (by decide) ?_
    refine lv_goto (tgt := 32) hx hb dX7_isShort_28 (by decide) ?_
    exact j32_3 _ _ hf (lv_sub hl [] rfl)
set_option maxRecDepth 20000 in
theorem ggX7_write_X7_at : GoodIn wsX7_write wsX7_at := goodIn_r _ [25] (by decide +kernel) (by decide +kernel)
set_option maxRecDepth 20000 in
theorem gX7_write_X7_at : GoodIn wsX7_write (va_wsS RX7 67 yX7_at wsX7_at) := goodIn_app (goodIn_of _ (by decide +kernel)) ggX7_write_X7_at
set_option maxRecDepth 20000 in
theorem ggX7_write_X7_blockFor : GoodIn wsX7_write wsX7_blockFor := goodIn_r _ [42, 19, 20, 21, 10, 22, 4, 23, 24, 25, 43, 44, 45, 46, 47, 48, 49, 50, 51, 61, 62, 63, 64, 65, 66, 67, 68, 69, 70, 71, 72, 73, 74, 75, 76, 77, 78, 79] (by decide +kernel) (by decide +kernel)
set_option maxRecDepth 20000 in
theorem gX7_write_X7_blockFor : GoodIn wsX7_write (wsV RX7 207 RX7 yX7_blockFor wsX7_blockFor) := goodIn_app (goodIn_of _ (by decide +kernel)) ggX7_write_X7_blockFor
set_option maxRecDepth 20000 in
theorem ggX7_write_X7_blockOf : GoodIn wsX7_write wsX7_blockOf := goodIn_r _ [22, 4, 23, 24, 10, 25, 61, 62, 63, 64, 65, 66, 67, 68, 69, 70, 71, 72, 73, 74, 75, 76, 77, 78, 79] (by decide +kernel) (by decide +kernel)
set_option maxRecDepth 20000 in
theorem gX7_write_X7_blockOf : GoodIn wsX7_write (wsV RX7 82 RX7 yX7_blockOf wsX7_blockOf) := goodIn_app (goodIn_of _ (by decide +kernel)) ggX7_write_X7_blockOf
set_option maxRecDepth 20000 in
theorem ggX7_write_X7_can : GoodIn wsX7_write wsX7_can := goodIn_r _ [59, 60, 61, 62, 63, 64, 65, 66, 67, 68, 69, 70, 71, 72, 73, 74, 75, 76, 77, 78, 79] (by decide +kernel) (by decide +kernel)
set_option maxRecDepth 20000 in
theorem gX7_write_X7_can : GoodIn wsX7_write (wsV RX7 140 RX7 yX7_can wsX7_can) := goodIn_app (goodIn_of _ (by decide +kernel)) ggX7_write_X7_can
set_option maxRecDepth 20000 in
theorem ggX7_write_X7_isHandle : GoodIn wsX7_write wsX7_isHandle := goodIn_r _ [11, 12, 13, 14, 10, 15, 61, 62, 63, 64, 65, 66, 67, 68, 69, 70, 71, 72, 73, 74, 75, 76, 77, 78, 79] (by decide +kernel) (by decide +kernel)
set_option maxRecDepth 20000 in
theorem gX7_write_X7_isHandle : GoodIn wsX7_write (wsV RX7 186 RX7 yX7_isHandle wsX7_isHandle) := goodIn_app (goodIn_of _ (by decide +kernel)) ggX7_write_X7_isHandle
set_option maxRecDepth 20000 in
theorem ggX7_write_X7_isIn : GoodIn wsX7_write wsX7_isIn := goodIn_r _ [15] (by decide +kernel) (by decide +kernel)
set_option maxRecDepth 20000 in
theorem gX7_write_X7_isIn : GoodIn wsX7_write (va_wsS RX7 62 yX7_isIn wsX7_isIn) := goodIn_app (goodIn_of _ (by decide +kernel)) ggX7_write_X7_isIn
set_option maxRecDepth 20000 in
theorem ggX7_write_X7_isOld : GoodIn wsX7_write wsX7_isOld := goodIn_r _ [55, 47, 48, 49, 10, 50, 51, 4, 23, 24, 25, 61, 62, 63, 64, 65, 66, 67, 68, 69, 70, 71, 72, 73, 74, 75, 76, 77, 78, 79] (by decide +kernel) (by decide +kernel)
set_option maxRecDepth 20000 in
theorem gX7_write_X7_isOld : GoodIn wsX7_write (wsV RX7 210 RX7 yX7_isOld wsX7_isOld) := goodIn_app (goodIn_of _ (by decide +kernel)) ggX7_write_X7_isOld
set_option maxRecDepth 20000 in
theorem ggX7_write_X7_isPage : GoodIn wsX7_write wsX7_isPage := goodIn_r _ [18, 13, 14, 10, 15] (by decide +kernel) (by decide +kernel)
set_option maxRecDepth 20000 in
theorem gX7_write_X7_isPage : GoodIn wsX7_write (va_wsS RX7 201 yX7_isPage wsX7_isPage) := goodIn_app (goodIn_of _ (by decide +kernel)) ggX7_write_X7_isPage
set_option maxRecDepth 20000 in
theorem ggX7_write_X7_isShort : GoodIn wsX7_write wsX7_isShort := goodIn_r _ [29, 4, 30, 23, 24, 10, 25, 31, 32, 33, 34, 35, 36, 37, 38, 19, 20, 21, 22, 61, 62, 63, 64, 65, 66, 67, 68, 69, 70, 71, 72, 73, 74, 75, 76, 77, 78, 79] (by decide +kernel) (by decide +kernel)
set_option maxRecDepth 20000 in
theorem gX7_write_X7_isShort : GoodIn wsX7_write (wsV RX7 204 RX7 yX7_isShort wsX7_isShort) := goodIn_app (goodIn_of _ (by decide +kernel)) ggX7_write_X7_isShort
theorem dX7_write_0 : decode cX7_write 0 = .ok (.aload_n 0, 1) := by decide +kernel
theorem dX7_write_1 : decode cX7_write 1 = .ok (.iload_n 1, 1) := by decide +kernel
theorem dX7_write_2 : decode cX7_write 2 = .ok (.invokevirtual 186, 3) := by decide +kernel
theorem dX7_write_5 : decode cX7_write 5 = .ok (.ifCond .eq 14, 3) := by decide +kernel
theorem dX7_write_8 : decode cX7_write 8 = .ok (.iload_n 2, 1) := by decide +kernel
theorem dX7_write_9 : decode cX7_write 9 = .ok (.invokestatic 201, 3) := by decide +kernel
theorem dX7_write_12 : decode cX7_write 12 = .ok (.ifCond .eq 7, 3) := by decide +kernel
theorem dX7_write_15 : decode cX7_write 15 = .ok (.iconst 1, 1) := by decide +kernel
theorem dX7_write_16 : decode cX7_write 16 = .ok (.goto 4, 3) := by decide +kernel
theorem dX7_write_19 : decode cX7_write 19 = .ok (.iconst 0, 1) := by decide +kernel
theorem dX7_write_20 : decode cX7_write 20 = .ok (.istore 4, 2) := by decide +kernel
theorem dX7_write_22 : decode cX7_write 22 = .ok (.iload_n 3, 1) := by decide +kernel
theorem dX7_write_23 : decode cX7_write 23 = .ok (.iconst 0, 1) := by decide +kernel
theorem dX7_write_24 : decode cX7_write 24 = .ok (.sipush 255, 3) := by decide +kernel
theorem dX7_write_27 : decode cX7_write 27 = .ok (.invokestatic 62, 3) := by decide +kernel
theorem dX7_write_30 : decode cX7_write 30 = .ok (.istore 5, 2) := by decide +kernel
theorem dX7_write_32 : decode cX7_write 32 = .ok (.iload 4, 2) := by decide +kernel
theorem dX7_write_34 : decode cX7_write 34 = .ok (.ifCond .eq 25, 3) := by decide +kernel
theorem dX7_write_37 : decode cX7_write 37 = .ok (.aload_n 0, 1) := by decide +kernel
theorem dX7_write_38 : decode cX7_write 38 = .ok (.getfield 41, 3) := by decide +kernel
theorem dX7_write_41 : decode cX7_write 41 = .ok (.iload_n 1, 1) := by decide +kernel
theorem dX7_write_42 : decode cX7_write 42 = .ok (.baload, 1) := by decide +kernel
theorem dX7_write_43 : decode cX7_write 43 = .ok (.ifCond .eq 16, 3) := by decide +kernel
theorem dX7_write_46 : decode cX7_write 46 = .ok (.aload_n 0, 1) := by decide +kernel
theorem dX7_write_47 : decode cX7_write 47 = .ok (.getfield 38, 3) := by decide +kernel
theorem dX7_write_50 : decode cX7_write 50 = .ok (.iload_n 1, 1) := by decide +kernel
theorem dX7_write_51 : decode cX7_write 51 = .ok (.baload, 1) := by decide +kernel
theorem dX7_write_52 : decode cX7_write 52 = .ok (.ifCond .eq 7, 3) := by decide +kernel
theorem dX7_write_55 : decode cX7_write 55 = .ok (.iconst 1, 1) := by decide +kernel
theorem dX7_write_56 : decode cX7_write 56 = .ok (.goto 4, 3) := by decide +kernel
theorem dX7_write_59 : decode cX7_write 59 = .ok (.iconst 0, 1) := by decide +kernel
theorem dX7_write_60 : decode cX7_write 60 = .ok (.istore 6, 2) := by decide +kernel
theorem dX7_write_62 : decode cX7_write 62 = .ok (.iload 4, 2) := by decide +kernel
theorem dX7_write_64 : decode cX7_write 64 = .ok (.ifCond .eq 12, 3) := by decide +kernel
theorem dX7_write_67 : decode cX7_write 67 = .ok (.aload_n 0, 1) := by decide +kernel
theorem dX7_write_68 : decode cX7_write 68 = .ok (.getfield 35, 3) := by decide +kernel
theorem dX7_write_71 : decode cX7_write 71 = .ok (.iload_n 1, 1) := by decide +kernel
theorem dX7_write_72 : decode cX7_write 72 = .ok (.iaload, 1) := by decide +kernel
theorem dX7_write_73 : decode cX7_write 73 = .ok (.goto 4, 3) := by decide +kernel
theorem dX7_write_76 : decode cX7_write 76 = .ok (.iconst 0, 1) := by decide +kernel
theorem dX7_write_77 : decode cX7_write 77 = .ok (.istore 7, 2) := by decide +kernel
theorem dX7_write_79 : decode cX7_write 79 = .ok (.iload 6, 2) := by decide +kernel
theorem dX7_write_81 : decode cX7_write 81 = .ok (.ifCond .eq 13, 3) := by decide +kernel
theorem dX7_write_84 : decode cX7_write 84 = .ok (.aload_n 0, 1) := by decide +kernel
theorem dX7_write_85 : decode cX7_write 85 = .ok (.iload 7, 2) := by decide +kernel
theorem dX7_write_87 : decode cX7_write 87 = .ok (.iload_n 2, 1) := by decide +kernel
theorem dX7_write_88 : decode cX7_write 88 = .ok (.invokevirtual 82, 3) := by decide +kernel
theorem dX7_write_91 : decode cX7_write 91 = .ok (.goto 4, 3) := by decide +kernel
theorem dX7_write_94 : decode cX7_write 94 = .ok (.iconst (-1), 1) := by decide +kernel
theorem dX7_write_95 : decode cX7_write 95 = .ok (.istore 8, 2) := by decide +kernel
theorem dX7_write_97 : decode cX7_write 97 = .ok (.iload 6, 2) := by decide +kernel
theorem dX7_write_99 : decode cX7_write 99 = .ok (.ifCond .eq 39, 3) := by decide +kernel
theorem dX7_write_102 : decode cX7_write 102 = .ok (.iload 5, 2) := by decide +kernel
theorem dX7_write_104 : decode cX7_write 104 = .ok (.ifCond .eq 34, 3) := by decide +kernel
theorem dX7_write_107 : decode cX7_write 107 = .ok (.iload 8, 2) := by decide +kernel
theorem dX7_write_109 : decode cX7_write 109 = .ok (.iconst (-1), 1) := by decide +kernel
theorem dX7_write_110 : decode cX7_write 110 = .ok (.if_icmp .ne 28, 3) := by decide +kernel
theorem dX7_write_113 : decode cX7_write 113 = .ok (.aload_n 0, 1) := by decide +kernel
theorem dX7_write_114 : decode cX7_write 114 = .ok (.iload 7, 2) := by decide +kernel
theorem dX7_write_116 : decode cX7_write 116 = .ok (.invokevirtual 204, 3) := by decide +kernel
theorem dX7_write_119 : decode cX7_write 119 = .ok (.ifCond .eq 7, 3) := by decide +kernel
theorem dX7_write_122 : decode cX7_write 122 = .ok (.iconst (-1), 1) := by decide +kernel
theorem dX7_write_123 : decode cX7_write 123 = .ok (.goto 10, 3) := by decide +kernel
theorem dX7_write_126 : decode cX7_write 126 = .ok (.aload_n 0, 1) := by decide +kernel
theorem dX7_write_127 : decode cX7_write 127 = .ok (.iload 7, 2) := by decide +kernel
theorem dX7_write_129 : decode cX7_write 129 = .ok (.iload_n 2, 1) := by decide +kernel
theorem dX7_write_130 : decode cX7_write 130 = .ok (.invokevirtual 207, 3) := by decide +kernel
theorem dX7_write_133 : decode cX7_write 133 = .ok (.istore 8, 2) := by decide +kernel
theorem dX7_write_135 : decode cX7_write 135 = .ok (.goto 31, 3) := by decide +kernel
theorem dX7_write_138 : decode cX7_write 138 = .ok (.iload 6, 2) := by decide +kernel
theorem dX7_write_140 : decode cX7_write 140 = .ok (.ifCond .eq 26, 3) := by decide +kernel
theorem dX7_write_143 : decode cX7_write 143 = .ok (.iload 5, 2) := by decide +kernel
theorem dX7_write_145 : decode cX7_write 145 = .ok (.ifCond .eq 21, 3) := by decide +kernel
theorem dX7_write_148 : decode cX7_write 148 = .ok (.aload_n 0, 1) := by decide +kernel
theorem dX7_write_149 : decode cX7_write 149 = .ok (.iload 8, 2) := by decide +kernel
theorem dX7_write_151 : decode cX7_write 151 = .ok (.invokevirtual 210, 3) := by decide +kernel
theorem dX7_write_154 : decode cX7_write 154 = .ok (.ifCond .eq 12, 3) := by decide +kernel
theorem dX7_write_157 : decode cX7_write 157 = .ok (.aload_n 0, 1) := by decide +kernel
theorem dX7_write_158 : decode cX7_write 158 = .ok (.iload 7, 2) := by decide +kernel
theorem dX7_write_160 : decode cX7_write 160 = .ok (.iload_n 2, 1) := by decide +kernel
theorem dX7_write_161 : decode cX7_write 161 = .ok (.invokevirtual 207, 3) := by decide +kernel
theorem dX7_write_164 : decode cX7_write 164 = .ok (.istore 8, 2) := by decide +kernel
theorem dX7_write_166 : decode cX7_write 166 = .ok (.aload_n 0, 1) := by decide +kernel
theorem dX7_write_167 : decode cX7_write 167 = .ok (.iload 4, 2) := by decide +kernel
theorem dX7_write_169 : decode cX7_write 169 = .ok (.ifCond .ne 7, 3) := by decide +kernel
theorem dX7_write_172 : decode cX7_write 172 = .ok (.iconst 1, 1) := by decide +kernel
theorem dX7_write_173 : decode cX7_write 173 = .ok (.goto 28, 3) := by decide +kernel
theorem dX7_write_176 : decode cX7_write 176 = .ok (.iload 5, 2) := by decide +kernel
theorem dX7_write_178 : decode cX7_write 178 = .ok (.ifCond .ne 7, 3) := by decide +kernel
theorem dX7_write_181 : decode cX7_write 181 = .ok (.iconst 2, 1) := by decide +kernel
theorem dX7_write_182 : decode cX7_write 182 = .ok (.goto 19, 3) := by decide +kernel
theorem dX7_write_185 : decode cX7_write 185 = .ok (.iload 6, 2) := by decide +kernel
theorem dX7_write_187 : decode cX7_write 187 = .ok (.ifCond .eq 9, 3) := by decide +kernel
theorem dX7_write_190 : decode cX7_write 190 = .ok (.iload 8, 2) := by decide +kernel
theorem dX7_write_192 : decode cX7_write 192 = .ok (.iconst (-1), 1) := by decide +kernel
theorem dX7_write_193 : decode cX7_write 193 = .ok (.if_icmp .ne 7, 3) := by decide +kernel
theorem dX7_write_196 : decode cX7_write 196 = .ok (.iconst 3, 1) := by decide +kernel
theorem dX7_write_197 : decode cX7_write 197 = .ok (.goto 4, 3) := by decide +kernel
theorem dX7_write_200 : decode cX7_write 200 = .ok (.iconst 0, 1) := by decide +kernel
theorem dX7_write_201 : decode cX7_write 201 = .ok (.invokevirtual 140, 3) := by decide +kernel
theorem dX7_write_204 : decode cX7_write 204 = .ok (.ifCond .ne 5, 3) := by decide +kernel
theorem dX7_write_207 : decode cX7_write 207 = .ok (.iconst 0, 1) := by decide +kernel
theorem dX7_write_208 : decode cX7_write 208 = .ok (.ireturn, 1) := by decide +kernel
theorem dX7_write_209 : decode cX7_write 209 = .ok (.aload_n 0, 1) := by decide +kernel
theorem dX7_write_210 : decode cX7_write 210 = .ok (.getfield 7, 3) := by decide +kernel
theorem dX7_write_213 : decode cX7_write 213 = .ok (.iconst 0, 1) := by decide +kernel
theorem dX7_write_214 : decode cX7_write 214 = .ok (.iload 7, 2) := by decide +kernel
theorem dX7_write_216 : decode cX7_write 216 = .ok (.invokestatic 67, 3) := by decide +kernel
theorem dX7_write_219 : decode cX7_write 219 = .ok (.bipush 21, 2) := by decide +kernel
theorem dX7_write_221 : decode cX7_write 221 = .ok (.iadd, 1) := by decide +kernel
theorem dX7_write_222 : decode cX7_write 222 = .ok (.iload_n 2, 1) := by decide +kernel
theorem dX7_write_223 : decode cX7_write 223 = .ok (.iadd, 1) := by decide +kernel
theorem dX7_write_224 : decode cX7_write 224 = .ok (.iload 8, 2) := by decide +kernel
theorem dX7_write_226 : decode cX7_write 226 = .ok (.iastore, 1) := by decide +kernel
theorem dX7_write_227 : decode cX7_write 227 = .ok (.aload_n 0, 1) := by decide +kernel
theorem dX7_write_228 : decode cX7_write 228 = .ok (.getfield 7, 3) := by decide +kernel
theorem dX7_write_231 : decode cX7_write 231 = .ok (.iconst 0, 1) := by decide +kernel
theorem dX7_write_232 : decode cX7_write 232 = .ok (.iload 7, 2) := by decide +kernel
theorem dX7_write_234 : decode cX7_write 234 = .ok (.invokestatic 67, 3) := by decide +kernel
theorem dX7_write_237 : decode cX7_write 237 = .ok (.bipush 37, 2) := by decide +kernel
theorem dX7_write_239 : decode cX7_write 239 = .ok (.iadd, 1) := by decide +kernel
theorem dX7_write_240 : decode cX7_write 240 = .ok (.iload_n 2, 1) := by decide +kernel
theorem dX7_write_241 : decode cX7_write 241 = .ok (.iadd, 1) := by decide +kernel
theorem dX7_write_242 : decode cX7_write 242 = .ok (.iconst 2, 1) := by decide +kernel
theorem dX7_write_243 : decode cX7_write 243 = .ok (.iastore, 1) := by decide +kernel
theorem dX7_write_244 : decode cX7_write 244 = .ok (.aload_n 0, 1) := by decide +kernel
theorem dX7_write_245 : decode cX7_write 245 = .ok (.getfield 23, 3) := by decide +kernel
theorem dX7_write_248 : decode cX7_write 248 = .ok (.bipush 16, 2) := by decide +kernel
theorem dX7_write_250 : decode cX7_write 250 = .ok (.iload 7, 2) := by decide +kernel
theorem dX7_write_252 : decode cX7_write 252 = .ok (.imul, 1) := by decide +kernel
theorem dX7_write_253 : decode cX7_write 253 = .ok (.iload_n 2, 1) := by decide +kernel
theorem dX7_write_254 : decode cX7_write 254 = .ok (.iadd, 1) := by decide +kernel
theorem dX7_write_255 : decode cX7_write 255 = .ok (.iconst 1, 1) := by decide +kernel
theorem dX7_write_256 : decode cX7_write 256 = .ok (.bastore, 1) := by decide +kernel
theorem dX7_write_257 : decode cX7_write 257 = .ok (.aload_n 0, 1) := by decide +kernel
theorem dX7_write_258 : decode cX7_write 258 = .ok (.getfield 26, 3) := by decide +kernel
theorem dX7_write_261 : decode cX7_write 261 = .ok (.bipush 16, 2) := by decide +kernel
theorem dX7_write_263 : decode cX7_write 263 = .ok (.iload 7, 2) := by decide +kernel
theorem dX7_write_265 : decode cX7_write 265 = .ok (.imul, 1) := by decide +kernel
theorem dX7_write_266 : decode cX7_write 266 = .ok (.iload_n 2, 1) := by decide +kernel
theorem dX7_write_267 : decode cX7_write 267 = .ok (.iadd, 1) := by decide +kernel
theorem dX7_write_268 : decode cX7_write 268 = .ok (.iload_n 3, 1) := by decide +kernel
theorem dX7_write_269 : decode cX7_write 269 = .ok (.iastore, 1) := by decide +kernel
theorem dX7_write_270 : decode cX7_write 270 = .ok (.iload 8, 2) := by decide +kernel
theorem dX7_write_272 : decode cX7_write 272 = .ok (.ireturn, 1) := by decide +kernel
def f_X7_write (u0 : S1) (p1 : Int32) (p2 : Int32) (p3 : Int32) : Option (Int32 × S1) := bn (f_X7_isHandle u0 p1) (fun z_1 => jn (fun (v20_2_0 : Int32) => bn (f_X7_isIn p3 0 255) (fun z_3 => jn (fun (v60_4_0 : Int32) => jn (fun (v77_5_0 : Int32) => jn (fun (v95_6_0 : Int32) => jn (fun (y166_7_8 : Int32) => jn (fun (v201_8_0 : Int32) => bn (f_X7_can u0 v201_8_0) (fun z_9 => if z_9.1 = 0 then some (0, z_9.2) else bn (f_X7_at 0 v77_5_0) (fun z_11 => chk (inb ((z_11 + 21) + p2) 8480) (bv (st z_9.2 0 ((z_11 + 21) + p2) y166_7_8) (fun u_12 => bn (f_X7_at 0 v77_5_0) (fun z_13 => chk (inb ((z_13 + 37) + p2) 8480) (bv (st u_12 0 ((z_13 + 37) + p2) 2) (fun u_14 => chk (inb ((16 * v77_5_0) + p2) 512) (bv (stz u_14 4 ((16 * v77_5_0) + p2) 1) (fun u_15 => chk (inb ((16 * v77_5_0) + p2) 512) (bv (st u_15 5 ((16 * v77_5_0) + p2) p3) (fun u_16 => some (y166_7_8, u_16))))))))))))) (fun k201_8 => if v20_2_0 = 0 then k201_8 1 else if z_3 = 0 then k201_8 2 else jn (k201_8 3) (fun k196_19 => if v60_4_0 = 0 then k196_19 else if y166_7_8 = (-1) then k196_19 else k201_8 0))) (fun k166_7 => jn (if v60_4_0 = 0 then k166_7 v95_6_0 else if z_3 = 0 then k166_7 v95_6_0 else bn (f_X7_isOld u0 v95_6_0) (fun z_25 => if z_25 = 0 then k166_7 v95_6_0 else bn (f_X7_blockFor u0 v77_5_0 p2) (fun z_27 => k166_7 z_27))) (fun k138_22 => if v60_4_0 = 0 then k138_22 else if z_3 = 0 then k138_22 else if v95_6_0 = (-1) then bn (f_X7_isShort u0 v77_5_0) (fun z_31 => jn (fun (v133_32_0 : Int32) => k166_7 v133_32_0) (fun k133_32 => if z_31 = 0 then bn (f_X7_blockFor u0 v77_5_0 p2) (fun z_34 => k133_32 z_34) else k133_32 (-1))) else k138_22))) (fun k95_6 => if v60_4_0 = 0 then k95_6 (-1) else bn (f_X7_blockOf u0 v77_5_0 p2) (fun z_36 => k95_6 z_36))) (fun k77_5 => if v20_2_0 = 0 then k77_5 0 else chk (inb p1 30) (k77_5 (u0 10 (p1).toNatClampNeg)))) (fun k60_4 => jn (k60_4 0) (fun k59_38 => if v20_2_0 = 0 then k59_38 else chk (inb p1 30) (if (u0 12 (p1).toNatClampNeg) = 0 then k59_38 else chk (inb p1 30) (if (u0 11 (p1).toNatClampNeg) = 0 then k59_38 else k60_4 1)))))) (fun k20_2 => jn (k20_2 0) (fun k19_42 => if z_1 = 0 then k19_42 else bn (f_X7_isPage p2) (fun z_44 => if z_44 = 0 then k19_42 else k20_2 1))))
def rmX7_write : Room := { frames := 5, cells := 0, slots := 0, locals := 111 }
set_option maxHeartbeats 4000000 in
set_option maxRecDepth 100000 in
theorem c_X7_write (l : Launch) (D : va_G) (cI cZ cJ cT : ClassId) (a0 : Nat → Nat) (sz : Nat) (u0 : S1) (p1 : Int32) (p2 : Int32) (p3 : Int32) (o : Int32 × S1) (hf : f_X7_write u0 p1 p2 p3 = some o) : Met l yX7_write wsX7_write rmX7_write (va_Pc [.ref (a0 0), .int p1, .int p2, .int p3] (PW D cls (tys cI cZ cJ cT) ((wX7 cI cZ a0 u0)) sz)) (QWi D cls o.1 ((wX7 cI cZ a0 o.2)) (va_A ((wX7 cI cZ a0 u0)) sz)) 0 0 (va_A ((wX7 cI cZ a0 u0)) sz) := by
  refine Met.ofW (cc := cX7_write) (maxL := 9) (ret := (some .int)) (by decide) rfl ?_
  intro p e s m args below meth c s₁ B hml hv
  obtain ⟨hav, hsz, hP, hK, hD0⟩ := hv
  have hx := B.exec
  have hb := B.bytes
  have hr := B.returns
  have hlocks := B.notSynchronized
  have hts := atoms_spec (ws := wsX7_write) B.pre
  have hown : s.vm.findClass RX7 = some m.cls := findClass_of_methodNamed B.named
  have i7 : ∀ w ∈ wsX70, w ∈ wsX7_write := fun w h => List.mem_cons_of_mem _ (List.mem_append_right _ h)
  have hk7 := hts (.fieldLink RX7 7 "InoderyModel" "s" "[I") (by decide +kernel)
  have hk23 := hts (.fieldLink RX7 23 "InoderyModel" "isDirty" "[Z") (by decide +kernel)
  have hk26 := hts (.fieldLink RX7 26 "InoderyModel" "cache" "[I") (by decide +kernel)
  have hk35 := hts (.fieldLink RX7 35 "InoderyModel" "of" "[I") (by decide +kernel)
  have hk38 := hts (.fieldLink RX7 38 "InoderyModel" "isWriting" "[Z") (by decide +kernel)
  have hk41 := hts (.fieldLink RX7 41 "InoderyModel" "isOpen" "[Z") (by decide +kernel)
  subst hsz
  have hD := hD0.self (sz := s.heap.size)
  generalize hAe : va_A ((wX7 cI cZ a0 u0)) s.heap.size = A at hD ⊢
  have hA : ∀ q : Nat, s.heap.size ≤ q → A q := fun q h => by rw [← hAe]; exact Or.inr h
  have hS : va_S A s.heap s.heap [] := va_S.rf
  have hDD : ∀ w0 : S1, va_D A ((wX7 cI cZ a0 w0)) := fun _ => D_same (w := (wX7 cI cZ a0 u0)) rfl hD
  refine Wq (fun Q hQ => ?_)
  refine W_entry hav (Nat.le_of_ble_eq_true rfl) (fun ls hl => ?_)
  have hl : lv_has ls 9 [(0, .ref (a0 0)), (1, .int p1), (2, .int p2), (3, .int p3)] := hl
  unfold f_X7_write at hf
  refine W_heap hP hS (fun H locs hP hS => ?_)
  refine lv_aload_n hx hb dX7_write_0 rfl (lv_at hl 0 rfl) ?_
  refine lv_iload_n hx hb dX7_write_1 rfl (lv_at hl 1 rfl) ?_
  obtain ⟨z_1, hz_1, hf⟩ := bn_some hf
  refine cRV (As := [.int p1]) (rest := []) ⟨hx, hb, hml, hown, hts⟩ (c_X7_isHandle l D cI cZ cJ cT a0 u0 p1 z_1 hz_1) (cwV 1 hts gX7_write_X7_isHandle rfl rfl rfl (by decide +kernel) ⟨Nat.le_of_ble_eq_true rfl, Nat.le_of_ble_eq_true rfl⟩) hP hK (va_recv hK hP (ci := 7) (q0 := 0) rfl rfl) rfl rfl hl.1 (Nat.le_of_ble_eq_true rfl) dX7_write_2 ⟨Nat.le_of_ble_eq_true rfl, Nat.le_of_ble_eq_true rfl⟩ ?_
  obtain ⟨k20_2, hk20_2, hf⟩ := jn_some hf
  have j20_2 : ∀ (v20_2_0 : Int32) (H : Heap) (locs : List Loc) (ls : Array Slot), k20_2 v20_2_0 = some o → va_P D cls (wX7 cI cZ a0 u0) H → va_S A s.heap H locs → lv_has ls 9 [(0, .ref (a0 0)), (1, .int p1), (2, .int p2), (3, .int p3)] → W p l e (headSpec wsX7_write rmX7_write).room s m args below meth c H locs 0 0 Q (F0 m 20 ls [.int v20_2_0]) := by
    intro v20_2_0 H locs ls hf hP hS hl
    have hf := qa1 hk20_2 hf
    refine lv_istore (lv' := [(4, .int v20_2_0), (0, .ref (a0 0)), (1, .int p1), (2, .int p2), (3, .int p3)]) hx hb dX7_write_20 hl (by decide) rfl (fun ls hl => ?_)
    refine lv_iload_n hx hb dX7_write_22 rfl (lv_at hl 4 rfl) ?_
    refine lv_iconst (v := 0) hx hb dX7_write_23 (by decide) ?_
    refine lv_sipush (v := 255) hx hb dX7_write_24 (by decide) ?_
    obtain ⟨z_3, hz_3, hf⟩ := bn_some hf
    refine c0S (As := [.int p3, .int 0, .int 255]) (rest := []) ⟨hx, hb, hml, hown, hts⟩ (c_X7_isIn l D cI cZ cJ cT p3 0 255 z_3 hz_3) (va_cwS 3 hts gX7_write_X7_isIn rfl rfl rfl (by decide +kernel) ⟨Nat.le_of_ble_eq_true rfl, Nat.le_of_ble_eq_true rfl⟩) rfl rfl hl.1 (Nat.le_of_ble_eq_true rfl) dX7_write_27 ⟨Nat.le_of_ble_eq_true rfl, Nat.le_of_ble_eq_true rfl⟩ ?_
    refine lv_istore (lv' := [(5, .int z_3), (4, .int v20_2_0), (0, .ref (a0 0)), (1, .int p1), (2, .int p2), (3, .int p3)]) hx hb dX7_write_30 hl (by decide) rfl (fun ls hl => ?_)
    refine lv_iload hx hb dX7_write_32 (lv_at hl 1 rfl) ?_
    obtain ⟨k60_4, hk60_4, hf⟩ := jn_some hf
    have j60_4 : ∀ (v60_4_0 : Int32) (H : Heap) (locs : List Loc) (ls : Array Slot), k60_4 v60_4_0 = some o → va_P D cls (wX7 cI cZ a0 u0) H → va_S A s.heap H locs → lv_has ls 9 [(0, .ref (a0 0)), (1, .int p1), (2, .int p2), (3, .int p3), (4, .int v20_2_0), (5, .int z_3)] → W p l e (headSpec wsX7_write rmX7_write).room s m args below meth c H locs 0 0 Q (F0 m 60 ls [.int v60_4_0]) := by
      intro v60_4_0 H locs ls hf hP hS hl
      have hf := qa1 hk60_4 hf
      refine lv_istore (lv' := [(6, .int v60_4_0), (0, .ref (a0 0)), (1, .int p1), (2, .int p2), (3, .int p3), (4, .int v20_2_0), (5, .int z_3)]) hx hb dX7_write_60 hl (by decide) rfl (fun ls hl => ?_)
      refine lv_iload hx hb dX7_write_62 (lv_at hl 5 rfl) ?_
      obtain ⟨k77_5, hk77_5, hf⟩ := jn_some hf
      have j77_5 : ∀ (v77_5_0 : Int32) (H : Heap) (locs : List Loc) (ls : Array Slot), k77_5 v77_5_0 = some o → va_P D cls (wX7 cI cZ a0 u0) H → va_S A s.heap H locs → lv_has ls 9 [(0, .ref (a0 0)), (2, .int p2), (3, .int p3), (4, .int v20_2_0), (5, .int z_3), (6, .int v60_4_0)] → W p l e (headSpec wsX7_write rmX7_write).room s m args below meth c H locs 0 0 Q (F0 m 77 ls [.int v77_5_0]) := by
        intro v77_5_0 H locs ls hf hP hS hl
        have hf := qa1 hk77_5 hf
        refine lv_istore (lv' := [(7, .int v77_5_0), (0, .ref (a0 0)), (2, .int p2), (3, .int p3), (4, .int v20_2_0), (5, .int z_3), (6, .int v60_4_0)]) hx hb dX7_write_77 hl (by decide) rfl (fun ls hl => ?_)
        refine lv_iload hx hb dX7_write_79 (lv_at hl 6 rfl) ?_
        obtain ⟨k95_6, hk95_6, hf⟩ := jn_some hf
        have j95_6 : ∀ (v95_6_0 : Int32) (H : Heap) (locs : List Loc) (ls : Array Slot), k95_6 v95_6_0 = some o → va_P D cls (wX7 cI cZ a0 u0) H → va_S A s.heap H locs → lv_has ls 9 [(0, .ref (a0 0)), (2, .int p2), (3, .int p3), (4, .int v20_2_0), (5, .int z_3), (6, .int v60_4_0), (7, .int v77_5_0)] → W p l e (headSpec wsX7_write rmX7_write).room s m args below meth c H locs 0 0 Q (F0 m 95 ls [.int v95_6_0]) := by
          intro v95_6_0 H locs ls hf hP hS hl
          have hf := qa1 hk95_6 hf
          refine lv_istore (lv' := [(8, .int v95_6_0), (0, .ref (a0 0)), (2, .int p2), (3, .int p3), (4, .int v20_2_0), (5, .int z_3), (6, .int v60_4_0), (7, .int v77_5_0)]) hx hb dX7_write_95 hl (by decide) rfl (fun ls hl => ?_)
          refine lv_iload hx hb dX7_write_97 (lv_at hl 6 rfl) ?_
          obtain ⟨k166_7, hk166_7, hf⟩ := jn_some hf
          have j166_7 : ∀ (y166_7_8 : Int32) (H : Heap) (locs : List Loc) (ls : Array Slot), k166_7 y166_7_8 = some o → va_P D cls (wX7 cI cZ a0 u0) H → va_S A s.heap H locs → lv_has ls 9 [(0, .ref (a0 0)), (2, .int p2), (3, .int p3), (4, .int v20_2_0), (5, .int z_3), (6, .int v60_4_0), (7, .int v77_5_0), (8, .int y166_7_8)] → W p l e (headSpec wsX7_write rmX7_write).room s m args below meth c H locs 0 0 Q (F0 m 166 ls []) := by
            intro y166_7_8 H locs ls hf hP hS hl
            have hf := qa1 hk166_7 hf
            refine lv_aload_n hx hb dX7_write_166 rfl (lv_at hl 0 rfl) ?_
            refine lv_iload hx hb dX7_write_167 (lv_at hl 3 rfl) ?_
            obtain ⟨k201_8, hk201_8, hf⟩ := jn_some hf
            have j201_8 : ∀ (v201_8_0 : Int32) (H : Heap) (locs : List Loc) (ls : Array Slot), k201_8 v201_8_0 = some o → va_P D cls (wX7 cI cZ a0 u0) H → va_S A s.heap H locs → lv_has ls 9 [(0, .ref (a0 0)), (2, .int p2), (3, .int p3), (7, .int v77_5_0), (8, .int y166_7_8)] → W p l e (headSpec wsX7_write rmX7_write).room s m args below meth c H locs 0 0 Q (F0 m 201 ls [.int v201_8_0, .ref (a0 0)]) := by
              intro v201_8_0 H locs ls hf hP hS hl
              have hf := qa1 hk201_8 hf
              obtain ⟨z_9, hz_9, hf⟩ := bn_some hf
              refine cWVi (As := [.int v201_8_0]) (rest := []) ⟨hx, hb, hml, hown, hts⟩ (c_X7_can l D cI cZ cJ cT a0 H.size u0 v201_8_0 z_9 hz_9) (cwV 1 hts gX7_write_X7_can rfl rfl rfl (by decide +kernel) ⟨Nat.le_of_ble_eq_true rfl, Nat.le_of_ble_eq_true rfl⟩) hP hK (hDD u0) hS (own_free (hDD u0) hS hA) (va_recv hK hP (ci := 7) (q0 := 0) rfl rfl) rfl rfl hl.1 (Nat.le_of_ble_eq_true rfl) dX7_write_201 ⟨Nat.le_of_ble_eq_true rfl, Nat.le_of_ble_eq_true rfl⟩ (fun H1 locs hP1 hk1 hS => ?_)
              have hP : va_P D cls (wX7 cI cZ a0 z_9.2) H1 := hP1
              clear hP1 hk1
              generalize H1 = H at hP hS ⊢
              refine lv_if_ne (tgt := 209) hx hb dX7_write_204 (by decide) (fun c_10 => ?_) (fun c_10 => ?_)
              · have hf := ite_f hf c_10
                refine lv_aload_n hx hb dX7_write_209 rfl (lv_at hl 0 rfl) ?_
                refine va_get (D := D) (ci := 7) (v := .ref (a0 1)) (C := RX7) (T := TX7) (N := 19) hx hb hts i7 hown hK hP 0 rfl rfl 0 (by decide) hk7 (fun _ h9 => h9) rfl dX7_write_210 ?_
                refine lv_iconst (v := 0) hx hb dX7_write_213 (by decide) ?_
                refine lv_iload hx hb dX7_write_214 (lv_at hl 3 rfl) ?_
                obtain ⟨z_11, hz_11, hf⟩ := bn_some hf
                refine c0S (As := [.int 0, .int v77_5_0]) (rest := [.ref (a0 1)]) ⟨hx, hb, hml, hown, hts⟩ (c_X7_at l D cI cZ cJ cT 0 v77_5_0 z_11 hz_11) (va_cwS 2 hts gX7_write_X7_at rfl rfl rfl (by decide +kernel) ⟨Nat.le_of_ble_eq_true rfl, Nat.le_of_ble_eq_true rfl⟩) rfl rfl hl.1 (Nat.le_of_ble_eq_true rfl) dX7_write_216 ⟨Nat.le_of_ble_eq_true rfl, Nat.le_of_ble_eq_true rfl⟩ ?_
                refine lv_bipush (v := 21) hx hb dX7_write_219 (by decide) ?_
                refine lv_iadd hx hb dX7_write_221 ?_
                refine lv_iload_n hx hb dX7_write_222 rfl (lv_at hl 1 rfl) ?_
                refine lv_iadd hx hb dX7_write_223 ?_
                refine lv_iload hx hb dX7_write_224 (lv_at hl 4 rfl) ?_
                obtain ⟨hi, hf⟩ := chk_some hf
                obtain ⟨u_12, hu_12, hf⟩ := bv_some hf
                refine va_iast hx hb hK hP (hDD z_9.2) hS 1 0 rfl rfl (inb_in hi) dX7_write_226 (fun H locs hP _ hS => ?_)
                have hP : va_P D cls (wX7 cI cZ a0 u_12) H := by rw [hu_12]; exact hP
                refine lv_aload_n hx hb dX7_write_227 rfl (lv_at hl 0 rfl) ?_
                refine va_get (D := D) (ci := 7) (v := .ref (a0 1)) (C := RX7) (T := TX7) (N := 19) hx hb hts i7 hown hK hP 0 rfl rfl 0 (by decide) hk7 (fun _ h9 => h9) rfl dX7_write_228 ?_
                refine lv_iconst (v := 0) hx hb dX7_write_231 (by decide) ?_
                refine lv_iload hx hb dX7_write_232 (lv_at hl 3 rfl) ?_
                obtain ⟨z_13, hz_13, hf⟩ := bn_some hf
                refine c0S (As := [.int 0, .int v77_5_0]) (rest := [.ref (a0 1)]) ⟨hx, hb, hml, hown, hts⟩ (c_X7_at l D cI cZ cJ cT 0 v77_5_0 z_13 hz_13) (va_cwS 2 hts gX7_write_X7_at rfl rfl rfl (by decide +kernel) ⟨Nat.le_of_ble_eq_true rfl, Nat.le_of_ble_eq_true rfl⟩) rfl rfl hl.1 (Nat.le_of_ble_eq_true rfl) dX7_write_234 ⟨Nat.le_of_ble_eq_true rfl, Nat.le_of_ble_eq_true rfl⟩ ?_
                refine lv_bipush (v := 37) hx hb dX7_write_237 (by decide) ?_
                refine lv_iadd hx hb dX7_write_239 ?_
                refine lv_iload_n hx hb dX7_write_240 rfl (lv_at hl 1 rfl) ?_
                refine lv_iadd hx hb dX7_write_241 ?_
                refine lv_iconst (v := 2) hx hb dX7_write_242 (by decide) ?_
                obtain ⟨hi, hf⟩ := chk_some hf
                obtain ⟨u_14, hu_14, hf⟩ := bv_some hf
                refine va_iast hx hb hK hP (hDD u_12) hS 1 0 rfl rfl (inb_in hi) dX7_write_243 (fun H locs hP _ hS => ?_)
                have hP : va_P D cls (wX7 cI cZ a0 u_14) H := by rw [hu_14]; exact hP
                refine lv_aload_n hx hb dX7_write_244 rfl (lv_at hl 0 rfl) ?_
                refine va_get (D := D) (ci := 7) (v := .ref (a0 5)) (C := RX7) (T := TX7) (N := 19) hx hb hts i7 hown hK hP 0 rfl rfl 4 (by decide) hk23 (fun _ h9 => h9) rfl dX7_write_245 ?_
                refine lv_bipush (v := 16) hx hb dX7_write_248 (by decide) ?_
                refine lv_iload hx hb dX7_write_250 (lv_at hl 3 rfl) ?_
                refine lv_imul hx hb dX7_write_252 ?_
                refine lv_iload_n hx hb dX7_write_253 rfl (lv_at hl 1 rfl) ?_
                refine lv_iadd hx hb dX7_write_254 ?_
                refine lv_iconst (v := 1) hx hb dX7_write_255 (by decide) ?_
                obtain ⟨hi, hf⟩ := chk_some hf
                obtain ⟨u_15, hu_15, hf⟩ := bv_some hf
                refine va_zast hx hb hK hP (hDD u_14) hS 5 1 rfl rfl (inb_in hi) dX7_write_256 (fun H locs hP _ hS => ?_)
                have hP : va_P D cls (wX7 cI cZ a0 u_15) H := by rw [hu_15]; exact hP
                refine lv_aload_n hx hb dX7_write_257 rfl (lv_at hl 0 rfl) ?_
                refine va_get (D := D) (ci := 7) (v := .ref (a0 6)) (C := RX7) (T := TX7) (N := 19) hx hb hts i7 hown hK hP 0 rfl rfl 5 (by decide) hk26 (fun _ h9 => h9) rfl dX7_write_258 ?_
                refine lv_bipush (v := 16) hx hb dX7_write_261 (by decide) ?_
                refine lv_iload hx hb dX7_write_263 (lv_at hl 3 rfl) ?_
                refine lv_imul hx hb dX7_write_265 ?_
                refine lv_iload_n hx hb dX7_write_266 rfl (lv_at hl 1 rfl) ?_
                refine lv_iadd hx hb dX7_write_267 ?_
                refine lv_iload_n hx hb dX7_write_268 rfl (lv_at hl 2 rfl) ?_
                obtain ⟨hi, hf⟩ := chk_some hf
                obtain ⟨u_16, hu_16, hf⟩ := bv_some hf
                refine va_iast hx hb hK hP (hDD u_15) hS 6 0 rfl rfl (inb_in hi) dX7_write_269 (fun H locs hP _ hS => ?_)
                have hP : va_P D cls (wX7 cI cZ a0 u_16) H := by rw [hu_16]; exact hP
                refine lv_iload hx hb dX7_write_270 (lv_at hl 4 rfl) ?_
                have eo := Option.some.inj hf
                have hP : va_P D cls (wX7 cI cZ a0 o.2) H := by rw [← eo]; exact hP
                rw [hQ]
                exact W.iret hx hb hr (fun t ht hW => ⟨⟨_, (), rfl, congrArg Prod.fst eo, P_at ht hP⟩, hS.F ht⟩) hS.2.2 dX7_write_272 hlocks
              · have hf := ite_t hf c_10
                refine lv_iconst (v := 0) hx hb dX7_write_207 (by decide) ?_
                have eo := Option.some.inj hf
                have hP : va_P D cls (wX7 cI cZ a0 o.2) H := by rw [← eo]; exact hP
                rw [hQ]
                exact W.iret hx hb hr (fun t ht hW => ⟨⟨_, (), rfl, congrArg Prod.fst eo, P_at ht hP⟩, hS.F ht⟩) hS.2.2 dX7_write_208 hlocks
            refine lv_if_ne (tgt := 176) hx hb dX7_write_169 (by decide) (fun c_17 => ?_) (fun c_17 => ?_)
            · have hf := ite_f hf c_17
              refine lv_iload hx hb dX7_write_176 (lv_at hl 4 rfl) ?_
              refine lv_if_ne (tgt := 185) hx hb dX7_write_178 (by decide) (fun c_18 => ?_) (fun c_18 => ?_)
              · have hf := ite_f hf c_18
                refine lv_iload hx hb dX7_write_185 (lv_at hl 5 rfl) ?_
                obtain ⟨k196_19, hk196_19, hf⟩ := jn_some hf
                have j196_19 : ∀ (H : Heap) (locs : List Loc) (ls : Array Slot), k196_19 = some o → va_P D cls (wX7 cI cZ a0 u0) H → va_S A s.heap H locs → lv_has ls 9 [(0, .ref (a0 0)), (2, .int p2), (3, .int p3), (7, .int v77_5_0), (8, .int y166_7_8)] → W p l e (headSpec wsX7_write rmX7_write).room s m args below meth c H locs 0 0 Q (F0 m 196 ls [.ref (a0 0)]) := by
                  intro H locs ls hf hP hS hl
                  have hf := qa0 hk196_19 hf
                  refine lv_iconst (v := 3) hx hb dX7_write_196 (by decide) ?_
                  refine lv_goto (tgt := 201) hx hb dX7_write_197 (by decide) ?_
                  exact j201_8 _ _ _ _ hf hP hS (lv_sub hl [0, 1, 2, 3, 4] rfl)
                refine lv_if_eq (tgt := 196) hx hb dX7_write_187 (by decide) (fun c_20 => ?_) (fun c_20 => ?_)
                · have hf := ite_t hf c_20
                  exact j196_19 _ _ _ hf hP hS (lv_sub hl [0, 1, 2, 6, 7] rfl)
                · have hf := ite_f hf c_20
                  refine lv_iload hx hb dX7_write_190 (lv_at hl 7 rfl) ?_
                  refine lv_iconst (v := (-1)) hx hb dX7_write_192 (by decide) ?_
                  refine lv_icmp_ne (tgt := 200) hx hb dX7_write_193 (by decide) (fun c_21 => ?_) (fun c_21 => ?_)
                  · have hf := ite_f hf c_21
                    refine lv_iconst (v := 0) hx hb dX7_write_200 (by decide) ?_
                    exact j201_8 _ _ _ _ hf hP hS (lv_sub hl [0, 1, 2, 6, 7] rfl)
                  · have hf := ite_t hf c_21
                    exact j196_19 _ _ _ hf hP hS (lv_sub hl [0, 1, 2, 6, 7] rfl)
              · have hf := ite_t hf c_18
                refine lv_iconst (v := 2) hx hb dX7_write_181 (by decide) ?_
                refine lv_goto (tgt := 201) hx hb dX7_write_182 (by decide) ?_
                exact j201_8 _ _ _ _ hf hP hS (lv_sub hl [0, 1, 2, 6, 7] rfl)
            · have hf := ite_t hf c_17
              refine lv_iconst (v := 1) hx hb dX7_write_172 (by decide) ?_
              refine lv_goto (tgt := 201) hx hb dX7_write_173 (by decide) ?_
              exact j201_8 _ _ _ _ hf hP hS (lv_sub hl [0, 1, 2, 6, 7] rfl)
          obtain ⟨k138_22, hk138_22, hf⟩ := jn_some hf
          have j138_22 : ∀ (H : Heap) (locs : List Loc) (ls : Array Slot), k138_22 = some o → va_P D cls (wX7 cI cZ a0 u0) H → va_S A s.heap H locs → lv_has ls 9 [(0, .ref (a0 0)), (2, .int p2), (3, .int p3), (4, .int v20_2_0), (5, .int z_3), (6, .int v60_4_0), (7, .int v77_5_0), (8, .int v95_6_0)] → W p l e (headSpec wsX7_write rmX7_write).room s m args below meth c H locs 0 0 Q (F0 m 138 ls []) := by
            intro H locs ls hf hP hS hl
            have hf := qa0 hk138_22 hf
            refine lv_iload hx hb dX7_write_138 (lv_at hl 5 rfl) ?_
            refine lv_if_eq (tgt := 166) hx hb dX7_write_140 (by decide) (fun c_23 => ?_) (fun c_23 => ?_)
            · have hf := ite_t hf c_23
              exact j166_7 _ _ _ _ hf hP hS (lv_sub hl [0, 1, 2, 3, 4, 5, 6, 7] rfl)
            · have hf := ite_f hf c_23
              refine lv_iload hx hb dX7_write_143 (lv_at hl 4 rfl) ?_
              refine lv_if_eq (tgt := 166) hx hb dX7_write_145 (by decide) (fun c_24 => ?_) (fun c_24 => ?_)
              · have hf := ite_t hf c_24
                exact j166_7 _ _ _ _ hf hP hS (lv_sub hl [0, 1, 2, 3, 4, 5, 6, 7] rfl)
              · have hf := ite_f hf c_24
                refine lv_aload_n hx hb dX7_write_148 rfl (lv_at hl 0 rfl) ?_
                refine lv_iload hx hb dX7_write_149 (lv_at hl 7 rfl) ?_
                obtain ⟨z_25, hz_25, hf⟩ := bn_some hf
                refine cRV (As := [.int v95_6_0]) (rest := []) ⟨hx, hb, hml, hown, hts⟩ (c_X7_isOld l D cI cZ cJ cT a0 u0 v95_6_0 z_25 hz_25) (cwV 1 hts gX7_write_X7_isOld rfl rfl rfl (by decide +kernel) ⟨Nat.le_of_ble_eq_true rfl, Nat.le_of_ble_eq_true rfl⟩) hP hK (va_recv hK hP (ci := 7) (q0 := 0) rfl rfl) rfl rfl hl.1 (Nat.le_of_ble_eq_true rfl) dX7_write_151 ⟨Nat.le_of_ble_eq_true rfl, Nat.le_of_ble_eq_true rfl⟩ ?_
                refine lv_if_eq (tgt := 166) hx hb dX7_write_154 (by decide) (fun c_26 => ?_) (fun c_26 => ?_)
                · have hf := ite_t hf c_26
                  exact j166_7 _ _ _ _ hf hP hS (lv_sub hl [0, 1, 2, 3, 4, 5, 6, 7] rfl)
                · have hf := ite_f hf c_26
                  refine lv_aload_n hx hb dX7_write_157 rfl (lv_at hl 0 rfl) ?_
                  refine lv_iload hx hb dX7_write_158 (lv_at hl 6 rfl) ?_
                  refine lv_iload_n hx hb dX7_write_160 rfl (lv_at hl 1 rfl) ?_
                  obtain ⟨z_27, hz_27, hf⟩ := bn_some hf
                  refine cRV (As := [.int v77_5_0, .int p2]) (rest := []) ⟨hx, hb, hml, hown, hts⟩ (c_X7_blockFor l D cI cZ cJ cT a0 u0 v77_5_0 p2 z_27 hz_27) (cwV 2 hts gX7_write_X7_blockFor rfl rfl rfl (by decide +kernel) ⟨Nat.le_of_ble_eq_true rfl, Nat.le_of_ble_eq_true rfl⟩) hP hK (va_recv hK hP (ci := 7) (q0 := 0) rfl rfl) rfl rfl hl.1 (Nat.le_of_ble_eq_true rfl) dX7_write_161 ⟨Nat.le_of_ble_eq_true rfl, Nat.le_of_ble_eq_true rfl⟩ ?_
                  refine lv_istore (lv' := [(8, .int z_27), (0, .ref (a0 0)), (2, .int p2), (3, .int p3), (4, .int v20_2_0), (5, .int z_3), (6, .int v60_4_0), (7, .int v77_5_0)]) hx hb dX7_write_164 hl (by decide) rfl (fun ls hl => ?_)
                  exact j166_7 _ _ _ _ hf hP hS (lv_sub hl [1, 2, 3, 4, 5, 6, 7, 0] rfl)
          refine lv_if_eq (tgt := 138) hx hb dX7_write_99 (by decide) (fun c_28 => ?_) (fun c_28 => ?_)
          · have hf := ite_t hf c_28
            exact j138_22 _ _ _ hf hP hS (lv_sub hl [1, 2, 3, 4, 5, 6, 7, 0] rfl)
          · have hf := ite_f hf c_28
            refine lv_iload hx hb dX7_write_102 (lv_at hl 5 rfl) ?_
            refine lv_if_eq (tgt := 138) hx hb dX7_write_104 (by decide) (fun c_29 => ?_) (fun c_29 => ?_)
            · have hf := ite_t hf c_29
              exact j138_22 _ _ _ hf hP hS (lv_sub hl [1, 2, 3, 4, 5, 6, 7, 0] rfl)
            · have hf := ite_f hf c_29
              refine lv_iload hx hb dX7_write_107 (lv_at hl 0 rfl) ?_
              refine lv_iconst (v := (-1)) hx hb dX7_write_109 (by decide) ?_
              refine lv_icmp_ne (tgt := 138) hx hb dX7_write_110 (by decide) (fun c_30 => ?_) (fun c_30 => ?_)
              · have hf := ite_f hf c_30
                exact j138_22 _ _ _ hf hP hS (lv_sub hl [1, 2, 3, 4, 5, 6, 7, 0] rfl)
              · have hf := ite_t hf c_30
                refine lv_aload_n hx hb dX7_write_113 rfl (lv_at hl 1 rfl) ?_
                refine lv_iload hx hb dX7_write_114 (lv_at hl 7 rfl) ?_
                obtain ⟨z_31, hz_31, hf⟩ := bn_some hf
                refine cRV (As := [.int v77_5_0]) (rest := []) ⟨hx, hb, hml, hown, hts⟩ (c_X7_isShort l D cI cZ cJ cT a0 u0 v77_5_0 z_31 hz_31) (cwV 1 hts gX7_write_X7_isShort rfl rfl rfl (by decide +kernel) ⟨Nat.le_of_ble_eq_true rfl, Nat.le_of_ble_eq_true rfl⟩) hP hK (va_recv hK hP (ci := 7) (q0 := 0) rfl rfl) rfl rfl hl.1 (Nat.le_of_ble_eq_true rfl) dX7_write_116 ⟨Nat.le_of_ble_eq_true rfl, Nat.le_of_ble_eq_true rfl⟩ ?_
                obtain ⟨k133_32, hk133_32, hf⟩ := jn_some hf
                have j133_32 : ∀ (v133_32_0 : Int32) (H : Heap) (locs : List Loc) (ls : Array Slot), k133_32 v133_32_0 = some o → va_P D cls (wX7 cI cZ a0 u0) H → va_S A s.heap H locs → lv_has ls 9 [(0, .ref (a0 0)), (2, .int p2), (3, .int p3), (4, .int v20_2_0), (5, .int z_3), (6, .int v60_4_0), (7, .int v77_5_0)] → W p l e (headSpec wsX7_write rmX7_write).room s m args below meth c H locs 0 0 Q (F0 m 133 ls [.int v133_32_0]) := by
                  intro v133_32_0 H locs ls hf hP hS hl
                  have hf := qa1 hk133_32 hf
                  refine lv_istore (lv' := [(8, .int v133_32_0), (0, .ref (a0 0)), (2, .int p2), (3, .int p3), (4, .int v20_2_0), (5, .int z_3), (6, .int v60_4_0), (7, .int v77_5_0)]) hx hb dX7_write_133 hl (by decide) rfl (fun ls hl => ?_)
                  refine lv_goto (tgt := 166) hx hb dX7_write_135 (by decide) ?_
                  exact j166_7 _ _ _ _ hf hP hS (lv_sub hl [1, 2, 3, 4, 5, 6, 7, 0] rfl)
                refine lv_if_eq (tgt := 126) hx hb dX7_write_119 (by decide) (fun c_33 => ?_) (fun c_33 => ?_)
                · have hf := ite_t hf c_33
                  refine lv_aload_n hx hb dX7_write_126 rfl (lv_at hl 1 rfl) ?_
                  refine lv_iload hx hb dX7_write_127 (lv_at hl 7 rfl) ?_
                  refine lv_iload_n hx hb dX7_write_129 rfl (lv_at hl 2 rfl) ?_
                  obtain ⟨z_34, hz_34, hf⟩ := bn_some hf
                  refine cRV (As := [.int v77_5_0, .int p2]) (rest := []) ⟨hx, hb, hml, hown, hts⟩ (c_X7_blockFor l D cI cZ cJ cT a0 u0 v77_5_0 p2 z_34 hz_34) (cwV 2 hts gX7_write_X7_blockFor rfl rfl rfl (by decide +kernel) ⟨Nat.le_of_ble_eq_true rfl, Nat.le_of_ble_eq_true rfl⟩) hP hK (va_recv hK hP (ci := 7) (q0 := 0) rfl rfl) rfl rfl hl.1 (Nat.le_of_ble_eq_true rfl) dX7_write_130 ⟨Nat.le_of_ble_eq_true rfl, Nat.le_of_ble_eq_true rfl⟩ ?_
                  exact j133_32 _ _ _ _ hf hP hS (lv_sub hl [1, 2, 3, 4, 5, 6, 7] rfl)
                · have hf := ite_f hf c_33
                  refine lv_iconst (v := (-1)) hx hb dX7_write_122 (by decide) ?_
                  refine lv_goto (tgt := 133) hx hb dX7_write_123 (by decide) ?_
                  exact j133_32 _ _ _ _ hf hP hS (lv_sub hl [1, 2, 3, 4, 5, 6, 7] rfl)
        refine lv_if_eq (tgt := 94) hx hb dX7_write_81 (by decide) (fun c_35 => ?_) (fun c_35 => ?_)
        · have hf := ite_t hf c_35
          refine lv_iconst (v := (-1)) hx hb dX7_write_94 (by decide) ?_
          exact j95_6 _ _ _ _ hf hP hS (lv_sub hl [1, 2, 3, 4, 5, 6, 0] rfl)
        · have hf := ite_f hf c_35
          refine lv_aload_n hx hb dX7_write_84 rfl (lv_at hl 1 rfl) ?_
          refine lv_iload hx hb dX7_write_85 (lv_at hl 0 rfl) ?_
          refine lv_iload_n hx hb dX7_write_87 rfl (lv_at hl 2 rfl) ?_
          obtain ⟨z_36, hz_36, hf⟩ := bn_some hf
          refine cRV (As := [.int v77_5_0, .int p2]) (rest := []) ⟨hx, hb, hml, hown, hts⟩ (c_X7_blockOf l D cI cZ cJ cT a0 u0 v77_5_0 p2 z_36 hz_36) (cwV 2 hts gX7_write_X7_blockOf rfl rfl rfl (by decide +kernel) ⟨Nat.le_of_ble_eq_true rfl, Nat.le_of_ble_eq_true rfl⟩) hP hK (va_recv hK hP (ci := 7) (q0 := 0) rfl rfl) rfl rfl hl.1 (Nat.le_of_ble_eq_true rfl) dX7_write_88 ⟨Nat.le_of_ble_eq_true rfl, Nat.le_of_ble_eq_true rfl⟩ ?_
          refine lv_goto (tgt := 95) hx hb dX7_write_91 (by decide) ?_
          exact j95_6 _ _ _ _ hf hP hS (lv_sub hl [1, 2, 3, 4, 5, 6, 0] rfl)
      refine lv_if_eq (tgt := 76) hx hb dX7_write_64 (by decide) (fun c_37 => ?_) (fun c_37 => ?_)
      · have hf := ite_t hf c_37
        refine lv_iconst (v := 0) hx hb dX7_write_76 (by decide) ?_
        exact j77_5 _ _ _ _ hf hP hS (lv_sub hl [1, 3, 4, 5, 6, 0] rfl)
      · have hf := ite_f hf c_37
        refine lv_aload_n hx hb dX7_write_67 rfl (lv_at hl 1 rfl) ?_
        refine va_get (D := D) (ci := 7) (v := .ref (a0 11)) (C := RX7) (T := TX7) (N := 19) hx hb hts i7 hown hK hP 0 rfl rfl 10 (by decide) hk35 (fun _ h9 => h9) rfl dX7_write_68 ?_
        refine lv_iload_n hx hb dX7_write_71 rfl (lv_at hl 2 rfl) ?_
        obtain ⟨hi, hf⟩ := chk_some hf
        refine va_iald hx hb hK hP 9 0 rfl rfl (inb_in hi) dX7_write_72 ?_
        refine lv_goto (tgt := 77) hx hb dX7_write_73 (by decide) ?_
        exact j77_5 _ _ _ _ hf hP hS (lv_sub hl [1, 3, 4, 5, 6, 0] rfl)
    obtain ⟨k59_38, hk59_38, hf⟩ := jn_some hf
    have j59_38 : ∀ (H : Heap) (locs : List Loc) (ls : Array Slot), k59_38 = some o → va_P D cls (wX7 cI cZ a0 u0) H → va_S A s.heap H locs → lv_has ls 9 [(0, .ref (a0 0)), (1, .int p1), (2, .int p2), (3, .int p3), (4, .int v20_2_0), (5, .int z_3)] → W p l e (headSpec wsX7_write rmX7_write).room s m args below meth c H locs 0 0 Q (F0 m 59 ls []) := by
      intro H locs ls hf hP hS hl
      have hf := qa0 hk59_38 hf
      refine lv_iconst (v := 0) hx hb dX7_write_59 (by decide) ?_
      exact j60_4 _ _ _ _ hf hP hS (lv_sub hl [0, 1, 2, 3, 4, 5] rfl)
    refine lv_if_eq (tgt := 59) hx hb dX7_write_34 (by decide) (fun c_39 => ?_) (fun c_39 => ?_)
    · have hf := ite_t hf c_39
      exact j59_38 _ _ _ hf hP hS (lv_sub hl [2, 3, 4, 5, 1, 0] rfl)
    · have hf := ite_f hf c_39
      refine lv_aload_n hx hb dX7_write_37 rfl (lv_at hl 2 rfl) ?_
      refine va_get (D := D) (ci := 7) (v := .ref (a0 13)) (C := RX7) (T := TX7) (N := 19) hx hb hts i7 hown hK hP 0 rfl rfl 12 (by decide) hk41 (fun _ h9 => h9) rfl dX7_write_38 ?_
      refine lv_iload_n hx hb dX7_write_41 rfl (lv_at hl 3 rfl) ?_
      obtain ⟨hi, hf⟩ := chk_some hf
      refine va_zald hx hb hK hP 11 1 rfl rfl (inb_in hi) dX7_write_42 ?_
      refine lv_if_eq (tgt := 59) hx hb dX7_write_43 (by decide) (fun c_40 => ?_) (fun c_40 => ?_)
      · have hf := ite_t hf c_40
        exact j59_38 _ _ _ hf hP hS (lv_sub hl [2, 3, 4, 5, 1, 0] rfl)
      · have hf := ite_f hf c_40
        refine lv_aload_n hx hb dX7_write_46 rfl (lv_at hl 2 rfl) ?_
        refine va_get (D := D) (ci := 7) (v := .ref (a0 12)) (C := RX7) (T := TX7) (N := 19) hx hb hts i7 hown hK hP 0 rfl rfl 11 (by decide) hk38 (fun _ h9 => h9) rfl dX7_write_47 ?_
        refine lv_iload_n hx hb dX7_write_50 rfl (lv_at hl 3 rfl) ?_
        obtain ⟨hi, hf⟩ := chk_some hf
        refine va_zald hx hb hK hP 10 1 rfl rfl (inb_in hi) dX7_write_51 ?_
        refine lv_if_eq (tgt := 59) hx hb dX7_write_52 (by decide) (fun c_41 => ?_) (fun c_41 => ?_)
        · have hf := ite_t hf c_41
          exact j59_38 _ _ _ hf hP hS (lv_sub hl [2, 3, 4, 5, 1, 0] rfl)
        · have hf := ite_f hf c_41
          refine lv_iconst (v := 1) hx hb dX7_write_55 (by decide) ?_
          refine lv_goto (tgt := 60) hx hb dX7_write_56 (by decide) ?_
          exact j60_4 _ _ _ _ hf hP hS (lv_sub hl [2, 3, 4, 5, 1, 0] rfl)
  obtain ⟨k19_42, hk19_42, hf⟩ := jn_some hf
  have j19_42 : ∀ (H : Heap) (locs : List Loc) (ls : Array Slot), k19_42 = some o → va_P D cls (wX7 cI cZ a0 u0) H → va_S A s.heap H locs → lv_has ls 9 [(0, .ref (a0 0)), (1, .int p1), (2, .int p2), (3, .int p3)] → W p l e (headSpec wsX7_write rmX7_write).room s m args below meth c H locs 0 0 Q (F0 m 19 ls []) := by
    intro H locs ls hf hP hS hl
    have hf := qa0 hk19_42 hf
    refine lv_iconst (v := 0) hx hb dX7_write_19 (by decide) ?_
    exact j20_2 _ _ _ _ hf hP hS (lv_sub hl [0, 1, 2, 3] rfl)
  refine lv_if_eq (tgt := 19) hx hb dX7_write_5 (by decide) (fun c_43 => ?_) (fun c_43 => ?_)
  · have hf := ite_t hf c_43
    exact j19_42 _ _ _ hf hP hS (lv_sub hl [0, 1, 2, 3] rfl)
  · have hf := ite_f hf c_43
    refine lv_iload_n hx hb dX7_write_8 rfl (lv_at hl 2 rfl) ?_
    obtain ⟨z_44, hz_44, hf⟩ := bn_some hf
    refine c0S (As := [.int p2]) (rest := []) ⟨hx, hb, hml, hown, hts⟩ (c_X7_isPage l D cI cZ cJ cT p2 z_44 hz_44) (va_cwS 1 hts gX7_write_X7_isPage rfl rfl rfl (by decide +kernel) ⟨Nat.le_of_ble_eq_true rfl, Nat.le_of_ble_eq_true rfl⟩) rfl rfl hl.1 (Nat.le_of_ble_eq_true rfl) dX7_write_9 ⟨Nat.le_of_ble_eq_true rfl, Nat.le_of_ble_eq_true rfl⟩ ?_
    refine lv_if_eq (tgt := 19) hx hb dX7_write_12 (by decide) (fun c_45 => ?_) (fun c_45 => ?_)
    · have hf := ite_t hf c_45
      exact j19_42 _ _ _ hf hP hS (lv_sub hl [0, 1, 2, 3] rfl)
    · have hf := ite_f hf c_45
      refine lv_iconst (v := 1) hx hb dX7_write_15 (by decide) ?_
      refine lv_goto (tgt := 20) hx hb dX7_write_16 (by decide) ?_
      exact j20_2 _ _ _ _ hf hP hS (lv_sub hl [0, 1, 2, 3] rfl)
set_option maxRecDepth 20000 in
theorem ggX7_read_X7_at : GoodIn wsX7_read wsX7_at := goodIn_r _ [26] (by decide +kernel) (by decide +kernel)
set_option maxRecDepth 20000 in
theorem gX7_read_X7_at : GoodIn wsX7_read (va_wsS RX7 67 yX7_at wsX7_at) := goodIn_app (goodIn_of _ (by decide +kernel)) ggX7_read_X7_at
set_option maxRecDepth 20000 in
theorem ggX7_read_X7_blockOf : GoodIn wsX7_read wsX7_blockOf := goodIn_r _ [30, 5, 24, 25, 10, 26, 31, 32, 33, 34, 35, 36, 37, 38, 39, 40, 41, 42, 43, 44, 45, 46, 47, 48, 49] (by decide +kernel) (by decide +kernel)
set_option maxRecDepth 20000 in
theorem gX7_read_X7_blockOf : GoodIn wsX7_read (wsV RX7 82 RX7 yX7_blockOf wsX7_blockOf) := goodIn_app (goodIn_of _ (by decide +kernel)) ggX7_read_X7_blockOf
set_option maxRecDepth 20000 in
theorem ggX7_read_X7_can : GoodIn wsX7_read wsX7_can := goodIn_r _ [22, 23, 31, 32, 33, 34, 35, 36, 37, 38, 39, 40, 41, 42, 43, 44, 45, 46, 47, 48, 49] (by decide +kernel) (by decide +kernel)
set_option maxRecDepth 20000 in
theorem gX7_read_X7_can : GoodIn wsX7_read (wsV RX7 140 RX7 yX7_can wsX7_can) := goodIn_app (goodIn_of _ (by decide +kernel)) ggX7_read_X7_can
set_option maxRecDepth 20000 in
theorem ggX7_read_X7_isHandle : GoodIn wsX7_read wsX7_isHandle := goodIn_r _ [11, 12, 13, 14, 10, 15, 31, 32, 33, 34, 35, 36, 37, 38, 39, 40, 41, 42, 43, 44, 45, 46, 47, 48, 49] (by decide +kernel) (by decide +kernel)
set_option maxRecDepth 20000 in
theorem gX7_read_X7_isHandle : GoodIn wsX7_read (wsV RX7 186 RX7 yX7_isHandle wsX7_isHandle) := goodIn_app (goodIn_of _ (by decide +kernel)) ggX7_read_X7_isHandle
set_option maxRecDepth 20000 in
theorem ggX7_read_X7_isPage : GoodIn wsX7_read wsX7_isPage := goodIn_r _ [18, 13, 14, 10, 15] (by decide +kernel) (by decide +kernel)
set_option maxRecDepth 20000 in
theorem gX7_read_X7_isPage : GoodIn wsX7_read (va_wsS RX7 201 yX7_isPage wsX7_isPage) := goodIn_app (goodIn_of _ (by decide +kernel)) ggX7_read_X7_isPage
theorem dX7_read_0 : decode cX7_read 0 = .ok (.aload_n 0, 1) := by decide +kernel
theorem dX7_read_1 : decode cX7_read 1 = .ok (.iload_n 1, 1) := by decide +kernel
theorem dX7_read_2 : decode cX7_read 2 = .ok (.invokevirtual 186, 3) := by decide +kernel
theorem dX7_read_5 : decode cX7_read 5 = .ok (.ifCond .eq 14, 3) := by decide +kernel
theorem dX7_read_8 : decode cX7_read 8 = .ok (.iload_n 2, 1) := by decide +kernel
theorem dX7_read_9 : decode cX7_read 9 = .ok (.invokestatic 201, 3) := by decide +kernel
theorem dX7_read_12 : decode cX7_read 12 = .ok (.ifCond .eq 7, 3) := by decide +kernel
theorem dX7_read_15 : decode cX7_read 15 = .ok (.iconst 1, 1) := by decide +kernel
theorem dX7_read_16 : decode cX7_read 16 = .ok (.goto 4, 3) := by decide +kernel
theorem dX7_read_19 : decode cX7_read 19 = .ok (.iconst 0, 1) := by decide +kernel
theorem dX7_read_20 : decode cX7_read 20 = .ok (.istore_n 3, 1) := by decide +kernel
theorem dX7_read_21 : decode cX7_read 21 = .ok (.aload_n 0, 1) := by decide +kernel
theorem dX7_read_22 : decode cX7_read 22 = .ok (.iload_n 3, 1) := by decide +kernel
theorem dX7_read_23 : decode cX7_read 23 = .ok (.ifCond .ne 7, 3) := by decide +kernel
theorem dX7_read_26 : decode cX7_read 26 = .ok (.iconst 1, 1) := by decide +kernel
theorem dX7_read_27 : decode cX7_read 27 = .ok (.goto 17, 3) := by decide +kernel
theorem dX7_read_30 : decode cX7_read 30 = .ok (.aload_n 0, 1) := by decide +kernel
theorem dX7_read_31 : decode cX7_read 31 = .ok (.getfield 41, 3) := by decide +kernel
theorem dX7_read_34 : decode cX7_read 34 = .ok (.iload_n 1, 1) := by decide +kernel
theorem dX7_read_35 : decode cX7_read 35 = .ok (.baload, 1) := by decide +kernel
theorem dX7_read_36 : decode cX7_read 36 = .ok (.ifCond .eq 7, 3) := by decide +kernel
theorem dX7_read_39 : decode cX7_read 39 = .ok (.iconst 0, 1) := by decide +kernel
theorem dX7_read_40 : decode cX7_read 40 = .ok (.goto 4, 3) := by decide +kernel
theorem dX7_read_43 : decode cX7_read 43 = .ok (.iconst 2, 1) := by decide +kernel
theorem dX7_read_44 : decode cX7_read 44 = .ok (.invokevirtual 140, 3) := by decide +kernel
theorem dX7_read_47 : decode cX7_read 47 = .ok (.ifCond .ne 5, 3) := by decide +kernel
theorem dX7_read_50 : decode cX7_read 50 = .ok (.iconst 0, 1) := by decide +kernel
theorem dX7_read_51 : decode cX7_read 51 = .ok (.ireturn, 1) := by decide +kernel
theorem dX7_read_52 : decode cX7_read 52 = .ok (.bipush 16, 2) := by decide +kernel
theorem dX7_read_54 : decode cX7_read 54 = .ok (.aload_n 0, 1) := by decide +kernel
theorem dX7_read_55 : decode cX7_read 55 = .ok (.getfield 35, 3) := by decide +kernel
theorem dX7_read_58 : decode cX7_read 58 = .ok (.iload_n 1, 1) := by decide +kernel
theorem dX7_read_59 : decode cX7_read 59 = .ok (.iaload, 1) := by decide +kernel
theorem dX7_read_60 : decode cX7_read 60 = .ok (.imul, 1) := by decide +kernel
theorem dX7_read_61 : decode cX7_read 61 = .ok (.iload_n 2, 1) := by decide +kernel
theorem dX7_read_62 : decode cX7_read 62 = .ok (.iadd, 1) := by decide +kernel
theorem dX7_read_63 : decode cX7_read 63 = .ok (.istore 4, 2) := by decide +kernel
theorem dX7_read_65 : decode cX7_read 65 = .ok (.aload_n 0, 1) := by decide +kernel
theorem dX7_read_66 : decode cX7_read 66 = .ok (.getfield 23, 3) := by decide +kernel
theorem dX7_read_69 : decode cX7_read 69 = .ok (.iload 4, 2) := by decide +kernel
theorem dX7_read_71 : decode cX7_read 71 = .ok (.baload, 1) := by decide +kernel
theorem dX7_read_72 : decode cX7_read 72 = .ok (.ifCond .eq 13, 3) := by decide +kernel
theorem dX7_read_75 : decode cX7_read 75 = .ok (.aload_n 0, 1) := by decide +kernel
theorem dX7_read_76 : decode cX7_read 76 = .ok (.getfield 26, 3) := by decide +kernel
theorem dX7_read_79 : decode cX7_read 79 = .ok (.iload 4, 2) := by decide +kernel
theorem dX7_read_81 : decode cX7_read 81 = .ok (.iaload, 1) := by decide +kernel
theorem dX7_read_82 : decode cX7_read 82 = .ok (.goto 47, 3) := by decide +kernel
theorem dX7_read_85 : decode cX7_read 85 = .ok (.aload_n 0, 1) := by decide +kernel
theorem dX7_read_86 : decode cX7_read 86 = .ok (.getfield 7, 3) := by decide +kernel
theorem dX7_read_89 : decode cX7_read 89 = .ok (.iconst 0, 1) := by decide +kernel
theorem dX7_read_90 : decode cX7_read 90 = .ok (.aload_n 0, 1) := by decide +kernel
theorem dX7_read_91 : decode cX7_read 91 = .ok (.getfield 35, 3) := by decide +kernel
theorem dX7_read_94 : decode cX7_read 94 = .ok (.iload_n 1, 1) := by decide +kernel
theorem dX7_read_95 : decode cX7_read 95 = .ok (.iaload, 1) := by decide +kernel
theorem dX7_read_96 : decode cX7_read 96 = .ok (.invokestatic 67, 3) := by decide +kernel
theorem dX7_read_99 : decode cX7_read 99 = .ok (.bipush 37, 2) := by decide +kernel
theorem dX7_read_101 : decode cX7_read 101 = .ok (.iadd, 1) := by decide +kernel
theorem dX7_read_102 : decode cX7_read 102 = .ok (.iload_n 2, 1) := by decide +kernel
theorem dX7_read_103 : decode cX7_read 103 = .ok (.iadd, 1) := by decide +kernel
theorem dX7_read_104 : decode cX7_read 104 = .ok (.iaload, 1) := by decide +kernel
theorem dX7_read_105 : decode cX7_read 105 = .ok (.iconst 2, 1) := by decide +kernel
theorem dX7_read_106 : decode cX7_read 106 = .ok (.if_icmp .ne 22, 3) := by decide +kernel
theorem dX7_read_109 : decode cX7_read 109 = .ok (.aload_n 0, 1) := by decide +kernel
theorem dX7_read_110 : decode cX7_read 110 = .ok (.getfield 17, 3) := by decide +kernel
theorem dX7_read_113 : decode cX7_read 113 = .ok (.aload_n 0, 1) := by decide +kernel
theorem dX7_read_114 : decode cX7_read 114 = .ok (.aload_n 0, 1) := by decide +kernel
theorem dX7_read_115 : decode cX7_read 115 = .ok (.getfield 35, 3) := by decide +kernel
theorem dX7_read_118 : decode cX7_read 118 = .ok (.iload_n 1, 1) := by decide +kernel
theorem dX7_read_119 : decode cX7_read 119 = .ok (.iaload, 1) := by decide +kernel
theorem dX7_read_120 : decode cX7_read 120 = .ok (.iload_n 2, 1) := by decide +kernel
theorem dX7_read_121 : decode cX7_read 121 = .ok (.invokevirtual 82, 3) := by decide +kernel
theorem dX7_read_124 : decode cX7_read 124 = .ok (.iaload, 1) := by decide +kernel
theorem dX7_read_125 : decode cX7_read 125 = .ok (.goto 4, 3) := by decide +kernel
theorem dX7_read_128 : decode cX7_read 128 = .ok (.iconst 0, 1) := by decide +kernel
theorem dX7_read_129 : decode cX7_read 129 = .ok (.ireturn, 1) := by decide +kernel
def f_X7_read (u0 : S1) (p1 : Int32) (p2 : Int32) : Option (Int32 × S1) := bn (f_X7_isHandle u0 p1) (fun z_1 => jn (fun (v20_2_0 : Int32) => jn (fun (v44_3_0 : Int32) => bn (f_X7_can u0 v44_3_0) (fun z_4 => if z_4.1 = 0 then some (0, z_4.2) else chk (inb p1 30) (chk (inb ((16 * (z_4.2 10 (p1).toNatClampNeg)) + p2) 512) (jn (fun (v129_6_0 : Int32) => some (v129_6_0, z_4.2)) (fun k129_6 => if (z_4.2 4 ((16 * (z_4.2 10 (p1).toNatClampNeg)) + p2).toNatClampNeg) = 0 then chk (inb p1 30) (bn (f_X7_at 0 (z_4.2 10 (p1).toNatClampNeg)) (fun z_8 => chk (inb ((z_8 + 37) + p2) 8480) (if (z_4.2 0 ((z_8 + 37) + p2).toNatClampNeg) = 2 then chk (inb p1 30) (bn (f_X7_blockOf z_4.2 (z_4.2 10 (p1).toNatClampNeg) p2) (fun z_10 => chk (inb z_10 64) (k129_6 (z_4.2 2 (z_10).toNatClampNeg)))) else k129_6 0))) else chk (inb ((16 * (z_4.2 10 (p1).toNatClampNeg)) + p2) 512) (k129_6 (z_4.2 5 ((16 * (z_4.2 10 (p1).toNatClampNeg)) + p2).toNatClampNeg))))))) (fun k44_3 => if v20_2_0 = 0 then k44_3 1 else chk (inb p1 30) (if (u0 12 (p1).toNatClampNeg) = 0 then k44_3 2 else k44_3 0))) (fun k20_2 => jn (k20_2 0) (fun k19_13 => if z_1 = 0 then k19_13 else bn (f_X7_isPage p2) (fun z_15 => if z_15 = 0 then k19_13 else k20_2 1))))
def rmX7_read : Room := { frames := 2, cells := 0, slots := 0, locals := 43 }
set_option maxHeartbeats 4000000 in
set_option maxRecDepth 100000 in
theorem c_X7_read (l : Launch) (D : va_G) (cI cZ cJ cT : ClassId) (a0 : Nat → Nat) (sz : Nat) (u0 : S1) (p1 : Int32) (p2 : Int32) (o : Int32 × S1) (hf : f_X7_read u0 p1 p2 = some o) : Met l yX7_read wsX7_read rmX7_read (va_Pc [.ref (a0 0), .int p1, .int p2] (PW D cls (tys cI cZ cJ cT) ((wX7 cI cZ a0 u0)) sz)) (QWi D cls o.1 ((wX7 cI cZ a0 o.2)) (va_A ((wX7 cI cZ a0 u0)) sz)) 0 0 (va_A ((wX7 cI cZ a0 u0)) sz) := by
  refine Met.ofW (cc := cX7_read) (maxL := 5) (ret := (some .int)) (by decide) rfl ?_
  intro p e s m args below meth c s₁ B hml hv
  obtain ⟨hav, hsz, hP, hK, hD0⟩ := hv
  have hx := B.exec
  have hb := B.bytes
  have hr := B.returns
  have hlocks := B.notSynchronized
  have hts := atoms_spec (ws := wsX7_read) B.pre
  have hown : s.vm.findClass RX7 = some m.cls := findClass_of_methodNamed B.named
  have i7 : ∀ w ∈ wsX70, w ∈ wsX7_read := fun w h => List.mem_cons_of_mem _ (List.mem_append_right _ h)
  have hk7 := hts (.fieldLink RX7 7 "InoderyModel" "s" "[I") (by decide +kernel)
  have hk17 := hts (.fieldLink RX7 17 "InoderyModel" "number" "[I") (by decide +kernel)
  have hk23 := hts (.fieldLink RX7 23 "InoderyModel" "isDirty" "[Z") (by decide +kernel)
  have hk26 := hts (.fieldLink RX7 26 "InoderyModel" "cache" "[I") (by decide +kernel)
  have hk35 := hts (.fieldLink RX7 35 "InoderyModel" "of" "[I") (by decide +kernel)
  have hk41 := hts (.fieldLink RX7 41 "InoderyModel" "isOpen" "[Z") (by decide +kernel)
  subst hsz
  have hD := hD0.self (sz := s.heap.size)
  generalize hAe : va_A ((wX7 cI cZ a0 u0)) s.heap.size = A at hD ⊢
  have hA : ∀ q : Nat, s.heap.size ≤ q → A q := fun q h => by rw [← hAe]; exact Or.inr h
  have hS : va_S A s.heap s.heap [] := va_S.rf
  have hDD : ∀ w0 : S1, va_D A ((wX7 cI cZ a0 w0)) := fun _ => D_same (w := (wX7 cI cZ a0 u0)) rfl hD
  refine Wq (fun Q hQ => ?_)
  refine W_entry hav (Nat.le_of_ble_eq_true rfl) (fun ls hl => ?_)
  have hl : lv_has ls 5 [(0, .ref (a0 0)), (1, .int p1), (2, .int p2)] := hl
  unfold f_X7_read at hf
  refine W_heap hP hS (fun H locs hP hS => ?_)
  refine lv_aload_n hx hb dX7_read_0 rfl (lv_at hl 0 rfl) ?_
  refine lv_iload_n hx hb dX7_read_1 rfl (lv_at hl 1 rfl) ?_
  obtain ⟨z_1, hz_1, hf⟩ := bn_some hf
  refine cRV (As := [.int p1]) (rest := []) ⟨hx, hb, hml, hown, hts⟩ (c_X7_isHandle l D cI cZ cJ cT a0 u0 p1 z_1 hz_1) (cwV 1 hts gX7_read_X7_isHandle rfl rfl rfl (by decide +kernel) ⟨Nat.le_of_ble_eq_true rfl, Nat.le_of_ble_eq_true rfl⟩) hP hK (va_recv hK hP (ci := 7) (q0 := 0) rfl rfl) rfl rfl hl.1 (Nat.le_of_ble_eq_true rfl) dX7_read_2 ⟨Nat.le_of_ble_eq_true rfl, Nat.le_of_ble_eq_true rfl⟩ ?_
  obtain ⟨k20_2, hk20_2, hf⟩ := jn_some hf
  have j20_2 : ∀ (v20_2_0 : Int32) (H : Heap) (locs : List Loc) (ls : Array Slot), k20_2 v20_2_0 = some o → va_P D cls (wX7 cI cZ a0 u0) H → va_S A s.heap H locs → lv_has ls 5 [(0, .ref (a0 0)), (1, .int p1), (2, .int p2)] → W p l e (headSpec wsX7_read rmX7_read).room s m args below meth c H locs 0 0 Q (F0 m 20 ls [.int v20_2_0]) := by
    intro v20_2_0 H locs ls hf hP hS hl
    have hf := qa1 hk20_2 hf
    refine lv_istore_n (lv' := [(3, .int v20_2_0), (0, .ref (a0 0)), (1, .int p1), (2, .int p2)]) hx hb dX7_read_20 rfl hl (by decide) rfl (fun ls hl => ?_)
    refine lv_aload_n hx hb dX7_read_21 rfl (lv_at hl 1 rfl) ?_
    refine lv_iload_n hx hb dX7_read_22 rfl (lv_at hl 0 rfl) ?_
    obtain ⟨k44_3, hk44_3, hf⟩ := jn_some hf
    have j44_3 : ∀ (v44_3_0 : Int32) (H : Heap) (locs : List Loc) (ls : Array Slot), k44_3 v44_3_0 = some o → va_P D cls (wX7 cI cZ a0 u0) H → va_S A s.heap H locs → lv_has ls 5 [(0, .ref (a0 0)), (1, .int p1), (2, .int p2)] → W p l e (headSpec wsX7_read rmX7_read).room s m args below meth c H locs 0 0 Q (F0 m 44 ls [.int v44_3_0, .ref (a0 0)]) := by
      intro v44_3_0 H locs ls hf hP hS hl
      have hf := qa1 hk44_3 hf
      obtain ⟨z_4, hz_4, hf⟩ := bn_some hf
      refine cWVi (As := [.int v44_3_0]) (rest := []) ⟨hx, hb, hml, hown, hts⟩ (c_X7_can l D cI cZ cJ cT a0 H.size u0 v44_3_0 z_4 hz_4) (cwV 1 hts gX7_read_X7_can rfl rfl rfl (by decide +kernel) ⟨Nat.le_of_ble_eq_true rfl, Nat.le_of_ble_eq_true rfl⟩) hP hK (hDD u0) hS (own_free (hDD u0) hS hA) (va_recv hK hP (ci := 7) (q0 := 0) rfl rfl) rfl rfl hl.1 (Nat.le_of_ble_eq_true rfl) dX7_read_44 ⟨Nat.le_of_ble_eq_true rfl, Nat.le_of_ble_eq_true rfl⟩ (fun H1 locs hP1 hk1 hS => ?_)
      have hP : va_P D cls (wX7 cI cZ a0 z_4.2) H1 := hP1
      clear hP1 hk1
      generalize H1 = H at hP hS ⊢
      refine lv_if_ne (tgt := 52) hx hb dX7_read_47 (by decide) (fun c_5 => ?_) (fun c_5 => ?_)
      · have hf := ite_f hf c_5
        refine lv_bipush (v := 16) hx hb dX7_read_52 (by decide) ?_
        refine lv_aload_n hx hb dX7_read_54 rfl (lv_at hl 0 rfl) ?_
        refine va_get (D := D) (ci := 7) (v := .ref (a0 11)) (C := RX7) (T := TX7) (N := 19) hx hb hts i7 hown hK hP 0 rfl rfl 10 (by decide) hk35 (fun _ h9 => h9) rfl dX7_read_55 ?_
        refine lv_iload_n hx hb dX7_read_58 rfl (lv_at hl 1 rfl) ?_
        obtain ⟨hi, hf⟩ := chk_some hf
        refine va_iald hx hb hK hP 9 0 rfl rfl (inb_in hi) dX7_read_59 ?_
        refine lv_imul hx hb dX7_read_60 ?_
        refine lv_iload_n hx hb dX7_read_61 rfl (lv_at hl 2 rfl) ?_
        refine lv_iadd hx hb dX7_read_62 ?_
        refine lv_istore (lv' := [(4, .int ((16 * (z_4.2 10 (p1).toNatClampNeg)) + p2)), (0, .ref (a0 0)), (1, .int p1), (2, .int p2)]) hx hb dX7_read_63 hl (by decide) rfl (fun ls hl => ?_)
        refine lv_aload_n hx hb dX7_read_65 rfl (lv_at hl 1 rfl) ?_
        refine va_get (D := D) (ci := 7) (v := .ref (a0 5)) (C := RX7) (T := TX7) (N := 19) hx hb hts i7 hown hK hP 0 rfl rfl 4 (by decide) hk23 (fun _ h9 => h9) rfl dX7_read_66 ?_
        refine lv_iload hx hb dX7_read_69 (lv_at hl 0 rfl) ?_
        obtain ⟨hi, hf⟩ := chk_some hf
        refine va_zald hx hb hK hP 5 1 rfl rfl (inb_in hi) dX7_read_71 ?_
        obtain ⟨k129_6, hk129_6, hf⟩ := jn_some hf
        have j129_6 : ∀ (v129_6_0 : Int32) (H : Heap) (locs : List Loc) (ls : Array Slot), k129_6 v129_6_0 = some o → va_P D cls (wX7 cI cZ a0 z_4.2) H → va_S A s.heap H locs → lv_has ls 5 [] → W p l e (headSpec wsX7_read rmX7_read).room s m args below meth c H locs 0 0 Q (F0 m 129 ls [.int v129_6_0]) := by
          intro v129_6_0 H locs ls hf hP hS hl
          have hf := qa1 hk129_6 hf
          have eo := Option.some.inj hf
          have hP : va_P D cls (wX7 cI cZ a0 o.2) H := by rw [← eo]; exact hP
          rw [hQ]
          exact W.iret hx hb hr (fun t ht hW => ⟨⟨_, (), rfl, congrArg Prod.fst eo, P_at ht hP⟩, hS.F ht⟩) hS.2.2 dX7_read_129 hlocks
        refine lv_if_eq (tgt := 85) hx hb dX7_read_72 (by decide) (fun c_7 => ?_) (fun c_7 => ?_)
        · have hf := ite_t hf c_7
          refine lv_aload_n hx hb dX7_read_85 rfl (lv_at hl 1 rfl) ?_
          refine va_get (D := D) (ci := 7) (v := .ref (a0 1)) (C := RX7) (T := TX7) (N := 19) hx hb hts i7 hown hK hP 0 rfl rfl 0 (by decide) hk7 (fun _ h9 => h9) rfl dX7_read_86 ?_
          refine lv_iconst (v := 0) hx hb dX7_read_89 (by decide) ?_
          refine lv_aload_n hx hb dX7_read_90 rfl (lv_at hl 1 rfl) ?_
          refine va_get (D := D) (ci := 7) (v := .ref (a0 11)) (C := RX7) (T := TX7) (N := 19) hx hb hts i7 hown hK hP 0 rfl rfl 10 (by decide) hk35 (fun _ h9 => h9) rfl dX7_read_91 ?_
          refine lv_iload_n hx hb dX7_read_94 rfl (lv_at hl 2 rfl) ?_
          obtain ⟨hi, hf⟩ := chk_some hf
          refine va_iald hx hb hK hP 9 0 rfl rfl (inb_in hi) dX7_read_95 ?_
          obtain ⟨z_8, hz_8, hf⟩ := bn_some hf
          refine c0S (As := [.int 0, .int (z_4.2 10 (p1).toNatClampNeg)]) (rest := [.ref (a0 1)]) ⟨hx, hb, hml, hown, hts⟩ (c_X7_at l D cI cZ cJ cT 0 (z_4.2 10 (p1).toNatClampNeg) z_8 hz_8) (va_cwS 2 hts gX7_read_X7_at rfl rfl rfl (by decide +kernel) ⟨Nat.le_of_ble_eq_true rfl, Nat.le_of_ble_eq_true rfl⟩) rfl rfl hl.1 (Nat.le_of_ble_eq_true rfl) dX7_read_96 ⟨Nat.le_of_ble_eq_true rfl, Nat.le_of_ble_eq_true rfl⟩ ?_
          refine lv_bipush (v := 37) hx hb dX7_read_99 (by decide) ?_
          refine lv_iadd hx hb dX7_read_101 ?_
          refine lv_iload_n hx hb dX7_read_102 rfl (lv_at hl 3 rfl) ?_
          refine lv_iadd hx hb dX7_read_103 ?_
          obtain ⟨hi, hf⟩ := chk_some hf
          refine va_iald hx hb hK hP 1 0 rfl rfl (inb_in hi) dX7_read_104 ?_
          refine lv_iconst (v := 2) hx hb dX7_read_105 (by decide) ?_
          refine lv_icmp_ne (tgt := 128) hx hb dX7_read_106 (by decide) (fun c_9 => ?_) (fun c_9 => ?_)
          · have hf := ite_f hf c_9
            refine lv_iconst (v := 0) hx hb dX7_read_128 (by decide) ?_
            exact j129_6 _ _ _ _ hf hP hS (lv_sub hl [] rfl)
          · have hf := ite_t hf c_9
            refine lv_aload_n hx hb dX7_read_109 rfl (lv_at hl 1 rfl) ?_
            refine va_get (D := D) (ci := 7) (v := .ref (a0 3)) (C := RX7) (T := TX7) (N := 19) hx hb hts i7 hown hK hP 0 rfl rfl 2 (by decide) hk17 (fun _ h9 => h9) rfl dX7_read_110 ?_
            refine lv_aload_n hx hb dX7_read_113 rfl (lv_at hl 1 rfl) ?_
            refine lv_aload_n hx hb dX7_read_114 rfl (lv_at hl 1 rfl) ?_
            refine va_get (D := D) (ci := 7) (v := .ref (a0 11)) (C := RX7) (T := TX7) (N := 19) hx hb hts i7 hown hK hP 0 rfl rfl 10 (by decide) hk35 (fun _ h9 => h9) rfl dX7_read_115 ?_
            refine lv_iload_n hx hb dX7_read_118 rfl (lv_at hl 2 rfl) ?_
            obtain ⟨hi, hf⟩ := chk_some hf
            refine va_iald hx hb hK hP 9 0 rfl rfl (inb_in hi) dX7_read_119 ?_
            refine lv_iload_n hx hb dX7_read_120 rfl (lv_at hl 3 rfl) ?_
            obtain ⟨z_10, hz_10, hf⟩ := bn_some hf
            refine cRV (As := [.int (z_4.2 10 (p1).toNatClampNeg), .int p2]) (rest := [.ref (a0 3)]) ⟨hx, hb, hml, hown, hts⟩ (c_X7_blockOf l D cI cZ cJ cT a0 z_4.2 (z_4.2 10 (p1).toNatClampNeg) p2 z_10 hz_10) (cwV 2 hts gX7_read_X7_blockOf rfl rfl rfl (by decide +kernel) ⟨Nat.le_of_ble_eq_true rfl, Nat.le_of_ble_eq_true rfl⟩) hP hK (va_recv hK hP (ci := 7) (q0 := 0) rfl rfl) rfl rfl hl.1 (Nat.le_of_ble_eq_true rfl) dX7_read_121 ⟨Nat.le_of_ble_eq_true rfl, Nat.le_of_ble_eq_true rfl⟩ ?_
            obtain ⟨hi, hf⟩ := chk_some hf
            refine va_iald hx hb hK hP 3 0 rfl rfl (inb_in hi) dX7_read_124 ?_
            refine lv_goto (tgt := 129) hx hb dX7_read_125 (by decide) ?_
            exact j129_6 _ _ _ _ hf hP hS (lv_sub hl [] rfl)
        · have hf := ite_f hf c_7
          refine lv_aload_n hx hb dX7_read_75 rfl (lv_at hl 1 rfl) ?_
          refine va_get (D := D) (ci := 7) (v := .ref (a0 6)) (C := RX7) (T := TX7) (N := 19) hx hb hts i7 hown hK hP 0 rfl rfl 5 (by decide) hk26 (fun _ h9 => h9) rfl dX7_read_76 ?_
          refine lv_iload hx hb dX7_read_79 (lv_at hl 0 rfl) ?_
          obtain ⟨hi, hf⟩ := chk_some hf
          refine va_iald hx hb hK hP 6 0 rfl rfl (inb_in hi) dX7_read_81 ?_
          refine lv_goto (tgt := 129) hx hb dX7_read_82 (by decide) ?_
          exact j129_6 _ _ _ _ hf hP hS (lv_sub hl [] rfl)
      · have hf := ite_t hf c_5
        refine lv_iconst (v := 0) hx hb dX7_read_50 (by decide) ?_
        have eo := Option.some.inj hf
        have hP : va_P D cls (wX7 cI cZ a0 o.2) H := by rw [← eo]; exact hP
        rw [hQ]
        exact W.iret hx hb hr (fun t ht hW => ⟨⟨_, (), rfl, congrArg Prod.fst eo, P_at ht hP⟩, hS.F ht⟩) hS.2.2 dX7_read_51 hlocks
    refine lv_if_ne (tgt := 30) hx hb dX7_read_23 (by decide) (fun c_11 => ?_) (fun c_11 => ?_)
    · have hf := ite_f hf c_11
      refine lv_aload_n hx hb dX7_read_30 rfl (lv_at hl 1 rfl) ?_
      refine va_get (D := D) (ci := 7) (v := .ref (a0 13)) (C := RX7) (T := TX7) (N := 19) hx hb hts i7 hown hK hP 0 rfl rfl 12 (by decide) hk41 (fun _ h9 => h9) rfl dX7_read_31 ?_
      refine lv_iload_n hx hb dX7_read_34 rfl (lv_at hl 2 rfl) ?_
      obtain ⟨hi, hf⟩ := chk_some hf
      refine va_zald hx hb hK hP 11 1 rfl rfl (inb_in hi) dX7_read_35 ?_
      refine lv_if_eq (tgt := 43) hx hb dX7_read_36 (by decide) (fun c_12 => ?_) (fun c_12 => ?_)
      · have hf := ite_t hf c_12
        refine lv_iconst (v := 2) hx hb dX7_read_43 (by decide) ?_
        exact j44_3 _ _ _ _ hf hP hS (lv_sub hl [1, 2, 3] rfl)
      · have hf := ite_f hf c_12
        refine lv_iconst (v := 0) hx hb dX7_read_39 (by decide) ?_
        refine lv_goto (tgt := 44) hx hb dX7_read_40 (by decide) ?_
        exact j44_3 _ _ _ _ hf hP hS (lv_sub hl [1, 2, 3] rfl)
    · have hf := ite_t hf c_11
      refine lv_iconst (v := 1) hx hb dX7_read_26 (by decide) ?_
      refine lv_goto (tgt := 44) hx hb dX7_read_27 (by decide) ?_
      exact j44_3 _ _ _ _ hf hP hS (lv_sub hl [1, 2, 3] rfl)
  obtain ⟨k19_13, hk19_13, hf⟩ := jn_some hf
  have j19_13 : ∀ (H : Heap) (locs : List Loc) (ls : Array Slot), k19_13 = some o → va_P D cls (wX7 cI cZ a0 u0) H → va_S A s.heap H locs → lv_has ls 5 [(0, .ref (a0 0)), (1, .int p1), (2, .int p2)] → W p l e (headSpec wsX7_read rmX7_read).room s m args below meth c H locs 0 0 Q (F0 m 19 ls []) := by
    intro H locs ls hf hP hS hl
    have hf := qa0 hk19_13 hf
    refine lv_iconst (v := 0) hx hb dX7_read_19 (by decide) ?_
    exact j20_2 _ _ _ _ hf hP hS (lv_sub hl [0, 1, 2] rfl)
  refine lv_if_eq (tgt := 19) hx hb dX7_read_5 (by decide) (fun c_14 => ?_) (fun c_14 => ?_)
  · have hf := ite_t hf c_14
    exact j19_13 _ _ _ hf hP hS (lv_sub hl [0, 1, 2] rfl)
  · have hf := ite_f hf c_14
    refine lv_iload_n hx hb dX7_read_8 rfl (lv_at hl 2 rfl) ?_
    obtain ⟨z_15, hz_15, hf⟩ := bn_some hf
    refine c0S (As := [.int p2]) (rest := []) ⟨hx, hb, hml, hown, hts⟩ (c_X7_isPage l D cI cZ cJ cT p2 z_15 hz_15) (va_cwS 1 hts gX7_read_X7_isPage rfl rfl rfl (by decide +kernel) ⟨Nat.le_of_ble_eq_true rfl, Nat.le_of_ble_eq_true rfl⟩) rfl rfl hl.1 (Nat.le_of_ble_eq_true rfl) dX7_read_9 ⟨Nat.le_of_ble_eq_true rfl, Nat.le_of_ble_eq_true rfl⟩ ?_
    refine lv_if_eq (tgt := 19) hx hb dX7_read_12 (by decide) (fun c_16 => ?_) (fun c_16 => ?_)
    · have hf := ite_t hf c_16
      exact j19_13 _ _ _ hf hP hS (lv_sub hl [0, 1, 2] rfl)
    · have hf := ite_f hf c_16
      refine lv_iconst (v := 1) hx hb dX7_read_15 (by decide) ?_
      refine lv_goto (tgt := 20) hx hb dX7_read_16 (by decide) ?_
      exact j20_2 _ _ _ _ hf hP hS (lv_sub hl [0, 1, 2] rfl)
set_option maxRecDepth 20000 in
theorem ggX7_ahead_X7_at : GoodIn wsX7_ahead wsX7_at := goodIn_r _ [23] (by decide +kernel) (by decide +kernel)
set_option maxRecDepth 20000 in
theorem gX7_ahead_X7_at : GoodIn wsX7_ahead (va_wsS RX7 67 yX7_at wsX7_at) := goodIn_app (goodIn_of _ (by decide +kernel)) ggX7_ahead_X7_at
set_option maxRecDepth 20000 in
theorem ggX7_ahead_X7_blockFor : GoodIn wsX7_ahead wsX7_blockFor := goodIn_r _ [40, 17, 18, 19, 8, 20, 4, 21, 22, 23, 41, 42, 43, 44, 45, 46, 47, 48, 49, 60, 61, 62, 63, 64, 65, 66, 67, 68, 69, 70, 71, 72, 73, 74, 75, 76, 77, 78] (by decide +kernel) (by decide +kernel)
set_option maxRecDepth 20000 in
theorem gX7_ahead_X7_blockFor : GoodIn wsX7_ahead (wsV RX7 207 RX7 yX7_blockFor wsX7_blockFor) := goodIn_app (goodIn_of _ (by decide +kernel)) ggX7_ahead_X7_blockFor
set_option maxRecDepth 20000 in
theorem ggX7_ahead_X7_blockOf : GoodIn wsX7_ahead wsX7_blockOf := goodIn_r _ [20, 4, 21, 22, 8, 23, 60, 61, 62, 63, 64, 65, 66, 67, 68, 69, 70, 71, 72, 73, 74, 75, 76, 77, 78] (by decide +kernel) (by decide +kernel)
set_option maxRecDepth 20000 in
theorem gX7_ahead_X7_blockOf : GoodIn wsX7_ahead (wsV RX7 82 RX7 yX7_blockOf wsX7_blockOf) := goodIn_app (goodIn_of _ (by decide +kernel)) ggX7_ahead_X7_blockOf
set_option maxRecDepth 20000 in
theorem ggX7_ahead_X7_can : GoodIn wsX7_ahead wsX7_can := goodIn_r _ [58, 59, 60, 61, 62, 63, 64, 65, 66, 67, 68, 69, 70, 71, 72, 73, 74, 75, 76, 77, 78] (by decide +kernel) (by decide +kernel)
set_option maxRecDepth 20000 in
theorem gX7_ahead_X7_can : GoodIn wsX7_ahead (wsV RX7 140 RX7 yX7_can wsX7_can) := goodIn_app (goodIn_of _ (by decide +kernel)) ggX7_ahead_X7_can
set_option maxRecDepth 20000 in
theorem ggX7_ahead_X7_digs : GoodIn wsX7_ahead wsX7_digs := goodIn_r _ [53, 4, 54, 21, 22, 8, 23, 60, 61, 62, 63, 64, 65, 66, 67, 68, 69, 70, 71, 72, 73, 74, 75, 76, 77, 78] (by decide +kernel) (by decide +kernel)
set_option maxRecDepth 20000 in
theorem gX7_ahead_X7_digs : GoodIn wsX7_ahead (wsV RX7 94 RX7 yX7_digs wsX7_digs) := goodIn_app (goodIn_of _ (by decide +kernel)) ggX7_ahead_X7_digs
set_option maxRecDepth 20000 in
theorem ggX7_ahead_X7_isHandle : GoodIn wsX7_ahead wsX7_isHandle := goodIn_r _ [9, 10, 11, 12, 8, 13, 60, 61, 62, 63, 64, 65, 66, 67, 68, 69, 70, 71, 72, 73, 74, 75, 76, 77, 78] (by decide +kernel) (by decide +kernel)
set_option maxRecDepth 20000 in
theorem gX7_ahead_X7_isHandle : GoodIn wsX7_ahead (wsV RX7 186 RX7 yX7_isHandle wsX7_isHandle) := goodIn_app (goodIn_of _ (by decide +kernel)) ggX7_ahead_X7_isHandle
set_option maxRecDepth 20000 in
theorem ggX7_ahead_X7_isPage : GoodIn wsX7_ahead wsX7_isPage := goodIn_r _ [16, 11, 12, 8, 13] (by decide +kernel) (by decide +kernel)
set_option maxRecDepth 20000 in
theorem gX7_ahead_X7_isPage : GoodIn wsX7_ahead (va_wsS RX7 201 yX7_isPage wsX7_isPage) := goodIn_app (goodIn_of _ (by decide +kernel)) ggX7_ahead_X7_isPage
set_option maxRecDepth 20000 in
theorem ggX7_ahead_X7_isShort : GoodIn wsX7_ahead wsX7_isShort := goodIn_r _ [27, 4, 28, 21, 22, 8, 23, 29, 30, 31, 32, 33, 34, 35, 36, 17, 18, 19, 20, 60, 61, 62, 63, 64, 65, 66, 67, 68, 69, 70, 71, 72, 73, 74, 75, 76, 77, 78] (by decide +kernel) (by decide +kernel)
set_option maxRecDepth 20000 in
theorem gX7_ahead_X7_isShort : GoodIn wsX7_ahead (wsV RX7 204 RX7 yX7_isShort wsX7_isShort) := goodIn_app (goodIn_of _ (by decide +kernel)) ggX7_ahead_X7_isShort
theorem dX7_ahead_0 : decode cX7_ahead 0 = .ok (.aload_n 0, 1) := by decide +kernel
theorem dX7_ahead_1 : decode cX7_ahead 1 = .ok (.iload_n 1, 1) := by decide +kernel
theorem dX7_ahead_2 : decode cX7_ahead 2 = .ok (.invokevirtual 186, 3) := by decide +kernel
theorem dX7_ahead_5 : decode cX7_ahead 5 = .ok (.ifCond .eq 21, 3) := by decide +kernel
theorem dX7_ahead_8 : decode cX7_ahead 8 = .ok (.iload_n 2, 1) := by decide +kernel
theorem dX7_ahead_9 : decode cX7_ahead 9 = .ok (.invokestatic 201, 3) := by decide +kernel
theorem dX7_ahead_12 : decode cX7_ahead 12 = .ok (.ifCond .eq 14, 3) := by decide +kernel
theorem dX7_ahead_15 : decode cX7_ahead 15 = .ok (.iload_n 3, 1) := by decide +kernel
theorem dX7_ahead_16 : decode cX7_ahead 16 = .ok (.invokestatic 201, 3) := by decide +kernel
theorem dX7_ahead_19 : decode cX7_ahead 19 = .ok (.ifCond .eq 7, 3) := by decide +kernel
theorem dX7_ahead_22 : decode cX7_ahead 22 = .ok (.iconst 1, 1) := by decide +kernel
theorem dX7_ahead_23 : decode cX7_ahead 23 = .ok (.goto 4, 3) := by decide +kernel
theorem dX7_ahead_26 : decode cX7_ahead 26 = .ok (.iconst 0, 1) := by decide +kernel
theorem dX7_ahead_27 : decode cX7_ahead 27 = .ok (.istore 4, 2) := by decide +kernel
theorem dX7_ahead_29 : decode cX7_ahead 29 = .ok (.iload 4, 2) := by decide +kernel
theorem dX7_ahead_31 : decode cX7_ahead 31 = .ok (.ifCond .eq 30, 3) := by decide +kernel
theorem dX7_ahead_34 : decode cX7_ahead 34 = .ok (.iload_n 3, 1) := by decide +kernel
theorem dX7_ahead_35 : decode cX7_ahead 35 = .ok (.iload_n 2, 1) := by decide +kernel
theorem dX7_ahead_36 : decode cX7_ahead 36 = .ok (.if_icmp .lt 25, 3) := by decide +kernel
theorem dX7_ahead_39 : decode cX7_ahead 39 = .ok (.aload_n 0, 1) := by decide +kernel
theorem dX7_ahead_40 : decode cX7_ahead 40 = .ok (.getfield 41, 3) := by decide +kernel
theorem dX7_ahead_43 : decode cX7_ahead 43 = .ok (.iload_n 1, 1) := by decide +kernel
theorem dX7_ahead_44 : decode cX7_ahead 44 = .ok (.baload, 1) := by decide +kernel
theorem dX7_ahead_45 : decode cX7_ahead 45 = .ok (.ifCond .eq 16, 3) := by decide +kernel
theorem dX7_ahead_48 : decode cX7_ahead 48 = .ok (.aload_n 0, 1) := by decide +kernel
theorem dX7_ahead_49 : decode cX7_ahead 49 = .ok (.getfield 38, 3) := by decide +kernel
theorem dX7_ahead_52 : decode cX7_ahead 52 = .ok (.iload_n 1, 1) := by decide +kernel
theorem dX7_ahead_53 : decode cX7_ahead 53 = .ok (.baload, 1) := by decide +kernel
theorem dX7_ahead_54 : decode cX7_ahead 54 = .ok (.ifCond .eq 7, 3) := by decide +kernel
theorem dX7_ahead_57 : decode cX7_ahead 57 = .ok (.iconst 1, 1) := by decide +kernel
theorem dX7_ahead_58 : decode cX7_ahead 58 = .ok (.goto 4, 3) := by decide +kernel
theorem dX7_ahead_61 : decode cX7_ahead 61 = .ok (.iconst 0, 1) := by decide +kernel
theorem dX7_ahead_62 : decode cX7_ahead 62 = .ok (.istore 5, 2) := by decide +kernel
theorem dX7_ahead_64 : decode cX7_ahead 64 = .ok (.iload 4, 2) := by decide +kernel
theorem dX7_ahead_66 : decode cX7_ahead 66 = .ok (.ifCond .eq 12, 3) := by decide +kernel
theorem dX7_ahead_69 : decode cX7_ahead 69 = .ok (.aload_n 0, 1) := by decide +kernel
theorem dX7_ahead_70 : decode cX7_ahead 70 = .ok (.getfield 35, 3) := by decide +kernel
theorem dX7_ahead_73 : decode cX7_ahead 73 = .ok (.iload_n 1, 1) := by decide +kernel
theorem dX7_ahead_74 : decode cX7_ahead 74 = .ok (.iaload, 1) := by decide +kernel
theorem dX7_ahead_75 : decode cX7_ahead 75 = .ok (.goto 4, 3) := by decide +kernel
theorem dX7_ahead_78 : decode cX7_ahead 78 = .ok (.iconst 0, 1) := by decide +kernel
theorem dX7_ahead_79 : decode cX7_ahead 79 = .ok (.istore 6, 2) := by decide +kernel
theorem dX7_ahead_81 : decode cX7_ahead 81 = .ok (.iconst 0, 1) := by decide +kernel
theorem dX7_ahead_82 : decode cX7_ahead 82 = .ok (.istore 7, 2) := by decide +kernel
theorem dX7_ahead_84 : decode cX7_ahead 84 = .ok (.iload_n 2, 1) := by decide +kernel
theorem dX7_ahead_85 : decode cX7_ahead 85 = .ok (.istore 8, 2) := by decide +kernel
theorem dX7_ahead_87 : decode cX7_ahead 87 = .ok (.iload 5, 2) := by decide +kernel
theorem dX7_ahead_89 : decode cX7_ahead 89 = .ok (.ifCond .eq 127, 3) := by decide +kernel
theorem dX7_ahead_92 : decode cX7_ahead 92 = .ok (.iload 8, 2) := by decide +kernel
theorem dX7_ahead_94 : decode cX7_ahead 94 = .ok (.iload_n 3, 1) := by decide +kernel
theorem dX7_ahead_95 : decode cX7_ahead 95 = .ok (.if_icmp .gt 121, 3) := by decide +kernel
theorem dX7_ahead_98 : decode cX7_ahead 98 = .ok (.aload_n 0, 1) := by decide +kernel
theorem dX7_ahead_99 : decode cX7_ahead 99 = .ok (.iload 6, 2) := by decide +kernel
theorem dX7_ahead_101 : decode cX7_ahead 101 = .ok (.iload 8, 2) := by decide +kernel
theorem dX7_ahead_103 : decode cX7_ahead 103 = .ok (.invokevirtual 82, 3) := by decide +kernel
theorem dX7_ahead_106 : decode cX7_ahead 106 = .ok (.iconst (-1), 1) := by decide +kernel
theorem dX7_ahead_107 : decode cX7_ahead 107 = .ok (.if_icmp .ne 103, 3) := by decide +kernel
theorem dX7_ahead_110 : decode cX7_ahead 110 = .ok (.aload_n 0, 1) := by decide +kernel
theorem dX7_ahead_111 : decode cX7_ahead 111 = .ok (.iload 6, 2) := by decide +kernel
theorem dX7_ahead_113 : decode cX7_ahead 113 = .ok (.invokevirtual 204, 3) := by decide +kernel
theorem dX7_ahead_116 : decode cX7_ahead 116 = .ok (.ifCond .eq 7, 3) := by decide +kernel
theorem dX7_ahead_119 : decode cX7_ahead 119 = .ok (.iconst (-1), 1) := by decide +kernel
theorem dX7_ahead_120 : decode cX7_ahead 120 = .ok (.goto 11, 3) := by decide +kernel
theorem dX7_ahead_123 : decode cX7_ahead 123 = .ok (.aload_n 0, 1) := by decide +kernel
theorem dX7_ahead_124 : decode cX7_ahead 124 = .ok (.iload 6, 2) := by decide +kernel
theorem dX7_ahead_126 : decode cX7_ahead 126 = .ok (.iload 8, 2) := by decide +kernel
theorem dX7_ahead_128 : decode cX7_ahead 128 = .ok (.invokevirtual 207, 3) := by decide +kernel
theorem dX7_ahead_131 : decode cX7_ahead 131 = .ok (.istore 9, 2) := by decide +kernel
theorem dX7_ahead_133 : decode cX7_ahead 133 = .ok (.iload 9, 2) := by decide +kernel
theorem dX7_ahead_135 : decode cX7_ahead 135 = .ok (.iconst (-1), 1) := by decide +kernel
theorem dX7_ahead_136 : decode cX7_ahead 136 = .ok (.if_icmp .eq 7, 3) := by decide +kernel
theorem dX7_ahead_139 : decode cX7_ahead 139 = .ok (.iconst 1, 1) := by decide +kernel
theorem dX7_ahead_140 : decode cX7_ahead 140 = .ok (.goto 4, 3) := by decide +kernel
theorem dX7_ahead_143 : decode cX7_ahead 143 = .ok (.iconst 0, 1) := by decide +kernel
theorem dX7_ahead_144 : decode cX7_ahead 144 = .ok (.istore 5, 2) := by decide +kernel
theorem dX7_ahead_146 : decode cX7_ahead 146 = .ok (.iload 7, 2) := by decide +kernel
theorem dX7_ahead_148 : decode cX7_ahead 148 = .ok (.iload 5, 2) := by decide +kernel
theorem dX7_ahead_150 : decode cX7_ahead 150 = .ok (.ifCond .eq 10, 3) := by decide +kernel
theorem dX7_ahead_153 : decode cX7_ahead 153 = .ok (.iconst 1, 1) := by decide +kernel
theorem dX7_ahead_154 : decode cX7_ahead 154 = .ok (.iload 8, 2) := by decide +kernel
theorem dX7_ahead_156 : decode cX7_ahead 156 = .ok (.ishl, 1) := by decide +kernel
theorem dX7_ahead_157 : decode cX7_ahead 157 = .ok (.goto 4, 3) := by decide +kernel
theorem dX7_ahead_160 : decode cX7_ahead 160 = .ok (.iconst 0, 1) := by decide +kernel
theorem dX7_ahead_161 : decode cX7_ahead 161 = .ok (.ior, 1) := by decide +kernel
theorem dX7_ahead_162 : decode cX7_ahead 162 = .ok (.istore 7, 2) := by decide +kernel
theorem dX7_ahead_164 : decode cX7_ahead 164 = .ok (.aload_n 0, 1) := by decide +kernel
theorem dX7_ahead_165 : decode cX7_ahead 165 = .ok (.getfield 7, 3) := by decide +kernel
theorem dX7_ahead_168 : decode cX7_ahead 168 = .ok (.iconst 0, 1) := by decide +kernel
theorem dX7_ahead_169 : decode cX7_ahead 169 = .ok (.iload 6, 2) := by decide +kernel
theorem dX7_ahead_171 : decode cX7_ahead 171 = .ok (.invokestatic 67, 3) := by decide +kernel
theorem dX7_ahead_174 : decode cX7_ahead 174 = .ok (.bipush 21, 2) := by decide +kernel
theorem dX7_ahead_176 : decode cX7_ahead 176 = .ok (.iadd, 1) := by decide +kernel
theorem dX7_ahead_177 : decode cX7_ahead 177 = .ok (.iload 8, 2) := by decide +kernel
theorem dX7_ahead_179 : decode cX7_ahead 179 = .ok (.iadd, 1) := by decide +kernel
theorem dX7_ahead_180 : decode cX7_ahead 180 = .ok (.iload 9, 2) := by decide +kernel
theorem dX7_ahead_182 : decode cX7_ahead 182 = .ok (.iastore, 1) := by decide +kernel
theorem dX7_ahead_183 : decode cX7_ahead 183 = .ok (.aload_n 0, 1) := by decide +kernel
theorem dX7_ahead_184 : decode cX7_ahead 184 = .ok (.getfield 7, 3) := by decide +kernel
theorem dX7_ahead_187 : decode cX7_ahead 187 = .ok (.iconst 0, 1) := by decide +kernel
theorem dX7_ahead_188 : decode cX7_ahead 188 = .ok (.iload 6, 2) := by decide +kernel
theorem dX7_ahead_190 : decode cX7_ahead 190 = .ok (.invokestatic 67, 3) := by decide +kernel
theorem dX7_ahead_193 : decode cX7_ahead 193 = .ok (.bipush 37, 2) := by decide +kernel
theorem dX7_ahead_195 : decode cX7_ahead 195 = .ok (.iadd, 1) := by decide +kernel
theorem dX7_ahead_196 : decode cX7_ahead 196 = .ok (.iload 8, 2) := by decide +kernel
theorem dX7_ahead_198 : decode cX7_ahead 198 = .ok (.iadd, 1) := by decide +kernel
theorem dX7_ahead_199 : decode cX7_ahead 199 = .ok (.iload 5, 2) := by decide +kernel
theorem dX7_ahead_201 : decode cX7_ahead 201 = .ok (.ifCond .eq 7, 3) := by decide +kernel
theorem dX7_ahead_204 : decode cX7_ahead 204 = .ok (.iconst 1, 1) := by decide +kernel
theorem dX7_ahead_205 : decode cX7_ahead 205 = .ok (.goto 4, 3) := by decide +kernel
theorem dX7_ahead_208 : decode cX7_ahead 208 = .ok (.iconst 0, 1) := by decide +kernel
theorem dX7_ahead_209 : decode cX7_ahead 209 = .ok (.iastore, 1) := by decide +kernel
theorem dX7_ahead_210 : decode cX7_ahead 210 = .ok (.iinc 8 1, 3) := by decide +kernel
theorem dX7_ahead_213 : decode cX7_ahead 213 = .ok (.goto (-126), 3) := by decide +kernel
theorem dX7_ahead_216 : decode cX7_ahead 216 = .ok (.iconst 0, 1) := by decide +kernel
theorem dX7_ahead_217 : decode cX7_ahead 217 = .ok (.istore 8, 2) := by decide +kernel
theorem dX7_ahead_219 : decode cX7_ahead 219 = .ok (.iconst 0, 1) := by decide +kernel
theorem dX7_ahead_220 : decode cX7_ahead 220 = .ok (.istore 9, 2) := by decide +kernel
theorem dX7_ahead_222 : decode cX7_ahead 222 = .ok (.iload 9, 2) := by decide +kernel
theorem dX7_ahead_224 : decode cX7_ahead 224 = .ok (.bipush 16, 2) := by decide +kernel
theorem dX7_ahead_226 : decode cX7_ahead 226 = .ok (.if_icmp .ge 45, 3) := by decide +kernel
theorem dX7_ahead_229 : decode cX7_ahead 229 = .ok (.iload 8, 2) := by decide +kernel
theorem dX7_ahead_231 : decode cX7_ahead 231 = .ok (.iload 7, 2) := by decide +kernel
theorem dX7_ahead_233 : decode cX7_ahead 233 = .ok (.iload 9, 2) := by decide +kernel
theorem dX7_ahead_235 : decode cX7_ahead 235 = .ok (.ishr, 1) := by decide +kernel
theorem dX7_ahead_236 : decode cX7_ahead 236 = .ok (.iconst 1, 1) := by decide +kernel
theorem dX7_ahead_237 : decode cX7_ahead 237 = .ok (.iand, 1) := by decide +kernel
theorem dX7_ahead_238 : decode cX7_ahead 238 = .ok (.iadd, 1) := by decide +kernel
theorem dX7_ahead_239 : decode cX7_ahead 239 = .ok (.istore 8, 2) := by decide +kernel
theorem dX7_ahead_241 : decode cX7_ahead 241 = .ok (.iload 5, 2) := by decide +kernel
theorem dX7_ahead_243 : decode cX7_ahead 243 = .ok (.ifCond .ne 22, 3) := by decide +kernel
theorem dX7_ahead_246 : decode cX7_ahead 246 = .ok (.iload 7, 2) := by decide +kernel
theorem dX7_ahead_248 : decode cX7_ahead 248 = .ok (.iload 9, 2) := by decide +kernel
theorem dX7_ahead_250 : decode cX7_ahead 250 = .ok (.ishr, 1) := by decide +kernel
theorem dX7_ahead_251 : decode cX7_ahead 251 = .ok (.iconst 1, 1) := by decide +kernel
theorem dX7_ahead_252 : decode cX7_ahead 252 = .ok (.iand, 1) := by decide +kernel
theorem dX7_ahead_253 : decode cX7_ahead 253 = .ok (.iconst 1, 1) := by decide +kernel
theorem dX7_ahead_254 : decode cX7_ahead 254 = .ok (.if_icmp .ne 11, 3) := by decide +kernel
theorem dX7_ahead_257 : decode cX7_ahead 257 = .ok (.aload_n 0, 1) := by decide +kernel
theorem dX7_ahead_258 : decode cX7_ahead 258 = .ok (.iload 6, 2) := by decide +kernel
theorem dX7_ahead_260 : decode cX7_ahead 260 = .ok (.iload 9, 2) := by decide +kernel
theorem dX7_ahead_262 : decode cX7_ahead 262 = .ok (.invokevirtual 94, 3) := by decide +kernel
theorem dX7_ahead_265 : decode cX7_ahead 265 = .ok (.iinc 9 1, 3) := by decide +kernel
theorem dX7_ahead_268 : decode cX7_ahead 268 = .ok (.goto (-46), 3) := by decide +kernel
theorem dX7_ahead_271 : decode cX7_ahead 271 = .ok (.aload_n 0, 1) := by decide +kernel
theorem dX7_ahead_272 : decode cX7_ahead 272 = .ok (.iload 4, 2) := by decide +kernel
theorem dX7_ahead_274 : decode cX7_ahead 274 = .ok (.ifCond .ne 7, 3) := by decide +kernel
theorem dX7_ahead_277 : decode cX7_ahead 277 = .ok (.iconst 1, 1) := by decide +kernel
theorem dX7_ahead_278 : decode cX7_ahead 278 = .ok (.goto 22, 3) := by decide +kernel
theorem dX7_ahead_281 : decode cX7_ahead 281 = .ok (.iload_n 3, 1) := by decide +kernel
theorem dX7_ahead_282 : decode cX7_ahead 282 = .ok (.iload_n 2, 1) := by decide +kernel
theorem dX7_ahead_283 : decode cX7_ahead 283 = .ok (.if_icmp .ge 7, 3) := by decide +kernel
theorem dX7_ahead_286 : decode cX7_ahead 286 = .ok (.iconst 2, 1) := by decide +kernel
theorem dX7_ahead_287 : decode cX7_ahead 287 = .ok (.goto 13, 3) := by decide +kernel
theorem dX7_ahead_290 : decode cX7_ahead 290 = .ok (.iload 5, 2) := by decide +kernel
theorem dX7_ahead_292 : decode cX7_ahead 292 = .ok (.ifCond .eq 7, 3) := by decide +kernel
theorem dX7_ahead_295 : decode cX7_ahead 295 = .ok (.iconst 0, 1) := by decide +kernel
theorem dX7_ahead_296 : decode cX7_ahead 296 = .ok (.goto 4, 3) := by decide +kernel
theorem dX7_ahead_299 : decode cX7_ahead 299 = .ok (.iconst 3, 1) := by decide +kernel
theorem dX7_ahead_300 : decode cX7_ahead 300 = .ok (.invokevirtual 140, 3) := by decide +kernel
theorem dX7_ahead_303 : decode cX7_ahead 303 = .ok (.ifCond .eq 8, 3) := by decide +kernel
theorem dX7_ahead_306 : decode cX7_ahead 306 = .ok (.iload 8, 2) := by decide +kernel
theorem dX7_ahead_308 : decode cX7_ahead 308 = .ok (.goto 4, 3) := by decide +kernel
theorem dX7_ahead_311 : decode cX7_ahead 311 = .ok (.iconst 0, 1) := by decide +kernel
theorem dX7_ahead_312 : decode cX7_ahead 312 = .ok (.ireturn, 1) := by decide +kernel
def f_X7_ahead (u0 : S1) (p1 : Int32) (p2 : Int32) (p3 : Int32) : Option (Int32 × S1) := bn (f_X7_isHandle u0 p1) (fun z_1 => jn (fun (v27_2_0 : Int32) => jn (fun (v62_3_0 : Int32) => jn (fun (v79_4_0 : Int32) => qj4 (fun (r87_5 : Int32 → Int32 → Int32 → S1 → Option (Int32 × S1)) (y87_5_5 : Int32) (y87_5_7 : Int32) (y87_5_8 : Int32) (u87_5_0 : S1) => jn (qj3 (fun (r222_7 : Int32 → Int32 → S1 → Option (Int32 × S1)) (y222_7_8 : Int32) (y222_7_9 : Int32) (u222_7_0 : S1) => if 16 ≤ y222_7_9 then jn (fun (v300_9_0 : Int32) => bn (f_X7_can u222_7_0 v300_9_0) (fun z_10 => jn (fun (v312_11_0 : Int32) => some (v312_11_0, z_10.2)) (fun k312_11 => if z_10.1 = 0 then k312_11 0 else k312_11 y222_7_8))) (fun k300_9 => if v27_2_0 = 0 then k300_9 1 else if p2 ≤ p3 then if y87_5_5 = 0 then k300_9 3 else k300_9 0 else k300_9 2) else jn (fun (u265_16_0 : S1) => r222_7 (y222_7_8 + ((y87_5_7 >>> (y222_7_9 &&& 31)) &&& 1)) (y222_7_9 + 1) u265_16_0) (fun k265_16 => if y87_5_5 = 0 then if ((y87_5_7 >>> (y222_7_9 &&& 31)) &&& 1) = 1 then bn (f_X7_digs u222_7_0 v79_4_0 y222_7_9) (fun z_19 => k265_16 z_19) else k265_16 u222_7_0 else k265_16 u222_7_0)) (fun k222_7 => k222_7 0 0 u87_5_0)) (fun k216_6 => if y87_5_5 = 0 then k216_6 else if p3 < y87_5_8 then k216_6 else bn (f_X7_blockOf u87_5_0 v79_4_0 y87_5_8) (fun z_22 => jn (fun (y210_23_5 : Int32) (y210_23_7 : Int32) (u210_23_0 : S1) => r87_5 y210_23_5 y210_23_7 (y87_5_8 + 1) u210_23_0) (fun k210_23 => if z_22 = (-1) then bn (f_X7_isShort u87_5_0 v79_4_0) (fun z_25 => jn (fun (v131_26_0 : Int32) => jn (fun (v144_27_0 : Int32) => jn (fun (v161_28_0 : Int32) => bn (f_X7_at 0 v79_4_0) (fun z_29 => chk (inb ((z_29 + 21) + y87_5_8) 8480) (bv (st u87_5_0 0 ((z_29 + 21) + y87_5_8) v131_26_0) (fun u_30 => bn (f_X7_at 0 v79_4_0) (fun z_31 => jn (fun (v209_32_0 : Int32) => chk (inb ((z_31 + 37) + y87_5_8) 8480) (bv (st u_30 0 ((z_31 + 37) + y87_5_8) v209_32_0) (fun u_33 => k210_23 v144_27_0 (y87_5_7 ||| v161_28_0) u_33))) (fun k209_32 => if v144_27_0 = 0 then k209_32 0 else k209_32 1)))))) (fun k161_28 => if v144_27_0 = 0 then k161_28 0 else k161_28 (1 <<< (y87_5_8 &&& 31)))) (fun k144_27 => if v131_26_0 = (-1) then k144_27 0 else k144_27 1)) (fun k131_26 => if z_25 = 0 then bn (f_X7_blockFor u87_5_0 v79_4_0 y87_5_8) (fun z_38 => k131_26 z_38) else k131_26 (-1))) else k210_23 y87_5_5 y87_5_7 u87_5_0)))) (fun k87_5 => k87_5 v62_3_0 0 p2 u0)) (fun k79_4 => if v27_2_0 = 0 then k79_4 0 else chk (inb p1 30) (k79_4 (u0 10 (p1).toNatClampNeg)))) (fun k62_3 => jn (k62_3 0) (fun k61_40 => if v27_2_0 = 0 then k61_40 else if p3 < p2 then k61_40 else chk (inb p1 30) (if (u0 12 (p1).toNatClampNeg) = 0 then k61_40 else chk (inb p1 30) (if (u0 11 (p1).toNatClampNeg) = 0 then k61_40 else k62_3 1))))) (fun k27_2 => jn (k27_2 0) (fun k26_45 => if z_1 = 0 then k26_45 else bn (f_X7_isPage p2) (fun z_47 => if z_47 = 0 then k26_45 else bn (f_X7_isPage p3) (fun z_49 => if z_49 = 0 then k26_45 else k27_2 1)))))
def rmX7_ahead : Room := { frames := 5, cells := 0, slots := 0, locals := 111 }
set_option maxHeartbeats 4000000 in
set_option maxRecDepth 100000 in
theorem c_X7_ahead (l : Launch) (D : va_G) (cI cZ cJ cT : ClassId) (a0 : Nat → Nat) (sz : Nat) (u0 : S1) (p1 : Int32) (p2 : Int32) (p3 : Int32) (o : Int32 × S1) (hf : f_X7_ahead u0 p1 p2 p3 = some o) : Met l yX7_ahead wsX7_ahead rmX7_ahead (va_Pc [.ref (a0 0), .int p1, .int p2, .int p3] (PW D cls (tys cI cZ cJ cT) ((wX7 cI cZ a0 u0)) sz)) (QWi D cls o.1 ((wX7 cI cZ a0 o.2)) (va_A ((wX7 cI cZ a0 u0)) sz)) 0 0 (va_A ((wX7 cI cZ a0 u0)) sz) := by
  refine Met.ofW (cc := cX7_ahead) (maxL := 10) (ret := (some .int)) (by decide) rfl ?_
  intro p e s m args below meth c s₁ B hml hv
  obtain ⟨hav, hsz, hP, hK, hD0⟩ := hv
  have hx := B.exec
  have hb := B.bytes
  have hr := B.returns
  have hlocks := B.notSynchronized
  have hts := atoms_spec (ws := wsX7_ahead) B.pre
  have hown : s.vm.findClass RX7 = some m.cls := findClass_of_methodNamed B.named
  have i7 : ∀ w ∈ wsX70, w ∈ wsX7_ahead := fun w h => List.mem_cons_of_mem _ (List.mem_append_right _ h)
  have hk7 := hts (.fieldLink RX7 7 "InoderyModel" "s" "[I") (by decide +kernel)
  have hk35 := hts (.fieldLink RX7 35 "InoderyModel" "of" "[I") (by decide +kernel)
  have hk38 := hts (.fieldLink RX7 38 "InoderyModel" "isWriting" "[Z") (by decide +kernel)
  have hk41 := hts (.fieldLink RX7 41 "InoderyModel" "isOpen" "[Z") (by decide +kernel)
  subst hsz
  have hD := hD0.self (sz := s.heap.size)
  generalize hAe : va_A ((wX7 cI cZ a0 u0)) s.heap.size = A at hD ⊢
  have hA : ∀ q : Nat, s.heap.size ≤ q → A q := fun q h => by rw [← hAe]; exact Or.inr h
  have hS : va_S A s.heap s.heap [] := va_S.rf
  have hDD : ∀ w0 : S1, va_D A ((wX7 cI cZ a0 w0)) := fun _ => D_same (w := (wX7 cI cZ a0 u0)) rfl hD
  refine Wq (fun Q hQ => ?_)
  refine W_entry hav (Nat.le_of_ble_eq_true rfl) (fun ls hl => ?_)
  have hl : lv_has ls 10 [(0, .ref (a0 0)), (1, .int p1), (2, .int p2), (3, .int p3)] := hl
  unfold f_X7_ahead at hf
  refine W_heap hP hS (fun H locs hP hS => ?_)
  refine lv_aload_n hx hb dX7_ahead_0 rfl (lv_at hl 0 rfl) ?_
  refine lv_iload_n hx hb dX7_ahead_1 rfl (lv_at hl 1 rfl) ?_
  obtain ⟨z_1, hz_1, hf⟩ := bn_some hf
  refine cRV (As := [.int p1]) (rest := []) ⟨hx, hb, hml, hown, hts⟩ (c_X7_isHandle l D cI cZ cJ cT a0 u0 p1 z_1 hz_1) (cwV 1 hts gX7_ahead_X7_isHandle rfl rfl rfl (by decide +kernel) ⟨Nat.le_of_ble_eq_true rfl, Nat.le_of_ble_eq_true rfl⟩) hP hK (va_recv hK hP (ci := 7) (q0 := 0) rfl rfl) rfl rfl hl.1 (Nat.le_of_ble_eq_true rfl) dX7_ahead_2 ⟨Nat.le_of_ble_eq_true rfl, Nat.le_of_ble_eq_true rfl⟩ ?_
  obtain ⟨k27_2, hk27_2, hf⟩ := jn_some hf
  have j27_2 : ∀ (v27_2_0 : Int32) (H : Heap) (locs : List Loc) (ls : Array Slot), k27_2 v27_2_0 = some o → va_P D cls (wX7 cI cZ a0 u0) H → va_S A s.heap H locs → lv_has ls 10 [(0, .ref (a0 0)), (1, .int p1), (2, .int p2), (3, .int p3)] → W p l e (headSpec wsX7_ahead rmX7_ahead).room s m args below meth c H locs 0 0 Q (F0 m 27 ls [.int v27_2_0]) := by
    intro v27_2_0 H locs ls hf hP hS hl
    have hf := qa1 hk27_2 hf
    refine lv_istore (lv' := [(4, .int v27_2_0), (0, .ref (a0 0)), (1, .int p1), (2, .int p2), (3, .int p3)]) hx hb dX7_ahead_27 hl (by decide) rfl (fun ls hl => ?_)
    refine lv_iload hx hb dX7_ahead_29 (lv_at hl 0 rfl) ?_
    obtain ⟨k62_3, hk62_3, hf⟩ := jn_some hf
    have j62_3 : ∀ (v62_3_0 : Int32) (H : Heap) (locs : List Loc) (ls : Array Slot), k62_3 v62_3_0 = some o → va_P D cls (wX7 cI cZ a0 u0) H → va_S A s.heap H locs → lv_has ls 10 [(0, .ref (a0 0)), (1, .int p1), (2, .int p2), (3, .int p3), (4, .int v27_2_0)] → W p l e (headSpec wsX7_ahead rmX7_ahead).room s m args below meth c H locs 0 0 Q (F0 m 62 ls [.int v62_3_0]) := by
      intro v62_3_0 H locs ls hf hP hS hl
      have hf := qa1 hk62_3 hf
      refine lv_istore (lv' := [(5, .int v62_3_0), (0, .ref (a0 0)), (1, .int p1), (2, .int p2), (3, .int p3), (4, .int v27_2_0)]) hx hb dX7_ahead_62 hl (by decide) rfl (fun ls hl => ?_)
      refine lv_iload hx hb dX7_ahead_64 (lv_at hl 5 rfl) ?_
      obtain ⟨k79_4, hk79_4, hf⟩ := jn_some hf
      have j79_4 : ∀ (v79_4_0 : Int32) (H : Heap) (locs : List Loc) (ls : Array Slot), k79_4 v79_4_0 = some o → va_P D cls (wX7 cI cZ a0 u0) H → va_S A s.heap H locs → lv_has ls 10 [(0, .ref (a0 0)), (2, .int p2), (3, .int p3), (4, .int v27_2_0), (5, .int v62_3_0)] → W p l e (headSpec wsX7_ahead rmX7_ahead).room s m args below meth c H locs 0 0 Q (F0 m 79 ls [.int v79_4_0]) := by
        intro v79_4_0 H locs ls hf hP hS hl
        have hf := qa1 hk79_4 hf
        refine lv_istore (lv' := [(6, .int v79_4_0), (0, .ref (a0 0)), (2, .int p2), (3, .int p3), (4, .int v27_2_0), (5, .int v62_3_0)]) hx hb dX7_ahead_79 hl (by decide) rfl (fun ls hl => ?_)
        refine lv_iconst (v := 0) hx hb dX7_ahead_81 (by decide) ?_
        refine lv_istore (lv' := [(7, .int 0), (6, .int v79_4_0), (0, .ref (a0 0)), (2, .int p2), (3, .int p3), (4, .int v27_2_0), (5, .int v62_3_0)]) hx hb dX7_ahead_82 hl (by decide) rfl (fun ls hl => ?_)
        refine lv_iload_n hx hb dX7_ahead_84 rfl (lv_at hl 3 rfl) ?_
        refine lv_istore (lv' := [(8, .int p2), (7, .int 0), (6, .int v79_4_0), (0, .ref (a0 0)), (2, .int p2), (3, .int p3), (4, .int v27_2_0), (5, .int v62_3_0)]) hx hb dX7_ahead_85 hl (by decide) rfl (fun ls hl => ?_)
        obtain ⟨G87_5, hG87_5, hf⟩ := qj4_some hf
        have j87_5 : ∀ (n : Nat) (y87_5_5 : Int32) (y87_5_7 : Int32) (y87_5_8 : Int32) (u87_5_0 : S1) (H : Heap) (locs : List Loc) (ls : Array Slot), ql4 G87_5 n y87_5_5 y87_5_7 y87_5_8 u87_5_0 = some o → va_P D cls (wX7 cI cZ a0 u87_5_0) H → va_S A s.heap H locs → lv_has ls 10 [(0, .ref (a0 0)), (2, .int p2), (3, .int p3), (4, .int v27_2_0), (5, .int y87_5_5), (6, .int v79_4_0), (7, .int y87_5_7), (8, .int y87_5_8)] → W p l e (headSpec wsX7_ahead rmX7_ahead).room s m args below meth c H locs 0 0 Q (F0 m 87 ls []) := by
          intro n
          induction n with
          | zero => intro y87_5_5 y87_5_7 y87_5_8 u87_5_0 H locs ls hf hP hS hl; exact (ql4_z hf).elim
          | succ n ih87_5 =>
            intro y87_5_5 y87_5_7 y87_5_8 u87_5_0 H locs ls hf hP hS hl
            have hf := ql4_s hG87_5 hf
            obtain ⟨r87_5, hr87_5⟩ : ∃ z, z = ql4 G87_5 n := ⟨_, rfl⟩
            rw [← hr87_5] at hf ih87_5
            refine lv_iload hx hb dX7_ahead_87 (lv_at hl 4 rfl) ?_
            obtain ⟨k216_6, hk216_6, hf⟩ := jn_some hf
            have j216_6 : ∀ (H : Heap) (locs : List Loc) (ls : Array Slot), k216_6 = some o → va_P D cls (wX7 cI cZ a0 u87_5_0) H → va_S A s.heap H locs → lv_has ls 10 [(0, .ref (a0 0)), (2, .int p2), (3, .int p3), (4, .int v27_2_0), (5, .int y87_5_5), (6, .int v79_4_0), (7, .int y87_5_7)] → W p l e (headSpec wsX7_ahead rmX7_ahead).room s m args below meth c H locs 0 0 Q (F0 m 216 ls []) := by
              intro H locs ls hf hP hS hl
              have hf := qa0 hk216_6 hf
              refine lv_iconst (v := 0) hx hb dX7_ahead_216 (by decide) ?_
              refine lv_istore (lv' := [(8, .int 0), (0, .ref (a0 0)), (2, .int p2), (3, .int p3), (4, .int v27_2_0), (5, .int y87_5_5), (6, .int v79_4_0), (7, .int y87_5_7)]) hx hb dX7_ahead_217 hl (by decide) rfl (fun ls hl => ?_)
              refine lv_iconst (v := 0) hx hb dX7_ahead_219 (by decide) ?_
              refine lv_istore (lv' := [(9, .int 0), (8, .int 0), (0, .ref (a0 0)), (2, .int p2), (3, .int p3), (4, .int v27_2_0), (5, .int y87_5_5), (6, .int v79_4_0), (7, .int y87_5_7)]) hx hb dX7_ahead_220 hl (by decide) rfl (fun ls hl => ?_)
              obtain ⟨G222_7, hG222_7, hf⟩ := qj3_some hf
              have j222_7 : ∀ (n : Nat) (y222_7_8 : Int32) (y222_7_9 : Int32) (u222_7_0 : S1) (H : Heap) (locs : List Loc) (ls : Array Slot), ql3 G222_7 n y222_7_8 y222_7_9 u222_7_0 = some o → va_P D cls (wX7 cI cZ a0 u222_7_0) H → va_S A s.heap H locs → lv_has ls 10 [(0, .ref (a0 0)), (2, .int p2), (3, .int p3), (4, .int v27_2_0), (5, .int y87_5_5), (6, .int v79_4_0), (7, .int y87_5_7), (8, .int y222_7_8), (9, .int y222_7_9)] → W p l e (headSpec wsX7_ahead rmX7_ahead).room s m args below meth c H locs 0 0 Q (F0 m 222 ls []) := by
                intro n
                induction n with
                | zero => intro y222_7_8 y222_7_9 u222_7_0 H locs ls hf hP hS hl; exact (ql3_z hf).elim
                | succ n ih222_7 =>
                  intro y222_7_8 y222_7_9 u222_7_0 H locs ls hf hP hS hl
                  have hf := ql3_s hG222_7 hf
                  obtain ⟨r222_7, hr222_7⟩ : ∃ z, z = ql3 G222_7 n := ⟨_, rfl⟩
                  rw [← hr222_7] at hf ih222_7
                  refine lv_iload hx hb dX7_ahead_222 (lv_at hl 8 rfl) ?_
                  refine lv_bipush (v := 16) hx hb dX7_ahead_224 (by decide) ?_
                  refine lv_icmp_ge (tgt := 271) hx hb dX7_ahead_226 (by decide) (fun c_8 => ?_) (fun c_8 => ?_)
                  · have hf := ite_t hf c_8
                    refine lv_aload_n hx hb dX7_ahead_271 rfl (lv_at hl 0 rfl) ?_
                    refine lv_iload hx hb dX7_ahead_272 (lv_at hl 3 rfl) ?_
                    obtain ⟨k300_9, hk300_9, hf⟩ := jn_some hf
                    have j300_9 : ∀ (v300_9_0 : Int32) (H : Heap) (locs : List Loc) (ls : Array Slot), k300_9 v300_9_0 = some o → va_P D cls (wX7 cI cZ a0 u222_7_0) H → va_S A s.heap H locs → lv_has ls 10 [(8, .int y222_7_8)] → W p l e (headSpec wsX7_ahead rmX7_ahead).room s m args below meth c H locs 0 0 Q (F0 m 300 ls [.int v300_9_0, .ref (a0 0)]) := by
                      intro v300_9_0 H locs ls hf hP hS hl
                      have hf := qa1 hk300_9 hf
                      obtain ⟨z_10, hz_10, hf⟩ := bn_some hf
                      refine cWVi (As := [.int v300_9_0]) (rest := []) ⟨hx, hb, hml, hown, hts⟩ (c_X7_can l D cI cZ cJ cT a0 H.size u222_7_0 v300_9_0 z_10 hz_10) (cwV 1 hts gX7_ahead_X7_can rfl rfl rfl (by decide +kernel) ⟨Nat.le_of_ble_eq_true rfl, Nat.le_of_ble_eq_true rfl⟩) hP hK (hDD u222_7_0) hS (own_free (hDD u222_7_0) hS hA) (va_recv hK hP (ci := 7) (q0 := 0) rfl rfl) rfl rfl hl.1 (Nat.le_of_ble_eq_true rfl) dX7_ahead_300 ⟨Nat.le_of_ble_eq_true rfl, Nat.le_of_ble_eq_true rfl⟩ (fun H1 locs hP1 hk1 hS => ?_)
                      have hP : va_P D cls (wX7 cI cZ a0 z_10.2) H1 := hP1
                      clear hP1 hk1
                      generalize H1 = H at hP hS ⊢
                      obtain ⟨k312_11, hk312_11, hf⟩ := jn_some hf
                      have j312_11 : ∀ (v312_11_0 : Int32) (H : Heap) (locs : List Loc) (ls : Array Slot), k312_11 v312_11_0 = some o → va_P D cls (wX7 cI cZ a0 z_10.2) H → va_S A s.heap H locs → lv_has ls 10 [] → W p l e (headSpec wsX7_ahead rmX7_ahead).room s m args below meth c H locs 0 0 Q (F0 m 312 ls [.int v312_11_0]) := by
                        intro v312_11_0 H locs ls hf hP hS hl
                        have hf := qa1 hk312_11 hf
                        have eo := Option.some.inj hf
                        have hP : va_P D cls (wX7 cI cZ a0 o.2) H := by rw [← eo]; exact hP
                        rw [hQ]
                        exact W.iret hx hb hr (fun t ht hW => ⟨⟨_, (), rfl, congrArg Prod.fst eo, P_at ht hP⟩, hS.F ht⟩) hS.2.2 dX7_ahead_312 hlocks
                      refine lv_if_eq (tgt := 311) hx hb dX7_ahead_303 (by decide) (fun c_12 => ?_) (fun c_12 => ?_)
                      · have hf := ite_t hf c_12
                        refine lv_iconst (v := 0) hx hb dX7_ahead_311 (by decide) ?_
                        exact j312_11 _ _ _ _ hf hP hS (lv_sub hl [] rfl)
                      · have hf := ite_f hf c_12
                        refine lv_iload hx hb dX7_ahead_306 (lv_at hl 0 rfl) ?_
                        refine lv_goto (tgt := 312) hx hb dX7_ahead_308 (by decide) ?_
                        exact j312_11 _ _ _ _ hf hP hS (lv_sub hl [] rfl)
                    refine lv_if_ne (tgt := 281) hx hb dX7_ahead_274 (by decide) (fun c_13 => ?_) (fun c_13 => ?_)
                    · have hf := ite_f hf c_13
                      refine lv_iload_n hx hb dX7_ahead_281 rfl (lv_at hl 2 rfl) ?_
                      refine lv_iload_n hx hb dX7_ahead_282 rfl (lv_at hl 1 rfl) ?_
                      refine lv_icmp_ge (tgt := 290) hx hb dX7_ahead_283 (by decide) (fun c_14 => ?_) (fun c_14 => ?_)
                      · have hf := ite_t hf c_14
                        refine lv_iload hx hb dX7_ahead_290 (lv_at hl 4 rfl) ?_
                        refine lv_if_eq (tgt := 299) hx hb dX7_ahead_292 (by decide) (fun c_15 => ?_) (fun c_15 => ?_)
                        · have hf := ite_t hf c_15
                          refine lv_iconst (v := 3) hx hb dX7_ahead_299 (by decide) ?_
                          exact j300_9 _ _ _ _ hf hP hS (lv_sub hl [7] rfl)
                        · have hf := ite_f hf c_15
                          refine lv_iconst (v := 0) hx hb dX7_ahead_295 (by decide) ?_
                          refine lv_goto (tgt := 300) hx hb dX7_ahead_296 (by decide) ?_
                          exact j300_9 _ _ _ _ hf hP hS (lv_sub hl [7] rfl)
                      · have hf := ite_f hf c_14
                        refine lv_iconst (v := 2) hx hb dX7_ahead_286 (by decide) ?_
                        refine lv_goto (tgt := 300) hx hb dX7_ahead_287 (by decide) ?_
                        exact j300_9 _ _ _ _ hf hP hS (lv_sub hl [7] rfl)
                    · have hf := ite_t hf c_13
                      refine lv_iconst (v := 1) hx hb dX7_ahead_277 (by decide) ?_
                      refine lv_goto (tgt := 300) hx hb dX7_ahead_278 (by decide) ?_
                      exact j300_9 _ _ _ _ hf hP hS (lv_sub hl [7] rfl)
                  · have hf := ite_f hf c_8
                    refine lv_iload hx hb dX7_ahead_229 (lv_at hl 7 rfl) ?_
                    refine lv_iload hx hb dX7_ahead_231 (lv_at hl 6 rfl) ?_
                    refine lv_iload hx hb dX7_ahead_233 (lv_at hl 8 rfl) ?_
                    refine lv_ishr hx hb dX7_ahead_235 ?_
                    refine lv_iconst (v := 1) hx hb dX7_ahead_236 (by decide) ?_
                    refine lv_iand hx hb dX7_ahead_237 ?_
                    refine lv_iadd hx hb dX7_ahead_238 ?_
                    refine lv_istore (lv' := [(8, .int (y222_7_8 + ((y87_5_7 >>> (y222_7_9 &&& 31)) &&& 1))), (0, .ref (a0 0)), (2, .int p2), (3, .int p3), (4, .int v27_2_0), (5, .int y87_5_5), (6, .int v79_4_0), (7, .int y87_5_7), (9, .int y222_7_9)]) hx hb dX7_ahead_239 hl (by decide) rfl (fun ls hl => ?_)
                    refine lv_iload hx hb dX7_ahead_241 (lv_at hl 5 rfl) ?_
                    obtain ⟨k265_16, hk265_16, hf⟩ := jn_some hf
                    have j265_16 : ∀ (u265_16_0 : S1) (H : Heap) (locs : List Loc) (ls : Array Slot), k265_16 u265_16_0 = some o → va_P D cls (wX7 cI cZ a0 u265_16_0) H → va_S A s.heap H locs → lv_has ls 10 [(0, .ref (a0 0)), (2, .int p2), (3, .int p3), (4, .int v27_2_0), (5, .int y87_5_5), (6, .int v79_4_0), (7, .int y87_5_7), (8, .int (y222_7_8 + ((y87_5_7 >>> (y222_7_9 &&& 31)) &&& 1))), (9, .int y222_7_9)] → W p l e (headSpec wsX7_ahead rmX7_ahead).room s m args below meth c H locs 0 0 Q (F0 m 265 ls []) := by
                      intro u265_16_0 H locs ls hf hP hS hl
                      have hf := qa1 hk265_16 hf
                      refine lv_iinc (v := y222_7_9 + 1) (lv' := [(9, .int (y222_7_9 + 1)), (0, .ref (a0 0)), (2, .int p2), (3, .int p3), (4, .int v27_2_0), (5, .int y87_5_5), (6, .int v79_4_0), (7, .int y87_5_7), (8, .int (y222_7_8 + ((y87_5_7 >>> (y222_7_9 &&& 31)) &&& 1)))]) hx hb dX7_ahead_265 hl (k := 8) rfl rfl (by decide) rfl (fun ls hl => ?_)
                      refine lv_goto (tgt := 222) hx hb dX7_ahead_268 (by decide) ?_
                      exact ih222_7 _ _ _ _ _ _ hf hP hS (lv_sub hl [1, 2, 3, 4, 5, 6, 7, 8, 0] rfl)
                    refine lv_if_ne (tgt := 265) hx hb dX7_ahead_243 (by decide) (fun c_17 => ?_) (fun c_17 => ?_)
                    · have hf := ite_f hf c_17
                      exact j265_16 _ _ _ _ hf hP hS (lv_sub hl [1, 2, 3, 4, 5, 6, 7, 0, 8] rfl)
                    · have hf := ite_t hf c_17
                      refine lv_iload hx hb dX7_ahead_246 (lv_at hl 7 rfl) ?_
                      refine lv_iload hx hb dX7_ahead_248 (lv_at hl 8 rfl) ?_
                      refine lv_ishr hx hb dX7_ahead_250 ?_
                      refine lv_iconst (v := 1) hx hb dX7_ahead_251 (by decide) ?_
                      refine lv_iand hx hb dX7_ahead_252 ?_
                      refine lv_iconst (v := 1) hx hb dX7_ahead_253 (by decide) ?_
                      refine lv_icmp_ne (tgt := 265) hx hb dX7_ahead_254 (by decide) (fun c_18 => ?_) (fun c_18 => ?_)
                      · have hf := ite_f hf c_18
                        exact j265_16 _ _ _ _ hf hP hS (lv_sub hl [1, 2, 3, 4, 5, 6, 7, 0, 8] rfl)
                      · have hf := ite_t hf c_18
                        refine lv_aload_n hx hb dX7_ahead_257 rfl (lv_at hl 1 rfl) ?_
                        refine lv_iload hx hb dX7_ahead_258 (lv_at hl 6 rfl) ?_
                        refine lv_iload hx hb dX7_ahead_260 (lv_at hl 8 rfl) ?_
                        obtain ⟨z_19, hz_19, hf⟩ := bn_some hf
                        refine cWVv (As := [.int v79_4_0, .int y222_7_9]) (rest := []) ⟨hx, hb, hml, hown, hts⟩ (c_X7_digs l D cI cZ cJ cT a0 H.size u222_7_0 v79_4_0 y222_7_9 z_19 hz_19) (cwV 2 hts gX7_ahead_X7_digs rfl rfl rfl (by decide +kernel) ⟨Nat.le_of_ble_eq_true rfl, Nat.le_of_ble_eq_true rfl⟩) hP hK (hDD u222_7_0) hS (own_free (hDD u222_7_0) hS hA) (va_recv hK hP (ci := 7) (q0 := 0) rfl rfl) rfl rfl hl.1 (Nat.le_of_ble_eq_true rfl) dX7_ahead_262 ⟨Nat.le_of_ble_eq_true rfl, Nat.le_of_ble_eq_true rfl⟩ (fun H1 locs hP1 hk1 hS => ?_)
                        have hP : va_P D cls (wX7 cI cZ a0 z_19) H1 := hP1
                        clear hP1 hk1
                        generalize H1 = H at hP hS ⊢
                        exact j265_16 _ _ _ _ hf hP hS (lv_sub hl [1, 2, 3, 4, 5, 6, 7, 0, 8] rfl)
              exact j222_7 4096 _ _ _ _ _ _ hf hP hS (lv_sub hl [2, 3, 4, 5, 6, 7, 8, 1, 0] rfl)
            refine lv_if_eq (tgt := 216) hx hb dX7_ahead_89 (by decide) (fun c_20 => ?_) (fun c_20 => ?_)
            · have hf := ite_t hf c_20
              exact j216_6 _ _ _ hf hP hS (lv_sub hl [0, 1, 2, 3, 4, 5, 6] rfl)
            · have hf := ite_f hf c_20
              refine lv_iload hx hb dX7_ahead_92 (lv_at hl 7 rfl) ?_
              refine lv_iload_n hx hb dX7_ahead_94 rfl (lv_at hl 2 rfl) ?_
              refine lv_icmp_gt (tgt := 216) hx hb dX7_ahead_95 (by decide) (fun c_21 => ?_) (fun c_21 => ?_)
              · have hf := ite_t hf c_21
                exact j216_6 _ _ _ hf hP hS (lv_sub hl [0, 1, 2, 3, 4, 5, 6] rfl)
              · have hf := ite_f hf c_21
                refine lv_aload_n hx hb dX7_ahead_98 rfl (lv_at hl 0 rfl) ?_
                refine lv_iload hx hb dX7_ahead_99 (lv_at hl 5 rfl) ?_
                refine lv_iload hx hb dX7_ahead_101 (lv_at hl 7 rfl) ?_
                obtain ⟨z_22, hz_22, hf⟩ := bn_some hf
                refine cRV (As := [.int v79_4_0, .int y87_5_8]) (rest := []) ⟨hx, hb, hml, hown, hts⟩ (c_X7_blockOf l D cI cZ cJ cT a0 u87_5_0 v79_4_0 y87_5_8 z_22 hz_22) (cwV 2 hts gX7_ahead_X7_blockOf rfl rfl rfl (by decide +kernel) ⟨Nat.le_of_ble_eq_true rfl, Nat.le_of_ble_eq_true rfl⟩) hP hK (va_recv hK hP (ci := 7) (q0 := 0) rfl rfl) rfl rfl hl.1 (Nat.le_of_ble_eq_true rfl) dX7_ahead_103 ⟨Nat.le_of_ble_eq_true rfl, Nat.le_of_ble_eq_true rfl⟩ ?_
                refine lv_iconst (v := (-1)) hx hb dX7_ahead_106 (by decide) ?_
                obtain ⟨k210_23, hk210_23, hf⟩ := jn_some hf
                have j210_23 : ∀ (y210_23_5 : Int32) (y210_23_7 : Int32) (u210_23_0 : S1) (H : Heap) (locs : List Loc) (ls : Array Slot), k210_23 y210_23_5 y210_23_7 u210_23_0 = some o → va_P D cls (wX7 cI cZ a0 u210_23_0) H → va_S A s.heap H locs → lv_has ls 10 [(0, .ref (a0 0)), (2, .int p2), (3, .int p3), (4, .int v27_2_0), (5, .int y210_23_5), (6, .int v79_4_0), (7, .int y210_23_7), (8, .int y87_5_8)] → W p l e (headSpec wsX7_ahead rmX7_ahead).room s m args below meth c H locs 0 0 Q (F0 m 210 ls []) := by
                  intro y210_23_5 y210_23_7 u210_23_0 H locs ls hf hP hS hl
                  have hf := qa3 hk210_23 hf
                  refine lv_iinc (v := y87_5_8 + 1) (lv' := [(8, .int (y87_5_8 + 1)), (0, .ref (a0 0)), (2, .int p2), (3, .int p3), (4, .int v27_2_0), (5, .int y210_23_5), (6, .int v79_4_0), (7, .int y210_23_7)]) hx hb dX7_ahead_210 hl (k := 7) rfl rfl (by decide) rfl (fun ls hl => ?_)
                  refine lv_goto (tgt := 87) hx hb dX7_ahead_213 (by decide) ?_
                  exact ih87_5 _ _ _ _ _ _ _ hf hP hS (lv_sub hl [1, 2, 3, 4, 5, 6, 7, 0] rfl)
                refine lv_icmp_ne (tgt := 210) hx hb dX7_ahead_107 (by decide) (fun c_24 => ?_) (fun c_24 => ?_)
                · have hf := ite_f hf c_24
                  exact j210_23 _ _ _ _ _ _ hf hP hS (lv_sub hl [0, 1, 2, 3, 4, 5, 6, 7] rfl)
                · have hf := ite_t hf c_24
                  refine lv_aload_n hx hb dX7_ahead_110 rfl (lv_at hl 0 rfl) ?_
                  refine lv_iload hx hb dX7_ahead_111 (lv_at hl 5 rfl) ?_
                  obtain ⟨z_25, hz_25, hf⟩ := bn_some hf
                  refine cRV (As := [.int v79_4_0]) (rest := []) ⟨hx, hb, hml, hown, hts⟩ (c_X7_isShort l D cI cZ cJ cT a0 u87_5_0 v79_4_0 z_25 hz_25) (cwV 1 hts gX7_ahead_X7_isShort rfl rfl rfl (by decide +kernel) ⟨Nat.le_of_ble_eq_true rfl, Nat.le_of_ble_eq_true rfl⟩) hP hK (va_recv hK hP (ci := 7) (q0 := 0) rfl rfl) rfl rfl hl.1 (Nat.le_of_ble_eq_true rfl) dX7_ahead_113 ⟨Nat.le_of_ble_eq_true rfl, Nat.le_of_ble_eq_true rfl⟩ ?_
                  obtain ⟨k131_26, hk131_26, hf⟩ := jn_some hf
                  have j131_26 : ∀ (v131_26_0 : Int32) (H : Heap) (locs : List Loc) (ls : Array Slot), k131_26 v131_26_0 = some o → va_P D cls (wX7 cI cZ a0 u87_5_0) H → va_S A s.heap H locs → lv_has ls 10 [(0, .ref (a0 0)), (2, .int p2), (3, .int p3), (4, .int v27_2_0), (6, .int v79_4_0), (7, .int y87_5_7), (8, .int y87_5_8)] → W p l e (headSpec wsX7_ahead rmX7_ahead).room s m args below meth c H locs 0 0 Q (F0 m 131 ls [.int v131_26_0]) := by
                    intro v131_26_0 H locs ls hf hP hS hl
                    have hf := qa1 hk131_26 hf
                    refine lv_istore (lv' := [(9, .int v131_26_0), (0, .ref (a0 0)), (2, .int p2), (3, .int p3), (4, .int v27_2_0), (6, .int v79_4_0), (7, .int y87_5_7), (8, .int y87_5_8)]) hx hb dX7_ahead_131 hl (by decide) rfl (fun ls hl => ?_)
                    refine lv_iload hx hb dX7_ahead_133 (lv_at hl 0 rfl) ?_
                    refine lv_iconst (v := (-1)) hx hb dX7_ahead_135 (by decide) ?_
                    obtain ⟨k144_27, hk144_27, hf⟩ := jn_some hf
                    have j144_27 : ∀ (v144_27_0 : Int32) (H : Heap) (locs : List Loc) (ls : Array Slot), k144_27 v144_27_0 = some o → va_P D cls (wX7 cI cZ a0 u87_5_0) H → va_S A s.heap H locs → lv_has ls 10 [(0, .ref (a0 0)), (2, .int p2), (3, .int p3), (4, .int v27_2_0), (6, .int v79_4_0), (7, .int y87_5_7), (8, .int y87_5_8), (9, .int v131_26_0)] → W p l e (headSpec wsX7_ahead rmX7_ahead).room s m args below meth c H locs 0 0 Q (F0 m 144 ls [.int v144_27_0]) := by
                      intro v144_27_0 H locs ls hf hP hS hl
                      have hf := qa1 hk144_27 hf
                      refine lv_istore (lv' := [(5, .int v144_27_0), (0, .ref (a0 0)), (2, .int p2), (3, .int p3), (4, .int v27_2_0), (6, .int v79_4_0), (7, .int y87_5_7), (8, .int y87_5_8), (9, .int v131_26_0)]) hx hb dX7_ahead_144 hl (by decide) rfl (fun ls hl => ?_)
                      refine lv_iload hx hb dX7_ahead_146 (lv_at hl 6 rfl) ?_
                      refine lv_iload hx hb dX7_ahead_148 (lv_at hl 0 rfl) ?_
                      obtain ⟨k161_28, hk161_28, hf⟩ := jn_some hf
                      have j161_28 : ∀ (v161_28_0 : Int32) (H : Heap) (locs : List Loc) (ls : Array Slot), k161_28 v161_28_0 = some o → va_P D cls (wX7 cI cZ a0 u87_5_0) H → va_S A s.heap H locs → lv_has ls 10 [(0, .ref (a0 0)), (2, .int p2), (3, .int p3), (4, .int v27_2_0), (5, .int v144_27_0), (6, .int v79_4_0), (8, .int y87_5_8), (9, .int v131_26_0)] → W p l e (headSpec wsX7_ahead rmX7_ahead).room s m args below meth c H locs 0 0 Q (F0 m 161 ls [.int v161_28_0, .int y87_5_7]) := by
                        intro v161_28_0 H locs ls hf hP hS hl
                        have hf := qa1 hk161_28 hf
                        refine lv_ior hx hb dX7_ahead_161 ?_
                        refine lv_istore (lv' := [(7, .int (y87_5_7 ||| v161_28_0)), (0, .ref (a0 0)), (2, .int p2), (3, .int p3), (4, .int v27_2_0), (5, .int v144_27_0), (6, .int v79_4_0), (8, .int y87_5_8), (9, .int v131_26_0)]) hx hb dX7_ahead_162 hl (by decide) rfl (fun ls hl => ?_)
                        refine lv_aload_n hx hb dX7_ahead_164 rfl (lv_at hl 1 rfl) ?_
                        refine va_get (D := D) (ci := 7) (v := .ref (a0 1)) (C := RX7) (T := TX7) (N := 19) hx hb hts i7 hown hK hP 0 rfl rfl 0 (by decide) hk7 (fun _ h9 => h9) rfl dX7_ahead_165 ?_
                        refine lv_iconst (v := 0) hx hb dX7_ahead_168 (by decide) ?_
                        refine lv_iload hx hb dX7_ahead_169 (lv_at hl 6 rfl) ?_
                        obtain ⟨z_29, hz_29, hf⟩ := bn_some hf
                        refine c0S (As := [.int 0, .int v79_4_0]) (rest := [.ref (a0 1)]) ⟨hx, hb, hml, hown, hts⟩ (c_X7_at l D cI cZ cJ cT 0 v79_4_0 z_29 hz_29) (va_cwS 2 hts gX7_ahead_X7_at rfl rfl rfl (by decide +kernel) ⟨Nat.le_of_ble_eq_true rfl, Nat.le_of_ble_eq_true rfl⟩) rfl rfl hl.1 (Nat.le_of_ble_eq_true rfl) dX7_ahead_171 ⟨Nat.le_of_ble_eq_true rfl, Nat.le_of_ble_eq_true rfl⟩ ?_
                        refine lv_bipush (v := 21) hx hb dX7_ahead_174 (by decide) ?_
                        refine lv_iadd hx hb dX7_ahead_176 ?_
                        refine lv_iload hx hb dX7_ahead_177 (lv_at hl 7 rfl) ?_
                        refine lv_iadd hx hb dX7_ahead_179 ?_
                        refine lv_iload hx hb dX7_ahead_180 (lv_at hl 8 rfl) ?_
                        obtain ⟨hi, hf⟩ := chk_some hf
                        obtain ⟨u_30, hu_30, hf⟩ := bv_some hf
                        refine va_iast hx hb hK hP (hDD u87_5_0) hS 1 0 rfl rfl (inb_in hi) dX7_ahead_182 (fun H locs hP _ hS => ?_)
                        have hP : va_P D cls (wX7 cI cZ a0 u_30) H := by rw [hu_30]; exact hP
                        refine lv_aload_n hx hb dX7_ahead_183 rfl (lv_at hl 1 rfl) ?_
                        refine va_get (D := D) (ci := 7) (v := .ref (a0 1)) (C := RX7) (T := TX7) (N := 19) hx hb hts i7 hown hK hP 0 rfl rfl 0 (by decide) hk7 (fun _ h9 => h9) rfl dX7_ahead_184 ?_
                        refine lv_iconst (v := 0) hx hb dX7_ahead_187 (by decide) ?_
                        refine lv_iload hx hb dX7_ahead_188 (lv_at hl 6 rfl) ?_
                        obtain ⟨z_31, hz_31, hf⟩ := bn_some hf
                        refine c0S (As := [.int 0, .int v79_4_0]) (rest := [.ref (a0 1)]) ⟨hx, hb, hml, hown, hts⟩ (c_X7_at l D cI cZ cJ cT 0 v79_4_0 z_31 hz_31) (va_cwS 2 hts gX7_ahead_X7_at rfl rfl rfl (by decide +kernel) ⟨Nat.le_of_ble_eq_true rfl, Nat.le_of_ble_eq_true rfl⟩) rfl rfl hl.1 (Nat.le_of_ble_eq_true rfl) dX7_ahead_190 ⟨Nat.le_of_ble_eq_true rfl, Nat.le_of_ble_eq_true rfl⟩ ?_
                        refine lv_bipush (v := 37) hx hb dX7_ahead_193 (by decide) ?_
                        refine lv_iadd hx hb dX7_ahead_195 ?_
                        refine lv_iload hx hb dX7_ahead_196 (lv_at hl 7 rfl) ?_
                        refine lv_iadd hx hb dX7_ahead_198 ?_
                        refine lv_iload hx hb dX7_ahead_199 (lv_at hl 5 rfl) ?_
                        obtain ⟨k209_32, hk209_32, hf⟩ := jn_some hf
                        have j209_32 : ∀ (v209_32_0 : Int32) (H : Heap) (locs : List Loc) (ls : Array Slot), k209_32 v209_32_0 = some o → va_P D cls (wX7 cI cZ a0 u_30) H → va_S A s.heap H locs → lv_has ls 10 [(0, .ref (a0 0)), (2, .int p2), (3, .int p3), (4, .int v27_2_0), (5, .int v144_27_0), (6, .int v79_4_0), (7, .int (y87_5_7 ||| v161_28_0)), (8, .int y87_5_8)] → W p l e (headSpec wsX7_ahead rmX7_ahead).room s m args below meth c H locs 0 0 Q (F0 m 209 ls [.int v209_32_0, .int ((z_31 + 37) + y87_5_8), .ref (a0 1)]) := by
                          intro v209_32_0 H locs ls hf hP hS hl
                          have hf := qa1 hk209_32 hf
                          obtain ⟨hi, hf⟩ := chk_some hf
                          obtain ⟨u_33, hu_33, hf⟩ := bv_some hf
                          refine va_iast hx hb hK hP (hDD u_30) hS 1 0 rfl rfl (inb_in hi) dX7_ahead_209 (fun H locs hP _ hS => ?_)
                          have hP : va_P D cls (wX7 cI cZ a0 u_33) H := by rw [hu_33]; exact hP
                          exact j210_23 _ _ _ _ _ _ hf hP hS (lv_sub hl [0, 1, 2, 3, 4, 5, 6, 7] rfl)
                        refine lv_if_eq (tgt := 208) hx hb dX7_ahead_201 (by decide) (fun c_34 => ?_) (fun c_34 => ?_)
                        · have hf := ite_t hf c_34
                          refine lv_iconst (v := 0) hx hb dX7_ahead_208 (by decide) ?_
                          exact j209_32 _ _ _ _ hf hP hS (lv_sub hl [1, 2, 3, 4, 5, 6, 0, 7] rfl)
                        · have hf := ite_f hf c_34
                          refine lv_iconst (v := 1) hx hb dX7_ahead_204 (by decide) ?_
                          refine lv_goto (tgt := 209) hx hb dX7_ahead_205 (by decide) ?_
                          exact j209_32 _ _ _ _ hf hP hS (lv_sub hl [1, 2, 3, 4, 5, 6, 0, 7] rfl)
                      refine lv_if_eq (tgt := 160) hx hb dX7_ahead_150 (by decide) (fun c_35 => ?_) (fun c_35 => ?_)
                      · have hf := ite_t hf c_35
                        refine lv_iconst (v := 0) hx hb dX7_ahead_160 (by decide) ?_
                        exact j161_28 _ _ _ _ hf hP hS (lv_sub hl [1, 2, 3, 4, 0, 5, 7, 8] rfl)
                      · have hf := ite_f hf c_35
                        refine lv_iconst (v := 1) hx hb dX7_ahead_153 (by decide) ?_
                        refine lv_iload hx hb dX7_ahead_154 (lv_at hl 7 rfl) ?_
                        refine lv_ishl hx hb dX7_ahead_156 ?_
                        refine lv_goto (tgt := 161) hx hb dX7_ahead_157 (by decide) ?_
                        exact j161_28 _ _ _ _ hf hP hS (lv_sub hl [1, 2, 3, 4, 0, 5, 7, 8] rfl)
                    refine lv_icmp_eq (tgt := 143) hx hb dX7_ahead_136 (by decide) (fun c_36 => ?_) (fun c_36 => ?_)
                    · have hf := ite_t hf c_36
                      refine lv_iconst (v := 0) hx hb dX7_ahead_143 (by decide) ?_
                      exact j144_27 _ _ _ _ hf hP hS (lv_sub hl [1, 2, 3, 4, 5, 6, 7, 0] rfl)
                    · have hf := ite_f hf c_36
                      refine lv_iconst (v := 1) hx hb dX7_ahead_139 (by decide) ?_
                      refine lv_goto (tgt := 144) hx hb dX7_ahead_140 (by decide) ?_
                      exact j144_27 _ _ _ _ hf hP hS (lv_sub hl [1, 2, 3, 4, 5, 6, 7, 0] rfl)
                  refine lv_if_eq (tgt := 123) hx hb dX7_ahead_116 (by decide) (fun c_37 => ?_) (fun c_37 => ?_)
                  · have hf := ite_t hf c_37
                    refine lv_aload_n hx hb dX7_ahead_123 rfl (lv_at hl 0 rfl) ?_
                    refine lv_iload hx hb dX7_ahead_124 (lv_at hl 5 rfl) ?_
                    refine lv_iload hx hb dX7_ahead_126 (lv_at hl 7 rfl) ?_
                    obtain ⟨z_38, hz_38, hf⟩ := bn_some hf
                    refine cRV (As := [.int v79_4_0, .int y87_5_8]) (rest := []) ⟨hx, hb, hml, hown, hts⟩ (c_X7_blockFor l D cI cZ cJ cT a0 u87_5_0 v79_4_0 y87_5_8 z_38 hz_38) (cwV 2 hts gX7_ahead_X7_blockFor rfl rfl rfl (by decide +kernel) ⟨Nat.le_of_ble_eq_true rfl, Nat.le_of_ble_eq_true rfl⟩) hP hK (va_recv hK hP (ci := 7) (q0 := 0) rfl rfl) rfl rfl hl.1 (Nat.le_of_ble_eq_true rfl) dX7_ahead_128 ⟨Nat.le_of_ble_eq_true rfl, Nat.le_of_ble_eq_true rfl⟩ ?_
                    exact j131_26 _ _ _ _ hf hP hS (lv_sub hl [0, 1, 2, 3, 5, 6, 7] rfl)
                  · have hf := ite_f hf c_37
                    refine lv_iconst (v := (-1)) hx hb dX7_ahead_119 (by decide) ?_
                    refine lv_goto (tgt := 131) hx hb dX7_ahead_120 (by decide) ?_
                    exact j131_26 _ _ _ _ hf hP hS (lv_sub hl [0, 1, 2, 3, 5, 6, 7] rfl)
        exact j87_5 4096 _ _ _ _ _ _ _ hf hP hS (lv_sub hl [3, 4, 5, 6, 7, 2, 1, 0] rfl)
      refine lv_if_eq (tgt := 78) hx hb dX7_ahead_66 (by decide) (fun c_39 => ?_) (fun c_39 => ?_)
      · have hf := ite_t hf c_39
        refine lv_iconst (v := 0) hx hb dX7_ahead_78 (by decide) ?_
        exact j79_4 _ _ _ _ hf hP hS (lv_sub hl [1, 3, 4, 5, 0] rfl)
      · have hf := ite_f hf c_39
        refine lv_aload_n hx hb dX7_ahead_69 rfl (lv_at hl 1 rfl) ?_
        refine va_get (D := D) (ci := 7) (v := .ref (a0 11)) (C := RX7) (T := TX7) (N := 19) hx hb hts i7 hown hK hP 0 rfl rfl 10 (by decide) hk35 (fun _ h9 => h9) rfl dX7_ahead_70 ?_
        refine lv_iload_n hx hb dX7_ahead_73 rfl (lv_at hl 2 rfl) ?_
        obtain ⟨hi, hf⟩ := chk_some hf
        refine va_iald hx hb hK hP 9 0 rfl rfl (inb_in hi) dX7_ahead_74 ?_
        refine lv_goto (tgt := 79) hx hb dX7_ahead_75 (by decide) ?_
        exact j79_4 _ _ _ _ hf hP hS (lv_sub hl [1, 3, 4, 5, 0] rfl)
    obtain ⟨k61_40, hk61_40, hf⟩ := jn_some hf
    have j61_40 : ∀ (H : Heap) (locs : List Loc) (ls : Array Slot), k61_40 = some o → va_P D cls (wX7 cI cZ a0 u0) H → va_S A s.heap H locs → lv_has ls 10 [(0, .ref (a0 0)), (1, .int p1), (2, .int p2), (3, .int p3), (4, .int v27_2_0)] → W p l e (headSpec wsX7_ahead rmX7_ahead).room s m args below meth c H locs 0 0 Q (F0 m 61 ls []) := by
      intro H locs ls hf hP hS hl
      have hf := qa0 hk61_40 hf
      refine lv_iconst (v := 0) hx hb dX7_ahead_61 (by decide) ?_
      exact j62_3 _ _ _ _ hf hP hS (lv_sub hl [0, 1, 2, 3, 4] rfl)
    refine lv_if_eq (tgt := 61) hx hb dX7_ahead_31 (by decide) (fun c_41 => ?_) (fun c_41 => ?_)
    · have hf := ite_t hf c_41
      exact j61_40 _ _ _ hf hP hS (lv_sub hl [1, 2, 3, 4, 0] rfl)
    · have hf := ite_f hf c_41
      refine lv_iload_n hx hb dX7_ahead_34 rfl (lv_at hl 4 rfl) ?_
      refine lv_iload_n hx hb dX7_ahead_35 rfl (lv_at hl 3 rfl) ?_
      refine lv_icmp_lt (tgt := 61) hx hb dX7_ahead_36 (by decide) (fun c_42 => ?_) (fun c_42 => ?_)
      · have hf := ite_t hf c_42
        exact j61_40 _ _ _ hf hP hS (lv_sub hl [1, 2, 3, 4, 0] rfl)
      · have hf := ite_f hf c_42
        refine lv_aload_n hx hb dX7_ahead_39 rfl (lv_at hl 1 rfl) ?_
        refine va_get (D := D) (ci := 7) (v := .ref (a0 13)) (C := RX7) (T := TX7) (N := 19) hx hb hts i7 hown hK hP 0 rfl rfl 12 (by decide) hk41 (fun _ h9 => h9) rfl dX7_ahead_40 ?_
        refine lv_iload_n hx hb dX7_ahead_43 rfl (lv_at hl 2 rfl) ?_
        obtain ⟨hi, hf⟩ := chk_some hf
        refine va_zald hx hb hK hP 11 1 rfl rfl (inb_in hi) dX7_ahead_44 ?_
        refine lv_if_eq (tgt := 61) hx hb dX7_ahead_45 (by decide) (fun c_43 => ?_) (fun c_43 => ?_)
        · have hf := ite_t hf c_43
          exact j61_40 _ _ _ hf hP hS (lv_sub hl [1, 2, 3, 4, 0] rfl)
        · have hf := ite_f hf c_43
          refine lv_aload_n hx hb dX7_ahead_48 rfl (lv_at hl 1 rfl) ?_
          refine va_get (D := D) (ci := 7) (v := .ref (a0 12)) (C := RX7) (T := TX7) (N := 19) hx hb hts i7 hown hK hP 0 rfl rfl 11 (by decide) hk38 (fun _ h9 => h9) rfl dX7_ahead_49 ?_
          refine lv_iload_n hx hb dX7_ahead_52 rfl (lv_at hl 2 rfl) ?_
          obtain ⟨hi, hf⟩ := chk_some hf
          refine va_zald hx hb hK hP 10 1 rfl rfl (inb_in hi) dX7_ahead_53 ?_
          refine lv_if_eq (tgt := 61) hx hb dX7_ahead_54 (by decide) (fun c_44 => ?_) (fun c_44 => ?_)
          · have hf := ite_t hf c_44
            exact j61_40 _ _ _ hf hP hS (lv_sub hl [1, 2, 3, 4, 0] rfl)
          · have hf := ite_f hf c_44
            refine lv_iconst (v := 1) hx hb dX7_ahead_57 (by decide) ?_
            refine lv_goto (tgt := 62) hx hb dX7_ahead_58 (by decide) ?_
            exact j62_3 _ _ _ _ hf hP hS (lv_sub hl [1, 2, 3, 4, 0] rfl)
  obtain ⟨k26_45, hk26_45, hf⟩ := jn_some hf
  have j26_45 : ∀ (H : Heap) (locs : List Loc) (ls : Array Slot), k26_45 = some o → va_P D cls (wX7 cI cZ a0 u0) H → va_S A s.heap H locs → lv_has ls 10 [(0, .ref (a0 0)), (1, .int p1), (2, .int p2), (3, .int p3)] → W p l e (headSpec wsX7_ahead rmX7_ahead).room s m args below meth c H locs 0 0 Q (F0 m 26 ls []) := by
    intro H locs ls hf hP hS hl
    have hf := qa0 hk26_45 hf
    refine lv_iconst (v := 0) hx hb dX7_ahead_26 (by decide) ?_
    exact j27_2 _ _ _ _ hf hP hS (lv_sub hl [0, 1, 2, 3] rfl)
  refine lv_if_eq (tgt := 26) hx hb dX7_ahead_5 (by decide) (fun c_46 => ?_) (fun c_46 => ?_)
  · have hf := ite_t hf c_46
    exact j26_45 _ _ _ hf hP hS (lv_sub hl [0, 1, 2, 3] rfl)
  · have hf := ite_f hf c_46
    refine lv_iload_n hx hb dX7_ahead_8 rfl (lv_at hl 2 rfl) ?_
    obtain ⟨z_47, hz_47, hf⟩ := bn_some hf
    refine c0S (As := [.int p2]) (rest := []) ⟨hx, hb, hml, hown, hts⟩ (c_X7_isPage l D cI cZ cJ cT p2 z_47 hz_47) (va_cwS 1 hts gX7_ahead_X7_isPage rfl rfl rfl (by decide +kernel) ⟨Nat.le_of_ble_eq_true rfl, Nat.le_of_ble_eq_true rfl⟩) rfl rfl hl.1 (Nat.le_of_ble_eq_true rfl) dX7_ahead_9 ⟨Nat.le_of_ble_eq_true rfl, Nat.le_of_ble_eq_true rfl⟩ ?_
    refine lv_if_eq (tgt := 26) hx hb dX7_ahead_12 (by decide) (fun c_48 => ?_) (fun c_48 => ?_)
    · have hf := ite_t hf c_48
      exact j26_45 _ _ _ hf hP hS (lv_sub hl [0, 1, 2, 3] rfl)
    · have hf := ite_f hf c_48
      refine lv_iload_n hx hb dX7_ahead_15 rfl (lv_at hl 3 rfl) ?_
      obtain ⟨z_49, hz_49, hf⟩ := bn_some hf
      refine c0S (As := [.int p3]) (rest := []) ⟨hx, hb, hml, hown, hts⟩ (c_X7_isPage l D cI cZ cJ cT p3 z_49 hz_49) (va_cwS 1 hts gX7_ahead_X7_isPage rfl rfl rfl (by decide +kernel) ⟨Nat.le_of_ble_eq_true rfl, Nat.le_of_ble_eq_true rfl⟩) rfl rfl hl.1 (Nat.le_of_ble_eq_true rfl) dX7_ahead_16 ⟨Nat.le_of_ble_eq_true rfl, Nat.le_of_ble_eq_true rfl⟩ ?_
      refine lv_if_eq (tgt := 26) hx hb dX7_ahead_19 (by decide) (fun c_50 => ?_) (fun c_50 => ?_)
      · have hf := ite_t hf c_50
        exact j26_45 _ _ _ hf hP hS (lv_sub hl [0, 1, 2, 3] rfl)
      · have hf := ite_f hf c_50
        refine lv_iconst (v := 1) hx hb dX7_ahead_22 (by decide) ?_
        refine lv_goto (tgt := 27) hx hb dX7_ahead_23 (by decide) ?_
        exact j27_2 _ _ _ _ hf hP hS (lv_sub hl [0, 1, 2, 3] rfl)
set_option maxRecDepth 20000 in
theorem ggX7_cut_X7_can : GoodIn wsX7_cut wsX7_can := goodIn_r _ [19, 20, 38, 39, 40, 41, 42, 43, 44, 45, 46, 47, 48, 49, 50, 51, 52, 53, 54, 55, 56] (by decide +kernel) (by decide +kernel)
set_option maxRecDepth 20000 in
theorem gX7_cut_X7_can : GoodIn wsX7_cut (wsV RX7 140 RX7 yX7_can wsX7_can) := goodIn_app (goodIn_of _ (by decide +kernel)) ggX7_cut_X7_can
set_option maxRecDepth 20000 in
theorem ggX7_cut_X7_digs : GoodIn wsX7_cut wsX7_digs := goodIn_r _ [36, 29, 37, 30, 31, 7, 32, 38, 39, 40, 41, 42, 43, 44, 45, 46, 47, 48, 49, 50, 51, 52, 53, 54, 55, 56] (by decide +kernel) (by decide +kernel)
set_option maxRecDepth 20000 in
theorem gX7_cut_X7_digs : GoodIn wsX7_cut (wsV RX7 94 RX7 yX7_digs wsX7_digs) := goodIn_app (goodIn_of _ (by decide +kernel)) ggX7_cut_X7_digs
set_option maxRecDepth 20000 in
theorem ggX7_cut_X7_isHandle : GoodIn wsX7_cut wsX7_isHandle := goodIn_r _ [8, 9, 10, 11, 7, 12, 38, 39, 40, 41, 42, 43, 44, 45, 46, 47, 48, 49, 50, 51, 52, 53, 54, 55, 56] (by decide +kernel) (by decide +kernel)
set_option maxRecDepth 20000 in
theorem gX7_cut_X7_isHandle : GoodIn wsX7_cut (wsV RX7 186 RX7 yX7_isHandle wsX7_isHandle) := goodIn_app (goodIn_of _ (by decide +kernel)) ggX7_cut_X7_isHandle
set_option maxRecDepth 20000 in
theorem ggX7_cut_X7_isPage : GoodIn wsX7_cut wsX7_isPage := goodIn_r _ [15, 10, 11, 7, 12] (by decide +kernel) (by decide +kernel)
set_option maxRecDepth 20000 in
theorem gX7_cut_X7_isPage : GoodIn wsX7_cut (va_wsS RX7 201 yX7_isPage wsX7_isPage) := goodIn_app (goodIn_of _ (by decide +kernel)) ggX7_cut_X7_isPage
set_option maxRecDepth 20000 in
theorem ggX7_cut_X7_pagesOf : GoodIn wsX7_cut wsX7_pagesOf := goodIn_r _ [24, 25, 26, 27, 7, 28, 29, 30, 31, 32, 38, 39, 40, 41, 42, 43, 44, 45, 46, 47, 48, 49, 50, 51, 52, 53, 54, 55, 56] (by decide +kernel) (by decide +kernel)
set_option maxRecDepth 20000 in
theorem gX7_cut_X7_pagesOf : GoodIn wsX7_cut (wsV RX7 78 RX7 yX7_pagesOf wsX7_pagesOf) := goodIn_app (goodIn_of _ (by decide +kernel)) ggX7_cut_X7_pagesOf
theorem dX7_cut_0 : decode cX7_cut 0 = .ok (.aload_n 0, 1) := by decide +kernel
theorem dX7_cut_1 : decode cX7_cut 1 = .ok (.iload_n 1, 1) := by decide +kernel
theorem dX7_cut_2 : decode cX7_cut 2 = .ok (.invokevirtual 186, 3) := by decide +kernel
theorem dX7_cut_5 : decode cX7_cut 5 = .ok (.ifCond .eq 14, 3) := by decide +kernel
theorem dX7_cut_8 : decode cX7_cut 8 = .ok (.iload_n 2, 1) := by decide +kernel
theorem dX7_cut_9 : decode cX7_cut 9 = .ok (.invokestatic 201, 3) := by decide +kernel
theorem dX7_cut_12 : decode cX7_cut 12 = .ok (.ifCond .eq 7, 3) := by decide +kernel
theorem dX7_cut_15 : decode cX7_cut 15 = .ok (.iconst 1, 1) := by decide +kernel
theorem dX7_cut_16 : decode cX7_cut 16 = .ok (.goto 4, 3) := by decide +kernel
theorem dX7_cut_19 : decode cX7_cut 19 = .ok (.iconst 0, 1) := by decide +kernel
theorem dX7_cut_20 : decode cX7_cut 20 = .ok (.istore_n 3, 1) := by decide +kernel
theorem dX7_cut_21 : decode cX7_cut 21 = .ok (.aload_n 0, 1) := by decide +kernel
theorem dX7_cut_22 : decode cX7_cut 22 = .ok (.iload_n 3, 1) := by decide +kernel
theorem dX7_cut_23 : decode cX7_cut 23 = .ok (.ifCond .ne 7, 3) := by decide +kernel
theorem dX7_cut_26 : decode cX7_cut 26 = .ok (.iconst 1, 1) := by decide +kernel
theorem dX7_cut_27 : decode cX7_cut 27 = .ok (.goto 26, 3) := by decide +kernel
theorem dX7_cut_30 : decode cX7_cut 30 = .ok (.aload_n 0, 1) := by decide +kernel
theorem dX7_cut_31 : decode cX7_cut 31 = .ok (.getfield 41, 3) := by decide +kernel
theorem dX7_cut_34 : decode cX7_cut 34 = .ok (.iload_n 1, 1) := by decide +kernel
theorem dX7_cut_35 : decode cX7_cut 35 = .ok (.baload, 1) := by decide +kernel
theorem dX7_cut_36 : decode cX7_cut 36 = .ok (.ifCond .eq 16, 3) := by decide +kernel
theorem dX7_cut_39 : decode cX7_cut 39 = .ok (.aload_n 0, 1) := by decide +kernel
theorem dX7_cut_40 : decode cX7_cut 40 = .ok (.getfield 38, 3) := by decide +kernel
theorem dX7_cut_43 : decode cX7_cut 43 = .ok (.iload_n 1, 1) := by decide +kernel
theorem dX7_cut_44 : decode cX7_cut 44 = .ok (.baload, 1) := by decide +kernel
theorem dX7_cut_45 : decode cX7_cut 45 = .ok (.ifCond .eq 7, 3) := by decide +kernel
theorem dX7_cut_48 : decode cX7_cut 48 = .ok (.iconst 0, 1) := by decide +kernel
theorem dX7_cut_49 : decode cX7_cut 49 = .ok (.goto 4, 3) := by decide +kernel
theorem dX7_cut_52 : decode cX7_cut 52 = .ok (.iconst 2, 1) := by decide +kernel
theorem dX7_cut_53 : decode cX7_cut 53 = .ok (.invokevirtual 140, 3) := by decide +kernel
theorem dX7_cut_56 : decode cX7_cut 56 = .ok (.ifCond .ne 5, 3) := by decide +kernel
theorem dX7_cut_59 : decode cX7_cut 59 = .ok (.iconst 0, 1) := by decide +kernel
theorem dX7_cut_60 : decode cX7_cut 60 = .ok (.ireturn, 1) := by decide +kernel
theorem dX7_cut_61 : decode cX7_cut 61 = .ok (.aload_n 0, 1) := by decide +kernel
theorem dX7_cut_62 : decode cX7_cut 62 = .ok (.aload_n 0, 1) := by decide +kernel
theorem dX7_cut_63 : decode cX7_cut 63 = .ok (.getfield 35, 3) := by decide +kernel
theorem dX7_cut_66 : decode cX7_cut 66 = .ok (.iload_n 1, 1) := by decide +kernel
theorem dX7_cut_67 : decode cX7_cut 67 = .ok (.iaload, 1) := by decide +kernel
theorem dX7_cut_68 : decode cX7_cut 68 = .ok (.invokevirtual 78, 3) := by decide +kernel
theorem dX7_cut_71 : decode cX7_cut 71 = .ok (.istore 4, 2) := by decide +kernel
theorem dX7_cut_73 : decode cX7_cut 73 = .ok (.iload_n 2, 1) := by decide +kernel
theorem dX7_cut_74 : decode cX7_cut 74 = .ok (.istore 5, 2) := by decide +kernel
theorem dX7_cut_76 : decode cX7_cut 76 = .ok (.iload 5, 2) := by decide +kernel
theorem dX7_cut_78 : decode cX7_cut 78 = .ok (.bipush 16, 2) := by decide +kernel
theorem dX7_cut_80 : decode cX7_cut 80 = .ok (.if_icmp .ge 21, 3) := by decide +kernel
theorem dX7_cut_83 : decode cX7_cut 83 = .ok (.aload_n 0, 1) := by decide +kernel
theorem dX7_cut_84 : decode cX7_cut 84 = .ok (.aload_n 0, 1) := by decide +kernel
theorem dX7_cut_85 : decode cX7_cut 85 = .ok (.getfield 35, 3) := by decide +kernel
theorem dX7_cut_88 : decode cX7_cut 88 = .ok (.iload_n 1, 1) := by decide +kernel
theorem dX7_cut_89 : decode cX7_cut 89 = .ok (.iaload, 1) := by decide +kernel
theorem dX7_cut_90 : decode cX7_cut 90 = .ok (.iload 5, 2) := by decide +kernel
theorem dX7_cut_92 : decode cX7_cut 92 = .ok (.invokevirtual 94, 3) := by decide +kernel
theorem dX7_cut_95 : decode cX7_cut 95 = .ok (.iinc 5 1, 3) := by decide +kernel
theorem dX7_cut_98 : decode cX7_cut 98 = .ok (.goto (-22), 3) := by decide +kernel
theorem dX7_cut_101 : decode cX7_cut 101 = .ok (.iload 4, 2) := by decide +kernel
theorem dX7_cut_103 : decode cX7_cut 103 = .ok (.aload_n 0, 1) := by decide +kernel
theorem dX7_cut_104 : decode cX7_cut 104 = .ok (.aload_n 0, 1) := by decide +kernel
theorem dX7_cut_105 : decode cX7_cut 105 = .ok (.getfield 35, 3) := by decide +kernel
theorem dX7_cut_108 : decode cX7_cut 108 = .ok (.iload_n 1, 1) := by decide +kernel
theorem dX7_cut_109 : decode cX7_cut 109 = .ok (.iaload, 1) := by decide +kernel
theorem dX7_cut_110 : decode cX7_cut 110 = .ok (.invokevirtual 78, 3) := by decide +kernel
theorem dX7_cut_113 : decode cX7_cut 113 = .ok (.isub, 1) := by decide +kernel
theorem dX7_cut_114 : decode cX7_cut 114 = .ok (.ireturn, 1) := by decide +kernel
def f_X7_cut (u0 : S1) (p1 : Int32) (p2 : Int32) : Option (Int32 × S1) := bn (f_X7_isHandle u0 p1) (fun z_1 => jn (fun (v20_2_0 : Int32) => jn (fun (v53_3_0 : Int32) => bn (f_X7_can u0 v53_3_0) (fun z_4 => if z_4.1 = 0 then some (0, z_4.2) else chk (inb p1 30) (bn (f_X7_pagesOf z_4.2 (z_4.2 10 (p1).toNatClampNeg)) (fun z_6 => qj2 (fun (r76_7 : Int32 → S1 → Option (Int32 × S1)) (y76_7_5 : Int32) (u76_7_0 : S1) => if 16 ≤ y76_7_5 then chk (inb p1 30) (bn (f_X7_pagesOf u76_7_0 (u76_7_0 10 (p1).toNatClampNeg)) (fun z_9 => some (z_6 - z_9, u76_7_0))) else chk (inb p1 30) (bn (f_X7_digs u76_7_0 (u76_7_0 10 (p1).toNatClampNeg) y76_7_5) (fun z_10 => r76_7 (y76_7_5 + 1) z_10))) (fun k76_7 => k76_7 p2 z_4.2))))) (fun k53_3 => if v20_2_0 = 0 then k53_3 1 else chk (inb p1 30) (jn (k53_3 2) (fun k52_12 => if (u0 12 (p1).toNatClampNeg) = 0 then k52_12 else chk (inb p1 30) (if (u0 11 (p1).toNatClampNeg) = 0 then k52_12 else k53_3 0))))) (fun k20_2 => jn (k20_2 0) (fun k19_15 => if z_1 = 0 then k19_15 else bn (f_X7_isPage p2) (fun z_17 => if z_17 = 0 then k19_15 else k20_2 1))))
def rmX7_cut : Room := { frames := 3, cells := 0, slots := 0, locals := 66 }
set_option maxHeartbeats 4000000 in
set_option maxRecDepth 100000 in
theorem c_X7_cut (l : Launch) (D : va_G) (cI cZ cJ cT : ClassId) (a0 : Nat → Nat) (sz : Nat) (u0 : S1) (p1 : Int32) (p2 : Int32) (o : Int32 × S1) (hf : f_X7_cut u0 p1 p2 = some o) : Met l yX7_cut wsX7_cut rmX7_cut (va_Pc [.ref (a0 0), .int p1, .int p2] (PW D cls (tys cI cZ cJ cT) ((wX7 cI cZ a0 u0)) sz)) (QWi D cls o.1 ((wX7 cI cZ a0 o.2)) (va_A ((wX7 cI cZ a0 u0)) sz)) 0 0 (va_A ((wX7 cI cZ a0 u0)) sz) := by
  refine Met.ofW (cc := cX7_cut) (maxL := 6) (ret := (some .int)) (by decide) rfl ?_
  intro p e s m args below meth c s₁ B hml hv
  obtain ⟨hav, hsz, hP, hK, hD0⟩ := hv
  have hx := B.exec
  have hb := B.bytes
  have hr := B.returns
  have hlocks := B.notSynchronized
  have hts := atoms_spec (ws := wsX7_cut) B.pre
  have hown : s.vm.findClass RX7 = some m.cls := findClass_of_methodNamed B.named
  have i7 : ∀ w ∈ wsX70, w ∈ wsX7_cut := fun w h => List.mem_cons_of_mem _ (List.mem_append_right _ h)
  have hk35 := hts (.fieldLink RX7 35 "InoderyModel" "of" "[I") (by decide +kernel)
  have hk38 := hts (.fieldLink RX7 38 "InoderyModel" "isWriting" "[Z") (by decide +kernel)
  have hk41 := hts (.fieldLink RX7 41 "InoderyModel" "isOpen" "[Z") (by decide +kernel)
  subst hsz
  have hD := hD0.self (sz := s.heap.size)
  generalize hAe : va_A ((wX7 cI cZ a0 u0)) s.heap.size = A at hD ⊢
  have hA : ∀ q : Nat, s.heap.size ≤ q → A q := fun q h => by rw [← hAe]; exact Or.inr h
  have hS : va_S A s.heap s.heap [] := va_S.rf
  have hDD : ∀ w0 : S1, va_D A ((wX7 cI cZ a0 w0)) := fun _ => D_same (w := (wX7 cI cZ a0 u0)) rfl hD
  refine Wq (fun Q hQ => ?_)
  refine W_entry hav (Nat.le_of_ble_eq_true rfl) (fun ls hl => ?_)
  have hl : lv_has ls 6 [(0, .ref (a0 0)), (1, .int p1), (2, .int p2)] := hl
  unfold f_X7_cut at hf
  refine W_heap hP hS (fun H locs hP hS => ?_)
  refine lv_aload_n hx hb dX7_cut_0 rfl (lv_at hl 0 rfl) ?_
  refine lv_iload_n hx hb dX7_cut_1 rfl (lv_at hl 1 rfl) ?_
  obtain ⟨z_1, hz_1, hf⟩ := bn_some hf
  refine cRV (As := [.int p1]) (rest := []) ⟨hx, hb, hml, hown, hts⟩ (c_X7_isHandle l D cI cZ cJ cT a0 u0 p1 z_1 hz_1) (cwV 1 hts gX7_cut_X7_isHandle rfl rfl rfl (by decide +kernel) ⟨Nat.le_of_ble_eq_true rfl, Nat.le_of_ble_eq_true rfl⟩) hP hK (va_recv hK hP (ci := 7) (q0 := 0) rfl rfl) rfl rfl hl.1 (Nat.le_of_ble_eq_true rfl) dX7_cut_2 ⟨Nat.le_of_ble_eq_true rfl, Nat.le_of_ble_eq_true rfl⟩ ?_
  obtain ⟨k20_2, hk20_2, hf⟩ := jn_some hf
  have j20_2 : ∀ (v20_2_0 : Int32) (H : Heap) (locs : List Loc) (ls : Array Slot), k20_2 v20_2_0 = some o → va_P D cls (wX7 cI cZ a0 u0) H → va_S A s.heap H locs → lv_has ls 6 [(0, .ref (a0 0)), (1, .int p1), (2, .int p2)] → W p l e (headSpec wsX7_cut rmX7_cut).room s m args below meth c H locs 0 0 Q (F0 m 20 ls [.int v20_2_0]) := by
    intro v20_2_0 H locs ls hf hP hS hl
    have hf := qa1 hk20_2 hf
    refine lv_istore_n (lv' := [(3, .int v20_2_0), (0, .ref (a0 0)), (1, .int p1), (2, .int p2)]) hx hb dX7_cut_20 rfl hl (by decide) rfl (fun ls hl => ?_)
    refine lv_aload_n hx hb dX7_cut_21 rfl (lv_at hl 1 rfl) ?_
    refine lv_iload_n hx hb dX7_cut_22 rfl (lv_at hl 0 rfl) ?_
    obtain ⟨k53_3, hk53_3, hf⟩ := jn_some hf
    have j53_3 : ∀ (v53_3_0 : Int32) (H : Heap) (locs : List Loc) (ls : Array Slot), k53_3 v53_3_0 = some o → va_P D cls (wX7 cI cZ a0 u0) H → va_S A s.heap H locs → lv_has ls 6 [(0, .ref (a0 0)), (1, .int p1), (2, .int p2)] → W p l e (headSpec wsX7_cut rmX7_cut).room s m args below meth c H locs 0 0 Q (F0 m 53 ls [.int v53_3_0, .ref (a0 0)]) := by
      intro v53_3_0 H locs ls hf hP hS hl
      have hf := qa1 hk53_3 hf
      obtain ⟨z_4, hz_4, hf⟩ := bn_some hf
      refine cWVi (As := [.int v53_3_0]) (rest := []) ⟨hx, hb, hml, hown, hts⟩ (c_X7_can l D cI cZ cJ cT a0 H.size u0 v53_3_0 z_4 hz_4) (cwV 1 hts gX7_cut_X7_can rfl rfl rfl (by decide +kernel) ⟨Nat.le_of_ble_eq_true rfl, Nat.le_of_ble_eq_true rfl⟩) hP hK (hDD u0) hS (own_free (hDD u0) hS hA) (va_recv hK hP (ci := 7) (q0 := 0) rfl rfl) rfl rfl hl.1 (Nat.le_of_ble_eq_true rfl) dX7_cut_53 ⟨Nat.le_of_ble_eq_true rfl, Nat.le_of_ble_eq_true rfl⟩ (fun H1 locs hP1 hk1 hS => ?_)
      have hP : va_P D cls (wX7 cI cZ a0 z_4.2) H1 := hP1
      clear hP1 hk1
      generalize H1 = H at hP hS ⊢
      refine lv_if_ne (tgt := 61) hx hb dX7_cut_56 (by decide) (fun c_5 => ?_) (fun c_5 => ?_)
      · have hf := ite_f hf c_5
        refine lv_aload_n hx hb dX7_cut_61 rfl (lv_at hl 0 rfl) ?_
        refine lv_aload_n hx hb dX7_cut_62 rfl (lv_at hl 0 rfl) ?_
        refine va_get (D := D) (ci := 7) (v := .ref (a0 11)) (C := RX7) (T := TX7) (N := 19) hx hb hts i7 hown hK hP 0 rfl rfl 10 (by decide) hk35 (fun _ h9 => h9) rfl dX7_cut_63 ?_
        refine lv_iload_n hx hb dX7_cut_66 rfl (lv_at hl 1 rfl) ?_
        obtain ⟨hi, hf⟩ := chk_some hf
        refine va_iald hx hb hK hP 9 0 rfl rfl (inb_in hi) dX7_cut_67 ?_
        obtain ⟨z_6, hz_6, hf⟩ := bn_some hf
        refine cRV (As := [.int (z_4.2 10 (p1).toNatClampNeg)]) (rest := []) ⟨hx, hb, hml, hown, hts⟩ (c_X7_pagesOf l D cI cZ cJ cT a0 z_4.2 (z_4.2 10 (p1).toNatClampNeg) z_6 hz_6) (cwV 1 hts gX7_cut_X7_pagesOf rfl rfl rfl (by decide +kernel) ⟨Nat.le_of_ble_eq_true rfl, Nat.le_of_ble_eq_true rfl⟩) hP hK (va_recv hK hP (ci := 7) (q0 := 0) rfl rfl) rfl rfl hl.1 (Nat.le_of_ble_eq_true rfl) dX7_cut_68 ⟨Nat.le_of_ble_eq_true rfl, Nat.le_of_ble_eq_true rfl⟩ ?_
        refine lv_istore (lv' := [(4, .int z_6), (0, .ref (a0 0)), (1, .int p1), (2, .int p2)]) hx hb dX7_cut_71 hl (by decide) rfl (fun ls hl => ?_)
        refine lv_iload_n hx hb dX7_cut_73 rfl (lv_at hl 3 rfl) ?_
        refine lv_istore (lv' := [(5, .int p2), (4, .int z_6), (0, .ref (a0 0)), (1, .int p1), (2, .int p2)]) hx hb dX7_cut_74 hl (by decide) rfl (fun ls hl => ?_)
        obtain ⟨G76_7, hG76_7, hf⟩ := qj2_some hf
        have j76_7 : ∀ (n : Nat) (y76_7_5 : Int32) (u76_7_0 : S1) (H : Heap) (locs : List Loc) (ls : Array Slot), ql2 G76_7 n y76_7_5 u76_7_0 = some o → va_P D cls (wX7 cI cZ a0 u76_7_0) H → va_S A s.heap H locs → lv_has ls 6 [(0, .ref (a0 0)), (1, .int p1), (4, .int z_6), (5, .int y76_7_5)] → W p l e (headSpec wsX7_cut rmX7_cut).room s m args below meth c H locs 0 0 Q (F0 m 76 ls []) := by
          intro n
          induction n with
          | zero => intro y76_7_5 u76_7_0 H locs ls hf hP hS hl; exact (ql2_z hf).elim
          | succ n ih76_7 =>
            intro y76_7_5 u76_7_0 H locs ls hf hP hS hl
            have hf := ql2_s hG76_7 hf
            obtain ⟨r76_7, hr76_7⟩ : ∃ z, z = ql2 G76_7 n := ⟨_, rfl⟩
            rw [← hr76_7] at hf ih76_7
            refine lv_iload hx hb dX7_cut_76 (lv_at hl 3 rfl) ?_
            refine lv_bipush (v := 16) hx hb dX7_cut_78 (by decide) ?_
            refine lv_icmp_ge (tgt := 101) hx hb dX7_cut_80 (by decide) (fun c_8 => ?_) (fun c_8 => ?_)
            · have hf := ite_t hf c_8
              refine lv_iload hx hb dX7_cut_101 (lv_at hl 2 rfl) ?_
              refine lv_aload_n hx hb dX7_cut_103 rfl (lv_at hl 0 rfl) ?_
              refine lv_aload_n hx hb dX7_cut_104 rfl (lv_at hl 0 rfl) ?_
              refine va_get (D := D) (ci := 7) (v := .ref (a0 11)) (C := RX7) (T := TX7) (N := 19) hx hb hts i7 hown hK hP 0 rfl rfl 10 (by decide) hk35 (fun _ h9 => h9) rfl dX7_cut_105 ?_
              refine lv_iload_n hx hb dX7_cut_108 rfl (lv_at hl 1 rfl) ?_
              obtain ⟨hi, hf⟩ := chk_some hf
              refine va_iald hx hb hK hP 9 0 rfl rfl (inb_in hi) dX7_cut_109 ?_
              obtain ⟨z_9, hz_9, hf⟩ := bn_some hf
              refine cRV (As := [.int (u76_7_0 10 (p1).toNatClampNeg)]) (rest := [.int z_6]) ⟨hx, hb, hml, hown, hts⟩ (c_X7_pagesOf l D cI cZ cJ cT a0 u76_7_0 (u76_7_0 10 (p1).toNatClampNeg) z_9 hz_9) (cwV 1 hts gX7_cut_X7_pagesOf rfl rfl rfl (by decide +kernel) ⟨Nat.le_of_ble_eq_true rfl, Nat.le_of_ble_eq_true rfl⟩) hP hK (va_recv hK hP (ci := 7) (q0 := 0) rfl rfl) rfl rfl hl.1 (Nat.le_of_ble_eq_true rfl) dX7_cut_110 ⟨Nat.le_of_ble_eq_true rfl, Nat.le_of_ble_eq_true rfl⟩ ?_
              refine lv_isub hx hb dX7_cut_113 ?_
              have eo := Option.some.inj hf
              have hP : va_P D cls (wX7 cI cZ a0 o.2) H := by rw [← eo]; exact hP
              rw [hQ]
              exact W.iret hx hb hr (fun t ht hW => ⟨⟨_, (), rfl, congrArg Prod.fst eo, P_at ht hP⟩, hS.F ht⟩) hS.2.2 dX7_cut_114 hlocks
            · have hf := ite_f hf c_8
              refine lv_aload_n hx hb dX7_cut_83 rfl (lv_at hl 0 rfl) ?_
              refine lv_aload_n hx hb dX7_cut_84 rfl (lv_at hl 0 rfl) ?_
              refine va_get (D := D) (ci := 7) (v := .ref (a0 11)) (C := RX7) (T := TX7) (N := 19) hx hb hts i7 hown hK hP 0 rfl rfl 10 (by decide) hk35 (fun _ h9 => h9) rfl dX7_cut_85 ?_
              refine lv_iload_n hx hb dX7_cut_88 rfl (lv_at hl 1 rfl) ?_
              obtain ⟨hi, hf⟩ := chk_some hf
              refine va_iald hx hb hK hP 9 0 rfl rfl (inb_in hi) dX7_cut_89 ?_
              refine lv_iload hx hb dX7_cut_90 (lv_at hl 3 rfl) ?_
              obtain ⟨z_10, hz_10, hf⟩ := bn_some hf
              refine cWVv (As := [.int (u76_7_0 10 (p1).toNatClampNeg), .int y76_7_5]) (rest := []) ⟨hx, hb, hml, hown, hts⟩ (c_X7_digs l D cI cZ cJ cT a0 H.size u76_7_0 (u76_7_0 10 (p1).toNatClampNeg) y76_7_5 z_10 hz_10) (cwV 2 hts gX7_cut_X7_digs rfl rfl rfl (by decide +kernel) ⟨Nat.le_of_ble_eq_true rfl, Nat.le_of_ble_eq_true rfl⟩) hP hK (hDD u76_7_0) hS (own_free (hDD u76_7_0) hS hA) (va_recv hK hP (ci := 7) (q0 := 0) rfl rfl) rfl rfl hl.1 (Nat.le_of_ble_eq_true rfl) dX7_cut_92 ⟨Nat.le_of_ble_eq_true rfl, Nat.le_of_ble_eq_true rfl⟩ (fun H1 locs hP1 hk1 hS => ?_)
              have hP : va_P D cls (wX7 cI cZ a0 z_10) H1 := hP1
              clear hP1 hk1
              generalize H1 = H at hP hS ⊢
              refine lv_iinc (v := y76_7_5 + 1) (lv' := [(5, .int (y76_7_5 + 1)), (0, .ref (a0 0)), (1, .int p1), (4, .int z_6)]) hx hb dX7_cut_95 hl (k := 3) rfl rfl (by decide) rfl (fun ls hl => ?_)
              refine lv_goto (tgt := 76) hx hb dX7_cut_98 (by decide) ?_
              exact ih76_7 _ _ _ _ _ hf hP hS (lv_sub hl [1, 2, 3, 0] rfl)
        exact j76_7 4096 _ _ _ _ _ hf hP hS (lv_sub hl [2, 3, 1, 0] rfl)
      · have hf := ite_t hf c_5
        refine lv_iconst (v := 0) hx hb dX7_cut_59 (by decide) ?_
        have eo := Option.some.inj hf
        have hP : va_P D cls (wX7 cI cZ a0 o.2) H := by rw [← eo]; exact hP
        rw [hQ]
        exact W.iret hx hb hr (fun t ht hW => ⟨⟨_, (), rfl, congrArg Prod.fst eo, P_at ht hP⟩, hS.F ht⟩) hS.2.2 dX7_cut_60 hlocks
    refine lv_if_ne (tgt := 30) hx hb dX7_cut_23 (by decide) (fun c_11 => ?_) (fun c_11 => ?_)
    · have hf := ite_f hf c_11
      refine lv_aload_n hx hb dX7_cut_30 rfl (lv_at hl 1 rfl) ?_
      refine va_get (D := D) (ci := 7) (v := .ref (a0 13)) (C := RX7) (T := TX7) (N := 19) hx hb hts i7 hown hK hP 0 rfl rfl 12 (by decide) hk41 (fun _ h9 => h9) rfl dX7_cut_31 ?_
      refine lv_iload_n hx hb dX7_cut_34 rfl (lv_at hl 2 rfl) ?_
      obtain ⟨hi, hf⟩ := chk_some hf
      refine va_zald hx hb hK hP 11 1 rfl rfl (inb_in hi) dX7_cut_35 ?_
      obtain ⟨k52_12, hk52_12, hf⟩ := jn_some hf
      have j52_12 : ∀ (H : Heap) (locs : List Loc) (ls : Array Slot), k52_12 = some o → va_P D cls (wX7 cI cZ a0 u0) H → va_S A s.heap H locs → lv_has ls 6 [(0, .ref (a0 0)), (1, .int p1), (2, .int p2)] → W p l e (headSpec wsX7_cut rmX7_cut).room s m args below meth c H locs 0 0 Q (F0 m 52 ls [.ref (a0 0)]) := by
        intro H locs ls hf hP hS hl
        have hf := qa0 hk52_12 hf
        refine lv_iconst (v := 2) hx hb dX7_cut_52 (by decide) ?_
        exact j53_3 _ _ _ _ hf hP hS (lv_sub hl [0, 1, 2] rfl)
      refine lv_if_eq (tgt := 52) hx hb dX7_cut_36 (by decide) (fun c_13 => ?_) (fun c_13 => ?_)
      · have hf := ite_t hf c_13
        exact j52_12 _ _ _ hf hP hS (lv_sub hl [1, 2, 3] rfl)
      · have hf := ite_f hf c_13
        refine lv_aload_n hx hb dX7_cut_39 rfl (lv_at hl 1 rfl) ?_
        refine va_get (D := D) (ci := 7) (v := .ref (a0 12)) (C := RX7) (T := TX7) (N := 19) hx hb hts i7 hown hK hP 0 rfl rfl 11 (by decide) hk38 (fun _ h9 => h9) rfl dX7_cut_40 ?_
        refine lv_iload_n hx hb dX7_cut_43 rfl (lv_at hl 2 rfl) ?_
        obtain ⟨hi, hf⟩ := chk_some hf
        refine va_zald hx hb hK hP 10 1 rfl rfl (inb_in hi) dX7_cut_44 ?_
        refine lv_if_eq (tgt := 52) hx hb dX7_cut_45 (by decide) (fun c_14 => ?_) (fun c_14 => ?_)
        · have hf := ite_t hf c_14
          exact j52_12 _ _ _ hf hP hS (lv_sub hl [1, 2, 3] rfl)
        · have hf := ite_f hf c_14
          refine lv_iconst (v := 0) hx hb dX7_cut_48 (by decide) ?_
          refine lv_goto (tgt := 53) hx hb dX7_cut_49 (by decide) ?_
          exact j53_3 _ _ _ _ hf hP hS (lv_sub hl [1, 2, 3] rfl)
    · have hf := ite_t hf c_11
      refine lv_iconst (v := 1) hx hb dX7_cut_26 (by decide) ?_
      refine lv_goto (tgt := 53) hx hb dX7_cut_27 (by decide) ?_
      exact j53_3 _ _ _ _ hf hP hS (lv_sub hl [1, 2, 3] rfl)
  obtain ⟨k19_15, hk19_15, hf⟩ := jn_some hf
  have j19_15 : ∀ (H : Heap) (locs : List Loc) (ls : Array Slot), k19_15 = some o → va_P D cls (wX7 cI cZ a0 u0) H → va_S A s.heap H locs → lv_has ls 6 [(0, .ref (a0 0)), (1, .int p1), (2, .int p2)] → W p l e (headSpec wsX7_cut rmX7_cut).room s m args below meth c H locs 0 0 Q (F0 m 19 ls []) := by
    intro H locs ls hf hP hS hl
    have hf := qa0 hk19_15 hf
    refine lv_iconst (v := 0) hx hb dX7_cut_19 (by decide) ?_
    exact j20_2 _ _ _ _ hf hP hS (lv_sub hl [0, 1, 2] rfl)
  refine lv_if_eq (tgt := 19) hx hb dX7_cut_5 (by decide) (fun c_16 => ?_) (fun c_16 => ?_)
  · have hf := ite_t hf c_16
    exact j19_15 _ _ _ hf hP hS (lv_sub hl [0, 1, 2] rfl)
  · have hf := ite_f hf c_16
    refine lv_iload_n hx hb dX7_cut_8 rfl (lv_at hl 2 rfl) ?_
    obtain ⟨z_17, hz_17, hf⟩ := bn_some hf
    refine c0S (As := [.int p2]) (rest := []) ⟨hx, hb, hml, hown, hts⟩ (c_X7_isPage l D cI cZ cJ cT p2 z_17 hz_17) (va_cwS 1 hts gX7_cut_X7_isPage rfl rfl rfl (by decide +kernel) ⟨Nat.le_of_ble_eq_true rfl, Nat.le_of_ble_eq_true rfl⟩) rfl rfl hl.1 (Nat.le_of_ble_eq_true rfl) dX7_cut_9 ⟨Nat.le_of_ble_eq_true rfl, Nat.le_of_ble_eq_true rfl⟩ ?_
    refine lv_if_eq (tgt := 19) hx hb dX7_cut_12 (by decide) (fun c_18 => ?_) (fun c_18 => ?_)
    · have hf := ite_t hf c_18
      exact j19_15 _ _ _ hf hP hS (lv_sub hl [0, 1, 2] rfl)
    · have hf := ite_f hf c_18
      refine lv_iconst (v := 1) hx hb dX7_cut_15 (by decide) ?_
      refine lv_goto (tgt := 20) hx hb dX7_cut_16 (by decide) ?_
      exact j20_2 _ _ _ _ hf hP hS (lv_sub hl [0, 1, 2] rfl)
theorem dX7_canLock_0 : decode cX7_canLock 0 = .ok (.iconst 1, 1) := by decide +kernel
theorem dX7_canLock_1 : decode cX7_canLock 1 = .ok (.istore 4, 2) := by decide +kernel
theorem dX7_canLock_3 : decode cX7_canLock 3 = .ok (.iconst 0, 1) := by decide +kernel
theorem dX7_canLock_4 : decode cX7_canLock 4 = .ok (.istore 5, 2) := by decide +kernel
theorem dX7_canLock_6 : decode cX7_canLock 6 = .ok (.iload 5, 2) := by decide +kernel
theorem dX7_canLock_8 : decode cX7_canLock 8 = .ok (.aload_n 0, 1) := by decide +kernel
theorem dX7_canLock_9 : decode cX7_canLock 9 = .ok (.getfield 91, 3) := by decide +kernel
theorem dX7_canLock_12 : decode cX7_canLock 12 = .ok (.if_icmp .ge 87, 3) := by decide +kernel
theorem dX7_canLock_15 : decode cX7_canLock 15 = .ok (.iload 5, 2) := by decide +kernel
theorem dX7_canLock_17 : decode cX7_canLock 17 = .ok (.iload_n 1, 1) := by decide +kernel
theorem dX7_canLock_18 : decode cX7_canLock 18 = .ok (.if_icmp .eq 44, 3) := by decide +kernel
theorem dX7_canLock_21 : decode cX7_canLock 21 = .ok (.aload_n 0, 1) := by decide +kernel
theorem dX7_canLock_22 : decode cX7_canLock 22 = .ok (.getfield 41, 3) := by decide +kernel
theorem dX7_canLock_25 : decode cX7_canLock 25 = .ok (.iload 5, 2) := by decide +kernel
theorem dX7_canLock_27 : decode cX7_canLock 27 = .ok (.baload, 1) := by decide +kernel
theorem dX7_canLock_28 : decode cX7_canLock 28 = .ok (.ifCond .eq 34, 3) := by decide +kernel
theorem dX7_canLock_31 : decode cX7_canLock 31 = .ok (.aload_n 0, 1) := by decide +kernel
theorem dX7_canLock_32 : decode cX7_canLock 32 = .ok (.getfield 35, 3) := by decide +kernel
theorem dX7_canLock_35 : decode cX7_canLock 35 = .ok (.iload 5, 2) := by decide +kernel
theorem dX7_canLock_37 : decode cX7_canLock 37 = .ok (.iaload, 1) := by decide +kernel
theorem dX7_canLock_38 : decode cX7_canLock 38 = .ok (.aload_n 0, 1) := by decide +kernel
theorem dX7_canLock_39 : decode cX7_canLock 39 = .ok (.getfield 35, 3) := by decide +kernel
theorem dX7_canLock_42 : decode cX7_canLock 42 = .ok (.iload_n 1, 1) := by decide +kernel
theorem dX7_canLock_43 : decode cX7_canLock 43 = .ok (.iaload, 1) := by decide +kernel
theorem dX7_canLock_44 : decode cX7_canLock 44 = .ok (.if_icmp .ne 18, 3) := by decide +kernel
theorem dX7_canLock_47 : decode cX7_canLock 47 = .ok (.aload_n 0, 1) := by decide +kernel
theorem dX7_canLock_48 : decode cX7_canLock 48 = .ok (.getfield 44, 3) := by decide +kernel
theorem dX7_canLock_51 : decode cX7_canLock 51 = .ok (.bipush 16, 2) := by decide +kernel
theorem dX7_canLock_53 : decode cX7_canLock 53 = .ok (.iload 5, 2) := by decide +kernel
theorem dX7_canLock_55 : decode cX7_canLock 55 = .ok (.imul, 1) := by decide +kernel
theorem dX7_canLock_56 : decode cX7_canLock 56 = .ok (.iload_n 2, 1) := by decide +kernel
theorem dX7_canLock_57 : decode cX7_canLock 57 = .ok (.iadd, 1) := by decide +kernel
theorem dX7_canLock_58 : decode cX7_canLock 58 = .ok (.iaload, 1) := by decide +kernel
theorem dX7_canLock_59 : decode cX7_canLock 59 = .ok (.goto 4, 3) := by decide +kernel
theorem dX7_canLock_62 : decode cX7_canLock 62 = .ok (.iconst 0, 1) := by decide +kernel
theorem dX7_canLock_63 : decode cX7_canLock 63 = .ok (.istore 6, 2) := by decide +kernel
theorem dX7_canLock_65 : decode cX7_canLock 65 = .ok (.iload 4, 2) := by decide +kernel
theorem dX7_canLock_67 : decode cX7_canLock 67 = .ok (.ifCond .eq 23, 3) := by decide +kernel
theorem dX7_canLock_70 : decode cX7_canLock 70 = .ok (.iload 6, 2) := by decide +kernel
theorem dX7_canLock_72 : decode cX7_canLock 72 = .ok (.iconst 2, 1) := by decide +kernel
theorem dX7_canLock_73 : decode cX7_canLock 73 = .ok (.if_icmp .eq 17, 3) := by decide +kernel
theorem dX7_canLock_76 : decode cX7_canLock 76 = .ok (.iload 6, 2) := by decide +kernel
theorem dX7_canLock_78 : decode cX7_canLock 78 = .ok (.ifCond .eq 8, 3) := by decide +kernel
theorem dX7_canLock_81 : decode cX7_canLock 81 = .ok (.iload_n 3, 1) := by decide +kernel
theorem dX7_canLock_82 : decode cX7_canLock 82 = .ok (.iconst 1, 1) := by decide +kernel
theorem dX7_canLock_83 : decode cX7_canLock 83 = .ok (.if_icmp .ne 7, 3) := by decide +kernel
theorem dX7_canLock_86 : decode cX7_canLock 86 = .ok (.iconst 1, 1) := by decide +kernel
theorem dX7_canLock_87 : decode cX7_canLock 87 = .ok (.goto 4, 3) := by decide +kernel
theorem dX7_canLock_90 : decode cX7_canLock 90 = .ok (.iconst 0, 1) := by decide +kernel
theorem dX7_canLock_91 : decode cX7_canLock 91 = .ok (.istore 4, 2) := by decide +kernel
theorem dX7_canLock_93 : decode cX7_canLock 93 = .ok (.iinc 5 1, 3) := by decide +kernel
theorem dX7_canLock_96 : decode cX7_canLock 96 = .ok (.goto (-90), 3) := by decide +kernel
theorem dX7_canLock_99 : decode cX7_canLock 99 = .ok (.iload 4, 2) := by decide +kernel
theorem dX7_canLock_101 : decode cX7_canLock 101 = .ok (.ireturn, 1) := by decide +kernel
def f_X7_canLock (u0 : S1) (p1 : Int32) (p2 : Int32) (p3 : Int32) : Option (Int32) := qj2 (fun (r6_1 : Int32 → Int32 → Option (Int32)) (y6_1_4 : Int32) (y6_1_5 : Int32) => if (u0 9 0) ≤ y6_1_5 then some (vp_nar .boolean y6_1_4) else jn (fun (v63_3_0 : Int32) => jn (fun (v91_4_0 : Int32) => r6_1 v91_4_0 (y6_1_5 + 1)) (fun k91_4 => jn (k91_4 0) (fun k90_5 => if y6_1_4 = 0 then k90_5 else if v63_3_0 = 2 then k90_5 else jn (k91_4 1) (fun k86_8 => if v63_3_0 = 0 then k86_8 else if p3 = 1 then k86_8 else k90_5)))) (fun k63_3 => jn (k63_3 0) (fun k62_11 => if y6_1_5 = p1 then k62_11 else chk (inb y6_1_5 30) (if (u0 12 (y6_1_5).toNatClampNeg) = 0 then k62_11 else chk (inb y6_1_5 30) (chk (inb p1 30) (if (u0 10 (y6_1_5).toNatClampNeg) = (u0 10 (p1).toNatClampNeg) then chk (inb ((16 * y6_1_5) + p2) 480) (k63_3 (u0 13 ((16 * y6_1_5) + p2).toNatClampNeg)) else k62_11)))))) (fun k6_1 => k6_1 1 0)
def rmX7_canLock : Room := { frames := 0, cells := 0, slots := 0, locals := 0 }
set_option maxHeartbeats 4000000 in
set_option maxRecDepth 100000 in
theorem c_X7_canLock (l : Launch) (D : va_G) (cI cZ cJ cT : ClassId) (a0 : Nat → Nat) (u0 : S1) (p1 : Int32) (p2 : Int32) (p3 : Int32) (o : Int32) (hf : f_X7_canLock u0 p1 p2 p3 = some o) : Met l yX7_canLock wsX7_canLock rmX7_canLock (va_Pc [.ref (a0 0), .int p1, .int p2, .int p3] (PR D cls (tys cI cZ cJ cT) ((wX7 cI cZ a0 u0)))) (QR o) 0 0 (fun _ => False) := by
  refine Met.ofW (cc := cX7_canLock) (maxL := 7) (ret := (some .boolean)) (by decide) rfl ?_
  intro p e s m args below meth c s₁ B hml hv
  obtain ⟨hav, hP, hK⟩ := hv
  have hx := B.exec
  have hb := B.bytes
  have hr := B.returns
  have hlocks := B.notSynchronized
  have hts := atoms_spec (ws := wsX7_canLock) B.pre
  have hown : s.vm.findClass RX7 = some m.cls := findClass_of_methodNamed B.named
  have i7 : ∀ w ∈ wsX70, w ∈ wsX7_canLock := fun w h => List.mem_cons_of_mem _ (List.mem_append_right _ h)
  have hk35 := hts (.fieldLink RX7 35 "InoderyModel" "of" "[I") (by decide +kernel)
  have hk41 := hts (.fieldLink RX7 41 "InoderyModel" "isOpen" "[Z") (by decide +kernel)
  have hk44 := hts (.fieldLink RX7 44 "InoderyModel" "lock" "[I") (by decide +kernel)
  have hk91 := hts (.fieldLink RX7 91 "InoderyModel" "handles" "I") (by decide +kernel)
  refine Wq (fun Q hQ => ?_)
  refine W_entry hav (Nat.le_of_ble_eq_true rfl) (fun ls hl => ?_)
  have hl : lv_has ls 7 [(0, .ref (a0 0)), (1, .int p1), (2, .int p2), (3, .int p3)] := hl
  unfold f_X7_canLock at hf
  refine lv_iconst (v := 1) hx hb dX7_canLock_0 (by decide) ?_
  refine lv_istore (lv' := [(4, .int 1), (0, .ref (a0 0)), (1, .int p1), (2, .int p2), (3, .int p3)]) hx hb dX7_canLock_1 hl (by decide) rfl (fun ls hl => ?_)
  refine lv_iconst (v := 0) hx hb dX7_canLock_3 (by decide) ?_
  refine lv_istore (lv' := [(5, .int 0), (4, .int 1), (0, .ref (a0 0)), (1, .int p1), (2, .int p2), (3, .int p3)]) hx hb dX7_canLock_4 hl (by decide) rfl (fun ls hl => ?_)
  obtain ⟨G6_1, hG6_1, hf⟩ := qj2_some hf
  have j6_1 : ∀ (n : Nat) (y6_1_4 : Int32) (y6_1_5 : Int32) (ls : Array Slot), ql2 G6_1 n y6_1_4 y6_1_5 = some o → lv_has ls 7 [(0, .ref (a0 0)), (1, .int p1), (2, .int p2), (3, .int p3), (4, .int y6_1_4), (5, .int y6_1_5)] → W p l e (headSpec wsX7_canLock rmX7_canLock).room s m args below meth c s.heap [] 0 0 Q (F0 m 6 ls []) := by
    intro n
    induction n with
    | zero => intro y6_1_4 y6_1_5 ls hf hl; exact (ql2_z hf).elim
    | succ n ih6_1 =>
      intro y6_1_4 y6_1_5 ls hf hl
      have hf := ql2_s hG6_1 hf
      obtain ⟨r6_1, hr6_1⟩ : ∃ z, z = ql2 G6_1 n := ⟨_, rfl⟩
      rw [← hr6_1] at hf ih6_1
      refine lv_iload hx hb dX7_canLock_6 (lv_at hl 5 rfl) ?_
      refine lv_aload_n hx hb dX7_canLock_8 rfl (lv_at hl 0 rfl) ?_
      refine va_get (D := D) (ci := 7) (v := .int (u0 9 0)) (C := RX7) (T := TX7) (N := 19) hx hb hts i7 hown hK hP 0 rfl rfl 9 (by decide) hk91 (fun _ h9 => h9) rfl dX7_canLock_9 ?_
      refine lv_icmp_ge (tgt := 99) hx hb dX7_canLock_12 (by decide) (fun c_2 => ?_) (fun c_2 => ?_)
      · have hf := ite_t hf c_2
        refine lv_iload hx hb dX7_canLock_99 (lv_at hl 4 rfl) ?_
        rw [hQ]
        exact zretN (v := y6_1_4) (v' := vp_nar .boolean y6_1_4) hx hb hr rfl (fun t ht hW => ⟨_, rfl, Option.some.inj hf, ht⟩) (fun _ h => nomatch h) dX7_canLock_101 hlocks
      · have hf := ite_f hf c_2
        refine lv_iload hx hb dX7_canLock_15 (lv_at hl 5 rfl) ?_
        refine lv_iload_n hx hb dX7_canLock_17 rfl (lv_at hl 1 rfl) ?_
        obtain ⟨k63_3, hk63_3, hf⟩ := jn_some hf
        have j63_3 : ∀ (v63_3_0 : Int32) (ls : Array Slot), k63_3 v63_3_0 = some o → lv_has ls 7 [(0, .ref (a0 0)), (1, .int p1), (2, .int p2), (3, .int p3), (4, .int y6_1_4), (5, .int y6_1_5)] → W p l e (headSpec wsX7_canLock rmX7_canLock).room s m args below meth c s.heap [] 0 0 Q (F0 m 63 ls [.int v63_3_0]) := by
          intro v63_3_0 ls hf hl
          have hf := qa1 hk63_3 hf
          refine lv_istore (lv' := [(6, .int v63_3_0), (0, .ref (a0 0)), (1, .int p1), (2, .int p2), (3, .int p3), (4, .int y6_1_4), (5, .int y6_1_5)]) hx hb dX7_canLock_63 hl (by decide) rfl (fun ls hl => ?_)
          refine lv_iload hx hb dX7_canLock_65 (lv_at hl 5 rfl) ?_
          obtain ⟨k91_4, hk91_4, hf⟩ := jn_some hf
          have j91_4 : ∀ (v91_4_0 : Int32) (ls : Array Slot), k91_4 v91_4_0 = some o → lv_has ls 7 [(0, .ref (a0 0)), (1, .int p1), (2, .int p2), (3, .int p3), (5, .int y6_1_5)] → W p l e (headSpec wsX7_canLock rmX7_canLock).room s m args below meth c s.heap [] 0 0 Q (F0 m 91 ls [.int v91_4_0]) := by
            intro v91_4_0 ls hf hl
            have hf := qa1 hk91_4 hf
            refine lv_istore (lv' := [(4, .int v91_4_0), (0, .ref (a0 0)), (1, .int p1), (2, .int p2), (3, .int p3), (5, .int y6_1_5)]) hx hb dX7_canLock_91 hl (by decide) rfl (fun ls hl => ?_)
            refine lv_iinc (v := y6_1_5 + 1) (lv' := [(5, .int (y6_1_5 + 1)), (4, .int v91_4_0), (0, .ref (a0 0)), (1, .int p1), (2, .int p2), (3, .int p3)]) hx hb dX7_canLock_93 hl (k := 5) rfl rfl (by decide) rfl (fun ls hl => ?_)
            refine lv_goto (tgt := 6) hx hb dX7_canLock_96 (by decide) ?_
            exact ih6_1 _ _ _ hf (lv_sub hl [2, 3, 4, 5, 1, 0] rfl)
          obtain ⟨k90_5, hk90_5, hf⟩ := jn_some hf
          have j90_5 : ∀ (ls : Array Slot), k90_5 = some o → lv_has ls 7 [(0, .ref (a0 0)), (1, .int p1), (2, .int p2), (3, .int p3), (5, .int y6_1_5)] → W p l e (headSpec wsX7_canLock rmX7_canLock).room s m args below meth c s.heap [] 0 0 Q (F0 m 90 ls []) := by
            intro ls hf hl
            have hf := qa0 hk90_5 hf
            refine lv_iconst (v := 0) hx hb dX7_canLock_90 (by decide) ?_
            exact j91_4 _ _ hf (lv_sub hl [0, 1, 2, 3, 4] rfl)
          refine lv_if_eq (tgt := 90) hx hb dX7_canLock_67 (by decide) (fun c_6 => ?_) (fun c_6 => ?_)
          · have hf := ite_t hf c_6
            exact j90_5 _ hf (lv_sub hl [1, 2, 3, 4, 6] rfl)
          · have hf := ite_f hf c_6
            refine lv_iload hx hb dX7_canLock_70 (lv_at hl 0 rfl) ?_
            refine lv_iconst (v := 2) hx hb dX7_canLock_72 (by decide) ?_
            refine lv_icmp_eq (tgt := 90) hx hb dX7_canLock_73 (by decide) (fun c_7 => ?_) (fun c_7 => ?_)
            · have hf := ite_t hf c_7
              exact j90_5 _ hf (lv_sub hl [1, 2, 3, 4, 6] rfl)
            · have hf := ite_f hf c_7
              refine lv_iload hx hb dX7_canLock_76 (lv_at hl 0 rfl) ?_
              obtain ⟨k86_8, hk86_8, hf⟩ := jn_some hf
              have j86_8 : ∀ (ls : Array Slot), k86_8 = some o → lv_has ls 7 [(0, .ref (a0 0)), (1, .int p1), (2, .int p2), (3, .int p3), (5, .int y6_1_5)] → W p l e (headSpec wsX7_canLock rmX7_canLock).room s m args below meth c s.heap [] 0 0 Q (F0 m 86 ls []) := by
                intro ls hf hl
                have hf := qa0 hk86_8 hf
                refine lv_iconst (v := 1) hx hb dX7_canLock_86 (by decide) ?_
                refine lv_goto (tgt := 91) hx hb dX7_canLock_87 (by decide) ?_
                exact j91_4 _ _ hf (lv_sub hl [0, 1, 2, 3, 4] rfl)
              refine lv_if_eq (tgt := 86) hx hb dX7_canLock_78 (by decide) (fun c_9 => ?_) (fun c_9 => ?_)
              · have hf := ite_t hf c_9
                exact j86_8 _ hf (lv_sub hl [1, 2, 3, 4, 6] rfl)
              · have hf := ite_f hf c_9
                refine lv_iload_n hx hb dX7_canLock_81 rfl (lv_at hl 4 rfl) ?_
                refine lv_iconst (v := 1) hx hb dX7_canLock_82 (by decide) ?_
                refine lv_icmp_ne (tgt := 90) hx hb dX7_canLock_83 (by decide) (fun c_10 => ?_) (fun c_10 => ?_)
                · have hf := ite_f hf c_10
                  exact j90_5 _ hf (lv_sub hl [1, 2, 3, 4, 6] rfl)
                · have hf := ite_t hf c_10
                  exact j86_8 _ hf (lv_sub hl [1, 2, 3, 4, 6] rfl)
        obtain ⟨k62_11, hk62_11, hf⟩ := jn_some hf
        have j62_11 : ∀ (ls : Array Slot), k62_11 = some o → lv_has ls 7 [(0, .ref (a0 0)), (1, .int p1), (2, .int p2), (3, .int p3), (4, .int y6_1_4), (5, .int y6_1_5)] → W p l e (headSpec wsX7_canLock rmX7_canLock).room s m args below meth c s.heap [] 0 0 Q (F0 m 62 ls []) := by
          intro ls hf hl
          have hf := qa0 hk62_11 hf
          refine lv_iconst (v := 0) hx hb dX7_canLock_62 (by decide) ?_
          exact j63_3 _ _ hf (lv_sub hl [0, 1, 2, 3, 4, 5] rfl)
        refine lv_icmp_eq (tgt := 62) hx hb dX7_canLock_18 (by decide) (fun c_12 => ?_) (fun c_12 => ?_)
        · have hf := ite_t hf c_12
          exact j62_11 _ hf (lv_sub hl [0, 1, 2, 3, 4, 5] rfl)
        · have hf := ite_f hf c_12
          refine lv_aload_n hx hb dX7_canLock_21 rfl (lv_at hl 0 rfl) ?_
          refine va_get (D := D) (ci := 7) (v := .ref (a0 13)) (C := RX7) (T := TX7) (N := 19) hx hb hts i7 hown hK hP 0 rfl rfl 12 (by decide) hk41 (fun _ h9 => h9) rfl dX7_canLock_22 ?_
          refine lv_iload hx hb dX7_canLock_25 (lv_at hl 5 rfl) ?_
          obtain ⟨hi, hf⟩ := chk_some hf
          refine va_zald hx hb hK hP 11 1 rfl rfl (inb_in hi) dX7_canLock_27 ?_
          refine lv_if_eq (tgt := 62) hx hb dX7_canLock_28 (by decide) (fun c_13 => ?_) (fun c_13 => ?_)
          · have hf := ite_t hf c_13
            exact j62_11 _ hf (lv_sub hl [0, 1, 2, 3, 4, 5] rfl)
          · have hf := ite_f hf c_13
            refine lv_aload_n hx hb dX7_canLock_31 rfl (lv_at hl 0 rfl) ?_
            refine va_get (D := D) (ci := 7) (v := .ref (a0 11)) (C := RX7) (T := TX7) (N := 19) hx hb hts i7 hown hK hP 0 rfl rfl 10 (by decide) hk35 (fun _ h9 => h9) rfl dX7_canLock_32 ?_
            refine lv_iload hx hb dX7_canLock_35 (lv_at hl 5 rfl) ?_
            obtain ⟨hi, hf⟩ := chk_some hf
            refine va_iald hx hb hK hP 9 0 rfl rfl (inb_in hi) dX7_canLock_37 ?_
            refine lv_aload_n hx hb dX7_canLock_38 rfl (lv_at hl 0 rfl) ?_
            refine va_get (D := D) (ci := 7) (v := .ref (a0 11)) (C := RX7) (T := TX7) (N := 19) hx hb hts i7 hown hK hP 0 rfl rfl 10 (by decide) hk35 (fun _ h9 => h9) rfl dX7_canLock_39 ?_
            refine lv_iload_n hx hb dX7_canLock_42 rfl (lv_at hl 1 rfl) ?_
            obtain ⟨hi, hf⟩ := chk_some hf
            refine va_iald hx hb hK hP 9 0 rfl rfl (inb_in hi) dX7_canLock_43 ?_
            refine lv_icmp_ne (tgt := 62) hx hb dX7_canLock_44 (by decide) (fun c_14 => ?_) (fun c_14 => ?_)
            · have hf := ite_f hf c_14
              exact j62_11 _ hf (lv_sub hl [0, 1, 2, 3, 4, 5] rfl)
            · have hf := ite_t hf c_14
              refine lv_aload_n hx hb dX7_canLock_47 rfl (lv_at hl 0 rfl) ?_
              refine va_get (D := D) (ci := 7) (v := .ref (a0 14)) (C := RX7) (T := TX7) (N := 19) hx hb hts i7 hown hK hP 0 rfl rfl 13 (by decide) hk44 (fun _ h9 => h9) rfl dX7_canLock_48 ?_
              refine lv_bipush (v := 16) hx hb dX7_canLock_51 (by decide) ?_
              refine lv_iload hx hb dX7_canLock_53 (lv_at hl 5 rfl) ?_
              refine lv_imul hx hb dX7_canLock_55 ?_
              refine lv_iload_n hx hb dX7_canLock_56 rfl (lv_at hl 2 rfl) ?_
              refine lv_iadd hx hb dX7_canLock_57 ?_
              obtain ⟨hi, hf⟩ := chk_some hf
              refine va_iald hx hb hK hP 12 0 rfl rfl (inb_in hi) dX7_canLock_58 ?_
              refine lv_goto (tgt := 63) hx hb dX7_canLock_59 (by decide) ?_
              exact j63_3 _ _ hf (lv_sub hl [0, 1, 2, 3, 4, 5] rfl)
  exact j6_1 4096 _ _ _ hf (lv_sub hl [2, 3, 4, 5, 1, 0] rfl)
set_option maxRecDepth 20000 in
theorem ggX7_lock_X7_can : GoodIn wsX7_lock wsX7_can := goodIn_r _ [23, 24, 25, 26, 27, 28, 29, 30, 31, 32, 33, 34, 35, 36, 37, 38, 39, 40, 41, 42, 43] (by decide +kernel) (by decide +kernel)
set_option maxRecDepth 20000 in
theorem gX7_lock_X7_can : GoodIn wsX7_lock (wsV RX7 140 RX7 yX7_can wsX7_can) := goodIn_app (goodIn_of _ (by decide +kernel)) ggX7_lock_X7_can
set_option maxRecDepth 20000 in
theorem ggX7_lock_X7_canLock : GoodIn wsX7_lock wsX7_canLock := goodIn_r _ [18, 8, 1, 19, 2, 25, 26, 27, 28, 29, 30, 31, 32, 33, 34, 35, 36, 37, 38, 39, 40, 41, 42, 43] (by decide +kernel) (by decide +kernel)
set_option maxRecDepth 20000 in
theorem gX7_lock_X7_canLock : GoodIn wsX7_lock (wsV RX7 213 RX7 yX7_canLock wsX7_canLock) := goodIn_app (goodIn_of _ (by decide +kernel)) ggX7_lock_X7_canLock
set_option maxRecDepth 20000 in
theorem ggX7_lock_X7_isHandle : GoodIn wsX7_lock wsX7_isHandle := goodIn_r _ [7, 8, 9, 10, 6, 11, 25, 26, 27, 28, 29, 30, 31, 32, 33, 34, 35, 36, 37, 38, 39, 40, 41, 42, 43] (by decide +kernel) (by decide +kernel)
set_option maxRecDepth 20000 in
theorem gX7_lock_X7_isHandle : GoodIn wsX7_lock (wsV RX7 186 RX7 yX7_isHandle wsX7_isHandle) := goodIn_app (goodIn_of _ (by decide +kernel)) ggX7_lock_X7_isHandle
set_option maxRecDepth 20000 in
theorem ggX7_lock_X7_isPage : GoodIn wsX7_lock wsX7_isPage := goodIn_r _ [14, 9, 10, 6, 11] (by decide +kernel) (by decide +kernel)
set_option maxRecDepth 20000 in
theorem gX7_lock_X7_isPage : GoodIn wsX7_lock (va_wsS RX7 201 yX7_isPage wsX7_isPage) := goodIn_app (goodIn_of _ (by decide +kernel)) ggX7_lock_X7_isPage
theorem dX7_lock_0 : decode cX7_lock 0 = .ok (.aload_n 0, 1) := by decide +kernel
theorem dX7_lock_1 : decode cX7_lock 1 = .ok (.iload_n 1, 1) := by decide +kernel
theorem dX7_lock_2 : decode cX7_lock 2 = .ok (.invokevirtual 186, 3) := by decide +kernel
theorem dX7_lock_5 : decode cX7_lock 5 = .ok (.ifCond .eq 21, 3) := by decide +kernel
theorem dX7_lock_8 : decode cX7_lock 8 = .ok (.iload_n 2, 1) := by decide +kernel
theorem dX7_lock_9 : decode cX7_lock 9 = .ok (.invokestatic 201, 3) := by decide +kernel
theorem dX7_lock_12 : decode cX7_lock 12 = .ok (.ifCond .eq 14, 3) := by decide +kernel
theorem dX7_lock_15 : decode cX7_lock 15 = .ok (.iload_n 3, 1) := by decide +kernel
theorem dX7_lock_16 : decode cX7_lock 16 = .ok (.invokestatic 201, 3) := by decide +kernel
theorem dX7_lock_19 : decode cX7_lock 19 = .ok (.ifCond .eq 7, 3) := by decide +kernel
theorem dX7_lock_22 : decode cX7_lock 22 = .ok (.iconst 1, 1) := by decide +kernel
theorem dX7_lock_23 : decode cX7_lock 23 = .ok (.goto 4, 3) := by decide +kernel
theorem dX7_lock_26 : decode cX7_lock 26 = .ok (.iconst 0, 1) := by decide +kernel
theorem dX7_lock_27 : decode cX7_lock 27 = .ok (.istore 5, 2) := by decide +kernel
theorem dX7_lock_29 : decode cX7_lock 29 = .ok (.iload 5, 2) := by decide +kernel
theorem dX7_lock_31 : decode cX7_lock 31 = .ok (.ifCond .eq 16, 3) := by decide +kernel
theorem dX7_lock_34 : decode cX7_lock 34 = .ok (.aload_n 0, 1) := by decide +kernel
theorem dX7_lock_35 : decode cX7_lock 35 = .ok (.getfield 41, 3) := by decide +kernel
theorem dX7_lock_38 : decode cX7_lock 38 = .ok (.iload_n 1, 1) := by decide +kernel
theorem dX7_lock_39 : decode cX7_lock 39 = .ok (.baload, 1) := by decide +kernel
theorem dX7_lock_40 : decode cX7_lock 40 = .ok (.ifCond .eq 7, 3) := by decide +kernel
theorem dX7_lock_43 : decode cX7_lock 43 = .ok (.iconst 1, 1) := by decide +kernel
theorem dX7_lock_44 : decode cX7_lock 44 = .ok (.goto 4, 3) := by decide +kernel
theorem dX7_lock_47 : decode cX7_lock 47 = .ok (.iconst 0, 1) := by decide +kernel
theorem dX7_lock_48 : decode cX7_lock 48 = .ok (.istore 6, 2) := by decide +kernel
theorem dX7_lock_50 : decode cX7_lock 50 = .ok (.iload 4, 2) := by decide +kernel
theorem dX7_lock_52 : decode cX7_lock 52 = .ok (.ifCond .eq 7, 3) := by decide +kernel
theorem dX7_lock_55 : decode cX7_lock 55 = .ok (.iconst 2, 1) := by decide +kernel
theorem dX7_lock_56 : decode cX7_lock 56 = .ok (.goto 4, 3) := by decide +kernel
theorem dX7_lock_59 : decode cX7_lock 59 = .ok (.iconst 1, 1) := by decide +kernel
theorem dX7_lock_60 : decode cX7_lock 60 = .ok (.istore 7, 2) := by decide +kernel
theorem dX7_lock_62 : decode cX7_lock 62 = .ok (.iconst 0, 1) := by decide +kernel
theorem dX7_lock_63 : decode cX7_lock 63 = .ok (.istore 8, 2) := by decide +kernel
theorem dX7_lock_65 : decode cX7_lock 65 = .ok (.iload_n 2, 1) := by decide +kernel
theorem dX7_lock_66 : decode cX7_lock 66 = .ok (.istore 9, 2) := by decide +kernel
theorem dX7_lock_68 : decode cX7_lock 68 = .ok (.iload 6, 2) := by decide +kernel
theorem dX7_lock_70 : decode cX7_lock 70 = .ok (.ifCond .eq 53, 3) := by decide +kernel
theorem dX7_lock_73 : decode cX7_lock 73 = .ok (.iload 9, 2) := by decide +kernel
theorem dX7_lock_75 : decode cX7_lock 75 = .ok (.iload_n 3, 1) := by decide +kernel
theorem dX7_lock_76 : decode cX7_lock 76 = .ok (.if_icmp .gt 47, 3) := by decide +kernel
theorem dX7_lock_79 : decode cX7_lock 79 = .ok (.aload_n 0, 1) := by decide +kernel
theorem dX7_lock_80 : decode cX7_lock 80 = .ok (.iload_n 1, 1) := by decide +kernel
theorem dX7_lock_81 : decode cX7_lock 81 = .ok (.iload 9, 2) := by decide +kernel
theorem dX7_lock_83 : decode cX7_lock 83 = .ok (.iload 7, 2) := by decide +kernel
theorem dX7_lock_85 : decode cX7_lock 85 = .ok (.invokevirtual 213, 3) := by decide +kernel
theorem dX7_lock_88 : decode cX7_lock 88 = .ok (.istore 6, 2) := by decide +kernel
theorem dX7_lock_90 : decode cX7_lock 90 = .ok (.iload 8, 2) := by decide +kernel
theorem dX7_lock_92 : decode cX7_lock 92 = .ok (.aload_n 0, 1) := by decide +kernel
theorem dX7_lock_93 : decode cX7_lock 93 = .ok (.getfield 44, 3) := by decide +kernel
theorem dX7_lock_96 : decode cX7_lock 96 = .ok (.bipush 16, 2) := by decide +kernel
theorem dX7_lock_98 : decode cX7_lock 98 = .ok (.iload_n 1, 1) := by decide +kernel
theorem dX7_lock_99 : decode cX7_lock 99 = .ok (.imul, 1) := by decide +kernel
theorem dX7_lock_100 : decode cX7_lock 100 = .ok (.iload 9, 2) := by decide +kernel
theorem dX7_lock_102 : decode cX7_lock 102 = .ok (.iadd, 1) := by decide +kernel
theorem dX7_lock_103 : decode cX7_lock 103 = .ok (.iaload, 1) := by decide +kernel
theorem dX7_lock_104 : decode cX7_lock 104 = .ok (.iload 7, 2) := by decide +kernel
theorem dX7_lock_106 : decode cX7_lock 106 = .ok (.if_icmp .ne 7, 3) := by decide +kernel
theorem dX7_lock_109 : decode cX7_lock 109 = .ok (.iconst 0, 1) := by decide +kernel
theorem dX7_lock_110 : decode cX7_lock 110 = .ok (.goto 4, 3) := by decide +kernel
theorem dX7_lock_113 : decode cX7_lock 113 = .ok (.iconst 1, 1) := by decide +kernel
theorem dX7_lock_114 : decode cX7_lock 114 = .ok (.iadd, 1) := by decide +kernel
theorem dX7_lock_115 : decode cX7_lock 115 = .ok (.istore 8, 2) := by decide +kernel
theorem dX7_lock_117 : decode cX7_lock 117 = .ok (.iinc 9 1, 3) := by decide +kernel
theorem dX7_lock_120 : decode cX7_lock 120 = .ok (.goto (-52), 3) := by decide +kernel
theorem dX7_lock_123 : decode cX7_lock 123 = .ok (.aload_n 0, 1) := by decide +kernel
theorem dX7_lock_124 : decode cX7_lock 124 = .ok (.iload 5, 2) := by decide +kernel
theorem dX7_lock_126 : decode cX7_lock 126 = .ok (.ifCond .ne 7, 3) := by decide +kernel
theorem dX7_lock_129 : decode cX7_lock 129 = .ok (.iconst 1, 1) := by decide +kernel
theorem dX7_lock_130 : decode cX7_lock 130 = .ok (.goto 22, 3) := by decide +kernel
theorem dX7_lock_133 : decode cX7_lock 133 = .ok (.iload_n 3, 1) := by decide +kernel
theorem dX7_lock_134 : decode cX7_lock 134 = .ok (.iload_n 2, 1) := by decide +kernel
theorem dX7_lock_135 : decode cX7_lock 135 = .ok (.if_icmp .ge 7, 3) := by decide +kernel
theorem dX7_lock_138 : decode cX7_lock 138 = .ok (.iconst 2, 1) := by decide +kernel
theorem dX7_lock_139 : decode cX7_lock 139 = .ok (.goto 13, 3) := by decide +kernel
theorem dX7_lock_142 : decode cX7_lock 142 = .ok (.iload 6, 2) := by decide +kernel
theorem dX7_lock_144 : decode cX7_lock 144 = .ok (.ifCond .eq 7, 3) := by decide +kernel
theorem dX7_lock_147 : decode cX7_lock 147 = .ok (.iconst 0, 1) := by decide +kernel
theorem dX7_lock_148 : decode cX7_lock 148 = .ok (.goto 4, 3) := by decide +kernel
theorem dX7_lock_151 : decode cX7_lock 151 = .ok (.iconst 3, 1) := by decide +kernel
theorem dX7_lock_152 : decode cX7_lock 152 = .ok (.invokevirtual 140, 3) := by decide +kernel
theorem dX7_lock_155 : decode cX7_lock 155 = .ok (.ifCond .ne 5, 3) := by decide +kernel
theorem dX7_lock_158 : decode cX7_lock 158 = .ok (.iconst 0, 1) := by decide +kernel
theorem dX7_lock_159 : decode cX7_lock 159 = .ok (.ireturn, 1) := by decide +kernel
theorem dX7_lock_160 : decode cX7_lock 160 = .ok (.iload_n 2, 1) := by decide +kernel
theorem dX7_lock_161 : decode cX7_lock 161 = .ok (.istore 9, 2) := by decide +kernel
theorem dX7_lock_163 : decode cX7_lock 163 = .ok (.iload 9, 2) := by decide +kernel
theorem dX7_lock_165 : decode cX7_lock 165 = .ok (.iload_n 3, 1) := by decide +kernel
theorem dX7_lock_166 : decode cX7_lock 166 = .ok (.if_icmp .gt 23, 3) := by decide +kernel
theorem dX7_lock_169 : decode cX7_lock 169 = .ok (.aload_n 0, 1) := by decide +kernel
theorem dX7_lock_170 : decode cX7_lock 170 = .ok (.getfield 44, 3) := by decide +kernel
theorem dX7_lock_173 : decode cX7_lock 173 = .ok (.bipush 16, 2) := by decide +kernel
theorem dX7_lock_175 : decode cX7_lock 175 = .ok (.iload_n 1, 1) := by decide +kernel
theorem dX7_lock_176 : decode cX7_lock 176 = .ok (.imul, 1) := by decide +kernel
theorem dX7_lock_177 : decode cX7_lock 177 = .ok (.iload 9, 2) := by decide +kernel
theorem dX7_lock_179 : decode cX7_lock 179 = .ok (.iadd, 1) := by decide +kernel
theorem dX7_lock_180 : decode cX7_lock 180 = .ok (.iload 7, 2) := by decide +kernel
theorem dX7_lock_182 : decode cX7_lock 182 = .ok (.iastore, 1) := by decide +kernel
theorem dX7_lock_183 : decode cX7_lock 183 = .ok (.iinc 9 1, 3) := by decide +kernel
theorem dX7_lock_186 : decode cX7_lock 186 = .ok (.goto (-23), 3) := by decide +kernel
theorem dX7_lock_189 : decode cX7_lock 189 = .ok (.iload 8, 2) := by decide +kernel
theorem dX7_lock_191 : decode cX7_lock 191 = .ok (.ireturn, 1) := by decide +kernel
def f_X7_lock (u0 : S1) (p1 : Int32) (p2 : Int32) (p3 : Int32) (p4 : Int32) : Option (Int32 × S1) := bn (f_X7_isHandle u0 p1) (fun z_1 => jn (fun (v27_2_0 : Int32) => jn (fun (v48_3_0 : Int32) => jn (fun (v60_4_0 : Int32) => qj3 (fun (r68_5 : Int32 → Int32 → Int32 → Option (Int32 × S1)) (y68_5_6 : Int32) (y68_5_8 : Int32) (y68_5_9 : Int32) => jn (jn (fun (v152_7_0 : Int32) => bn (f_X7_can u0 v152_7_0) (fun z_8 => if z_8.1 = 0 then some (0, z_8.2) else qj2 (fun (r163_10 : Int32 → S1 → Option (Int32 × S1)) (y163_10_9 : Int32) (u163_10_0 : S1) => if p3 < y163_10_9 then some (y68_5_8, u163_10_0) else chk (inb ((16 * p1) + y163_10_9) 480) (bv (st u163_10_0 13 ((16 * p1) + y163_10_9) v60_4_0) (fun u_12 => r163_10 (y163_10_9 + 1) u_12))) (fun k163_10 => k163_10 p2 z_8.2))) (fun k152_7 => if v27_2_0 = 0 then k152_7 1 else if p2 ≤ p3 then if y68_5_6 = 0 then k152_7 3 else k152_7 0 else k152_7 2)) (fun k123_6 => if y68_5_6 = 0 then k123_6 else if p3 < y68_5_9 then k123_6 else bn (f_X7_canLock u0 p1 y68_5_9 v60_4_0) (fun z_18 => chk (inb ((16 * p1) + y68_5_9) 480) (jn (fun (v114_19_0 : Int32) => r68_5 z_18 (y68_5_8 + v114_19_0) (y68_5_9 + 1)) (fun k114_19 => if (u0 13 ((16 * p1) + y68_5_9).toNatClampNeg) = v60_4_0 then k114_19 0 else k114_19 1))))) (fun k68_5 => k68_5 v48_3_0 0 p2)) (fun k60_4 => if p4 = 0 then k60_4 1 else k60_4 2)) (fun k48_3 => jn (k48_3 0) (fun k47_22 => if v27_2_0 = 0 then k47_22 else chk (inb p1 30) (if (u0 12 (p1).toNatClampNeg) = 0 then k47_22 else k48_3 1)))) (fun k27_2 => jn (k27_2 0) (fun k26_25 => if z_1 = 0 then k26_25 else bn (f_X7_isPage p2) (fun z_27 => if z_27 = 0 then k26_25 else bn (f_X7_isPage p3) (fun z_29 => if z_29 = 0 then k26_25 else k27_2 1)))))
def rmX7_lock : Room := { frames := 2, cells := 0, slots := 0, locals := 43 }
set_option maxHeartbeats 4000000 in
set_option maxRecDepth 100000 in
theorem c_X7_lock (l : Launch) (D : va_G) (cI cZ cJ cT : ClassId) (a0 : Nat → Nat) (sz : Nat) (u0 : S1) (p1 : Int32) (p2 : Int32) (p3 : Int32) (p4 : Int32) (o : Int32 × S1) (hf : f_X7_lock u0 p1 p2 p3 p4 = some o) : Met l yX7_lock wsX7_lock rmX7_lock (va_Pc [.ref (a0 0), .int p1, .int p2, .int p3, .int p4] (PW D cls (tys cI cZ cJ cT) ((wX7 cI cZ a0 u0)) sz)) (QWi D cls o.1 ((wX7 cI cZ a0 o.2)) (va_A ((wX7 cI cZ a0 u0)) sz)) 0 0 (va_A ((wX7 cI cZ a0 u0)) sz) := by
  refine Met.ofW (cc := cX7_lock) (maxL := 10) (ret := (some .int)) (by decide) rfl ?_
  intro p e s m args below meth c s₁ B hml hv
  obtain ⟨hav, hsz, hP, hK, hD0⟩ := hv
  have hx := B.exec
  have hb := B.bytes
  have hr := B.returns
  have hlocks := B.notSynchronized
  have hts := atoms_spec (ws := wsX7_lock) B.pre
  have hown : s.vm.findClass RX7 = some m.cls := findClass_of_methodNamed B.named
  have i7 : ∀ w ∈ wsX70, w ∈ wsX7_lock := fun w h => List.mem_cons_of_mem _ (List.mem_append_right _ h)
  have hk41 := hts (.fieldLink RX7 41 "InoderyModel" "isOpen" "[Z") (by decide +kernel)
  have hk44 := hts (.fieldLink RX7 44 "InoderyModel" "lock" "[I") (by decide +kernel)
  subst hsz
  have hD := hD0.self (sz := s.heap.size)
  generalize hAe : va_A ((wX7 cI cZ a0 u0)) s.heap.size = A at hD ⊢
  have hA : ∀ q : Nat, s.heap.size ≤ q → A q := fun q h => by rw [← hAe]; exact Or.inr h
  have hS : va_S A s.heap s.heap [] := va_S.rf
  have hDD : ∀ w0 : S1, va_D A ((wX7 cI cZ a0 w0)) := fun _ => D_same (w := (wX7 cI cZ a0 u0)) rfl hD
  refine Wq (fun Q hQ => ?_)
  refine W_entry hav (Nat.le_of_ble_eq_true rfl) (fun ls hl => ?_)
  have hl : lv_has ls 10 [(0, .ref (a0 0)), (1, .int p1), (2, .int p2), (3, .int p3), (4, .int p4)] := hl
  unfold f_X7_lock at hf
  refine W_heap hP hS (fun H locs hP hS => ?_)
  refine lv_aload_n hx hb dX7_lock_0 rfl (lv_at hl 0 rfl) ?_
  refine lv_iload_n hx hb dX7_lock_1 rfl (lv_at hl 1 rfl) ?_
  obtain ⟨z_1, hz_1, hf⟩ := bn_some hf
  refine cRV (As := [.int p1]) (rest := []) ⟨hx, hb, hml, hown, hts⟩ (c_X7_isHandle l D cI cZ cJ cT a0 u0 p1 z_1 hz_1) (cwV 1 hts gX7_lock_X7_isHandle rfl rfl rfl (by decide +kernel) ⟨Nat.le_of_ble_eq_true rfl, Nat.le_of_ble_eq_true rfl⟩) hP hK (va_recv hK hP (ci := 7) (q0 := 0) rfl rfl) rfl rfl hl.1 (Nat.le_of_ble_eq_true rfl) dX7_lock_2 ⟨Nat.le_of_ble_eq_true rfl, Nat.le_of_ble_eq_true rfl⟩ ?_
  obtain ⟨k27_2, hk27_2, hf⟩ := jn_some hf
  have j27_2 : ∀ (v27_2_0 : Int32) (H : Heap) (locs : List Loc) (ls : Array Slot), k27_2 v27_2_0 = some o → va_P D cls (wX7 cI cZ a0 u0) H → va_S A s.heap H locs → lv_has ls 10 [(0, .ref (a0 0)), (1, .int p1), (2, .int p2), (3, .int p3), (4, .int p4)] → W p l e (headSpec wsX7_lock rmX7_lock).room s m args below meth c H locs 0 0 Q (F0 m 27 ls [.int v27_2_0]) := by
    intro v27_2_0 H locs ls hf hP hS hl
    have hf := qa1 hk27_2 hf
    refine lv_istore (lv' := [(5, .int v27_2_0), (0, .ref (a0 0)), (1, .int p1), (2, .int p2), (3, .int p3), (4, .int p4)]) hx hb dX7_lock_27 hl (by decide) rfl (fun ls hl => ?_)
    refine lv_iload hx hb dX7_lock_29 (lv_at hl 0 rfl) ?_
    obtain ⟨k48_3, hk48_3, hf⟩ := jn_some hf
    have j48_3 : ∀ (v48_3_0 : Int32) (H : Heap) (locs : List Loc) (ls : Array Slot), k48_3 v48_3_0 = some o → va_P D cls (wX7 cI cZ a0 u0) H → va_S A s.heap H locs → lv_has ls 10 [(0, .ref (a0 0)), (1, .int p1), (2, .int p2), (3, .int p3), (4, .int p4), (5, .int v27_2_0)] → W p l e (headSpec wsX7_lock rmX7_lock).room s m args below meth c H locs 0 0 Q (F0 m 48 ls [.int v48_3_0]) := by
      intro v48_3_0 H locs ls hf hP hS hl
      have hf := qa1 hk48_3 hf
      refine lv_istore (lv' := [(6, .int v48_3_0), (0, .ref (a0 0)), (1, .int p1), (2, .int p2), (3, .int p3), (4, .int p4), (5, .int v27_2_0)]) hx hb dX7_lock_48 hl (by decide) rfl (fun ls hl => ?_)
      refine lv_iload hx hb dX7_lock_50 (lv_at hl 5 rfl) ?_
      obtain ⟨k60_4, hk60_4, hf⟩ := jn_some hf
      have j60_4 : ∀ (v60_4_0 : Int32) (H : Heap) (locs : List Loc) (ls : Array Slot), k60_4 v60_4_0 = some o → va_P D cls (wX7 cI cZ a0 u0) H → va_S A s.heap H locs → lv_has ls 10 [(0, .ref (a0 0)), (1, .int p1), (2, .int p2), (3, .int p3), (5, .int v27_2_0), (6, .int v48_3_0)] → W p l e (headSpec wsX7_lock rmX7_lock).room s m args below meth c H locs 0 0 Q (F0 m 60 ls [.int v60_4_0]) := by
        intro v60_4_0 H locs ls hf hP hS hl
        have hf := qa1 hk60_4 hf
        refine lv_istore (lv' := [(7, .int v60_4_0), (0, .ref (a0 0)), (1, .int p1), (2, .int p2), (3, .int p3), (5, .int v27_2_0), (6, .int v48_3_0)]) hx hb dX7_lock_60 hl (by decide) rfl (fun ls hl => ?_)
        refine lv_iconst (v := 0) hx hb dX7_lock_62 (by decide) ?_
        refine lv_istore (lv' := [(8, .int 0), (7, .int v60_4_0), (0, .ref (a0 0)), (1, .int p1), (2, .int p2), (3, .int p3), (5, .int v27_2_0), (6, .int v48_3_0)]) hx hb dX7_lock_63 hl (by decide) rfl (fun ls hl => ?_)
        refine lv_iload_n hx hb dX7_lock_65 rfl (lv_at hl 4 rfl) ?_
        refine lv_istore (lv' := [(9, .int p2), (8, .int 0), (7, .int v60_4_0), (0, .ref (a0 0)), (1, .int p1), (2, .int p2), (3, .int p3), (5, .int v27_2_0), (6, .int v48_3_0)]) hx hb dX7_lock_66 hl (by decide) rfl (fun ls hl => ?_)
        obtain ⟨G68_5, hG68_5, hf⟩ := qj3_some hf
        have j68_5 : ∀ (n : Nat) (y68_5_6 : Int32) (y68_5_8 : Int32) (y68_5_9 : Int32) (H : Heap) (locs : List Loc) (ls : Array Slot), ql3 G68_5 n y68_5_6 y68_5_8 y68_5_9 = some o → va_P D cls (wX7 cI cZ a0 u0) H → va_S A s.heap H locs → lv_has ls 10 [(0, .ref (a0 0)), (1, .int p1), (2, .int p2), (3, .int p3), (5, .int v27_2_0), (6, .int y68_5_6), (7, .int v60_4_0), (8, .int y68_5_8), (9, .int y68_5_9)] → W p l e (headSpec wsX7_lock rmX7_lock).room s m args below meth c H locs 0 0 Q (F0 m 68 ls []) := by
          intro n
          induction n with
          | zero => intro y68_5_6 y68_5_8 y68_5_9 H locs ls hf hP hS hl; exact (ql3_z hf).elim
          | succ n ih68_5 =>
            intro y68_5_6 y68_5_8 y68_5_9 H locs ls hf hP hS hl
            have hf := ql3_s hG68_5 hf
            obtain ⟨r68_5, hr68_5⟩ : ∃ z, z = ql3 G68_5 n := ⟨_, rfl⟩
            rw [← hr68_5] at hf ih68_5
            refine lv_iload hx hb dX7_lock_68 (lv_at hl 5 rfl) ?_
            obtain ⟨k123_6, hk123_6, hf⟩ := jn_some hf
            have j123_6 : ∀ (H : Heap) (locs : List Loc) (ls : Array Slot), k123_6 = some o → va_P D cls (wX7 cI cZ a0 u0) H → va_S A s.heap H locs → lv_has ls 10 [(0, .ref (a0 0)), (1, .int p1), (2, .int p2), (3, .int p3), (5, .int v27_2_0), (6, .int y68_5_6), (7, .int v60_4_0), (8, .int y68_5_8)] → W p l e (headSpec wsX7_lock rmX7_lock).room s m args below meth c H locs 0 0 Q (F0 m 123 ls []) := by
              intro H locs ls hf hP hS hl
              have hf := qa0 hk123_6 hf
              refine lv_aload_n hx hb dX7_lock_123 rfl (lv_at hl 0 rfl) ?_
              refine lv_iload hx hb dX7_lock_124 (lv_at hl 4 rfl) ?_
              obtain ⟨k152_7, hk152_7, hf⟩ := jn_some hf
              have j152_7 : ∀ (v152_7_0 : Int32) (H : Heap) (locs : List Loc) (ls : Array Slot), k152_7 v152_7_0 = some o → va_P D cls (wX7 cI cZ a0 u0) H → va_S A s.heap H locs → lv_has ls 10 [(0, .ref (a0 0)), (1, .int p1), (2, .int p2), (3, .int p3), (7, .int v60_4_0), (8, .int y68_5_8)] → W p l e (headSpec wsX7_lock rmX7_lock).room s m args below meth c H locs 0 0 Q (F0 m 152 ls [.int v152_7_0, .ref (a0 0)]) := by
                intro v152_7_0 H locs ls hf hP hS hl
                have hf := qa1 hk152_7 hf
                obtain ⟨z_8, hz_8, hf⟩ := bn_some hf
                refine cWVi (As := [.int v152_7_0]) (rest := []) ⟨hx, hb, hml, hown, hts⟩ (c_X7_can l D cI cZ cJ cT a0 H.size u0 v152_7_0 z_8 hz_8) (cwV 1 hts gX7_lock_X7_can rfl rfl rfl (by decide +kernel) ⟨Nat.le_of_ble_eq_true rfl, Nat.le_of_ble_eq_true rfl⟩) hP hK (hDD u0) hS (own_free (hDD u0) hS hA) (va_recv hK hP (ci := 7) (q0 := 0) rfl rfl) rfl rfl hl.1 (Nat.le_of_ble_eq_true rfl) dX7_lock_152 ⟨Nat.le_of_ble_eq_true rfl, Nat.le_of_ble_eq_true rfl⟩ (fun H1 locs hP1 hk1 hS => ?_)
                have hP : va_P D cls (wX7 cI cZ a0 z_8.2) H1 := hP1
                clear hP1 hk1
                generalize H1 = H at hP hS ⊢
                refine lv_if_ne (tgt := 160) hx hb dX7_lock_155 (by decide) (fun c_9 => ?_) (fun c_9 => ?_)
                · have hf := ite_f hf c_9
                  refine lv_iload_n hx hb dX7_lock_160 rfl (lv_at hl 2 rfl) ?_
                  refine lv_istore (lv' := [(9, .int p2), (0, .ref (a0 0)), (1, .int p1), (2, .int p2), (3, .int p3), (7, .int v60_4_0), (8, .int y68_5_8)]) hx hb dX7_lock_161 hl (by decide) rfl (fun ls hl => ?_)
                  obtain ⟨G163_10, hG163_10, hf⟩ := qj2_some hf
                  have j163_10 : ∀ (n : Nat) (y163_10_9 : Int32) (u163_10_0 : S1) (H : Heap) (locs : List Loc) (ls : Array Slot), ql2 G163_10 n y163_10_9 u163_10_0 = some o → va_P D cls (wX7 cI cZ a0 u163_10_0) H → va_S A s.heap H locs → lv_has ls 10 [(0, .ref (a0 0)), (1, .int p1), (3, .int p3), (7, .int v60_4_0), (8, .int y68_5_8), (9, .int y163_10_9)] → W p l e (headSpec wsX7_lock rmX7_lock).room s m args below meth c H locs 0 0 Q (F0 m 163 ls []) := by
                    intro n
                    induction n with
                    | zero => intro y163_10_9 u163_10_0 H locs ls hf hP hS hl; exact (ql2_z hf).elim
                    | succ n ih163_10 =>
                      intro y163_10_9 u163_10_0 H locs ls hf hP hS hl
                      have hf := ql2_s hG163_10 hf
                      obtain ⟨r163_10, hr163_10⟩ : ∃ z, z = ql2 G163_10 n := ⟨_, rfl⟩
                      rw [← hr163_10] at hf ih163_10
                      refine lv_iload hx hb dX7_lock_163 (lv_at hl 5 rfl) ?_
                      refine lv_iload_n hx hb dX7_lock_165 rfl (lv_at hl 2 rfl) ?_
                      refine lv_icmp_gt (tgt := 189) hx hb dX7_lock_166 (by decide) (fun c_11 => ?_) (fun c_11 => ?_)
                      · have hf := ite_t hf c_11
                        refine lv_iload hx hb dX7_lock_189 (lv_at hl 4 rfl) ?_
                        have eo := Option.some.inj hf
                        have hP : va_P D cls (wX7 cI cZ a0 o.2) H := by rw [← eo]; exact hP
                        rw [hQ]
                        exact W.iret hx hb hr (fun t ht hW => ⟨⟨_, (), rfl, congrArg Prod.fst eo, P_at ht hP⟩, hS.F ht⟩) hS.2.2 dX7_lock_191 hlocks
                      · have hf := ite_f hf c_11
                        refine lv_aload_n hx hb dX7_lock_169 rfl (lv_at hl 0 rfl) ?_
                        refine va_get (D := D) (ci := 7) (v := .ref (a0 14)) (C := RX7) (T := TX7) (N := 19) hx hb hts i7 hown hK hP 0 rfl rfl 13 (by decide) hk44 (fun _ h9 => h9) rfl dX7_lock_170 ?_
                        refine lv_bipush (v := 16) hx hb dX7_lock_173 (by decide) ?_
                        refine lv_iload_n hx hb dX7_lock_175 rfl (lv_at hl 1 rfl) ?_
                        refine lv_imul hx hb dX7_lock_176 ?_
                        refine lv_iload hx hb dX7_lock_177 (lv_at hl 5 rfl) ?_
                        refine lv_iadd hx hb dX7_lock_179 ?_
                        refine lv_iload hx hb dX7_lock_180 (lv_at hl 3 rfl) ?_
                        obtain ⟨hi, hf⟩ := chk_some hf
                        obtain ⟨u_12, hu_12, hf⟩ := bv_some hf
                        refine va_iast hx hb hK hP (hDD u163_10_0) hS 12 0 rfl rfl (inb_in hi) dX7_lock_182 (fun H locs hP _ hS => ?_)
                        have hP : va_P D cls (wX7 cI cZ a0 u_12) H := by rw [hu_12]; exact hP
                        refine lv_iinc (v := y163_10_9 + 1) (lv' := [(9, .int (y163_10_9 + 1)), (0, .ref (a0 0)), (1, .int p1), (3, .int p3), (7, .int v60_4_0), (8, .int y68_5_8)]) hx hb dX7_lock_183 hl (k := 5) rfl rfl (by decide) rfl (fun ls hl => ?_)
                        refine lv_goto (tgt := 163) hx hb dX7_lock_186 (by decide) ?_
                        exact ih163_10 _ _ _ _ _ hf hP hS (lv_sub hl [1, 2, 3, 4, 5, 0] rfl)
                  exact j163_10 4096 _ _ _ _ _ hf hP hS (lv_sub hl [1, 2, 4, 5, 6, 0] rfl)
                · have hf := ite_t hf c_9
                  refine lv_iconst (v := 0) hx hb dX7_lock_158 (by decide) ?_
                  have eo := Option.some.inj hf
                  have hP : va_P D cls (wX7 cI cZ a0 o.2) H := by rw [← eo]; exact hP
                  rw [hQ]
                  exact W.iret hx hb hr (fun t ht hW => ⟨⟨_, (), rfl, congrArg Prod.fst eo, P_at ht hP⟩, hS.F ht⟩) hS.2.2 dX7_lock_159 hlocks
              refine lv_if_ne (tgt := 133) hx hb dX7_lock_126 (by decide) (fun c_13 => ?_) (fun c_13 => ?_)
              · have hf := ite_f hf c_13
                refine lv_iload_n hx hb dX7_lock_133 rfl (lv_at hl 3 rfl) ?_
                refine lv_iload_n hx hb dX7_lock_134 rfl (lv_at hl 2 rfl) ?_
                refine lv_icmp_ge (tgt := 142) hx hb dX7_lock_135 (by decide) (fun c_14 => ?_) (fun c_14 => ?_)
                · have hf := ite_t hf c_14
                  refine lv_iload hx hb dX7_lock_142 (lv_at hl 5 rfl) ?_
                  refine lv_if_eq (tgt := 151) hx hb dX7_lock_144 (by decide) (fun c_15 => ?_) (fun c_15 => ?_)
                  · have hf := ite_t hf c_15
                    refine lv_iconst (v := 3) hx hb dX7_lock_151 (by decide) ?_
                    exact j152_7 _ _ _ _ hf hP hS (lv_sub hl [0, 1, 2, 3, 6, 7] rfl)
                  · have hf := ite_f hf c_15
                    refine lv_iconst (v := 0) hx hb dX7_lock_147 (by decide) ?_
                    refine lv_goto (tgt := 152) hx hb dX7_lock_148 (by decide) ?_
                    exact j152_7 _ _ _ _ hf hP hS (lv_sub hl [0, 1, 2, 3, 6, 7] rfl)
                · have hf := ite_f hf c_14
                  refine lv_iconst (v := 2) hx hb dX7_lock_138 (by decide) ?_
                  refine lv_goto (tgt := 152) hx hb dX7_lock_139 (by decide) ?_
                  exact j152_7 _ _ _ _ hf hP hS (lv_sub hl [0, 1, 2, 3, 6, 7] rfl)
              · have hf := ite_t hf c_13
                refine lv_iconst (v := 1) hx hb dX7_lock_129 (by decide) ?_
                refine lv_goto (tgt := 152) hx hb dX7_lock_130 (by decide) ?_
                exact j152_7 _ _ _ _ hf hP hS (lv_sub hl [0, 1, 2, 3, 6, 7] rfl)
            refine lv_if_eq (tgt := 123) hx hb dX7_lock_70 (by decide) (fun c_16 => ?_) (fun c_16 => ?_)
            · have hf := ite_t hf c_16
              exact j123_6 _ _ _ hf hP hS (lv_sub hl [0, 1, 2, 3, 4, 5, 6, 7] rfl)
            · have hf := ite_f hf c_16
              refine lv_iload hx hb dX7_lock_73 (lv_at hl 8 rfl) ?_
              refine lv_iload_n hx hb dX7_lock_75 rfl (lv_at hl 3 rfl) ?_
              refine lv_icmp_gt (tgt := 123) hx hb dX7_lock_76 (by decide) (fun c_17 => ?_) (fun c_17 => ?_)
              · have hf := ite_t hf c_17
                exact j123_6 _ _ _ hf hP hS (lv_sub hl [0, 1, 2, 3, 4, 5, 6, 7] rfl)
              · have hf := ite_f hf c_17
                refine lv_aload_n hx hb dX7_lock_79 rfl (lv_at hl 0 rfl) ?_
                refine lv_iload_n hx hb dX7_lock_80 rfl (lv_at hl 1 rfl) ?_
                refine lv_iload hx hb dX7_lock_81 (lv_at hl 8 rfl) ?_
                refine lv_iload hx hb dX7_lock_83 (lv_at hl 6 rfl) ?_
                obtain ⟨z_18, hz_18, hf⟩ := bn_some hf
                refine cRV (As := [.int p1, .int y68_5_9, .int v60_4_0]) (rest := []) ⟨hx, hb, hml, hown, hts⟩ (c_X7_canLock l D cI cZ cJ cT a0 u0 p1 y68_5_9 v60_4_0 z_18 hz_18) (cwV 3 hts gX7_lock_X7_canLock rfl rfl rfl (by decide +kernel) ⟨Nat.le_of_ble_eq_true rfl, Nat.le_of_ble_eq_true rfl⟩) hP hK (va_recv hK hP (ci := 7) (q0 := 0) rfl rfl) rfl rfl hl.1 (Nat.le_of_ble_eq_true rfl) dX7_lock_85 ⟨Nat.le_of_ble_eq_true rfl, Nat.le_of_ble_eq_true rfl⟩ ?_
                refine lv_istore (lv' := [(6, .int z_18), (0, .ref (a0 0)), (1, .int p1), (2, .int p2), (3, .int p3), (5, .int v27_2_0), (7, .int v60_4_0), (8, .int y68_5_8), (9, .int y68_5_9)]) hx hb dX7_lock_88 hl (by decide) rfl (fun ls hl => ?_)
                refine lv_iload hx hb dX7_lock_90 (lv_at hl 7 rfl) ?_
                refine lv_aload_n hx hb dX7_lock_92 rfl (lv_at hl 1 rfl) ?_
                refine va_get (D := D) (ci := 7) (v := .ref (a0 14)) (C := RX7) (T := TX7) (N := 19) hx hb hts i7 hown hK hP 0 rfl rfl 13 (by decide) hk44 (fun _ h9 => h9) rfl dX7_lock_93 ?_
                refine lv_bipush (v := 16) hx hb dX7_lock_96 (by decide) ?_
                refine lv_iload_n hx hb dX7_lock_98 rfl (lv_at hl 2 rfl) ?_
                refine lv_imul hx hb dX7_lock_99 ?_
                refine lv_iload hx hb dX7_lock_100 (lv_at hl 8 rfl) ?_
                refine lv_iadd hx hb dX7_lock_102 ?_
                obtain ⟨hi, hf⟩ := chk_some hf
                refine va_iald hx hb hK hP 12 0 rfl rfl (inb_in hi) dX7_lock_103 ?_
                refine lv_iload hx hb dX7_lock_104 (lv_at hl 6 rfl) ?_
                obtain ⟨k114_19, hk114_19, hf⟩ := jn_some hf
                have j114_19 : ∀ (v114_19_0 : Int32) (H : Heap) (locs : List Loc) (ls : Array Slot), k114_19 v114_19_0 = some o → va_P D cls (wX7 cI cZ a0 u0) H → va_S A s.heap H locs → lv_has ls 10 [(0, .ref (a0 0)), (1, .int p1), (2, .int p2), (3, .int p3), (5, .int v27_2_0), (6, .int z_18), (7, .int v60_4_0), (9, .int y68_5_9)] → W p l e (headSpec wsX7_lock rmX7_lock).room s m args below meth c H locs 0 0 Q (F0 m 114 ls [.int v114_19_0, .int y68_5_8]) := by
                  intro v114_19_0 H locs ls hf hP hS hl
                  have hf := qa1 hk114_19 hf
                  refine lv_iadd hx hb dX7_lock_114 ?_
                  refine lv_istore (lv' := [(8, .int (y68_5_8 + v114_19_0)), (0, .ref (a0 0)), (1, .int p1), (2, .int p2), (3, .int p3), (5, .int v27_2_0), (6, .int z_18), (7, .int v60_4_0), (9, .int y68_5_9)]) hx hb dX7_lock_115 hl (by decide) rfl (fun ls hl => ?_)
                  refine lv_iinc (v := y68_5_9 + 1) (lv' := [(9, .int (y68_5_9 + 1)), (8, .int (y68_5_8 + v114_19_0)), (0, .ref (a0 0)), (1, .int p1), (2, .int p2), (3, .int p3), (5, .int v27_2_0), (6, .int z_18), (7, .int v60_4_0)]) hx hb dX7_lock_117 hl (k := 8) rfl rfl (by decide) rfl (fun ls hl => ?_)
                  refine lv_goto (tgt := 68) hx hb dX7_lock_120 (by decide) ?_
                  exact ih68_5 _ _ _ _ _ _ hf hP hS (lv_sub hl [2, 3, 4, 5, 6, 7, 8, 1, 0] rfl)
                refine lv_icmp_ne (tgt := 113) hx hb dX7_lock_106 (by decide) (fun c_20 => ?_) (fun c_20 => ?_)
                · have hf := ite_f hf c_20
                  refine lv_iconst (v := 1) hx hb dX7_lock_113 (by decide) ?_
                  exact j114_19 _ _ _ _ hf hP hS (lv_sub hl [1, 2, 3, 4, 5, 0, 6, 8] rfl)
                · have hf := ite_t hf c_20
                  refine lv_iconst (v := 0) hx hb dX7_lock_109 (by decide) ?_
                  refine lv_goto (tgt := 114) hx hb dX7_lock_110 (by decide) ?_
                  exact j114_19 _ _ _ _ hf hP hS (lv_sub hl [1, 2, 3, 4, 5, 0, 6, 8] rfl)
        exact j68_5 4096 _ _ _ _ _ _ hf hP hS (lv_sub hl [3, 4, 5, 6, 7, 8, 2, 1, 0] rfl)
      refine lv_if_eq (tgt := 59) hx hb dX7_lock_52 (by decide) (fun c_21 => ?_) (fun c_21 => ?_)
      · have hf := ite_t hf c_21
        refine lv_iconst (v := 1) hx hb dX7_lock_59 (by decide) ?_
        exact j60_4 _ _ _ _ hf hP hS (lv_sub hl [1, 2, 3, 4, 6, 0] rfl)
      · have hf := ite_f hf c_21
        refine lv_iconst (v := 2) hx hb dX7_lock_55 (by decide) ?_
        refine lv_goto (tgt := 60) hx hb dX7_lock_56 (by decide) ?_
        exact j60_4 _ _ _ _ hf hP hS (lv_sub hl [1, 2, 3, 4, 6, 0] rfl)
    obtain ⟨k47_22, hk47_22, hf⟩ := jn_some hf
    have j47_22 : ∀ (H : Heap) (locs : List Loc) (ls : Array Slot), k47_22 = some o → va_P D cls (wX7 cI cZ a0 u0) H → va_S A s.heap H locs → lv_has ls 10 [(0, .ref (a0 0)), (1, .int p1), (2, .int p2), (3, .int p3), (4, .int p4), (5, .int v27_2_0)] → W p l e (headSpec wsX7_lock rmX7_lock).room s m args below meth c H locs 0 0 Q (F0 m 47 ls []) := by
      intro H locs ls hf hP hS hl
      have hf := qa0 hk47_22 hf
      refine lv_iconst (v := 0) hx hb dX7_lock_47 (by decide) ?_
      exact j48_3 _ _ _ _ hf hP hS (lv_sub hl [0, 1, 2, 3, 4, 5] rfl)
    refine lv_if_eq (tgt := 47) hx hb dX7_lock_31 (by decide) (fun c_23 => ?_) (fun c_23 => ?_)
    · have hf := ite_t hf c_23
      exact j47_22 _ _ _ hf hP hS (lv_sub hl [1, 2, 3, 4, 5, 0] rfl)
    · have hf := ite_f hf c_23
      refine lv_aload_n hx hb dX7_lock_34 rfl (lv_at hl 1 rfl) ?_
      refine va_get (D := D) (ci := 7) (v := .ref (a0 13)) (C := RX7) (T := TX7) (N := 19) hx hb hts i7 hown hK hP 0 rfl rfl 12 (by decide) hk41 (fun _ h9 => h9) rfl dX7_lock_35 ?_
      refine lv_iload_n hx hb dX7_lock_38 rfl (lv_at hl 2 rfl) ?_
      obtain ⟨hi, hf⟩ := chk_some hf
      refine va_zald hx hb hK hP 11 1 rfl rfl (inb_in hi) dX7_lock_39 ?_
      refine lv_if_eq (tgt := 47) hx hb dX7_lock_40 (by decide) (fun c_24 => ?_) (fun c_24 => ?_)
      · have hf := ite_t hf c_24
        exact j47_22 _ _ _ hf hP hS (lv_sub hl [1, 2, 3, 4, 5, 0] rfl)
      · have hf := ite_f hf c_24
        refine lv_iconst (v := 1) hx hb dX7_lock_43 (by decide) ?_
        refine lv_goto (tgt := 48) hx hb dX7_lock_44 (by decide) ?_
        exact j48_3 _ _ _ _ hf hP hS (lv_sub hl [1, 2, 3, 4, 5, 0] rfl)
  obtain ⟨k26_25, hk26_25, hf⟩ := jn_some hf
  have j26_25 : ∀ (H : Heap) (locs : List Loc) (ls : Array Slot), k26_25 = some o → va_P D cls (wX7 cI cZ a0 u0) H → va_S A s.heap H locs → lv_has ls 10 [(0, .ref (a0 0)), (1, .int p1), (2, .int p2), (3, .int p3), (4, .int p4)] → W p l e (headSpec wsX7_lock rmX7_lock).room s m args below meth c H locs 0 0 Q (F0 m 26 ls []) := by
    intro H locs ls hf hP hS hl
    have hf := qa0 hk26_25 hf
    refine lv_iconst (v := 0) hx hb dX7_lock_26 (by decide) ?_
    exact j27_2 _ _ _ _ hf hP hS (lv_sub hl [0, 1, 2, 3, 4] rfl)
  refine lv_if_eq (tgt := 26) hx hb dX7_lock_5 (by decide) (fun c_26 => ?_) (fun c_26 => ?_)
  · have hf := ite_t hf c_26
    exact j26_25 _ _ _ hf hP hS (lv_sub hl [0, 1, 2, 3, 4] rfl)
  · have hf := ite_f hf c_26
    refine lv_iload_n hx hb dX7_lock_8 rfl (lv_at hl 2 rfl) ?_
    obtain ⟨z_27, hz_27, hf⟩ := bn_some hf
    refine c0S (As := [.int p2]) (rest := []) ⟨hx, hb, hml, hown, hts⟩ (c_X7_isPage l D cI cZ cJ cT p2 z_27 hz_27) (va_cwS 1 hts gX7_lock_X7_isPage rfl rfl rfl (by decide +kernel) ⟨Nat.le_of_ble_eq_true rfl, Nat.le_of_ble_eq_true rfl⟩) rfl rfl hl.1 (Nat.le_of_ble_eq_true rfl) dX7_lock_9 ⟨Nat.le_of_ble_eq_true rfl, Nat.le_of_ble_eq_true rfl⟩ ?_
    refine lv_if_eq (tgt := 26) hx hb dX7_lock_12 (by decide) (fun c_28 => ?_) (fun c_28 => ?_)
    · have hf := ite_t hf c_28
      exact j26_25 _ _ _ hf hP hS (lv_sub hl [0, 1, 2, 3, 4] rfl)
    · have hf := ite_f hf c_28
      refine lv_iload_n hx hb dX7_lock_15 rfl (lv_at hl 3 rfl) ?_
      obtain ⟨z_29, hz_29, hf⟩ := bn_some hf
      refine c0S (As := [.int p3]) (rest := []) ⟨hx, hb, hml, hown, hts⟩ (c_X7_isPage l D cI cZ cJ cT p3 z_29 hz_29) (va_cwS 1 hts gX7_lock_X7_isPage rfl rfl rfl (by decide +kernel) ⟨Nat.le_of_ble_eq_true rfl, Nat.le_of_ble_eq_true rfl⟩) rfl rfl hl.1 (Nat.le_of_ble_eq_true rfl) dX7_lock_16 ⟨Nat.le_of_ble_eq_true rfl, Nat.le_of_ble_eq_true rfl⟩ ?_
      refine lv_if_eq (tgt := 26) hx hb dX7_lock_19 (by decide) (fun c_30 => ?_) (fun c_30 => ?_)
      · have hf := ite_t hf c_30
        exact j26_25 _ _ _ hf hP hS (lv_sub hl [0, 1, 2, 3, 4] rfl)
      · have hf := ite_f hf c_30
        refine lv_iconst (v := 1) hx hb dX7_lock_22 (by decide) ?_
        refine lv_goto (tgt := 27) hx hb dX7_lock_23 (by decide) ?_
        exact j27_2 _ _ _ _ hf hP hS (lv_sub hl [0, 1, 2, 3, 4] rfl)
set_option maxRecDepth 20000 in
theorem ggX7_unlock_X7_can : GoodIn wsX7_unlock wsX7_can := goodIn_r _ [18, 19, 20, 21, 22, 23, 24, 25, 26, 27, 28, 29, 30, 31, 32, 33, 34, 35, 36, 37, 38] (by decide +kernel) (by decide +kernel)
set_option maxRecDepth 20000 in
theorem gX7_unlock_X7_can : GoodIn wsX7_unlock (wsV RX7 140 RX7 yX7_can wsX7_can) := goodIn_app (goodIn_of _ (by decide +kernel)) ggX7_unlock_X7_can
set_option maxRecDepth 20000 in
theorem ggX7_unlock_X7_isHandle : GoodIn wsX7_unlock wsX7_isHandle := goodIn_r _ [7, 8, 9, 10, 6, 11, 20, 21, 22, 23, 24, 25, 26, 27, 28, 29, 30, 31, 32, 33, 34, 35, 36, 37, 38] (by decide +kernel) (by decide +kernel)
set_option maxRecDepth 20000 in
theorem gX7_unlock_X7_isHandle : GoodIn wsX7_unlock (wsV RX7 186 RX7 yX7_isHandle wsX7_isHandle) := goodIn_app (goodIn_of _ (by decide +kernel)) ggX7_unlock_X7_isHandle
set_option maxRecDepth 20000 in
theorem ggX7_unlock_X7_isPage : GoodIn wsX7_unlock wsX7_isPage := goodIn_r _ [14, 9, 10, 6, 11] (by decide +kernel) (by decide +kernel)
set_option maxRecDepth 20000 in
theorem gX7_unlock_X7_isPage : GoodIn wsX7_unlock (va_wsS RX7 201 yX7_isPage wsX7_isPage) := goodIn_app (goodIn_of _ (by decide +kernel)) ggX7_unlock_X7_isPage
theorem dX7_unlock_0 : decode cX7_unlock 0 = .ok (.aload_n 0, 1) := by decide +kernel
theorem dX7_unlock_1 : decode cX7_unlock 1 = .ok (.iload_n 1, 1) := by decide +kernel
theorem dX7_unlock_2 : decode cX7_unlock 2 = .ok (.invokevirtual 186, 3) := by decide +kernel
theorem dX7_unlock_5 : decode cX7_unlock 5 = .ok (.ifCond .eq 21, 3) := by decide +kernel
theorem dX7_unlock_8 : decode cX7_unlock 8 = .ok (.iload_n 2, 1) := by decide +kernel
theorem dX7_unlock_9 : decode cX7_unlock 9 = .ok (.invokestatic 201, 3) := by decide +kernel
theorem dX7_unlock_12 : decode cX7_unlock 12 = .ok (.ifCond .eq 14, 3) := by decide +kernel
theorem dX7_unlock_15 : decode cX7_unlock 15 = .ok (.iload_n 3, 1) := by decide +kernel
theorem dX7_unlock_16 : decode cX7_unlock 16 = .ok (.invokestatic 201, 3) := by decide +kernel
theorem dX7_unlock_19 : decode cX7_unlock 19 = .ok (.ifCond .eq 7, 3) := by decide +kernel
theorem dX7_unlock_22 : decode cX7_unlock 22 = .ok (.iconst 1, 1) := by decide +kernel
theorem dX7_unlock_23 : decode cX7_unlock 23 = .ok (.goto 4, 3) := by decide +kernel
theorem dX7_unlock_26 : decode cX7_unlock 26 = .ok (.iconst 0, 1) := by decide +kernel
theorem dX7_unlock_27 : decode cX7_unlock 27 = .ok (.istore 4, 2) := by decide +kernel
theorem dX7_unlock_29 : decode cX7_unlock 29 = .ok (.aload_n 0, 1) := by decide +kernel
theorem dX7_unlock_30 : decode cX7_unlock 30 = .ok (.iload 4, 2) := by decide +kernel
theorem dX7_unlock_32 : decode cX7_unlock 32 = .ok (.ifCond .ne 7, 3) := by decide +kernel
theorem dX7_unlock_35 : decode cX7_unlock 35 = .ok (.iconst 1, 1) := by decide +kernel
theorem dX7_unlock_36 : decode cX7_unlock 36 = .ok (.goto 26, 3) := by decide +kernel
theorem dX7_unlock_39 : decode cX7_unlock 39 = .ok (.iload_n 3, 1) := by decide +kernel
theorem dX7_unlock_40 : decode cX7_unlock 40 = .ok (.iload_n 2, 1) := by decide +kernel
theorem dX7_unlock_41 : decode cX7_unlock 41 = .ok (.if_icmp .ge 7, 3) := by decide +kernel
theorem dX7_unlock_44 : decode cX7_unlock 44 = .ok (.iconst 2, 1) := by decide +kernel
theorem dX7_unlock_45 : decode cX7_unlock 45 = .ok (.goto 17, 3) := by decide +kernel
theorem dX7_unlock_48 : decode cX7_unlock 48 = .ok (.aload_n 0, 1) := by decide +kernel
theorem dX7_unlock_49 : decode cX7_unlock 49 = .ok (.getfield 41, 3) := by decide +kernel
theorem dX7_unlock_52 : decode cX7_unlock 52 = .ok (.iload_n 1, 1) := by decide +kernel
theorem dX7_unlock_53 : decode cX7_unlock 53 = .ok (.baload, 1) := by decide +kernel
theorem dX7_unlock_54 : decode cX7_unlock 54 = .ok (.ifCond .eq 7, 3) := by decide +kernel
theorem dX7_unlock_57 : decode cX7_unlock 57 = .ok (.iconst 0, 1) := by decide +kernel
theorem dX7_unlock_58 : decode cX7_unlock 58 = .ok (.goto 4, 3) := by decide +kernel
theorem dX7_unlock_61 : decode cX7_unlock 61 = .ok (.iconst 3, 1) := by decide +kernel
theorem dX7_unlock_62 : decode cX7_unlock 62 = .ok (.invokevirtual 140, 3) := by decide +kernel
theorem dX7_unlock_65 : decode cX7_unlock 65 = .ok (.ifCond .ne 5, 3) := by decide +kernel
theorem dX7_unlock_68 : decode cX7_unlock 68 = .ok (.iconst 0, 1) := by decide +kernel
theorem dX7_unlock_69 : decode cX7_unlock 69 = .ok (.ireturn, 1) := by decide +kernel
theorem dX7_unlock_70 : decode cX7_unlock 70 = .ok (.iconst 0, 1) := by decide +kernel
theorem dX7_unlock_71 : decode cX7_unlock 71 = .ok (.istore 5, 2) := by decide +kernel
theorem dX7_unlock_73 : decode cX7_unlock 73 = .ok (.iload_n 2, 1) := by decide +kernel
theorem dX7_unlock_74 : decode cX7_unlock 74 = .ok (.istore 6, 2) := by decide +kernel
theorem dX7_unlock_76 : decode cX7_unlock 76 = .ok (.iload 6, 2) := by decide +kernel
theorem dX7_unlock_78 : decode cX7_unlock 78 = .ok (.iload_n 3, 1) := by decide +kernel
theorem dX7_unlock_79 : decode cX7_unlock 79 = .ok (.if_icmp .gt 47, 3) := by decide +kernel
theorem dX7_unlock_82 : decode cX7_unlock 82 = .ok (.iload 5, 2) := by decide +kernel
theorem dX7_unlock_84 : decode cX7_unlock 84 = .ok (.aload_n 0, 1) := by decide +kernel
theorem dX7_unlock_85 : decode cX7_unlock 85 = .ok (.getfield 44, 3) := by decide +kernel
theorem dX7_unlock_88 : decode cX7_unlock 88 = .ok (.bipush 16, 2) := by decide +kernel
theorem dX7_unlock_90 : decode cX7_unlock 90 = .ok (.iload_n 1, 1) := by decide +kernel
theorem dX7_unlock_91 : decode cX7_unlock 91 = .ok (.imul, 1) := by decide +kernel
theorem dX7_unlock_92 : decode cX7_unlock 92 = .ok (.iload 6, 2) := by decide +kernel
theorem dX7_unlock_94 : decode cX7_unlock 94 = .ok (.iadd, 1) := by decide +kernel
theorem dX7_unlock_95 : decode cX7_unlock 95 = .ok (.iaload, 1) := by decide +kernel
theorem dX7_unlock_96 : decode cX7_unlock 96 = .ok (.ifCond .le 7, 3) := by decide +kernel
theorem dX7_unlock_99 : decode cX7_unlock 99 = .ok (.iconst 1, 1) := by decide +kernel
theorem dX7_unlock_100 : decode cX7_unlock 100 = .ok (.goto 4, 3) := by decide +kernel
theorem dX7_unlock_103 : decode cX7_unlock 103 = .ok (.iconst 0, 1) := by decide +kernel
theorem dX7_unlock_104 : decode cX7_unlock 104 = .ok (.iadd, 1) := by decide +kernel
theorem dX7_unlock_105 : decode cX7_unlock 105 = .ok (.istore 5, 2) := by decide +kernel
theorem dX7_unlock_107 : decode cX7_unlock 107 = .ok (.aload_n 0, 1) := by decide +kernel
theorem dX7_unlock_108 : decode cX7_unlock 108 = .ok (.getfield 44, 3) := by decide +kernel
theorem dX7_unlock_111 : decode cX7_unlock 111 = .ok (.bipush 16, 2) := by decide +kernel
theorem dX7_unlock_113 : decode cX7_unlock 113 = .ok (.iload_n 1, 1) := by decide +kernel
theorem dX7_unlock_114 : decode cX7_unlock 114 = .ok (.imul, 1) := by decide +kernel
theorem dX7_unlock_115 : decode cX7_unlock 115 = .ok (.iload 6, 2) := by decide +kernel
theorem dX7_unlock_117 : decode cX7_unlock 117 = .ok (.iadd, 1) := by decide +kernel
theorem dX7_unlock_118 : decode cX7_unlock 118 = .ok (.iconst 0, 1) := by decide +kernel
theorem dX7_unlock_119 : decode cX7_unlock 119 = .ok (.iastore, 1) := by decide +kernel
theorem dX7_unlock_120 : decode cX7_unlock 120 = .ok (.iinc 6 1, 3) := by decide +kernel
theorem dX7_unlock_123 : decode cX7_unlock 123 = .ok (.goto (-47), 3) := by decide +kernel
theorem dX7_unlock_126 : decode cX7_unlock 126 = .ok (.iload 5, 2) := by decide +kernel
theorem dX7_unlock_128 : decode cX7_unlock 128 = .ok (.ireturn, 1) := by decide +kernel
def f_X7_unlock (u0 : S1) (p1 : Int32) (p2 : Int32) (p3 : Int32) : Option (Int32 × S1) := bn (f_X7_isHandle u0 p1) (fun z_1 => jn (fun (v27_2_0 : Int32) => jn (fun (v62_3_0 : Int32) => bn (f_X7_can u0 v62_3_0) (fun z_4 => if z_4.1 = 0 then some (0, z_4.2) else qj3 (fun (r76_6 : Int32 → Int32 → S1 → Option (Int32 × S1)) (y76_6_5 : Int32) (y76_6_6 : Int32) (u76_6_0 : S1) => if p3 < y76_6_6 then some (y76_6_5, u76_6_0) else chk (inb ((16 * p1) + y76_6_6) 480) (jn (fun (v104_8_0 : Int32) => chk (inb ((16 * p1) + y76_6_6) 480) (bv (st u76_6_0 13 ((16 * p1) + y76_6_6) 0) (fun u_9 => r76_6 (y76_6_5 + v104_8_0) (y76_6_6 + 1) u_9))) (fun k104_8 => if (u76_6_0 13 ((16 * p1) + y76_6_6).toNatClampNeg) ≤ 0 then k104_8 0 else k104_8 1))) (fun k76_6 => k76_6 0 p2 z_4.2))) (fun k62_3 => if v27_2_0 = 0 then k62_3 1 else if p2 ≤ p3 then chk (inb p1 30) (if (u0 12 (p1).toNatClampNeg) = 0 then k62_3 3 else k62_3 0) else k62_3 2)) (fun k27_2 => jn (k27_2 0) (fun k26_14 => if z_1 = 0 then k26_14 else bn (f_X7_isPage p2) (fun z_16 => if z_16 = 0 then k26_14 else bn (f_X7_isPage p3) (fun z_18 => if z_18 = 0 then k26_14 else k27_2 1)))))
def rmX7_unlock : Room := { frames := 2, cells := 0, slots := 0, locals := 43 }
set_option maxHeartbeats 4000000 in
set_option maxRecDepth 100000 in
theorem c_X7_unlock (l : Launch) (D : va_G) (cI cZ cJ cT : ClassId) (a0 : Nat → Nat) (sz : Nat) (u0 : S1) (p1 : Int32) (p2 : Int32) (p3 : Int32) (o : Int32 × S1) (hf : f_X7_unlock u0 p1 p2 p3 = some o) : Met l yX7_unlock wsX7_unlock rmX7_unlock (va_Pc [.ref (a0 0), .int p1, .int p2, .int p3] (PW D cls (tys cI cZ cJ cT) ((wX7 cI cZ a0 u0)) sz)) (QWi D cls o.1 ((wX7 cI cZ a0 o.2)) (va_A ((wX7 cI cZ a0 u0)) sz)) 0 0 (va_A ((wX7 cI cZ a0 u0)) sz) := by
  refine Met.ofW (cc := cX7_unlock) (maxL := 7) (ret := (some .int)) (by decide) rfl ?_
  intro p e s m args below meth c s₁ B hml hv
  obtain ⟨hav, hsz, hP, hK, hD0⟩ := hv
  have hx := B.exec
  have hb := B.bytes
  have hr := B.returns
  have hlocks := B.notSynchronized
  have hts := atoms_spec (ws := wsX7_unlock) B.pre
  have hown : s.vm.findClass RX7 = some m.cls := findClass_of_methodNamed B.named
  have i7 : ∀ w ∈ wsX70, w ∈ wsX7_unlock := fun w h => List.mem_cons_of_mem _ (List.mem_append_right _ h)
  have hk41 := hts (.fieldLink RX7 41 "InoderyModel" "isOpen" "[Z") (by decide +kernel)
  have hk44 := hts (.fieldLink RX7 44 "InoderyModel" "lock" "[I") (by decide +kernel)
  subst hsz
  have hD := hD0.self (sz := s.heap.size)
  generalize hAe : va_A ((wX7 cI cZ a0 u0)) s.heap.size = A at hD ⊢
  have hA : ∀ q : Nat, s.heap.size ≤ q → A q := fun q h => by rw [← hAe]; exact Or.inr h
  have hS : va_S A s.heap s.heap [] := va_S.rf
  have hDD : ∀ w0 : S1, va_D A ((wX7 cI cZ a0 w0)) := fun _ => D_same (w := (wX7 cI cZ a0 u0)) rfl hD
  refine Wq (fun Q hQ => ?_)
  refine W_entry hav (Nat.le_of_ble_eq_true rfl) (fun ls hl => ?_)
  have hl : lv_has ls 7 [(0, .ref (a0 0)), (1, .int p1), (2, .int p2), (3, .int p3)] := hl
  unfold f_X7_unlock at hf
  refine W_heap hP hS (fun H locs hP hS => ?_)
  refine lv_aload_n hx hb dX7_unlock_0 rfl (lv_at hl 0 rfl) ?_
  refine lv_iload_n hx hb dX7_unlock_1 rfl (lv_at hl 1 rfl) ?_
  obtain ⟨z_1, hz_1, hf⟩ := bn_some hf
  refine cRV (As := [.int p1]) (rest := []) ⟨hx, hb, hml, hown, hts⟩ (c_X7_isHandle l D cI cZ cJ cT a0 u0 p1 z_1 hz_1) (cwV 1 hts gX7_unlock_X7_isHandle rfl rfl rfl (by decide +kernel) ⟨Nat.le_of_ble_eq_true rfl, Nat.le_of_ble_eq_true rfl⟩) hP hK (va_recv hK hP (ci := 7) (q0 := 0) rfl rfl) rfl rfl hl.1 (Nat.le_of_ble_eq_true rfl) dX7_unlock_2 ⟨Nat.le_of_ble_eq_true rfl, Nat.le_of_ble_eq_true rfl⟩ ?_
  obtain ⟨k27_2, hk27_2, hf⟩ := jn_some hf
  have j27_2 : ∀ (v27_2_0 : Int32) (H : Heap) (locs : List Loc) (ls : Array Slot), k27_2 v27_2_0 = some o → va_P D cls (wX7 cI cZ a0 u0) H → va_S A s.heap H locs → lv_has ls 7 [(0, .ref (a0 0)), (1, .int p1), (2, .int p2), (3, .int p3)] → W p l e (headSpec wsX7_unlock rmX7_unlock).room s m args below meth c H locs 0 0 Q (F0 m 27 ls [.int v27_2_0]) := by
    intro v27_2_0 H locs ls hf hP hS hl
    have hf := qa1 hk27_2 hf
    refine lv_istore (lv' := [(4, .int v27_2_0), (0, .ref (a0 0)), (1, .int p1), (2, .int p2), (3, .int p3)]) hx hb dX7_unlock_27 hl (by decide) rfl (fun ls hl => ?_)
    refine lv_aload_n hx hb dX7_unlock_29 rfl (lv_at hl 1 rfl) ?_
    refine lv_iload hx hb dX7_unlock_30 (lv_at hl 0 rfl) ?_
    obtain ⟨k62_3, hk62_3, hf⟩ := jn_some hf
    have j62_3 : ∀ (v62_3_0 : Int32) (H : Heap) (locs : List Loc) (ls : Array Slot), k62_3 v62_3_0 = some o → va_P D cls (wX7 cI cZ a0 u0) H → va_S A s.heap H locs → lv_has ls 7 [(0, .ref (a0 0)), (1, .int p1), (2, .int p2), (3, .int p3)] → W p l e (headSpec wsX7_unlock rmX7_unlock).room s m args below meth c H locs 0 0 Q (F0 m 62 ls [.int v62_3_0, .ref (a0 0)]) := by
      intro v62_3_0 H locs ls hf hP hS hl
      have hf := qa1 hk62_3 hf
      obtain ⟨z_4, hz_4, hf⟩ := bn_some hf
      refine cWVi (As := [.int v62_3_0]) (rest := []) ⟨hx, hb, hml, hown, hts⟩ (c_X7_can l D cI cZ cJ cT a0 H.size u0 v62_3_0 z_4 hz_4) (cwV 1 hts gX7_unlock_X7_can rfl rfl rfl (by decide +kernel) ⟨Nat.le_of_ble_eq_true rfl, Nat.le_of_ble_eq_true rfl⟩) hP hK (hDD u0) hS (own_free (hDD u0) hS hA) (va_recv hK hP (ci := 7) (q0 := 0) rfl rfl) rfl rfl hl.1 (Nat.le_of_ble_eq_true rfl) dX7_unlock_62 ⟨Nat.le_of_ble_eq_true rfl, Nat.le_of_ble_eq_true rfl⟩ (fun H1 locs hP1 hk1 hS => ?_)
      have hP : va_P D cls (wX7 cI cZ a0 z_4.2) H1 := hP1
      clear hP1 hk1
      generalize H1 = H at hP hS ⊢
      refine lv_if_ne (tgt := 70) hx hb dX7_unlock_65 (by decide) (fun c_5 => ?_) (fun c_5 => ?_)
      · have hf := ite_f hf c_5
        refine lv_iconst (v := 0) hx hb dX7_unlock_70 (by decide) ?_
        refine lv_istore (lv' := [(5, .int 0), (0, .ref (a0 0)), (1, .int p1), (2, .int p2), (3, .int p3)]) hx hb dX7_unlock_71 hl (by decide) rfl (fun ls hl => ?_)
        refine lv_iload_n hx hb dX7_unlock_73 rfl (lv_at hl 3 rfl) ?_
        refine lv_istore (lv' := [(6, .int p2), (5, .int 0), (0, .ref (a0 0)), (1, .int p1), (2, .int p2), (3, .int p3)]) hx hb dX7_unlock_74 hl (by decide) rfl (fun ls hl => ?_)
        obtain ⟨G76_6, hG76_6, hf⟩ := qj3_some hf
        have j76_6 : ∀ (n : Nat) (y76_6_5 : Int32) (y76_6_6 : Int32) (u76_6_0 : S1) (H : Heap) (locs : List Loc) (ls : Array Slot), ql3 G76_6 n y76_6_5 y76_6_6 u76_6_0 = some o → va_P D cls (wX7 cI cZ a0 u76_6_0) H → va_S A s.heap H locs → lv_has ls 7 [(0, .ref (a0 0)), (1, .int p1), (3, .int p3), (5, .int y76_6_5), (6, .int y76_6_6)] → W p l e (headSpec wsX7_unlock rmX7_unlock).room s m args below meth c H locs 0 0 Q (F0 m 76 ls []) := by
          intro n
          induction n with
          | zero => intro y76_6_5 y76_6_6 u76_6_0 H locs ls hf hP hS hl; exact (ql3_z hf).elim
          | succ n ih76_6 =>
            intro y76_6_5 y76_6_6 u76_6_0 H locs ls hf hP hS hl
            have hf := ql3_s hG76_6 hf
            obtain ⟨r76_6, hr76_6⟩ : ∃ z, z = ql3 G76_6 n := ⟨_, rfl⟩
            rw [← hr76_6] at hf ih76_6
            refine lv_iload hx hb dX7_unlock_76 (lv_at hl 4 rfl) ?_
            refine lv_iload_n hx hb dX7_unlock_78 rfl (lv_at hl 2 rfl) ?_
            refine lv_icmp_gt (tgt := 126) hx hb dX7_unlock_79 (by decide) (fun c_7 => ?_) (fun c_7 => ?_)
            · have hf := ite_t hf c_7
              refine lv_iload hx hb dX7_unlock_126 (lv_at hl 3 rfl) ?_
              have eo := Option.some.inj hf
              have hP : va_P D cls (wX7 cI cZ a0 o.2) H := by rw [← eo]; exact hP
              rw [hQ]
              exact W.iret hx hb hr (fun t ht hW => ⟨⟨_, (), rfl, congrArg Prod.fst eo, P_at ht hP⟩, hS.F ht⟩) hS.2.2 dX7_unlock_128 hlocks
            · have hf := ite_f hf c_7
              refine lv_iload hx hb dX7_unlock_82 (lv_at hl 3 rfl) ?_
              refine lv_aload_n hx hb dX7_unlock_84 rfl (lv_at hl 0 rfl) ?_
              refine va_get (D := D) (ci := 7) (v := .ref (a0 14)) (C := RX7) (T := TX7) (N := 19) hx hb hts i7 hown hK hP 0 rfl rfl 13 (by decide) hk44 (fun _ h9 => h9) rfl dX7_unlock_85 ?_
              refine lv_bipush (v := 16) hx hb dX7_unlock_88 (by decide) ?_
              refine lv_iload_n hx hb dX7_unlock_90 rfl (lv_at hl 1 rfl) ?_
              refine lv_imul hx hb dX7_unlock_91 ?_
              refine lv_iload hx hb dX7_unlock_92 (lv_at hl 4 rfl) ?_
              refine lv_iadd hx hb dX7_unlock_94 ?_
              obtain ⟨hi, hf⟩ := chk_some hf
              refine va_iald hx hb hK hP 12 0 rfl rfl (inb_in hi) dX7_unlock_95 ?_
              obtain ⟨k104_8, hk104_8, hf⟩ := jn_some hf
              have j104_8 : ∀ (v104_8_0 : Int32) (H : Heap) (locs : List Loc) (ls : Array Slot), k104_8 v104_8_0 = some o → va_P D cls (wX7 cI cZ a0 u76_6_0) H → va_S A s.heap H locs → lv_has ls 7 [(0, .ref (a0 0)), (1, .int p1), (3, .int p3), (6, .int y76_6_6)] → W p l e (headSpec wsX7_unlock rmX7_unlock).room s m args below meth c H locs 0 0 Q (F0 m 104 ls [.int v104_8_0, .int y76_6_5]) := by
                intro v104_8_0 H locs ls hf hP hS hl
                have hf := qa1 hk104_8 hf
                refine lv_iadd hx hb dX7_unlock_104 ?_
                refine lv_istore (lv' := [(5, .int (y76_6_5 + v104_8_0)), (0, .ref (a0 0)), (1, .int p1), (3, .int p3), (6, .int y76_6_6)]) hx hb dX7_unlock_105 hl (by decide) rfl (fun ls hl => ?_)
                refine lv_aload_n hx hb dX7_unlock_107 rfl (lv_at hl 1 rfl) ?_
                refine va_get (D := D) (ci := 7) (v := .ref (a0 14)) (C := RX7) (T := TX7) (N := 19) hx hb hts i7 hown hK hP 0 rfl rfl 13 (by decide) hk44 (fun _ h9 => h9) rfl dX7_unlock_108 ?_
                refine lv_bipush (v := 16) hx hb dX7_unlock_111 (by decide) ?_
                refine lv_iload_n hx hb dX7_unlock_113 rfl (lv_at hl 2 rfl) ?_
                refine lv_imul hx hb dX7_unlock_114 ?_
                refine lv_iload hx hb dX7_unlock_115 (lv_at hl 4 rfl) ?_
                refine lv_iadd hx hb dX7_unlock_117 ?_
                refine lv_iconst (v := 0) hx hb dX7_unlock_118 (by decide) ?_
                obtain ⟨hi, hf⟩ := chk_some hf
                obtain ⟨u_9, hu_9, hf⟩ := bv_some hf
                refine va_iast hx hb hK hP (hDD u76_6_0) hS 12 0 rfl rfl (inb_in hi) dX7_unlock_119 (fun H locs hP _ hS => ?_)
                have hP : va_P D cls (wX7 cI cZ a0 u_9) H := by rw [hu_9]; exact hP
                refine lv_iinc (v := y76_6_6 + 1) (lv' := [(6, .int (y76_6_6 + 1)), (5, .int (y76_6_5 + v104_8_0)), (0, .ref (a0 0)), (1, .int p1), (3, .int p3)]) hx hb dX7_unlock_120 hl (k := 4) rfl rfl (by decide) rfl (fun ls hl => ?_)
                refine lv_goto (tgt := 76) hx hb dX7_unlock_123 (by decide) ?_
                exact ih76_6 _ _ _ _ _ _ hf hP hS (lv_sub hl [2, 3, 4, 1, 0] rfl)
              refine lv_if_le (tgt := 103) hx hb dX7_unlock_96 (by decide) (fun c_10 => ?_) (fun c_10 => ?_)
              · have hf := ite_t hf c_10
                refine lv_iconst (v := 0) hx hb dX7_unlock_103 (by decide) ?_
                exact j104_8 _ _ _ _ hf hP hS (lv_sub hl [0, 1, 2, 4] rfl)
              · have hf := ite_f hf c_10
                refine lv_iconst (v := 1) hx hb dX7_unlock_99 (by decide) ?_
                refine lv_goto (tgt := 104) hx hb dX7_unlock_100 (by decide) ?_
                exact j104_8 _ _ _ _ hf hP hS (lv_sub hl [0, 1, 2, 4] rfl)
        exact j76_6 4096 _ _ _ _ _ _ hf hP hS (lv_sub hl [2, 3, 5, 1, 0] rfl)
      · have hf := ite_t hf c_5
        refine lv_iconst (v := 0) hx hb dX7_unlock_68 (by decide) ?_
        have eo := Option.some.inj hf
        have hP : va_P D cls (wX7 cI cZ a0 o.2) H := by rw [← eo]; exact hP
        rw [hQ]
        exact W.iret hx hb hr (fun t ht hW => ⟨⟨_, (), rfl, congrArg Prod.fst eo, P_at ht hP⟩, hS.F ht⟩) hS.2.2 dX7_unlock_69 hlocks
    refine lv_if_ne (tgt := 39) hx hb dX7_unlock_32 (by decide) (fun c_11 => ?_) (fun c_11 => ?_)
    · have hf := ite_f hf c_11
      refine lv_iload_n hx hb dX7_unlock_39 rfl (lv_at hl 4 rfl) ?_
      refine lv_iload_n hx hb dX7_unlock_40 rfl (lv_at hl 3 rfl) ?_
      refine lv_icmp_ge (tgt := 48) hx hb dX7_unlock_41 (by decide) (fun c_12 => ?_) (fun c_12 => ?_)
      · have hf := ite_t hf c_12
        refine lv_aload_n hx hb dX7_unlock_48 rfl (lv_at hl 1 rfl) ?_
        refine va_get (D := D) (ci := 7) (v := .ref (a0 13)) (C := RX7) (T := TX7) (N := 19) hx hb hts i7 hown hK hP 0 rfl rfl 12 (by decide) hk41 (fun _ h9 => h9) rfl dX7_unlock_49 ?_
        refine lv_iload_n hx hb dX7_unlock_52 rfl (lv_at hl 2 rfl) ?_
        obtain ⟨hi, hf⟩ := chk_some hf
        refine va_zald hx hb hK hP 11 1 rfl rfl (inb_in hi) dX7_unlock_53 ?_
        refine lv_if_eq (tgt := 61) hx hb dX7_unlock_54 (by decide) (fun c_13 => ?_) (fun c_13 => ?_)
        · have hf := ite_t hf c_13
          refine lv_iconst (v := 3) hx hb dX7_unlock_61 (by decide) ?_
          exact j62_3 _ _ _ _ hf hP hS (lv_sub hl [1, 2, 3, 4] rfl)
        · have hf := ite_f hf c_13
          refine lv_iconst (v := 0) hx hb dX7_unlock_57 (by decide) ?_
          refine lv_goto (tgt := 62) hx hb dX7_unlock_58 (by decide) ?_
          exact j62_3 _ _ _ _ hf hP hS (lv_sub hl [1, 2, 3, 4] rfl)
      · have hf := ite_f hf c_12
        refine lv_iconst (v := 2) hx hb dX7_unlock_44 (by decide) ?_
        refine lv_goto (tgt := 62) hx hb dX7_unlock_45 (by decide) ?_
        exact j62_3 _ _ _ _ hf hP hS (lv_sub hl [1, 2, 3, 4] rfl)
    · have hf := ite_t hf c_11
      refine lv_iconst (v := 1) hx hb dX7_unlock_35 (by decide) ?_
      refine lv_goto (tgt := 62) hx hb dX7_unlock_36 (by decide) ?_
      exact j62_3 _ _ _ _ hf hP hS (lv_sub hl [1, 2, 3, 4] rfl)
  obtain ⟨k26_14, hk26_14, hf⟩ := jn_some hf
  have j26_14 : ∀ (H : Heap) (locs : List Loc) (ls : Array Slot), k26_14 = some o → va_P D cls (wX7 cI cZ a0 u0) H → va_S A s.heap H locs → lv_has ls 7 [(0, .ref (a0 0)), (1, .int p1), (2, .int p2), (3, .int p3)] → W p l e (headSpec wsX7_unlock rmX7_unlock).room s m args below meth c H locs 0 0 Q (F0 m 26 ls []) := by
    intro H locs ls hf hP hS hl
    have hf := qa0 hk26_14 hf
    refine lv_iconst (v := 0) hx hb dX7_unlock_26 (by decide) ?_
    exact j27_2 _ _ _ _ hf hP hS (lv_sub hl [0, 1, 2, 3] rfl)
  refine lv_if_eq (tgt := 26) hx hb dX7_unlock_5 (by decide) (fun c_15 => ?_) (fun c_15 => ?_)
  · have hf := ite_t hf c_15
    exact j26_14 _ _ _ hf hP hS (lv_sub hl [0, 1, 2, 3] rfl)
  · have hf := ite_f hf c_15
    refine lv_iload_n hx hb dX7_unlock_8 rfl (lv_at hl 2 rfl) ?_
    obtain ⟨z_16, hz_16, hf⟩ := bn_some hf
    refine c0S (As := [.int p2]) (rest := []) ⟨hx, hb, hml, hown, hts⟩ (c_X7_isPage l D cI cZ cJ cT p2 z_16 hz_16) (va_cwS 1 hts gX7_unlock_X7_isPage rfl rfl rfl (by decide +kernel) ⟨Nat.le_of_ble_eq_true rfl, Nat.le_of_ble_eq_true rfl⟩) rfl rfl hl.1 (Nat.le_of_ble_eq_true rfl) dX7_unlock_9 ⟨Nat.le_of_ble_eq_true rfl, Nat.le_of_ble_eq_true rfl⟩ ?_
    refine lv_if_eq (tgt := 26) hx hb dX7_unlock_12 (by decide) (fun c_17 => ?_) (fun c_17 => ?_)
    · have hf := ite_t hf c_17
      exact j26_14 _ _ _ hf hP hS (lv_sub hl [0, 1, 2, 3] rfl)
    · have hf := ite_f hf c_17
      refine lv_iload_n hx hb dX7_unlock_15 rfl (lv_at hl 3 rfl) ?_
      obtain ⟨z_18, hz_18, hf⟩ := bn_some hf
      refine c0S (As := [.int p3]) (rest := []) ⟨hx, hb, hml, hown, hts⟩ (c_X7_isPage l D cI cZ cJ cT p3 z_18 hz_18) (va_cwS 1 hts gX7_unlock_X7_isPage rfl rfl rfl (by decide +kernel) ⟨Nat.le_of_ble_eq_true rfl, Nat.le_of_ble_eq_true rfl⟩) rfl rfl hl.1 (Nat.le_of_ble_eq_true rfl) dX7_unlock_16 ⟨Nat.le_of_ble_eq_true rfl, Nat.le_of_ble_eq_true rfl⟩ ?_
      refine lv_if_eq (tgt := 26) hx hb dX7_unlock_19 (by decide) (fun c_19 => ?_) (fun c_19 => ?_)
      · have hf := ite_t hf c_19
        exact j26_14 _ _ _ hf hP hS (lv_sub hl [0, 1, 2, 3] rfl)
      · have hf := ite_f hf c_19
        refine lv_iconst (v := 1) hx hb dX7_unlock_22 (by decide) ?_
        refine lv_goto (tgt := 27) hx hb dX7_unlock_23 (by decide) ?_
        exact j27_2 _ _ _ _ hf hP hS (lv_sub hl [0, 1, 2, 3] rfl)
set_option maxRecDepth 20000 in
theorem ggX7_lockOf_X7_can : GoodIn wsX7_lockOf wsX7_can := goodIn_r _ [17, 18, 19, 20, 21, 22, 23, 24, 25, 26, 27, 28, 29, 30, 31, 32, 33, 34, 35, 36, 37] (by decide +kernel) (by decide +kernel)
set_option maxRecDepth 20000 in
theorem gX7_lockOf_X7_can : GoodIn wsX7_lockOf (wsV RX7 140 RX7 yX7_can wsX7_can) := goodIn_app (goodIn_of _ (by decide +kernel)) ggX7_lockOf_X7_can
set_option maxRecDepth 20000 in
theorem ggX7_lockOf_X7_isHandle : GoodIn wsX7_lockOf wsX7_isHandle := goodIn_r _ [6, 7, 8, 9, 5, 10, 19, 20, 21, 22, 23, 24, 25, 26, 27, 28, 29, 30, 31, 32, 33, 34, 35, 36, 37] (by decide +kernel) (by decide +kernel)
set_option maxRecDepth 20000 in
theorem gX7_lockOf_X7_isHandle : GoodIn wsX7_lockOf (wsV RX7 186 RX7 yX7_isHandle wsX7_isHandle) := goodIn_app (goodIn_of _ (by decide +kernel)) ggX7_lockOf_X7_isHandle
set_option maxRecDepth 20000 in
theorem ggX7_lockOf_X7_isPage : GoodIn wsX7_lockOf wsX7_isPage := goodIn_r _ [13, 8, 9, 5, 10] (by decide +kernel) (by decide +kernel)
set_option maxRecDepth 20000 in
theorem gX7_lockOf_X7_isPage : GoodIn wsX7_lockOf (va_wsS RX7 201 yX7_isPage wsX7_isPage) := goodIn_app (goodIn_of _ (by decide +kernel)) ggX7_lockOf_X7_isPage
theorem dX7_lockOf_0 : decode cX7_lockOf 0 = .ok (.aload_n 0, 1) := by decide +kernel
theorem dX7_lockOf_1 : decode cX7_lockOf 1 = .ok (.aload_n 0, 1) := by decide +kernel
theorem dX7_lockOf_2 : decode cX7_lockOf 2 = .ok (.iload_n 1, 1) := by decide +kernel
theorem dX7_lockOf_3 : decode cX7_lockOf 3 = .ok (.invokevirtual 186, 3) := by decide +kernel
theorem dX7_lockOf_6 : decode cX7_lockOf 6 = .ok (.ifCond .eq 14, 3) := by decide +kernel
theorem dX7_lockOf_9 : decode cX7_lockOf 9 = .ok (.iload_n 2, 1) := by decide +kernel
theorem dX7_lockOf_10 : decode cX7_lockOf 10 = .ok (.invokestatic 201, 3) := by decide +kernel
theorem dX7_lockOf_13 : decode cX7_lockOf 13 = .ok (.ifCond .eq 7, 3) := by decide +kernel
theorem dX7_lockOf_16 : decode cX7_lockOf 16 = .ok (.iconst 0, 1) := by decide +kernel
theorem dX7_lockOf_17 : decode cX7_lockOf 17 = .ok (.goto 4, 3) := by decide +kernel
theorem dX7_lockOf_20 : decode cX7_lockOf 20 = .ok (.iconst 1, 1) := by decide +kernel
theorem dX7_lockOf_21 : decode cX7_lockOf 21 = .ok (.invokevirtual 140, 3) := by decide +kernel
theorem dX7_lockOf_24 : decode cX7_lockOf 24 = .ok (.ifCond .eq 17, 3) := by decide +kernel
theorem dX7_lockOf_27 : decode cX7_lockOf 27 = .ok (.aload_n 0, 1) := by decide +kernel
theorem dX7_lockOf_28 : decode cX7_lockOf 28 = .ok (.getfield 44, 3) := by decide +kernel
theorem dX7_lockOf_31 : decode cX7_lockOf 31 = .ok (.bipush 16, 2) := by decide +kernel
theorem dX7_lockOf_33 : decode cX7_lockOf 33 = .ok (.iload_n 1, 1) := by decide +kernel
theorem dX7_lockOf_34 : decode cX7_lockOf 34 = .ok (.imul, 1) := by decide +kernel
theorem dX7_lockOf_35 : decode cX7_lockOf 35 = .ok (.iload_n 2, 1) := by decide +kernel
theorem dX7_lockOf_36 : decode cX7_lockOf 36 = .ok (.iadd, 1) := by decide +kernel
theorem dX7_lockOf_37 : decode cX7_lockOf 37 = .ok (.iaload, 1) := by decide +kernel
theorem dX7_lockOf_38 : decode cX7_lockOf 38 = .ok (.goto 4, 3) := by decide +kernel
theorem dX7_lockOf_41 : decode cX7_lockOf 41 = .ok (.iconst 0, 1) := by decide +kernel
theorem dX7_lockOf_42 : decode cX7_lockOf 42 = .ok (.ireturn, 1) := by decide +kernel
def f_X7_lockOf (u0 : S1) (p1 : Int32) (p2 : Int32) : Option (Int32 × S1) := bn (f_X7_isHandle u0 p1) (fun z_1 => jn (fun (v21_2_0 : Int32) => bn (f_X7_can u0 v21_2_0) (fun z_3 => jn (fun (v42_4_0 : Int32) => some (v42_4_0, z_3.2)) (fun k42_4 => if z_3.1 = 0 then k42_4 0 else chk (inb ((16 * p1) + p2) 480) (k42_4 (z_3.2 13 ((16 * p1) + p2).toNatClampNeg))))) (fun k21_2 => jn (k21_2 1) (fun k20_6 => if z_1 = 0 then k20_6 else bn (f_X7_isPage p2) (fun z_8 => if z_8 = 0 then k20_6 else k21_2 0))))
def rmX7_lockOf : Room := { frames := 2, cells := 0, slots := 0, locals := 43 }
set_option maxHeartbeats 4000000 in
set_option maxRecDepth 100000 in
theorem c_X7_lockOf (l : Launch) (D : va_G) (cI cZ cJ cT : ClassId) (a0 : Nat → Nat) (sz : Nat) (u0 : S1) (p1 : Int32) (p2 : Int32) (o : Int32 × S1) (hf : f_X7_lockOf u0 p1 p2 = some o) : Met l yX7_lockOf wsX7_lockOf rmX7_lockOf (va_Pc [.ref (a0 0), .int p1, .int p2] (PW D cls (tys cI cZ cJ cT) ((wX7 cI cZ a0 u0)) sz)) (QWi D cls o.1 ((wX7 cI cZ a0 o.2)) (va_A ((wX7 cI cZ a0 u0)) sz)) 0 0 (va_A ((wX7 cI cZ a0 u0)) sz) := by
  refine Met.ofW (cc := cX7_lockOf) (maxL := 3) (ret := (some .int)) (by decide) rfl ?_
  intro p e s m args below meth c s₁ B hml hv
  obtain ⟨hav, hsz, hP, hK, hD0⟩ := hv
  have hx := B.exec
  have hb := B.bytes
  have hr := B.returns
  have hlocks := B.notSynchronized
  have hts := atoms_spec (ws := wsX7_lockOf) B.pre
  have hown : s.vm.findClass RX7 = some m.cls := findClass_of_methodNamed B.named
  have i7 : ∀ w ∈ wsX70, w ∈ wsX7_lockOf := fun w h => List.mem_cons_of_mem _ (List.mem_append_right _ h)
  have hk44 := hts (.fieldLink RX7 44 "InoderyModel" "lock" "[I") (by decide +kernel)
  subst hsz
  have hD := hD0.self (sz := s.heap.size)
  generalize hAe : va_A ((wX7 cI cZ a0 u0)) s.heap.size = A at hD ⊢
  have hA : ∀ q : Nat, s.heap.size ≤ q → A q := fun q h => by rw [← hAe]; exact Or.inr h
  have hS : va_S A s.heap s.heap [] := va_S.rf
  have hDD : ∀ w0 : S1, va_D A ((wX7 cI cZ a0 w0)) := fun _ => D_same (w := (wX7 cI cZ a0 u0)) rfl hD
  refine Wq (fun Q hQ => ?_)
  refine W_entry hav (Nat.le_of_ble_eq_true rfl) (fun ls hl => ?_)
  have hl : lv_has ls 3 [(0, .ref (a0 0)), (1, .int p1), (2, .int p2)] := hl
  unfold f_X7_lockOf at hf
  refine W_heap hP hS (fun H locs hP hS => ?_)
  refine lv_aload_n hx hb dX7_lockOf_0 rfl (lv_at hl 0 rfl) ?_
  refine lv_aload_n hx hb dX7_lockOf_1 rfl (lv_at hl 0 rfl) ?_
  refine lv_iload_n hx hb dX7_lockOf_2 rfl (lv_at hl 1 rfl) ?_
  obtain ⟨z_1, hz_1, hf⟩ := bn_some hf
  refine cRV (As := [.int p1]) (rest := [.ref (a0 0)]) ⟨hx, hb, hml, hown, hts⟩ (c_X7_isHandle l D cI cZ cJ cT a0 u0 p1 z_1 hz_1) (cwV 1 hts gX7_lockOf_X7_isHandle rfl rfl rfl (by decide +kernel) ⟨Nat.le_of_ble_eq_true rfl, Nat.le_of_ble_eq_true rfl⟩) hP hK (va_recv hK hP (ci := 7) (q0 := 0) rfl rfl) rfl rfl hl.1 (Nat.le_of_ble_eq_true rfl) dX7_lockOf_3 ⟨Nat.le_of_ble_eq_true rfl, Nat.le_of_ble_eq_true rfl⟩ ?_
  obtain ⟨k21_2, hk21_2, hf⟩ := jn_some hf
  have j21_2 : ∀ (v21_2_0 : Int32) (H : Heap) (locs : List Loc) (ls : Array Slot), k21_2 v21_2_0 = some o → va_P D cls (wX7 cI cZ a0 u0) H → va_S A s.heap H locs → lv_has ls 3 [(0, .ref (a0 0)), (1, .int p1), (2, .int p2)] → W p l e (headSpec wsX7_lockOf rmX7_lockOf).room s m args below meth c H locs 0 0 Q (F0 m 21 ls [.int v21_2_0, .ref (a0 0)]) := by
    intro v21_2_0 H locs ls hf hP hS hl
    have hf := qa1 hk21_2 hf
    obtain ⟨z_3, hz_3, hf⟩ := bn_some hf
    refine cWVi (As := [.int v21_2_0]) (rest := []) ⟨hx, hb, hml, hown, hts⟩ (c_X7_can l D cI cZ cJ cT a0 H.size u0 v21_2_0 z_3 hz_3) (cwV 1 hts gX7_lockOf_X7_can rfl rfl rfl (by decide +kernel) ⟨Nat.le_of_ble_eq_true rfl, Nat.le_of_ble_eq_true rfl⟩) hP hK (hDD u0) hS (own_free (hDD u0) hS hA) (va_recv hK hP (ci := 7) (q0 := 0) rfl rfl) rfl rfl hl.1 (Nat.le_of_ble_eq_true rfl) dX7_lockOf_21 ⟨Nat.le_of_ble_eq_true rfl, Nat.le_of_ble_eq_true rfl⟩ (fun H1 locs hP1 hk1 hS => ?_)
    have hP : va_P D cls (wX7 cI cZ a0 z_3.2) H1 := hP1
    clear hP1 hk1
    generalize H1 = H at hP hS ⊢
    obtain ⟨k42_4, hk42_4, hf⟩ := jn_some hf
    have j42_4 : ∀ (v42_4_0 : Int32) (H : Heap) (locs : List Loc) (ls : Array Slot), k42_4 v42_4_0 = some o → va_P D cls (wX7 cI cZ a0 z_3.2) H → va_S A s.heap H locs → lv_has ls 3 [] → W p l e (headSpec wsX7_lockOf rmX7_lockOf).room s m args below meth c H locs 0 0 Q (F0 m 42 ls [.int v42_4_0]) := by
      intro v42_4_0 H locs ls hf hP hS hl
      have hf := qa1 hk42_4 hf
      have eo := Option.some.inj hf
      have hP : va_P D cls (wX7 cI cZ a0 o.2) H := by rw [← eo]; exact hP
      rw [hQ]
      exact W.iret hx hb hr (fun t ht hW => ⟨⟨_, (), rfl, congrArg Prod.fst eo, P_at ht hP⟩, hS.F ht⟩) hS.2.2 dX7_lockOf_42 hlocks
    refine lv_if_eq (tgt := 41) hx hb dX7_lockOf_24 (by decide) (fun c_5 => ?_) (fun c_5 => ?_)
    · have hf := ite_t hf c_5
      refine lv_iconst (v := 0) hx hb dX7_lockOf_41 (by decide) ?_
      exact j42_4 _ _ _ _ hf hP hS (lv_sub hl [] rfl)
    · have hf := ite_f hf c_5
      refine lv_aload_n hx hb dX7_lockOf_27 rfl (lv_at hl 0 rfl) ?_
      refine va_get (D := D) (ci := 7) (v := .ref (a0 14)) (C := RX7) (T := TX7) (N := 19) hx hb hts i7 hown hK hP 0 rfl rfl 13 (by decide) hk44 (fun _ h9 => h9) rfl dX7_lockOf_28 ?_
      refine lv_bipush (v := 16) hx hb dX7_lockOf_31 (by decide) ?_
      refine lv_iload_n hx hb dX7_lockOf_33 rfl (lv_at hl 1 rfl) ?_
      refine lv_imul hx hb dX7_lockOf_34 ?_
      refine lv_iload_n hx hb dX7_lockOf_35 rfl (lv_at hl 2 rfl) ?_
      refine lv_iadd hx hb dX7_lockOf_36 ?_
      obtain ⟨hi, hf⟩ := chk_some hf
      refine va_iald hx hb hK hP 12 0 rfl rfl (inb_in hi) dX7_lockOf_37 ?_
      refine lv_goto (tgt := 42) hx hb dX7_lockOf_38 (by decide) ?_
      exact j42_4 _ _ _ _ hf hP hS (lv_sub hl [] rfl)
  obtain ⟨k20_6, hk20_6, hf⟩ := jn_some hf
  have j20_6 : ∀ (H : Heap) (locs : List Loc) (ls : Array Slot), k20_6 = some o → va_P D cls (wX7 cI cZ a0 u0) H → va_S A s.heap H locs → lv_has ls 3 [(0, .ref (a0 0)), (1, .int p1), (2, .int p2)] → W p l e (headSpec wsX7_lockOf rmX7_lockOf).room s m args below meth c H locs 0 0 Q (F0 m 20 ls [.ref (a0 0)]) := by
    intro H locs ls hf hP hS hl
    have hf := qa0 hk20_6 hf
    refine lv_iconst (v := 1) hx hb dX7_lockOf_20 (by decide) ?_
    exact j21_2 _ _ _ _ hf hP hS (lv_sub hl [0, 1, 2] rfl)
  refine lv_if_eq (tgt := 20) hx hb dX7_lockOf_6 (by decide) (fun c_7 => ?_) (fun c_7 => ?_)
  · have hf := ite_t hf c_7
    exact j20_6 _ _ _ hf hP hS (lv_sub hl [0, 1, 2] rfl)
  · have hf := ite_f hf c_7
    refine lv_iload_n hx hb dX7_lockOf_9 rfl (lv_at hl 2 rfl) ?_
    obtain ⟨z_8, hz_8, hf⟩ := bn_some hf
    refine c0S (As := [.int p2]) (rest := [.ref (a0 0)]) ⟨hx, hb, hml, hown, hts⟩ (c_X7_isPage l D cI cZ cJ cT p2 z_8 hz_8) (va_cwS 1 hts gX7_lockOf_X7_isPage rfl rfl rfl (by decide +kernel) ⟨Nat.le_of_ble_eq_true rfl, Nat.le_of_ble_eq_true rfl⟩) rfl rfl hl.1 (Nat.le_of_ble_eq_true rfl) dX7_lockOf_10 ⟨Nat.le_of_ble_eq_true rfl, Nat.le_of_ble_eq_true rfl⟩ ?_
    refine lv_if_eq (tgt := 20) hx hb dX7_lockOf_13 (by decide) (fun c_9 => ?_) (fun c_9 => ?_)
    · have hf := ite_t hf c_9
      exact j20_6 _ _ _ hf hP hS (lv_sub hl [0, 1, 2] rfl)
    · have hf := ite_f hf c_9
      refine lv_iconst (v := 0) hx hb dX7_lockOf_16 (by decide) ?_
      refine lv_goto (tgt := 21) hx hb dX7_lockOf_17 (by decide) ?_
      exact j21_2 _ _ _ _ hf hP hS (lv_sub hl [0, 1, 2] rfl)
set_option maxRecDepth 20000 in
theorem ggX7_flushes_X7_blockOf : GoodIn wsX7_flushes wsX7_blockOf := goodIn_r _ [10, 11, 12, 13, 9, 14, 15, 16, 17, 18, 19, 20, 21, 22, 23, 24, 25, 26, 27, 28, 29, 30, 31, 32, 33] (by decide +kernel) (by decide +kernel)
set_option maxRecDepth 20000 in
theorem gX7_flushes_X7_blockOf : GoodIn wsX7_flushes (wsV RX7 82 RX7 yX7_blockOf wsX7_blockOf) := goodIn_app (goodIn_of _ (by decide +kernel)) ggX7_flushes_X7_blockOf
theorem dX7_flushes_0 : decode cX7_flushes 0 = .ok (.iload_n 1, 1) := by decide +kernel
theorem dX7_flushes_1 : decode cX7_flushes 1 = .ok (.bipush 16, 2) := by decide +kernel
theorem dX7_flushes_3 : decode cX7_flushes 3 = .ok (.idiv, 1) := by decide +kernel
theorem dX7_flushes_4 : decode cX7_flushes 4 = .ok (.istore_n 2, 1) := by decide +kernel
theorem dX7_flushes_5 : decode cX7_flushes 5 = .ok (.aload_n 0, 1) := by decide +kernel
theorem dX7_flushes_6 : decode cX7_flushes 6 = .ok (.iload_n 2, 1) := by decide +kernel
theorem dX7_flushes_7 : decode cX7_flushes 7 = .ok (.iload_n 1, 1) := by decide +kernel
theorem dX7_flushes_8 : decode cX7_flushes 8 = .ok (.bipush 16, 2) := by decide +kernel
theorem dX7_flushes_10 : decode cX7_flushes 10 = .ok (.irem, 1) := by decide +kernel
theorem dX7_flushes_11 : decode cX7_flushes 11 = .ok (.invokevirtual 82, 3) := by decide +kernel
theorem dX7_flushes_14 : decode cX7_flushes 14 = .ok (.istore_n 3, 1) := by decide +kernel
theorem dX7_flushes_15 : decode cX7_flushes 15 = .ok (.aload_n 0, 1) := by decide +kernel
theorem dX7_flushes_16 : decode cX7_flushes 16 = .ok (.getfield 23, 3) := by decide +kernel
theorem dX7_flushes_19 : decode cX7_flushes 19 = .ok (.iload_n 1, 1) := by decide +kernel
theorem dX7_flushes_20 : decode cX7_flushes 20 = .ok (.iconst 0, 1) := by decide +kernel
theorem dX7_flushes_21 : decode cX7_flushes 21 = .ok (.bastore, 1) := by decide +kernel
theorem dX7_flushes_22 : decode cX7_flushes 22 = .ok (.aload_n 0, 1) := by decide +kernel
theorem dX7_flushes_23 : decode cX7_flushes 23 = .ok (.getfield 20, 3) := by decide +kernel
theorem dX7_flushes_26 : decode cX7_flushes 26 = .ok (.iload_n 3, 1) := by decide +kernel
theorem dX7_flushes_27 : decode cX7_flushes 27 = .ok (.baload, 1) := by decide +kernel
theorem dX7_flushes_28 : decode cX7_flushes 28 = .ok (.ifCond .eq 13, 3) := by decide +kernel
theorem dX7_flushes_31 : decode cX7_flushes 31 = .ok (.aload_n 0, 1) := by decide +kernel
theorem dX7_flushes_32 : decode cX7_flushes 32 = .ok (.getfield 29, 3) := by decide +kernel
theorem dX7_flushes_35 : decode cX7_flushes 35 = .ok (.iload_n 2, 1) := by decide +kernel
theorem dX7_flushes_36 : decode cX7_flushes 36 = .ok (.iconst 1, 1) := by decide +kernel
theorem dX7_flushes_37 : decode cX7_flushes 37 = .ok (.bastore, 1) := by decide +kernel
theorem dX7_flushes_38 : decode cX7_flushes 38 = .ok (.goto 15, 3) := by decide +kernel
theorem dX7_flushes_41 : decode cX7_flushes 41 = .ok (.aload_n 0, 1) := by decide +kernel
theorem dX7_flushes_42 : decode cX7_flushes 42 = .ok (.getfield 17, 3) := by decide +kernel
theorem dX7_flushes_45 : decode cX7_flushes 45 = .ok (.iload_n 3, 1) := by decide +kernel
theorem dX7_flushes_46 : decode cX7_flushes 46 = .ok (.aload_n 0, 1) := by decide +kernel
theorem dX7_flushes_47 : decode cX7_flushes 47 = .ok (.getfield 26, 3) := by decide +kernel
theorem dX7_flushes_50 : decode cX7_flushes 50 = .ok (.iload_n 1, 1) := by decide +kernel
theorem dX7_flushes_51 : decode cX7_flushes 51 = .ok (.iaload, 1) := by decide +kernel
theorem dX7_flushes_52 : decode cX7_flushes 52 = .ok (.iastore, 1) := by decide +kernel
theorem dX7_flushes_53 : decode cX7_flushes 53 = .ok (.return_, 1) := by decide +kernel
def f_X7_flushes (u0 : S1) (p1 : Int32) : Option (S1) := bn (f_X7_blockOf u0 (p1 / 16) (p1 - p1 / 16 * 16)) (fun z_1 => chk (inb p1 512) (bv (stz u0 4 p1 0) (fun u_2 => chk (inb z_1 64) (jn (fun (u53_3_0 : S1) => some (u53_3_0)) (fun k53_3 => if (u_2 3 (z_1).toNatClampNeg) = 0 then chk (inb p1 512) (chk (inb z_1 64) (bv (st u_2 2 z_1 (u_2 5 (p1).toNatClampNeg)) (fun u_5 => k53_3 u_5))) else chk (inb (p1 / 16) 32) (bv (stz u_2 6 (p1 / 16) 1) (fun u_6 => k53_3 u_6)))))))
def rmX7_flushes : Room := { frames := 2, cells := 0, slots := 0, locals := 43 }
set_option maxHeartbeats 4000000 in
set_option maxRecDepth 100000 in
theorem c_X7_flushes (l : Launch) (D : va_G) (cI cZ cJ cT : ClassId) (a0 : Nat → Nat) (sz : Nat) (u0 : S1) (p1 : Int32) (o : S1) (hf : f_X7_flushes u0 p1 = some o) : Met l yX7_flushes wsX7_flushes rmX7_flushes (va_Pc [.ref (a0 0), .int p1] (PW D cls (tys cI cZ cJ cT) ((wX7 cI cZ a0 u0)) sz)) (QWv D cls ((wX7 cI cZ a0 o)) (va_A ((wX7 cI cZ a0 u0)) sz)) 0 0 (va_A ((wX7 cI cZ a0 u0)) sz) := by
  refine Met.ofW (cc := cX7_flushes) (maxL := 4) (ret := none) (by decide) rfl ?_
  intro p e s m args below meth c s₁ B hml hv
  obtain ⟨hav, hsz, hP, hK, hD0⟩ := hv
  have hx := B.exec
  have hb := B.bytes
  have hr := B.returns
  have hlocks := B.notSynchronized
  have hts := atoms_spec (ws := wsX7_flushes) B.pre
  have hown : s.vm.findClass RX7 = some m.cls := findClass_of_methodNamed B.named
  have i7 : ∀ w ∈ wsX70, w ∈ wsX7_flushes := fun w h => List.mem_cons_of_mem _ (List.mem_append_right _ h)
  have hk17 := hts (.fieldLink RX7 17 "InoderyModel" "number" "[I") (by decide +kernel)
  have hk20 := hts (.fieldLink RX7 20 "InoderyModel" "isBad" "[Z") (by decide +kernel)
  have hk23 := hts (.fieldLink RX7 23 "InoderyModel" "isDirty" "[Z") (by decide +kernel)
  have hk26 := hts (.fieldLink RX7 26 "InoderyModel" "cache" "[I") (by decide +kernel)
  have hk29 := hts (.fieldLink RX7 29 "InoderyModel" "hasError" "[Z") (by decide +kernel)
  subst hsz
  have hD := hD0.self (sz := s.heap.size)
  generalize hAe : va_A ((wX7 cI cZ a0 u0)) s.heap.size = A at hD ⊢
  have hA : ∀ q : Nat, s.heap.size ≤ q → A q := fun q h => by rw [← hAe]; exact Or.inr h
  have hS : va_S A s.heap s.heap [] := va_S.rf
  have hDD : ∀ w0 : S1, va_D A ((wX7 cI cZ a0 w0)) := fun _ => D_same (w := (wX7 cI cZ a0 u0)) rfl hD
  refine Wq (fun Q hQ => ?_)
  refine W_entry hav (Nat.le_of_ble_eq_true rfl) (fun ls hl => ?_)
  have hl : lv_has ls 4 [(0, .ref (a0 0)), (1, .int p1)] := hl
  unfold f_X7_flushes at hf
  refine W_heap hP hS (fun H locs hP hS => ?_)
  refine lv_iload_n hx hb dX7_flushes_0 rfl (lv_at hl 1 rfl) ?_
  refine lv_bipush (v := 16) hx hb dX7_flushes_1 (by decide) ?_
  refine lv_idiv hx hb dX7_flushes_3 (by decide) ?_
  refine lv_istore_n (lv' := [(2, .int (p1 / 16)), (0, .ref (a0 0)), (1, .int p1)]) hx hb dX7_flushes_4 rfl hl (by decide) rfl (fun ls hl => ?_)
  refine lv_aload_n hx hb dX7_flushes_5 rfl (lv_at hl 1 rfl) ?_
  refine lv_iload_n hx hb dX7_flushes_6 rfl (lv_at hl 0 rfl) ?_
  refine lv_iload_n hx hb dX7_flushes_7 rfl (lv_at hl 2 rfl) ?_
  refine lv_bipush (v := 16) hx hb dX7_flushes_8 (by decide) ?_
  refine lv_irem hx hb dX7_flushes_10 (by decide) ?_
  obtain ⟨z_1, hz_1, hf⟩ := bn_some hf
  refine cRV (As := [.int (p1 / 16), .int (p1 - p1 / 16 * 16)]) (rest := []) ⟨hx, hb, hml, hown, hts⟩ (c_X7_blockOf l D cI cZ cJ cT a0 u0 (p1 / 16) (p1 - p1 / 16 * 16) z_1 hz_1) (cwV 2 hts gX7_flushes_X7_blockOf rfl rfl rfl (by decide +kernel) ⟨Nat.le_of_ble_eq_true rfl, Nat.le_of_ble_eq_true rfl⟩) hP hK (va_recv hK hP (ci := 7) (q0 := 0) rfl rfl) rfl rfl hl.1 (Nat.le_of_ble_eq_true rfl) dX7_flushes_11 ⟨Nat.le_of_ble_eq_true rfl, Nat.le_of_ble_eq_true rfl⟩ ?_
  refine lv_istore_n (lv' := [(3, .int z_1), (2, .int (p1 / 16)), (0, .ref (a0 0)), (1, .int p1)]) hx hb dX7_flushes_14 rfl hl (by decide) rfl (fun ls hl => ?_)
  refine lv_aload_n hx hb dX7_flushes_15 rfl (lv_at hl 2 rfl) ?_
  refine va_get (D := D) (ci := 7) (v := .ref (a0 5)) (C := RX7) (T := TX7) (N := 19) hx hb hts i7 hown hK hP 0 rfl rfl 4 (by decide) hk23 (fun _ h9 => h9) rfl dX7_flushes_16 ?_
  refine lv_iload_n hx hb dX7_flushes_19 rfl (lv_at hl 3 rfl) ?_
  refine lv_iconst (v := 0) hx hb dX7_flushes_20 (by decide) ?_
  obtain ⟨hi, hf⟩ := chk_some hf
  obtain ⟨u_2, hu_2, hf⟩ := bv_some hf
  refine va_zast hx hb hK hP (hDD u0) hS 5 1 rfl rfl (inb_in hi) dX7_flushes_21 (fun H locs hP _ hS => ?_)
  have hP : va_P D cls (wX7 cI cZ a0 u_2) H := by rw [hu_2]; exact hP
  refine lv_aload_n hx hb dX7_flushes_22 rfl (lv_at hl 2 rfl) ?_
  refine va_get (D := D) (ci := 7) (v := .ref (a0 4)) (C := RX7) (T := TX7) (N := 19) hx hb hts i7 hown hK hP 0 rfl rfl 3 (by decide) hk20 (fun _ h9 => h9) rfl dX7_flushes_23 ?_
  refine lv_iload_n hx hb dX7_flushes_26 rfl (lv_at hl 0 rfl) ?_
  obtain ⟨hi, hf⟩ := chk_some hf
  refine va_zald hx hb hK hP 4 1 rfl rfl (inb_in hi) dX7_flushes_27 ?_
  obtain ⟨k53_3, hk53_3, hf⟩ := jn_some hf
  have j53_3 : ∀ (u53_3_0 : S1) (H : Heap) (locs : List Loc) (ls : Array Slot), k53_3 u53_3_0 = some o → va_P D cls (wX7 cI cZ a0 u53_3_0) H → va_S A s.heap H locs → lv_has ls 4 [] → W p l e (headSpec wsX7_flushes rmX7_flushes).room s m args below meth c H locs 0 0 Q (F0 m 53 ls []) := by
    intro u53_3_0 H locs ls hf hP hS hl
    have hf := qa1 hk53_3 hf
    have eo := Option.some.inj hf
    have hP : va_P D cls (wX7 cI cZ a0 o) H := by rw [← eo]; exact hP
    rw [hQ]
    exact W.vret hx hb hr (fun t ht hW => ⟨⟨(), rfl, trivial, P_at ht hP⟩, hS.F ht⟩) hS.2.2 dX7_flushes_53 hlocks
  refine lv_if_eq (tgt := 41) hx hb dX7_flushes_28 (by decide) (fun c_4 => ?_) (fun c_4 => ?_)
  · have hf := ite_t hf c_4
    refine lv_aload_n hx hb dX7_flushes_41 rfl (lv_at hl 2 rfl) ?_
    refine va_get (D := D) (ci := 7) (v := .ref (a0 3)) (C := RX7) (T := TX7) (N := 19) hx hb hts i7 hown hK hP 0 rfl rfl 2 (by decide) hk17 (fun _ h9 => h9) rfl dX7_flushes_42 ?_
    refine lv_iload_n hx hb dX7_flushes_45 rfl (lv_at hl 0 rfl) ?_
    refine lv_aload_n hx hb dX7_flushes_46 rfl (lv_at hl 2 rfl) ?_
    refine va_get (D := D) (ci := 7) (v := .ref (a0 6)) (C := RX7) (T := TX7) (N := 19) hx hb hts i7 hown hK hP 0 rfl rfl 5 (by decide) hk26 (fun _ h9 => h9) rfl dX7_flushes_47 ?_
    refine lv_iload_n hx hb dX7_flushes_50 rfl (lv_at hl 3 rfl) ?_
    obtain ⟨hi, hf⟩ := chk_some hf
    refine va_iald hx hb hK hP 6 0 rfl rfl (inb_in hi) dX7_flushes_51 ?_
    obtain ⟨hi, hf⟩ := chk_some hf
    obtain ⟨u_5, hu_5, hf⟩ := bv_some hf
    refine va_iast hx hb hK hP (hDD u_2) hS 3 0 rfl rfl (inb_in hi) dX7_flushes_52 (fun H locs hP _ hS => ?_)
    have hP : va_P D cls (wX7 cI cZ a0 u_5) H := by rw [hu_5]; exact hP
    exact j53_3 _ _ _ _ hf hP hS (lv_sub hl [] rfl)
  · have hf := ite_f hf c_4
    refine lv_aload_n hx hb dX7_flushes_31 rfl (lv_at hl 2 rfl) ?_
    refine va_get (D := D) (ci := 7) (v := .ref (a0 7)) (C := RX7) (T := TX7) (N := 19) hx hb hts i7 hown hK hP 0 rfl rfl 6 (by decide) hk29 (fun _ h9 => h9) rfl dX7_flushes_32 ?_
    refine lv_iload_n hx hb dX7_flushes_35 rfl (lv_at hl 1 rfl) ?_
    refine lv_iconst (v := 1) hx hb dX7_flushes_36 (by decide) ?_
    obtain ⟨hi, hf⟩ := chk_some hf
    obtain ⟨u_6, hu_6, hf⟩ := bv_some hf
    refine va_zast hx hb hK hP (hDD u_2) hS 7 1 rfl rfl (inb_in hi) dX7_flushes_37 (fun H locs hP _ hS => ?_)
    have hP : va_P D cls (wX7 cI cZ a0 u_6) H := by rw [hu_6]; exact hP
    refine lv_goto (tgt := 53) hx hb dX7_flushes_38 (by decide) ?_
    exact j53_3 _ _ _ _ hf hP hS (lv_sub hl [] rfl)
set_option maxRecDepth 20000 in
theorem ggX7_flushesAll_X7_flushes : GoodIn wsX7_flushesAll wsX7_flushes := goodIn_r _ [6, 1, 7, 8, 9, 10, 11, 12, 13, 5, 14, 15, 16, 17, 18, 19, 20, 21, 22, 23, 24, 25, 26, 27, 28, 29, 30, 31, 32, 33, 34, 35, 36, 37] (by decide +kernel) (by decide +kernel)
set_option maxRecDepth 20000 in
theorem gX7_flushesAll_X7_flushes : GoodIn wsX7_flushesAll (wsV RX7 216 RX7 yX7_flushes wsX7_flushes) := goodIn_app (goodIn_of _ (by decide +kernel)) ggX7_flushesAll_X7_flushes
theorem dX7_flushesAll_0 : decode cX7_flushesAll 0 = .ok (.iconst 0, 1) := by decide +kernel
theorem dX7_flushesAll_1 : decode cX7_flushesAll 1 = .ok (.istore 4, 2) := by decide +kernel
theorem dX7_flushesAll_3 : decode cX7_flushesAll 3 = .ok (.iload_n 1, 1) := by decide +kernel
theorem dX7_flushesAll_4 : decode cX7_flushesAll 4 = .ok (.istore 5, 2) := by decide +kernel
theorem dX7_flushesAll_6 : decode cX7_flushesAll 6 = .ok (.iload 5, 2) := by decide +kernel
theorem dX7_flushesAll_8 : decode cX7_flushesAll 8 = .ok (.iload_n 2, 1) := by decide +kernel
theorem dX7_flushesAll_9 : decode cX7_flushesAll 9 = .ok (.if_icmp .ge 34, 3) := by decide +kernel
theorem dX7_flushesAll_12 : decode cX7_flushesAll 12 = .ok (.iload 4, 2) := by decide +kernel
theorem dX7_flushesAll_14 : decode cX7_flushesAll 14 = .ok (.iload_n 3, 1) := by decide +kernel
theorem dX7_flushesAll_15 : decode cX7_flushesAll 15 = .ok (.if_icmp .ge 28, 3) := by decide +kernel
theorem dX7_flushesAll_18 : decode cX7_flushesAll 18 = .ok (.aload_n 0, 1) := by decide +kernel
theorem dX7_flushesAll_19 : decode cX7_flushesAll 19 = .ok (.getfield 23, 3) := by decide +kernel
theorem dX7_flushesAll_22 : decode cX7_flushesAll 22 = .ok (.iload 5, 2) := by decide +kernel
theorem dX7_flushesAll_24 : decode cX7_flushesAll 24 = .ok (.baload, 1) := by decide +kernel
theorem dX7_flushesAll_25 : decode cX7_flushesAll 25 = .ok (.ifCond .eq 12, 3) := by decide +kernel
theorem dX7_flushesAll_28 : decode cX7_flushesAll 28 = .ok (.aload_n 0, 1) := by decide +kernel
theorem dX7_flushesAll_29 : decode cX7_flushesAll 29 = .ok (.iload 5, 2) := by decide +kernel
theorem dX7_flushesAll_31 : decode cX7_flushesAll 31 = .ok (.invokevirtual 216, 3) := by decide +kernel
theorem dX7_flushesAll_34 : decode cX7_flushesAll 34 = .ok (.iinc 4 1, 3) := by decide +kernel
theorem dX7_flushesAll_37 : decode cX7_flushesAll 37 = .ok (.iinc 5 1, 3) := by decide +kernel
theorem dX7_flushesAll_40 : decode cX7_flushesAll 40 = .ok (.goto (-34), 3) := by decide +kernel
theorem dX7_flushesAll_43 : decode cX7_flushesAll 43 = .ok (.iload 4, 2) := by decide +kernel
theorem dX7_flushesAll_45 : decode cX7_flushesAll 45 = .ok (.ireturn, 1) := by decide +kernel
def f_X7_flushesAll (u0 : S1) (p1 : Int32) (p2 : Int32) (p3 : Int32) : Option (Int32 × S1) := qj3 (fun (r6_1 : Int32 → Int32 → S1 → Option (Int32 × S1)) (y6_1_4 : Int32) (y6_1_5 : Int32) (u6_1_0 : S1) => jn (some (y6_1_4, u6_1_0)) (fun k43_2 => if p2 ≤ y6_1_5 then k43_2 else if p3 ≤ y6_1_4 then k43_2 else chk (inb y6_1_5 512) (jn (fun (y37_5_4 : Int32) (u37_5_0 : S1) => r6_1 y37_5_4 (y6_1_5 + 1) u37_5_0) (fun k37_5 => if (u6_1_0 4 (y6_1_5).toNatClampNeg) = 0 then k37_5 y6_1_4 u6_1_0 else bn (f_X7_flushes u6_1_0 y6_1_5) (fun z_7 => k37_5 (y6_1_4 + 1) z_7))))) (fun k6_1 => k6_1 0 p1 u0)
def rmX7_flushesAll : Room := { frames := 3, cells := 0, slots := 0, locals := 66 }
set_option maxHeartbeats 4000000 in
set_option maxRecDepth 100000 in
theorem c_X7_flushesAll (l : Launch) (D : va_G) (cI cZ cJ cT : ClassId) (a0 : Nat → Nat) (sz : Nat) (u0 : S1) (p1 : Int32) (p2 : Int32) (p3 : Int32) (o : Int32 × S1) (hf : f_X7_flushesAll u0 p1 p2 p3 = some o) : Met l yX7_flushesAll wsX7_flushesAll rmX7_flushesAll (va_Pc [.ref (a0 0), .int p1, .int p2, .int p3] (PW D cls (tys cI cZ cJ cT) ((wX7 cI cZ a0 u0)) sz)) (QWi D cls o.1 ((wX7 cI cZ a0 o.2)) (va_A ((wX7 cI cZ a0 u0)) sz)) 0 0 (va_A ((wX7 cI cZ a0 u0)) sz) := by
  refine Met.ofW (cc := cX7_flushesAll) (maxL := 6) (ret := (some .int)) (by decide) rfl ?_
  intro p e s m args below meth c s₁ B hml hv
  obtain ⟨hav, hsz, hP, hK, hD0⟩ := hv
  have hx := B.exec
  have hb := B.bytes
  have hr := B.returns
  have hlocks := B.notSynchronized
  have hts := atoms_spec (ws := wsX7_flushesAll) B.pre
  have hown : s.vm.findClass RX7 = some m.cls := findClass_of_methodNamed B.named
  have i7 : ∀ w ∈ wsX70, w ∈ wsX7_flushesAll := fun w h => List.mem_cons_of_mem _ (List.mem_append_right _ h)
  have hk23 := hts (.fieldLink RX7 23 "InoderyModel" "isDirty" "[Z") (by decide +kernel)
  subst hsz
  have hD := hD0.self (sz := s.heap.size)
  generalize hAe : va_A ((wX7 cI cZ a0 u0)) s.heap.size = A at hD ⊢
  have hA : ∀ q : Nat, s.heap.size ≤ q → A q := fun q h => by rw [← hAe]; exact Or.inr h
  have hS : va_S A s.heap s.heap [] := va_S.rf
  have hDD : ∀ w0 : S1, va_D A ((wX7 cI cZ a0 w0)) := fun _ => D_same (w := (wX7 cI cZ a0 u0)) rfl hD
  refine Wq (fun Q hQ => ?_)
  refine W_entry hav (Nat.le_of_ble_eq_true rfl) (fun ls hl => ?_)
  have hl : lv_has ls 6 [(0, .ref (a0 0)), (1, .int p1), (2, .int p2), (3, .int p3)] := hl
  unfold f_X7_flushesAll at hf
  refine W_heap hP hS (fun H locs hP hS => ?_)
  refine lv_iconst (v := 0) hx hb dX7_flushesAll_0 (by decide) ?_
  refine lv_istore (lv' := [(4, .int 0), (0, .ref (a0 0)), (1, .int p1), (2, .int p2), (3, .int p3)]) hx hb dX7_flushesAll_1 hl (by decide) rfl (fun ls hl => ?_)
  refine lv_iload_n hx hb dX7_flushesAll_3 rfl (lv_at hl 2 rfl) ?_
  refine lv_istore (lv' := [(5, .int p1), (4, .int 0), (0, .ref (a0 0)), (1, .int p1), (2, .int p2), (3, .int p3)]) hx hb dX7_flushesAll_4 hl (by decide) rfl (fun ls hl => ?_)
  obtain ⟨G6_1, hG6_1, hf⟩ := qj3_some hf
  have j6_1 : ∀ (n : Nat) (y6_1_4 : Int32) (y6_1_5 : Int32) (u6_1_0 : S1) (H : Heap) (locs : List Loc) (ls : Array Slot), ql3 G6_1 n y6_1_4 y6_1_5 u6_1_0 = some o → va_P D cls (wX7 cI cZ a0 u6_1_0) H → va_S A s.heap H locs → lv_has ls 6 [(0, .ref (a0 0)), (2, .int p2), (3, .int p3), (4, .int y6_1_4), (5, .int y6_1_5)] → W p l e (headSpec wsX7_flushesAll rmX7_flushesAll).room s m args below meth c H locs 0 0 Q (F0 m 6 ls []) := by
    intro n
    induction n with
    | zero => intro y6_1_4 y6_1_5 u6_1_0 H locs ls hf hP hS hl; exact (ql3_z hf).elim
    | succ n ih6_1 =>
      intro y6_1_4 y6_1_5 u6_1_0 H locs ls hf hP hS hl
      have hf := ql3_s hG6_1 hf
      obtain ⟨r6_1, hr6_1⟩ : ∃ z, z = ql3 G6_1 n := ⟨_, rfl⟩
      rw [← hr6_1] at hf ih6_1
      refine lv_iload hx hb dX7_flushesAll_6 (lv_at hl 4 rfl) ?_
      refine lv_iload_n hx hb dX7_flushesAll_8 rfl (lv_at hl 1 rfl) ?_
      obtain ⟨k43_2, hk43_2, hf⟩ := jn_some hf
      have j43_2 : ∀ (H : Heap) (locs : List Loc) (ls : Array Slot), k43_2 = some o → va_P D cls (wX7 cI cZ a0 u6_1_0) H → va_S A s.heap H locs → lv_has ls 6 [(4, .int y6_1_4)] → W p l e (headSpec wsX7_flushesAll rmX7_flushesAll).room s m args below meth c H locs 0 0 Q (F0 m 43 ls []) := by
        intro H locs ls hf hP hS hl
        have hf := qa0 hk43_2 hf
        refine lv_iload hx hb dX7_flushesAll_43 (lv_at hl 0 rfl) ?_
        have eo := Option.some.inj hf
        have hP : va_P D cls (wX7 cI cZ a0 o.2) H := by rw [← eo]; exact hP
        rw [hQ]
        exact W.iret hx hb hr (fun t ht hW => ⟨⟨_, (), rfl, congrArg Prod.fst eo, P_at ht hP⟩, hS.F ht⟩) hS.2.2 dX7_flushesAll_45 hlocks
      refine lv_icmp_ge (tgt := 43) hx hb dX7_flushesAll_9 (by decide) (fun c_3 => ?_) (fun c_3 => ?_)
      · have hf := ite_t hf c_3
        exact j43_2 _ _ _ hf hP hS (lv_sub hl [3] rfl)
      · have hf := ite_f hf c_3
        refine lv_iload hx hb dX7_flushesAll_12 (lv_at hl 3 rfl) ?_
        refine lv_iload_n hx hb dX7_flushesAll_14 rfl (lv_at hl 2 rfl) ?_
        refine lv_icmp_ge (tgt := 43) hx hb dX7_flushesAll_15 (by decide) (fun c_4 => ?_) (fun c_4 => ?_)
        · have hf := ite_t hf c_4
          exact j43_2 _ _ _ hf hP hS (lv_sub hl [3] rfl)
        · have hf := ite_f hf c_4
          refine lv_aload_n hx hb dX7_flushesAll_18 rfl (lv_at hl 0 rfl) ?_
          refine va_get (D := D) (ci := 7) (v := .ref (a0 5)) (C := RX7) (T := TX7) (N := 19) hx hb hts i7 hown hK hP 0 rfl rfl 4 (by decide) hk23 (fun _ h9 => h9) rfl dX7_flushesAll_19 ?_
          refine lv_iload hx hb dX7_flushesAll_22 (lv_at hl 4 rfl) ?_
          obtain ⟨hi, hf⟩ := chk_some hf
          refine va_zald hx hb hK hP 5 1 rfl rfl (inb_in hi) dX7_flushesAll_24 ?_
          obtain ⟨k37_5, hk37_5, hf⟩ := jn_some hf
          have j37_5 : ∀ (y37_5_4 : Int32) (u37_5_0 : S1) (H : Heap) (locs : List Loc) (ls : Array Slot), k37_5 y37_5_4 u37_5_0 = some o → va_P D cls (wX7 cI cZ a0 u37_5_0) H → va_S A s.heap H locs → lv_has ls 6 [(0, .ref (a0 0)), (2, .int p2), (3, .int p3), (4, .int y37_5_4), (5, .int y6_1_5)] → W p l e (headSpec wsX7_flushesAll rmX7_flushesAll).room s m args below meth c H locs 0 0 Q (F0 m 37 ls []) := by
            intro y37_5_4 u37_5_0 H locs ls hf hP hS hl
            have hf := qa2 hk37_5 hf
            refine lv_iinc (v := y6_1_5 + 1) (lv' := [(5, .int (y6_1_5 + 1)), (0, .ref (a0 0)), (2, .int p2), (3, .int p3), (4, .int y37_5_4)]) hx hb dX7_flushesAll_37 hl (k := 4) rfl rfl (by decide) rfl (fun ls hl => ?_)
            refine lv_goto (tgt := 6) hx hb dX7_flushesAll_40 (by decide) ?_
            exact ih6_1 _ _ _ _ _ _ hf hP hS (lv_sub hl [1, 2, 3, 4, 0] rfl)
          refine lv_if_eq (tgt := 37) hx hb dX7_flushesAll_25 (by decide) (fun c_6 => ?_) (fun c_6 => ?_)
          · have hf := ite_t hf c_6
            exact j37_5 _ _ _ _ _ hf hP hS (lv_sub hl [0, 1, 2, 3, 4] rfl)
          · have hf := ite_f hf c_6
            refine lv_aload_n hx hb dX7_flushesAll_28 rfl (lv_at hl 0 rfl) ?_
            refine lv_iload hx hb dX7_flushesAll_29 (lv_at hl 4 rfl) ?_
            obtain ⟨z_7, hz_7, hf⟩ := bn_some hf
            refine cWVv (As := [.int y6_1_5]) (rest := []) ⟨hx, hb, hml, hown, hts⟩ (c_X7_flushes l D cI cZ cJ cT a0 H.size u6_1_0 y6_1_5 z_7 hz_7) (cwV 1 hts gX7_flushesAll_X7_flushes rfl rfl rfl (by decide +kernel) ⟨Nat.le_of_ble_eq_true rfl, Nat.le_of_ble_eq_true rfl⟩) hP hK (hDD u6_1_0) hS (own_free (hDD u6_1_0) hS hA) (va_recv hK hP (ci := 7) (q0 := 0) rfl rfl) rfl rfl hl.1 (Nat.le_of_ble_eq_true rfl) dX7_flushesAll_31 ⟨Nat.le_of_ble_eq_true rfl, Nat.le_of_ble_eq_true rfl⟩ (fun H1 locs hP1 hk1 hS => ?_)
            have hP : va_P D cls (wX7 cI cZ a0 z_7) H1 := hP1
            clear hP1 hk1
            generalize H1 = H at hP hS ⊢
            refine lv_iinc (v := y6_1_4 + 1) (lv' := [(4, .int (y6_1_4 + 1)), (0, .ref (a0 0)), (2, .int p2), (3, .int p3), (5, .int y6_1_5)]) hx hb dX7_flushesAll_34 hl (k := 3) rfl rfl (by decide) rfl (fun ls hl => ?_)
            exact j37_5 _ _ _ _ _ hf hP hS (lv_sub hl [1, 2, 3, 0, 4] rfl)
  exact j6_1 4096 _ _ _ _ _ _ hf hP hS (lv_sub hl [2, 4, 5, 1, 0] rfl)
set_option maxRecDepth 20000 in
theorem ggX7_flush_X7_can : GoodIn wsX7_flush wsX7_can := goodIn_r _ [8, 9, 31, 32, 33, 34, 35, 36, 37, 38, 39, 40, 41, 42, 43, 44, 45, 46, 47, 48, 49] (by decide +kernel) (by decide +kernel)
set_option maxRecDepth 20000 in
theorem gX7_flush_X7_can : GoodIn wsX7_flush (wsV RX7 140 RX7 yX7_can wsX7_can) := goodIn_app (goodIn_of _ (by decide +kernel)) ggX7_flush_X7_can
set_option maxRecDepth 20000 in
theorem ggX7_flush_X7_flushesAll : GoodIn wsX7_flush wsX7_flushesAll := goodIn_r _ [13, 14, 15, 16, 17, 3, 18, 19, 20, 21, 22, 23, 24, 25, 26, 27, 28, 29, 30, 31, 32, 33, 34, 35, 36, 37, 38, 39, 40, 41, 42, 43, 44, 45, 46, 47, 48, 49] (by decide +kernel) (by decide +kernel)
set_option maxRecDepth 20000 in
theorem gX7_flush_X7_flushesAll : GoodIn wsX7_flush (wsV RX7 219 RX7 yX7_flushesAll wsX7_flushesAll) := goodIn_app (goodIn_of _ (by decide +kernel)) ggX7_flush_X7_flushesAll
set_option maxRecDepth 20000 in
theorem ggX7_flush_X7_isIn : GoodIn wsX7_flush wsX7_isIn := goodIn_r _ [4] (by decide +kernel) (by decide +kernel)
set_option maxRecDepth 20000 in
theorem gX7_flush_X7_isIn : GoodIn wsX7_flush (va_wsS RX7 62 yX7_isIn wsX7_isIn) := goodIn_app (goodIn_of _ (by decide +kernel)) ggX7_flush_X7_isIn
theorem dX7_flush_0 : decode cX7_flush 0 = .ok (.aload_n 0, 1) := by decide +kernel
theorem dX7_flush_1 : decode cX7_flush 1 = .ok (.iload_n 1, 1) := by decide +kernel
theorem dX7_flush_2 : decode cX7_flush 2 = .ok (.iconst 1, 1) := by decide +kernel
theorem dX7_flush_3 : decode cX7_flush 3 = .ok (.sipush 512, 3) := by decide +kernel
theorem dX7_flush_6 : decode cX7_flush 6 = .ok (.invokestatic 62, 3) := by decide +kernel
theorem dX7_flush_9 : decode cX7_flush 9 = .ok (.ifCond .eq 7, 3) := by decide +kernel
theorem dX7_flush_12 : decode cX7_flush 12 = .ok (.iconst 0, 1) := by decide +kernel
theorem dX7_flush_13 : decode cX7_flush 13 = .ok (.goto 4, 3) := by decide +kernel
theorem dX7_flush_16 : decode cX7_flush 16 = .ok (.iconst 1, 1) := by decide +kernel
theorem dX7_flush_17 : decode cX7_flush 17 = .ok (.invokevirtual 140, 3) := by decide +kernel
theorem dX7_flush_20 : decode cX7_flush 20 = .ok (.ifCond .eq 15, 3) := by decide +kernel
theorem dX7_flush_23 : decode cX7_flush 23 = .ok (.aload_n 0, 1) := by decide +kernel
theorem dX7_flush_24 : decode cX7_flush 24 = .ok (.iconst 0, 1) := by decide +kernel
theorem dX7_flush_25 : decode cX7_flush 25 = .ok (.sipush 512, 3) := by decide +kernel
theorem dX7_flush_28 : decode cX7_flush 28 = .ok (.iload_n 1, 1) := by decide +kernel
theorem dX7_flush_29 : decode cX7_flush 29 = .ok (.invokevirtual 219, 3) := by decide +kernel
theorem dX7_flush_32 : decode cX7_flush 32 = .ok (.goto 4, 3) := by decide +kernel
theorem dX7_flush_35 : decode cX7_flush 35 = .ok (.iconst 0, 1) := by decide +kernel
theorem dX7_flush_36 : decode cX7_flush 36 = .ok (.ireturn, 1) := by decide +kernel
def f_X7_flush (u0 : S1) (p1 : Int32) : Option (Int32 × S1) := bn (f_X7_isIn p1 1 512) (fun z_1 => jn (fun (v17_2_0 : Int32) => bn (f_X7_can u0 v17_2_0) (fun z_3 => jn (fun (v36_4_0 : Int32) (u36_4_0 : S1) => some (v36_4_0, u36_4_0)) (fun k36_4 => if z_3.1 = 0 then k36_4 0 z_3.2 else bn (f_X7_flushesAll z_3.2 0 512 p1) (fun z_6 => k36_4 z_6.1 z_6.2)))) (fun k17_2 => if z_1 = 0 then k17_2 1 else k17_2 0))
def rmX7_flush : Room := { frames := 4, cells := 0, slots := 0, locals := 91 }
set_option maxHeartbeats 4000000 in
set_option maxRecDepth 100000 in
theorem c_X7_flush (l : Launch) (D : va_G) (cI cZ cJ cT : ClassId) (a0 : Nat → Nat) (sz : Nat) (u0 : S1) (p1 : Int32) (o : Int32 × S1) (hf : f_X7_flush u0 p1 = some o) : Met l yX7_flush wsX7_flush rmX7_flush (va_Pc [.ref (a0 0), .int p1] (PW D cls (tys cI cZ cJ cT) ((wX7 cI cZ a0 u0)) sz)) (QWi D cls o.1 ((wX7 cI cZ a0 o.2)) (va_A ((wX7 cI cZ a0 u0)) sz)) 0 0 (va_A ((wX7 cI cZ a0 u0)) sz) := by
  refine Met.ofW (cc := cX7_flush) (maxL := 2) (ret := (some .int)) (by decide) rfl ?_
  intro p e s m args below meth c s₁ B hml hv
  obtain ⟨hav, hsz, hP, hK, hD0⟩ := hv
  have hx := B.exec
  have hb := B.bytes
  have hr := B.returns
  have hlocks := B.notSynchronized
  have hts := atoms_spec (ws := wsX7_flush) B.pre
  have hown : s.vm.findClass RX7 = some m.cls := findClass_of_methodNamed B.named
  subst hsz
  have hD := hD0.self (sz := s.heap.size)
  generalize hAe : va_A ((wX7 cI cZ a0 u0)) s.heap.size = A at hD ⊢
  have hA : ∀ q : Nat, s.heap.size ≤ q → A q := fun q h => by rw [← hAe]; exact Or.inr h
  have hS : va_S A s.heap s.heap [] := va_S.rf
  have hDD : ∀ w0 : S1, va_D A ((wX7 cI cZ a0 w0)) := fun _ => D_same (w := (wX7 cI cZ a0 u0)) rfl hD
  refine Wq (fun Q hQ => ?_)
  refine W_entry hav (Nat.le_of_ble_eq_true rfl) (fun ls hl => ?_)
  have hl : lv_has ls 2 [(0, .ref (a0 0)), (1, .int p1)] := hl
  unfold f_X7_flush at hf
  refine W_heap hP hS (fun H locs hP hS => ?_)
  refine lv_aload_n hx hb dX7_flush_0 rfl (lv_at hl 0 rfl) ?_
  refine lv_iload_n hx hb dX7_flush_1 rfl (lv_at hl 1 rfl) ?_
  refine lv_iconst (v := 1) hx hb dX7_flush_2 (by decide) ?_
  refine lv_sipush (v := 512) hx hb dX7_flush_3 (by decide) ?_
  obtain ⟨z_1, hz_1, hf⟩ := bn_some hf
  refine c0S (As := [.int p1, .int 1, .int 512]) (rest := [.ref (a0 0)]) ⟨hx, hb, hml, hown, hts⟩ (c_X7_isIn l D cI cZ cJ cT p1 1 512 z_1 hz_1) (va_cwS 3 hts gX7_flush_X7_isIn rfl rfl rfl (by decide +kernel) ⟨Nat.le_of_ble_eq_true rfl, Nat.le_of_ble_eq_true rfl⟩) rfl rfl hl.1 (Nat.le_of_ble_eq_true rfl) dX7_flush_6 ⟨Nat.le_of_ble_eq_true rfl, Nat.le_of_ble_eq_true rfl⟩ ?_
  obtain ⟨k17_2, hk17_2, hf⟩ := jn_some hf
  have j17_2 : ∀ (v17_2_0 : Int32) (H : Heap) (locs : List Loc) (ls : Array Slot), k17_2 v17_2_0 = some o → va_P D cls (wX7 cI cZ a0 u0) H → va_S A s.heap H locs → lv_has ls 2 [(0, .ref (a0 0)), (1, .int p1)] → W p l e (headSpec wsX7_flush rmX7_flush).room s m args below meth c H locs 0 0 Q (F0 m 17 ls [.int v17_2_0, .ref (a0 0)]) := by
    intro v17_2_0 H locs ls hf hP hS hl
    have hf := qa1 hk17_2 hf
    obtain ⟨z_3, hz_3, hf⟩ := bn_some hf
    refine cWVi (As := [.int v17_2_0]) (rest := []) ⟨hx, hb, hml, hown, hts⟩ (c_X7_can l D cI cZ cJ cT a0 H.size u0 v17_2_0 z_3 hz_3) (cwV 1 hts gX7_flush_X7_can rfl rfl rfl (by decide +kernel) ⟨Nat.le_of_ble_eq_true rfl, Nat.le_of_ble_eq_true rfl⟩) hP hK (hDD u0) hS (own_free (hDD u0) hS hA) (va_recv hK hP (ci := 7) (q0 := 0) rfl rfl) rfl rfl hl.1 (Nat.le_of_ble_eq_true rfl) dX7_flush_17 ⟨Nat.le_of_ble_eq_true rfl, Nat.le_of_ble_eq_true rfl⟩ (fun H1 locs hP1 hk1 hS => ?_)
    have hP : va_P D cls (wX7 cI cZ a0 z_3.2) H1 := hP1
    clear hP1 hk1
    generalize H1 = H at hP hS ⊢
    obtain ⟨k36_4, hk36_4, hf⟩ := jn_some hf
    have j36_4 : ∀ (v36_4_0 : Int32) (u36_4_0 : S1) (H : Heap) (locs : List Loc) (ls : Array Slot), k36_4 v36_4_0 u36_4_0 = some o → va_P D cls (wX7 cI cZ a0 u36_4_0) H → va_S A s.heap H locs → lv_has ls 2 [] → W p l e (headSpec wsX7_flush rmX7_flush).room s m args below meth c H locs 0 0 Q (F0 m 36 ls [.int v36_4_0]) := by
      intro v36_4_0 u36_4_0 H locs ls hf hP hS hl
      have hf := qa2 hk36_4 hf
      have eo := Option.some.inj hf
      have hP : va_P D cls (wX7 cI cZ a0 o.2) H := by rw [← eo]; exact hP
      rw [hQ]
      exact W.iret hx hb hr (fun t ht hW => ⟨⟨_, (), rfl, congrArg Prod.fst eo, P_at ht hP⟩, hS.F ht⟩) hS.2.2 dX7_flush_36 hlocks
    refine lv_if_eq (tgt := 35) hx hb dX7_flush_20 (by decide) (fun c_5 => ?_) (fun c_5 => ?_)
    · have hf := ite_t hf c_5
      refine lv_iconst (v := 0) hx hb dX7_flush_35 (by decide) ?_
      exact j36_4 _ _ _ _ _ hf hP hS (lv_sub hl [] rfl)
    · have hf := ite_f hf c_5
      refine lv_aload_n hx hb dX7_flush_23 rfl (lv_at hl 0 rfl) ?_
      refine lv_iconst (v := 0) hx hb dX7_flush_24 (by decide) ?_
      refine lv_sipush (v := 512) hx hb dX7_flush_25 (by decide) ?_
      refine lv_iload_n hx hb dX7_flush_28 rfl (lv_at hl 1 rfl) ?_
      obtain ⟨z_6, hz_6, hf⟩ := bn_some hf
      refine cWVi (As := [.int 0, .int 512, .int p1]) (rest := []) ⟨hx, hb, hml, hown, hts⟩ (c_X7_flushesAll l D cI cZ cJ cT a0 H.size z_3.2 0 512 p1 z_6 hz_6) (cwV 3 hts gX7_flush_X7_flushesAll rfl rfl rfl (by decide +kernel) ⟨Nat.le_of_ble_eq_true rfl, Nat.le_of_ble_eq_true rfl⟩) hP hK (hDD z_3.2) hS (own_free (hDD z_3.2) hS hA) (va_recv hK hP (ci := 7) (q0 := 0) rfl rfl) rfl rfl hl.1 (Nat.le_of_ble_eq_true rfl) dX7_flush_29 ⟨Nat.le_of_ble_eq_true rfl, Nat.le_of_ble_eq_true rfl⟩ (fun H1 locs hP1 hk1 hS => ?_)
      have hP : va_P D cls (wX7 cI cZ a0 z_6.2) H1 := hP1
      clear hP1 hk1
      generalize H1 = H at hP hS ⊢
      refine lv_goto (tgt := 36) hx hb dX7_flush_32 (by decide) ?_
      exact j36_4 _ _ _ _ _ hf hP hS (lv_sub hl [] rfl)
  refine lv_if_eq (tgt := 16) hx hb dX7_flush_9 (by decide) (fun c_7 => ?_) (fun c_7 => ?_)
  · have hf := ite_t hf c_7
    refine lv_iconst (v := 1) hx hb dX7_flush_16 (by decide) ?_
    exact j17_2 _ _ _ _ hf hP hS (lv_sub hl [0, 1] rfl)
  · have hf := ite_f hf c_7
    refine lv_iconst (v := 0) hx hb dX7_flush_12 (by decide) ?_
    refine lv_goto (tgt := 17) hx hb dX7_flush_13 (by decide) ?_
    exact j17_2 _ _ _ _ hf hP hS (lv_sub hl [0, 1] rfl)
set_option maxRecDepth 20000 in
theorem ggX7_commits_X7_copies : GoodIn wsX7_commits wsX7_copies := goodIn_r _ [26, 19, 27, 28, 29, 30, 31, 32, 33, 34, 35, 36, 37, 38, 39, 40, 41, 42, 43, 44, 45] (by decide +kernel) (by decide +kernel)
set_option maxRecDepth 20000 in
theorem gX7_commits_X7_copies : GoodIn wsX7_commits (wsV RX7 54 RX7 yX7_copies wsX7_copies) := goodIn_app (goodIn_of _ (by decide +kernel)) ggX7_commits_X7_copies
set_option maxRecDepth 20000 in
theorem ggX7_commits_X7_flushesAll : GoodIn wsX7_commits wsX7_flushesAll := goodIn_r _ [5, 6, 7, 8, 9, 4, 10, 11, 12, 13, 14, 15, 16, 17, 18, 19, 20, 21, 22, 27, 28, 29, 30, 31, 32, 33, 34, 35, 36, 37, 38, 39, 40, 41, 42, 43, 44, 45] (by decide +kernel) (by decide +kernel)
set_option maxRecDepth 20000 in
theorem gX7_commits_X7_flushesAll : GoodIn wsX7_commits (wsV RX7 219 RX7 yX7_flushesAll wsX7_flushesAll) := goodIn_app (goodIn_of _ (by decide +kernel)) ggX7_commits_X7_flushesAll
theorem dX7_commits_0 : decode cX7_commits 0 = .ok (.aload_n 0, 1) := by decide +kernel
theorem dX7_commits_1 : decode cX7_commits 1 = .ok (.iconst 0, 1) := by decide +kernel
theorem dX7_commits_2 : decode cX7_commits 2 = .ok (.sipush 512, 3) := by decide +kernel
theorem dX7_commits_5 : decode cX7_commits 5 = .ok (.sipush 512, 3) := by decide +kernel
theorem dX7_commits_8 : decode cX7_commits 8 = .ok (.invokevirtual 219, 3) := by decide +kernel
theorem dX7_commits_11 : decode cX7_commits 11 = .ok (.istore_n 1, 1) := by decide +kernel
theorem dX7_commits_12 : decode cX7_commits 12 = .ok (.aload_n 0, 1) := by decide +kernel
theorem dX7_commits_13 : decode cX7_commits 13 = .ok (.iconst 0, 1) := by decide +kernel
theorem dX7_commits_14 : decode cX7_commits 14 = .ok (.iconst 1, 1) := by decide +kernel
theorem dX7_commits_15 : decode cX7_commits 15 = .ok (.invokevirtual 54, 3) := by decide +kernel
theorem dX7_commits_18 : decode cX7_commits 18 = .ok (.iload_n 1, 1) := by decide +kernel
theorem dX7_commits_19 : decode cX7_commits 19 = .ok (.ireturn, 1) := by decide +kernel
def f_X7_commits (u0 : S1) : Option (Int32 × S1) := bn (f_X7_flushesAll u0 0 512 512) (fun z_1 => bn (f_X7_copies z_1.2 0 1) (fun z_2 => some (z_1.1, z_2)))
def rmX7_commits : Room := { frames := 4, cells := 0, slots := 0, locals := 91 }
set_option maxHeartbeats 4000000 in
set_option maxRecDepth 100000 in
theorem c_X7_commits (l : Launch) (D : va_G) (cI cZ cJ cT : ClassId) (a0 : Nat → Nat) (sz : Nat) (u0 : S1) (o : Int32 × S1) (hf : f_X7_commits u0 = some o) : Met l yX7_commits wsX7_commits rmX7_commits (va_Pc [.ref (a0 0)] (PW D cls (tys cI cZ cJ cT) ((wX7 cI cZ a0 u0)) sz)) (QWi D cls o.1 ((wX7 cI cZ a0 o.2)) (va_A ((wX7 cI cZ a0 u0)) sz)) 0 0 (va_A ((wX7 cI cZ a0 u0)) sz) := by
  refine Met.ofW (cc := cX7_commits) (maxL := 2) (ret := (some .int)) (by decide) rfl ?_
  intro p e s m args below meth c s₁ B hml hv
  obtain ⟨hav, hsz, hP, hK, hD0⟩ := hv
  have hx := B.exec
  have hb := B.bytes
  have hr := B.returns
  have hlocks := B.notSynchronized
  have hts := atoms_spec (ws := wsX7_commits) B.pre
  have hown : s.vm.findClass RX7 = some m.cls := findClass_of_methodNamed B.named
  subst hsz
  have hD := hD0.self (sz := s.heap.size)
  generalize hAe : va_A ((wX7 cI cZ a0 u0)) s.heap.size = A at hD ⊢
  have hA : ∀ q : Nat, s.heap.size ≤ q → A q := fun q h => by rw [← hAe]; exact Or.inr h
  have hS : va_S A s.heap s.heap [] := va_S.rf
  have hDD : ∀ w0 : S1, va_D A ((wX7 cI cZ a0 w0)) := fun _ => D_same (w := (wX7 cI cZ a0 u0)) rfl hD
  refine Wq (fun Q hQ => ?_)
  refine W_entry hav (Nat.le_of_ble_eq_true rfl) (fun ls hl => ?_)
  have hl : lv_has ls 2 [(0, .ref (a0 0))] := hl
  unfold f_X7_commits at hf
  refine W_heap hP hS (fun H locs hP hS => ?_)
  refine lv_aload_n hx hb dX7_commits_0 rfl (lv_at hl 0 rfl) ?_
  refine lv_iconst (v := 0) hx hb dX7_commits_1 (by decide) ?_
  refine lv_sipush (v := 512) hx hb dX7_commits_2 (by decide) ?_
  refine lv_sipush (v := 512) hx hb dX7_commits_5 (by decide) ?_
  obtain ⟨z_1, hz_1, hf⟩ := bn_some hf
  refine cWVi (As := [.int 0, .int 512, .int 512]) (rest := []) ⟨hx, hb, hml, hown, hts⟩ (c_X7_flushesAll l D cI cZ cJ cT a0 H.size u0 0 512 512 z_1 hz_1) (cwV 3 hts gX7_commits_X7_flushesAll rfl rfl rfl (by decide +kernel) ⟨Nat.le_of_ble_eq_true rfl, Nat.le_of_ble_eq_true rfl⟩) hP hK (hDD u0) hS (own_free (hDD u0) hS hA) (va_recv hK hP (ci := 7) (q0 := 0) rfl rfl) rfl rfl hl.1 (Nat.le_of_ble_eq_true rfl) dX7_commits_8 ⟨Nat.le_of_ble_eq_true rfl, Nat.le_of_ble_eq_true rfl⟩ (fun H1 locs hP1 hk1 hS => ?_)
  have hP : va_P D cls (wX7 cI cZ a0 z_1.2) H1 := hP1
  clear hP1 hk1
  generalize H1 = H at hP hS ⊢
  refine lv_istore_n (lv' := [(1, .int z_1.1), (0, .ref (a0 0))]) hx hb dX7_commits_11 rfl hl (by decide) rfl (fun ls hl => ?_)
  refine lv_aload_n hx hb dX7_commits_12 rfl (lv_at hl 1 rfl) ?_
  refine lv_iconst (v := 0) hx hb dX7_commits_13 (by decide) ?_
  refine lv_iconst (v := 1) hx hb dX7_commits_14 (by decide) ?_
  obtain ⟨z_2, hz_2, hf⟩ := bn_some hf
  refine cWVv (As := [.int 0, .int 1]) (rest := []) ⟨hx, hb, hml, hown, hts⟩ (c_X7_copies l D cI cZ cJ cT a0 H.size z_1.2 0 1 z_2 hz_2) (cwV 2 hts gX7_commits_X7_copies rfl rfl rfl (by decide +kernel) ⟨Nat.le_of_ble_eq_true rfl, Nat.le_of_ble_eq_true rfl⟩) hP hK (hDD z_1.2) hS (own_free (hDD z_1.2) hS hA) (va_recv hK hP (ci := 7) (q0 := 0) rfl rfl) rfl rfl hl.1 (Nat.le_of_ble_eq_true rfl) dX7_commits_15 ⟨Nat.le_of_ble_eq_true rfl, Nat.le_of_ble_eq_true rfl⟩ (fun H1 locs hP1 hk1 hS => ?_)
  have hP : va_P D cls (wX7 cI cZ a0 z_2) H1 := hP1
  clear hP1 hk1
  generalize H1 = H at hP hS ⊢
  refine lv_iload_n hx hb dX7_commits_18 rfl (lv_at hl 0 rfl) ?_
  have eo := Option.some.inj hf
  have hP : va_P D cls (wX7 cI cZ a0 o.2) H := by rw [← eo]; exact hP
  rw [hQ]
  exact W.iret hx hb hr (fun t ht hW => ⟨⟨_, (), rfl, (by rw [← eo]), P_at ht hP⟩, hS.F ht⟩) hS.2.2 dX7_commits_19 hlocks
set_option maxRecDepth 20000 in
theorem ggX7_sync_X7_can : GoodIn wsX7_sync wsX7_can := goodIn_r _ [15, 16, 50, 51, 52, 53, 54, 55, 56, 57, 58, 59, 60, 61, 62, 63, 64, 65, 66, 67, 68] (by decide +kernel) (by decide +kernel)
set_option maxRecDepth 20000 in
theorem gX7_sync_X7_can : GoodIn wsX7_sync (wsV RX7 140 RX7 yX7_can wsX7_can) := goodIn_app (goodIn_of _ (by decide +kernel)) ggX7_sync_X7_can
set_option maxRecDepth 20000 in
theorem ggX7_sync_X7_commits : GoodIn wsX7_sync wsX7_commits := goodIn_r _ [41, 17, 18, 19, 6, 20, 21, 22, 23, 24, 25, 26, 27, 28, 29, 30, 31, 32, 33, 34, 35, 36, 37, 42, 43, 44, 45, 50, 51, 52, 53, 54, 55, 56, 57, 58, 59, 60, 61, 62, 63, 64, 65, 66, 67, 68] (by decide +kernel) (by decide +kernel)
set_option maxRecDepth 20000 in
theorem gX7_sync_X7_commits : GoodIn wsX7_sync (wsV RX7 222 RX7 yX7_commits wsX7_commits) := goodIn_app (goodIn_of _ (by decide +kernel)) ggX7_sync_X7_commits
set_option maxRecDepth 20000 in
theorem ggX7_sync_X7_flushesAll : GoodIn wsX7_sync wsX7_flushesAll := goodIn_r _ [20, 21, 22, 23, 24, 6, 25, 26, 27, 28, 29, 30, 31, 32, 33, 34, 35, 36, 37, 50, 51, 52, 53, 54, 55, 56, 57, 58, 59, 60, 61, 62, 63, 64, 65, 66, 67, 68] (by decide +kernel) (by decide +kernel)
set_option maxRecDepth 20000 in
theorem gX7_sync_X7_flushesAll : GoodIn wsX7_sync (wsV RX7 219 RX7 yX7_flushesAll wsX7_flushesAll) := goodIn_app (goodIn_of _ (by decide +kernel)) ggX7_sync_X7_flushesAll
set_option maxRecDepth 20000 in
theorem ggX7_sync_X7_isHandle : GoodIn wsX7_sync wsX7_isHandle := goodIn_r _ [7, 8, 9, 10, 6, 11, 50, 51, 52, 53, 54, 55, 56, 57, 58, 59, 60, 61, 62, 63, 64, 65, 66, 67, 68] (by decide +kernel) (by decide +kernel)
set_option maxRecDepth 20000 in
theorem gX7_sync_X7_isHandle : GoodIn wsX7_sync (wsV RX7 186 RX7 yX7_isHandle wsX7_isHandle) := goodIn_app (goodIn_of _ (by decide +kernel)) ggX7_sync_X7_isHandle
set_option maxRecDepth 20000 in
theorem ggX7_sync_X7_tells : GoodIn wsX7_sync wsX7_tells := goodIn_r _ [49, 27, 50, 51, 52, 53, 54, 55, 56, 57, 58, 59, 60, 61, 62, 63, 64, 65, 66, 67, 68] (by decide +kernel) (by decide +kernel)
set_option maxRecDepth 20000 in
theorem gX7_sync_X7_tells : GoodIn wsX7_sync (wsV RX7 189 RX7 yX7_tells wsX7_tells) := goodIn_app (goodIn_of _ (by decide +kernel)) ggX7_sync_X7_tells
theorem dX7_sync_0 : decode cX7_sync 0 = .ok (.aload_n 0, 1) := by decide +kernel
theorem dX7_sync_1 : decode cX7_sync 1 = .ok (.aload_n 0, 1) := by decide +kernel
theorem dX7_sync_2 : decode cX7_sync 2 = .ok (.iload_n 1, 1) := by decide +kernel
theorem dX7_sync_3 : decode cX7_sync 3 = .ok (.invokevirtual 186, 3) := by decide +kernel
theorem dX7_sync_6 : decode cX7_sync 6 = .ok (.ifCond .ne 7, 3) := by decide +kernel
theorem dX7_sync_9 : decode cX7_sync 9 = .ok (.iconst 1, 1) := by decide +kernel
theorem dX7_sync_10 : decode cX7_sync 10 = .ok (.goto 17, 3) := by decide +kernel
theorem dX7_sync_13 : decode cX7_sync 13 = .ok (.aload_n 0, 1) := by decide +kernel
theorem dX7_sync_14 : decode cX7_sync 14 = .ok (.getfield 41, 3) := by decide +kernel
theorem dX7_sync_17 : decode cX7_sync 17 = .ok (.iload_n 1, 1) := by decide +kernel
theorem dX7_sync_18 : decode cX7_sync 18 = .ok (.baload, 1) := by decide +kernel
theorem dX7_sync_19 : decode cX7_sync 19 = .ok (.ifCond .eq 7, 3) := by decide +kernel
theorem dX7_sync_22 : decode cX7_sync 22 = .ok (.iconst 0, 1) := by decide +kernel
theorem dX7_sync_23 : decode cX7_sync 23 = .ok (.goto 4, 3) := by decide +kernel
theorem dX7_sync_26 : decode cX7_sync 26 = .ok (.iconst 2, 1) := by decide +kernel
theorem dX7_sync_27 : decode cX7_sync 27 = .ok (.invokevirtual 140, 3) := by decide +kernel
theorem dX7_sync_30 : decode cX7_sync 30 = .ok (.ifCond .ne 5, 3) := by decide +kernel
theorem dX7_sync_33 : decode cX7_sync 33 = .ok (.iconst 0, 1) := by decide +kernel
theorem dX7_sync_34 : decode cX7_sync 34 = .ok (.ireturn, 1) := by decide +kernel
theorem dX7_sync_35 : decode cX7_sync 35 = .ok (.aload_n 0, 1) := by decide +kernel
theorem dX7_sync_36 : decode cX7_sync 36 = .ok (.getfield 35, 3) := by decide +kernel
theorem dX7_sync_39 : decode cX7_sync 39 = .ok (.iload_n 1, 1) := by decide +kernel
theorem dX7_sync_40 : decode cX7_sync 40 = .ok (.iaload, 1) := by decide +kernel
theorem dX7_sync_41 : decode cX7_sync 41 = .ok (.istore_n 2, 1) := by decide +kernel
theorem dX7_sync_42 : decode cX7_sync 42 = .ok (.aload_n 0, 1) := by decide +kernel
theorem dX7_sync_43 : decode cX7_sync 43 = .ok (.bipush 16, 2) := by decide +kernel
theorem dX7_sync_45 : decode cX7_sync 45 = .ok (.iload_n 2, 1) := by decide +kernel
theorem dX7_sync_46 : decode cX7_sync 46 = .ok (.imul, 1) := by decide +kernel
theorem dX7_sync_47 : decode cX7_sync 47 = .ok (.bipush 16, 2) := by decide +kernel
theorem dX7_sync_49 : decode cX7_sync 49 = .ok (.iload_n 2, 1) := by decide +kernel
theorem dX7_sync_50 : decode cX7_sync 50 = .ok (.imul, 1) := by decide +kernel
theorem dX7_sync_51 : decode cX7_sync 51 = .ok (.bipush 16, 2) := by decide +kernel
theorem dX7_sync_53 : decode cX7_sync 53 = .ok (.iadd, 1) := by decide +kernel
theorem dX7_sync_54 : decode cX7_sync 54 = .ok (.bipush 16, 2) := by decide +kernel
theorem dX7_sync_56 : decode cX7_sync 56 = .ok (.invokevirtual 219, 3) := by decide +kernel
theorem dX7_sync_59 : decode cX7_sync 59 = .ok (.aload_n 0, 1) := by decide +kernel
theorem dX7_sync_60 : decode cX7_sync 60 = .ok (.invokevirtual 222, 3) := by decide +kernel
theorem dX7_sync_63 : decode cX7_sync 63 = .ok (.iadd, 1) := by decide +kernel
theorem dX7_sync_64 : decode cX7_sync 64 = .ok (.istore_n 3, 1) := by decide +kernel
theorem dX7_sync_65 : decode cX7_sync 65 = .ok (.aload_n 0, 1) := by decide +kernel
theorem dX7_sync_66 : decode cX7_sync 66 = .ok (.iload_n 2, 1) := by decide +kernel
theorem dX7_sync_67 : decode cX7_sync 67 = .ok (.invokevirtual 189, 3) := by decide +kernel
theorem dX7_sync_70 : decode cX7_sync 70 = .ok (.ireturn, 1) := by decide +kernel
def f_X7_sync (u0 : S1) (p1 : Int32) : Option (Int32 × S1) := bn (f_X7_isHandle u0 p1) (fun z_1 => jn (fun (v27_2_0 : Int32) => bn (f_X7_can u0 v27_2_0) (fun z_3 => if z_3.1 = 0 then some (0, z_3.2) else chk (inb p1 30) (bn (f_X7_flushesAll z_3.2 (16 * (z_3.2 10 (p1).toNatClampNeg)) ((16 * (z_3.2 10 (p1).toNatClampNeg)) + 16) 16) (fun z_5 => bn (f_X7_commits z_5.2) (fun z_6 => bn (f_X7_tells z_6.2 (z_3.2 10 (p1).toNatClampNeg)) (fun z_7 => some (vp_nar .boolean z_7.1, z_7.2))))))) (fun k27_2 => if z_1 = 0 then k27_2 1 else chk (inb p1 30) (if (u0 12 (p1).toNatClampNeg) = 0 then k27_2 2 else k27_2 0)))
def rmX7_sync : Room := { frames := 5, cells := 0, slots := 0, locals := 112 }
set_option maxHeartbeats 4000000 in
set_option maxRecDepth 100000 in
theorem c_X7_sync (l : Launch) (D : va_G) (cI cZ cJ cT : ClassId) (a0 : Nat → Nat) (sz : Nat) (u0 : S1) (p1 : Int32) (o : Int32 × S1) (hf : f_X7_sync u0 p1 = some o) : Met l yX7_sync wsX7_sync rmX7_sync (va_Pc [.ref (a0 0), .int p1] (PW D cls (tys cI cZ cJ cT) ((wX7 cI cZ a0 u0)) sz)) (QWi D cls o.1 ((wX7 cI cZ a0 o.2)) (va_A ((wX7 cI cZ a0 u0)) sz)) 0 0 (va_A ((wX7 cI cZ a0 u0)) sz) := by
  refine Met.ofW (cc := cX7_sync) (maxL := 4) (ret := (some .boolean)) (by decide) rfl ?_
  intro p e s m args below meth c s₁ B hml hv
  obtain ⟨hav, hsz, hP, hK, hD0⟩ := hv
  have hx := B.exec
  have hb := B.bytes
  have hr := B.returns
  have hlocks := B.notSynchronized
  have hts := atoms_spec (ws := wsX7_sync) B.pre
  have hown : s.vm.findClass RX7 = some m.cls := findClass_of_methodNamed B.named
  have i7 : ∀ w ∈ wsX70, w ∈ wsX7_sync := fun w h => List.mem_cons_of_mem _ (List.mem_append_right _ h)
  have hk35 := hts (.fieldLink RX7 35 "InoderyModel" "of" "[I") (by decide +kernel)
  have hk41 := hts (.fieldLink RX7 41 "InoderyModel" "isOpen" "[Z") (by decide +kernel)
  subst hsz
  have hD := hD0.self (sz := s.heap.size)
  generalize hAe : va_A ((wX7 cI cZ a0 u0)) s.heap.size = A at hD ⊢
  have hA : ∀ q : Nat, s.heap.size ≤ q → A q := fun q h => by rw [← hAe]; exact Or.inr h
  have hS : va_S A s.heap s.heap [] := va_S.rf
  have hDD : ∀ w0 : S1, va_D A ((wX7 cI cZ a0 w0)) := fun _ => D_same (w := (wX7 cI cZ a0 u0)) rfl hD
  refine Wq (fun Q hQ => ?_)
  refine W_entry hav (Nat.le_of_ble_eq_true rfl) (fun ls hl => ?_)
  have hl : lv_has ls 4 [(0, .ref (a0 0)), (1, .int p1)] := hl
  unfold f_X7_sync at hf
  refine W_heap hP hS (fun H locs hP hS => ?_)
  refine lv_aload_n hx hb dX7_sync_0 rfl (lv_at hl 0 rfl) ?_
  refine lv_aload_n hx hb dX7_sync_1 rfl (lv_at hl 0 rfl) ?_
  refine lv_iload_n hx hb dX7_sync_2 rfl (lv_at hl 1 rfl) ?_
  obtain ⟨z_1, hz_1, hf⟩ := bn_some hf
  refine cRV (As := [.int p1]) (rest := [.ref (a0 0)]) ⟨hx, hb, hml, hown, hts⟩ (c_X7_isHandle l D cI cZ cJ cT a0 u0 p1 z_1 hz_1) (cwV 1 hts gX7_sync_X7_isHandle rfl rfl rfl (by decide +kernel) ⟨Nat.le_of_ble_eq_true rfl, Nat.le_of_ble_eq_true rfl⟩) hP hK (va_recv hK hP (ci := 7) (q0 := 0) rfl rfl) rfl rfl hl.1 (Nat.le_of_ble_eq_true rfl) dX7_sync_3 ⟨Nat.le_of_ble_eq_true rfl, Nat.le_of_ble_eq_true rfl⟩ ?_
  obtain ⟨k27_2, hk27_2, hf⟩ := jn_some hf
  have j27_2 : ∀ (v27_2_0 : Int32) (H : Heap) (locs : List Loc) (ls : Array Slot), k27_2 v27_2_0 = some o → va_P D cls (wX7 cI cZ a0 u0) H → va_S A s.heap H locs → lv_has ls 4 [(0, .ref (a0 0)), (1, .int p1)] → W p l e (headSpec wsX7_sync rmX7_sync).room s m args below meth c H locs 0 0 Q (F0 m 27 ls [.int v27_2_0, .ref (a0 0)]) := by
    intro v27_2_0 H locs ls hf hP hS hl
    have hf := qa1 hk27_2 hf
    obtain ⟨z_3, hz_3, hf⟩ := bn_some hf
    refine cWVi (As := [.int v27_2_0]) (rest := []) ⟨hx, hb, hml, hown, hts⟩ (c_X7_can l D cI cZ cJ cT a0 H.size u0 v27_2_0 z_3 hz_3) (cwV 1 hts gX7_sync_X7_can rfl rfl rfl (by decide +kernel) ⟨Nat.le_of_ble_eq_true rfl, Nat.le_of_ble_eq_true rfl⟩) hP hK (hDD u0) hS (own_free (hDD u0) hS hA) (va_recv hK hP (ci := 7) (q0 := 0) rfl rfl) rfl rfl hl.1 (Nat.le_of_ble_eq_true rfl) dX7_sync_27 ⟨Nat.le_of_ble_eq_true rfl, Nat.le_of_ble_eq_true rfl⟩ (fun H1 locs hP1 hk1 hS => ?_)
    have hP : va_P D cls (wX7 cI cZ a0 z_3.2) H1 := hP1
    clear hP1 hk1
    generalize H1 = H at hP hS ⊢
    refine lv_if_ne (tgt := 35) hx hb dX7_sync_30 (by decide) (fun c_4 => ?_) (fun c_4 => ?_)
    · have hf := ite_f hf c_4
      refine lv_aload_n hx hb dX7_sync_35 rfl (lv_at hl 0 rfl) ?_
      refine va_get (D := D) (ci := 7) (v := .ref (a0 11)) (C := RX7) (T := TX7) (N := 19) hx hb hts i7 hown hK hP 0 rfl rfl 10 (by decide) hk35 (fun _ h9 => h9) rfl dX7_sync_36 ?_
      refine lv_iload_n hx hb dX7_sync_39 rfl (lv_at hl 1 rfl) ?_
      obtain ⟨hi, hf⟩ := chk_some hf
      refine va_iald hx hb hK hP 9 0 rfl rfl (inb_in hi) dX7_sync_40 ?_
      refine lv_istore_n (lv' := [(2, .int (z_3.2 10 (p1).toNatClampNeg)), (0, .ref (a0 0)), (1, .int p1)]) hx hb dX7_sync_41 rfl hl (by decide) rfl (fun ls hl => ?_)
      refine lv_aload_n hx hb dX7_sync_42 rfl (lv_at hl 1 rfl) ?_
      refine lv_bipush (v := 16) hx hb dX7_sync_43 (by decide) ?_
      refine lv_iload_n hx hb dX7_sync_45 rfl (lv_at hl 0 rfl) ?_
      refine lv_imul hx hb dX7_sync_46 ?_
      refine lv_bipush (v := 16) hx hb dX7_sync_47 (by decide) ?_
      refine lv_iload_n hx hb dX7_sync_49 rfl (lv_at hl 0 rfl) ?_
      refine lv_imul hx hb dX7_sync_50 ?_
      refine lv_bipush (v := 16) hx hb dX7_sync_51 (by decide) ?_
      refine lv_iadd hx hb dX7_sync_53 ?_
      refine lv_bipush (v := 16) hx hb dX7_sync_54 (by decide) ?_
      obtain ⟨z_5, hz_5, hf⟩ := bn_some hf
      refine cWVi (As := [.int (16 * (z_3.2 10 (p1).toNatClampNeg)), .int ((16 * (z_3.2 10 (p1).toNatClampNeg)) + 16), .int 16]) (rest := []) ⟨hx, hb, hml, hown, hts⟩ (c_X7_flushesAll l D cI cZ cJ cT a0 H.size z_3.2 (16 * (z_3.2 10 (p1).toNatClampNeg)) ((16 * (z_3.2 10 (p1).toNatClampNeg)) + 16) 16 z_5 hz_5) (cwV 3 hts gX7_sync_X7_flushesAll rfl rfl rfl (by decide +kernel) ⟨Nat.le_of_ble_eq_true rfl, Nat.le_of_ble_eq_true rfl⟩) hP hK (hDD z_3.2) hS (own_free (hDD z_3.2) hS hA) (va_recv hK hP (ci := 7) (q0 := 0) rfl rfl) rfl rfl hl.1 (Nat.le_of_ble_eq_true rfl) dX7_sync_56 ⟨Nat.le_of_ble_eq_true rfl, Nat.le_of_ble_eq_true rfl⟩ (fun H1 locs hP1 hk1 hS => ?_)
      have hP : va_P D cls (wX7 cI cZ a0 z_5.2) H1 := hP1
      clear hP1 hk1
      generalize H1 = H at hP hS ⊢
      refine lv_aload_n hx hb dX7_sync_59 rfl (lv_at hl 1 rfl) ?_
      obtain ⟨z_6, hz_6, hf⟩ := bn_some hf
      refine cWVi (As := []) (rest := [.int z_5.1]) ⟨hx, hb, hml, hown, hts⟩ (c_X7_commits l D cI cZ cJ cT a0 H.size z_5.2 z_6 hz_6) (cwV 0 hts gX7_sync_X7_commits rfl rfl rfl (by decide +kernel) ⟨Nat.le_of_ble_eq_true rfl, Nat.le_of_ble_eq_true rfl⟩) hP hK (hDD z_5.2) hS (own_free (hDD z_5.2) hS hA) (va_recv hK hP (ci := 7) (q0 := 0) rfl rfl) rfl rfl hl.1 (Nat.le_of_ble_eq_true rfl) dX7_sync_60 ⟨Nat.le_of_ble_eq_true rfl, Nat.le_of_ble_eq_true rfl⟩ (fun H1 locs hP1 hk1 hS => ?_)
      have hP : va_P D cls (wX7 cI cZ a0 z_6.2) H1 := hP1
      clear hP1 hk1
      generalize H1 = H at hP hS ⊢
      refine lv_iadd hx hb dX7_sync_63 ?_
      refine lv_istore_n (lv' := [(3, .int (z_5.1 + z_6.1)), (2, .int (z_3.2 10 (p1).toNatClampNeg)), (0, .ref (a0 0)), (1, .int p1)]) hx hb dX7_sync_64 rfl hl (by decide) rfl (fun ls hl => ?_)
      refine lv_aload_n hx hb dX7_sync_65 rfl (lv_at hl 2 rfl) ?_
      refine lv_iload_n hx hb dX7_sync_66 rfl (lv_at hl 1 rfl) ?_
      obtain ⟨z_7, hz_7, hf⟩ := bn_some hf
      refine cWVi (As := [.int (z_3.2 10 (p1).toNatClampNeg)]) (rest := []) ⟨hx, hb, hml, hown, hts⟩ (c_X7_tells l D cI cZ cJ cT a0 H.size z_6.2 (z_3.2 10 (p1).toNatClampNeg) z_7 hz_7) (cwV 1 hts gX7_sync_X7_tells rfl rfl rfl (by decide +kernel) ⟨Nat.le_of_ble_eq_true rfl, Nat.le_of_ble_eq_true rfl⟩) hP hK (hDD z_6.2) hS (own_free (hDD z_6.2) hS hA) (va_recv hK hP (ci := 7) (q0 := 0) rfl rfl) rfl rfl hl.1 (Nat.le_of_ble_eq_true rfl) dX7_sync_67 ⟨Nat.le_of_ble_eq_true rfl, Nat.le_of_ble_eq_true rfl⟩ (fun H1 locs hP1 hk1 hS => ?_)
      have hP : va_P D cls (wX7 cI cZ a0 z_7.2) H1 := hP1
      clear hP1 hk1
      generalize H1 = H at hP hS ⊢
      have eo := Option.some.inj hf
      have hP : va_P D cls (wX7 cI cZ a0 o.2) H := by rw [← eo]; exact hP
      rw [hQ]
      exact zretN (v := z_7.1) (v' := vp_nar .boolean z_7.1) hx hb hr rfl (fun t ht hW => ⟨⟨_, (), rfl, (by rw [← eo]), P_at ht hP⟩, hS.F ht⟩) hS.2.2 dX7_sync_70 hlocks
    · have hf := ite_t hf c_4
      refine lv_iconst (v := 0) hx hb dX7_sync_33 (by decide) ?_
      have eo := Option.some.inj hf
      have hP : va_P D cls (wX7 cI cZ a0 o.2) H := by rw [← eo]; exact hP
      rw [hQ]
      exact zretN (v := 0) (v' := 0) hx hb hr rfl (fun t ht hW => ⟨⟨_, (), rfl, congrArg Prod.fst eo, P_at ht hP⟩, hS.F ht⟩) hS.2.2 dX7_sync_34 hlocks
  refine lv_if_ne (tgt := 13) hx hb dX7_sync_6 (by decide) (fun c_8 => ?_) (fun c_8 => ?_)
  · have hf := ite_f hf c_8
    refine lv_aload_n hx hb dX7_sync_13 rfl (lv_at hl 0 rfl) ?_
    refine va_get (D := D) (ci := 7) (v := .ref (a0 13)) (C := RX7) (T := TX7) (N := 19) hx hb hts i7 hown hK hP 0 rfl rfl 12 (by decide) hk41 (fun _ h9 => h9) rfl dX7_sync_14 ?_
    refine lv_iload_n hx hb dX7_sync_17 rfl (lv_at hl 1 rfl) ?_
    obtain ⟨hi, hf⟩ := chk_some hf
    refine va_zald hx hb hK hP 11 1 rfl rfl (inb_in hi) dX7_sync_18 ?_
    refine lv_if_eq (tgt := 26) hx hb dX7_sync_19 (by decide) (fun c_9 => ?_) (fun c_9 => ?_)
    · have hf := ite_t hf c_9
      refine lv_iconst (v := 2) hx hb dX7_sync_26 (by decide) ?_
      exact j27_2 _ _ _ _ hf hP hS (lv_sub hl [0, 1] rfl)
    · have hf := ite_f hf c_9
      refine lv_iconst (v := 0) hx hb dX7_sync_22 (by decide) ?_
      refine lv_goto (tgt := 27) hx hb dX7_sync_23 (by decide) ?_
      exact j27_2 _ _ _ _ hf hP hS (lv_sub hl [0, 1] rfl)
  · have hf := ite_t hf c_8
    refine lv_iconst (v := 1) hx hb dX7_sync_9 (by decide) ?_
    refine lv_goto (tgt := 27) hx hb dX7_sync_10 (by decide) ?_
    exact j27_2 _ _ _ _ hf hP hS (lv_sub hl [0, 1] rfl)
