theorem dX4_becomeLike_0 : decode cX4_becomeLike 0 = .ok (.aload_n 1, 1) := by decide +kernel
theorem dX4_becomeLike_1 : decode cX4_becomeLike 1 = .ok (.getfield 9, 3) := by decide +kernel
theorem dX4_becomeLike_4 : decode cX4_becomeLike 4 = .ok (.iconst 0, 1) := by decide +kernel
theorem dX4_becomeLike_5 : decode cX4_becomeLike 5 = .ok (.aload_n 0, 1) := by decide +kernel
theorem dX4_becomeLike_6 : decode cX4_becomeLike 6 = .ok (.getfield 9, 3) := by decide +kernel
theorem dX4_becomeLike_9 : decode cX4_becomeLike 9 = .ok (.iconst 0, 1) := by decide +kernel
theorem dX4_becomeLike_10 : decode cX4_becomeLike 10 = .ok (.bipush 32, 2) := by decide +kernel
theorem dX4_becomeLike_12 : decode cX4_becomeLike 12 = .ok (.invokestatic 48, 3) := by decide +kernel
theorem dX4_becomeLike_15 : decode cX4_becomeLike 15 = .ok (.aload_n 1, 1) := by decide +kernel
theorem dX4_becomeLike_16 : decode cX4_becomeLike 16 = .ok (.getfield 15, 3) := by decide +kernel
theorem dX4_becomeLike_19 : decode cX4_becomeLike 19 = .ok (.iconst 0, 1) := by decide +kernel
theorem dX4_becomeLike_20 : decode cX4_becomeLike 20 = .ok (.aload_n 0, 1) := by decide +kernel
theorem dX4_becomeLike_21 : decode cX4_becomeLike 21 = .ok (.getfield 15, 3) := by decide +kernel
theorem dX4_becomeLike_24 : decode cX4_becomeLike 24 = .ok (.iconst 0, 1) := by decide +kernel
theorem dX4_becomeLike_25 : decode cX4_becomeLike 25 = .ok (.bipush 32, 2) := by decide +kernel
theorem dX4_becomeLike_27 : decode cX4_becomeLike 27 = .ok (.invokestatic 48, 3) := by decide +kernel
theorem dX4_becomeLike_30 : decode cX4_becomeLike 30 = .ok (.aload_n 1, 1) := by decide +kernel
theorem dX4_becomeLike_31 : decode cX4_becomeLike 31 = .ok (.getfield 18, 3) := by decide +kernel
theorem dX4_becomeLike_34 : decode cX4_becomeLike 34 = .ok (.iconst 0, 1) := by decide +kernel
theorem dX4_becomeLike_35 : decode cX4_becomeLike 35 = .ok (.aload_n 0, 1) := by decide +kernel
theorem dX4_becomeLike_36 : decode cX4_becomeLike 36 = .ok (.getfield 18, 3) := by decide +kernel
theorem dX4_becomeLike_39 : decode cX4_becomeLike 39 = .ok (.iconst 0, 1) := by decide +kernel
theorem dX4_becomeLike_40 : decode cX4_becomeLike 40 = .ok (.bipush 32, 2) := by decide +kernel
theorem dX4_becomeLike_42 : decode cX4_becomeLike 42 = .ok (.invokestatic 48, 3) := by decide +kernel
theorem dX4_becomeLike_45 : decode cX4_becomeLike 45 = .ok (.aload_n 1, 1) := by decide +kernel
theorem dX4_becomeLike_46 : decode cX4_becomeLike 46 = .ok (.getfield 21, 3) := by decide +kernel
theorem dX4_becomeLike_49 : decode cX4_becomeLike 49 = .ok (.iconst 0, 1) := by decide +kernel
theorem dX4_becomeLike_50 : decode cX4_becomeLike 50 = .ok (.aload_n 0, 1) := by decide +kernel
theorem dX4_becomeLike_51 : decode cX4_becomeLike 51 = .ok (.getfield 21, 3) := by decide +kernel
theorem dX4_becomeLike_54 : decode cX4_becomeLike 54 = .ok (.iconst 0, 1) := by decide +kernel
theorem dX4_becomeLike_55 : decode cX4_becomeLike 55 = .ok (.bipush 32, 2) := by decide +kernel
theorem dX4_becomeLike_57 : decode cX4_becomeLike 57 = .ok (.invokestatic 48, 3) := by decide +kernel
theorem dX4_becomeLike_60 : decode cX4_becomeLike 60 = .ok (.aload_n 1, 1) := by decide +kernel
theorem dX4_becomeLike_61 : decode cX4_becomeLike 61 = .ok (.getfield 24, 3) := by decide +kernel
theorem dX4_becomeLike_64 : decode cX4_becomeLike 64 = .ok (.iconst 0, 1) := by decide +kernel
theorem dX4_becomeLike_65 : decode cX4_becomeLike 65 = .ok (.aload_n 0, 1) := by decide +kernel
theorem dX4_becomeLike_66 : decode cX4_becomeLike 66 = .ok (.getfield 24, 3) := by decide +kernel
theorem dX4_becomeLike_69 : decode cX4_becomeLike 69 = .ok (.iconst 0, 1) := by decide +kernel
theorem dX4_becomeLike_70 : decode cX4_becomeLike 70 = .ok (.bipush 32, 2) := by decide +kernel
theorem dX4_becomeLike_72 : decode cX4_becomeLike 72 = .ok (.invokestatic 48, 3) := by decide +kernel
theorem dX4_becomeLike_75 : decode cX4_becomeLike 75 = .ok (.aload_n 1, 1) := by decide +kernel
theorem dX4_becomeLike_76 : decode cX4_becomeLike 76 = .ok (.getfield 27, 3) := by decide +kernel
theorem dX4_becomeLike_79 : decode cX4_becomeLike 79 = .ok (.iconst 0, 1) := by decide +kernel
theorem dX4_becomeLike_80 : decode cX4_becomeLike 80 = .ok (.aload_n 0, 1) := by decide +kernel
theorem dX4_becomeLike_81 : decode cX4_becomeLike 81 = .ok (.getfield 27, 3) := by decide +kernel
theorem dX4_becomeLike_84 : decode cX4_becomeLike 84 = .ok (.iconst 0, 1) := by decide +kernel
theorem dX4_becomeLike_85 : decode cX4_becomeLike 85 = .ok (.bipush 32, 2) := by decide +kernel
theorem dX4_becomeLike_87 : decode cX4_becomeLike 87 = .ok (.invokestatic 48, 3) := by decide +kernel
theorem dX4_becomeLike_90 : decode cX4_becomeLike 90 = .ok (.aload_n 1, 1) := by decide +kernel
theorem dX4_becomeLike_91 : decode cX4_becomeLike 91 = .ok (.getfield 30, 3) := by decide +kernel
theorem dX4_becomeLike_94 : decode cX4_becomeLike 94 = .ok (.iconst 0, 1) := by decide +kernel
theorem dX4_becomeLike_95 : decode cX4_becomeLike 95 = .ok (.aload_n 0, 1) := by decide +kernel
theorem dX4_becomeLike_96 : decode cX4_becomeLike 96 = .ok (.getfield 30, 3) := by decide +kernel
theorem dX4_becomeLike_99 : decode cX4_becomeLike 99 = .ok (.iconst 0, 1) := by decide +kernel
theorem dX4_becomeLike_100 : decode cX4_becomeLike 100 = .ok (.sipush 256, 3) := by decide +kernel
theorem dX4_becomeLike_103 : decode cX4_becomeLike 103 = .ok (.invokestatic 48, 3) := by decide +kernel
theorem dX4_becomeLike_106 : decode cX4_becomeLike 106 = .ok (.aload_n 1, 1) := by decide +kernel
theorem dX4_becomeLike_107 : decode cX4_becomeLike 107 = .ok (.getfield 33, 3) := by decide +kernel
theorem dX4_becomeLike_110 : decode cX4_becomeLike 110 = .ok (.iconst 0, 1) := by decide +kernel
theorem dX4_becomeLike_111 : decode cX4_becomeLike 111 = .ok (.aload_n 0, 1) := by decide +kernel
theorem dX4_becomeLike_112 : decode cX4_becomeLike 112 = .ok (.getfield 33, 3) := by decide +kernel
theorem dX4_becomeLike_115 : decode cX4_becomeLike 115 = .ok (.iconst 0, 1) := by decide +kernel
theorem dX4_becomeLike_116 : decode cX4_becomeLike 116 = .ok (.sipush 256, 3) := by decide +kernel
theorem dX4_becomeLike_119 : decode cX4_becomeLike 119 = .ok (.invokestatic 48, 3) := by decide +kernel
theorem dX4_becomeLike_122 : decode cX4_becomeLike 122 = .ok (.aload_n 1, 1) := by decide +kernel
theorem dX4_becomeLike_123 : decode cX4_becomeLike 123 = .ok (.getfield 36, 3) := by decide +kernel
theorem dX4_becomeLike_126 : decode cX4_becomeLike 126 = .ok (.iconst 0, 1) := by decide +kernel
theorem dX4_becomeLike_127 : decode cX4_becomeLike 127 = .ok (.aload_n 0, 1) := by decide +kernel
theorem dX4_becomeLike_128 : decode cX4_becomeLike 128 = .ok (.getfield 36, 3) := by decide +kernel
theorem dX4_becomeLike_131 : decode cX4_becomeLike 131 = .ok (.iconst 0, 1) := by decide +kernel
theorem dX4_becomeLike_132 : decode cX4_becomeLike 132 = .ok (.sipush 512, 3) := by decide +kernel
theorem dX4_becomeLike_135 : decode cX4_becomeLike 135 = .ok (.invokestatic 48, 3) := by decide +kernel
theorem dX4_becomeLike_138 : decode cX4_becomeLike 138 = .ok (.aload_n 1, 1) := by decide +kernel
theorem dX4_becomeLike_139 : decode cX4_becomeLike 139 = .ok (.getfield 39, 3) := by decide +kernel
theorem dX4_becomeLike_142 : decode cX4_becomeLike 142 = .ok (.iconst 0, 1) := by decide +kernel
theorem dX4_becomeLike_143 : decode cX4_becomeLike 143 = .ok (.aload_n 0, 1) := by decide +kernel
theorem dX4_becomeLike_144 : decode cX4_becomeLike 144 = .ok (.getfield 39, 3) := by decide +kernel
theorem dX4_becomeLike_147 : decode cX4_becomeLike 147 = .ok (.iconst 0, 1) := by decide +kernel
theorem dX4_becomeLike_148 : decode cX4_becomeLike 148 = .ok (.sipush 512, 3) := by decide +kernel
theorem dX4_becomeLike_151 : decode cX4_becomeLike 151 = .ok (.invokestatic 48, 3) := by decide +kernel
theorem dX4_becomeLike_154 : decode cX4_becomeLike 154 = .ok (.aload_n 1, 1) := by decide +kernel
theorem dX4_becomeLike_155 : decode cX4_becomeLike 155 = .ok (.getfield 42, 3) := by decide +kernel
theorem dX4_becomeLike_158 : decode cX4_becomeLike 158 = .ok (.iconst 0, 1) := by decide +kernel
theorem dX4_becomeLike_159 : decode cX4_becomeLike 159 = .ok (.aload_n 0, 1) := by decide +kernel
theorem dX4_becomeLike_160 : decode cX4_becomeLike 160 = .ok (.getfield 42, 3) := by decide +kernel
theorem dX4_becomeLike_163 : decode cX4_becomeLike 163 = .ok (.iconst 0, 1) := by decide +kernel
theorem dX4_becomeLike_164 : decode cX4_becomeLike 164 = .ok (.bipush 32, 2) := by decide +kernel
theorem dX4_becomeLike_166 : decode cX4_becomeLike 166 = .ok (.invokestatic 48, 3) := by decide +kernel
theorem dX4_becomeLike_169 : decode cX4_becomeLike 169 = .ok (.aload_n 1, 1) := by decide +kernel
theorem dX4_becomeLike_170 : decode cX4_becomeLike 170 = .ok (.getfield 45, 3) := by decide +kernel
theorem dX4_becomeLike_173 : decode cX4_becomeLike 173 = .ok (.iconst 0, 1) := by decide +kernel
theorem dX4_becomeLike_174 : decode cX4_becomeLike 174 = .ok (.aload_n 0, 1) := by decide +kernel
theorem dX4_becomeLike_175 : decode cX4_becomeLike 175 = .ok (.getfield 45, 3) := by decide +kernel
theorem dX4_becomeLike_178 : decode cX4_becomeLike 178 = .ok (.iconst 0, 1) := by decide +kernel
theorem dX4_becomeLike_179 : decode cX4_becomeLike 179 = .ok (.bipush 64, 2) := by decide +kernel
theorem dX4_becomeLike_181 : decode cX4_becomeLike 181 = .ok (.invokestatic 48, 3) := by decide +kernel
theorem dX4_becomeLike_184 : decode cX4_becomeLike 184 = .ok (.return_, 1) := by decide +kernel
def f_X4_becomeLike (u0 : S1) (u1 : S1) : Option (S1) := bv (cp u0 0 u1 0 32) (fun u_1 => bv (cp u_1 1 u1 1 32) (fun u_2 => bv (cp u_2 2 u1 2 32) (fun u_3 => bv (cp u_3 3 u1 3 32) (fun u_4 => bv (cp u_4 4 u1 4 32) (fun u_5 => bv (cp u_5 5 u1 5 32) (fun u_6 => bv (cp u_6 6 u1 6 256) (fun u_7 => bv (cp u_7 7 u1 7 256) (fun u_8 => bv (cp u_8 8 u1 8 512) (fun u_9 => bv (cp u_9 9 u1 9 512) (fun u_10 => bv (cp u_10 10 u1 10 32) (fun u_11 => bv (cp u_11 11 u1 11 64) (fun u_12 => some (u_12)))))))))))))
def rmX4_becomeLike : Room := { frames := 1, cells := 0, slots := 0, locals := 18 }
set_option maxHeartbeats 4000000 in
set_option maxRecDepth 100000 in
theorem c_X4_becomeLike (l : Launch) (D : va_G) (cI cZ cJ cT : ClassId) (a0 : Nat → Nat) (a1 : Nat → Nat) (sz : Nat) (u0 : S1) (u1 : S1) (o : S1) (hf : f_X4_becomeLike u0 u1 = some o) : Met l yX4_becomeLike wsX4_becomeLike rmX4_becomeLike (va_Pc [.ref (a0 0), .ref (a1 0)] (PW D cls (tys cI cZ cJ cT) ((List.flatten [(wX4 cI cZ a0 u0), (wX4 cI cZ a1 u1)])) sz)) (QWv D cls ((List.flatten [(wX4 cI cZ a0 o), (wX4 cI cZ a1 u1)])) (va_A ((List.flatten [(wX4 cI cZ a0 u0), (wX4 cI cZ a1 u1)])) sz)) 0 0 (va_A ((List.flatten [(wX4 cI cZ a0 u0), (wX4 cI cZ a1 u1)])) sz) := by
  refine Met.ofW (cc := cX4_becomeLike) (maxL := 2) (ret := none) (by decide) rfl ?_
  intro p e s m args below meth c s₁ B hml hv
  obtain ⟨hav, hsz, hP, hK, hD0⟩ := hv
  have hx := B.exec
  have hb := B.bytes
  have hr := B.returns
  have hlocks := B.notSynchronized
  have hts := atoms_spec (ws := wsX4_becomeLike) B.pre
  have hown : s.vm.findClass RX4 = some m.cls := findClass_of_methodNamed B.named
  have i4 : ∀ w ∈ wsX40, w ∈ wsX4_becomeLike := fun w h => List.mem_cons_of_mem _ (List.mem_append_right _ h)
  have hk9 := hts (.fieldLink RX4 9 "Inodery$Tree" "kinds" "[I") (by decide +kernel)
  have hk15 := hts (.fieldLink RX4 15 "Inodery$Tree" "owners" "[I") (by decide +kernel)
  have hk18 := hts (.fieldLink RX4 18 "Inodery$Tree" "rights" "[I") (by decide +kernel)
  have hk21 := hts (.fieldLink RX4 21 "Inodery$Tree" "counts" "[I") (by decide +kernel)
  have hk24 := hts (.fieldLink RX4 24 "Inodery$Tree" "paths" "[I") (by decide +kernel)
  have hk27 := hts (.fieldLink RX4 27 "Inodery$Tree" "sizes" "[I") (by decide +kernel)
  have hk30 := hts (.fieldLink RX4 30 "Inodery$Tree" "entryNames" "[I") (by decide +kernel)
  have hk33 := hts (.fieldLink RX4 33 "Inodery$Tree" "entryThings" "[I") (by decide +kernel)
  have hk36 := hts (.fieldLink RX4 36 "Inodery$Tree" "pageKinds" "[I") (by decide +kernel)
  have hk39 := hts (.fieldLink RX4 39 "Inodery$Tree" "pageBlocks" "[I") (by decide +kernel)
  have hk42 := hts (.fieldLink RX4 42 "Inodery$Tree" "filled" "[I") (by decide +kernel)
  have hk45 := hts (.fieldLink RX4 45 "Inodery$Tree" "uses" "[I") (by decide +kernel)
  subst hsz
  have hD := hD0.self (sz := s.heap.size)
  generalize hAe : va_A ((List.flatten [(wX4 cI cZ a0 u0), (wX4 cI cZ a1 u1)])) s.heap.size = A at hD ⊢
  have hA : ∀ q : Nat, s.heap.size ≤ q → A q := fun q h => by rw [← hAe]; exact Or.inr h
  have hS : va_S A s.heap s.heap [] := va_S.rf
  have hDD : ∀ w0 w1 : S1, va_D A ((List.flatten [(wX4 cI cZ a0 w0), (wX4 cI cZ a1 w1)])) := fun _ _ => D_same (w := (List.flatten [(wX4 cI cZ a0 u0), (wX4 cI cZ a1 u1)])) rfl hD
  refine Wq (fun Q hQ => ?_)
  refine W_entry hav (Nat.le_of_ble_eq_true rfl) (fun ls hl => ?_)
  have hl : lv_has ls 2 [(0, .ref (a0 0)), (1, .ref (a1 0))] := hl
  unfold f_X4_becomeLike at hf
  refine W_heap hP hS (fun H locs hP hS => ?_)
  refine lv_aload_n hx hb dX4_becomeLike_0 rfl (lv_at hl 1 rfl) ?_
  refine va_get (D := D) (ci := 4) (v := .ref (a1 1)) (C := RX4) (T := TX4) (N := 12) hx hb hts i4 hown hK (fl_sub hP 1 rfl) 0 rfl rfl 0 (by decide) hk9 (fun _ h9 => h9) rfl dX4_becomeLike_1 ?_
  refine lv_iconst (v := 0) hx hb dX4_becomeLike_4 (by decide) ?_
  refine lv_aload_n hx hb dX4_becomeLike_5 rfl (lv_at hl 0 rfl) ?_
  refine va_get (D := D) (ci := 4) (v := .ref (a0 1)) (C := RX4) (T := TX4) (N := 12) hx hb hts i4 hown hK (fl_sub hP 0 rfl) 0 rfl rfl 0 (by decide) hk9 (fun _ h9 => h9) rfl dX4_becomeLike_6 ?_
  refine lv_iconst (v := 0) hx hb dX4_becomeLike_9 (by decide) ?_
  refine lv_bipush (v := 32) hx hb dX4_becomeLike_10 (by decide) ?_
  obtain ⟨u_1, hu_1, hf⟩ := bv_some hf
  refine va_copyi hx hb (hml.trans hl.1.symm) hown (hts (.methodLink RX4 48 arraycopyName) (by decide +kernel)) (hts (.native arraycopyName) (by decide +kernel)) (hts (.static arraycopyName) (by decide +kernel)) (hts (.initialized "java/lang/System") (by decide +kernel)) hK hP (hDD u0 u1) hS 14 1 0 0 rfl rfl rfl rfl rfl (by decide) (by decide) (by decide) (by decide) (by decide) (fun _ _ => rfl) (Nat.le_of_ble_eq_true rfl) (Nat.le_of_ble_eq_true rfl) dX4_becomeLike_12 (fun H locs hP _ hS => ?_)
  have hP : va_P D cls (List.flatten [(wX4 cI cZ a0 u_1), (wX4 cI cZ a1 u1)]) H := by rw [hu_1]; exact hP
  refine lv_aload_n hx hb dX4_becomeLike_15 rfl (lv_at hl 1 rfl) ?_
  refine va_get (D := D) (ci := 4) (v := .ref (a1 2)) (C := RX4) (T := TX4) (N := 12) hx hb hts i4 hown hK (fl_sub hP 1 rfl) 0 rfl rfl 1 (by decide) hk15 (fun _ h9 => h9) rfl dX4_becomeLike_16 ?_
  refine lv_iconst (v := 0) hx hb dX4_becomeLike_19 (by decide) ?_
  refine lv_aload_n hx hb dX4_becomeLike_20 rfl (lv_at hl 0 rfl) ?_
  refine va_get (D := D) (ci := 4) (v := .ref (a0 2)) (C := RX4) (T := TX4) (N := 12) hx hb hts i4 hown hK (fl_sub hP 0 rfl) 0 rfl rfl 1 (by decide) hk15 (fun _ h9 => h9) rfl dX4_becomeLike_21 ?_
  refine lv_iconst (v := 0) hx hb dX4_becomeLike_24 (by decide) ?_
  refine lv_bipush (v := 32) hx hb dX4_becomeLike_25 (by decide) ?_
  obtain ⟨u_2, hu_2, hf⟩ := bv_some hf
  refine va_copyi hx hb (hml.trans hl.1.symm) hown (hts (.methodLink RX4 48 arraycopyName) (by decide +kernel)) (hts (.native arraycopyName) (by decide +kernel)) (hts (.static arraycopyName) (by decide +kernel)) (hts (.initialized "java/lang/System") (by decide +kernel)) hK hP (hDD u_1 u1) hS 15 2 0 0 rfl rfl rfl rfl rfl (by decide) (by decide) (by decide) (by decide) (by decide) (fun _ _ => rfl) (Nat.le_of_ble_eq_true rfl) (Nat.le_of_ble_eq_true rfl) dX4_becomeLike_27 (fun H locs hP _ hS => ?_)
  have hP : va_P D cls (List.flatten [(wX4 cI cZ a0 u_2), (wX4 cI cZ a1 u1)]) H := by rw [hu_2]; exact hP
  refine lv_aload_n hx hb dX4_becomeLike_30 rfl (lv_at hl 1 rfl) ?_
  refine va_get (D := D) (ci := 4) (v := .ref (a1 3)) (C := RX4) (T := TX4) (N := 12) hx hb hts i4 hown hK (fl_sub hP 1 rfl) 0 rfl rfl 2 (by decide) hk18 (fun _ h9 => h9) rfl dX4_becomeLike_31 ?_
  refine lv_iconst (v := 0) hx hb dX4_becomeLike_34 (by decide) ?_
  refine lv_aload_n hx hb dX4_becomeLike_35 rfl (lv_at hl 0 rfl) ?_
  refine va_get (D := D) (ci := 4) (v := .ref (a0 3)) (C := RX4) (T := TX4) (N := 12) hx hb hts i4 hown hK (fl_sub hP 0 rfl) 0 rfl rfl 2 (by decide) hk18 (fun _ h9 => h9) rfl dX4_becomeLike_36 ?_
  refine lv_iconst (v := 0) hx hb dX4_becomeLike_39 (by decide) ?_
  refine lv_bipush (v := 32) hx hb dX4_becomeLike_40 (by decide) ?_
  obtain ⟨u_3, hu_3, hf⟩ := bv_some hf
  refine va_copyi hx hb (hml.trans hl.1.symm) hown (hts (.methodLink RX4 48 arraycopyName) (by decide +kernel)) (hts (.native arraycopyName) (by decide +kernel)) (hts (.static arraycopyName) (by decide +kernel)) (hts (.initialized "java/lang/System") (by decide +kernel)) hK hP (hDD u_2 u1) hS 16 3 0 0 rfl rfl rfl rfl rfl (by decide) (by decide) (by decide) (by decide) (by decide) (fun _ _ => rfl) (Nat.le_of_ble_eq_true rfl) (Nat.le_of_ble_eq_true rfl) dX4_becomeLike_42 (fun H locs hP _ hS => ?_)
  have hP : va_P D cls (List.flatten [(wX4 cI cZ a0 u_3), (wX4 cI cZ a1 u1)]) H := by rw [hu_3]; exact hP
  refine lv_aload_n hx hb dX4_becomeLike_45 rfl (lv_at hl 1 rfl) ?_
  refine va_get (D := D) (ci := 4) (v := .ref (a1 4)) (C := RX4) (T := TX4) (N := 12) hx hb hts i4 hown hK (fl_sub hP 1 rfl) 0 rfl rfl 3 (by decide) hk21 (fun _ h9 => h9) rfl dX4_becomeLike_46 ?_
  refine lv_iconst (v := 0) hx hb dX4_becomeLike_49 (by decide) ?_
  refine lv_aload_n hx hb dX4_becomeLike_50 rfl (lv_at hl 0 rfl) ?_
  refine va_get (D := D) (ci := 4) (v := .ref (a0 4)) (C := RX4) (T := TX4) (N := 12) hx hb hts i4 hown hK (fl_sub hP 0 rfl) 0 rfl rfl 3 (by decide) hk21 (fun _ h9 => h9) rfl dX4_becomeLike_51 ?_
  refine lv_iconst (v := 0) hx hb dX4_becomeLike_54 (by decide) ?_
  refine lv_bipush (v := 32) hx hb dX4_becomeLike_55 (by decide) ?_
  obtain ⟨u_4, hu_4, hf⟩ := bv_some hf
  refine va_copyi hx hb (hml.trans hl.1.symm) hown (hts (.methodLink RX4 48 arraycopyName) (by decide +kernel)) (hts (.native arraycopyName) (by decide +kernel)) (hts (.static arraycopyName) (by decide +kernel)) (hts (.initialized "java/lang/System") (by decide +kernel)) hK hP (hDD u_3 u1) hS 17 4 0 0 rfl rfl rfl rfl rfl (by decide) (by decide) (by decide) (by decide) (by decide) (fun _ _ => rfl) (Nat.le_of_ble_eq_true rfl) (Nat.le_of_ble_eq_true rfl) dX4_becomeLike_57 (fun H locs hP _ hS => ?_)
  have hP : va_P D cls (List.flatten [(wX4 cI cZ a0 u_4), (wX4 cI cZ a1 u1)]) H := by rw [hu_4]; exact hP
  refine lv_aload_n hx hb dX4_becomeLike_60 rfl (lv_at hl 1 rfl) ?_
  refine va_get (D := D) (ci := 4) (v := .ref (a1 5)) (C := RX4) (T := TX4) (N := 12) hx hb hts i4 hown hK (fl_sub hP 1 rfl) 0 rfl rfl 4 (by decide) hk24 (fun _ h9 => h9) rfl dX4_becomeLike_61 ?_
  refine lv_iconst (v := 0) hx hb dX4_becomeLike_64 (by decide) ?_
  refine lv_aload_n hx hb dX4_becomeLike_65 rfl (lv_at hl 0 rfl) ?_
  refine va_get (D := D) (ci := 4) (v := .ref (a0 5)) (C := RX4) (T := TX4) (N := 12) hx hb hts i4 hown hK (fl_sub hP 0 rfl) 0 rfl rfl 4 (by decide) hk24 (fun _ h9 => h9) rfl dX4_becomeLike_66 ?_
  refine lv_iconst (v := 0) hx hb dX4_becomeLike_69 (by decide) ?_
  refine lv_bipush (v := 32) hx hb dX4_becomeLike_70 (by decide) ?_
  obtain ⟨u_5, hu_5, hf⟩ := bv_some hf
  refine va_copyi hx hb (hml.trans hl.1.symm) hown (hts (.methodLink RX4 48 arraycopyName) (by decide +kernel)) (hts (.native arraycopyName) (by decide +kernel)) (hts (.static arraycopyName) (by decide +kernel)) (hts (.initialized "java/lang/System") (by decide +kernel)) hK hP (hDD u_4 u1) hS 18 5 0 0 rfl rfl rfl rfl rfl (by decide) (by decide) (by decide) (by decide) (by decide) (fun _ _ => rfl) (Nat.le_of_ble_eq_true rfl) (Nat.le_of_ble_eq_true rfl) dX4_becomeLike_72 (fun H locs hP _ hS => ?_)
  have hP : va_P D cls (List.flatten [(wX4 cI cZ a0 u_5), (wX4 cI cZ a1 u1)]) H := by rw [hu_5]; exact hP
  refine lv_aload_n hx hb dX4_becomeLike_75 rfl (lv_at hl 1 rfl) ?_
  refine va_get (D := D) (ci := 4) (v := .ref (a1 6)) (C := RX4) (T := TX4) (N := 12) hx hb hts i4 hown hK (fl_sub hP 1 rfl) 0 rfl rfl 5 (by decide) hk27 (fun _ h9 => h9) rfl dX4_becomeLike_76 ?_
  refine lv_iconst (v := 0) hx hb dX4_becomeLike_79 (by decide) ?_
  refine lv_aload_n hx hb dX4_becomeLike_80 rfl (lv_at hl 0 rfl) ?_
  refine va_get (D := D) (ci := 4) (v := .ref (a0 6)) (C := RX4) (T := TX4) (N := 12) hx hb hts i4 hown hK (fl_sub hP 0 rfl) 0 rfl rfl 5 (by decide) hk27 (fun _ h9 => h9) rfl dX4_becomeLike_81 ?_
  refine lv_iconst (v := 0) hx hb dX4_becomeLike_84 (by decide) ?_
  refine lv_bipush (v := 32) hx hb dX4_becomeLike_85 (by decide) ?_
  obtain ⟨u_6, hu_6, hf⟩ := bv_some hf
  refine va_copyi hx hb (hml.trans hl.1.symm) hown (hts (.methodLink RX4 48 arraycopyName) (by decide +kernel)) (hts (.native arraycopyName) (by decide +kernel)) (hts (.static arraycopyName) (by decide +kernel)) (hts (.initialized "java/lang/System") (by decide +kernel)) hK hP (hDD u_5 u1) hS 19 6 0 0 rfl rfl rfl rfl rfl (by decide) (by decide) (by decide) (by decide) (by decide) (fun _ _ => rfl) (Nat.le_of_ble_eq_true rfl) (Nat.le_of_ble_eq_true rfl) dX4_becomeLike_87 (fun H locs hP _ hS => ?_)
  have hP : va_P D cls (List.flatten [(wX4 cI cZ a0 u_6), (wX4 cI cZ a1 u1)]) H := by rw [hu_6]; exact hP
  refine lv_aload_n hx hb dX4_becomeLike_90 rfl (lv_at hl 1 rfl) ?_
  refine va_get (D := D) (ci := 4) (v := .ref (a1 7)) (C := RX4) (T := TX4) (N := 12) hx hb hts i4 hown hK (fl_sub hP 1 rfl) 0 rfl rfl 6 (by decide) hk30 (fun _ h9 => h9) rfl dX4_becomeLike_91 ?_
  refine lv_iconst (v := 0) hx hb dX4_becomeLike_94 (by decide) ?_
  refine lv_aload_n hx hb dX4_becomeLike_95 rfl (lv_at hl 0 rfl) ?_
  refine va_get (D := D) (ci := 4) (v := .ref (a0 7)) (C := RX4) (T := TX4) (N := 12) hx hb hts i4 hown hK (fl_sub hP 0 rfl) 0 rfl rfl 6 (by decide) hk30 (fun _ h9 => h9) rfl dX4_becomeLike_96 ?_
  refine lv_iconst (v := 0) hx hb dX4_becomeLike_99 (by decide) ?_
  refine lv_sipush (v := 256) hx hb dX4_becomeLike_100 (by decide) ?_
  obtain ⟨u_7, hu_7, hf⟩ := bv_some hf
  refine va_copyi hx hb (hml.trans hl.1.symm) hown (hts (.methodLink RX4 48 arraycopyName) (by decide +kernel)) (hts (.native arraycopyName) (by decide +kernel)) (hts (.static arraycopyName) (by decide +kernel)) (hts (.initialized "java/lang/System") (by decide +kernel)) hK hP (hDD u_6 u1) hS 20 7 0 0 rfl rfl rfl rfl rfl (by decide) (by decide) (by decide) (by decide) (by decide) (fun _ _ => rfl) (Nat.le_of_ble_eq_true rfl) (Nat.le_of_ble_eq_true rfl) dX4_becomeLike_103 (fun H locs hP _ hS => ?_)
  have hP : va_P D cls (List.flatten [(wX4 cI cZ a0 u_7), (wX4 cI cZ a1 u1)]) H := by rw [hu_7]; exact hP
  refine lv_aload_n hx hb dX4_becomeLike_106 rfl (lv_at hl 1 rfl) ?_
  refine va_get (D := D) (ci := 4) (v := .ref (a1 8)) (C := RX4) (T := TX4) (N := 12) hx hb hts i4 hown hK (fl_sub hP 1 rfl) 0 rfl rfl 7 (by decide) hk33 (fun _ h9 => h9) rfl dX4_becomeLike_107 ?_
  refine lv_iconst (v := 0) hx hb dX4_becomeLike_110 (by decide) ?_
  refine lv_aload_n hx hb dX4_becomeLike_111 rfl (lv_at hl 0 rfl) ?_
  refine va_get (D := D) (ci := 4) (v := .ref (a0 8)) (C := RX4) (T := TX4) (N := 12) hx hb hts i4 hown hK (fl_sub hP 0 rfl) 0 rfl rfl 7 (by decide) hk33 (fun _ h9 => h9) rfl dX4_becomeLike_112 ?_
  refine lv_iconst (v := 0) hx hb dX4_becomeLike_115 (by decide) ?_
  refine lv_sipush (v := 256) hx hb dX4_becomeLike_116 (by decide) ?_
  obtain ⟨u_8, hu_8, hf⟩ := bv_some hf
  refine va_copyi hx hb (hml.trans hl.1.symm) hown (hts (.methodLink RX4 48 arraycopyName) (by decide +kernel)) (hts (.native arraycopyName) (by decide +kernel)) (hts (.static arraycopyName) (by decide +kernel)) (hts (.initialized "java/lang/System") (by decide +kernel)) hK hP (hDD u_7 u1) hS 21 8 0 0 rfl rfl rfl rfl rfl (by decide) (by decide) (by decide) (by decide) (by decide) (fun _ _ => rfl) (Nat.le_of_ble_eq_true rfl) (Nat.le_of_ble_eq_true rfl) dX4_becomeLike_119 (fun H locs hP _ hS => ?_)
  have hP : va_P D cls (List.flatten [(wX4 cI cZ a0 u_8), (wX4 cI cZ a1 u1)]) H := by rw [hu_8]; exact hP
  refine lv_aload_n hx hb dX4_becomeLike_122 rfl (lv_at hl 1 rfl) ?_
  refine va_get (D := D) (ci := 4) (v := .ref (a1 9)) (C := RX4) (T := TX4) (N := 12) hx hb hts i4 hown hK (fl_sub hP 1 rfl) 0 rfl rfl 8 (by decide) hk36 (fun _ h9 => h9) rfl dX4_becomeLike_123 ?_
  refine lv_iconst (v := 0) hx hb dX4_becomeLike_126 (by decide) ?_
  refine lv_aload_n hx hb dX4_becomeLike_127 rfl (lv_at hl 0 rfl) ?_
  refine va_get (D := D) (ci := 4) (v := .ref (a0 9)) (C := RX4) (T := TX4) (N := 12) hx hb hts i4 hown hK (fl_sub hP 0 rfl) 0 rfl rfl 8 (by decide) hk36 (fun _ h9 => h9) rfl dX4_becomeLike_128 ?_
  refine lv_iconst (v := 0) hx hb dX4_becomeLike_131 (by decide) ?_
  refine lv_sipush (v := 512) hx hb dX4_becomeLike_132 (by decide) ?_
  obtain ⟨u_9, hu_9, hf⟩ := bv_some hf
  refine va_copyi hx hb (hml.trans hl.1.symm) hown (hts (.methodLink RX4 48 arraycopyName) (by decide +kernel)) (hts (.native arraycopyName) (by decide +kernel)) (hts (.static arraycopyName) (by decide +kernel)) (hts (.initialized "java/lang/System") (by decide +kernel)) hK hP (hDD u_8 u1) hS 22 9 0 0 rfl rfl rfl rfl rfl (by decide) (by decide) (by decide) (by decide) (by decide) (fun _ _ => rfl) (Nat.le_of_ble_eq_true rfl) (Nat.le_of_ble_eq_true rfl) dX4_becomeLike_135 (fun H locs hP _ hS => ?_)
  have hP : va_P D cls (List.flatten [(wX4 cI cZ a0 u_9), (wX4 cI cZ a1 u1)]) H := by rw [hu_9]; exact hP
  refine lv_aload_n hx hb dX4_becomeLike_138 rfl (lv_at hl 1 rfl) ?_
  refine va_get (D := D) (ci := 4) (v := .ref (a1 10)) (C := RX4) (T := TX4) (N := 12) hx hb hts i4 hown hK (fl_sub hP 1 rfl) 0 rfl rfl 9 (by decide) hk39 (fun _ h9 => h9) rfl dX4_becomeLike_139 ?_
  refine lv_iconst (v := 0) hx hb dX4_becomeLike_142 (by decide) ?_
  refine lv_aload_n hx hb dX4_becomeLike_143 rfl (lv_at hl 0 rfl) ?_
  refine va_get (D := D) (ci := 4) (v := .ref (a0 10)) (C := RX4) (T := TX4) (N := 12) hx hb hts i4 hown hK (fl_sub hP 0 rfl) 0 rfl rfl 9 (by decide) hk39 (fun _ h9 => h9) rfl dX4_becomeLike_144 ?_
  refine lv_iconst (v := 0) hx hb dX4_becomeLike_147 (by decide) ?_
  refine lv_sipush (v := 512) hx hb dX4_becomeLike_148 (by decide) ?_
  obtain ⟨u_10, hu_10, hf⟩ := bv_some hf
  refine va_copyi hx hb (hml.trans hl.1.symm) hown (hts (.methodLink RX4 48 arraycopyName) (by decide +kernel)) (hts (.native arraycopyName) (by decide +kernel)) (hts (.static arraycopyName) (by decide +kernel)) (hts (.initialized "java/lang/System") (by decide +kernel)) hK hP (hDD u_9 u1) hS 23 10 0 0 rfl rfl rfl rfl rfl (by decide) (by decide) (by decide) (by decide) (by decide) (fun _ _ => rfl) (Nat.le_of_ble_eq_true rfl) (Nat.le_of_ble_eq_true rfl) dX4_becomeLike_151 (fun H locs hP _ hS => ?_)
  have hP : va_P D cls (List.flatten [(wX4 cI cZ a0 u_10), (wX4 cI cZ a1 u1)]) H := by rw [hu_10]; exact hP
  refine lv_aload_n hx hb dX4_becomeLike_154 rfl (lv_at hl 1 rfl) ?_
  refine va_get (D := D) (ci := 4) (v := .ref (a1 11)) (C := RX4) (T := TX4) (N := 12) hx hb hts i4 hown hK (fl_sub hP 1 rfl) 0 rfl rfl 10 (by decide) hk42 (fun _ h9 => h9) rfl dX4_becomeLike_155 ?_
  refine lv_iconst (v := 0) hx hb dX4_becomeLike_158 (by decide) ?_
  refine lv_aload_n hx hb dX4_becomeLike_159 rfl (lv_at hl 0 rfl) ?_
  refine va_get (D := D) (ci := 4) (v := .ref (a0 11)) (C := RX4) (T := TX4) (N := 12) hx hb hts i4 hown hK (fl_sub hP 0 rfl) 0 rfl rfl 10 (by decide) hk42 (fun _ h9 => h9) rfl dX4_becomeLike_160 ?_
  refine lv_iconst (v := 0) hx hb dX4_becomeLike_163 (by decide) ?_
  refine lv_bipush (v := 32) hx hb dX4_becomeLike_164 (by decide) ?_
  obtain ⟨u_11, hu_11, hf⟩ := bv_some hf
  refine va_copyi hx hb (hml.trans hl.1.symm) hown (hts (.methodLink RX4 48 arraycopyName) (by decide +kernel)) (hts (.native arraycopyName) (by decide +kernel)) (hts (.static arraycopyName) (by decide +kernel)) (hts (.initialized "java/lang/System") (by decide +kernel)) hK hP (hDD u_10 u1) hS 24 11 0 0 rfl rfl rfl rfl rfl (by decide) (by decide) (by decide) (by decide) (by decide) (fun _ _ => rfl) (Nat.le_of_ble_eq_true rfl) (Nat.le_of_ble_eq_true rfl) dX4_becomeLike_166 (fun H locs hP _ hS => ?_)
  have hP : va_P D cls (List.flatten [(wX4 cI cZ a0 u_11), (wX4 cI cZ a1 u1)]) H := by rw [hu_11]; exact hP
  refine lv_aload_n hx hb dX4_becomeLike_169 rfl (lv_at hl 1 rfl) ?_
  refine va_get (D := D) (ci := 4) (v := .ref (a1 12)) (C := RX4) (T := TX4) (N := 12) hx hb hts i4 hown hK (fl_sub hP 1 rfl) 0 rfl rfl 11 (by decide) hk45 (fun _ h9 => h9) rfl dX4_becomeLike_170 ?_
  refine lv_iconst (v := 0) hx hb dX4_becomeLike_173 (by decide) ?_
  refine lv_aload_n hx hb dX4_becomeLike_174 rfl (lv_at hl 0 rfl) ?_
  refine va_get (D := D) (ci := 4) (v := .ref (a0 12)) (C := RX4) (T := TX4) (N := 12) hx hb hts i4 hown hK (fl_sub hP 0 rfl) 0 rfl rfl 11 (by decide) hk45 (fun _ h9 => h9) rfl dX4_becomeLike_175 ?_
  refine lv_iconst (v := 0) hx hb dX4_becomeLike_178 (by decide) ?_
  refine lv_bipush (v := 64) hx hb dX4_becomeLike_179 (by decide) ?_
  obtain ⟨u_12, hu_12, hf⟩ := bv_some hf
  refine va_copyi hx hb (hml.trans hl.1.symm) hown (hts (.methodLink RX4 48 arraycopyName) (by decide +kernel)) (hts (.native arraycopyName) (by decide +kernel)) (hts (.static arraycopyName) (by decide +kernel)) (hts (.initialized "java/lang/System") (by decide +kernel)) hK hP (hDD u_11 u1) hS 25 12 0 0 rfl rfl rfl rfl rfl (by decide) (by decide) (by decide) (by decide) (by decide) (fun _ _ => rfl) (Nat.le_of_ble_eq_true rfl) (Nat.le_of_ble_eq_true rfl) dX4_becomeLike_181 (fun H locs hP _ hS => ?_)
  have hP : va_P D cls (List.flatten [(wX4 cI cZ a0 u_12), (wX4 cI cZ a1 u1)]) H := by rw [hu_12]; exact hP
  have eo := Option.some.inj hf
  have hP : va_P D cls (List.flatten [(wX4 cI cZ a0 o), (wX4 cI cZ a1 u1)]) H := by rw [← eo]; exact hP
  rw [hQ]
  exact W.vret hx hb hr (fun t ht hW => ⟨⟨(), rfl, trivial, P_at ht hP⟩, hS.F ht⟩) hS.2.2 dX4_becomeLike_184 hlocks
theorem dX4_isInRange_0 : decode cX4_isInRange 0 = .ok (.iload_n 0, 1) := by decide +kernel
theorem dX4_isInRange_1 : decode cX4_isInRange 1 = .ok (.ifCond .lt 13, 3) := by decide +kernel
theorem dX4_isInRange_4 : decode cX4_isInRange 4 = .ok (.iload_n 0, 1) := by decide +kernel
theorem dX4_isInRange_5 : decode cX4_isInRange 5 = .ok (.bipush 32, 2) := by decide +kernel
theorem dX4_isInRange_7 : decode cX4_isInRange 7 = .ok (.if_icmp .ge 7, 3) := by decide +kernel
theorem dX4_isInRange_10 : decode cX4_isInRange 10 = .ok (.iconst 1, 1) := by decide +kernel
theorem dX4_isInRange_11 : decode cX4_isInRange 11 = .ok (.goto 4, 3) := by decide +kernel
theorem dX4_isInRange_14 : decode cX4_isInRange 14 = .ok (.iconst 0, 1) := by decide +kernel
theorem dX4_isInRange_15 : decode cX4_isInRange 15 = .ok (.ireturn, 1) := by decide +kernel
def f_X4_isInRange (p0 : Int32) : Option (Int32) := jn (fun (v15_1_0 : Int32) => some (vp_nar .boolean v15_1_0)) (fun k15_1 => jn (k15_1 0) (fun k14_2 => if p0 < 0 then k14_2 else if 32 ≤ p0 then k14_2 else k15_1 1))
def rmX4_isInRange : Room := { frames := 0, cells := 0, slots := 0, locals := 0 }
set_option maxHeartbeats 4000000 in
set_option maxRecDepth 100000 in
theorem c_X4_isInRange (l : Launch) (D : va_G) (cI cZ cJ cT : ClassId) (p0 : Int32) (o : Int32) (hf : f_X4_isInRange p0 = some o) : Met l yX4_isInRange wsX4_isInRange rmX4_isInRange (va_Pc [.int p0] (fun _ => True)) (QR o) 0 0 (fun _ => False) := by
  refine Met.ofW (cc := cX4_isInRange) (maxL := 1) (ret := (some .boolean)) (by decide) rfl ?_
  intro p e s m args below meth c s₁ B hml hv
  obtain ⟨hav, -⟩ := hv
  have hx := B.exec
  have hb := B.bytes
  have hr := B.returns
  have hlocks := B.notSynchronized
  refine Wq (fun Q hQ => ?_)
  refine W_entry hav (Nat.le_of_ble_eq_true rfl) (fun ls hl => ?_)
  have hl : lv_has ls 1 [(0, .int p0)] := hl
  unfold f_X4_isInRange at hf
  refine lv_iload_n hx hb dX4_isInRange_0 rfl (lv_at hl 0 rfl) ?_
  obtain ⟨k15_1, hk15_1, hf⟩ := jn_some hf
  have j15_1 : ∀ (v15_1_0 : Int32) (ls : Array Slot), k15_1 v15_1_0 = some o → lv_has ls 1 [] → W p l e (headSpec wsX4_isInRange rmX4_isInRange).room s m args below meth c s.heap [] 0 0 Q (F0 m 15 ls [.int v15_1_0]) := by
    intro v15_1_0 ls hf hl
    have hf := qa1 hk15_1 hf
    rw [hQ]
    exact zretN (v := v15_1_0) (v' := vp_nar .boolean v15_1_0) hx hb hr rfl (fun t ht hW => ⟨_, rfl, Option.some.inj hf, ht⟩) (fun _ h => nomatch h) dX4_isInRange_15 hlocks
  obtain ⟨k14_2, hk14_2, hf⟩ := jn_some hf
  have j14_2 : ∀ (ls : Array Slot), k14_2 = some o → lv_has ls 1 [] → W p l e (headSpec wsX4_isInRange rmX4_isInRange).room s m args below meth c s.heap [] 0 0 Q (F0 m 14 ls []) := by
    intro ls hf hl
    have hf := qa0 hk14_2 hf
    refine lv_iconst (v := 0) hx hb dX4_isInRange_14 (by decide) ?_
    exact j15_1 _ _ hf (lv_sub hl [] rfl)
  refine lv_if_lt (tgt := 14) hx hb dX4_isInRange_1 (by decide) (fun c_3 => ?_) (fun c_3 => ?_)
  · have hf := ite_t hf c_3
    exact j14_2 _ hf (lv_sub hl [] rfl)
  · have hf := ite_f hf c_3
    refine lv_iload_n hx hb dX4_isInRange_4 rfl (lv_at hl 0 rfl) ?_
    refine lv_bipush (v := 32) hx hb dX4_isInRange_5 (by decide) ?_
    refine lv_icmp_ge (tgt := 14) hx hb dX4_isInRange_7 (by decide) (fun c_4 => ?_) (fun c_4 => ?_)
    · have hf := ite_t hf c_4
      exact j14_2 _ hf (lv_sub hl [] rfl)
    · have hf := ite_f hf c_4
      refine lv_iconst (v := 1) hx hb dX4_isInRange_10 (by decide) ?_
      refine lv_goto (tgt := 15) hx hb dX4_isInRange_11 (by decide) ?_
      exact j15_1 _ _ hf (lv_sub hl [] rfl)
set_option maxRecDepth 20000 in
theorem ggX4_isThing_X4_isInRange : GoodIn wsX4_isThing wsX4_isInRange := goodIn_r _ [5] (by decide +kernel) (by decide +kernel)
set_option maxRecDepth 20000 in
theorem gX4_isThing_X4_isInRange : GoodIn wsX4_isThing (va_wsS RX4 54 yX4_isInRange wsX4_isInRange) := goodIn_app (goodIn_of _ (by decide +kernel)) ggX4_isThing_X4_isInRange
theorem dX4_isThing_0 : decode cX4_isThing 0 = .ok (.iload_n 1, 1) := by decide +kernel
theorem dX4_isThing_1 : decode cX4_isThing 1 = .ok (.invokestatic 54, 3) := by decide +kernel
theorem dX4_isThing_4 : decode cX4_isThing 4 = .ok (.ifCond .eq 17, 3) := by decide +kernel
theorem dX4_isThing_7 : decode cX4_isThing 7 = .ok (.aload_n 0, 1) := by decide +kernel
theorem dX4_isThing_8 : decode cX4_isThing 8 = .ok (.getfield 9, 3) := by decide +kernel
theorem dX4_isThing_11 : decode cX4_isThing 11 = .ok (.iload_n 1, 1) := by decide +kernel
theorem dX4_isThing_12 : decode cX4_isThing 12 = .ok (.iaload, 1) := by decide +kernel
theorem dX4_isThing_13 : decode cX4_isThing 13 = .ok (.iconst (-1), 1) := by decide +kernel
theorem dX4_isThing_14 : decode cX4_isThing 14 = .ok (.if_icmp .eq 7, 3) := by decide +kernel
theorem dX4_isThing_17 : decode cX4_isThing 17 = .ok (.iconst 1, 1) := by decide +kernel
theorem dX4_isThing_18 : decode cX4_isThing 18 = .ok (.goto 4, 3) := by decide +kernel
theorem dX4_isThing_21 : decode cX4_isThing 21 = .ok (.iconst 0, 1) := by decide +kernel
theorem dX4_isThing_22 : decode cX4_isThing 22 = .ok (.ireturn, 1) := by decide +kernel
def f_X4_isThing (u0 : S1) (p1 : Int32) : Option (Int32) := bn (f_X4_isInRange p1) (fun z_1 => jn (fun (v22_2_0 : Int32) => some (vp_nar .boolean v22_2_0)) (fun k22_2 => jn (k22_2 0) (fun k21_3 => if z_1 = 0 then k21_3 else chk (inb p1 32) (if (u0 0 (p1).toNatClampNeg) = (-1) then k21_3 else k22_2 1))))
def rmX4_isThing : Room := { frames := 1, cells := 0, slots := 0, locals := 20 }
set_option maxHeartbeats 4000000 in
set_option maxRecDepth 100000 in
theorem c_X4_isThing (l : Launch) (D : va_G) (cI cZ cJ cT : ClassId) (a0 : Nat → Nat) (u0 : S1) (p1 : Int32) (o : Int32) (hf : f_X4_isThing u0 p1 = some o) : Met l yX4_isThing wsX4_isThing rmX4_isThing (va_Pc [.ref (a0 0), .int p1] (PR D cls (tys cI cZ cJ cT) ((wX4 cI cZ a0 u0)))) (QR o) 0 0 (fun _ => False) := by
  refine Met.ofW (cc := cX4_isThing) (maxL := 2) (ret := (some .boolean)) (by decide) rfl ?_
  intro p e s m args below meth c s₁ B hml hv
  obtain ⟨hav, hP, hK⟩ := hv
  have hx := B.exec
  have hb := B.bytes
  have hr := B.returns
  have hlocks := B.notSynchronized
  have hts := atoms_spec (ws := wsX4_isThing) B.pre
  have hown : s.vm.findClass RX4 = some m.cls := findClass_of_methodNamed B.named
  have i4 : ∀ w ∈ wsX40, w ∈ wsX4_isThing := fun w h => List.mem_cons_of_mem _ (List.mem_append_right _ h)
  have hk9 := hts (.fieldLink RX4 9 "Inodery$Tree" "kinds" "[I") (by decide +kernel)
  refine Wq (fun Q hQ => ?_)
  refine W_entry hav (Nat.le_of_ble_eq_true rfl) (fun ls hl => ?_)
  have hl : lv_has ls 2 [(0, .ref (a0 0)), (1, .int p1)] := hl
  unfold f_X4_isThing at hf
  refine lv_iload_n hx hb dX4_isThing_0 rfl (lv_at hl 1 rfl) ?_
  obtain ⟨z_1, hz_1, hf⟩ := bn_some hf
  refine c0S (As := [.int p1]) (rest := []) ⟨hx, hb, hml, hown, hts⟩ (c_X4_isInRange l D cI cZ cJ cT p1 z_1 hz_1) (va_cwS 1 hts gX4_isThing_X4_isInRange rfl rfl rfl (by decide +kernel) ⟨Nat.le_of_ble_eq_true rfl, Nat.le_of_ble_eq_true rfl⟩) rfl rfl hl.1 (Nat.le_of_ble_eq_true rfl) dX4_isThing_1 ⟨Nat.le_of_ble_eq_true rfl, Nat.le_of_ble_eq_true rfl⟩ ?_
  obtain ⟨k22_2, hk22_2, hf⟩ := jn_some hf
  have j22_2 : ∀ (v22_2_0 : Int32) (ls : Array Slot), k22_2 v22_2_0 = some o → lv_has ls 2 [] → W p l e (headSpec wsX4_isThing rmX4_isThing).room s m args below meth c s.heap [] 0 0 Q (F0 m 22 ls [.int v22_2_0]) := by
    intro v22_2_0 ls hf hl
    have hf := qa1 hk22_2 hf
    rw [hQ]
    exact zretN (v := v22_2_0) (v' := vp_nar .boolean v22_2_0) hx hb hr rfl (fun t ht hW => ⟨_, rfl, Option.some.inj hf, ht⟩) (fun _ h => nomatch h) dX4_isThing_22 hlocks
  obtain ⟨k21_3, hk21_3, hf⟩ := jn_some hf
  have j21_3 : ∀ (ls : Array Slot), k21_3 = some o → lv_has ls 2 [] → W p l e (headSpec wsX4_isThing rmX4_isThing).room s m args below meth c s.heap [] 0 0 Q (F0 m 21 ls []) := by
    intro ls hf hl
    have hf := qa0 hk21_3 hf
    refine lv_iconst (v := 0) hx hb dX4_isThing_21 (by decide) ?_
    exact j22_2 _ _ hf (lv_sub hl [] rfl)
  refine lv_if_eq (tgt := 21) hx hb dX4_isThing_4 (by decide) (fun c_4 => ?_) (fun c_4 => ?_)
  · have hf := ite_t hf c_4
    exact j21_3 _ hf (lv_sub hl [] rfl)
  · have hf := ite_f hf c_4
    refine lv_aload_n hx hb dX4_isThing_7 rfl (lv_at hl 0 rfl) ?_
    refine va_get (D := D) (ci := 4) (v := .ref (a0 1)) (C := RX4) (T := TX4) (N := 12) hx hb hts i4 hown hK hP 0 rfl rfl 0 (by decide) hk9 (fun _ h9 => h9) rfl dX4_isThing_8 ?_
    refine lv_iload_n hx hb dX4_isThing_11 rfl (lv_at hl 1 rfl) ?_
    obtain ⟨hi, hf⟩ := chk_some hf
    refine va_iald hx hb hK hP 1 0 rfl rfl (inb_in hi) dX4_isThing_12 ?_
    refine lv_iconst (v := (-1)) hx hb dX4_isThing_13 (by decide) ?_
    refine lv_icmp_eq (tgt := 21) hx hb dX4_isThing_14 (by decide) (fun c_5 => ?_) (fun c_5 => ?_)
    · have hf := ite_t hf c_5
      exact j21_3 _ hf (lv_sub hl [] rfl)
    · have hf := ite_f hf c_5
      refine lv_iconst (v := 1) hx hb dX4_isThing_17 (by decide) ?_
      refine lv_goto (tgt := 22) hx hb dX4_isThing_18 (by decide) ?_
      exact j22_2 _ _ hf (lv_sub hl [] rfl)
set_option maxRecDepth 20000 in
theorem ggX4_isOfKind_X4_isThing : GoodIn wsX4_isOfKind wsX4_isThing := goodIn_r _ [6, 1, 7, 8, 5, 9, 10, 11, 12, 13, 14, 15, 16, 17, 18, 19, 20, 21] (by decide +kernel) (by decide +kernel)
set_option maxRecDepth 20000 in
theorem gX4_isOfKind_X4_isThing : GoodIn wsX4_isOfKind (wsV RX4 58 RX4 yX4_isThing wsX4_isThing) := goodIn_app (goodIn_of _ (by decide +kernel)) ggX4_isOfKind_X4_isThing
theorem dX4_isOfKind_0 : decode cX4_isOfKind 0 = .ok (.aload_n 0, 1) := by decide +kernel
theorem dX4_isOfKind_1 : decode cX4_isOfKind 1 = .ok (.iload_n 1, 1) := by decide +kernel
theorem dX4_isOfKind_2 : decode cX4_isOfKind 2 = .ok (.invokevirtual 58, 3) := by decide +kernel
theorem dX4_isOfKind_5 : decode cX4_isOfKind 5 = .ok (.ifCond .eq 17, 3) := by decide +kernel
theorem dX4_isOfKind_8 : decode cX4_isOfKind 8 = .ok (.aload_n 0, 1) := by decide +kernel
theorem dX4_isOfKind_9 : decode cX4_isOfKind 9 = .ok (.getfield 9, 3) := by decide +kernel
theorem dX4_isOfKind_12 : decode cX4_isOfKind 12 = .ok (.iload_n 1, 1) := by decide +kernel
theorem dX4_isOfKind_13 : decode cX4_isOfKind 13 = .ok (.iaload, 1) := by decide +kernel
theorem dX4_isOfKind_14 : decode cX4_isOfKind 14 = .ok (.iload_n 2, 1) := by decide +kernel
theorem dX4_isOfKind_15 : decode cX4_isOfKind 15 = .ok (.if_icmp .ne 7, 3) := by decide +kernel
theorem dX4_isOfKind_18 : decode cX4_isOfKind 18 = .ok (.iconst 1, 1) := by decide +kernel
theorem dX4_isOfKind_19 : decode cX4_isOfKind 19 = .ok (.goto 4, 3) := by decide +kernel
theorem dX4_isOfKind_22 : decode cX4_isOfKind 22 = .ok (.iconst 0, 1) := by decide +kernel
theorem dX4_isOfKind_23 : decode cX4_isOfKind 23 = .ok (.ireturn, 1) := by decide +kernel
def f_X4_isOfKind (u0 : S1) (p1 : Int32) (p2 : Int32) : Option (Int32) := bn (f_X4_isThing u0 p1) (fun z_1 => jn (fun (v23_2_0 : Int32) => some (vp_nar .boolean v23_2_0)) (fun k23_2 => jn (k23_2 0) (fun k22_3 => if z_1 = 0 then k22_3 else chk (inb p1 32) (if (u0 0 (p1).toNatClampNeg) = p2 then k23_2 1 else k22_3))))
def rmX4_isOfKind : Room := { frames := 2, cells := 0, slots := 0, locals := 41 }
set_option maxHeartbeats 4000000 in
set_option maxRecDepth 100000 in
theorem c_X4_isOfKind (l : Launch) (D : va_G) (cI cZ cJ cT : ClassId) (a0 : Nat → Nat) (u0 : S1) (p1 : Int32) (p2 : Int32) (o : Int32) (hf : f_X4_isOfKind u0 p1 p2 = some o) : Met l yX4_isOfKind wsX4_isOfKind rmX4_isOfKind (va_Pc [.ref (a0 0), .int p1, .int p2] (PR D cls (tys cI cZ cJ cT) ((wX4 cI cZ a0 u0)))) (QR o) 0 0 (fun _ => False) := by
  refine Met.ofW (cc := cX4_isOfKind) (maxL := 3) (ret := (some .boolean)) (by decide) rfl ?_
  intro p e s m args below meth c s₁ B hml hv
  obtain ⟨hav, hP, hK⟩ := hv
  have hx := B.exec
  have hb := B.bytes
  have hr := B.returns
  have hlocks := B.notSynchronized
  have hts := atoms_spec (ws := wsX4_isOfKind) B.pre
  have hown : s.vm.findClass RX4 = some m.cls := findClass_of_methodNamed B.named
  have i4 : ∀ w ∈ wsX40, w ∈ wsX4_isOfKind := fun w h => List.mem_cons_of_mem _ (List.mem_append_right _ h)
  have hk9 := hts (.fieldLink RX4 9 "Inodery$Tree" "kinds" "[I") (by decide +kernel)
  refine Wq (fun Q hQ => ?_)
  refine W_entry hav (Nat.le_of_ble_eq_true rfl) (fun ls hl => ?_)
  have hl : lv_has ls 3 [(0, .ref (a0 0)), (1, .int p1), (2, .int p2)] := hl
  unfold f_X4_isOfKind at hf
  refine lv_aload_n hx hb dX4_isOfKind_0 rfl (lv_at hl 0 rfl) ?_
  refine lv_iload_n hx hb dX4_isOfKind_1 rfl (lv_at hl 1 rfl) ?_
  obtain ⟨z_1, hz_1, hf⟩ := bn_some hf
  refine cRV (As := [.int p1]) (rest := []) ⟨hx, hb, hml, hown, hts⟩ (c_X4_isThing l D cI cZ cJ cT a0 u0 p1 z_1 hz_1) (cwV 1 hts gX4_isOfKind_X4_isThing rfl rfl rfl (by decide +kernel) ⟨Nat.le_of_ble_eq_true rfl, Nat.le_of_ble_eq_true rfl⟩) hP hK (va_recv hK hP (ci := 4) (q0 := 0) rfl rfl) rfl rfl hl.1 (Nat.le_of_ble_eq_true rfl) dX4_isOfKind_2 ⟨Nat.le_of_ble_eq_true rfl, Nat.le_of_ble_eq_true rfl⟩ ?_
  obtain ⟨k23_2, hk23_2, hf⟩ := jn_some hf
  have j23_2 : ∀ (v23_2_0 : Int32) (ls : Array Slot), k23_2 v23_2_0 = some o → lv_has ls 3 [] → W p l e (headSpec wsX4_isOfKind rmX4_isOfKind).room s m args below meth c s.heap [] 0 0 Q (F0 m 23 ls [.int v23_2_0]) := by
    intro v23_2_0 ls hf hl
    have hf := qa1 hk23_2 hf
    rw [hQ]
    exact zretN (v := v23_2_0) (v' := vp_nar .boolean v23_2_0) hx hb hr rfl (fun t ht hW => ⟨_, rfl, Option.some.inj hf, ht⟩) (fun _ h => nomatch h) dX4_isOfKind_23 hlocks
  obtain ⟨k22_3, hk22_3, hf⟩ := jn_some hf
  have j22_3 : ∀ (ls : Array Slot), k22_3 = some o → lv_has ls 3 [] → W p l e (headSpec wsX4_isOfKind rmX4_isOfKind).room s m args below meth c s.heap [] 0 0 Q (F0 m 22 ls []) := by
    intro ls hf hl
    have hf := qa0 hk22_3 hf
    refine lv_iconst (v := 0) hx hb dX4_isOfKind_22 (by decide) ?_
    exact j23_2 _ _ hf (lv_sub hl [] rfl)
  refine lv_if_eq (tgt := 22) hx hb dX4_isOfKind_5 (by decide) (fun c_4 => ?_) (fun c_4 => ?_)
  · have hf := ite_t hf c_4
    exact j22_3 _ hf (lv_sub hl [] rfl)
  · have hf := ite_f hf c_4
    refine lv_aload_n hx hb dX4_isOfKind_8 rfl (lv_at hl 0 rfl) ?_
    refine va_get (D := D) (ci := 4) (v := .ref (a0 1)) (C := RX4) (T := TX4) (N := 12) hx hb hts i4 hown hK hP 0 rfl rfl 0 (by decide) hk9 (fun _ h9 => h9) rfl dX4_isOfKind_9 ?_
    refine lv_iload_n hx hb dX4_isOfKind_12 rfl (lv_at hl 1 rfl) ?_
    obtain ⟨hi, hf⟩ := chk_some hf
    refine va_iald hx hb hK hP 1 0 rfl rfl (inb_in hi) dX4_isOfKind_13 ?_
    refine lv_iload_n hx hb dX4_isOfKind_14 rfl (lv_at hl 2 rfl) ?_
    refine lv_icmp_ne (tgt := 22) hx hb dX4_isOfKind_15 (by decide) (fun c_5 => ?_) (fun c_5 => ?_)
    · have hf := ite_f hf c_5
      exact j22_3 _ hf (lv_sub hl [] rfl)
    · have hf := ite_t hf c_5
      refine lv_iconst (v := 1) hx hb dX4_isOfKind_18 (by decide) ?_
      refine lv_goto (tgt := 23) hx hb dX4_isOfKind_19 (by decide) ?_
      exact j23_2 _ _ hf (lv_sub hl [] rfl)
set_option maxRecDepth 20000 in
theorem ggX4_kindOf_X4_isInRange : GoodIn wsX4_kindOf wsX4_isInRange := goodIn_r _ [5] (by decide +kernel) (by decide +kernel)
set_option maxRecDepth 20000 in
theorem gX4_kindOf_X4_isInRange : GoodIn wsX4_kindOf (va_wsS RX4 54 yX4_isInRange wsX4_isInRange) := goodIn_app (goodIn_of _ (by decide +kernel)) ggX4_kindOf_X4_isInRange
theorem dX4_kindOf_0 : decode cX4_kindOf 0 = .ok (.iload_n 1, 1) := by decide +kernel
theorem dX4_kindOf_1 : decode cX4_kindOf 1 = .ok (.invokestatic 54, 3) := by decide +kernel
theorem dX4_kindOf_4 : decode cX4_kindOf 4 = .ok (.ifCond .eq 12, 3) := by decide +kernel
theorem dX4_kindOf_7 : decode cX4_kindOf 7 = .ok (.aload_n 0, 1) := by decide +kernel
theorem dX4_kindOf_8 : decode cX4_kindOf 8 = .ok (.getfield 9, 3) := by decide +kernel
theorem dX4_kindOf_11 : decode cX4_kindOf 11 = .ok (.iload_n 1, 1) := by decide +kernel
theorem dX4_kindOf_12 : decode cX4_kindOf 12 = .ok (.iaload, 1) := by decide +kernel
theorem dX4_kindOf_13 : decode cX4_kindOf 13 = .ok (.goto 4, 3) := by decide +kernel
theorem dX4_kindOf_16 : decode cX4_kindOf 16 = .ok (.iconst (-1), 1) := by decide +kernel
theorem dX4_kindOf_17 : decode cX4_kindOf 17 = .ok (.ireturn, 1) := by decide +kernel
def f_X4_kindOf (u0 : S1) (p1 : Int32) : Option (Int32) := bn (f_X4_isInRange p1) (fun z_1 => jn (fun (v17_2_0 : Int32) => some v17_2_0) (fun k17_2 => if z_1 = 0 then k17_2 (-1) else chk (inb p1 32) (k17_2 (u0 0 (p1).toNatClampNeg))))
def rmX4_kindOf : Room := { frames := 1, cells := 0, slots := 0, locals := 20 }
set_option maxHeartbeats 4000000 in
set_option maxRecDepth 100000 in
theorem c_X4_kindOf (l : Launch) (D : va_G) (cI cZ cJ cT : ClassId) (a0 : Nat → Nat) (u0 : S1) (p1 : Int32) (o : Int32) (hf : f_X4_kindOf u0 p1 = some o) : Met l yX4_kindOf wsX4_kindOf rmX4_kindOf (va_Pc [.ref (a0 0), .int p1] (PR D cls (tys cI cZ cJ cT) ((wX4 cI cZ a0 u0)))) (QR o) 0 0 (fun _ => False) := by
  refine Met.ofW (cc := cX4_kindOf) (maxL := 2) (ret := (some .int)) (by decide) rfl ?_
  intro p e s m args below meth c s₁ B hml hv
  obtain ⟨hav, hP, hK⟩ := hv
  have hx := B.exec
  have hb := B.bytes
  have hr := B.returns
  have hlocks := B.notSynchronized
  have hts := atoms_spec (ws := wsX4_kindOf) B.pre
  have hown : s.vm.findClass RX4 = some m.cls := findClass_of_methodNamed B.named
  have i4 : ∀ w ∈ wsX40, w ∈ wsX4_kindOf := fun w h => List.mem_cons_of_mem _ (List.mem_append_right _ h)
  have hk9 := hts (.fieldLink RX4 9 "Inodery$Tree" "kinds" "[I") (by decide +kernel)
  refine Wq (fun Q hQ => ?_)
  refine W_entry hav (Nat.le_of_ble_eq_true rfl) (fun ls hl => ?_)
  have hl : lv_has ls 2 [(0, .ref (a0 0)), (1, .int p1)] := hl
  unfold f_X4_kindOf at hf
  refine lv_iload_n hx hb dX4_kindOf_0 rfl (lv_at hl 1 rfl) ?_
  obtain ⟨z_1, hz_1, hf⟩ := bn_some hf
  refine c0S (As := [.int p1]) (rest := []) ⟨hx, hb, hml, hown, hts⟩ (c_X4_isInRange l D cI cZ cJ cT p1 z_1 hz_1) (va_cwS 1 hts gX4_kindOf_X4_isInRange rfl rfl rfl (by decide +kernel) ⟨Nat.le_of_ble_eq_true rfl, Nat.le_of_ble_eq_true rfl⟩) rfl rfl hl.1 (Nat.le_of_ble_eq_true rfl) dX4_kindOf_1 ⟨Nat.le_of_ble_eq_true rfl, Nat.le_of_ble_eq_true rfl⟩ ?_
  obtain ⟨k17_2, hk17_2, hf⟩ := jn_some hf
  have j17_2 : ∀ (v17_2_0 : Int32) (ls : Array Slot), k17_2 v17_2_0 = some o → lv_has ls 2 [] → W p l e (headSpec wsX4_kindOf rmX4_kindOf).room s m args below meth c s.heap [] 0 0 Q (F0 m 17 ls [.int v17_2_0]) := by
    intro v17_2_0 ls hf hl
    have hf := qa1 hk17_2 hf
    rw [hQ]
    exact W.iret hx hb hr (fun t ht hW => ⟨_, rfl, Option.some.inj hf, ht⟩) (fun _ h => nomatch h) dX4_kindOf_17 hlocks
  refine lv_if_eq (tgt := 16) hx hb dX4_kindOf_4 (by decide) (fun c_3 => ?_) (fun c_3 => ?_)
  · have hf := ite_t hf c_3
    refine lv_iconst (v := (-1)) hx hb dX4_kindOf_16 (by decide) ?_
    exact j17_2 _ _ hf (lv_sub hl [] rfl)
  · have hf := ite_f hf c_3
    refine lv_aload_n hx hb dX4_kindOf_7 rfl (lv_at hl 0 rfl) ?_
    refine va_get (D := D) (ci := 4) (v := .ref (a0 1)) (C := RX4) (T := TX4) (N := 12) hx hb hts i4 hown hK hP 0 rfl rfl 0 (by decide) hk9 (fun _ h9 => h9) rfl dX4_kindOf_8 ?_
    refine lv_iload_n hx hb dX4_kindOf_11 rfl (lv_at hl 1 rfl) ?_
    obtain ⟨hi, hf⟩ := chk_some hf
    refine va_iald hx hb hK hP 1 0 rfl rfl (inb_in hi) dX4_kindOf_12 ?_
    refine lv_goto (tgt := 17) hx hb dX4_kindOf_13 (by decide) ?_
    exact j17_2 _ _ hf (lv_sub hl [] rfl)
set_option maxRecDepth 20000 in
theorem ggX4_ownerOf_X4_isInRange : GoodIn wsX4_ownerOf wsX4_isInRange := goodIn_r _ [5] (by decide +kernel) (by decide +kernel)
set_option maxRecDepth 20000 in
theorem gX4_ownerOf_X4_isInRange : GoodIn wsX4_ownerOf (va_wsS RX4 54 yX4_isInRange wsX4_isInRange) := goodIn_app (goodIn_of _ (by decide +kernel)) ggX4_ownerOf_X4_isInRange
theorem dX4_ownerOf_0 : decode cX4_ownerOf 0 = .ok (.iload_n 1, 1) := by decide +kernel
theorem dX4_ownerOf_1 : decode cX4_ownerOf 1 = .ok (.invokestatic 54, 3) := by decide +kernel
theorem dX4_ownerOf_4 : decode cX4_ownerOf 4 = .ok (.ifCond .eq 12, 3) := by decide +kernel
theorem dX4_ownerOf_7 : decode cX4_ownerOf 7 = .ok (.aload_n 0, 1) := by decide +kernel
theorem dX4_ownerOf_8 : decode cX4_ownerOf 8 = .ok (.getfield 15, 3) := by decide +kernel
theorem dX4_ownerOf_11 : decode cX4_ownerOf 11 = .ok (.iload_n 1, 1) := by decide +kernel
theorem dX4_ownerOf_12 : decode cX4_ownerOf 12 = .ok (.iaload, 1) := by decide +kernel
theorem dX4_ownerOf_13 : decode cX4_ownerOf 13 = .ok (.goto 4, 3) := by decide +kernel
theorem dX4_ownerOf_16 : decode cX4_ownerOf 16 = .ok (.iconst (-1), 1) := by decide +kernel
theorem dX4_ownerOf_17 : decode cX4_ownerOf 17 = .ok (.ireturn, 1) := by decide +kernel
def f_X4_ownerOf (u0 : S1) (p1 : Int32) : Option (Int32) := bn (f_X4_isInRange p1) (fun z_1 => jn (fun (v17_2_0 : Int32) => some v17_2_0) (fun k17_2 => if z_1 = 0 then k17_2 (-1) else chk (inb p1 32) (k17_2 (u0 1 (p1).toNatClampNeg))))
def rmX4_ownerOf : Room := { frames := 1, cells := 0, slots := 0, locals := 20 }
set_option maxHeartbeats 4000000 in
set_option maxRecDepth 100000 in
theorem c_X4_ownerOf (l : Launch) (D : va_G) (cI cZ cJ cT : ClassId) (a0 : Nat → Nat) (u0 : S1) (p1 : Int32) (o : Int32) (hf : f_X4_ownerOf u0 p1 = some o) : Met l yX4_ownerOf wsX4_ownerOf rmX4_ownerOf (va_Pc [.ref (a0 0), .int p1] (PR D cls (tys cI cZ cJ cT) ((wX4 cI cZ a0 u0)))) (QR o) 0 0 (fun _ => False) := by
  refine Met.ofW (cc := cX4_ownerOf) (maxL := 2) (ret := (some .int)) (by decide) rfl ?_
  intro p e s m args below meth c s₁ B hml hv
  obtain ⟨hav, hP, hK⟩ := hv
  have hx := B.exec
  have hb := B.bytes
  have hr := B.returns
  have hlocks := B.notSynchronized
  have hts := atoms_spec (ws := wsX4_ownerOf) B.pre
  have hown : s.vm.findClass RX4 = some m.cls := findClass_of_methodNamed B.named
  have i4 : ∀ w ∈ wsX40, w ∈ wsX4_ownerOf := fun w h => List.mem_cons_of_mem _ (List.mem_append_right _ h)
  have hk15 := hts (.fieldLink RX4 15 "Inodery$Tree" "owners" "[I") (by decide +kernel)
  refine Wq (fun Q hQ => ?_)
  refine W_entry hav (Nat.le_of_ble_eq_true rfl) (fun ls hl => ?_)
  have hl : lv_has ls 2 [(0, .ref (a0 0)), (1, .int p1)] := hl
  unfold f_X4_ownerOf at hf
  refine lv_iload_n hx hb dX4_ownerOf_0 rfl (lv_at hl 1 rfl) ?_
  obtain ⟨z_1, hz_1, hf⟩ := bn_some hf
  refine c0S (As := [.int p1]) (rest := []) ⟨hx, hb, hml, hown, hts⟩ (c_X4_isInRange l D cI cZ cJ cT p1 z_1 hz_1) (va_cwS 1 hts gX4_ownerOf_X4_isInRange rfl rfl rfl (by decide +kernel) ⟨Nat.le_of_ble_eq_true rfl, Nat.le_of_ble_eq_true rfl⟩) rfl rfl hl.1 (Nat.le_of_ble_eq_true rfl) dX4_ownerOf_1 ⟨Nat.le_of_ble_eq_true rfl, Nat.le_of_ble_eq_true rfl⟩ ?_
  obtain ⟨k17_2, hk17_2, hf⟩ := jn_some hf
  have j17_2 : ∀ (v17_2_0 : Int32) (ls : Array Slot), k17_2 v17_2_0 = some o → lv_has ls 2 [] → W p l e (headSpec wsX4_ownerOf rmX4_ownerOf).room s m args below meth c s.heap [] 0 0 Q (F0 m 17 ls [.int v17_2_0]) := by
    intro v17_2_0 ls hf hl
    have hf := qa1 hk17_2 hf
    rw [hQ]
    exact W.iret hx hb hr (fun t ht hW => ⟨_, rfl, Option.some.inj hf, ht⟩) (fun _ h => nomatch h) dX4_ownerOf_17 hlocks
  refine lv_if_eq (tgt := 16) hx hb dX4_ownerOf_4 (by decide) (fun c_3 => ?_) (fun c_3 => ?_)
  · have hf := ite_t hf c_3
    refine lv_iconst (v := (-1)) hx hb dX4_ownerOf_16 (by decide) ?_
    exact j17_2 _ _ hf (lv_sub hl [] rfl)
  · have hf := ite_f hf c_3
    refine lv_aload_n hx hb dX4_ownerOf_7 rfl (lv_at hl 0 rfl) ?_
    refine va_get (D := D) (ci := 4) (v := .ref (a0 2)) (C := RX4) (T := TX4) (N := 12) hx hb hts i4 hown hK hP 0 rfl rfl 1 (by decide) hk15 (fun _ h9 => h9) rfl dX4_ownerOf_8 ?_
    refine lv_iload_n hx hb dX4_ownerOf_11 rfl (lv_at hl 1 rfl) ?_
    obtain ⟨hi, hf⟩ := chk_some hf
    refine va_iald hx hb hK hP 2 0 rfl rfl (inb_in hi) dX4_ownerOf_12 ?_
    refine lv_goto (tgt := 17) hx hb dX4_ownerOf_13 (by decide) ?_
    exact j17_2 _ _ hf (lv_sub hl [] rfl)
set_option maxRecDepth 20000 in
theorem ggX4_setOwner_X4_isInRange : GoodIn wsX4_setOwner wsX4_isInRange := goodIn_r _ [5] (by decide +kernel) (by decide +kernel)
set_option maxRecDepth 20000 in
theorem gX4_setOwner_X4_isInRange : GoodIn wsX4_setOwner (va_wsS RX4 54 yX4_isInRange wsX4_isInRange) := goodIn_app (goodIn_of _ (by decide +kernel)) ggX4_setOwner_X4_isInRange
theorem dX4_setOwner_0 : decode cX4_setOwner 0 = .ok (.iload_n 1, 1) := by decide +kernel
theorem dX4_setOwner_1 : decode cX4_setOwner 1 = .ok (.invokestatic 54, 3) := by decide +kernel
theorem dX4_setOwner_4 : decode cX4_setOwner 4 = .ok (.ifCond .eq 10, 3) := by decide +kernel
theorem dX4_setOwner_7 : decode cX4_setOwner 7 = .ok (.aload_n 0, 1) := by decide +kernel
theorem dX4_setOwner_8 : decode cX4_setOwner 8 = .ok (.getfield 15, 3) := by decide +kernel
theorem dX4_setOwner_11 : decode cX4_setOwner 11 = .ok (.iload_n 1, 1) := by decide +kernel
theorem dX4_setOwner_12 : decode cX4_setOwner 12 = .ok (.iload_n 2, 1) := by decide +kernel
theorem dX4_setOwner_13 : decode cX4_setOwner 13 = .ok (.iastore, 1) := by decide +kernel
theorem dX4_setOwner_14 : decode cX4_setOwner 14 = .ok (.return_, 1) := by decide +kernel
def f_X4_setOwner (u0 : S1) (p1 : Int32) (p2 : Int32) : Option (S1) := bn (f_X4_isInRange p1) (fun z_1 => jn (fun (u14_2_0 : S1) => some (u14_2_0)) (fun k14_2 => if z_1 = 0 then k14_2 u0 else chk (inb p1 32) (bv (st u0 1 p1 p2) (fun u_4 => k14_2 u_4))))
def rmX4_setOwner : Room := { frames := 1, cells := 0, slots := 0, locals := 20 }
set_option maxHeartbeats 4000000 in
set_option maxRecDepth 100000 in
theorem c_X4_setOwner (l : Launch) (D : va_G) (cI cZ cJ cT : ClassId) (a0 : Nat → Nat) (sz : Nat) (u0 : S1) (p1 : Int32) (p2 : Int32) (o : S1) (hf : f_X4_setOwner u0 p1 p2 = some o) : Met l yX4_setOwner wsX4_setOwner rmX4_setOwner (va_Pc [.ref (a0 0), .int p1, .int p2] (PW D cls (tys cI cZ cJ cT) ((wX4 cI cZ a0 u0)) sz)) (QWv D cls ((wX4 cI cZ a0 o)) (va_A ((wX4 cI cZ a0 u0)) sz)) 0 0 (va_A ((wX4 cI cZ a0 u0)) sz) := by
  refine Met.ofW (cc := cX4_setOwner) (maxL := 3) (ret := none) (by decide) rfl ?_
  intro p e s m args below meth c s₁ B hml hv
  obtain ⟨hav, hsz, hP, hK, hD0⟩ := hv
  have hx := B.exec
  have hb := B.bytes
  have hr := B.returns
  have hlocks := B.notSynchronized
  have hts := atoms_spec (ws := wsX4_setOwner) B.pre
  have hown : s.vm.findClass RX4 = some m.cls := findClass_of_methodNamed B.named
  have i4 : ∀ w ∈ wsX40, w ∈ wsX4_setOwner := fun w h => List.mem_cons_of_mem _ (List.mem_append_right _ h)
  have hk15 := hts (.fieldLink RX4 15 "Inodery$Tree" "owners" "[I") (by decide +kernel)
  subst hsz
  have hD := hD0.self (sz := s.heap.size)
  generalize hAe : va_A ((wX4 cI cZ a0 u0)) s.heap.size = A at hD ⊢
  have hA : ∀ q : Nat, s.heap.size ≤ q → A q := fun q h => by rw [← hAe]; exact Or.inr h
  have hS : va_S A s.heap s.heap [] := va_S.rf
  have hDD : ∀ w0 : S1, va_D A ((wX4 cI cZ a0 w0)) := fun _ => D_same (w := (wX4 cI cZ a0 u0)) rfl hD
  refine Wq (fun Q hQ => ?_)
  refine W_entry hav (Nat.le_of_ble_eq_true rfl) (fun ls hl => ?_)
  have hl : lv_has ls 3 [(0, .ref (a0 0)), (1, .int p1), (2, .int p2)] := hl
  unfold f_X4_setOwner at hf
  refine W_heap hP hS (fun H locs hP hS => ?_)
  refine lv_iload_n hx hb dX4_setOwner_0 rfl (lv_at hl 1 rfl) ?_
  obtain ⟨z_1, hz_1, hf⟩ := bn_some hf
  refine c0S (As := [.int p1]) (rest := []) ⟨hx, hb, hml, hown, hts⟩ (c_X4_isInRange l D cI cZ cJ cT p1 z_1 hz_1) (va_cwS 1 hts gX4_setOwner_X4_isInRange rfl rfl rfl (by decide +kernel) ⟨Nat.le_of_ble_eq_true rfl, Nat.le_of_ble_eq_true rfl⟩) rfl rfl hl.1 (Nat.le_of_ble_eq_true rfl) dX4_setOwner_1 ⟨Nat.le_of_ble_eq_true rfl, Nat.le_of_ble_eq_true rfl⟩ ?_
  obtain ⟨k14_2, hk14_2, hf⟩ := jn_some hf
  have j14_2 : ∀ (u14_2_0 : S1) (H : Heap) (locs : List Loc) (ls : Array Slot), k14_2 u14_2_0 = some o → va_P D cls (wX4 cI cZ a0 u14_2_0) H → va_S A s.heap H locs → lv_has ls 3 [] → W p l e (headSpec wsX4_setOwner rmX4_setOwner).room s m args below meth c H locs 0 0 Q (F0 m 14 ls []) := by
    intro u14_2_0 H locs ls hf hP hS hl
    have hf := qa1 hk14_2 hf
    have eo := Option.some.inj hf
    have hP : va_P D cls (wX4 cI cZ a0 o) H := by rw [← eo]; exact hP
    rw [hQ]
    exact W.vret hx hb hr (fun t ht hW => ⟨⟨(), rfl, trivial, P_at ht hP⟩, hS.F ht⟩) hS.2.2 dX4_setOwner_14 hlocks
  refine lv_if_eq (tgt := 14) hx hb dX4_setOwner_4 (by decide) (fun c_3 => ?_) (fun c_3 => ?_)
  · have hf := ite_t hf c_3
    exact j14_2 _ _ _ _ hf hP hS (lv_sub hl [] rfl)
  · have hf := ite_f hf c_3
    refine lv_aload_n hx hb dX4_setOwner_7 rfl (lv_at hl 0 rfl) ?_
    refine va_get (D := D) (ci := 4) (v := .ref (a0 2)) (C := RX4) (T := TX4) (N := 12) hx hb hts i4 hown hK hP 0 rfl rfl 1 (by decide) hk15 (fun _ h9 => h9) rfl dX4_setOwner_8 ?_
    refine lv_iload_n hx hb dX4_setOwner_11 rfl (lv_at hl 1 rfl) ?_
    refine lv_iload_n hx hb dX4_setOwner_12 rfl (lv_at hl 2 rfl) ?_
    obtain ⟨hi, hf⟩ := chk_some hf
    obtain ⟨u_4, hu_4, hf⟩ := bv_some hf
    refine va_iast hx hb hK hP (hDD u0) hS 2 0 rfl rfl (inb_in hi) dX4_setOwner_13 (fun H locs hP _ hS => ?_)
    have hP : va_P D cls (wX4 cI cZ a0 u_4) H := by rw [hu_4]; exact hP
    exact j14_2 _ _ _ _ hf hP hS (lv_sub hl [] rfl)
set_option maxRecDepth 20000 in
theorem ggX4_rightsOf_X4_isInRange : GoodIn wsX4_rightsOf wsX4_isInRange := goodIn_r _ [5] (by decide +kernel) (by decide +kernel)
set_option maxRecDepth 20000 in
theorem gX4_rightsOf_X4_isInRange : GoodIn wsX4_rightsOf (va_wsS RX4 54 yX4_isInRange wsX4_isInRange) := goodIn_app (goodIn_of _ (by decide +kernel)) ggX4_rightsOf_X4_isInRange
theorem dX4_rightsOf_0 : decode cX4_rightsOf 0 = .ok (.iload_n 1, 1) := by decide +kernel
theorem dX4_rightsOf_1 : decode cX4_rightsOf 1 = .ok (.invokestatic 54, 3) := by decide +kernel
theorem dX4_rightsOf_4 : decode cX4_rightsOf 4 = .ok (.ifCond .eq 12, 3) := by decide +kernel
theorem dX4_rightsOf_7 : decode cX4_rightsOf 7 = .ok (.aload_n 0, 1) := by decide +kernel
theorem dX4_rightsOf_8 : decode cX4_rightsOf 8 = .ok (.getfield 18, 3) := by decide +kernel
theorem dX4_rightsOf_11 : decode cX4_rightsOf 11 = .ok (.iload_n 1, 1) := by decide +kernel
theorem dX4_rightsOf_12 : decode cX4_rightsOf 12 = .ok (.iaload, 1) := by decide +kernel
theorem dX4_rightsOf_13 : decode cX4_rightsOf 13 = .ok (.goto 4, 3) := by decide +kernel
theorem dX4_rightsOf_16 : decode cX4_rightsOf 16 = .ok (.iconst 0, 1) := by decide +kernel
theorem dX4_rightsOf_17 : decode cX4_rightsOf 17 = .ok (.ireturn, 1) := by decide +kernel
def f_X4_rightsOf (u0 : S1) (p1 : Int32) : Option (Int32) := bn (f_X4_isInRange p1) (fun z_1 => jn (fun (v17_2_0 : Int32) => some v17_2_0) (fun k17_2 => if z_1 = 0 then k17_2 0 else chk (inb p1 32) (k17_2 (u0 2 (p1).toNatClampNeg))))
def rmX4_rightsOf : Room := { frames := 1, cells := 0, slots := 0, locals := 20 }
set_option maxHeartbeats 4000000 in
set_option maxRecDepth 100000 in
theorem c_X4_rightsOf (l : Launch) (D : va_G) (cI cZ cJ cT : ClassId) (a0 : Nat → Nat) (u0 : S1) (p1 : Int32) (o : Int32) (hf : f_X4_rightsOf u0 p1 = some o) : Met l yX4_rightsOf wsX4_rightsOf rmX4_rightsOf (va_Pc [.ref (a0 0), .int p1] (PR D cls (tys cI cZ cJ cT) ((wX4 cI cZ a0 u0)))) (QR o) 0 0 (fun _ => False) := by
  refine Met.ofW (cc := cX4_rightsOf) (maxL := 2) (ret := (some .int)) (by decide) rfl ?_
  intro p e s m args below meth c s₁ B hml hv
  obtain ⟨hav, hP, hK⟩ := hv
  have hx := B.exec
  have hb := B.bytes
  have hr := B.returns
  have hlocks := B.notSynchronized
  have hts := atoms_spec (ws := wsX4_rightsOf) B.pre
  have hown : s.vm.findClass RX4 = some m.cls := findClass_of_methodNamed B.named
  have i4 : ∀ w ∈ wsX40, w ∈ wsX4_rightsOf := fun w h => List.mem_cons_of_mem _ (List.mem_append_right _ h)
  have hk18 := hts (.fieldLink RX4 18 "Inodery$Tree" "rights" "[I") (by decide +kernel)
  refine Wq (fun Q hQ => ?_)
  refine W_entry hav (Nat.le_of_ble_eq_true rfl) (fun ls hl => ?_)
  have hl : lv_has ls 2 [(0, .ref (a0 0)), (1, .int p1)] := hl
  unfold f_X4_rightsOf at hf
  refine lv_iload_n hx hb dX4_rightsOf_0 rfl (lv_at hl 1 rfl) ?_
  obtain ⟨z_1, hz_1, hf⟩ := bn_some hf
  refine c0S (As := [.int p1]) (rest := []) ⟨hx, hb, hml, hown, hts⟩ (c_X4_isInRange l D cI cZ cJ cT p1 z_1 hz_1) (va_cwS 1 hts gX4_rightsOf_X4_isInRange rfl rfl rfl (by decide +kernel) ⟨Nat.le_of_ble_eq_true rfl, Nat.le_of_ble_eq_true rfl⟩) rfl rfl hl.1 (Nat.le_of_ble_eq_true rfl) dX4_rightsOf_1 ⟨Nat.le_of_ble_eq_true rfl, Nat.le_of_ble_eq_true rfl⟩ ?_
  obtain ⟨k17_2, hk17_2, hf⟩ := jn_some hf
  have j17_2 : ∀ (v17_2_0 : Int32) (ls : Array Slot), k17_2 v17_2_0 = some o → lv_has ls 2 [] → W p l e (headSpec wsX4_rightsOf rmX4_rightsOf).room s m args below meth c s.heap [] 0 0 Q (F0 m 17 ls [.int v17_2_0]) := by
    intro v17_2_0 ls hf hl
    have hf := qa1 hk17_2 hf
    rw [hQ]
    exact W.iret hx hb hr (fun t ht hW => ⟨_, rfl, Option.some.inj hf, ht⟩) (fun _ h => nomatch h) dX4_rightsOf_17 hlocks
  refine lv_if_eq (tgt := 16) hx hb dX4_rightsOf_4 (by decide) (fun c_3 => ?_) (fun c_3 => ?_)
  · have hf := ite_t hf c_3
    refine lv_iconst (v := 0) hx hb dX4_rightsOf_16 (by decide) ?_
    exact j17_2 _ _ hf (lv_sub hl [] rfl)
  · have hf := ite_f hf c_3
    refine lv_aload_n hx hb dX4_rightsOf_7 rfl (lv_at hl 0 rfl) ?_
    refine va_get (D := D) (ci := 4) (v := .ref (a0 3)) (C := RX4) (T := TX4) (N := 12) hx hb hts i4 hown hK hP 0 rfl rfl 2 (by decide) hk18 (fun _ h9 => h9) rfl dX4_rightsOf_8 ?_
    refine lv_iload_n hx hb dX4_rightsOf_11 rfl (lv_at hl 1 rfl) ?_
    obtain ⟨hi, hf⟩ := chk_some hf
    refine va_iald hx hb hK hP 3 0 rfl rfl (inb_in hi) dX4_rightsOf_12 ?_
    refine lv_goto (tgt := 17) hx hb dX4_rightsOf_13 (by decide) ?_
    exact j17_2 _ _ hf (lv_sub hl [] rfl)
set_option maxRecDepth 20000 in
theorem ggX4_setRights_X4_isInRange : GoodIn wsX4_setRights wsX4_isInRange := goodIn_r _ [5] (by decide +kernel) (by decide +kernel)
set_option maxRecDepth 20000 in
theorem gX4_setRights_X4_isInRange : GoodIn wsX4_setRights (va_wsS RX4 54 yX4_isInRange wsX4_isInRange) := goodIn_app (goodIn_of _ (by decide +kernel)) ggX4_setRights_X4_isInRange
theorem dX4_setRights_0 : decode cX4_setRights 0 = .ok (.iload_n 1, 1) := by decide +kernel
theorem dX4_setRights_1 : decode cX4_setRights 1 = .ok (.invokestatic 54, 3) := by decide +kernel
theorem dX4_setRights_4 : decode cX4_setRights 4 = .ok (.ifCond .eq 10, 3) := by decide +kernel
theorem dX4_setRights_7 : decode cX4_setRights 7 = .ok (.aload_n 0, 1) := by decide +kernel
theorem dX4_setRights_8 : decode cX4_setRights 8 = .ok (.getfield 18, 3) := by decide +kernel
theorem dX4_setRights_11 : decode cX4_setRights 11 = .ok (.iload_n 1, 1) := by decide +kernel
theorem dX4_setRights_12 : decode cX4_setRights 12 = .ok (.iload_n 2, 1) := by decide +kernel
theorem dX4_setRights_13 : decode cX4_setRights 13 = .ok (.iastore, 1) := by decide +kernel
theorem dX4_setRights_14 : decode cX4_setRights 14 = .ok (.return_, 1) := by decide +kernel
def f_X4_setRights (u0 : S1) (p1 : Int32) (p2 : Int32) : Option (S1) := bn (f_X4_isInRange p1) (fun z_1 => jn (fun (u14_2_0 : S1) => some (u14_2_0)) (fun k14_2 => if z_1 = 0 then k14_2 u0 else chk (inb p1 32) (bv (st u0 2 p1 p2) (fun u_4 => k14_2 u_4))))
def rmX4_setRights : Room := { frames := 1, cells := 0, slots := 0, locals := 20 }
set_option maxHeartbeats 4000000 in
set_option maxRecDepth 100000 in
theorem c_X4_setRights (l : Launch) (D : va_G) (cI cZ cJ cT : ClassId) (a0 : Nat → Nat) (sz : Nat) (u0 : S1) (p1 : Int32) (p2 : Int32) (o : S1) (hf : f_X4_setRights u0 p1 p2 = some o) : Met l yX4_setRights wsX4_setRights rmX4_setRights (va_Pc [.ref (a0 0), .int p1, .int p2] (PW D cls (tys cI cZ cJ cT) ((wX4 cI cZ a0 u0)) sz)) (QWv D cls ((wX4 cI cZ a0 o)) (va_A ((wX4 cI cZ a0 u0)) sz)) 0 0 (va_A ((wX4 cI cZ a0 u0)) sz) := by
  refine Met.ofW (cc := cX4_setRights) (maxL := 3) (ret := none) (by decide) rfl ?_
  intro p e s m args below meth c s₁ B hml hv
  obtain ⟨hav, hsz, hP, hK, hD0⟩ := hv
  have hx := B.exec
  have hb := B.bytes
  have hr := B.returns
  have hlocks := B.notSynchronized
  have hts := atoms_spec (ws := wsX4_setRights) B.pre
  have hown : s.vm.findClass RX4 = some m.cls := findClass_of_methodNamed B.named
  have i4 : ∀ w ∈ wsX40, w ∈ wsX4_setRights := fun w h => List.mem_cons_of_mem _ (List.mem_append_right _ h)
  have hk18 := hts (.fieldLink RX4 18 "Inodery$Tree" "rights" "[I") (by decide +kernel)
  subst hsz
  have hD := hD0.self (sz := s.heap.size)
  generalize hAe : va_A ((wX4 cI cZ a0 u0)) s.heap.size = A at hD ⊢
  have hA : ∀ q : Nat, s.heap.size ≤ q → A q := fun q h => by rw [← hAe]; exact Or.inr h
  have hS : va_S A s.heap s.heap [] := va_S.rf
  have hDD : ∀ w0 : S1, va_D A ((wX4 cI cZ a0 w0)) := fun _ => D_same (w := (wX4 cI cZ a0 u0)) rfl hD
  refine Wq (fun Q hQ => ?_)
  refine W_entry hav (Nat.le_of_ble_eq_true rfl) (fun ls hl => ?_)
  have hl : lv_has ls 3 [(0, .ref (a0 0)), (1, .int p1), (2, .int p2)] := hl
  unfold f_X4_setRights at hf
  refine W_heap hP hS (fun H locs hP hS => ?_)
  refine lv_iload_n hx hb dX4_setRights_0 rfl (lv_at hl 1 rfl) ?_
  obtain ⟨z_1, hz_1, hf⟩ := bn_some hf
  refine c0S (As := [.int p1]) (rest := []) ⟨hx, hb, hml, hown, hts⟩ (c_X4_isInRange l D cI cZ cJ cT p1 z_1 hz_1) (va_cwS 1 hts gX4_setRights_X4_isInRange rfl rfl rfl (by decide +kernel) ⟨Nat.le_of_ble_eq_true rfl, Nat.le_of_ble_eq_true rfl⟩) rfl rfl hl.1 (Nat.le_of_ble_eq_true rfl) dX4_setRights_1 ⟨Nat.le_of_ble_eq_true rfl, Nat.le_of_ble_eq_true rfl⟩ ?_
  obtain ⟨k14_2, hk14_2, hf⟩ := jn_some hf
  have j14_2 : ∀ (u14_2_0 : S1) (H : Heap) (locs : List Loc) (ls : Array Slot), k14_2 u14_2_0 = some o → va_P D cls (wX4 cI cZ a0 u14_2_0) H → va_S A s.heap H locs → lv_has ls 3 [] → W p l e (headSpec wsX4_setRights rmX4_setRights).room s m args below meth c H locs 0 0 Q (F0 m 14 ls []) := by
    intro u14_2_0 H locs ls hf hP hS hl
    have hf := qa1 hk14_2 hf
    have eo := Option.some.inj hf
    have hP : va_P D cls (wX4 cI cZ a0 o) H := by rw [← eo]; exact hP
    rw [hQ]
    exact W.vret hx hb hr (fun t ht hW => ⟨⟨(), rfl, trivial, P_at ht hP⟩, hS.F ht⟩) hS.2.2 dX4_setRights_14 hlocks
  refine lv_if_eq (tgt := 14) hx hb dX4_setRights_4 (by decide) (fun c_3 => ?_) (fun c_3 => ?_)
  · have hf := ite_t hf c_3
    exact j14_2 _ _ _ _ hf hP hS (lv_sub hl [] rfl)
  · have hf := ite_f hf c_3
    refine lv_aload_n hx hb dX4_setRights_7 rfl (lv_at hl 0 rfl) ?_
    refine va_get (D := D) (ci := 4) (v := .ref (a0 3)) (C := RX4) (T := TX4) (N := 12) hx hb hts i4 hown hK hP 0 rfl rfl 2 (by decide) hk18 (fun _ h9 => h9) rfl dX4_setRights_8 ?_
    refine lv_iload_n hx hb dX4_setRights_11 rfl (lv_at hl 1 rfl) ?_
    refine lv_iload_n hx hb dX4_setRights_12 rfl (lv_at hl 2 rfl) ?_
    obtain ⟨hi, hf⟩ := chk_some hf
    obtain ⟨u_4, hu_4, hf⟩ := bv_some hf
    refine va_iast hx hb hK hP (hDD u0) hS 3 0 rfl rfl (inb_in hi) dX4_setRights_13 (fun H locs hP _ hS => ?_)
    have hP : va_P D cls (wX4 cI cZ a0 u_4) H := by rw [hu_4]; exact hP
    exact j14_2 _ _ _ _ hf hP hS (lv_sub hl [] rfl)
set_option maxRecDepth 20000 in
theorem ggX4_countOf_X4_isInRange : GoodIn wsX4_countOf wsX4_isInRange := goodIn_r _ [5] (by decide +kernel) (by decide +kernel)
set_option maxRecDepth 20000 in
theorem gX4_countOf_X4_isInRange : GoodIn wsX4_countOf (va_wsS RX4 54 yX4_isInRange wsX4_isInRange) := goodIn_app (goodIn_of _ (by decide +kernel)) ggX4_countOf_X4_isInRange
theorem dX4_countOf_0 : decode cX4_countOf 0 = .ok (.iload_n 1, 1) := by decide +kernel
theorem dX4_countOf_1 : decode cX4_countOf 1 = .ok (.invokestatic 54, 3) := by decide +kernel
theorem dX4_countOf_4 : decode cX4_countOf 4 = .ok (.ifCond .eq 12, 3) := by decide +kernel
theorem dX4_countOf_7 : decode cX4_countOf 7 = .ok (.aload_n 0, 1) := by decide +kernel
theorem dX4_countOf_8 : decode cX4_countOf 8 = .ok (.getfield 21, 3) := by decide +kernel
theorem dX4_countOf_11 : decode cX4_countOf 11 = .ok (.iload_n 1, 1) := by decide +kernel
theorem dX4_countOf_12 : decode cX4_countOf 12 = .ok (.iaload, 1) := by decide +kernel
theorem dX4_countOf_13 : decode cX4_countOf 13 = .ok (.goto 4, 3) := by decide +kernel
theorem dX4_countOf_16 : decode cX4_countOf 16 = .ok (.iconst 0, 1) := by decide +kernel
theorem dX4_countOf_17 : decode cX4_countOf 17 = .ok (.ireturn, 1) := by decide +kernel
def f_X4_countOf (u0 : S1) (p1 : Int32) : Option (Int32) := bn (f_X4_isInRange p1) (fun z_1 => jn (fun (v17_2_0 : Int32) => some v17_2_0) (fun k17_2 => if z_1 = 0 then k17_2 0 else chk (inb p1 32) (k17_2 (u0 3 (p1).toNatClampNeg))))
def rmX4_countOf : Room := { frames := 1, cells := 0, slots := 0, locals := 20 }
set_option maxHeartbeats 4000000 in
set_option maxRecDepth 100000 in
theorem c_X4_countOf (l : Launch) (D : va_G) (cI cZ cJ cT : ClassId) (a0 : Nat → Nat) (u0 : S1) (p1 : Int32) (o : Int32) (hf : f_X4_countOf u0 p1 = some o) : Met l yX4_countOf wsX4_countOf rmX4_countOf (va_Pc [.ref (a0 0), .int p1] (PR D cls (tys cI cZ cJ cT) ((wX4 cI cZ a0 u0)))) (QR o) 0 0 (fun _ => False) := by
  refine Met.ofW (cc := cX4_countOf) (maxL := 2) (ret := (some .int)) (by decide) rfl ?_
  intro p e s m args below meth c s₁ B hml hv
  obtain ⟨hav, hP, hK⟩ := hv
  have hx := B.exec
  have hb := B.bytes
  have hr := B.returns
  have hlocks := B.notSynchronized
  have hts := atoms_spec (ws := wsX4_countOf) B.pre
  have hown : s.vm.findClass RX4 = some m.cls := findClass_of_methodNamed B.named
  have i4 : ∀ w ∈ wsX40, w ∈ wsX4_countOf := fun w h => List.mem_cons_of_mem _ (List.mem_append_right _ h)
  have hk21 := hts (.fieldLink RX4 21 "Inodery$Tree" "counts" "[I") (by decide +kernel)
  refine Wq (fun Q hQ => ?_)
  refine W_entry hav (Nat.le_of_ble_eq_true rfl) (fun ls hl => ?_)
  have hl : lv_has ls 2 [(0, .ref (a0 0)), (1, .int p1)] := hl
  unfold f_X4_countOf at hf
  refine lv_iload_n hx hb dX4_countOf_0 rfl (lv_at hl 1 rfl) ?_
  obtain ⟨z_1, hz_1, hf⟩ := bn_some hf
  refine c0S (As := [.int p1]) (rest := []) ⟨hx, hb, hml, hown, hts⟩ (c_X4_isInRange l D cI cZ cJ cT p1 z_1 hz_1) (va_cwS 1 hts gX4_countOf_X4_isInRange rfl rfl rfl (by decide +kernel) ⟨Nat.le_of_ble_eq_true rfl, Nat.le_of_ble_eq_true rfl⟩) rfl rfl hl.1 (Nat.le_of_ble_eq_true rfl) dX4_countOf_1 ⟨Nat.le_of_ble_eq_true rfl, Nat.le_of_ble_eq_true rfl⟩ ?_
  obtain ⟨k17_2, hk17_2, hf⟩ := jn_some hf
  have j17_2 : ∀ (v17_2_0 : Int32) (ls : Array Slot), k17_2 v17_2_0 = some o → lv_has ls 2 [] → W p l e (headSpec wsX4_countOf rmX4_countOf).room s m args below meth c s.heap [] 0 0 Q (F0 m 17 ls [.int v17_2_0]) := by
    intro v17_2_0 ls hf hl
    have hf := qa1 hk17_2 hf
    rw [hQ]
    exact W.iret hx hb hr (fun t ht hW => ⟨_, rfl, Option.some.inj hf, ht⟩) (fun _ h => nomatch h) dX4_countOf_17 hlocks
  refine lv_if_eq (tgt := 16) hx hb dX4_countOf_4 (by decide) (fun c_3 => ?_) (fun c_3 => ?_)
  · have hf := ite_t hf c_3
    refine lv_iconst (v := 0) hx hb dX4_countOf_16 (by decide) ?_
    exact j17_2 _ _ hf (lv_sub hl [] rfl)
  · have hf := ite_f hf c_3
    refine lv_aload_n hx hb dX4_countOf_7 rfl (lv_at hl 0 rfl) ?_
    refine va_get (D := D) (ci := 4) (v := .ref (a0 4)) (C := RX4) (T := TX4) (N := 12) hx hb hts i4 hown hK hP 0 rfl rfl 3 (by decide) hk21 (fun _ h9 => h9) rfl dX4_countOf_8 ?_
    refine lv_iload_n hx hb dX4_countOf_11 rfl (lv_at hl 1 rfl) ?_
    obtain ⟨hi, hf⟩ := chk_some hf
    refine va_iald hx hb hK hP 4 0 rfl rfl (inb_in hi) dX4_countOf_12 ?_
    refine lv_goto (tgt := 17) hx hb dX4_countOf_13 (by decide) ?_
    exact j17_2 _ _ hf (lv_sub hl [] rfl)
set_option maxRecDepth 20000 in
theorem ggX4_setCount_X4_isInRange : GoodIn wsX4_setCount wsX4_isInRange := goodIn_r _ [5] (by decide +kernel) (by decide +kernel)
set_option maxRecDepth 20000 in
theorem gX4_setCount_X4_isInRange : GoodIn wsX4_setCount (va_wsS RX4 54 yX4_isInRange wsX4_isInRange) := goodIn_app (goodIn_of _ (by decide +kernel)) ggX4_setCount_X4_isInRange
theorem dX4_setCount_0 : decode cX4_setCount 0 = .ok (.iload_n 1, 1) := by decide +kernel
theorem dX4_setCount_1 : decode cX4_setCount 1 = .ok (.invokestatic 54, 3) := by decide +kernel
theorem dX4_setCount_4 : decode cX4_setCount 4 = .ok (.ifCond .eq 10, 3) := by decide +kernel
theorem dX4_setCount_7 : decode cX4_setCount 7 = .ok (.aload_n 0, 1) := by decide +kernel
theorem dX4_setCount_8 : decode cX4_setCount 8 = .ok (.getfield 21, 3) := by decide +kernel
theorem dX4_setCount_11 : decode cX4_setCount 11 = .ok (.iload_n 1, 1) := by decide +kernel
theorem dX4_setCount_12 : decode cX4_setCount 12 = .ok (.iload_n 2, 1) := by decide +kernel
theorem dX4_setCount_13 : decode cX4_setCount 13 = .ok (.iastore, 1) := by decide +kernel
theorem dX4_setCount_14 : decode cX4_setCount 14 = .ok (.return_, 1) := by decide +kernel
def f_X4_setCount (u0 : S1) (p1 : Int32) (p2 : Int32) : Option (S1) := bn (f_X4_isInRange p1) (fun z_1 => jn (fun (u14_2_0 : S1) => some (u14_2_0)) (fun k14_2 => if z_1 = 0 then k14_2 u0 else chk (inb p1 32) (bv (st u0 3 p1 p2) (fun u_4 => k14_2 u_4))))
def rmX4_setCount : Room := { frames := 1, cells := 0, slots := 0, locals := 20 }
set_option maxHeartbeats 4000000 in
set_option maxRecDepth 100000 in
theorem c_X4_setCount (l : Launch) (D : va_G) (cI cZ cJ cT : ClassId) (a0 : Nat → Nat) (sz : Nat) (u0 : S1) (p1 : Int32) (p2 : Int32) (o : S1) (hf : f_X4_setCount u0 p1 p2 = some o) : Met l yX4_setCount wsX4_setCount rmX4_setCount (va_Pc [.ref (a0 0), .int p1, .int p2] (PW D cls (tys cI cZ cJ cT) ((wX4 cI cZ a0 u0)) sz)) (QWv D cls ((wX4 cI cZ a0 o)) (va_A ((wX4 cI cZ a0 u0)) sz)) 0 0 (va_A ((wX4 cI cZ a0 u0)) sz) := by
  refine Met.ofW (cc := cX4_setCount) (maxL := 3) (ret := none) (by decide) rfl ?_
  intro p e s m args below meth c s₁ B hml hv
  obtain ⟨hav, hsz, hP, hK, hD0⟩ := hv
  have hx := B.exec
  have hb := B.bytes
  have hr := B.returns
  have hlocks := B.notSynchronized
  have hts := atoms_spec (ws := wsX4_setCount) B.pre
  have hown : s.vm.findClass RX4 = some m.cls := findClass_of_methodNamed B.named
  have i4 : ∀ w ∈ wsX40, w ∈ wsX4_setCount := fun w h => List.mem_cons_of_mem _ (List.mem_append_right _ h)
  have hk21 := hts (.fieldLink RX4 21 "Inodery$Tree" "counts" "[I") (by decide +kernel)
  subst hsz
  have hD := hD0.self (sz := s.heap.size)
  generalize hAe : va_A ((wX4 cI cZ a0 u0)) s.heap.size = A at hD ⊢
  have hA : ∀ q : Nat, s.heap.size ≤ q → A q := fun q h => by rw [← hAe]; exact Or.inr h
  have hS : va_S A s.heap s.heap [] := va_S.rf
  have hDD : ∀ w0 : S1, va_D A ((wX4 cI cZ a0 w0)) := fun _ => D_same (w := (wX4 cI cZ a0 u0)) rfl hD
  refine Wq (fun Q hQ => ?_)
  refine W_entry hav (Nat.le_of_ble_eq_true rfl) (fun ls hl => ?_)
  have hl : lv_has ls 3 [(0, .ref (a0 0)), (1, .int p1), (2, .int p2)] := hl
  unfold f_X4_setCount at hf
  refine W_heap hP hS (fun H locs hP hS => ?_)
  refine lv_iload_n hx hb dX4_setCount_0 rfl (lv_at hl 1 rfl) ?_
  obtain ⟨z_1, hz_1, hf⟩ := bn_some hf
  refine c0S (As := [.int p1]) (rest := []) ⟨hx, hb, hml, hown, hts⟩ (c_X4_isInRange l D cI cZ cJ cT p1 z_1 hz_1) (va_cwS 1 hts gX4_setCount_X4_isInRange rfl rfl rfl (by decide +kernel) ⟨Nat.le_of_ble_eq_true rfl, Nat.le_of_ble_eq_true rfl⟩) rfl rfl hl.1 (Nat.le_of_ble_eq_true rfl) dX4_setCount_1 ⟨Nat.le_of_ble_eq_true rfl, Nat.le_of_ble_eq_true rfl⟩ ?_
  obtain ⟨k14_2, hk14_2, hf⟩ := jn_some hf
  have j14_2 : ∀ (u14_2_0 : S1) (H : Heap) (locs : List Loc) (ls : Array Slot), k14_2 u14_2_0 = some o → va_P D cls (wX4 cI cZ a0 u14_2_0) H → va_S A s.heap H locs → lv_has ls 3 [] → W p l e (headSpec wsX4_setCount rmX4_setCount).room s m args below meth c H locs 0 0 Q (F0 m 14 ls []) := by
    intro u14_2_0 H locs ls hf hP hS hl
    have hf := qa1 hk14_2 hf
    have eo := Option.some.inj hf
    have hP : va_P D cls (wX4 cI cZ a0 o) H := by rw [← eo]; exact hP
    rw [hQ]
    exact W.vret hx hb hr (fun t ht hW => ⟨⟨(), rfl, trivial, P_at ht hP⟩, hS.F ht⟩) hS.2.2 dX4_setCount_14 hlocks
  refine lv_if_eq (tgt := 14) hx hb dX4_setCount_4 (by decide) (fun c_3 => ?_) (fun c_3 => ?_)
  · have hf := ite_t hf c_3
    exact j14_2 _ _ _ _ hf hP hS (lv_sub hl [] rfl)
  · have hf := ite_f hf c_3
    refine lv_aload_n hx hb dX4_setCount_7 rfl (lv_at hl 0 rfl) ?_
    refine va_get (D := D) (ci := 4) (v := .ref (a0 4)) (C := RX4) (T := TX4) (N := 12) hx hb hts i4 hown hK hP 0 rfl rfl 3 (by decide) hk21 (fun _ h9 => h9) rfl dX4_setCount_8 ?_
    refine lv_iload_n hx hb dX4_setCount_11 rfl (lv_at hl 1 rfl) ?_
    refine lv_iload_n hx hb dX4_setCount_12 rfl (lv_at hl 2 rfl) ?_
    obtain ⟨hi, hf⟩ := chk_some hf
    obtain ⟨u_4, hu_4, hf⟩ := bv_some hf
    refine va_iast hx hb hK hP (hDD u0) hS 4 0 rfl rfl (inb_in hi) dX4_setCount_13 (fun H locs hP _ hS => ?_)
    have hP : va_P D cls (wX4 cI cZ a0 u_4) H := by rw [hu_4]; exact hP
    exact j14_2 _ _ _ _ hf hP hS (lv_sub hl [] rfl)
set_option maxRecDepth 20000 in
theorem ggX4_pathOf_X4_isInRange : GoodIn wsX4_pathOf wsX4_isInRange := goodIn_r _ [5] (by decide +kernel) (by decide +kernel)
set_option maxRecDepth 20000 in
theorem gX4_pathOf_X4_isInRange : GoodIn wsX4_pathOf (va_wsS RX4 54 yX4_isInRange wsX4_isInRange) := goodIn_app (goodIn_of _ (by decide +kernel)) ggX4_pathOf_X4_isInRange
theorem dX4_pathOf_0 : decode cX4_pathOf 0 = .ok (.iload_n 1, 1) := by decide +kernel
theorem dX4_pathOf_1 : decode cX4_pathOf 1 = .ok (.invokestatic 54, 3) := by decide +kernel
theorem dX4_pathOf_4 : decode cX4_pathOf 4 = .ok (.ifCond .eq 12, 3) := by decide +kernel
theorem dX4_pathOf_7 : decode cX4_pathOf 7 = .ok (.aload_n 0, 1) := by decide +kernel
theorem dX4_pathOf_8 : decode cX4_pathOf 8 = .ok (.getfield 24, 3) := by decide +kernel
theorem dX4_pathOf_11 : decode cX4_pathOf 11 = .ok (.iload_n 1, 1) := by decide +kernel
theorem dX4_pathOf_12 : decode cX4_pathOf 12 = .ok (.iaload, 1) := by decide +kernel
theorem dX4_pathOf_13 : decode cX4_pathOf 13 = .ok (.goto 4, 3) := by decide +kernel
theorem dX4_pathOf_16 : decode cX4_pathOf 16 = .ok (.iconst 0, 1) := by decide +kernel
theorem dX4_pathOf_17 : decode cX4_pathOf 17 = .ok (.ireturn, 1) := by decide +kernel
def f_X4_pathOf (u0 : S1) (p1 : Int32) : Option (Int32) := bn (f_X4_isInRange p1) (fun z_1 => jn (fun (v17_2_0 : Int32) => some v17_2_0) (fun k17_2 => if z_1 = 0 then k17_2 0 else chk (inb p1 32) (k17_2 (u0 4 (p1).toNatClampNeg))))
def rmX4_pathOf : Room := { frames := 1, cells := 0, slots := 0, locals := 20 }
set_option maxHeartbeats 4000000 in
set_option maxRecDepth 100000 in
theorem c_X4_pathOf (l : Launch) (D : va_G) (cI cZ cJ cT : ClassId) (a0 : Nat → Nat) (u0 : S1) (p1 : Int32) (o : Int32) (hf : f_X4_pathOf u0 p1 = some o) : Met l yX4_pathOf wsX4_pathOf rmX4_pathOf (va_Pc [.ref (a0 0), .int p1] (PR D cls (tys cI cZ cJ cT) ((wX4 cI cZ a0 u0)))) (QR o) 0 0 (fun _ => False) := by
  refine Met.ofW (cc := cX4_pathOf) (maxL := 2) (ret := (some .int)) (by decide) rfl ?_
  intro p e s m args below meth c s₁ B hml hv
  obtain ⟨hav, hP, hK⟩ := hv
  have hx := B.exec
  have hb := B.bytes
  have hr := B.returns
  have hlocks := B.notSynchronized
  have hts := atoms_spec (ws := wsX4_pathOf) B.pre
  have hown : s.vm.findClass RX4 = some m.cls := findClass_of_methodNamed B.named
  have i4 : ∀ w ∈ wsX40, w ∈ wsX4_pathOf := fun w h => List.mem_cons_of_mem _ (List.mem_append_right _ h)
  have hk24 := hts (.fieldLink RX4 24 "Inodery$Tree" "paths" "[I") (by decide +kernel)
  refine Wq (fun Q hQ => ?_)
  refine W_entry hav (Nat.le_of_ble_eq_true rfl) (fun ls hl => ?_)
  have hl : lv_has ls 2 [(0, .ref (a0 0)), (1, .int p1)] := hl
  unfold f_X4_pathOf at hf
  refine lv_iload_n hx hb dX4_pathOf_0 rfl (lv_at hl 1 rfl) ?_
  obtain ⟨z_1, hz_1, hf⟩ := bn_some hf
  refine c0S (As := [.int p1]) (rest := []) ⟨hx, hb, hml, hown, hts⟩ (c_X4_isInRange l D cI cZ cJ cT p1 z_1 hz_1) (va_cwS 1 hts gX4_pathOf_X4_isInRange rfl rfl rfl (by decide +kernel) ⟨Nat.le_of_ble_eq_true rfl, Nat.le_of_ble_eq_true rfl⟩) rfl rfl hl.1 (Nat.le_of_ble_eq_true rfl) dX4_pathOf_1 ⟨Nat.le_of_ble_eq_true rfl, Nat.le_of_ble_eq_true rfl⟩ ?_
  obtain ⟨k17_2, hk17_2, hf⟩ := jn_some hf
  have j17_2 : ∀ (v17_2_0 : Int32) (ls : Array Slot), k17_2 v17_2_0 = some o → lv_has ls 2 [] → W p l e (headSpec wsX4_pathOf rmX4_pathOf).room s m args below meth c s.heap [] 0 0 Q (F0 m 17 ls [.int v17_2_0]) := by
    intro v17_2_0 ls hf hl
    have hf := qa1 hk17_2 hf
    rw [hQ]
    exact W.iret hx hb hr (fun t ht hW => ⟨_, rfl, Option.some.inj hf, ht⟩) (fun _ h => nomatch h) dX4_pathOf_17 hlocks
  refine lv_if_eq (tgt := 16) hx hb dX4_pathOf_4 (by decide) (fun c_3 => ?_) (fun c_3 => ?_)
  · have hf := ite_t hf c_3
    refine lv_iconst (v := 0) hx hb dX4_pathOf_16 (by decide) ?_
    exact j17_2 _ _ hf (lv_sub hl [] rfl)
  · have hf := ite_f hf c_3
    refine lv_aload_n hx hb dX4_pathOf_7 rfl (lv_at hl 0 rfl) ?_
    refine va_get (D := D) (ci := 4) (v := .ref (a0 5)) (C := RX4) (T := TX4) (N := 12) hx hb hts i4 hown hK hP 0 rfl rfl 4 (by decide) hk24 (fun _ h9 => h9) rfl dX4_pathOf_8 ?_
    refine lv_iload_n hx hb dX4_pathOf_11 rfl (lv_at hl 1 rfl) ?_
    obtain ⟨hi, hf⟩ := chk_some hf
    refine va_iald hx hb hK hP 5 0 rfl rfl (inb_in hi) dX4_pathOf_12 ?_
    refine lv_goto (tgt := 17) hx hb dX4_pathOf_13 (by decide) ?_
    exact j17_2 _ _ hf (lv_sub hl [] rfl)
set_option maxRecDepth 20000 in
theorem ggX4_setPath_X4_isInRange : GoodIn wsX4_setPath wsX4_isInRange := goodIn_r _ [5] (by decide +kernel) (by decide +kernel)
set_option maxRecDepth 20000 in
theorem gX4_setPath_X4_isInRange : GoodIn wsX4_setPath (va_wsS RX4 54 yX4_isInRange wsX4_isInRange) := goodIn_app (goodIn_of _ (by decide +kernel)) ggX4_setPath_X4_isInRange
theorem dX4_setPath_0 : decode cX4_setPath 0 = .ok (.iload_n 1, 1) := by decide +kernel
theorem dX4_setPath_1 : decode cX4_setPath 1 = .ok (.invokestatic 54, 3) := by decide +kernel
theorem dX4_setPath_4 : decode cX4_setPath 4 = .ok (.ifCond .eq 10, 3) := by decide +kernel
theorem dX4_setPath_7 : decode cX4_setPath 7 = .ok (.aload_n 0, 1) := by decide +kernel
theorem dX4_setPath_8 : decode cX4_setPath 8 = .ok (.getfield 24, 3) := by decide +kernel
theorem dX4_setPath_11 : decode cX4_setPath 11 = .ok (.iload_n 1, 1) := by decide +kernel
theorem dX4_setPath_12 : decode cX4_setPath 12 = .ok (.iload_n 2, 1) := by decide +kernel
theorem dX4_setPath_13 : decode cX4_setPath 13 = .ok (.iastore, 1) := by decide +kernel
theorem dX4_setPath_14 : decode cX4_setPath 14 = .ok (.return_, 1) := by decide +kernel
def f_X4_setPath (u0 : S1) (p1 : Int32) (p2 : Int32) : Option (S1) := bn (f_X4_isInRange p1) (fun z_1 => jn (fun (u14_2_0 : S1) => some (u14_2_0)) (fun k14_2 => if z_1 = 0 then k14_2 u0 else chk (inb p1 32) (bv (st u0 4 p1 p2) (fun u_4 => k14_2 u_4))))
def rmX4_setPath : Room := { frames := 1, cells := 0, slots := 0, locals := 20 }
set_option maxHeartbeats 4000000 in
set_option maxRecDepth 100000 in
theorem c_X4_setPath (l : Launch) (D : va_G) (cI cZ cJ cT : ClassId) (a0 : Nat → Nat) (sz : Nat) (u0 : S1) (p1 : Int32) (p2 : Int32) (o : S1) (hf : f_X4_setPath u0 p1 p2 = some o) : Met l yX4_setPath wsX4_setPath rmX4_setPath (va_Pc [.ref (a0 0), .int p1, .int p2] (PW D cls (tys cI cZ cJ cT) ((wX4 cI cZ a0 u0)) sz)) (QWv D cls ((wX4 cI cZ a0 o)) (va_A ((wX4 cI cZ a0 u0)) sz)) 0 0 (va_A ((wX4 cI cZ a0 u0)) sz) := by
  refine Met.ofW (cc := cX4_setPath) (maxL := 3) (ret := none) (by decide) rfl ?_
  intro p e s m args below meth c s₁ B hml hv
  obtain ⟨hav, hsz, hP, hK, hD0⟩ := hv
  have hx := B.exec
  have hb := B.bytes
  have hr := B.returns
  have hlocks := B.notSynchronized
  have hts := atoms_spec (ws := wsX4_setPath) B.pre
  have hown : s.vm.findClass RX4 = some m.cls := findClass_of_methodNamed B.named
  have i4 : ∀ w ∈ wsX40, w ∈ wsX4_setPath := fun w h => List.mem_cons_of_mem _ (List.mem_append_right _ h)
  have hk24 := hts (.fieldLink RX4 24 "Inodery$Tree" "paths" "[I") (by decide +kernel)
  subst hsz
  have hD := hD0.self (sz := s.heap.size)
  generalize hAe : va_A ((wX4 cI cZ a0 u0)) s.heap.size = A at hD ⊢
  have hA : ∀ q : Nat, s.heap.size ≤ q → A q := fun q h => by rw [← hAe]; exact Or.inr h
  have hS : va_S A s.heap s.heap [] := va_S.rf
  have hDD : ∀ w0 : S1, va_D A ((wX4 cI cZ a0 w0)) := fun _ => D_same (w := (wX4 cI cZ a0 u0)) rfl hD
  refine Wq (fun Q hQ => ?_)
  refine W_entry hav (Nat.le_of_ble_eq_true rfl) (fun ls hl => ?_)
  have hl : lv_has ls 3 [(0, .ref (a0 0)), (1, .int p1), (2, .int p2)] := hl
  unfold f_X4_setPath at hf
  refine W_heap hP hS (fun H locs hP hS => ?_)
  refine lv_iload_n hx hb dX4_setPath_0 rfl (lv_at hl 1 rfl) ?_
  obtain ⟨z_1, hz_1, hf⟩ := bn_some hf
  refine c0S (As := [.int p1]) (rest := []) ⟨hx, hb, hml, hown, hts⟩ (c_X4_isInRange l D cI cZ cJ cT p1 z_1 hz_1) (va_cwS 1 hts gX4_setPath_X4_isInRange rfl rfl rfl (by decide +kernel) ⟨Nat.le_of_ble_eq_true rfl, Nat.le_of_ble_eq_true rfl⟩) rfl rfl hl.1 (Nat.le_of_ble_eq_true rfl) dX4_setPath_1 ⟨Nat.le_of_ble_eq_true rfl, Nat.le_of_ble_eq_true rfl⟩ ?_
  obtain ⟨k14_2, hk14_2, hf⟩ := jn_some hf
  have j14_2 : ∀ (u14_2_0 : S1) (H : Heap) (locs : List Loc) (ls : Array Slot), k14_2 u14_2_0 = some o → va_P D cls (wX4 cI cZ a0 u14_2_0) H → va_S A s.heap H locs → lv_has ls 3 [] → W p l e (headSpec wsX4_setPath rmX4_setPath).room s m args below meth c H locs 0 0 Q (F0 m 14 ls []) := by
    intro u14_2_0 H locs ls hf hP hS hl
    have hf := qa1 hk14_2 hf
    have eo := Option.some.inj hf
    have hP : va_P D cls (wX4 cI cZ a0 o) H := by rw [← eo]; exact hP
    rw [hQ]
    exact W.vret hx hb hr (fun t ht hW => ⟨⟨(), rfl, trivial, P_at ht hP⟩, hS.F ht⟩) hS.2.2 dX4_setPath_14 hlocks
  refine lv_if_eq (tgt := 14) hx hb dX4_setPath_4 (by decide) (fun c_3 => ?_) (fun c_3 => ?_)
  · have hf := ite_t hf c_3
    exact j14_2 _ _ _ _ hf hP hS (lv_sub hl [] rfl)
  · have hf := ite_f hf c_3
    refine lv_aload_n hx hb dX4_setPath_7 rfl (lv_at hl 0 rfl) ?_
    refine va_get (D := D) (ci := 4) (v := .ref (a0 5)) (C := RX4) (T := TX4) (N := 12) hx hb hts i4 hown hK hP 0 rfl rfl 4 (by decide) hk24 (fun _ h9 => h9) rfl dX4_setPath_8 ?_
    refine lv_iload_n hx hb dX4_setPath_11 rfl (lv_at hl 1 rfl) ?_
    refine lv_iload_n hx hb dX4_setPath_12 rfl (lv_at hl 2 rfl) ?_
    obtain ⟨hi, hf⟩ := chk_some hf
    obtain ⟨u_4, hu_4, hf⟩ := bv_some hf
    refine va_iast hx hb hK hP (hDD u0) hS 5 0 rfl rfl (inb_in hi) dX4_setPath_13 (fun H locs hP _ hS => ?_)
    have hP : va_P D cls (wX4 cI cZ a0 u_4) H := by rw [hu_4]; exact hP
    exact j14_2 _ _ _ _ hf hP hS (lv_sub hl [] rfl)
theorem dX4_lowestNotHad_0 : decode cX4_lowestNotHad 0 = .ok (.iconst 0, 1) := by decide +kernel
theorem dX4_lowestNotHad_1 : decode cX4_lowestNotHad 1 = .ok (.istore_n 1, 1) := by decide +kernel
theorem dX4_lowestNotHad_2 : decode cX4_lowestNotHad 2 = .ok (.iload_n 1, 1) := by decide +kernel
theorem dX4_lowestNotHad_3 : decode cX4_lowestNotHad 3 = .ok (.bipush 32, 2) := by decide +kernel
theorem dX4_lowestNotHad_5 : decode cX4_lowestNotHad 5 = .ok (.if_icmp .ge 21, 3) := by decide +kernel
theorem dX4_lowestNotHad_8 : decode cX4_lowestNotHad 8 = .ok (.aload_n 0, 1) := by decide +kernel
theorem dX4_lowestNotHad_9 : decode cX4_lowestNotHad 9 = .ok (.getfield 9, 3) := by decide +kernel
theorem dX4_lowestNotHad_12 : decode cX4_lowestNotHad 12 = .ok (.iload_n 1, 1) := by decide +kernel
theorem dX4_lowestNotHad_13 : decode cX4_lowestNotHad 13 = .ok (.iaload, 1) := by decide +kernel
theorem dX4_lowestNotHad_14 : decode cX4_lowestNotHad 14 = .ok (.iconst (-1), 1) := by decide +kernel
theorem dX4_lowestNotHad_15 : decode cX4_lowestNotHad 15 = .ok (.if_icmp .ne 5, 3) := by decide +kernel
theorem dX4_lowestNotHad_18 : decode cX4_lowestNotHad 18 = .ok (.iload_n 1, 1) := by decide +kernel
theorem dX4_lowestNotHad_19 : decode cX4_lowestNotHad 19 = .ok (.ireturn, 1) := by decide +kernel
theorem dX4_lowestNotHad_20 : decode cX4_lowestNotHad 20 = .ok (.iinc 1 1, 3) := by decide +kernel
theorem dX4_lowestNotHad_23 : decode cX4_lowestNotHad 23 = .ok (.goto (-21), 3) := by decide +kernel
theorem dX4_lowestNotHad_26 : decode cX4_lowestNotHad 26 = .ok (.iconst (-1), 1) := by decide +kernel
theorem dX4_lowestNotHad_27 : decode cX4_lowestNotHad 27 = .ok (.ireturn, 1) := by decide +kernel
def f_X4_lowestNotHad (u0 : S1) : Option (Int32) := qj1 (fun (r2_1 : Int32 → Option (Int32)) (y2_1_1 : Int32) => if 32 ≤ y2_1_1 then some (-1) else chk (inb y2_1_1 32) (if (u0 0 (y2_1_1).toNatClampNeg) = (-1) then some y2_1_1 else r2_1 (y2_1_1 + 1))) (fun k2_1 => k2_1 0)
def rmX4_lowestNotHad : Room := { frames := 0, cells := 0, slots := 0, locals := 0 }
set_option maxHeartbeats 4000000 in
set_option maxRecDepth 100000 in
theorem c_X4_lowestNotHad (l : Launch) (D : va_G) (cI cZ cJ cT : ClassId) (a0 : Nat → Nat) (u0 : S1) (o : Int32) (hf : f_X4_lowestNotHad u0 = some o) : Met l yX4_lowestNotHad wsX4_lowestNotHad rmX4_lowestNotHad (va_Pc [.ref (a0 0)] (PR D cls (tys cI cZ cJ cT) ((wX4 cI cZ a0 u0)))) (QR o) 0 0 (fun _ => False) := by
  refine Met.ofW (cc := cX4_lowestNotHad) (maxL := 2) (ret := (some .int)) (by decide) rfl ?_
  intro p e s m args below meth c s₁ B hml hv
  obtain ⟨hav, hP, hK⟩ := hv
  have hx := B.exec
  have hb := B.bytes
  have hr := B.returns
  have hlocks := B.notSynchronized
  have hts := atoms_spec (ws := wsX4_lowestNotHad) B.pre
  have hown : s.vm.findClass RX4 = some m.cls := findClass_of_methodNamed B.named
  have i4 : ∀ w ∈ wsX40, w ∈ wsX4_lowestNotHad := fun w h => List.mem_cons_of_mem _ (List.mem_append_right _ h)
  have hk9 := hts (.fieldLink RX4 9 "Inodery$Tree" "kinds" "[I") (by decide +kernel)
  refine Wq (fun Q hQ => ?_)
  refine W_entry hav (Nat.le_of_ble_eq_true rfl) (fun ls hl => ?_)
  have hl : lv_has ls 2 [(0, .ref (a0 0))] := hl
  unfold f_X4_lowestNotHad at hf
  refine lv_iconst (v := 0) hx hb dX4_lowestNotHad_0 (by decide) ?_
  refine lv_istore_n (lv' := [(1, .int 0), (0, .ref (a0 0))]) hx hb dX4_lowestNotHad_1 rfl hl (by decide) rfl (fun ls hl => ?_)
  obtain ⟨G2_1, hG2_1, hf⟩ := qj1_some hf
  have j2_1 : ∀ (n : Nat) (y2_1_1 : Int32) (ls : Array Slot), ql1 G2_1 n y2_1_1 = some o → lv_has ls 2 [(0, .ref (a0 0)), (1, .int y2_1_1)] → W p l e (headSpec wsX4_lowestNotHad rmX4_lowestNotHad).room s m args below meth c s.heap [] 0 0 Q (F0 m 2 ls []) := by
    intro n
    induction n with
    | zero => intro y2_1_1 ls hf hl; exact (ql1_z hf).elim
    | succ n ih2_1 =>
      intro y2_1_1 ls hf hl
      have hf := ql1_s hG2_1 hf
      obtain ⟨r2_1, hr2_1⟩ : ∃ z, z = ql1 G2_1 n := ⟨_, rfl⟩
      rw [← hr2_1] at hf ih2_1
      refine lv_iload_n hx hb dX4_lowestNotHad_2 rfl (lv_at hl 1 rfl) ?_
      refine lv_bipush (v := 32) hx hb dX4_lowestNotHad_3 (by decide) ?_
      refine lv_icmp_ge (tgt := 26) hx hb dX4_lowestNotHad_5 (by decide) (fun c_2 => ?_) (fun c_2 => ?_)
      · have hf := ite_t hf c_2
        refine lv_iconst (v := (-1)) hx hb dX4_lowestNotHad_26 (by decide) ?_
        rw [hQ]
        exact W.iret hx hb hr (fun t ht hW => ⟨_, rfl, Option.some.inj hf, ht⟩) (fun _ h => nomatch h) dX4_lowestNotHad_27 hlocks
      · have hf := ite_f hf c_2
        refine lv_aload_n hx hb dX4_lowestNotHad_8 rfl (lv_at hl 0 rfl) ?_
        refine va_get (D := D) (ci := 4) (v := .ref (a0 1)) (C := RX4) (T := TX4) (N := 12) hx hb hts i4 hown hK hP 0 rfl rfl 0 (by decide) hk9 (fun _ h9 => h9) rfl dX4_lowestNotHad_9 ?_
        refine lv_iload_n hx hb dX4_lowestNotHad_12 rfl (lv_at hl 1 rfl) ?_
        obtain ⟨hi, hf⟩ := chk_some hf
        refine va_iald hx hb hK hP 1 0 rfl rfl (inb_in hi) dX4_lowestNotHad_13 ?_
        refine lv_iconst (v := (-1)) hx hb dX4_lowestNotHad_14 (by decide) ?_
        refine lv_icmp_ne (tgt := 20) hx hb dX4_lowestNotHad_15 (by decide) (fun c_3 => ?_) (fun c_3 => ?_)
        · have hf := ite_f hf c_3
          refine lv_iinc (v := y2_1_1 + 1) (lv' := [(1, .int (y2_1_1 + 1)), (0, .ref (a0 0))]) hx hb dX4_lowestNotHad_20 hl (k := 1) rfl rfl (by decide) rfl (fun ls hl => ?_)
          refine lv_goto (tgt := 2) hx hb dX4_lowestNotHad_23 (by decide) ?_
          exact ih2_1 _ _ hf (lv_sub hl [1, 0] rfl)
        · have hf := ite_t hf c_3
          refine lv_iload_n hx hb dX4_lowestNotHad_18 rfl (lv_at hl 1 rfl) ?_
          rw [hQ]
          exact W.iret hx hb hr (fun t ht hW => ⟨_, rfl, Option.some.inj hf, ht⟩) (fun _ h => nomatch h) dX4_lowestNotHad_19 hlocks
  exact j2_1 4096 _ _ hf (lv_sub hl [1, 0] rfl)
set_option maxRecDepth 20000 in
theorem ggX4_makeThing_X4_isInRange : GoodIn wsX4_makeThing wsX4_isInRange := goodIn_r _ [8] (by decide +kernel) (by decide +kernel)
set_option maxRecDepth 20000 in
theorem gX4_makeThing_X4_isInRange : GoodIn wsX4_makeThing (va_wsS RX4 54 yX4_isInRange wsX4_isInRange) := goodIn_app (goodIn_of _ (by decide +kernel)) ggX4_makeThing_X4_isInRange
theorem dX4_makeThing_0 : decode cX4_makeThing 0 = .ok (.iload_n 1, 1) := by decide +kernel
theorem dX4_makeThing_1 : decode cX4_makeThing 1 = .ok (.invokestatic 54, 3) := by decide +kernel
theorem dX4_makeThing_4 : decode cX4_makeThing 4 = .ok (.ifCond .eq 32, 3) := by decide +kernel
theorem dX4_makeThing_7 : decode cX4_makeThing 7 = .ok (.aload_n 0, 1) := by decide +kernel
theorem dX4_makeThing_8 : decode cX4_makeThing 8 = .ok (.getfield 9, 3) := by decide +kernel
theorem dX4_makeThing_11 : decode cX4_makeThing 11 = .ok (.iload_n 1, 1) := by decide +kernel
theorem dX4_makeThing_12 : decode cX4_makeThing 12 = .ok (.iload_n 2, 1) := by decide +kernel
theorem dX4_makeThing_13 : decode cX4_makeThing 13 = .ok (.iastore, 1) := by decide +kernel
theorem dX4_makeThing_14 : decode cX4_makeThing 14 = .ok (.aload_n 0, 1) := by decide +kernel
theorem dX4_makeThing_15 : decode cX4_makeThing 15 = .ok (.getfield 15, 3) := by decide +kernel
theorem dX4_makeThing_18 : decode cX4_makeThing 18 = .ok (.iload_n 1, 1) := by decide +kernel
theorem dX4_makeThing_19 : decode cX4_makeThing 19 = .ok (.iload_n 3, 1) := by decide +kernel
theorem dX4_makeThing_20 : decode cX4_makeThing 20 = .ok (.iastore, 1) := by decide +kernel
theorem dX4_makeThing_21 : decode cX4_makeThing 21 = .ok (.aload_n 0, 1) := by decide +kernel
theorem dX4_makeThing_22 : decode cX4_makeThing 22 = .ok (.getfield 18, 3) := by decide +kernel
theorem dX4_makeThing_25 : decode cX4_makeThing 25 = .ok (.iload_n 1, 1) := by decide +kernel
theorem dX4_makeThing_26 : decode cX4_makeThing 26 = .ok (.iload 4, 2) := by decide +kernel
theorem dX4_makeThing_28 : decode cX4_makeThing 28 = .ok (.iastore, 1) := by decide +kernel
theorem dX4_makeThing_29 : decode cX4_makeThing 29 = .ok (.aload_n 0, 1) := by decide +kernel
theorem dX4_makeThing_30 : decode cX4_makeThing 30 = .ok (.getfield 21, 3) := by decide +kernel
theorem dX4_makeThing_33 : decode cX4_makeThing 33 = .ok (.iload_n 1, 1) := by decide +kernel
theorem dX4_makeThing_34 : decode cX4_makeThing 34 = .ok (.iconst 1, 1) := by decide +kernel
theorem dX4_makeThing_35 : decode cX4_makeThing 35 = .ok (.iastore, 1) := by decide +kernel
theorem dX4_makeThing_36 : decode cX4_makeThing 36 = .ok (.return_, 1) := by decide +kernel
def f_X4_makeThing (u0 : S1) (p1 : Int32) (p2 : Int32) (p3 : Int32) (p4 : Int32) : Option (S1) := bn (f_X4_isInRange p1) (fun z_1 => jn (fun (u36_2_0 : S1) => some (u36_2_0)) (fun k36_2 => if z_1 = 0 then k36_2 u0 else chk (inb p1 32) (bv (st u0 0 p1 p2) (fun u_4 => chk (inb p1 32) (bv (st u_4 1 p1 p3) (fun u_5 => chk (inb p1 32) (bv (st u_5 2 p1 p4) (fun u_6 => chk (inb p1 32) (bv (st u_6 3 p1 1) (fun u_7 => k36_2 u_7))))))))))
def rmX4_makeThing : Room := { frames := 1, cells := 0, slots := 0, locals := 20 }
set_option maxHeartbeats 4000000 in
set_option maxRecDepth 100000 in
theorem c_X4_makeThing (l : Launch) (D : va_G) (cI cZ cJ cT : ClassId) (a0 : Nat → Nat) (sz : Nat) (u0 : S1) (p1 : Int32) (p2 : Int32) (p3 : Int32) (p4 : Int32) (o : S1) (hf : f_X4_makeThing u0 p1 p2 p3 p4 = some o) : Met l yX4_makeThing wsX4_makeThing rmX4_makeThing (va_Pc [.ref (a0 0), .int p1, .int p2, .int p3, .int p4] (PW D cls (tys cI cZ cJ cT) ((wX4 cI cZ a0 u0)) sz)) (QWv D cls ((wX4 cI cZ a0 o)) (va_A ((wX4 cI cZ a0 u0)) sz)) 0 0 (va_A ((wX4 cI cZ a0 u0)) sz) := by
  refine Met.ofW (cc := cX4_makeThing) (maxL := 5) (ret := none) (by decide) rfl ?_
  intro p e s m args below meth c s₁ B hml hv
  obtain ⟨hav, hsz, hP, hK, hD0⟩ := hv
  have hx := B.exec
  have hb := B.bytes
  have hr := B.returns
  have hlocks := B.notSynchronized
  have hts := atoms_spec (ws := wsX4_makeThing) B.pre
  have hown : s.vm.findClass RX4 = some m.cls := findClass_of_methodNamed B.named
  have i4 : ∀ w ∈ wsX40, w ∈ wsX4_makeThing := fun w h => List.mem_cons_of_mem _ (List.mem_append_right _ h)
  have hk9 := hts (.fieldLink RX4 9 "Inodery$Tree" "kinds" "[I") (by decide +kernel)
  have hk15 := hts (.fieldLink RX4 15 "Inodery$Tree" "owners" "[I") (by decide +kernel)
  have hk18 := hts (.fieldLink RX4 18 "Inodery$Tree" "rights" "[I") (by decide +kernel)
  have hk21 := hts (.fieldLink RX4 21 "Inodery$Tree" "counts" "[I") (by decide +kernel)
  subst hsz
  have hD := hD0.self (sz := s.heap.size)
  generalize hAe : va_A ((wX4 cI cZ a0 u0)) s.heap.size = A at hD ⊢
  have hA : ∀ q : Nat, s.heap.size ≤ q → A q := fun q h => by rw [← hAe]; exact Or.inr h
  have hS : va_S A s.heap s.heap [] := va_S.rf
  have hDD : ∀ w0 : S1, va_D A ((wX4 cI cZ a0 w0)) := fun _ => D_same (w := (wX4 cI cZ a0 u0)) rfl hD
  refine Wq (fun Q hQ => ?_)
  refine W_entry hav (Nat.le_of_ble_eq_true rfl) (fun ls hl => ?_)
  have hl : lv_has ls 5 [(0, .ref (a0 0)), (1, .int p1), (2, .int p2), (3, .int p3), (4, .int p4)] := hl
  unfold f_X4_makeThing at hf
  refine W_heap hP hS (fun H locs hP hS => ?_)
  refine lv_iload_n hx hb dX4_makeThing_0 rfl (lv_at hl 1 rfl) ?_
  obtain ⟨z_1, hz_1, hf⟩ := bn_some hf
  refine c0S (As := [.int p1]) (rest := []) ⟨hx, hb, hml, hown, hts⟩ (c_X4_isInRange l D cI cZ cJ cT p1 z_1 hz_1) (va_cwS 1 hts gX4_makeThing_X4_isInRange rfl rfl rfl (by decide +kernel) ⟨Nat.le_of_ble_eq_true rfl, Nat.le_of_ble_eq_true rfl⟩) rfl rfl hl.1 (Nat.le_of_ble_eq_true rfl) dX4_makeThing_1 ⟨Nat.le_of_ble_eq_true rfl, Nat.le_of_ble_eq_true rfl⟩ ?_
  obtain ⟨k36_2, hk36_2, hf⟩ := jn_some hf
  have j36_2 : ∀ (u36_2_0 : S1) (H : Heap) (locs : List Loc) (ls : Array Slot), k36_2 u36_2_0 = some o → va_P D cls (wX4 cI cZ a0 u36_2_0) H → va_S A s.heap H locs → lv_has ls 5 [] → W p l e (headSpec wsX4_makeThing rmX4_makeThing).room s m args below meth c H locs 0 0 Q (F0 m 36 ls []) := by
    intro u36_2_0 H locs ls hf hP hS hl
    have hf := qa1 hk36_2 hf
    have eo := Option.some.inj hf
    have hP : va_P D cls (wX4 cI cZ a0 o) H := by rw [← eo]; exact hP
    rw [hQ]
    exact W.vret hx hb hr (fun t ht hW => ⟨⟨(), rfl, trivial, P_at ht hP⟩, hS.F ht⟩) hS.2.2 dX4_makeThing_36 hlocks
  refine lv_if_eq (tgt := 36) hx hb dX4_makeThing_4 (by decide) (fun c_3 => ?_) (fun c_3 => ?_)
  · have hf := ite_t hf c_3
    exact j36_2 _ _ _ _ hf hP hS (lv_sub hl [] rfl)
  · have hf := ite_f hf c_3
    refine lv_aload_n hx hb dX4_makeThing_7 rfl (lv_at hl 0 rfl) ?_
    refine va_get (D := D) (ci := 4) (v := .ref (a0 1)) (C := RX4) (T := TX4) (N := 12) hx hb hts i4 hown hK hP 0 rfl rfl 0 (by decide) hk9 (fun _ h9 => h9) rfl dX4_makeThing_8 ?_
    refine lv_iload_n hx hb dX4_makeThing_11 rfl (lv_at hl 1 rfl) ?_
    refine lv_iload_n hx hb dX4_makeThing_12 rfl (lv_at hl 2 rfl) ?_
    obtain ⟨hi, hf⟩ := chk_some hf
    obtain ⟨u_4, hu_4, hf⟩ := bv_some hf
    refine va_iast hx hb hK hP (hDD u0) hS 1 0 rfl rfl (inb_in hi) dX4_makeThing_13 (fun H locs hP _ hS => ?_)
    have hP : va_P D cls (wX4 cI cZ a0 u_4) H := by rw [hu_4]; exact hP
    refine lv_aload_n hx hb dX4_makeThing_14 rfl (lv_at hl 0 rfl) ?_
    refine va_get (D := D) (ci := 4) (v := .ref (a0 2)) (C := RX4) (T := TX4) (N := 12) hx hb hts i4 hown hK hP 0 rfl rfl 1 (by decide) hk15 (fun _ h9 => h9) rfl dX4_makeThing_15 ?_
    refine lv_iload_n hx hb dX4_makeThing_18 rfl (lv_at hl 1 rfl) ?_
    refine lv_iload_n hx hb dX4_makeThing_19 rfl (lv_at hl 3 rfl) ?_
    obtain ⟨hi, hf⟩ := chk_some hf
    obtain ⟨u_5, hu_5, hf⟩ := bv_some hf
    refine va_iast hx hb hK hP (hDD u_4) hS 2 0 rfl rfl (inb_in hi) dX4_makeThing_20 (fun H locs hP _ hS => ?_)
    have hP : va_P D cls (wX4 cI cZ a0 u_5) H := by rw [hu_5]; exact hP
    refine lv_aload_n hx hb dX4_makeThing_21 rfl (lv_at hl 0 rfl) ?_
    refine va_get (D := D) (ci := 4) (v := .ref (a0 3)) (C := RX4) (T := TX4) (N := 12) hx hb hts i4 hown hK hP 0 rfl rfl 2 (by decide) hk18 (fun _ h9 => h9) rfl dX4_makeThing_22 ?_
    refine lv_iload_n hx hb dX4_makeThing_25 rfl (lv_at hl 1 rfl) ?_
    refine lv_iload hx hb dX4_makeThing_26 (lv_at hl 4 rfl) ?_
    obtain ⟨hi, hf⟩ := chk_some hf
    obtain ⟨u_6, hu_6, hf⟩ := bv_some hf
    refine va_iast hx hb hK hP (hDD u_5) hS 3 0 rfl rfl (inb_in hi) dX4_makeThing_28 (fun H locs hP _ hS => ?_)
    have hP : va_P D cls (wX4 cI cZ a0 u_6) H := by rw [hu_6]; exact hP
    refine lv_aload_n hx hb dX4_makeThing_29 rfl (lv_at hl 0 rfl) ?_
    refine va_get (D := D) (ci := 4) (v := .ref (a0 4)) (C := RX4) (T := TX4) (N := 12) hx hb hts i4 hown hK hP 0 rfl rfl 3 (by decide) hk21 (fun _ h9 => h9) rfl dX4_makeThing_30 ?_
    refine lv_iload_n hx hb dX4_makeThing_33 rfl (lv_at hl 1 rfl) ?_
    refine lv_iconst (v := 1) hx hb dX4_makeThing_34 (by decide) ?_
    obtain ⟨hi, hf⟩ := chk_some hf
    obtain ⟨u_7, hu_7, hf⟩ := bv_some hf
    refine va_iast hx hb hK hP (hDD u_6) hS 4 0 rfl rfl (inb_in hi) dX4_makeThing_35 (fun H locs hP _ hS => ?_)
    have hP : va_P D cls (wX4 cI cZ a0 u_7) H := by rw [hu_7]; exact hP
    exact j36_2 _ _ _ _ hf hP hS (lv_sub hl [] rfl)
set_option maxRecDepth 20000 in
theorem ggX4_isPageOf_X4_isInRange : GoodIn wsX4_isPageOf wsX4_isInRange := goodIn_r _ [4] (by decide +kernel) (by decide +kernel)
set_option maxRecDepth 20000 in
theorem gX4_isPageOf_X4_isInRange : GoodIn wsX4_isPageOf (va_wsS RX4 54 yX4_isInRange wsX4_isInRange) := goodIn_app (goodIn_of _ (by decide +kernel)) ggX4_isPageOf_X4_isInRange
theorem dX4_isPageOf_0 : decode cX4_isPageOf 0 = .ok (.iload_n 0, 1) := by decide +kernel
theorem dX4_isPageOf_1 : decode cX4_isPageOf 1 = .ok (.invokestatic 54, 3) := by decide +kernel
theorem dX4_isPageOf_4 : decode cX4_isPageOf 4 = .ok (.ifCond .eq 17, 3) := by decide +kernel
theorem dX4_isPageOf_7 : decode cX4_isPageOf 7 = .ok (.iload_n 1, 1) := by decide +kernel
theorem dX4_isPageOf_8 : decode cX4_isPageOf 8 = .ok (.ifCond .lt 13, 3) := by decide +kernel
theorem dX4_isPageOf_11 : decode cX4_isPageOf 11 = .ok (.iload_n 1, 1) := by decide +kernel
theorem dX4_isPageOf_12 : decode cX4_isPageOf 12 = .ok (.bipush 16, 2) := by decide +kernel
theorem dX4_isPageOf_14 : decode cX4_isPageOf 14 = .ok (.if_icmp .ge 7, 3) := by decide +kernel
theorem dX4_isPageOf_17 : decode cX4_isPageOf 17 = .ok (.iconst 1, 1) := by decide +kernel
theorem dX4_isPageOf_18 : decode cX4_isPageOf 18 = .ok (.goto 4, 3) := by decide +kernel
theorem dX4_isPageOf_21 : decode cX4_isPageOf 21 = .ok (.iconst 0, 1) := by decide +kernel
theorem dX4_isPageOf_22 : decode cX4_isPageOf 22 = .ok (.ireturn, 1) := by decide +kernel
def f_X4_isPageOf (p0 : Int32) (p1 : Int32) : Option (Int32) := bn (f_X4_isInRange p0) (fun z_1 => jn (fun (v22_2_0 : Int32) => some (vp_nar .boolean v22_2_0)) (fun k22_2 => jn (k22_2 0) (fun k21_3 => if z_1 = 0 then k21_3 else if p1 < 0 then k21_3 else if 16 ≤ p1 then k21_3 else k22_2 1)))
def rmX4_isPageOf : Room := { frames := 1, cells := 0, slots := 0, locals := 20 }
set_option maxHeartbeats 4000000 in
set_option maxRecDepth 100000 in
theorem c_X4_isPageOf (l : Launch) (D : va_G) (cI cZ cJ cT : ClassId) (p0 : Int32) (p1 : Int32) (o : Int32) (hf : f_X4_isPageOf p0 p1 = some o) : Met l yX4_isPageOf wsX4_isPageOf rmX4_isPageOf (va_Pc [.int p0, .int p1] (fun _ => True)) (QR o) 0 0 (fun _ => False) := by
  refine Met.ofW (cc := cX4_isPageOf) (maxL := 2) (ret := (some .boolean)) (by decide) rfl ?_
  intro p e s m args below meth c s₁ B hml hv
  obtain ⟨hav, -⟩ := hv
  have hx := B.exec
  have hb := B.bytes
  have hr := B.returns
  have hlocks := B.notSynchronized
  have hts := atoms_spec (ws := wsX4_isPageOf) B.pre
  have hown : s.vm.findClass RX4 = some m.cls := findClass_of_methodNamed B.named
  refine Wq (fun Q hQ => ?_)
  refine W_entry hav (Nat.le_of_ble_eq_true rfl) (fun ls hl => ?_)
  have hl : lv_has ls 2 [(0, .int p0), (1, .int p1)] := hl
  unfold f_X4_isPageOf at hf
  refine lv_iload_n hx hb dX4_isPageOf_0 rfl (lv_at hl 0 rfl) ?_
  obtain ⟨z_1, hz_1, hf⟩ := bn_some hf
  refine c0S (As := [.int p0]) (rest := []) ⟨hx, hb, hml, hown, hts⟩ (c_X4_isInRange l D cI cZ cJ cT p0 z_1 hz_1) (va_cwS 1 hts gX4_isPageOf_X4_isInRange rfl rfl rfl (by decide +kernel) ⟨Nat.le_of_ble_eq_true rfl, Nat.le_of_ble_eq_true rfl⟩) rfl rfl hl.1 (Nat.le_of_ble_eq_true rfl) dX4_isPageOf_1 ⟨Nat.le_of_ble_eq_true rfl, Nat.le_of_ble_eq_true rfl⟩ ?_
  obtain ⟨k22_2, hk22_2, hf⟩ := jn_some hf
  have j22_2 : ∀ (v22_2_0 : Int32) (ls : Array Slot), k22_2 v22_2_0 = some o → lv_has ls 2 [] → W p l e (headSpec wsX4_isPageOf rmX4_isPageOf).room s m args below meth c s.heap [] 0 0 Q (F0 m 22 ls [.int v22_2_0]) := by
    intro v22_2_0 ls hf hl
    have hf := qa1 hk22_2 hf
    rw [hQ]
    exact zretN (v := v22_2_0) (v' := vp_nar .boolean v22_2_0) hx hb hr rfl (fun t ht hW => ⟨_, rfl, Option.some.inj hf, ht⟩) (fun _ h => nomatch h) dX4_isPageOf_22 hlocks
  obtain ⟨k21_3, hk21_3, hf⟩ := jn_some hf
  have j21_3 : ∀ (ls : Array Slot), k21_3 = some o → lv_has ls 2 [] → W p l e (headSpec wsX4_isPageOf rmX4_isPageOf).room s m args below meth c s.heap [] 0 0 Q (F0 m 21 ls []) := by
    intro ls hf hl
    have hf := qa0 hk21_3 hf
    refine lv_iconst (v := 0) hx hb dX4_isPageOf_21 (by decide) ?_
    exact j22_2 _ _ hf (lv_sub hl [] rfl)
  refine lv_if_eq (tgt := 21) hx hb dX4_isPageOf_4 (by decide) (fun c_4 => ?_) (fun c_4 => ?_)
  · have hf := ite_t hf c_4
    exact j21_3 _ hf (lv_sub hl [] rfl)
  · have hf := ite_f hf c_4
    refine lv_iload_n hx hb dX4_isPageOf_7 rfl (lv_at hl 1 rfl) ?_
    refine lv_if_lt (tgt := 21) hx hb dX4_isPageOf_8 (by decide) (fun c_5 => ?_) (fun c_5 => ?_)
    · have hf := ite_t hf c_5
      exact j21_3 _ hf (lv_sub hl [] rfl)
    · have hf := ite_f hf c_5
      refine lv_iload_n hx hb dX4_isPageOf_11 rfl (lv_at hl 1 rfl) ?_
      refine lv_bipush (v := 16) hx hb dX4_isPageOf_12 (by decide) ?_
      refine lv_icmp_ge (tgt := 21) hx hb dX4_isPageOf_14 (by decide) (fun c_6 => ?_) (fun c_6 => ?_)
      · have hf := ite_t hf c_6
        exact j21_3 _ hf (lv_sub hl [] rfl)
      · have hf := ite_f hf c_6
        refine lv_iconst (v := 1) hx hb dX4_isPageOf_17 (by decide) ?_
        refine lv_goto (tgt := 22) hx hb dX4_isPageOf_18 (by decide) ?_
        exact j22_2 _ _ hf (lv_sub hl [] rfl)
set_option maxRecDepth 20000 in
theorem ggX4_countBlock_X4_isInRange : GoodIn wsX4_countBlock wsX4_isInRange := goodIn_r _ [6] (by decide +kernel) (by decide +kernel)
set_option maxRecDepth 20000 in
theorem gX4_countBlock_X4_isInRange : GoodIn wsX4_countBlock (va_wsS RX4 54 yX4_isInRange wsX4_isInRange) := goodIn_app (goodIn_of _ (by decide +kernel)) ggX4_countBlock_X4_isInRange
theorem dX4_countBlock_0 : decode cX4_countBlock 0 = .ok (.iload_n 2, 1) := by decide +kernel
theorem dX4_countBlock_1 : decode cX4_countBlock 1 = .ok (.ifCond .lt 36, 3) := by decide +kernel
theorem dX4_countBlock_4 : decode cX4_countBlock 4 = .ok (.iload_n 2, 1) := by decide +kernel
theorem dX4_countBlock_5 : decode cX4_countBlock 5 = .ok (.bipush 64, 2) := by decide +kernel
theorem dX4_countBlock_7 : decode cX4_countBlock 7 = .ok (.if_icmp .ge 30, 3) := by decide +kernel
theorem dX4_countBlock_10 : decode cX4_countBlock 10 = .ok (.iload_n 1, 1) := by decide +kernel
theorem dX4_countBlock_11 : decode cX4_countBlock 11 = .ok (.invokestatic 54, 3) := by decide +kernel
theorem dX4_countBlock_14 : decode cX4_countBlock 14 = .ok (.ifCond .eq 23, 3) := by decide +kernel
theorem dX4_countBlock_17 : decode cX4_countBlock 17 = .ok (.aload_n 0, 1) := by decide +kernel
theorem dX4_countBlock_18 : decode cX4_countBlock 18 = .ok (.getfield 45, 3) := by decide +kernel
theorem dX4_countBlock_21 : decode cX4_countBlock 21 = .ok (.iload_n 2, 1) := by decide +kernel
theorem dX4_countBlock_22 : decode cX4_countBlock 22 = .ok (.dup2, 1) := by decide +kernel
theorem dX4_countBlock_23 : decode cX4_countBlock 23 = .ok (.iaload, 1) := by decide +kernel
theorem dX4_countBlock_24 : decode cX4_countBlock 24 = .ok (.iload_n 3, 1) := by decide +kernel
theorem dX4_countBlock_25 : decode cX4_countBlock 25 = .ok (.iadd, 1) := by decide +kernel
theorem dX4_countBlock_26 : decode cX4_countBlock 26 = .ok (.iastore, 1) := by decide +kernel
theorem dX4_countBlock_27 : decode cX4_countBlock 27 = .ok (.aload_n 0, 1) := by decide +kernel
theorem dX4_countBlock_28 : decode cX4_countBlock 28 = .ok (.getfield 42, 3) := by decide +kernel
theorem dX4_countBlock_31 : decode cX4_countBlock 31 = .ok (.iload_n 1, 1) := by decide +kernel
theorem dX4_countBlock_32 : decode cX4_countBlock 32 = .ok (.dup2, 1) := by decide +kernel
theorem dX4_countBlock_33 : decode cX4_countBlock 33 = .ok (.iaload, 1) := by decide +kernel
theorem dX4_countBlock_34 : decode cX4_countBlock 34 = .ok (.iload_n 3, 1) := by decide +kernel
theorem dX4_countBlock_35 : decode cX4_countBlock 35 = .ok (.iadd, 1) := by decide +kernel
theorem dX4_countBlock_36 : decode cX4_countBlock 36 = .ok (.iastore, 1) := by decide +kernel
theorem dX4_countBlock_37 : decode cX4_countBlock 37 = .ok (.return_, 1) := by decide +kernel
def f_X4_countBlock (u0 : S1) (p1 : Int32) (p2 : Int32) (p3 : Int32) : Option (S1) := jn (fun (u37_1_0 : S1) => some (u37_1_0)) (fun k37_1 => if p2 < 0 then k37_1 u0 else if 64 ≤ p2 then k37_1 u0 else bn (f_X4_isInRange p1) (fun z_4 => if z_4 = 0 then k37_1 u0 else chk (inb p2 64) (chk (inb p2 64) (bv (st u0 11 p2 ((u0 11 (p2).toNatClampNeg) + p3)) (fun u_6 => chk (inb p1 32) (chk (inb p1 32) (bv (st u_6 10 p1 ((u_6 10 (p1).toNatClampNeg) + p3)) (fun u_7 => k37_1 u_7))))))))
def rmX4_countBlock : Room := { frames := 1, cells := 0, slots := 0, locals := 20 }
set_option maxHeartbeats 4000000 in
set_option maxRecDepth 100000 in
theorem c_X4_countBlock (l : Launch) (D : va_G) (cI cZ cJ cT : ClassId) (a0 : Nat → Nat) (sz : Nat) (u0 : S1) (p1 : Int32) (p2 : Int32) (p3 : Int32) (o : S1) (hf : f_X4_countBlock u0 p1 p2 p3 = some o) : Met l yX4_countBlock wsX4_countBlock rmX4_countBlock (va_Pc [.ref (a0 0), .int p1, .int p2, .int p3] (PW D cls (tys cI cZ cJ cT) ((wX4 cI cZ a0 u0)) sz)) (QWv D cls ((wX4 cI cZ a0 o)) (va_A ((wX4 cI cZ a0 u0)) sz)) 0 0 (va_A ((wX4 cI cZ a0 u0)) sz) := by
  refine Met.ofW (cc := cX4_countBlock) (maxL := 4) (ret := none) (by decide) rfl ?_
  intro p e s m args below meth c s₁ B hml hv
  obtain ⟨hav, hsz, hP, hK, hD0⟩ := hv
  have hx := B.exec
  have hb := B.bytes
  have hr := B.returns
  have hlocks := B.notSynchronized
  have hts := atoms_spec (ws := wsX4_countBlock) B.pre
  have hown : s.vm.findClass RX4 = some m.cls := findClass_of_methodNamed B.named
  have i4 : ∀ w ∈ wsX40, w ∈ wsX4_countBlock := fun w h => List.mem_cons_of_mem _ (List.mem_append_right _ h)
  have hk42 := hts (.fieldLink RX4 42 "Inodery$Tree" "filled" "[I") (by decide +kernel)
  have hk45 := hts (.fieldLink RX4 45 "Inodery$Tree" "uses" "[I") (by decide +kernel)
  subst hsz
  have hD := hD0.self (sz := s.heap.size)
  generalize hAe : va_A ((wX4 cI cZ a0 u0)) s.heap.size = A at hD ⊢
  have hA : ∀ q : Nat, s.heap.size ≤ q → A q := fun q h => by rw [← hAe]; exact Or.inr h
  have hS : va_S A s.heap s.heap [] := va_S.rf
  have hDD : ∀ w0 : S1, va_D A ((wX4 cI cZ a0 w0)) := fun _ => D_same (w := (wX4 cI cZ a0 u0)) rfl hD
  refine Wq (fun Q hQ => ?_)
  refine W_entry hav (Nat.le_of_ble_eq_true rfl) (fun ls hl => ?_)
  have hl : lv_has ls 4 [(0, .ref (a0 0)), (1, .int p1), (2, .int p2), (3, .int p3)] := hl
  unfold f_X4_countBlock at hf
  refine W_heap hP hS (fun H locs hP hS => ?_)
  refine lv_iload_n hx hb dX4_countBlock_0 rfl (lv_at hl 2 rfl) ?_
  obtain ⟨k37_1, hk37_1, hf⟩ := jn_some hf
  have j37_1 : ∀ (u37_1_0 : S1) (H : Heap) (locs : List Loc) (ls : Array Slot), k37_1 u37_1_0 = some o → va_P D cls (wX4 cI cZ a0 u37_1_0) H → va_S A s.heap H locs → lv_has ls 4 [] → W p l e (headSpec wsX4_countBlock rmX4_countBlock).room s m args below meth c H locs 0 0 Q (F0 m 37 ls []) := by
    intro u37_1_0 H locs ls hf hP hS hl
    have hf := qa1 hk37_1 hf
    have eo := Option.some.inj hf
    have hP : va_P D cls (wX4 cI cZ a0 o) H := by rw [← eo]; exact hP
    rw [hQ]
    exact W.vret hx hb hr (fun t ht hW => ⟨⟨(), rfl, trivial, P_at ht hP⟩, hS.F ht⟩) hS.2.2 dX4_countBlock_37 hlocks
  refine lv_if_lt (tgt := 37) hx hb dX4_countBlock_1 (by decide) (fun c_2 => ?_) (fun c_2 => ?_)
  · have hf := ite_t hf c_2
    exact j37_1 _ _ _ _ hf hP hS (lv_sub hl [] rfl)
  · have hf := ite_f hf c_2
    refine lv_iload_n hx hb dX4_countBlock_4 rfl (lv_at hl 2 rfl) ?_
    refine lv_bipush (v := 64) hx hb dX4_countBlock_5 (by decide) ?_
    refine lv_icmp_ge (tgt := 37) hx hb dX4_countBlock_7 (by decide) (fun c_3 => ?_) (fun c_3 => ?_)
    · have hf := ite_t hf c_3
      exact j37_1 _ _ _ _ hf hP hS (lv_sub hl [] rfl)
    · have hf := ite_f hf c_3
      refine lv_iload_n hx hb dX4_countBlock_10 rfl (lv_at hl 1 rfl) ?_
      obtain ⟨z_4, hz_4, hf⟩ := bn_some hf
      refine c0S (As := [.int p1]) (rest := []) ⟨hx, hb, hml, hown, hts⟩ (c_X4_isInRange l D cI cZ cJ cT p1 z_4 hz_4) (va_cwS 1 hts gX4_countBlock_X4_isInRange rfl rfl rfl (by decide +kernel) ⟨Nat.le_of_ble_eq_true rfl, Nat.le_of_ble_eq_true rfl⟩) rfl rfl hl.1 (Nat.le_of_ble_eq_true rfl) dX4_countBlock_11 ⟨Nat.le_of_ble_eq_true rfl, Nat.le_of_ble_eq_true rfl⟩ ?_
      refine lv_if_eq (tgt := 37) hx hb dX4_countBlock_14 (by decide) (fun c_5 => ?_) (fun c_5 => ?_)
      · have hf := ite_t hf c_5
        exact j37_1 _ _ _ _ hf hP hS (lv_sub hl [] rfl)
      · have hf := ite_f hf c_5
        refine lv_aload_n hx hb dX4_countBlock_17 rfl (lv_at hl 0 rfl) ?_
        refine va_get (D := D) (ci := 4) (v := .ref (a0 12)) (C := RX4) (T := TX4) (N := 12) hx hb hts i4 hown hK hP 0 rfl rfl 11 (by decide) hk45 (fun _ h9 => h9) rfl dX4_countBlock_18 ?_
        refine lv_iload_n hx hb dX4_countBlock_21 rfl (lv_at hl 2 rfl) ?_
        refine lv_dup2_11 hx hb dX4_countBlock_22 rfl rfl ?_
        obtain ⟨hi, hf⟩ := chk_some hf
        refine va_iald hx hb hK hP 12 0 rfl rfl (inb_in hi) dX4_countBlock_23 ?_
        refine lv_iload_n hx hb dX4_countBlock_24 rfl (lv_at hl 3 rfl) ?_
        refine lv_iadd hx hb dX4_countBlock_25 ?_
        obtain ⟨hi, hf⟩ := chk_some hf
        obtain ⟨u_6, hu_6, hf⟩ := bv_some hf
        refine va_iast hx hb hK hP (hDD u0) hS 12 0 rfl rfl (inb_in hi) dX4_countBlock_26 (fun H locs hP _ hS => ?_)
        have hP : va_P D cls (wX4 cI cZ a0 u_6) H := by rw [hu_6]; exact hP
        refine lv_aload_n hx hb dX4_countBlock_27 rfl (lv_at hl 0 rfl) ?_
        refine va_get (D := D) (ci := 4) (v := .ref (a0 11)) (C := RX4) (T := TX4) (N := 12) hx hb hts i4 hown hK hP 0 rfl rfl 10 (by decide) hk42 (fun _ h9 => h9) rfl dX4_countBlock_28 ?_
        refine lv_iload_n hx hb dX4_countBlock_31 rfl (lv_at hl 1 rfl) ?_
        refine lv_dup2_11 hx hb dX4_countBlock_32 rfl rfl ?_
        obtain ⟨hi, hf⟩ := chk_some hf
        refine va_iald hx hb hK hP 11 0 rfl rfl (inb_in hi) dX4_countBlock_33 ?_
        refine lv_iload_n hx hb dX4_countBlock_34 rfl (lv_at hl 3 rfl) ?_
        refine lv_iadd hx hb dX4_countBlock_35 ?_
        obtain ⟨hi, hf⟩ := chk_some hf
        obtain ⟨u_7, hu_7, hf⟩ := bv_some hf
        refine va_iast hx hb hK hP (hDD u_6) hS 11 0 rfl rfl (inb_in hi) dX4_countBlock_36 (fun H locs hP _ hS => ?_)
        have hP : va_P D cls (wX4 cI cZ a0 u_7) H := by rw [hu_7]; exact hP
        exact j37_1 _ _ _ _ hf hP hS (lv_sub hl [] rfl)
set_option maxRecDepth 20000 in
theorem ggX4_setPage_X4_countBlock : GoodIn wsX4_setPage wsX4_countBlock := goodIn_r _ [13, 14, 15, 7, 8, 5, 9, 16, 17, 18, 19, 20, 21, 22, 23, 24, 25, 26, 27] (by decide +kernel) (by decide +kernel)
set_option maxRecDepth 20000 in
theorem gX4_setPage_X4_countBlock : GoodIn wsX4_setPage (wsV RX4 92 RX4 yX4_countBlock wsX4_countBlock) := goodIn_app (goodIn_of _ (by decide +kernel)) ggX4_setPage_X4_countBlock
set_option maxRecDepth 20000 in
theorem ggX4_setPage_X4_isPageOf : GoodIn wsX4_setPage wsX4_isPageOf := goodIn_r _ [6, 7, 8, 5, 9] (by decide +kernel) (by decide +kernel)
set_option maxRecDepth 20000 in
theorem gX4_setPage_X4_isPageOf : GoodIn wsX4_setPage (va_wsS RX4 89 yX4_isPageOf wsX4_isPageOf) := goodIn_app (goodIn_of _ (by decide +kernel)) ggX4_setPage_X4_isPageOf
theorem dX4_setPage_0 : decode cX4_setPage 0 = .ok (.iload_n 1, 1) := by decide +kernel
theorem dX4_setPage_1 : decode cX4_setPage 1 = .ok (.iload_n 2, 1) := by decide +kernel
theorem dX4_setPage_2 : decode cX4_setPage 2 = .ok (.invokestatic 89, 3) := by decide +kernel
theorem dX4_setPage_5 : decode cX4_setPage 5 = .ok (.ifCond .eq 53, 3) := by decide +kernel
theorem dX4_setPage_8 : decode cX4_setPage 8 = .ok (.aload_n 0, 1) := by decide +kernel
theorem dX4_setPage_9 : decode cX4_setPage 9 = .ok (.iload_n 1, 1) := by decide +kernel
theorem dX4_setPage_10 : decode cX4_setPage 10 = .ok (.aload_n 0, 1) := by decide +kernel
theorem dX4_setPage_11 : decode cX4_setPage 11 = .ok (.getfield 39, 3) := by decide +kernel
theorem dX4_setPage_14 : decode cX4_setPage 14 = .ok (.iload_n 1, 1) := by decide +kernel
theorem dX4_setPage_15 : decode cX4_setPage 15 = .ok (.bipush 16, 2) := by decide +kernel
theorem dX4_setPage_17 : decode cX4_setPage 17 = .ok (.imul, 1) := by decide +kernel
theorem dX4_setPage_18 : decode cX4_setPage 18 = .ok (.iload_n 2, 1) := by decide +kernel
theorem dX4_setPage_19 : decode cX4_setPage 19 = .ok (.iadd, 1) := by decide +kernel
theorem dX4_setPage_20 : decode cX4_setPage 20 = .ok (.iaload, 1) := by decide +kernel
theorem dX4_setPage_21 : decode cX4_setPage 21 = .ok (.iconst (-1), 1) := by decide +kernel
theorem dX4_setPage_22 : decode cX4_setPage 22 = .ok (.invokevirtual 92, 3) := by decide +kernel
theorem dX4_setPage_25 : decode cX4_setPage 25 = .ok (.aload_n 0, 1) := by decide +kernel
theorem dX4_setPage_26 : decode cX4_setPage 26 = .ok (.getfield 36, 3) := by decide +kernel
theorem dX4_setPage_29 : decode cX4_setPage 29 = .ok (.iload_n 1, 1) := by decide +kernel
theorem dX4_setPage_30 : decode cX4_setPage 30 = .ok (.bipush 16, 2) := by decide +kernel
theorem dX4_setPage_32 : decode cX4_setPage 32 = .ok (.imul, 1) := by decide +kernel
theorem dX4_setPage_33 : decode cX4_setPage 33 = .ok (.iload_n 2, 1) := by decide +kernel
theorem dX4_setPage_34 : decode cX4_setPage 34 = .ok (.iadd, 1) := by decide +kernel
theorem dX4_setPage_35 : decode cX4_setPage 35 = .ok (.iload_n 3, 1) := by decide +kernel
theorem dX4_setPage_36 : decode cX4_setPage 36 = .ok (.iastore, 1) := by decide +kernel
theorem dX4_setPage_37 : decode cX4_setPage 37 = .ok (.aload_n 0, 1) := by decide +kernel
theorem dX4_setPage_38 : decode cX4_setPage 38 = .ok (.getfield 39, 3) := by decide +kernel
theorem dX4_setPage_41 : decode cX4_setPage 41 = .ok (.iload_n 1, 1) := by decide +kernel
theorem dX4_setPage_42 : decode cX4_setPage 42 = .ok (.bipush 16, 2) := by decide +kernel
theorem dX4_setPage_44 : decode cX4_setPage 44 = .ok (.imul, 1) := by decide +kernel
theorem dX4_setPage_45 : decode cX4_setPage 45 = .ok (.iload_n 2, 1) := by decide +kernel
theorem dX4_setPage_46 : decode cX4_setPage 46 = .ok (.iadd, 1) := by decide +kernel
theorem dX4_setPage_47 : decode cX4_setPage 47 = .ok (.iload 4, 2) := by decide +kernel
theorem dX4_setPage_49 : decode cX4_setPage 49 = .ok (.iastore, 1) := by decide +kernel
theorem dX4_setPage_50 : decode cX4_setPage 50 = .ok (.aload_n 0, 1) := by decide +kernel
theorem dX4_setPage_51 : decode cX4_setPage 51 = .ok (.iload_n 1, 1) := by decide +kernel
theorem dX4_setPage_52 : decode cX4_setPage 52 = .ok (.iload 4, 2) := by decide +kernel
theorem dX4_setPage_54 : decode cX4_setPage 54 = .ok (.iconst 1, 1) := by decide +kernel
theorem dX4_setPage_55 : decode cX4_setPage 55 = .ok (.invokevirtual 92, 3) := by decide +kernel
theorem dX4_setPage_58 : decode cX4_setPage 58 = .ok (.return_, 1) := by decide +kernel
def f_X4_setPage (u0 : S1) (p1 : Int32) (p2 : Int32) (p3 : Int32) (p4 : Int32) : Option (S1) := bn (f_X4_isPageOf p1 p2) (fun z_1 => jn (fun (u58_2_0 : S1) => some (u58_2_0)) (fun k58_2 => if z_1 = 0 then k58_2 u0 else chk (inb ((p1 * 16) + p2) 512) (bn (f_X4_countBlock u0 p1 (u0 9 ((p1 * 16) + p2).toNatClampNeg) (-1)) (fun z_4 => chk (inb ((p1 * 16) + p2) 512) (bv (st z_4 8 ((p1 * 16) + p2) p3) (fun u_5 => chk (inb ((p1 * 16) + p2) 512) (bv (st u_5 9 ((p1 * 16) + p2) p4) (fun u_6 => bn (f_X4_countBlock u_6 p1 p4 1) (fun z_7 => k58_2 z_7)))))))))
def rmX4_setPage : Room := { frames := 2, cells := 0, slots := 0, locals := 43 }
set_option maxHeartbeats 4000000 in
set_option maxRecDepth 100000 in
theorem c_X4_setPage (l : Launch) (D : va_G) (cI cZ cJ cT : ClassId) (a0 : Nat → Nat) (sz : Nat) (u0 : S1) (p1 : Int32) (p2 : Int32) (p3 : Int32) (p4 : Int32) (o : S1) (hf : f_X4_setPage u0 p1 p2 p3 p4 = some o) : Met l yX4_setPage wsX4_setPage rmX4_setPage (va_Pc [.ref (a0 0), .int p1, .int p2, .int p3, .int p4] (PW D cls (tys cI cZ cJ cT) ((wX4 cI cZ a0 u0)) sz)) (QWv D cls ((wX4 cI cZ a0 o)) (va_A ((wX4 cI cZ a0 u0)) sz)) 0 0 (va_A ((wX4 cI cZ a0 u0)) sz) := by
  refine Met.ofW (cc := cX4_setPage) (maxL := 5) (ret := none) (by decide) rfl ?_
  intro p e s m args below meth c s₁ B hml hv
  obtain ⟨hav, hsz, hP, hK, hD0⟩ := hv
  have hx := B.exec
  have hb := B.bytes
  have hr := B.returns
  have hlocks := B.notSynchronized
  have hts := atoms_spec (ws := wsX4_setPage) B.pre
  have hown : s.vm.findClass RX4 = some m.cls := findClass_of_methodNamed B.named
  have i4 : ∀ w ∈ wsX40, w ∈ wsX4_setPage := fun w h => List.mem_cons_of_mem _ (List.mem_append_right _ h)
  have hk36 := hts (.fieldLink RX4 36 "Inodery$Tree" "pageKinds" "[I") (by decide +kernel)
  have hk39 := hts (.fieldLink RX4 39 "Inodery$Tree" "pageBlocks" "[I") (by decide +kernel)
  subst hsz
  have hD := hD0.self (sz := s.heap.size)
  generalize hAe : va_A ((wX4 cI cZ a0 u0)) s.heap.size = A at hD ⊢
  have hA : ∀ q : Nat, s.heap.size ≤ q → A q := fun q h => by rw [← hAe]; exact Or.inr h
  have hS : va_S A s.heap s.heap [] := va_S.rf
  have hDD : ∀ w0 : S1, va_D A ((wX4 cI cZ a0 w0)) := fun _ => D_same (w := (wX4 cI cZ a0 u0)) rfl hD
  refine Wq (fun Q hQ => ?_)
  refine W_entry hav (Nat.le_of_ble_eq_true rfl) (fun ls hl => ?_)
  have hl : lv_has ls 5 [(0, .ref (a0 0)), (1, .int p1), (2, .int p2), (3, .int p3), (4, .int p4)] := hl
  unfold f_X4_setPage at hf
  refine W_heap hP hS (fun H locs hP hS => ?_)
  refine lv_iload_n hx hb dX4_setPage_0 rfl (lv_at hl 1 rfl) ?_
  refine lv_iload_n hx hb dX4_setPage_1 rfl (lv_at hl 2 rfl) ?_
  obtain ⟨z_1, hz_1, hf⟩ := bn_some hf
  refine c0S (As := [.int p1, .int p2]) (rest := []) ⟨hx, hb, hml, hown, hts⟩ (c_X4_isPageOf l D cI cZ cJ cT p1 p2 z_1 hz_1) (va_cwS 2 hts gX4_setPage_X4_isPageOf rfl rfl rfl (by decide +kernel) ⟨Nat.le_of_ble_eq_true rfl, Nat.le_of_ble_eq_true rfl⟩) rfl rfl hl.1 (Nat.le_of_ble_eq_true rfl) dX4_setPage_2 ⟨Nat.le_of_ble_eq_true rfl, Nat.le_of_ble_eq_true rfl⟩ ?_
  obtain ⟨k58_2, hk58_2, hf⟩ := jn_some hf
  have j58_2 : ∀ (u58_2_0 : S1) (H : Heap) (locs : List Loc) (ls : Array Slot), k58_2 u58_2_0 = some o → va_P D cls (wX4 cI cZ a0 u58_2_0) H → va_S A s.heap H locs → lv_has ls 5 [] → W p l e (headSpec wsX4_setPage rmX4_setPage).room s m args below meth c H locs 0 0 Q (F0 m 58 ls []) := by
    intro u58_2_0 H locs ls hf hP hS hl
    have hf := qa1 hk58_2 hf
    have eo := Option.some.inj hf
    have hP : va_P D cls (wX4 cI cZ a0 o) H := by rw [← eo]; exact hP
    rw [hQ]
    exact W.vret hx hb hr (fun t ht hW => ⟨⟨(), rfl, trivial, P_at ht hP⟩, hS.F ht⟩) hS.2.2 dX4_setPage_58 hlocks
  refine lv_if_eq (tgt := 58) hx hb dX4_setPage_5 (by decide) (fun c_3 => ?_) (fun c_3 => ?_)
  · have hf := ite_t hf c_3
    exact j58_2 _ _ _ _ hf hP hS (lv_sub hl [] rfl)
  · have hf := ite_f hf c_3
    refine lv_aload_n hx hb dX4_setPage_8 rfl (lv_at hl 0 rfl) ?_
    refine lv_iload_n hx hb dX4_setPage_9 rfl (lv_at hl 1 rfl) ?_
    refine lv_aload_n hx hb dX4_setPage_10 rfl (lv_at hl 0 rfl) ?_
    refine va_get (D := D) (ci := 4) (v := .ref (a0 10)) (C := RX4) (T := TX4) (N := 12) hx hb hts i4 hown hK hP 0 rfl rfl 9 (by decide) hk39 (fun _ h9 => h9) rfl dX4_setPage_11 ?_
    refine lv_iload_n hx hb dX4_setPage_14 rfl (lv_at hl 1 rfl) ?_
    refine lv_bipush (v := 16) hx hb dX4_setPage_15 (by decide) ?_
    refine lv_imul hx hb dX4_setPage_17 ?_
    refine lv_iload_n hx hb dX4_setPage_18 rfl (lv_at hl 2 rfl) ?_
    refine lv_iadd hx hb dX4_setPage_19 ?_
    obtain ⟨hi, hf⟩ := chk_some hf
    refine va_iald hx hb hK hP 10 0 rfl rfl (inb_in hi) dX4_setPage_20 ?_
    refine lv_iconst (v := (-1)) hx hb dX4_setPage_21 (by decide) ?_
    obtain ⟨z_4, hz_4, hf⟩ := bn_some hf
    refine cWVv (As := [.int p1, .int (u0 9 ((p1 * 16) + p2).toNatClampNeg), .int (-1)]) (rest := []) ⟨hx, hb, hml, hown, hts⟩ (c_X4_countBlock l D cI cZ cJ cT a0 H.size u0 p1 (u0 9 ((p1 * 16) + p2).toNatClampNeg) (-1) z_4 hz_4) (cwV 3 hts gX4_setPage_X4_countBlock rfl rfl rfl (by decide +kernel) ⟨Nat.le_of_ble_eq_true rfl, Nat.le_of_ble_eq_true rfl⟩) hP hK (hDD u0) hS (own_free (hDD u0) hS hA) (va_recv hK hP (ci := 4) (q0 := 0) rfl rfl) rfl rfl hl.1 (Nat.le_of_ble_eq_true rfl) dX4_setPage_22 ⟨Nat.le_of_ble_eq_true rfl, Nat.le_of_ble_eq_true rfl⟩ (fun H1 locs hP1 hk1 hS => ?_)
    have hP : va_P D cls (wX4 cI cZ a0 z_4) H1 := hP1
    clear hP1 hk1
    generalize H1 = H at hP hS ⊢
    refine lv_aload_n hx hb dX4_setPage_25 rfl (lv_at hl 0 rfl) ?_
    refine va_get (D := D) (ci := 4) (v := .ref (a0 9)) (C := RX4) (T := TX4) (N := 12) hx hb hts i4 hown hK hP 0 rfl rfl 8 (by decide) hk36 (fun _ h9 => h9) rfl dX4_setPage_26 ?_
    refine lv_iload_n hx hb dX4_setPage_29 rfl (lv_at hl 1 rfl) ?_
    refine lv_bipush (v := 16) hx hb dX4_setPage_30 (by decide) ?_
    refine lv_imul hx hb dX4_setPage_32 ?_
    refine lv_iload_n hx hb dX4_setPage_33 rfl (lv_at hl 2 rfl) ?_
    refine lv_iadd hx hb dX4_setPage_34 ?_
    refine lv_iload_n hx hb dX4_setPage_35 rfl (lv_at hl 3 rfl) ?_
    obtain ⟨hi, hf⟩ := chk_some hf
    obtain ⟨u_5, hu_5, hf⟩ := bv_some hf
    refine va_iast hx hb hK hP (hDD z_4) hS 9 0 rfl rfl (inb_in hi) dX4_setPage_36 (fun H locs hP _ hS => ?_)
    have hP : va_P D cls (wX4 cI cZ a0 u_5) H := by rw [hu_5]; exact hP
    refine lv_aload_n hx hb dX4_setPage_37 rfl (lv_at hl 0 rfl) ?_
    refine va_get (D := D) (ci := 4) (v := .ref (a0 10)) (C := RX4) (T := TX4) (N := 12) hx hb hts i4 hown hK hP 0 rfl rfl 9 (by decide) hk39 (fun _ h9 => h9) rfl dX4_setPage_38 ?_
    refine lv_iload_n hx hb dX4_setPage_41 rfl (lv_at hl 1 rfl) ?_
    refine lv_bipush (v := 16) hx hb dX4_setPage_42 (by decide) ?_
    refine lv_imul hx hb dX4_setPage_44 ?_
    refine lv_iload_n hx hb dX4_setPage_45 rfl (lv_at hl 2 rfl) ?_
    refine lv_iadd hx hb dX4_setPage_46 ?_
    refine lv_iload hx hb dX4_setPage_47 (lv_at hl 4 rfl) ?_
    obtain ⟨hi, hf⟩ := chk_some hf
    obtain ⟨u_6, hu_6, hf⟩ := bv_some hf
    refine va_iast hx hb hK hP (hDD u_5) hS 10 0 rfl rfl (inb_in hi) dX4_setPage_49 (fun H locs hP _ hS => ?_)
    have hP : va_P D cls (wX4 cI cZ a0 u_6) H := by rw [hu_6]; exact hP
    refine lv_aload_n hx hb dX4_setPage_50 rfl (lv_at hl 0 rfl) ?_
    refine lv_iload_n hx hb dX4_setPage_51 rfl (lv_at hl 1 rfl) ?_
    refine lv_iload hx hb dX4_setPage_52 (lv_at hl 4 rfl) ?_
    refine lv_iconst (v := 1) hx hb dX4_setPage_54 (by decide) ?_
    obtain ⟨z_7, hz_7, hf⟩ := bn_some hf
    refine cWVv (As := [.int p1, .int p4, .int 1]) (rest := []) ⟨hx, hb, hml, hown, hts⟩ (c_X4_countBlock l D cI cZ cJ cT a0 H.size u_6 p1 p4 1 z_7 hz_7) (cwV 3 hts gX4_setPage_X4_countBlock rfl rfl rfl (by decide +kernel) ⟨Nat.le_of_ble_eq_true rfl, Nat.le_of_ble_eq_true rfl⟩) hP hK (hDD u_6) hS (own_free (hDD u_6) hS hA) (va_recv hK hP (ci := 4) (q0 := 0) rfl rfl) rfl rfl hl.1 (Nat.le_of_ble_eq_true rfl) dX4_setPage_55 ⟨Nat.le_of_ble_eq_true rfl, Nat.le_of_ble_eq_true rfl⟩ (fun H1 locs hP1 hk1 hS => ?_)
    have hP : va_P D cls (wX4 cI cZ a0 z_7) H1 := hP1
    clear hP1 hk1
    generalize H1 = H at hP hS ⊢
    exact j58_2 _ _ _ _ hf hP hS (lv_sub hl [] rfl)
set_option maxRecDepth 20000 in
theorem ggX4_clearThing_X4_isInRange : GoodIn wsX4_clearThing wsX4_isInRange := goodIn_r _ [7] (by decide +kernel) (by decide +kernel)
set_option maxRecDepth 20000 in
theorem gX4_clearThing_X4_isInRange : GoodIn wsX4_clearThing (va_wsS RX4 54 yX4_isInRange wsX4_isInRange) := goodIn_app (goodIn_of _ (by decide +kernel)) ggX4_clearThing_X4_isInRange
set_option maxRecDepth 20000 in
theorem ggX4_clearThing_X4_setPage : GoodIn wsX4_clearThing wsX4_setPage := goodIn_r _ [11, 12, 13, 14, 15, 6, 16, 4, 5, 7, 17, 18, 19, 20, 21, 22, 23, 24, 25, 26, 27, 28, 29, 30, 31, 32, 33, 34] (by decide +kernel) (by decide +kernel)
set_option maxRecDepth 20000 in
theorem gX4_clearThing_X4_setPage : GoodIn wsX4_clearThing (wsV RX4 61 RX4 yX4_setPage wsX4_setPage) := goodIn_app (goodIn_of _ (by decide +kernel)) ggX4_clearThing_X4_setPage
theorem dX4_clearThing_0 : decode cX4_clearThing 0 = .ok (.iload_n 1, 1) := by decide +kernel
theorem dX4_clearThing_1 : decode cX4_clearThing 1 = .ok (.invokestatic 54, 3) := by decide +kernel
theorem dX4_clearThing_4 : decode cX4_clearThing 4 = .ok (.ifCond .eq 46, 3) := by decide +kernel
theorem dX4_clearThing_7 : decode cX4_clearThing 7 = .ok (.iconst 0, 1) := by decide +kernel
theorem dX4_clearThing_8 : decode cX4_clearThing 8 = .ok (.istore_n 2, 1) := by decide +kernel
theorem dX4_clearThing_9 : decode cX4_clearThing 9 = .ok (.iload_n 2, 1) := by decide +kernel
theorem dX4_clearThing_10 : decode cX4_clearThing 10 = .ok (.bipush 16, 2) := by decide +kernel
theorem dX4_clearThing_12 : decode cX4_clearThing 12 = .ok (.if_icmp .ge 17, 3) := by decide +kernel
theorem dX4_clearThing_15 : decode cX4_clearThing 15 = .ok (.aload_n 0, 1) := by decide +kernel
theorem dX4_clearThing_16 : decode cX4_clearThing 16 = .ok (.iload_n 1, 1) := by decide +kernel
theorem dX4_clearThing_17 : decode cX4_clearThing 17 = .ok (.iload_n 2, 1) := by decide +kernel
theorem dX4_clearThing_18 : decode cX4_clearThing 18 = .ok (.iconst 0, 1) := by decide +kernel
theorem dX4_clearThing_19 : decode cX4_clearThing 19 = .ok (.iconst (-1), 1) := by decide +kernel
theorem dX4_clearThing_20 : decode cX4_clearThing 20 = .ok (.invokevirtual 61, 3) := by decide +kernel
theorem dX4_clearThing_23 : decode cX4_clearThing 23 = .ok (.iinc 2 1, 3) := by decide +kernel
theorem dX4_clearThing_26 : decode cX4_clearThing 26 = .ok (.goto (-17), 3) := by decide +kernel
theorem dX4_clearThing_29 : decode cX4_clearThing 29 = .ok (.aload_n 0, 1) := by decide +kernel
theorem dX4_clearThing_30 : decode cX4_clearThing 30 = .ok (.getfield 9, 3) := by decide +kernel
theorem dX4_clearThing_33 : decode cX4_clearThing 33 = .ok (.iload_n 1, 1) := by decide +kernel
theorem dX4_clearThing_34 : decode cX4_clearThing 34 = .ok (.iconst (-1), 1) := by decide +kernel
theorem dX4_clearThing_35 : decode cX4_clearThing 35 = .ok (.iastore, 1) := by decide +kernel
theorem dX4_clearThing_36 : decode cX4_clearThing 36 = .ok (.aload_n 0, 1) := by decide +kernel
theorem dX4_clearThing_37 : decode cX4_clearThing 37 = .ok (.getfield 21, 3) := by decide +kernel
theorem dX4_clearThing_40 : decode cX4_clearThing 40 = .ok (.iload_n 1, 1) := by decide +kernel
theorem dX4_clearThing_41 : decode cX4_clearThing 41 = .ok (.iconst 0, 1) := by decide +kernel
theorem dX4_clearThing_42 : decode cX4_clearThing 42 = .ok (.iastore, 1) := by decide +kernel
theorem dX4_clearThing_43 : decode cX4_clearThing 43 = .ok (.aload_n 0, 1) := by decide +kernel
theorem dX4_clearThing_44 : decode cX4_clearThing 44 = .ok (.getfield 27, 3) := by decide +kernel
theorem dX4_clearThing_47 : decode cX4_clearThing 47 = .ok (.iload_n 1, 1) := by decide +kernel
theorem dX4_clearThing_48 : decode cX4_clearThing 48 = .ok (.iconst 0, 1) := by decide +kernel
theorem dX4_clearThing_49 : decode cX4_clearThing 49 = .ok (.iastore, 1) := by decide +kernel
theorem dX4_clearThing_50 : decode cX4_clearThing 50 = .ok (.return_, 1) := by decide +kernel
def f_X4_clearThing (u0 : S1) (p1 : Int32) : Option (S1) := bn (f_X4_isInRange p1) (fun z_1 => jn (fun (u50_2_0 : S1) => some (u50_2_0)) (fun k50_2 => if z_1 = 0 then k50_2 u0 else qj2 (fun (r9_4 : Int32 → S1 → Option (S1)) (y9_4_2 : Int32) (u9_4_0 : S1) => if 16 ≤ y9_4_2 then chk (inb p1 32) (bv (st u9_4_0 0 p1 (-1)) (fun u_6 => chk (inb p1 32) (bv (st u_6 3 p1 0) (fun u_7 => chk (inb p1 32) (bv (st u_7 5 p1 0) (fun u_8 => k50_2 u_8)))))) else bn (f_X4_setPage u9_4_0 p1 y9_4_2 0 (-1)) (fun z_9 => r9_4 (y9_4_2 + 1) z_9)) (fun k9_4 => k9_4 0 u0)))
def rmX4_clearThing : Room := { frames := 3, cells := 0, slots := 0, locals := 67 }
set_option maxHeartbeats 4000000 in
set_option maxRecDepth 100000 in
theorem c_X4_clearThing (l : Launch) (D : va_G) (cI cZ cJ cT : ClassId) (a0 : Nat → Nat) (sz : Nat) (u0 : S1) (p1 : Int32) (o : S1) (hf : f_X4_clearThing u0 p1 = some o) : Met l yX4_clearThing wsX4_clearThing rmX4_clearThing (va_Pc [.ref (a0 0), .int p1] (PW D cls (tys cI cZ cJ cT) ((wX4 cI cZ a0 u0)) sz)) (QWv D cls ((wX4 cI cZ a0 o)) (va_A ((wX4 cI cZ a0 u0)) sz)) 0 0 (va_A ((wX4 cI cZ a0 u0)) sz) := by
  refine Met.ofW (cc := cX4_clearThing) (maxL := 3) (ret := none) (by decide) rfl ?_
  intro p e s m args below meth c s₁ B hml hv
  obtain ⟨hav, hsz, hP, hK, hD0⟩ := hv
  have hx := B.exec
  have hb := B.bytes
  have hr := B.returns
  have hlocks := B.notSynchronized
  have hts := atoms_spec (ws := wsX4_clearThing) B.pre
  have hown : s.vm.findClass RX4 = some m.cls := findClass_of_methodNamed B.named
  have i4 : ∀ w ∈ wsX40, w ∈ wsX4_clearThing := fun w h => List.mem_cons_of_mem _ (List.mem_append_right _ h)
  have hk9 := hts (.fieldLink RX4 9 "Inodery$Tree" "kinds" "[I") (by decide +kernel)
  have hk21 := hts (.fieldLink RX4 21 "Inodery$Tree" "counts" "[I") (by decide +kernel)
  have hk27 := hts (.fieldLink RX4 27 "Inodery$Tree" "sizes" "[I") (by decide +kernel)
  subst hsz
  have hD := hD0.self (sz := s.heap.size)
  generalize hAe : va_A ((wX4 cI cZ a0 u0)) s.heap.size = A at hD ⊢
  have hA : ∀ q : Nat, s.heap.size ≤ q → A q := fun q h => by rw [← hAe]; exact Or.inr h
  have hS : va_S A s.heap s.heap [] := va_S.rf
  have hDD : ∀ w0 : S1, va_D A ((wX4 cI cZ a0 w0)) := fun _ => D_same (w := (wX4 cI cZ a0 u0)) rfl hD
  refine Wq (fun Q hQ => ?_)
  refine W_entry hav (Nat.le_of_ble_eq_true rfl) (fun ls hl => ?_)
  have hl : lv_has ls 3 [(0, .ref (a0 0)), (1, .int p1)] := hl
  unfold f_X4_clearThing at hf
  refine W_heap hP hS (fun H locs hP hS => ?_)
  refine lv_iload_n hx hb dX4_clearThing_0 rfl (lv_at hl 1 rfl) ?_
  obtain ⟨z_1, hz_1, hf⟩ := bn_some hf
  refine c0S (As := [.int p1]) (rest := []) ⟨hx, hb, hml, hown, hts⟩ (c_X4_isInRange l D cI cZ cJ cT p1 z_1 hz_1) (va_cwS 1 hts gX4_clearThing_X4_isInRange rfl rfl rfl (by decide +kernel) ⟨Nat.le_of_ble_eq_true rfl, Nat.le_of_ble_eq_true rfl⟩) rfl rfl hl.1 (Nat.le_of_ble_eq_true rfl) dX4_clearThing_1 ⟨Nat.le_of_ble_eq_true rfl, Nat.le_of_ble_eq_true rfl⟩ ?_
  obtain ⟨k50_2, hk50_2, hf⟩ := jn_some hf
  have j50_2 : ∀ (u50_2_0 : S1) (H : Heap) (locs : List Loc) (ls : Array Slot), k50_2 u50_2_0 = some o → va_P D cls (wX4 cI cZ a0 u50_2_0) H → va_S A s.heap H locs → lv_has ls 3 [] → W p l e (headSpec wsX4_clearThing rmX4_clearThing).room s m args below meth c H locs 0 0 Q (F0 m 50 ls []) := by
    intro u50_2_0 H locs ls hf hP hS hl
    have hf := qa1 hk50_2 hf
    have eo := Option.some.inj hf
    have hP : va_P D cls (wX4 cI cZ a0 o) H := by rw [← eo]; exact hP
    rw [hQ]
    exact W.vret hx hb hr (fun t ht hW => ⟨⟨(), rfl, trivial, P_at ht hP⟩, hS.F ht⟩) hS.2.2 dX4_clearThing_50 hlocks
  refine lv_if_eq (tgt := 50) hx hb dX4_clearThing_4 (by decide) (fun c_3 => ?_) (fun c_3 => ?_)
  · have hf := ite_t hf c_3
    exact j50_2 _ _ _ _ hf hP hS (lv_sub hl [] rfl)
  · have hf := ite_f hf c_3
    refine lv_iconst (v := 0) hx hb dX4_clearThing_7 (by decide) ?_
    refine lv_istore_n (lv' := [(2, .int 0), (0, .ref (a0 0)), (1, .int p1)]) hx hb dX4_clearThing_8 rfl hl (by decide) rfl (fun ls hl => ?_)
    obtain ⟨G9_4, hG9_4, hf⟩ := qj2_some hf
    have j9_4 : ∀ (n : Nat) (y9_4_2 : Int32) (u9_4_0 : S1) (H : Heap) (locs : List Loc) (ls : Array Slot), ql2 G9_4 n y9_4_2 u9_4_0 = some o → va_P D cls (wX4 cI cZ a0 u9_4_0) H → va_S A s.heap H locs → lv_has ls 3 [(0, .ref (a0 0)), (1, .int p1), (2, .int y9_4_2)] → W p l e (headSpec wsX4_clearThing rmX4_clearThing).room s m args below meth c H locs 0 0 Q (F0 m 9 ls []) := by
      intro n
      induction n with
      | zero => intro y9_4_2 u9_4_0 H locs ls hf hP hS hl; exact (ql2_z hf).elim
      | succ n ih9_4 =>
        intro y9_4_2 u9_4_0 H locs ls hf hP hS hl
        have hf := ql2_s hG9_4 hf
        obtain ⟨r9_4, hr9_4⟩ : ∃ z, z = ql2 G9_4 n := ⟨_, rfl⟩
        rw [← hr9_4] at hf ih9_4
        refine lv_iload_n hx hb dX4_clearThing_9 rfl (lv_at hl 2 rfl) ?_
        refine lv_bipush (v := 16) hx hb dX4_clearThing_10 (by decide) ?_
        refine lv_icmp_ge (tgt := 29) hx hb dX4_clearThing_12 (by decide) (fun c_5 => ?_) (fun c_5 => ?_)
        · have hf := ite_t hf c_5
          refine lv_aload_n hx hb dX4_clearThing_29 rfl (lv_at hl 0 rfl) ?_
          refine va_get (D := D) (ci := 4) (v := .ref (a0 1)) (C := RX4) (T := TX4) (N := 12) hx hb hts i4 hown hK hP 0 rfl rfl 0 (by decide) hk9 (fun _ h9 => h9) rfl dX4_clearThing_30 ?_
          refine lv_iload_n hx hb dX4_clearThing_33 rfl (lv_at hl 1 rfl) ?_
          refine lv_iconst (v := (-1)) hx hb dX4_clearThing_34 (by decide) ?_
          obtain ⟨hi, hf⟩ := chk_some hf
          obtain ⟨u_6, hu_6, hf⟩ := bv_some hf
          refine va_iast hx hb hK hP (hDD u9_4_0) hS 1 0 rfl rfl (inb_in hi) dX4_clearThing_35 (fun H locs hP _ hS => ?_)
          have hP : va_P D cls (wX4 cI cZ a0 u_6) H := by rw [hu_6]; exact hP
          refine lv_aload_n hx hb dX4_clearThing_36 rfl (lv_at hl 0 rfl) ?_
          refine va_get (D := D) (ci := 4) (v := .ref (a0 4)) (C := RX4) (T := TX4) (N := 12) hx hb hts i4 hown hK hP 0 rfl rfl 3 (by decide) hk21 (fun _ h9 => h9) rfl dX4_clearThing_37 ?_
          refine lv_iload_n hx hb dX4_clearThing_40 rfl (lv_at hl 1 rfl) ?_
          refine lv_iconst (v := 0) hx hb dX4_clearThing_41 (by decide) ?_
          obtain ⟨hi, hf⟩ := chk_some hf
          obtain ⟨u_7, hu_7, hf⟩ := bv_some hf
          refine va_iast hx hb hK hP (hDD u_6) hS 4 0 rfl rfl (inb_in hi) dX4_clearThing_42 (fun H locs hP _ hS => ?_)
          have hP : va_P D cls (wX4 cI cZ a0 u_7) H := by rw [hu_7]; exact hP
          refine lv_aload_n hx hb dX4_clearThing_43 rfl (lv_at hl 0 rfl) ?_
          refine va_get (D := D) (ci := 4) (v := .ref (a0 6)) (C := RX4) (T := TX4) (N := 12) hx hb hts i4 hown hK hP 0 rfl rfl 5 (by decide) hk27 (fun _ h9 => h9) rfl dX4_clearThing_44 ?_
          refine lv_iload_n hx hb dX4_clearThing_47 rfl (lv_at hl 1 rfl) ?_
          refine lv_iconst (v := 0) hx hb dX4_clearThing_48 (by decide) ?_
          obtain ⟨hi, hf⟩ := chk_some hf
          obtain ⟨u_8, hu_8, hf⟩ := bv_some hf
          refine va_iast hx hb hK hP (hDD u_7) hS 6 0 rfl rfl (inb_in hi) dX4_clearThing_49 (fun H locs hP _ hS => ?_)
          have hP : va_P D cls (wX4 cI cZ a0 u_8) H := by rw [hu_8]; exact hP
          exact j50_2 _ _ _ _ hf hP hS (lv_sub hl [] rfl)
        · have hf := ite_f hf c_5
          refine lv_aload_n hx hb dX4_clearThing_15 rfl (lv_at hl 0 rfl) ?_
          refine lv_iload_n hx hb dX4_clearThing_16 rfl (lv_at hl 1 rfl) ?_
          refine lv_iload_n hx hb dX4_clearThing_17 rfl (lv_at hl 2 rfl) ?_
          refine lv_iconst (v := 0) hx hb dX4_clearThing_18 (by decide) ?_
          refine lv_iconst (v := (-1)) hx hb dX4_clearThing_19 (by decide) ?_
          obtain ⟨z_9, hz_9, hf⟩ := bn_some hf
          refine cWVv (As := [.int p1, .int y9_4_2, .int 0, .int (-1)]) (rest := []) ⟨hx, hb, hml, hown, hts⟩ (c_X4_setPage l D cI cZ cJ cT a0 H.size u9_4_0 p1 y9_4_2 0 (-1) z_9 hz_9) (cwV 4 hts gX4_clearThing_X4_setPage rfl rfl rfl (by decide +kernel) ⟨Nat.le_of_ble_eq_true rfl, Nat.le_of_ble_eq_true rfl⟩) hP hK (hDD u9_4_0) hS (own_free (hDD u9_4_0) hS hA) (va_recv hK hP (ci := 4) (q0 := 0) rfl rfl) rfl rfl hl.1 (Nat.le_of_ble_eq_true rfl) dX4_clearThing_20 ⟨Nat.le_of_ble_eq_true rfl, Nat.le_of_ble_eq_true rfl⟩ (fun H1 locs hP1 hk1 hS => ?_)
          have hP : va_P D cls (wX4 cI cZ a0 z_9) H1 := hP1
          clear hP1 hk1
          generalize H1 = H at hP hS ⊢
          refine lv_iinc (v := y9_4_2 + 1) (lv' := [(2, .int (y9_4_2 + 1)), (0, .ref (a0 0)), (1, .int p1)]) hx hb dX4_clearThing_23 hl (k := 2) rfl rfl (by decide) rfl (fun ls hl => ?_)
          refine lv_goto (tgt := 9) hx hb dX4_clearThing_26 (by decide) ?_
          exact ih9_4 _ _ _ _ _ hf hP hS (lv_sub hl [1, 2, 0] rfl)
    exact j9_4 4096 _ _ _ _ _ hf hP hS (lv_sub hl [1, 2, 0] rfl)
set_option maxRecDepth 20000 in
theorem ggX4_sizeOf_X4_isInRange : GoodIn wsX4_sizeOf wsX4_isInRange := goodIn_r _ [5] (by decide +kernel) (by decide +kernel)
set_option maxRecDepth 20000 in
theorem gX4_sizeOf_X4_isInRange : GoodIn wsX4_sizeOf (va_wsS RX4 54 yX4_isInRange wsX4_isInRange) := goodIn_app (goodIn_of _ (by decide +kernel)) ggX4_sizeOf_X4_isInRange
theorem dX4_sizeOf_0 : decode cX4_sizeOf 0 = .ok (.iload_n 1, 1) := by decide +kernel
theorem dX4_sizeOf_1 : decode cX4_sizeOf 1 = .ok (.invokestatic 54, 3) := by decide +kernel
theorem dX4_sizeOf_4 : decode cX4_sizeOf 4 = .ok (.ifCond .eq 12, 3) := by decide +kernel
theorem dX4_sizeOf_7 : decode cX4_sizeOf 7 = .ok (.aload_n 0, 1) := by decide +kernel
theorem dX4_sizeOf_8 : decode cX4_sizeOf 8 = .ok (.getfield 27, 3) := by decide +kernel
theorem dX4_sizeOf_11 : decode cX4_sizeOf 11 = .ok (.iload_n 1, 1) := by decide +kernel
theorem dX4_sizeOf_12 : decode cX4_sizeOf 12 = .ok (.iaload, 1) := by decide +kernel
theorem dX4_sizeOf_13 : decode cX4_sizeOf 13 = .ok (.goto 4, 3) := by decide +kernel
theorem dX4_sizeOf_16 : decode cX4_sizeOf 16 = .ok (.iconst 0, 1) := by decide +kernel
theorem dX4_sizeOf_17 : decode cX4_sizeOf 17 = .ok (.ireturn, 1) := by decide +kernel
def f_X4_sizeOf (u0 : S1) (p1 : Int32) : Option (Int32) := bn (f_X4_isInRange p1) (fun z_1 => jn (fun (v17_2_0 : Int32) => some v17_2_0) (fun k17_2 => if z_1 = 0 then k17_2 0 else chk (inb p1 32) (k17_2 (u0 5 (p1).toNatClampNeg))))
def rmX4_sizeOf : Room := { frames := 1, cells := 0, slots := 0, locals := 20 }
set_option maxHeartbeats 4000000 in
set_option maxRecDepth 100000 in
theorem c_X4_sizeOf (l : Launch) (D : va_G) (cI cZ cJ cT : ClassId) (a0 : Nat → Nat) (u0 : S1) (p1 : Int32) (o : Int32) (hf : f_X4_sizeOf u0 p1 = some o) : Met l yX4_sizeOf wsX4_sizeOf rmX4_sizeOf (va_Pc [.ref (a0 0), .int p1] (PR D cls (tys cI cZ cJ cT) ((wX4 cI cZ a0 u0)))) (QR o) 0 0 (fun _ => False) := by
  refine Met.ofW (cc := cX4_sizeOf) (maxL := 2) (ret := (some .int)) (by decide) rfl ?_
  intro p e s m args below meth c s₁ B hml hv
  obtain ⟨hav, hP, hK⟩ := hv
  have hx := B.exec
  have hb := B.bytes
  have hr := B.returns
  have hlocks := B.notSynchronized
  have hts := atoms_spec (ws := wsX4_sizeOf) B.pre
  have hown : s.vm.findClass RX4 = some m.cls := findClass_of_methodNamed B.named
  have i4 : ∀ w ∈ wsX40, w ∈ wsX4_sizeOf := fun w h => List.mem_cons_of_mem _ (List.mem_append_right _ h)
  have hk27 := hts (.fieldLink RX4 27 "Inodery$Tree" "sizes" "[I") (by decide +kernel)
  refine Wq (fun Q hQ => ?_)
  refine W_entry hav (Nat.le_of_ble_eq_true rfl) (fun ls hl => ?_)
  have hl : lv_has ls 2 [(0, .ref (a0 0)), (1, .int p1)] := hl
  unfold f_X4_sizeOf at hf
  refine lv_iload_n hx hb dX4_sizeOf_0 rfl (lv_at hl 1 rfl) ?_
  obtain ⟨z_1, hz_1, hf⟩ := bn_some hf
  refine c0S (As := [.int p1]) (rest := []) ⟨hx, hb, hml, hown, hts⟩ (c_X4_isInRange l D cI cZ cJ cT p1 z_1 hz_1) (va_cwS 1 hts gX4_sizeOf_X4_isInRange rfl rfl rfl (by decide +kernel) ⟨Nat.le_of_ble_eq_true rfl, Nat.le_of_ble_eq_true rfl⟩) rfl rfl hl.1 (Nat.le_of_ble_eq_true rfl) dX4_sizeOf_1 ⟨Nat.le_of_ble_eq_true rfl, Nat.le_of_ble_eq_true rfl⟩ ?_
  obtain ⟨k17_2, hk17_2, hf⟩ := jn_some hf
  have j17_2 : ∀ (v17_2_0 : Int32) (ls : Array Slot), k17_2 v17_2_0 = some o → lv_has ls 2 [] → W p l e (headSpec wsX4_sizeOf rmX4_sizeOf).room s m args below meth c s.heap [] 0 0 Q (F0 m 17 ls [.int v17_2_0]) := by
    intro v17_2_0 ls hf hl
    have hf := qa1 hk17_2 hf
    rw [hQ]
    exact W.iret hx hb hr (fun t ht hW => ⟨_, rfl, Option.some.inj hf, ht⟩) (fun _ h => nomatch h) dX4_sizeOf_17 hlocks
  refine lv_if_eq (tgt := 16) hx hb dX4_sizeOf_4 (by decide) (fun c_3 => ?_) (fun c_3 => ?_)
  · have hf := ite_t hf c_3
    refine lv_iconst (v := 0) hx hb dX4_sizeOf_16 (by decide) ?_
    exact j17_2 _ _ hf (lv_sub hl [] rfl)
  · have hf := ite_f hf c_3
    refine lv_aload_n hx hb dX4_sizeOf_7 rfl (lv_at hl 0 rfl) ?_
    refine va_get (D := D) (ci := 4) (v := .ref (a0 6)) (C := RX4) (T := TX4) (N := 12) hx hb hts i4 hown hK hP 0 rfl rfl 5 (by decide) hk27 (fun _ h9 => h9) rfl dX4_sizeOf_8 ?_
    refine lv_iload_n hx hb dX4_sizeOf_11 rfl (lv_at hl 1 rfl) ?_
    obtain ⟨hi, hf⟩ := chk_some hf
    refine va_iald hx hb hK hP 6 0 rfl rfl (inb_in hi) dX4_sizeOf_12 ?_
    refine lv_goto (tgt := 17) hx hb dX4_sizeOf_13 (by decide) ?_
    exact j17_2 _ _ hf (lv_sub hl [] rfl)
theorem dX4_isEntry_0 : decode cX4_isEntry 0 = .ok (.iload_n 1, 1) := by decide +kernel
theorem dX4_isEntry_1 : decode cX4_isEntry 1 = .ok (.ifCond .lt 33, 3) := by decide +kernel
theorem dX4_isEntry_4 : decode cX4_isEntry 4 = .ok (.iload_n 1, 1) := by decide +kernel
theorem dX4_isEntry_5 : decode cX4_isEntry 5 = .ok (.bipush 32, 2) := by decide +kernel
theorem dX4_isEntry_7 : decode cX4_isEntry 7 = .ok (.if_icmp .ge 27, 3) := by decide +kernel
theorem dX4_isEntry_10 : decode cX4_isEntry 10 = .ok (.iload_n 2, 1) := by decide +kernel
theorem dX4_isEntry_11 : decode cX4_isEntry 11 = .ok (.ifCond .lt 23, 3) := by decide +kernel
theorem dX4_isEntry_14 : decode cX4_isEntry 14 = .ok (.iload_n 2, 1) := by decide +kernel
theorem dX4_isEntry_15 : decode cX4_isEntry 15 = .ok (.bipush 8, 2) := by decide +kernel
theorem dX4_isEntry_17 : decode cX4_isEntry 17 = .ok (.if_icmp .ge 17, 3) := by decide +kernel
theorem dX4_isEntry_20 : decode cX4_isEntry 20 = .ok (.iload_n 2, 1) := by decide +kernel
theorem dX4_isEntry_21 : decode cX4_isEntry 21 = .ok (.aload_n 0, 1) := by decide +kernel
theorem dX4_isEntry_22 : decode cX4_isEntry 22 = .ok (.getfield 27, 3) := by decide +kernel
theorem dX4_isEntry_25 : decode cX4_isEntry 25 = .ok (.iload_n 1, 1) := by decide +kernel
theorem dX4_isEntry_26 : decode cX4_isEntry 26 = .ok (.iaload, 1) := by decide +kernel
theorem dX4_isEntry_27 : decode cX4_isEntry 27 = .ok (.if_icmp .ge 7, 3) := by decide +kernel
theorem dX4_isEntry_30 : decode cX4_isEntry 30 = .ok (.iconst 1, 1) := by decide +kernel
theorem dX4_isEntry_31 : decode cX4_isEntry 31 = .ok (.goto 4, 3) := by decide +kernel
theorem dX4_isEntry_34 : decode cX4_isEntry 34 = .ok (.iconst 0, 1) := by decide +kernel
theorem dX4_isEntry_35 : decode cX4_isEntry 35 = .ok (.ireturn, 1) := by decide +kernel
def f_X4_isEntry (u0 : S1) (p1 : Int32) (p2 : Int32) : Option (Int32) := jn (fun (v35_1_0 : Int32) => some (vp_nar .boolean v35_1_0)) (fun k35_1 => jn (k35_1 0) (fun k34_2 => if p1 < 0 then k34_2 else if 32 ≤ p1 then k34_2 else if p2 < 0 then k34_2 else if 8 ≤ p2 then k34_2 else chk (inb p1 32) (if (u0 5 (p1).toNatClampNeg) ≤ p2 then k34_2 else k35_1 1)))
def rmX4_isEntry : Room := { frames := 0, cells := 0, slots := 0, locals := 0 }
set_option maxHeartbeats 4000000 in
set_option maxRecDepth 100000 in
theorem c_X4_isEntry (l : Launch) (D : va_G) (cI cZ cJ cT : ClassId) (a0 : Nat → Nat) (u0 : S1) (p1 : Int32) (p2 : Int32) (o : Int32) (hf : f_X4_isEntry u0 p1 p2 = some o) : Met l yX4_isEntry wsX4_isEntry rmX4_isEntry (va_Pc [.ref (a0 0), .int p1, .int p2] (PR D cls (tys cI cZ cJ cT) ((wX4 cI cZ a0 u0)))) (QR o) 0 0 (fun _ => False) := by
  refine Met.ofW (cc := cX4_isEntry) (maxL := 3) (ret := (some .boolean)) (by decide) rfl ?_
  intro p e s m args below meth c s₁ B hml hv
  obtain ⟨hav, hP, hK⟩ := hv
  have hx := B.exec
  have hb := B.bytes
  have hr := B.returns
  have hlocks := B.notSynchronized
  have hts := atoms_spec (ws := wsX4_isEntry) B.pre
  have hown : s.vm.findClass RX4 = some m.cls := findClass_of_methodNamed B.named
  have i4 : ∀ w ∈ wsX40, w ∈ wsX4_isEntry := fun w h => List.mem_cons_of_mem _ (List.mem_append_right _ h)
  have hk27 := hts (.fieldLink RX4 27 "Inodery$Tree" "sizes" "[I") (by decide +kernel)
  refine Wq (fun Q hQ => ?_)
  refine W_entry hav (Nat.le_of_ble_eq_true rfl) (fun ls hl => ?_)
  have hl : lv_has ls 3 [(0, .ref (a0 0)), (1, .int p1), (2, .int p2)] := hl
  unfold f_X4_isEntry at hf
  refine lv_iload_n hx hb dX4_isEntry_0 rfl (lv_at hl 1 rfl) ?_
  obtain ⟨k35_1, hk35_1, hf⟩ := jn_some hf
  have j35_1 : ∀ (v35_1_0 : Int32) (ls : Array Slot), k35_1 v35_1_0 = some o → lv_has ls 3 [] → W p l e (headSpec wsX4_isEntry rmX4_isEntry).room s m args below meth c s.heap [] 0 0 Q (F0 m 35 ls [.int v35_1_0]) := by
    intro v35_1_0 ls hf hl
    have hf := qa1 hk35_1 hf
    rw [hQ]
    exact zretN (v := v35_1_0) (v' := vp_nar .boolean v35_1_0) hx hb hr rfl (fun t ht hW => ⟨_, rfl, Option.some.inj hf, ht⟩) (fun _ h => nomatch h) dX4_isEntry_35 hlocks
  obtain ⟨k34_2, hk34_2, hf⟩ := jn_some hf
  have j34_2 : ∀ (ls : Array Slot), k34_2 = some o → lv_has ls 3 [] → W p l e (headSpec wsX4_isEntry rmX4_isEntry).room s m args below meth c s.heap [] 0 0 Q (F0 m 34 ls []) := by
    intro ls hf hl
    have hf := qa0 hk34_2 hf
    refine lv_iconst (v := 0) hx hb dX4_isEntry_34 (by decide) ?_
    exact j35_1 _ _ hf (lv_sub hl [] rfl)
  refine lv_if_lt (tgt := 34) hx hb dX4_isEntry_1 (by decide) (fun c_3 => ?_) (fun c_3 => ?_)
  · have hf := ite_t hf c_3
    exact j34_2 _ hf (lv_sub hl [] rfl)
  · have hf := ite_f hf c_3
    refine lv_iload_n hx hb dX4_isEntry_4 rfl (lv_at hl 1 rfl) ?_
    refine lv_bipush (v := 32) hx hb dX4_isEntry_5 (by decide) ?_
    refine lv_icmp_ge (tgt := 34) hx hb dX4_isEntry_7 (by decide) (fun c_4 => ?_) (fun c_4 => ?_)
    · have hf := ite_t hf c_4
      exact j34_2 _ hf (lv_sub hl [] rfl)
    · have hf := ite_f hf c_4
      refine lv_iload_n hx hb dX4_isEntry_10 rfl (lv_at hl 2 rfl) ?_
      refine lv_if_lt (tgt := 34) hx hb dX4_isEntry_11 (by decide) (fun c_5 => ?_) (fun c_5 => ?_)
      · have hf := ite_t hf c_5
        exact j34_2 _ hf (lv_sub hl [] rfl)
      · have hf := ite_f hf c_5
        refine lv_iload_n hx hb dX4_isEntry_14 rfl (lv_at hl 2 rfl) ?_
        refine lv_bipush (v := 8) hx hb dX4_isEntry_15 (by decide) ?_
        refine lv_icmp_ge (tgt := 34) hx hb dX4_isEntry_17 (by decide) (fun c_6 => ?_) (fun c_6 => ?_)
        · have hf := ite_t hf c_6
          exact j34_2 _ hf (lv_sub hl [] rfl)
        · have hf := ite_f hf c_6
          refine lv_iload_n hx hb dX4_isEntry_20 rfl (lv_at hl 2 rfl) ?_
          refine lv_aload_n hx hb dX4_isEntry_21 rfl (lv_at hl 0 rfl) ?_
          refine va_get (D := D) (ci := 4) (v := .ref (a0 6)) (C := RX4) (T := TX4) (N := 12) hx hb hts i4 hown hK hP 0 rfl rfl 5 (by decide) hk27 (fun _ h9 => h9) rfl dX4_isEntry_22 ?_
          refine lv_iload_n hx hb dX4_isEntry_25 rfl (lv_at hl 1 rfl) ?_
          obtain ⟨hi, hf⟩ := chk_some hf
          refine va_iald hx hb hK hP 6 0 rfl rfl (inb_in hi) dX4_isEntry_26 ?_
          refine lv_icmp_ge (tgt := 34) hx hb dX4_isEntry_27 (by decide) (fun c_7 => ?_) (fun c_7 => ?_)
          · have hf := ite_t hf c_7
            exact j34_2 _ hf (lv_sub hl [] rfl)
          · have hf := ite_f hf c_7
            refine lv_iconst (v := 1) hx hb dX4_isEntry_30 (by decide) ?_
            refine lv_goto (tgt := 35) hx hb dX4_isEntry_31 (by decide) ?_
            exact j35_1 _ _ hf (lv_sub hl [] rfl)
set_option maxRecDepth 20000 in
theorem ggX4_entryName_X4_isEntry : GoodIn wsX4_entryName wsX4_isEntry := goodIn_r _ [6, 7, 8, 9, 10, 11, 12, 13, 14, 15, 16, 17, 18, 19] (by decide +kernel) (by decide +kernel)
set_option maxRecDepth 20000 in
theorem gX4_entryName_X4_isEntry : GoodIn wsX4_entryName (wsV RX4 65 RX4 yX4_isEntry wsX4_isEntry) := goodIn_app (goodIn_of _ (by decide +kernel)) ggX4_entryName_X4_isEntry
theorem dX4_entryName_0 : decode cX4_entryName 0 = .ok (.aload_n 0, 1) := by decide +kernel
theorem dX4_entryName_1 : decode cX4_entryName 1 = .ok (.iload_n 1, 1) := by decide +kernel
theorem dX4_entryName_2 : decode cX4_entryName 2 = .ok (.iload_n 2, 1) := by decide +kernel
theorem dX4_entryName_3 : decode cX4_entryName 3 = .ok (.invokevirtual 65, 3) := by decide +kernel
theorem dX4_entryName_6 : decode cX4_entryName 6 = .ok (.ifCond .eq 17, 3) := by decide +kernel
theorem dX4_entryName_9 : decode cX4_entryName 9 = .ok (.aload_n 0, 1) := by decide +kernel
theorem dX4_entryName_10 : decode cX4_entryName 10 = .ok (.getfield 30, 3) := by decide +kernel
theorem dX4_entryName_13 : decode cX4_entryName 13 = .ok (.iload_n 1, 1) := by decide +kernel
theorem dX4_entryName_14 : decode cX4_entryName 14 = .ok (.bipush 8, 2) := by decide +kernel
theorem dX4_entryName_16 : decode cX4_entryName 16 = .ok (.imul, 1) := by decide +kernel
theorem dX4_entryName_17 : decode cX4_entryName 17 = .ok (.iload_n 2, 1) := by decide +kernel
theorem dX4_entryName_18 : decode cX4_entryName 18 = .ok (.iadd, 1) := by decide +kernel
theorem dX4_entryName_19 : decode cX4_entryName 19 = .ok (.iaload, 1) := by decide +kernel
theorem dX4_entryName_20 : decode cX4_entryName 20 = .ok (.goto 4, 3) := by decide +kernel
theorem dX4_entryName_23 : decode cX4_entryName 23 = .ok (.iconst 0, 1) := by decide +kernel
theorem dX4_entryName_24 : decode cX4_entryName 24 = .ok (.ireturn, 1) := by decide +kernel
def f_X4_entryName (u0 : S1) (p1 : Int32) (p2 : Int32) : Option (Int32) := bn (f_X4_isEntry u0 p1 p2) (fun z_1 => jn (fun (v24_2_0 : Int32) => some v24_2_0) (fun k24_2 => if z_1 = 0 then k24_2 0 else chk (inb ((p1 * 8) + p2) 256) (k24_2 (u0 6 ((p1 * 8) + p2).toNatClampNeg))))
def rmX4_entryName : Room := { frames := 1, cells := 0, slots := 0, locals := 22 }
set_option maxHeartbeats 4000000 in
set_option maxRecDepth 100000 in
theorem c_X4_entryName (l : Launch) (D : va_G) (cI cZ cJ cT : ClassId) (a0 : Nat → Nat) (u0 : S1) (p1 : Int32) (p2 : Int32) (o : Int32) (hf : f_X4_entryName u0 p1 p2 = some o) : Met l yX4_entryName wsX4_entryName rmX4_entryName (va_Pc [.ref (a0 0), .int p1, .int p2] (PR D cls (tys cI cZ cJ cT) ((wX4 cI cZ a0 u0)))) (QR o) 0 0 (fun _ => False) := by
  refine Met.ofW (cc := cX4_entryName) (maxL := 3) (ret := (some .int)) (by decide) rfl ?_
  intro p e s m args below meth c s₁ B hml hv
  obtain ⟨hav, hP, hK⟩ := hv
  have hx := B.exec
  have hb := B.bytes
  have hr := B.returns
  have hlocks := B.notSynchronized
  have hts := atoms_spec (ws := wsX4_entryName) B.pre
  have hown : s.vm.findClass RX4 = some m.cls := findClass_of_methodNamed B.named
  have i4 : ∀ w ∈ wsX40, w ∈ wsX4_entryName := fun w h => List.mem_cons_of_mem _ (List.mem_append_right _ h)
  have hk30 := hts (.fieldLink RX4 30 "Inodery$Tree" "entryNames" "[I") (by decide +kernel)
  refine Wq (fun Q hQ => ?_)
  refine W_entry hav (Nat.le_of_ble_eq_true rfl) (fun ls hl => ?_)
  have hl : lv_has ls 3 [(0, .ref (a0 0)), (1, .int p1), (2, .int p2)] := hl
  unfold f_X4_entryName at hf
  refine lv_aload_n hx hb dX4_entryName_0 rfl (lv_at hl 0 rfl) ?_
  refine lv_iload_n hx hb dX4_entryName_1 rfl (lv_at hl 1 rfl) ?_
  refine lv_iload_n hx hb dX4_entryName_2 rfl (lv_at hl 2 rfl) ?_
  obtain ⟨z_1, hz_1, hf⟩ := bn_some hf
  refine cRV (As := [.int p1, .int p2]) (rest := []) ⟨hx, hb, hml, hown, hts⟩ (c_X4_isEntry l D cI cZ cJ cT a0 u0 p1 p2 z_1 hz_1) (cwV 2 hts gX4_entryName_X4_isEntry rfl rfl rfl (by decide +kernel) ⟨Nat.le_of_ble_eq_true rfl, Nat.le_of_ble_eq_true rfl⟩) hP hK (va_recv hK hP (ci := 4) (q0 := 0) rfl rfl) rfl rfl hl.1 (Nat.le_of_ble_eq_true rfl) dX4_entryName_3 ⟨Nat.le_of_ble_eq_true rfl, Nat.le_of_ble_eq_true rfl⟩ ?_
  obtain ⟨k24_2, hk24_2, hf⟩ := jn_some hf
  have j24_2 : ∀ (v24_2_0 : Int32) (ls : Array Slot), k24_2 v24_2_0 = some o → lv_has ls 3 [] → W p l e (headSpec wsX4_entryName rmX4_entryName).room s m args below meth c s.heap [] 0 0 Q (F0 m 24 ls [.int v24_2_0]) := by
    intro v24_2_0 ls hf hl
    have hf := qa1 hk24_2 hf
    rw [hQ]
    exact W.iret hx hb hr (fun t ht hW => ⟨_, rfl, Option.some.inj hf, ht⟩) (fun _ h => nomatch h) dX4_entryName_24 hlocks
  refine lv_if_eq (tgt := 23) hx hb dX4_entryName_6 (by decide) (fun c_3 => ?_) (fun c_3 => ?_)
  · have hf := ite_t hf c_3
    refine lv_iconst (v := 0) hx hb dX4_entryName_23 (by decide) ?_
    exact j24_2 _ _ hf (lv_sub hl [] rfl)
  · have hf := ite_f hf c_3
    refine lv_aload_n hx hb dX4_entryName_9 rfl (lv_at hl 0 rfl) ?_
    refine va_get (D := D) (ci := 4) (v := .ref (a0 7)) (C := RX4) (T := TX4) (N := 12) hx hb hts i4 hown hK hP 0 rfl rfl 6 (by decide) hk30 (fun _ h9 => h9) rfl dX4_entryName_10 ?_
    refine lv_iload_n hx hb dX4_entryName_13 rfl (lv_at hl 1 rfl) ?_
    refine lv_bipush (v := 8) hx hb dX4_entryName_14 (by decide) ?_
    refine lv_imul hx hb dX4_entryName_16 ?_
    refine lv_iload_n hx hb dX4_entryName_17 rfl (lv_at hl 2 rfl) ?_
    refine lv_iadd hx hb dX4_entryName_18 ?_
    obtain ⟨hi, hf⟩ := chk_some hf
    refine va_iald hx hb hK hP 7 0 rfl rfl (inb_in hi) dX4_entryName_19 ?_
    refine lv_goto (tgt := 24) hx hb dX4_entryName_20 (by decide) ?_
    exact j24_2 _ _ hf (lv_sub hl [] rfl)
set_option maxRecDepth 20000 in
theorem ggX4_entryThing_X4_isEntry : GoodIn wsX4_entryThing wsX4_isEntry := goodIn_r _ [6, 7, 8, 9, 10, 11, 12, 13, 14, 15, 16, 17, 18, 19] (by decide +kernel) (by decide +kernel)
set_option maxRecDepth 20000 in
theorem gX4_entryThing_X4_isEntry : GoodIn wsX4_entryThing (wsV RX4 65 RX4 yX4_isEntry wsX4_isEntry) := goodIn_app (goodIn_of _ (by decide +kernel)) ggX4_entryThing_X4_isEntry
theorem dX4_entryThing_0 : decode cX4_entryThing 0 = .ok (.aload_n 0, 1) := by decide +kernel
theorem dX4_entryThing_1 : decode cX4_entryThing 1 = .ok (.iload_n 1, 1) := by decide +kernel
theorem dX4_entryThing_2 : decode cX4_entryThing 2 = .ok (.iload_n 2, 1) := by decide +kernel
theorem dX4_entryThing_3 : decode cX4_entryThing 3 = .ok (.invokevirtual 65, 3) := by decide +kernel
theorem dX4_entryThing_6 : decode cX4_entryThing 6 = .ok (.ifCond .eq 17, 3) := by decide +kernel
theorem dX4_entryThing_9 : decode cX4_entryThing 9 = .ok (.aload_n 0, 1) := by decide +kernel
theorem dX4_entryThing_10 : decode cX4_entryThing 10 = .ok (.getfield 33, 3) := by decide +kernel
theorem dX4_entryThing_13 : decode cX4_entryThing 13 = .ok (.iload_n 1, 1) := by decide +kernel
theorem dX4_entryThing_14 : decode cX4_entryThing 14 = .ok (.bipush 8, 2) := by decide +kernel
theorem dX4_entryThing_16 : decode cX4_entryThing 16 = .ok (.imul, 1) := by decide +kernel
theorem dX4_entryThing_17 : decode cX4_entryThing 17 = .ok (.iload_n 2, 1) := by decide +kernel
theorem dX4_entryThing_18 : decode cX4_entryThing 18 = .ok (.iadd, 1) := by decide +kernel
theorem dX4_entryThing_19 : decode cX4_entryThing 19 = .ok (.iaload, 1) := by decide +kernel
theorem dX4_entryThing_20 : decode cX4_entryThing 20 = .ok (.goto 4, 3) := by decide +kernel
theorem dX4_entryThing_23 : decode cX4_entryThing 23 = .ok (.iconst (-1), 1) := by decide +kernel
theorem dX4_entryThing_24 : decode cX4_entryThing 24 = .ok (.ireturn, 1) := by decide +kernel
def f_X4_entryThing (u0 : S1) (p1 : Int32) (p2 : Int32) : Option (Int32) := bn (f_X4_isEntry u0 p1 p2) (fun z_1 => jn (fun (v24_2_0 : Int32) => some v24_2_0) (fun k24_2 => if z_1 = 0 then k24_2 (-1) else chk (inb ((p1 * 8) + p2) 256) (k24_2 (u0 7 ((p1 * 8) + p2).toNatClampNeg))))
def rmX4_entryThing : Room := { frames := 1, cells := 0, slots := 0, locals := 22 }
set_option maxHeartbeats 4000000 in
set_option maxRecDepth 100000 in
theorem c_X4_entryThing (l : Launch) (D : va_G) (cI cZ cJ cT : ClassId) (a0 : Nat → Nat) (u0 : S1) (p1 : Int32) (p2 : Int32) (o : Int32) (hf : f_X4_entryThing u0 p1 p2 = some o) : Met l yX4_entryThing wsX4_entryThing rmX4_entryThing (va_Pc [.ref (a0 0), .int p1, .int p2] (PR D cls (tys cI cZ cJ cT) ((wX4 cI cZ a0 u0)))) (QR o) 0 0 (fun _ => False) := by
  refine Met.ofW (cc := cX4_entryThing) (maxL := 3) (ret := (some .int)) (by decide) rfl ?_
  intro p e s m args below meth c s₁ B hml hv
  obtain ⟨hav, hP, hK⟩ := hv
  have hx := B.exec
  have hb := B.bytes
  have hr := B.returns
  have hlocks := B.notSynchronized
  have hts := atoms_spec (ws := wsX4_entryThing) B.pre
  have hown : s.vm.findClass RX4 = some m.cls := findClass_of_methodNamed B.named
  have i4 : ∀ w ∈ wsX40, w ∈ wsX4_entryThing := fun w h => List.mem_cons_of_mem _ (List.mem_append_right _ h)
  have hk33 := hts (.fieldLink RX4 33 "Inodery$Tree" "entryThings" "[I") (by decide +kernel)
  refine Wq (fun Q hQ => ?_)
  refine W_entry hav (Nat.le_of_ble_eq_true rfl) (fun ls hl => ?_)
  have hl : lv_has ls 3 [(0, .ref (a0 0)), (1, .int p1), (2, .int p2)] := hl
  unfold f_X4_entryThing at hf
  refine lv_aload_n hx hb dX4_entryThing_0 rfl (lv_at hl 0 rfl) ?_
  refine lv_iload_n hx hb dX4_entryThing_1 rfl (lv_at hl 1 rfl) ?_
  refine lv_iload_n hx hb dX4_entryThing_2 rfl (lv_at hl 2 rfl) ?_
  obtain ⟨z_1, hz_1, hf⟩ := bn_some hf
  refine cRV (As := [.int p1, .int p2]) (rest := []) ⟨hx, hb, hml, hown, hts⟩ (c_X4_isEntry l D cI cZ cJ cT a0 u0 p1 p2 z_1 hz_1) (cwV 2 hts gX4_entryThing_X4_isEntry rfl rfl rfl (by decide +kernel) ⟨Nat.le_of_ble_eq_true rfl, Nat.le_of_ble_eq_true rfl⟩) hP hK (va_recv hK hP (ci := 4) (q0 := 0) rfl rfl) rfl rfl hl.1 (Nat.le_of_ble_eq_true rfl) dX4_entryThing_3 ⟨Nat.le_of_ble_eq_true rfl, Nat.le_of_ble_eq_true rfl⟩ ?_
  obtain ⟨k24_2, hk24_2, hf⟩ := jn_some hf
  have j24_2 : ∀ (v24_2_0 : Int32) (ls : Array Slot), k24_2 v24_2_0 = some o → lv_has ls 3 [] → W p l e (headSpec wsX4_entryThing rmX4_entryThing).room s m args below meth c s.heap [] 0 0 Q (F0 m 24 ls [.int v24_2_0]) := by
    intro v24_2_0 ls hf hl
    have hf := qa1 hk24_2 hf
    rw [hQ]
    exact W.iret hx hb hr (fun t ht hW => ⟨_, rfl, Option.some.inj hf, ht⟩) (fun _ h => nomatch h) dX4_entryThing_24 hlocks
  refine lv_if_eq (tgt := 23) hx hb dX4_entryThing_6 (by decide) (fun c_3 => ?_) (fun c_3 => ?_)
  · have hf := ite_t hf c_3
    refine lv_iconst (v := (-1)) hx hb dX4_entryThing_23 (by decide) ?_
    exact j24_2 _ _ hf (lv_sub hl [] rfl)
  · have hf := ite_f hf c_3
    refine lv_aload_n hx hb dX4_entryThing_9 rfl (lv_at hl 0 rfl) ?_
    refine va_get (D := D) (ci := 4) (v := .ref (a0 8)) (C := RX4) (T := TX4) (N := 12) hx hb hts i4 hown hK hP 0 rfl rfl 7 (by decide) hk33 (fun _ h9 => h9) rfl dX4_entryThing_10 ?_
    refine lv_iload_n hx hb dX4_entryThing_13 rfl (lv_at hl 1 rfl) ?_
    refine lv_bipush (v := 8) hx hb dX4_entryThing_14 (by decide) ?_
    refine lv_imul hx hb dX4_entryThing_16 ?_
    refine lv_iload_n hx hb dX4_entryThing_17 rfl (lv_at hl 2 rfl) ?_
    refine lv_iadd hx hb dX4_entryThing_18 ?_
    obtain ⟨hi, hf⟩ := chk_some hf
    refine va_iald hx hb hK hP 8 0 rfl rfl (inb_in hi) dX4_entryThing_19 ?_
    refine lv_goto (tgt := 24) hx hb dX4_entryThing_20 (by decide) ?_
    exact j24_2 _ _ hf (lv_sub hl [] rfl)
set_option maxRecDepth 20000 in
theorem ggX4_setEntry_X4_isEntry : GoodIn wsX4_setEntry wsX4_isEntry := goodIn_r _ [7, 8, 9, 10, 11, 12, 13, 14, 15, 16, 17, 18, 19, 20] (by decide +kernel) (by decide +kernel)
set_option maxRecDepth 20000 in
theorem gX4_setEntry_X4_isEntry : GoodIn wsX4_setEntry (wsV RX4 65 RX4 yX4_isEntry wsX4_isEntry) := goodIn_app (goodIn_of _ (by decide +kernel)) ggX4_setEntry_X4_isEntry
theorem dX4_setEntry_0 : decode cX4_setEntry 0 = .ok (.aload_n 0, 1) := by decide +kernel
theorem dX4_setEntry_1 : decode cX4_setEntry 1 = .ok (.iload_n 1, 1) := by decide +kernel
theorem dX4_setEntry_2 : decode cX4_setEntry 2 = .ok (.iload_n 2, 1) := by decide +kernel
theorem dX4_setEntry_3 : decode cX4_setEntry 3 = .ok (.invokevirtual 65, 3) := by decide +kernel
theorem dX4_setEntry_6 : decode cX4_setEntry 6 = .ok (.ifCond .eq 28, 3) := by decide +kernel
theorem dX4_setEntry_9 : decode cX4_setEntry 9 = .ok (.aload_n 0, 1) := by decide +kernel
theorem dX4_setEntry_10 : decode cX4_setEntry 10 = .ok (.getfield 30, 3) := by decide +kernel
theorem dX4_setEntry_13 : decode cX4_setEntry 13 = .ok (.iload_n 1, 1) := by decide +kernel
theorem dX4_setEntry_14 : decode cX4_setEntry 14 = .ok (.bipush 8, 2) := by decide +kernel
theorem dX4_setEntry_16 : decode cX4_setEntry 16 = .ok (.imul, 1) := by decide +kernel
theorem dX4_setEntry_17 : decode cX4_setEntry 17 = .ok (.iload_n 2, 1) := by decide +kernel
theorem dX4_setEntry_18 : decode cX4_setEntry 18 = .ok (.iadd, 1) := by decide +kernel
theorem dX4_setEntry_19 : decode cX4_setEntry 19 = .ok (.iload_n 3, 1) := by decide +kernel
theorem dX4_setEntry_20 : decode cX4_setEntry 20 = .ok (.iastore, 1) := by decide +kernel
theorem dX4_setEntry_21 : decode cX4_setEntry 21 = .ok (.aload_n 0, 1) := by decide +kernel
theorem dX4_setEntry_22 : decode cX4_setEntry 22 = .ok (.getfield 33, 3) := by decide +kernel
theorem dX4_setEntry_25 : decode cX4_setEntry 25 = .ok (.iload_n 1, 1) := by decide +kernel
theorem dX4_setEntry_26 : decode cX4_setEntry 26 = .ok (.bipush 8, 2) := by decide +kernel
theorem dX4_setEntry_28 : decode cX4_setEntry 28 = .ok (.imul, 1) := by decide +kernel
theorem dX4_setEntry_29 : decode cX4_setEntry 29 = .ok (.iload_n 2, 1) := by decide +kernel
theorem dX4_setEntry_30 : decode cX4_setEntry 30 = .ok (.iadd, 1) := by decide +kernel
theorem dX4_setEntry_31 : decode cX4_setEntry 31 = .ok (.iload 4, 2) := by decide +kernel
theorem dX4_setEntry_33 : decode cX4_setEntry 33 = .ok (.iastore, 1) := by decide +kernel
theorem dX4_setEntry_34 : decode cX4_setEntry 34 = .ok (.return_, 1) := by decide +kernel
def f_X4_setEntry (u0 : S1) (p1 : Int32) (p2 : Int32) (p3 : Int32) (p4 : Int32) : Option (S1) := bn (f_X4_isEntry u0 p1 p2) (fun z_1 => jn (fun (u34_2_0 : S1) => some (u34_2_0)) (fun k34_2 => if z_1 = 0 then k34_2 u0 else chk (inb ((p1 * 8) + p2) 256) (bv (st u0 6 ((p1 * 8) + p2) p3) (fun u_4 => chk (inb ((p1 * 8) + p2) 256) (bv (st u_4 7 ((p1 * 8) + p2) p4) (fun u_5 => k34_2 u_5))))))
def rmX4_setEntry : Room := { frames := 1, cells := 0, slots := 0, locals := 22 }
set_option maxHeartbeats 4000000 in
set_option maxRecDepth 100000 in
theorem c_X4_setEntry (l : Launch) (D : va_G) (cI cZ cJ cT : ClassId) (a0 : Nat → Nat) (sz : Nat) (u0 : S1) (p1 : Int32) (p2 : Int32) (p3 : Int32) (p4 : Int32) (o : S1) (hf : f_X4_setEntry u0 p1 p2 p3 p4 = some o) : Met l yX4_setEntry wsX4_setEntry rmX4_setEntry (va_Pc [.ref (a0 0), .int p1, .int p2, .int p3, .int p4] (PW D cls (tys cI cZ cJ cT) ((wX4 cI cZ a0 u0)) sz)) (QWv D cls ((wX4 cI cZ a0 o)) (va_A ((wX4 cI cZ a0 u0)) sz)) 0 0 (va_A ((wX4 cI cZ a0 u0)) sz) := by
  refine Met.ofW (cc := cX4_setEntry) (maxL := 5) (ret := none) (by decide) rfl ?_
  intro p e s m args below meth c s₁ B hml hv
  obtain ⟨hav, hsz, hP, hK, hD0⟩ := hv
  have hx := B.exec
  have hb := B.bytes
  have hr := B.returns
  have hlocks := B.notSynchronized
  have hts := atoms_spec (ws := wsX4_setEntry) B.pre
  have hown : s.vm.findClass RX4 = some m.cls := findClass_of_methodNamed B.named
  have i4 : ∀ w ∈ wsX40, w ∈ wsX4_setEntry := fun w h => List.mem_cons_of_mem _ (List.mem_append_right _ h)
  have hk30 := hts (.fieldLink RX4 30 "Inodery$Tree" "entryNames" "[I") (by decide +kernel)
  have hk33 := hts (.fieldLink RX4 33 "Inodery$Tree" "entryThings" "[I") (by decide +kernel)
  subst hsz
  have hD := hD0.self (sz := s.heap.size)
  generalize hAe : va_A ((wX4 cI cZ a0 u0)) s.heap.size = A at hD ⊢
  have hA : ∀ q : Nat, s.heap.size ≤ q → A q := fun q h => by rw [← hAe]; exact Or.inr h
  have hS : va_S A s.heap s.heap [] := va_S.rf
  have hDD : ∀ w0 : S1, va_D A ((wX4 cI cZ a0 w0)) := fun _ => D_same (w := (wX4 cI cZ a0 u0)) rfl hD
  refine Wq (fun Q hQ => ?_)
  refine W_entry hav (Nat.le_of_ble_eq_true rfl) (fun ls hl => ?_)
  have hl : lv_has ls 5 [(0, .ref (a0 0)), (1, .int p1), (2, .int p2), (3, .int p3), (4, .int p4)] := hl
  unfold f_X4_setEntry at hf
  refine W_heap hP hS (fun H locs hP hS => ?_)
  refine lv_aload_n hx hb dX4_setEntry_0 rfl (lv_at hl 0 rfl) ?_
  refine lv_iload_n hx hb dX4_setEntry_1 rfl (lv_at hl 1 rfl) ?_
  refine lv_iload_n hx hb dX4_setEntry_2 rfl (lv_at hl 2 rfl) ?_
  obtain ⟨z_1, hz_1, hf⟩ := bn_some hf
  refine cRV (As := [.int p1, .int p2]) (rest := []) ⟨hx, hb, hml, hown, hts⟩ (c_X4_isEntry l D cI cZ cJ cT a0 u0 p1 p2 z_1 hz_1) (cwV 2 hts gX4_setEntry_X4_isEntry rfl rfl rfl (by decide +kernel) ⟨Nat.le_of_ble_eq_true rfl, Nat.le_of_ble_eq_true rfl⟩) hP hK (va_recv hK hP (ci := 4) (q0 := 0) rfl rfl) rfl rfl hl.1 (Nat.le_of_ble_eq_true rfl) dX4_setEntry_3 ⟨Nat.le_of_ble_eq_true rfl, Nat.le_of_ble_eq_true rfl⟩ ?_
  obtain ⟨k34_2, hk34_2, hf⟩ := jn_some hf
  have j34_2 : ∀ (u34_2_0 : S1) (H : Heap) (locs : List Loc) (ls : Array Slot), k34_2 u34_2_0 = some o → va_P D cls (wX4 cI cZ a0 u34_2_0) H → va_S A s.heap H locs → lv_has ls 5 [] → W p l e (headSpec wsX4_setEntry rmX4_setEntry).room s m args below meth c H locs 0 0 Q (F0 m 34 ls []) := by
    intro u34_2_0 H locs ls hf hP hS hl
    have hf := qa1 hk34_2 hf
    have eo := Option.some.inj hf
    have hP : va_P D cls (wX4 cI cZ a0 o) H := by rw [← eo]; exact hP
    rw [hQ]
    exact W.vret hx hb hr (fun t ht hW => ⟨⟨(), rfl, trivial, P_at ht hP⟩, hS.F ht⟩) hS.2.2 dX4_setEntry_34 hlocks
  refine lv_if_eq (tgt := 34) hx hb dX4_setEntry_6 (by decide) (fun c_3 => ?_) (fun c_3 => ?_)
  · have hf := ite_t hf c_3
    exact j34_2 _ _ _ _ hf hP hS (lv_sub hl [] rfl)
  · have hf := ite_f hf c_3
    refine lv_aload_n hx hb dX4_setEntry_9 rfl (lv_at hl 0 rfl) ?_
    refine va_get (D := D) (ci := 4) (v := .ref (a0 7)) (C := RX4) (T := TX4) (N := 12) hx hb hts i4 hown hK hP 0 rfl rfl 6 (by decide) hk30 (fun _ h9 => h9) rfl dX4_setEntry_10 ?_
    refine lv_iload_n hx hb dX4_setEntry_13 rfl (lv_at hl 1 rfl) ?_
    refine lv_bipush (v := 8) hx hb dX4_setEntry_14 (by decide) ?_
    refine lv_imul hx hb dX4_setEntry_16 ?_
    refine lv_iload_n hx hb dX4_setEntry_17 rfl (lv_at hl 2 rfl) ?_
    refine lv_iadd hx hb dX4_setEntry_18 ?_
    refine lv_iload_n hx hb dX4_setEntry_19 rfl (lv_at hl 3 rfl) ?_
    obtain ⟨hi, hf⟩ := chk_some hf
    obtain ⟨u_4, hu_4, hf⟩ := bv_some hf
    refine va_iast hx hb hK hP (hDD u0) hS 7 0 rfl rfl (inb_in hi) dX4_setEntry_20 (fun H locs hP _ hS => ?_)
    have hP : va_P D cls (wX4 cI cZ a0 u_4) H := by rw [hu_4]; exact hP
    refine lv_aload_n hx hb dX4_setEntry_21 rfl (lv_at hl 0 rfl) ?_
    refine va_get (D := D) (ci := 4) (v := .ref (a0 8)) (C := RX4) (T := TX4) (N := 12) hx hb hts i4 hown hK hP 0 rfl rfl 7 (by decide) hk33 (fun _ h9 => h9) rfl dX4_setEntry_22 ?_
    refine lv_iload_n hx hb dX4_setEntry_25 rfl (lv_at hl 1 rfl) ?_
    refine lv_bipush (v := 8) hx hb dX4_setEntry_26 (by decide) ?_
    refine lv_imul hx hb dX4_setEntry_28 ?_
    refine lv_iload_n hx hb dX4_setEntry_29 rfl (lv_at hl 2 rfl) ?_
    refine lv_iadd hx hb dX4_setEntry_30 ?_
    refine lv_iload hx hb dX4_setEntry_31 (lv_at hl 4 rfl) ?_
    obtain ⟨hi, hf⟩ := chk_some hf
    obtain ⟨u_5, hu_5, hf⟩ := bv_some hf
    refine va_iast hx hb hK hP (hDD u_4) hS 8 0 rfl rfl (inb_in hi) dX4_setEntry_33 (fun H locs hP _ hS => ?_)
    have hP : va_P D cls (wX4 cI cZ a0 u_5) H := by rw [hu_5]; exact hP
    exact j34_2 _ _ _ _ hf hP hS (lv_sub hl [] rfl)
set_option maxRecDepth 20000 in
theorem ggX4_placeOf_X4_isEntry : GoodIn wsX4_placeOf wsX4_isEntry := goodIn_r _ [6, 7, 8, 9, 10, 11, 12, 13, 14, 15, 16, 17, 18, 19] (by decide +kernel) (by decide +kernel)
set_option maxRecDepth 20000 in
theorem gX4_placeOf_X4_isEntry : GoodIn wsX4_placeOf (wsV RX4 65 RX4 yX4_isEntry wsX4_isEntry) := goodIn_app (goodIn_of _ (by decide +kernel)) ggX4_placeOf_X4_isEntry
theorem dX4_placeOf_0 : decode cX4_placeOf 0 = .ok (.iconst 0, 1) := by decide +kernel
theorem dX4_placeOf_1 : decode cX4_placeOf 1 = .ok (.istore_n 3, 1) := by decide +kernel
theorem dX4_placeOf_2 : decode cX4_placeOf 2 = .ok (.iload_n 3, 1) := by decide +kernel
theorem dX4_placeOf_3 : decode cX4_placeOf 3 = .ok (.bipush 8, 2) := by decide +kernel
theorem dX4_placeOf_5 : decode cX4_placeOf 5 = .ok (.if_icmp .ge 35, 3) := by decide +kernel
theorem dX4_placeOf_8 : decode cX4_placeOf 8 = .ok (.aload_n 0, 1) := by decide +kernel
theorem dX4_placeOf_9 : decode cX4_placeOf 9 = .ok (.iload_n 1, 1) := by decide +kernel
theorem dX4_placeOf_10 : decode cX4_placeOf 10 = .ok (.iload_n 3, 1) := by decide +kernel
theorem dX4_placeOf_11 : decode cX4_placeOf 11 = .ok (.invokevirtual 65, 3) := by decide +kernel
theorem dX4_placeOf_14 : decode cX4_placeOf 14 = .ok (.ifCond .eq 26, 3) := by decide +kernel
theorem dX4_placeOf_17 : decode cX4_placeOf 17 = .ok (.aload_n 0, 1) := by decide +kernel
theorem dX4_placeOf_18 : decode cX4_placeOf 18 = .ok (.getfield 30, 3) := by decide +kernel
theorem dX4_placeOf_21 : decode cX4_placeOf 21 = .ok (.iload_n 1, 1) := by decide +kernel
theorem dX4_placeOf_22 : decode cX4_placeOf 22 = .ok (.bipush 8, 2) := by decide +kernel
theorem dX4_placeOf_24 : decode cX4_placeOf 24 = .ok (.imul, 1) := by decide +kernel
theorem dX4_placeOf_25 : decode cX4_placeOf 25 = .ok (.iload_n 3, 1) := by decide +kernel
theorem dX4_placeOf_26 : decode cX4_placeOf 26 = .ok (.iadd, 1) := by decide +kernel
theorem dX4_placeOf_27 : decode cX4_placeOf 27 = .ok (.iaload, 1) := by decide +kernel
theorem dX4_placeOf_28 : decode cX4_placeOf 28 = .ok (.iload_n 2, 1) := by decide +kernel
theorem dX4_placeOf_29 : decode cX4_placeOf 29 = .ok (.if_icmp .ne 5, 3) := by decide +kernel
theorem dX4_placeOf_32 : decode cX4_placeOf 32 = .ok (.iload_n 3, 1) := by decide +kernel
theorem dX4_placeOf_33 : decode cX4_placeOf 33 = .ok (.ireturn, 1) := by decide +kernel
theorem dX4_placeOf_34 : decode cX4_placeOf 34 = .ok (.iinc 3 1, 3) := by decide +kernel
theorem dX4_placeOf_37 : decode cX4_placeOf 37 = .ok (.goto (-35), 3) := by decide +kernel
theorem dX4_placeOf_40 : decode cX4_placeOf 40 = .ok (.iconst (-1), 1) := by decide +kernel
theorem dX4_placeOf_41 : decode cX4_placeOf 41 = .ok (.ireturn, 1) := by decide +kernel
def f_X4_placeOf (u0 : S1) (p1 : Int32) (p2 : Int32) : Option (Int32) := qj1 (fun (r2_1 : Int32 → Option (Int32)) (y2_1_3 : Int32) => jn (some (-1)) (fun k40_2 => if 8 ≤ y2_1_3 then k40_2 else bn (f_X4_isEntry u0 p1 y2_1_3) (fun z_4 => if z_4 = 0 then k40_2 else chk (inb ((p1 * 8) + y2_1_3) 256) (if (u0 6 ((p1 * 8) + y2_1_3).toNatClampNeg) = p2 then some y2_1_3 else r2_1 (y2_1_3 + 1))))) (fun k2_1 => k2_1 0)
def rmX4_placeOf : Room := { frames := 1, cells := 0, slots := 0, locals := 22 }
set_option maxHeartbeats 4000000 in
set_option maxRecDepth 100000 in
theorem c_X4_placeOf (l : Launch) (D : va_G) (cI cZ cJ cT : ClassId) (a0 : Nat → Nat) (u0 : S1) (p1 : Int32) (p2 : Int32) (o : Int32) (hf : f_X4_placeOf u0 p1 p2 = some o) : Met l yX4_placeOf wsX4_placeOf rmX4_placeOf (va_Pc [.ref (a0 0), .int p1, .int p2] (PR D cls (tys cI cZ cJ cT) ((wX4 cI cZ a0 u0)))) (QR o) 0 0 (fun _ => False) := by
  refine Met.ofW (cc := cX4_placeOf) (maxL := 4) (ret := (some .int)) (by decide) rfl ?_
  intro p e s m args below meth c s₁ B hml hv
  obtain ⟨hav, hP, hK⟩ := hv
  have hx := B.exec
  have hb := B.bytes
  have hr := B.returns
  have hlocks := B.notSynchronized
  have hts := atoms_spec (ws := wsX4_placeOf) B.pre
  have hown : s.vm.findClass RX4 = some m.cls := findClass_of_methodNamed B.named
  have i4 : ∀ w ∈ wsX40, w ∈ wsX4_placeOf := fun w h => List.mem_cons_of_mem _ (List.mem_append_right _ h)
  have hk30 := hts (.fieldLink RX4 30 "Inodery$Tree" "entryNames" "[I") (by decide +kernel)
  refine Wq (fun Q hQ => ?_)
  refine W_entry hav (Nat.le_of_ble_eq_true rfl) (fun ls hl => ?_)
  have hl : lv_has ls 4 [(0, .ref (a0 0)), (1, .int p1), (2, .int p2)] := hl
  unfold f_X4_placeOf at hf
  refine lv_iconst (v := 0) hx hb dX4_placeOf_0 (by decide) ?_
  refine lv_istore_n (lv' := [(3, .int 0), (0, .ref (a0 0)), (1, .int p1), (2, .int p2)]) hx hb dX4_placeOf_1 rfl hl (by decide) rfl (fun ls hl => ?_)
  obtain ⟨G2_1, hG2_1, hf⟩ := qj1_some hf
  have j2_1 : ∀ (n : Nat) (y2_1_3 : Int32) (ls : Array Slot), ql1 G2_1 n y2_1_3 = some o → lv_has ls 4 [(0, .ref (a0 0)), (1, .int p1), (2, .int p2), (3, .int y2_1_3)] → W p l e (headSpec wsX4_placeOf rmX4_placeOf).room s m args below meth c s.heap [] 0 0 Q (F0 m 2 ls []) := by
    intro n
    induction n with
    | zero => intro y2_1_3 ls hf hl; exact (ql1_z hf).elim
    | succ n ih2_1 =>
      intro y2_1_3 ls hf hl
      have hf := ql1_s hG2_1 hf
      obtain ⟨r2_1, hr2_1⟩ : ∃ z, z = ql1 G2_1 n := ⟨_, rfl⟩
      rw [← hr2_1] at hf ih2_1
      refine lv_iload_n hx hb dX4_placeOf_2 rfl (lv_at hl 3 rfl) ?_
      refine lv_bipush (v := 8) hx hb dX4_placeOf_3 (by decide) ?_
      obtain ⟨k40_2, hk40_2, hf⟩ := jn_some hf
      have j40_2 : ∀ (ls : Array Slot), k40_2 = some o → lv_has ls 4 [] → W p l e (headSpec wsX4_placeOf rmX4_placeOf).room s m args below meth c s.heap [] 0 0 Q (F0 m 40 ls []) := by
        intro ls hf hl
        have hf := qa0 hk40_2 hf
        refine lv_iconst (v := (-1)) hx hb dX4_placeOf_40 (by decide) ?_
        rw [hQ]
        exact W.iret hx hb hr (fun t ht hW => ⟨_, rfl, Option.some.inj hf, ht⟩) (fun _ h => nomatch h) dX4_placeOf_41 hlocks
      refine lv_icmp_ge (tgt := 40) hx hb dX4_placeOf_5 (by decide) (fun c_3 => ?_) (fun c_3 => ?_)
      · have hf := ite_t hf c_3
        exact j40_2 _ hf (lv_sub hl [] rfl)
      · have hf := ite_f hf c_3
        refine lv_aload_n hx hb dX4_placeOf_8 rfl (lv_at hl 0 rfl) ?_
        refine lv_iload_n hx hb dX4_placeOf_9 rfl (lv_at hl 1 rfl) ?_
        refine lv_iload_n hx hb dX4_placeOf_10 rfl (lv_at hl 3 rfl) ?_
        obtain ⟨z_4, hz_4, hf⟩ := bn_some hf
        refine cRV (As := [.int p1, .int y2_1_3]) (rest := []) ⟨hx, hb, hml, hown, hts⟩ (c_X4_isEntry l D cI cZ cJ cT a0 u0 p1 y2_1_3 z_4 hz_4) (cwV 2 hts gX4_placeOf_X4_isEntry rfl rfl rfl (by decide +kernel) ⟨Nat.le_of_ble_eq_true rfl, Nat.le_of_ble_eq_true rfl⟩) hP hK (va_recv hK hP (ci := 4) (q0 := 0) rfl rfl) rfl rfl hl.1 (Nat.le_of_ble_eq_true rfl) dX4_placeOf_11 ⟨Nat.le_of_ble_eq_true rfl, Nat.le_of_ble_eq_true rfl⟩ ?_
        refine lv_if_eq (tgt := 40) hx hb dX4_placeOf_14 (by decide) (fun c_5 => ?_) (fun c_5 => ?_)
        · have hf := ite_t hf c_5
          exact j40_2 _ hf (lv_sub hl [] rfl)
        · have hf := ite_f hf c_5
          refine lv_aload_n hx hb dX4_placeOf_17 rfl (lv_at hl 0 rfl) ?_
          refine va_get (D := D) (ci := 4) (v := .ref (a0 7)) (C := RX4) (T := TX4) (N := 12) hx hb hts i4 hown hK hP 0 rfl rfl 6 (by decide) hk30 (fun _ h9 => h9) rfl dX4_placeOf_18 ?_
          refine lv_iload_n hx hb dX4_placeOf_21 rfl (lv_at hl 1 rfl) ?_
          refine lv_bipush (v := 8) hx hb dX4_placeOf_22 (by decide) ?_
          refine lv_imul hx hb dX4_placeOf_24 ?_
          refine lv_iload_n hx hb dX4_placeOf_25 rfl (lv_at hl 3 rfl) ?_
          refine lv_iadd hx hb dX4_placeOf_26 ?_
          obtain ⟨hi, hf⟩ := chk_some hf
          refine va_iald hx hb hK hP 7 0 rfl rfl (inb_in hi) dX4_placeOf_27 ?_
          refine lv_iload_n hx hb dX4_placeOf_28 rfl (lv_at hl 2 rfl) ?_
          refine lv_icmp_ne (tgt := 34) hx hb dX4_placeOf_29 (by decide) (fun c_6 => ?_) (fun c_6 => ?_)
          · have hf := ite_f hf c_6
            refine lv_iinc (v := y2_1_3 + 1) (lv' := [(3, .int (y2_1_3 + 1)), (0, .ref (a0 0)), (1, .int p1), (2, .int p2)]) hx hb dX4_placeOf_34 hl (k := 3) rfl rfl (by decide) rfl (fun ls hl => ?_)
            refine lv_goto (tgt := 2) hx hb dX4_placeOf_37 (by decide) ?_
            exact ih2_1 _ _ hf (lv_sub hl [1, 2, 3, 0] rfl)
          · have hf := ite_t hf c_6
            refine lv_iload_n hx hb dX4_placeOf_32 rfl (lv_at hl 3 rfl) ?_
            rw [hQ]
            exact W.iret hx hb hr (fun t ht hW => ⟨_, rfl, Option.some.inj hf, ht⟩) (fun _ h => nomatch h) dX4_placeOf_33 hlocks
  exact j2_1 4096 _ _ hf (lv_sub hl [1, 2, 3, 0] rfl)
set_option maxRecDepth 20000 in
theorem ggX4_thingNamed_X4_entryThing : GoodIn wsX4_thingNamed wsX4_entryThing := goodIn_r _ [15, 16, 7, 8, 9, 4, 10, 11, 17, 18, 19, 20, 21, 22, 23, 24, 25, 26, 27, 28] (by decide +kernel) (by decide +kernel)
set_option maxRecDepth 20000 in
theorem gX4_thingNamed_X4_entryThing : GoodIn wsX4_thingNamed (wsV RX4 73 RX4 yX4_entryThing wsX4_entryThing) := goodIn_app (goodIn_of _ (by decide +kernel)) ggX4_thingNamed_X4_entryThing
set_option maxRecDepth 20000 in
theorem ggX4_thingNamed_X4_placeOf : GoodIn wsX4_thingNamed wsX4_placeOf := goodIn_r _ [5, 6, 7, 8, 9, 4, 10, 11, 17, 18, 19, 20, 21, 22, 23, 24, 25, 26, 27, 28] (by decide +kernel) (by decide +kernel)
set_option maxRecDepth 20000 in
theorem gX4_thingNamed_X4_placeOf : GoodIn wsX4_thingNamed (wsV RX4 69 RX4 yX4_placeOf wsX4_placeOf) := goodIn_app (goodIn_of _ (by decide +kernel)) ggX4_thingNamed_X4_placeOf
theorem dX4_thingNamed_0 : decode cX4_thingNamed 0 = .ok (.aload_n 0, 1) := by decide +kernel
theorem dX4_thingNamed_1 : decode cX4_thingNamed 1 = .ok (.iload_n 1, 1) := by decide +kernel
theorem dX4_thingNamed_2 : decode cX4_thingNamed 2 = .ok (.aload_n 0, 1) := by decide +kernel
theorem dX4_thingNamed_3 : decode cX4_thingNamed 3 = .ok (.iload_n 1, 1) := by decide +kernel
theorem dX4_thingNamed_4 : decode cX4_thingNamed 4 = .ok (.iload_n 2, 1) := by decide +kernel
theorem dX4_thingNamed_5 : decode cX4_thingNamed 5 = .ok (.invokevirtual 69, 3) := by decide +kernel
theorem dX4_thingNamed_8 : decode cX4_thingNamed 8 = .ok (.invokevirtual 73, 3) := by decide +kernel
theorem dX4_thingNamed_11 : decode cX4_thingNamed 11 = .ok (.ireturn, 1) := by decide +kernel
def f_X4_thingNamed (u0 : S1) (p1 : Int32) (p2 : Int32) : Option (Int32) := bn (f_X4_placeOf u0 p1 p2) (fun z_1 => bn (f_X4_entryThing u0 p1 z_1) (fun z_2 => some z_2))
def rmX4_thingNamed : Room := { frames := 2, cells := 0, slots := 0, locals := 45 }
set_option maxHeartbeats 4000000 in
set_option maxRecDepth 100000 in
theorem c_X4_thingNamed (l : Launch) (D : va_G) (cI cZ cJ cT : ClassId) (a0 : Nat → Nat) (u0 : S1) (p1 : Int32) (p2 : Int32) (o : Int32) (hf : f_X4_thingNamed u0 p1 p2 = some o) : Met l yX4_thingNamed wsX4_thingNamed rmX4_thingNamed (va_Pc [.ref (a0 0), .int p1, .int p2] (PR D cls (tys cI cZ cJ cT) ((wX4 cI cZ a0 u0)))) (QR o) 0 0 (fun _ => False) := by
  refine Met.ofW (cc := cX4_thingNamed) (maxL := 3) (ret := (some .int)) (by decide) rfl ?_
  intro p e s m args below meth c s₁ B hml hv
  obtain ⟨hav, hP, hK⟩ := hv
  have hx := B.exec
  have hb := B.bytes
  have hr := B.returns
  have hlocks := B.notSynchronized
  have hts := atoms_spec (ws := wsX4_thingNamed) B.pre
  have hown : s.vm.findClass RX4 = some m.cls := findClass_of_methodNamed B.named
  refine Wq (fun Q hQ => ?_)
  refine W_entry hav (Nat.le_of_ble_eq_true rfl) (fun ls hl => ?_)
  have hl : lv_has ls 3 [(0, .ref (a0 0)), (1, .int p1), (2, .int p2)] := hl
  unfold f_X4_thingNamed at hf
  refine lv_aload_n hx hb dX4_thingNamed_0 rfl (lv_at hl 0 rfl) ?_
  refine lv_iload_n hx hb dX4_thingNamed_1 rfl (lv_at hl 1 rfl) ?_
  refine lv_aload_n hx hb dX4_thingNamed_2 rfl (lv_at hl 0 rfl) ?_
  refine lv_iload_n hx hb dX4_thingNamed_3 rfl (lv_at hl 1 rfl) ?_
  refine lv_iload_n hx hb dX4_thingNamed_4 rfl (lv_at hl 2 rfl) ?_
  obtain ⟨z_1, hz_1, hf⟩ := bn_some hf
  refine cRV (As := [.int p1, .int p2]) (rest := [.int p1, .ref (a0 0)]) ⟨hx, hb, hml, hown, hts⟩ (c_X4_placeOf l D cI cZ cJ cT a0 u0 p1 p2 z_1 hz_1) (cwV 2 hts gX4_thingNamed_X4_placeOf rfl rfl rfl (by decide +kernel) ⟨Nat.le_of_ble_eq_true rfl, Nat.le_of_ble_eq_true rfl⟩) hP hK (va_recv hK hP (ci := 4) (q0 := 0) rfl rfl) rfl rfl hl.1 (Nat.le_of_ble_eq_true rfl) dX4_thingNamed_5 ⟨Nat.le_of_ble_eq_true rfl, Nat.le_of_ble_eq_true rfl⟩ ?_
  obtain ⟨z_2, hz_2, hf⟩ := bn_some hf
  refine cRV (As := [.int p1, .int z_1]) (rest := []) ⟨hx, hb, hml, hown, hts⟩ (c_X4_entryThing l D cI cZ cJ cT a0 u0 p1 z_1 z_2 hz_2) (cwV 2 hts gX4_thingNamed_X4_entryThing rfl rfl rfl (by decide +kernel) ⟨Nat.le_of_ble_eq_true rfl, Nat.le_of_ble_eq_true rfl⟩) hP hK (va_recv hK hP (ci := 4) (q0 := 0) rfl rfl) rfl rfl hl.1 (Nat.le_of_ble_eq_true rfl) dX4_thingNamed_8 ⟨Nat.le_of_ble_eq_true rfl, Nat.le_of_ble_eq_true rfl⟩ ?_
  rw [hQ]
  exact W.iret hx hb hr (fun t ht hW => ⟨_, rfl, Option.some.inj hf, ht⟩) (fun _ h => nomatch h) dX4_thingNamed_11 hlocks
set_option maxRecDepth 20000 in
theorem ggX4_putEntry_X4_entryName : GoodIn wsX4_putEntry wsX4_entryName := goodIn_r _ [13, 14, 15, 16, 17, 5, 18, 1, 28, 29, 30, 31, 32, 33, 34, 35, 36, 37, 38, 39] (by decide +kernel) (by decide +kernel)
set_option maxRecDepth 20000 in
theorem gX4_putEntry_X4_entryName : GoodIn wsX4_putEntry (wsV RX4 80 RX4 yX4_entryName wsX4_entryName) := goodIn_app (goodIn_of _ (by decide +kernel)) ggX4_putEntry_X4_entryName
set_option maxRecDepth 20000 in
theorem ggX4_putEntry_X4_entryThing : GoodIn wsX4_putEntry wsX4_entryThing := goodIn_r _ [22, 23, 15, 16, 17, 5, 18, 1, 28, 29, 30, 31, 32, 33, 34, 35, 36, 37, 38, 39] (by decide +kernel) (by decide +kernel)
set_option maxRecDepth 20000 in
theorem gX4_putEntry_X4_entryThing : GoodIn wsX4_putEntry (wsV RX4 73 RX4 yX4_entryThing wsX4_entryThing) := goodIn_app (goodIn_of _ (by decide +kernel)) ggX4_putEntry_X4_entryThing
set_option maxRecDepth 20000 in
theorem ggX4_putEntry_X4_isInRange : GoodIn wsX4_putEntry wsX4_isInRange := goodIn_r _ [9] (by decide +kernel) (by decide +kernel)
set_option maxRecDepth 20000 in
theorem gX4_putEntry_X4_isInRange : GoodIn wsX4_putEntry (va_wsS RX4 54 yX4_isInRange wsX4_isInRange) := goodIn_app (goodIn_of _ (by decide +kernel)) ggX4_putEntry_X4_isInRange
set_option maxRecDepth 20000 in
theorem ggX4_putEntry_X4_setEntry : GoodIn wsX4_putEntry wsX4_setEntry := goodIn_r _ [27, 14, 23, 15, 16, 17, 5, 18, 1, 28, 29, 30, 31, 32, 33, 34, 35, 36, 37, 38, 39] (by decide +kernel) (by decide +kernel)
set_option maxRecDepth 20000 in
theorem gX4_putEntry_X4_setEntry : GoodIn wsX4_putEntry (wsV RX4 83 RX4 yX4_setEntry wsX4_setEntry) := goodIn_app (goodIn_of _ (by decide +kernel)) ggX4_putEntry_X4_setEntry
set_option maxRecDepth 20000 in
theorem ggX4_putEntry_X4_sizeOf : GoodIn wsX4_putEntry wsX4_sizeOf := goodIn_r _ [6, 1, 7, 8, 5, 9, 28, 29, 30, 31, 32, 33, 34, 35, 36, 37, 38, 39] (by decide +kernel) (by decide +kernel)
set_option maxRecDepth 20000 in
theorem gX4_putEntry_X4_sizeOf : GoodIn wsX4_putEntry (wsV RX4 76 RX4 yX4_sizeOf wsX4_sizeOf) := goodIn_app (goodIn_of _ (by decide +kernel)) ggX4_putEntry_X4_sizeOf
theorem dX4_putEntry_0 : decode cX4_putEntry 0 = .ok (.aload_n 0, 1) := by decide +kernel
theorem dX4_putEntry_1 : decode cX4_putEntry 1 = .ok (.iload_n 1, 1) := by decide +kernel
theorem dX4_putEntry_2 : decode cX4_putEntry 2 = .ok (.invokevirtual 76, 3) := by decide +kernel
theorem dX4_putEntry_5 : decode cX4_putEntry 5 = .ok (.istore 4, 2) := by decide +kernel
theorem dX4_putEntry_7 : decode cX4_putEntry 7 = .ok (.iload_n 1, 1) := by decide +kernel
theorem dX4_putEntry_8 : decode cX4_putEntry 8 = .ok (.invokestatic 54, 3) := by decide +kernel
theorem dX4_putEntry_11 : decode cX4_putEntry 11 = .ok (.ifCond .eq 10, 3) := by decide +kernel
theorem dX4_putEntry_14 : decode cX4_putEntry 14 = .ok (.iload 4, 2) := by decide +kernel
theorem dX4_putEntry_16 : decode cX4_putEntry 16 = .ok (.bipush 8, 2) := by decide +kernel
theorem dX4_putEntry_18 : decode cX4_putEntry 18 = .ok (.if_icmp .lt 4, 3) := by decide +kernel
theorem dX4_putEntry_21 : decode cX4_putEntry 21 = .ok (.return_, 1) := by decide +kernel
theorem dX4_putEntry_22 : decode cX4_putEntry 22 = .ok (.aload_n 0, 1) := by decide +kernel
theorem dX4_putEntry_23 : decode cX4_putEntry 23 = .ok (.getfield 27, 3) := by decide +kernel
theorem dX4_putEntry_26 : decode cX4_putEntry 26 = .ok (.iload_n 1, 1) := by decide +kernel
theorem dX4_putEntry_27 : decode cX4_putEntry 27 = .ok (.iload 4, 2) := by decide +kernel
theorem dX4_putEntry_29 : decode cX4_putEntry 29 = .ok (.iconst 1, 1) := by decide +kernel
theorem dX4_putEntry_30 : decode cX4_putEntry 30 = .ok (.iadd, 1) := by decide +kernel
theorem dX4_putEntry_31 : decode cX4_putEntry 31 = .ok (.iastore, 1) := by decide +kernel
theorem dX4_putEntry_32 : decode cX4_putEntry 32 = .ok (.iload 4, 2) := by decide +kernel
theorem dX4_putEntry_34 : decode cX4_putEntry 34 = .ok (.ifCond .le 47, 3) := by decide +kernel
theorem dX4_putEntry_37 : decode cX4_putEntry 37 = .ok (.aload_n 0, 1) := by decide +kernel
theorem dX4_putEntry_38 : decode cX4_putEntry 38 = .ok (.iload_n 1, 1) := by decide +kernel
theorem dX4_putEntry_39 : decode cX4_putEntry 39 = .ok (.iload 4, 2) := by decide +kernel
theorem dX4_putEntry_41 : decode cX4_putEntry 41 = .ok (.iconst 1, 1) := by decide +kernel
theorem dX4_putEntry_42 : decode cX4_putEntry 42 = .ok (.isub, 1) := by decide +kernel
theorem dX4_putEntry_43 : decode cX4_putEntry 43 = .ok (.invokevirtual 80, 3) := by decide +kernel
theorem dX4_putEntry_46 : decode cX4_putEntry 46 = .ok (.iload_n 2, 1) := by decide +kernel
theorem dX4_putEntry_47 : decode cX4_putEntry 47 = .ok (.if_icmp .le 34, 3) := by decide +kernel
theorem dX4_putEntry_50 : decode cX4_putEntry 50 = .ok (.aload_n 0, 1) := by decide +kernel
theorem dX4_putEntry_51 : decode cX4_putEntry 51 = .ok (.iload_n 1, 1) := by decide +kernel
theorem dX4_putEntry_52 : decode cX4_putEntry 52 = .ok (.iload 4, 2) := by decide +kernel
theorem dX4_putEntry_54 : decode cX4_putEntry 54 = .ok (.aload_n 0, 1) := by decide +kernel
theorem dX4_putEntry_55 : decode cX4_putEntry 55 = .ok (.iload_n 1, 1) := by decide +kernel
theorem dX4_putEntry_56 : decode cX4_putEntry 56 = .ok (.iload 4, 2) := by decide +kernel
theorem dX4_putEntry_58 : decode cX4_putEntry 58 = .ok (.iconst 1, 1) := by decide +kernel
theorem dX4_putEntry_59 : decode cX4_putEntry 59 = .ok (.isub, 1) := by decide +kernel
theorem dX4_putEntry_60 : decode cX4_putEntry 60 = .ok (.invokevirtual 80, 3) := by decide +kernel
theorem dX4_putEntry_63 : decode cX4_putEntry 63 = .ok (.aload_n 0, 1) := by decide +kernel
theorem dX4_putEntry_64 : decode cX4_putEntry 64 = .ok (.iload_n 1, 1) := by decide +kernel
theorem dX4_putEntry_65 : decode cX4_putEntry 65 = .ok (.iload 4, 2) := by decide +kernel
theorem dX4_putEntry_67 : decode cX4_putEntry 67 = .ok (.iconst 1, 1) := by decide +kernel
theorem dX4_putEntry_68 : decode cX4_putEntry 68 = .ok (.isub, 1) := by decide +kernel
theorem dX4_putEntry_69 : decode cX4_putEntry 69 = .ok (.invokevirtual 73, 3) := by decide +kernel
theorem dX4_putEntry_72 : decode cX4_putEntry 72 = .ok (.invokevirtual 83, 3) := by decide +kernel
theorem dX4_putEntry_75 : decode cX4_putEntry 75 = .ok (.iinc 4 (-1), 3) := by decide +kernel
theorem dX4_putEntry_78 : decode cX4_putEntry 78 = .ok (.goto (-46), 3) := by decide +kernel
theorem dX4_putEntry_81 : decode cX4_putEntry 81 = .ok (.aload_n 0, 1) := by decide +kernel
theorem dX4_putEntry_82 : decode cX4_putEntry 82 = .ok (.iload_n 1, 1) := by decide +kernel
theorem dX4_putEntry_83 : decode cX4_putEntry 83 = .ok (.iload 4, 2) := by decide +kernel
theorem dX4_putEntry_85 : decode cX4_putEntry 85 = .ok (.iload_n 2, 1) := by decide +kernel
theorem dX4_putEntry_86 : decode cX4_putEntry 86 = .ok (.iload_n 3, 1) := by decide +kernel
theorem dX4_putEntry_87 : decode cX4_putEntry 87 = .ok (.invokevirtual 83, 3) := by decide +kernel
theorem dX4_putEntry_90 : decode cX4_putEntry 90 = .ok (.return_, 1) := by decide +kernel
def f_X4_putEntry (u0 : S1) (p1 : Int32) (p2 : Int32) (p3 : Int32) : Option (S1) := bn (f_X4_sizeOf u0 p1) (fun z_1 => bn (f_X4_isInRange p1) (fun z_2 => jn (some (u0)) (fun k21_3 => if z_2 = 0 then k21_3 else if z_1 < 8 then chk (inb p1 32) (bv (st u0 5 p1 (z_1 + 1)) (fun u_6 => qj2 (fun (r32_7 : Int32 → S1 → Option (S1)) (y32_7_4 : Int32) (u32_7_0 : S1) => jn (bn (f_X4_setEntry u32_7_0 p1 y32_7_4 p2 p3) (fun z_9 => some (z_9))) (fun k81_8 => if y32_7_4 ≤ 0 then k81_8 else bn (f_X4_entryName u32_7_0 p1 (y32_7_4 - 1)) (fun z_11 => if z_11 ≤ p2 then k81_8 else bn (f_X4_entryName u32_7_0 p1 (y32_7_4 - 1)) (fun z_13 => bn (f_X4_entryThing u32_7_0 p1 (y32_7_4 - 1)) (fun z_14 => bn (f_X4_setEntry u32_7_0 p1 y32_7_4 z_13 z_14) (fun z_15 => r32_7 (y32_7_4 + (-1)) z_15)))))) (fun k32_7 => k32_7 z_1 u_6))) else k21_3)))
def rmX4_putEntry : Room := { frames := 2, cells := 0, slots := 0, locals := 46 }
set_option maxHeartbeats 4000000 in
set_option maxRecDepth 100000 in
theorem c_X4_putEntry (l : Launch) (D : va_G) (cI cZ cJ cT : ClassId) (a0 : Nat → Nat) (sz : Nat) (u0 : S1) (p1 : Int32) (p2 : Int32) (p3 : Int32) (o : S1) (hf : f_X4_putEntry u0 p1 p2 p3 = some o) : Met l yX4_putEntry wsX4_putEntry rmX4_putEntry (va_Pc [.ref (a0 0), .int p1, .int p2, .int p3] (PW D cls (tys cI cZ cJ cT) ((wX4 cI cZ a0 u0)) sz)) (QWv D cls ((wX4 cI cZ a0 o)) (va_A ((wX4 cI cZ a0 u0)) sz)) 0 0 (va_A ((wX4 cI cZ a0 u0)) sz) := by
  refine Met.ofW (cc := cX4_putEntry) (maxL := 5) (ret := none) (by decide) rfl ?_
  intro p e s m args below meth c s₁ B hml hv
  obtain ⟨hav, hsz, hP, hK, hD0⟩ := hv
  have hx := B.exec
  have hb := B.bytes
  have hr := B.returns
  have hlocks := B.notSynchronized
  have hts := atoms_spec (ws := wsX4_putEntry) B.pre
  have hown : s.vm.findClass RX4 = some m.cls := findClass_of_methodNamed B.named
  have i4 : ∀ w ∈ wsX40, w ∈ wsX4_putEntry := fun w h => List.mem_cons_of_mem _ (List.mem_append_right _ h)
  have hk27 := hts (.fieldLink RX4 27 "Inodery$Tree" "sizes" "[I") (by decide +kernel)
  subst hsz
  have hD := hD0.self (sz := s.heap.size)
  generalize hAe : va_A ((wX4 cI cZ a0 u0)) s.heap.size = A at hD ⊢
  have hA : ∀ q : Nat, s.heap.size ≤ q → A q := fun q h => by rw [← hAe]; exact Or.inr h
  have hS : va_S A s.heap s.heap [] := va_S.rf
  have hDD : ∀ w0 : S1, va_D A ((wX4 cI cZ a0 w0)) := fun _ => D_same (w := (wX4 cI cZ a0 u0)) rfl hD
  refine Wq (fun Q hQ => ?_)
  refine W_entry hav (Nat.le_of_ble_eq_true rfl) (fun ls hl => ?_)
  have hl : lv_has ls 5 [(0, .ref (a0 0)), (1, .int p1), (2, .int p2), (3, .int p3)] := hl
  unfold f_X4_putEntry at hf
  refine W_heap hP hS (fun H locs hP hS => ?_)
  refine lv_aload_n hx hb dX4_putEntry_0 rfl (lv_at hl 0 rfl) ?_
  refine lv_iload_n hx hb dX4_putEntry_1 rfl (lv_at hl 1 rfl) ?_
  obtain ⟨z_1, hz_1, hf⟩ := bn_some hf
  refine cRV (As := [.int p1]) (rest := []) ⟨hx, hb, hml, hown, hts⟩ (c_X4_sizeOf l D cI cZ cJ cT a0 u0 p1 z_1 hz_1) (cwV 1 hts gX4_putEntry_X4_sizeOf rfl rfl rfl (by decide +kernel) ⟨Nat.le_of_ble_eq_true rfl, Nat.le_of_ble_eq_true rfl⟩) hP hK (va_recv hK hP (ci := 4) (q0 := 0) rfl rfl) rfl rfl hl.1 (Nat.le_of_ble_eq_true rfl) dX4_putEntry_2 ⟨Nat.le_of_ble_eq_true rfl, Nat.le_of_ble_eq_true rfl⟩ ?_
  refine lv_istore (lv' := [(4, .int z_1), (0, .ref (a0 0)), (1, .int p1), (2, .int p2), (3, .int p3)]) hx hb dX4_putEntry_5 hl (by decide) rfl (fun ls hl => ?_)
  refine lv_iload_n hx hb dX4_putEntry_7 rfl (lv_at hl 2 rfl) ?_
  obtain ⟨z_2, hz_2, hf⟩ := bn_some hf
  refine c0S (As := [.int p1]) (rest := []) ⟨hx, hb, hml, hown, hts⟩ (c_X4_isInRange l D cI cZ cJ cT p1 z_2 hz_2) (va_cwS 1 hts gX4_putEntry_X4_isInRange rfl rfl rfl (by decide +kernel) ⟨Nat.le_of_ble_eq_true rfl, Nat.le_of_ble_eq_true rfl⟩) rfl rfl hl.1 (Nat.le_of_ble_eq_true rfl) dX4_putEntry_8 ⟨Nat.le_of_ble_eq_true rfl, Nat.le_of_ble_eq_true rfl⟩ ?_
  obtain ⟨k21_3, hk21_3, hf⟩ := jn_some hf
  have j21_3 : ∀ (H : Heap) (locs : List Loc) (ls : Array Slot), k21_3 = some o → va_P D cls (wX4 cI cZ a0 u0) H → va_S A s.heap H locs → lv_has ls 5 [] → W p l e (headSpec wsX4_putEntry rmX4_putEntry).room s m args below meth c H locs 0 0 Q (F0 m 21 ls []) := by
    intro H locs ls hf hP hS hl
    have hf := qa0 hk21_3 hf
    have eo := Option.some.inj hf
    have hP : va_P D cls (wX4 cI cZ a0 o) H := by rw [← eo]; exact hP
    rw [hQ]
    exact W.vret hx hb hr (fun t ht hW => ⟨⟨(), rfl, trivial, P_at ht hP⟩, hS.F ht⟩) hS.2.2 dX4_putEntry_21 hlocks
  refine lv_if_eq (tgt := 21) hx hb dX4_putEntry_11 (by decide) (fun c_4 => ?_) (fun c_4 => ?_)
  · have hf := ite_t hf c_4
    exact j21_3 _ _ _ hf hP hS (lv_sub hl [] rfl)
  · have hf := ite_f hf c_4
    refine lv_iload hx hb dX4_putEntry_14 (lv_at hl 0 rfl) ?_
    refine lv_bipush (v := 8) hx hb dX4_putEntry_16 (by decide) ?_
    refine lv_icmp_lt (tgt := 22) hx hb dX4_putEntry_18 (by decide) (fun c_5 => ?_) (fun c_5 => ?_)
    · have hf := ite_t hf c_5
      refine lv_aload_n hx hb dX4_putEntry_22 rfl (lv_at hl 1 rfl) ?_
      refine va_get (D := D) (ci := 4) (v := .ref (a0 6)) (C := RX4) (T := TX4) (N := 12) hx hb hts i4 hown hK hP 0 rfl rfl 5 (by decide) hk27 (fun _ h9 => h9) rfl dX4_putEntry_23 ?_
      refine lv_iload_n hx hb dX4_putEntry_26 rfl (lv_at hl 2 rfl) ?_
      refine lv_iload hx hb dX4_putEntry_27 (lv_at hl 0 rfl) ?_
      refine lv_iconst (v := 1) hx hb dX4_putEntry_29 (by decide) ?_
      refine lv_iadd hx hb dX4_putEntry_30 ?_
      obtain ⟨hi, hf⟩ := chk_some hf
      obtain ⟨u_6, hu_6, hf⟩ := bv_some hf
      refine va_iast hx hb hK hP (hDD u0) hS 6 0 rfl rfl (inb_in hi) dX4_putEntry_31 (fun H locs hP _ hS => ?_)
      have hP : va_P D cls (wX4 cI cZ a0 u_6) H := by rw [hu_6]; exact hP
      obtain ⟨G32_7, hG32_7, hf⟩ := qj2_some hf
      have j32_7 : ∀ (n : Nat) (y32_7_4 : Int32) (u32_7_0 : S1) (H : Heap) (locs : List Loc) (ls : Array Slot), ql2 G32_7 n y32_7_4 u32_7_0 = some o → va_P D cls (wX4 cI cZ a0 u32_7_0) H → va_S A s.heap H locs → lv_has ls 5 [(0, .ref (a0 0)), (1, .int p1), (2, .int p2), (3, .int p3), (4, .int y32_7_4)] → W p l e (headSpec wsX4_putEntry rmX4_putEntry).room s m args below meth c H locs 0 0 Q (F0 m 32 ls []) := by
        intro n
        induction n with
        | zero => intro y32_7_4 u32_7_0 H locs ls hf hP hS hl; exact (ql2_z hf).elim
        | succ n ih32_7 =>
          intro y32_7_4 u32_7_0 H locs ls hf hP hS hl
          have hf := ql2_s hG32_7 hf
          obtain ⟨r32_7, hr32_7⟩ : ∃ z, z = ql2 G32_7 n := ⟨_, rfl⟩
          rw [← hr32_7] at hf ih32_7
          refine lv_iload hx hb dX4_putEntry_32 (lv_at hl 4 rfl) ?_
          obtain ⟨k81_8, hk81_8, hf⟩ := jn_some hf
          have j81_8 : ∀ (H : Heap) (locs : List Loc) (ls : Array Slot), k81_8 = some o → va_P D cls (wX4 cI cZ a0 u32_7_0) H → va_S A s.heap H locs → lv_has ls 5 [(0, .ref (a0 0)), (1, .int p1), (2, .int p2), (3, .int p3), (4, .int y32_7_4)] → W p l e (headSpec wsX4_putEntry rmX4_putEntry).room s m args below meth c H locs 0 0 Q (F0 m 81 ls []) := by
            intro H locs ls hf hP hS hl
            have hf := qa0 hk81_8 hf
            refine lv_aload_n hx hb dX4_putEntry_81 rfl (lv_at hl 0 rfl) ?_
            refine lv_iload_n hx hb dX4_putEntry_82 rfl (lv_at hl 1 rfl) ?_
            refine lv_iload hx hb dX4_putEntry_83 (lv_at hl 4 rfl) ?_
            refine lv_iload_n hx hb dX4_putEntry_85 rfl (lv_at hl 2 rfl) ?_
            refine lv_iload_n hx hb dX4_putEntry_86 rfl (lv_at hl 3 rfl) ?_
            obtain ⟨z_9, hz_9, hf⟩ := bn_some hf
            refine cWVv (As := [.int p1, .int y32_7_4, .int p2, .int p3]) (rest := []) ⟨hx, hb, hml, hown, hts⟩ (c_X4_setEntry l D cI cZ cJ cT a0 H.size u32_7_0 p1 y32_7_4 p2 p3 z_9 hz_9) (cwV 4 hts gX4_putEntry_X4_setEntry rfl rfl rfl (by decide +kernel) ⟨Nat.le_of_ble_eq_true rfl, Nat.le_of_ble_eq_true rfl⟩) hP hK (hDD u32_7_0) hS (own_free (hDD u32_7_0) hS hA) (va_recv hK hP (ci := 4) (q0 := 0) rfl rfl) rfl rfl hl.1 (Nat.le_of_ble_eq_true rfl) dX4_putEntry_87 ⟨Nat.le_of_ble_eq_true rfl, Nat.le_of_ble_eq_true rfl⟩ (fun H1 locs hP1 hk1 hS => ?_)
            have hP : va_P D cls (wX4 cI cZ a0 z_9) H1 := hP1
            clear hP1 hk1
            generalize H1 = H at hP hS ⊢
            have eo := Option.some.inj hf
            have hP : va_P D cls (wX4 cI cZ a0 o) H := by rw [← eo]; exact hP
            rw [hQ]
            exact W.vret hx hb hr (fun t ht hW => ⟨⟨(), rfl, trivial, P_at ht hP⟩, hS.F ht⟩) hS.2.2 dX4_putEntry_90 hlocks
          refine lv_if_le (tgt := 81) hx hb dX4_putEntry_34 (by decide) (fun c_10 => ?_) (fun c_10 => ?_)
          · have hf := ite_t hf c_10
            exact j81_8 _ _ _ hf hP hS (lv_sub hl [0, 1, 2, 3, 4] rfl)
          · have hf := ite_f hf c_10
            refine lv_aload_n hx hb dX4_putEntry_37 rfl (lv_at hl 0 rfl) ?_
            refine lv_iload_n hx hb dX4_putEntry_38 rfl (lv_at hl 1 rfl) ?_
            refine lv_iload hx hb dX4_putEntry_39 (lv_at hl 4 rfl) ?_
            refine lv_iconst (v := 1) hx hb dX4_putEntry_41 (by decide) ?_
            refine lv_isub hx hb dX4_putEntry_42 ?_
            obtain ⟨z_11, hz_11, hf⟩ := bn_some hf
            refine cRV (As := [.int p1, .int (y32_7_4 - 1)]) (rest := []) ⟨hx, hb, hml, hown, hts⟩ (c_X4_entryName l D cI cZ cJ cT a0 u32_7_0 p1 (y32_7_4 - 1) z_11 hz_11) (cwV 2 hts gX4_putEntry_X4_entryName rfl rfl rfl (by decide +kernel) ⟨Nat.le_of_ble_eq_true rfl, Nat.le_of_ble_eq_true rfl⟩) hP hK (va_recv hK hP (ci := 4) (q0 := 0) rfl rfl) rfl rfl hl.1 (Nat.le_of_ble_eq_true rfl) dX4_putEntry_43 ⟨Nat.le_of_ble_eq_true rfl, Nat.le_of_ble_eq_true rfl⟩ ?_
            refine lv_iload_n hx hb dX4_putEntry_46 rfl (lv_at hl 2 rfl) ?_
            refine lv_icmp_le (tgt := 81) hx hb dX4_putEntry_47 (by decide) (fun c_12 => ?_) (fun c_12 => ?_)
            · have hf := ite_t hf c_12
              exact j81_8 _ _ _ hf hP hS (lv_sub hl [0, 1, 2, 3, 4] rfl)
            · have hf := ite_f hf c_12
              refine lv_aload_n hx hb dX4_putEntry_50 rfl (lv_at hl 0 rfl) ?_
              refine lv_iload_n hx hb dX4_putEntry_51 rfl (lv_at hl 1 rfl) ?_
              refine lv_iload hx hb dX4_putEntry_52 (lv_at hl 4 rfl) ?_
              refine lv_aload_n hx hb dX4_putEntry_54 rfl (lv_at hl 0 rfl) ?_
              refine lv_iload_n hx hb dX4_putEntry_55 rfl (lv_at hl 1 rfl) ?_
              refine lv_iload hx hb dX4_putEntry_56 (lv_at hl 4 rfl) ?_
              refine lv_iconst (v := 1) hx hb dX4_putEntry_58 (by decide) ?_
              refine lv_isub hx hb dX4_putEntry_59 ?_
              obtain ⟨z_13, hz_13, hf⟩ := bn_some hf
              refine cRV (As := [.int p1, .int (y32_7_4 - 1)]) (rest := [.int y32_7_4, .int p1, .ref (a0 0)]) ⟨hx, hb, hml, hown, hts⟩ (c_X4_entryName l D cI cZ cJ cT a0 u32_7_0 p1 (y32_7_4 - 1) z_13 hz_13) (cwV 2 hts gX4_putEntry_X4_entryName rfl rfl rfl (by decide +kernel) ⟨Nat.le_of_ble_eq_true rfl, Nat.le_of_ble_eq_true rfl⟩) hP hK (va_recv hK hP (ci := 4) (q0 := 0) rfl rfl) rfl rfl hl.1 (Nat.le_of_ble_eq_true rfl) dX4_putEntry_60 ⟨Nat.le_of_ble_eq_true rfl, Nat.le_of_ble_eq_true rfl⟩ ?_
              refine lv_aload_n hx hb dX4_putEntry_63 rfl (lv_at hl 0 rfl) ?_
              refine lv_iload_n hx hb dX4_putEntry_64 rfl (lv_at hl 1 rfl) ?_
              refine lv_iload hx hb dX4_putEntry_65 (lv_at hl 4 rfl) ?_
              refine lv_iconst (v := 1) hx hb dX4_putEntry_67 (by decide) ?_
              refine lv_isub hx hb dX4_putEntry_68 ?_
              obtain ⟨z_14, hz_14, hf⟩ := bn_some hf
              refine cRV (As := [.int p1, .int (y32_7_4 - 1)]) (rest := [.int z_13, .int y32_7_4, .int p1, .ref (a0 0)]) ⟨hx, hb, hml, hown, hts⟩ (c_X4_entryThing l D cI cZ cJ cT a0 u32_7_0 p1 (y32_7_4 - 1) z_14 hz_14) (cwV 2 hts gX4_putEntry_X4_entryThing rfl rfl rfl (by decide +kernel) ⟨Nat.le_of_ble_eq_true rfl, Nat.le_of_ble_eq_true rfl⟩) hP hK (va_recv hK hP (ci := 4) (q0 := 0) rfl rfl) rfl rfl hl.1 (Nat.le_of_ble_eq_true rfl) dX4_putEntry_69 ⟨Nat.le_of_ble_eq_true rfl, Nat.le_of_ble_eq_true rfl⟩ ?_
              obtain ⟨z_15, hz_15, hf⟩ := bn_some hf
              refine cWVv (As := [.int p1, .int y32_7_4, .int z_13, .int z_14]) (rest := []) ⟨hx, hb, hml, hown, hts⟩ (c_X4_setEntry l D cI cZ cJ cT a0 H.size u32_7_0 p1 y32_7_4 z_13 z_14 z_15 hz_15) (cwV 4 hts gX4_putEntry_X4_setEntry rfl rfl rfl (by decide +kernel) ⟨Nat.le_of_ble_eq_true rfl, Nat.le_of_ble_eq_true rfl⟩) hP hK (hDD u32_7_0) hS (own_free (hDD u32_7_0) hS hA) (va_recv hK hP (ci := 4) (q0 := 0) rfl rfl) rfl rfl hl.1 (Nat.le_of_ble_eq_true rfl) dX4_putEntry_72 ⟨Nat.le_of_ble_eq_true rfl, Nat.le_of_ble_eq_true rfl⟩ (fun H1 locs hP1 hk1 hS => ?_)
              have hP : va_P D cls (wX4 cI cZ a0 z_15) H1 := hP1
              clear hP1 hk1
              generalize H1 = H at hP hS ⊢
              refine lv_iinc (v := y32_7_4 + (-1)) (lv' := [(4, .int (y32_7_4 + (-1))), (0, .ref (a0 0)), (1, .int p1), (2, .int p2), (3, .int p3)]) hx hb dX4_putEntry_75 hl (k := 4) rfl rfl (by decide) rfl (fun ls hl => ?_)
              refine lv_goto (tgt := 32) hx hb dX4_putEntry_78 (by decide) ?_
              exact ih32_7 _ _ _ _ _ hf hP hS (lv_sub hl [1, 2, 3, 4, 0] rfl)
      exact j32_7 4096 _ _ _ _ _ hf hP hS (lv_sub hl [1, 2, 3, 4, 0] rfl)
    · have hf := ite_f hf c_5
      exact j21_3 _ _ _ hf hP hS (lv_sub hl [] rfl)
set_option maxRecDepth 20000 in
theorem ggX4_takeEntry_X4_entryName : GoodIn wsX4_takeEntry wsX4_entryName := goodIn_r _ [18, 7, 8, 9, 10, 5, 11, 1, 28, 29, 30, 31, 32, 33, 34, 35, 36, 37, 38, 39] (by decide +kernel) (by decide +kernel)
set_option maxRecDepth 20000 in
theorem gX4_takeEntry_X4_entryName : GoodIn wsX4_takeEntry (wsV RX4 80 RX4 yX4_entryName wsX4_entryName) := goodIn_app (goodIn_of _ (by decide +kernel)) ggX4_takeEntry_X4_entryName
set_option maxRecDepth 20000 in
theorem ggX4_takeEntry_X4_entryThing : GoodIn wsX4_takeEntry wsX4_entryThing := goodIn_r _ [22, 23, 8, 9, 10, 5, 11, 1, 28, 29, 30, 31, 32, 33, 34, 35, 36, 37, 38, 39] (by decide +kernel) (by decide +kernel)
set_option maxRecDepth 20000 in
theorem gX4_takeEntry_X4_entryThing : GoodIn wsX4_takeEntry (wsV RX4 73 RX4 yX4_entryThing wsX4_entryThing) := goodIn_app (goodIn_of _ (by decide +kernel)) ggX4_takeEntry_X4_entryThing
set_option maxRecDepth 20000 in
theorem ggX4_takeEntry_X4_isInRange : GoodIn wsX4_takeEntry wsX4_isInRange := goodIn_r _ [14] (by decide +kernel) (by decide +kernel)
set_option maxRecDepth 20000 in
theorem gX4_takeEntry_X4_isInRange : GoodIn wsX4_takeEntry (va_wsS RX4 54 yX4_isInRange wsX4_isInRange) := goodIn_app (goodIn_of _ (by decide +kernel)) ggX4_takeEntry_X4_isInRange
set_option maxRecDepth 20000 in
theorem ggX4_takeEntry_X4_placeOf : GoodIn wsX4_takeEntry wsX4_placeOf := goodIn_r _ [6, 7, 8, 9, 10, 5, 11, 1, 28, 29, 30, 31, 32, 33, 34, 35, 36, 37, 38, 39] (by decide +kernel) (by decide +kernel)
set_option maxRecDepth 20000 in
theorem gX4_takeEntry_X4_placeOf : GoodIn wsX4_takeEntry (wsV RX4 69 RX4 yX4_placeOf wsX4_placeOf) := goodIn_app (goodIn_of _ (by decide +kernel)) ggX4_takeEntry_X4_placeOf
set_option maxRecDepth 20000 in
theorem ggX4_takeEntry_X4_setEntry : GoodIn wsX4_takeEntry wsX4_setEntry := goodIn_r _ [27, 7, 23, 8, 9, 10, 5, 11, 1, 28, 29, 30, 31, 32, 33, 34, 35, 36, 37, 38, 39] (by decide +kernel) (by decide +kernel)
set_option maxRecDepth 20000 in
theorem gX4_takeEntry_X4_setEntry : GoodIn wsX4_takeEntry (wsV RX4 83 RX4 yX4_setEntry wsX4_setEntry) := goodIn_app (goodIn_of _ (by decide +kernel)) ggX4_takeEntry_X4_setEntry
theorem dX4_takeEntry_0 : decode cX4_takeEntry 0 = .ok (.aload_n 0, 1) := by decide +kernel
theorem dX4_takeEntry_1 : decode cX4_takeEntry 1 = .ok (.iload_n 1, 1) := by decide +kernel
theorem dX4_takeEntry_2 : decode cX4_takeEntry 2 = .ok (.iload_n 2, 1) := by decide +kernel
theorem dX4_takeEntry_3 : decode cX4_takeEntry 3 = .ok (.invokevirtual 69, 3) := by decide +kernel
theorem dX4_takeEntry_6 : decode cX4_takeEntry 6 = .ok (.istore_n 3, 1) := by decide +kernel
theorem dX4_takeEntry_7 : decode cX4_takeEntry 7 = .ok (.iload_n 3, 1) := by decide +kernel
theorem dX4_takeEntry_8 : decode cX4_takeEntry 8 = .ok (.iconst (-1), 1) := by decide +kernel
theorem dX4_takeEntry_9 : decode cX4_takeEntry 9 = .ok (.if_icmp .eq 10, 3) := by decide +kernel
theorem dX4_takeEntry_12 : decode cX4_takeEntry 12 = .ok (.iload_n 1, 1) := by decide +kernel
theorem dX4_takeEntry_13 : decode cX4_takeEntry 13 = .ok (.invokestatic 54, 3) := by decide +kernel
theorem dX4_takeEntry_16 : decode cX4_takeEntry 16 = .ok (.ifCond .ne 4, 3) := by decide +kernel
theorem dX4_takeEntry_19 : decode cX4_takeEntry 19 = .ok (.return_, 1) := by decide +kernel
theorem dX4_takeEntry_20 : decode cX4_takeEntry 20 = .ok (.iload_n 3, 1) := by decide +kernel
theorem dX4_takeEntry_21 : decode cX4_takeEntry 21 = .ok (.iconst 1, 1) := by decide +kernel
theorem dX4_takeEntry_22 : decode cX4_takeEntry 22 = .ok (.iadd, 1) := by decide +kernel
theorem dX4_takeEntry_23 : decode cX4_takeEntry 23 = .ok (.istore 4, 2) := by decide +kernel
theorem dX4_takeEntry_25 : decode cX4_takeEntry 25 = .ok (.iload 4, 2) := by decide +kernel
theorem dX4_takeEntry_27 : decode cX4_takeEntry 27 = .ok (.aload_n 0, 1) := by decide +kernel
theorem dX4_takeEntry_28 : decode cX4_takeEntry 28 = .ok (.getfield 27, 3) := by decide +kernel
theorem dX4_takeEntry_31 : decode cX4_takeEntry 31 = .ok (.iload_n 1, 1) := by decide +kernel
theorem dX4_takeEntry_32 : decode cX4_takeEntry 32 = .ok (.iaload, 1) := by decide +kernel
theorem dX4_takeEntry_33 : decode cX4_takeEntry 33 = .ok (.if_icmp .ge 32, 3) := by decide +kernel
theorem dX4_takeEntry_36 : decode cX4_takeEntry 36 = .ok (.aload_n 0, 1) := by decide +kernel
theorem dX4_takeEntry_37 : decode cX4_takeEntry 37 = .ok (.iload_n 1, 1) := by decide +kernel
theorem dX4_takeEntry_38 : decode cX4_takeEntry 38 = .ok (.iload 4, 2) := by decide +kernel
theorem dX4_takeEntry_40 : decode cX4_takeEntry 40 = .ok (.iconst 1, 1) := by decide +kernel
theorem dX4_takeEntry_41 : decode cX4_takeEntry 41 = .ok (.isub, 1) := by decide +kernel
theorem dX4_takeEntry_42 : decode cX4_takeEntry 42 = .ok (.aload_n 0, 1) := by decide +kernel
theorem dX4_takeEntry_43 : decode cX4_takeEntry 43 = .ok (.iload_n 1, 1) := by decide +kernel
theorem dX4_takeEntry_44 : decode cX4_takeEntry 44 = .ok (.iload 4, 2) := by decide +kernel
theorem dX4_takeEntry_46 : decode cX4_takeEntry 46 = .ok (.invokevirtual 80, 3) := by decide +kernel
theorem dX4_takeEntry_49 : decode cX4_takeEntry 49 = .ok (.aload_n 0, 1) := by decide +kernel
theorem dX4_takeEntry_50 : decode cX4_takeEntry 50 = .ok (.iload_n 1, 1) := by decide +kernel
theorem dX4_takeEntry_51 : decode cX4_takeEntry 51 = .ok (.iload 4, 2) := by decide +kernel
theorem dX4_takeEntry_53 : decode cX4_takeEntry 53 = .ok (.invokevirtual 73, 3) := by decide +kernel
theorem dX4_takeEntry_56 : decode cX4_takeEntry 56 = .ok (.invokevirtual 83, 3) := by decide +kernel
theorem dX4_takeEntry_59 : decode cX4_takeEntry 59 = .ok (.iinc 4 1, 3) := by decide +kernel
theorem dX4_takeEntry_62 : decode cX4_takeEntry 62 = .ok (.goto (-37), 3) := by decide +kernel
theorem dX4_takeEntry_65 : decode cX4_takeEntry 65 = .ok (.aload_n 0, 1) := by decide +kernel
theorem dX4_takeEntry_66 : decode cX4_takeEntry 66 = .ok (.getfield 27, 3) := by decide +kernel
theorem dX4_takeEntry_69 : decode cX4_takeEntry 69 = .ok (.iload_n 1, 1) := by decide +kernel
theorem dX4_takeEntry_70 : decode cX4_takeEntry 70 = .ok (.dup2, 1) := by decide +kernel
theorem dX4_takeEntry_71 : decode cX4_takeEntry 71 = .ok (.iaload, 1) := by decide +kernel
theorem dX4_takeEntry_72 : decode cX4_takeEntry 72 = .ok (.iconst 1, 1) := by decide +kernel
theorem dX4_takeEntry_73 : decode cX4_takeEntry 73 = .ok (.isub, 1) := by decide +kernel
theorem dX4_takeEntry_74 : decode cX4_takeEntry 74 = .ok (.iastore, 1) := by decide +kernel
theorem dX4_takeEntry_75 : decode cX4_takeEntry 75 = .ok (.return_, 1) := by decide +kernel
def f_X4_takeEntry (u0 : S1) (p1 : Int32) (p2 : Int32) : Option (S1) := bn (f_X4_placeOf u0 p1 p2) (fun z_1 => jn (some (u0)) (fun k19_2 => if z_1 = (-1) then k19_2 else bn (f_X4_isInRange p1) (fun z_4 => if z_4 = 0 then k19_2 else qj2 (fun (r25_6 : Int32 → S1 → Option (S1)) (y25_6_4 : Int32) (u25_6_0 : S1) => chk (inb p1 32) (if (u25_6_0 5 (p1).toNatClampNeg) ≤ y25_6_4 then chk (inb p1 32) (chk (inb p1 32) (bv (st u25_6_0 5 p1 ((u25_6_0 5 (p1).toNatClampNeg) - 1)) (fun u_8 => some (u_8)))) else bn (f_X4_entryName u25_6_0 p1 y25_6_4) (fun z_9 => bn (f_X4_entryThing u25_6_0 p1 y25_6_4) (fun z_10 => bn (f_X4_setEntry u25_6_0 p1 (y25_6_4 - 1) z_9 z_10) (fun z_11 => r25_6 (y25_6_4 + 1) z_11))))) (fun k25_6 => k25_6 (z_1 + 1) u0))))
def rmX4_takeEntry : Room := { frames := 2, cells := 0, slots := 0, locals := 46 }
set_option maxHeartbeats 4000000 in
set_option maxRecDepth 100000 in
theorem c_X4_takeEntry (l : Launch) (D : va_G) (cI cZ cJ cT : ClassId) (a0 : Nat → Nat) (sz : Nat) (u0 : S1) (p1 : Int32) (p2 : Int32) (o : S1) (hf : f_X4_takeEntry u0 p1 p2 = some o) : Met l yX4_takeEntry wsX4_takeEntry rmX4_takeEntry (va_Pc [.ref (a0 0), .int p1, .int p2] (PW D cls (tys cI cZ cJ cT) ((wX4 cI cZ a0 u0)) sz)) (QWv D cls ((wX4 cI cZ a0 o)) (va_A ((wX4 cI cZ a0 u0)) sz)) 0 0 (va_A ((wX4 cI cZ a0 u0)) sz) := by
  refine Met.ofW (cc := cX4_takeEntry) (maxL := 5) (ret := none) (by decide) rfl ?_
  intro p e s m args below meth c s₁ B hml hv
  obtain ⟨hav, hsz, hP, hK, hD0⟩ := hv
  have hx := B.exec
  have hb := B.bytes
  have hr := B.returns
  have hlocks := B.notSynchronized
  have hts := atoms_spec (ws := wsX4_takeEntry) B.pre
  have hown : s.vm.findClass RX4 = some m.cls := findClass_of_methodNamed B.named
  have i4 : ∀ w ∈ wsX40, w ∈ wsX4_takeEntry := fun w h => List.mem_cons_of_mem _ (List.mem_append_right _ h)
  have hk27 := hts (.fieldLink RX4 27 "Inodery$Tree" "sizes" "[I") (by decide +kernel)
  subst hsz
  have hD := hD0.self (sz := s.heap.size)
  generalize hAe : va_A ((wX4 cI cZ a0 u0)) s.heap.size = A at hD ⊢
  have hA : ∀ q : Nat, s.heap.size ≤ q → A q := fun q h => by rw [← hAe]; exact Or.inr h
  have hS : va_S A s.heap s.heap [] := va_S.rf
  have hDD : ∀ w0 : S1, va_D A ((wX4 cI cZ a0 w0)) := fun _ => D_same (w := (wX4 cI cZ a0 u0)) rfl hD
  refine Wq (fun Q hQ => ?_)
  refine W_entry hav (Nat.le_of_ble_eq_true rfl) (fun ls hl => ?_)
  have hl : lv_has ls 5 [(0, .ref (a0 0)), (1, .int p1), (2, .int p2)] := hl
  unfold f_X4_takeEntry at hf
  refine W_heap hP hS (fun H locs hP hS => ?_)
  refine lv_aload_n hx hb dX4_takeEntry_0 rfl (lv_at hl 0 rfl) ?_
  refine lv_iload_n hx hb dX4_takeEntry_1 rfl (lv_at hl 1 rfl) ?_
  refine lv_iload_n hx hb dX4_takeEntry_2 rfl (lv_at hl 2 rfl) ?_
  obtain ⟨z_1, hz_1, hf⟩ := bn_some hf
  refine cRV (As := [.int p1, .int p2]) (rest := []) ⟨hx, hb, hml, hown, hts⟩ (c_X4_placeOf l D cI cZ cJ cT a0 u0 p1 p2 z_1 hz_1) (cwV 2 hts gX4_takeEntry_X4_placeOf rfl rfl rfl (by decide +kernel) ⟨Nat.le_of_ble_eq_true rfl, Nat.le_of_ble_eq_true rfl⟩) hP hK (va_recv hK hP (ci := 4) (q0 := 0) rfl rfl) rfl rfl hl.1 (Nat.le_of_ble_eq_true rfl) dX4_takeEntry_3 ⟨Nat.le_of_ble_eq_true rfl, Nat.le_of_ble_eq_true rfl⟩ ?_
  refine lv_istore_n (lv' := [(3, .int z_1), (0, .ref (a0 0)), (1, .int p1), (2, .int p2)]) hx hb dX4_takeEntry_6 rfl hl (by decide) rfl (fun ls hl => ?_)
  refine lv_iload_n hx hb dX4_takeEntry_7 rfl (lv_at hl 0 rfl) ?_
  refine lv_iconst (v := (-1)) hx hb dX4_takeEntry_8 (by decide) ?_
  obtain ⟨k19_2, hk19_2, hf⟩ := jn_some hf
  have j19_2 : ∀ (H : Heap) (locs : List Loc) (ls : Array Slot), k19_2 = some o → va_P D cls (wX4 cI cZ a0 u0) H → va_S A s.heap H locs → lv_has ls 5 [] → W p l e (headSpec wsX4_takeEntry rmX4_takeEntry).room s m args below meth c H locs 0 0 Q (F0 m 19 ls []) := by
    intro H locs ls hf hP hS hl
    have hf := qa0 hk19_2 hf
    have eo := Option.some.inj hf
    have hP : va_P D cls (wX4 cI cZ a0 o) H := by rw [← eo]; exact hP
    rw [hQ]
    exact W.vret hx hb hr (fun t ht hW => ⟨⟨(), rfl, trivial, P_at ht hP⟩, hS.F ht⟩) hS.2.2 dX4_takeEntry_19 hlocks
  refine lv_icmp_eq (tgt := 19) hx hb dX4_takeEntry_9 (by decide) (fun c_3 => ?_) (fun c_3 => ?_)
  · have hf := ite_t hf c_3
    exact j19_2 _ _ _ hf hP hS (lv_sub hl [] rfl)
  · have hf := ite_f hf c_3
    refine lv_iload_n hx hb dX4_takeEntry_12 rfl (lv_at hl 2 rfl) ?_
    obtain ⟨z_4, hz_4, hf⟩ := bn_some hf
    refine c0S (As := [.int p1]) (rest := []) ⟨hx, hb, hml, hown, hts⟩ (c_X4_isInRange l D cI cZ cJ cT p1 z_4 hz_4) (va_cwS 1 hts gX4_takeEntry_X4_isInRange rfl rfl rfl (by decide +kernel) ⟨Nat.le_of_ble_eq_true rfl, Nat.le_of_ble_eq_true rfl⟩) rfl rfl hl.1 (Nat.le_of_ble_eq_true rfl) dX4_takeEntry_13 ⟨Nat.le_of_ble_eq_true rfl, Nat.le_of_ble_eq_true rfl⟩ ?_
    refine lv_if_ne (tgt := 20) hx hb dX4_takeEntry_16 (by decide) (fun c_5 => ?_) (fun c_5 => ?_)
    · have hf := ite_f hf c_5
      refine lv_iload_n hx hb dX4_takeEntry_20 rfl (lv_at hl 0 rfl) ?_
      refine lv_iconst (v := 1) hx hb dX4_takeEntry_21 (by decide) ?_
      refine lv_iadd hx hb dX4_takeEntry_22 ?_
      refine lv_istore (lv' := [(4, .int (z_1 + 1)), (3, .int z_1), (0, .ref (a0 0)), (1, .int p1), (2, .int p2)]) hx hb dX4_takeEntry_23 hl (by decide) rfl (fun ls hl => ?_)
      obtain ⟨G25_6, hG25_6, hf⟩ := qj2_some hf
      have j25_6 : ∀ (n : Nat) (y25_6_4 : Int32) (u25_6_0 : S1) (H : Heap) (locs : List Loc) (ls : Array Slot), ql2 G25_6 n y25_6_4 u25_6_0 = some o → va_P D cls (wX4 cI cZ a0 u25_6_0) H → va_S A s.heap H locs → lv_has ls 5 [(0, .ref (a0 0)), (1, .int p1), (4, .int y25_6_4)] → W p l e (headSpec wsX4_takeEntry rmX4_takeEntry).room s m args below meth c H locs 0 0 Q (F0 m 25 ls []) := by
        intro n
        induction n with
        | zero => intro y25_6_4 u25_6_0 H locs ls hf hP hS hl; exact (ql2_z hf).elim
        | succ n ih25_6 =>
          intro y25_6_4 u25_6_0 H locs ls hf hP hS hl
          have hf := ql2_s hG25_6 hf
          obtain ⟨r25_6, hr25_6⟩ : ∃ z, z = ql2 G25_6 n := ⟨_, rfl⟩
          rw [← hr25_6] at hf ih25_6
          refine lv_iload hx hb dX4_takeEntry_25 (lv_at hl 2 rfl) ?_
          refine lv_aload_n hx hb dX4_takeEntry_27 rfl (lv_at hl 0 rfl) ?_
          refine va_get (D := D) (ci := 4) (v := .ref (a0 6)) (C := RX4) (T := TX4) (N := 12) hx hb hts i4 hown hK hP 0 rfl rfl 5 (by decide) hk27 (fun _ h9 => h9) rfl dX4_takeEntry_28 ?_
          refine lv_iload_n hx hb dX4_takeEntry_31 rfl (lv_at hl 1 rfl) ?_
          obtain ⟨hi, hf⟩ := chk_some hf
          refine va_iald hx hb hK hP 6 0 rfl rfl (inb_in hi) dX4_takeEntry_32 ?_
          refine lv_icmp_ge (tgt := 65) hx hb dX4_takeEntry_33 (by decide) (fun c_7 => ?_) (fun c_7 => ?_)
          · have hf := ite_t hf c_7
            refine lv_aload_n hx hb dX4_takeEntry_65 rfl (lv_at hl 0 rfl) ?_
            refine va_get (D := D) (ci := 4) (v := .ref (a0 6)) (C := RX4) (T := TX4) (N := 12) hx hb hts i4 hown hK hP 0 rfl rfl 5 (by decide) hk27 (fun _ h9 => h9) rfl dX4_takeEntry_66 ?_
            refine lv_iload_n hx hb dX4_takeEntry_69 rfl (lv_at hl 1 rfl) ?_
            refine lv_dup2_11 hx hb dX4_takeEntry_70 rfl rfl ?_
            obtain ⟨hi, hf⟩ := chk_some hf
            refine va_iald hx hb hK hP 6 0 rfl rfl (inb_in hi) dX4_takeEntry_71 ?_
            refine lv_iconst (v := 1) hx hb dX4_takeEntry_72 (by decide) ?_
            refine lv_isub hx hb dX4_takeEntry_73 ?_
            obtain ⟨hi, hf⟩ := chk_some hf
            obtain ⟨u_8, hu_8, hf⟩ := bv_some hf
            refine va_iast hx hb hK hP (hDD u25_6_0) hS 6 0 rfl rfl (inb_in hi) dX4_takeEntry_74 (fun H locs hP _ hS => ?_)
            have hP : va_P D cls (wX4 cI cZ a0 u_8) H := by rw [hu_8]; exact hP
            have eo := Option.some.inj hf
            have hP : va_P D cls (wX4 cI cZ a0 o) H := by rw [← eo]; exact hP
            rw [hQ]
            exact W.vret hx hb hr (fun t ht hW => ⟨⟨(), rfl, trivial, P_at ht hP⟩, hS.F ht⟩) hS.2.2 dX4_takeEntry_75 hlocks
          · have hf := ite_f hf c_7
            refine lv_aload_n hx hb dX4_takeEntry_36 rfl (lv_at hl 0 rfl) ?_
            refine lv_iload_n hx hb dX4_takeEntry_37 rfl (lv_at hl 1 rfl) ?_
            refine lv_iload hx hb dX4_takeEntry_38 (lv_at hl 2 rfl) ?_
            refine lv_iconst (v := 1) hx hb dX4_takeEntry_40 (by decide) ?_
            refine lv_isub hx hb dX4_takeEntry_41 ?_
            refine lv_aload_n hx hb dX4_takeEntry_42 rfl (lv_at hl 0 rfl) ?_
            refine lv_iload_n hx hb dX4_takeEntry_43 rfl (lv_at hl 1 rfl) ?_
            refine lv_iload hx hb dX4_takeEntry_44 (lv_at hl 2 rfl) ?_
            obtain ⟨z_9, hz_9, hf⟩ := bn_some hf
            refine cRV (As := [.int p1, .int y25_6_4]) (rest := [.int (y25_6_4 - 1), .int p1, .ref (a0 0)]) ⟨hx, hb, hml, hown, hts⟩ (c_X4_entryName l D cI cZ cJ cT a0 u25_6_0 p1 y25_6_4 z_9 hz_9) (cwV 2 hts gX4_takeEntry_X4_entryName rfl rfl rfl (by decide +kernel) ⟨Nat.le_of_ble_eq_true rfl, Nat.le_of_ble_eq_true rfl⟩) hP hK (va_recv hK hP (ci := 4) (q0 := 0) rfl rfl) rfl rfl hl.1 (Nat.le_of_ble_eq_true rfl) dX4_takeEntry_46 ⟨Nat.le_of_ble_eq_true rfl, Nat.le_of_ble_eq_true rfl⟩ ?_
            refine lv_aload_n hx hb dX4_takeEntry_49 rfl (lv_at hl 0 rfl) ?_
            refine lv_iload_n hx hb dX4_takeEntry_50 rfl (lv_at hl 1 rfl) ?_
            refine lv_iload hx hb dX4_takeEntry_51 (lv_at hl 2 rfl) ?_
            obtain ⟨z_10, hz_10, hf⟩ := bn_some hf
            refine cRV (As := [.int p1, .int y25_6_4]) (rest := [.int z_9, .int (y25_6_4 - 1), .int p1, .ref (a0 0)]) ⟨hx, hb, hml, hown, hts⟩ (c_X4_entryThing l D cI cZ cJ cT a0 u25_6_0 p1 y25_6_4 z_10 hz_10) (cwV 2 hts gX4_takeEntry_X4_entryThing rfl rfl rfl (by decide +kernel) ⟨Nat.le_of_ble_eq_true rfl, Nat.le_of_ble_eq_true rfl⟩) hP hK (va_recv hK hP (ci := 4) (q0 := 0) rfl rfl) rfl rfl hl.1 (Nat.le_of_ble_eq_true rfl) dX4_takeEntry_53 ⟨Nat.le_of_ble_eq_true rfl, Nat.le_of_ble_eq_true rfl⟩ ?_
            obtain ⟨z_11, hz_11, hf⟩ := bn_some hf
            refine cWVv (As := [.int p1, .int (y25_6_4 - 1), .int z_9, .int z_10]) (rest := []) ⟨hx, hb, hml, hown, hts⟩ (c_X4_setEntry l D cI cZ cJ cT a0 H.size u25_6_0 p1 (y25_6_4 - 1) z_9 z_10 z_11 hz_11) (cwV 4 hts gX4_takeEntry_X4_setEntry rfl rfl rfl (by decide +kernel) ⟨Nat.le_of_ble_eq_true rfl, Nat.le_of_ble_eq_true rfl⟩) hP hK (hDD u25_6_0) hS (own_free (hDD u25_6_0) hS hA) (va_recv hK hP (ci := 4) (q0 := 0) rfl rfl) rfl rfl hl.1 (Nat.le_of_ble_eq_true rfl) dX4_takeEntry_56 ⟨Nat.le_of_ble_eq_true rfl, Nat.le_of_ble_eq_true rfl⟩ (fun H1 locs hP1 hk1 hS => ?_)
            have hP : va_P D cls (wX4 cI cZ a0 z_11) H1 := hP1
            clear hP1 hk1
            generalize H1 = H at hP hS ⊢
            refine lv_iinc (v := y25_6_4 + 1) (lv' := [(4, .int (y25_6_4 + 1)), (0, .ref (a0 0)), (1, .int p1)]) hx hb dX4_takeEntry_59 hl (k := 2) rfl rfl (by decide) rfl (fun ls hl => ?_)
            refine lv_goto (tgt := 25) hx hb dX4_takeEntry_62 (by decide) ?_
            exact ih25_6 _ _ _ _ _ hf hP hS (lv_sub hl [1, 2, 0] rfl)
      exact j25_6 4096 _ _ _ _ _ hf hP hS (lv_sub hl [2, 3, 0] rfl)
    · have hf := ite_t hf c_5
      exact j19_2 _ _ _ hf hP hS (lv_sub hl [] rfl)
set_option maxRecDepth 20000 in
theorem ggX4_countEntriesOf_X4_entryThing : GoodIn wsX4_countEntriesOf wsX4_entryThing := goodIn_r _ [6, 7, 8, 9, 10, 5, 11, 1, 12, 13, 14, 15, 16, 17, 18, 19, 20, 21, 22, 23] (by decide +kernel) (by decide +kernel)
set_option maxRecDepth 20000 in
theorem gX4_countEntriesOf_X4_entryThing : GoodIn wsX4_countEntriesOf (wsV RX4 73 RX4 yX4_entryThing wsX4_entryThing) := goodIn_app (goodIn_of _ (by decide +kernel)) ggX4_countEntriesOf_X4_entryThing
theorem dX4_countEntriesOf_0 : decode cX4_countEntriesOf 0 = .ok (.iconst 0, 1) := by decide +kernel
theorem dX4_countEntriesOf_1 : decode cX4_countEntriesOf 1 = .ok (.istore_n 2, 1) := by decide +kernel
theorem dX4_countEntriesOf_2 : decode cX4_countEntriesOf 2 = .ok (.iconst 0, 1) := by decide +kernel
theorem dX4_countEntriesOf_3 : decode cX4_countEntriesOf 3 = .ok (.istore_n 3, 1) := by decide +kernel
theorem dX4_countEntriesOf_4 : decode cX4_countEntriesOf 4 = .ok (.iload_n 3, 1) := by decide +kernel
theorem dX4_countEntriesOf_5 : decode cX4_countEntriesOf 5 = .ok (.bipush 32, 2) := by decide +kernel
theorem dX4_countEntriesOf_7 : decode cX4_countEntriesOf 7 = .ok (.if_icmp .ge 43, 3) := by decide +kernel
theorem dX4_countEntriesOf_10 : decode cX4_countEntriesOf 10 = .ok (.iconst 0, 1) := by decide +kernel
theorem dX4_countEntriesOf_11 : decode cX4_countEntriesOf 11 = .ok (.istore 4, 2) := by decide +kernel
theorem dX4_countEntriesOf_13 : decode cX4_countEntriesOf 13 = .ok (.iload 4, 2) := by decide +kernel
theorem dX4_countEntriesOf_15 : decode cX4_countEntriesOf 15 = .ok (.aload_n 0, 1) := by decide +kernel
theorem dX4_countEntriesOf_16 : decode cX4_countEntriesOf 16 = .ok (.getfield 27, 3) := by decide +kernel
theorem dX4_countEntriesOf_19 : decode cX4_countEntriesOf 19 = .ok (.iload_n 3, 1) := by decide +kernel
theorem dX4_countEntriesOf_20 : decode cX4_countEntriesOf 20 = .ok (.iaload, 1) := by decide +kernel
theorem dX4_countEntriesOf_21 : decode cX4_countEntriesOf 21 = .ok (.if_icmp .ge 23, 3) := by decide +kernel
theorem dX4_countEntriesOf_24 : decode cX4_countEntriesOf 24 = .ok (.aload_n 0, 1) := by decide +kernel
theorem dX4_countEntriesOf_25 : decode cX4_countEntriesOf 25 = .ok (.iload_n 3, 1) := by decide +kernel
theorem dX4_countEntriesOf_26 : decode cX4_countEntriesOf 26 = .ok (.iload 4, 2) := by decide +kernel
theorem dX4_countEntriesOf_28 : decode cX4_countEntriesOf 28 = .ok (.invokevirtual 73, 3) := by decide +kernel
theorem dX4_countEntriesOf_31 : decode cX4_countEntriesOf 31 = .ok (.iload_n 1, 1) := by decide +kernel
theorem dX4_countEntriesOf_32 : decode cX4_countEntriesOf 32 = .ok (.if_icmp .ne 6, 3) := by decide +kernel
theorem dX4_countEntriesOf_35 : decode cX4_countEntriesOf 35 = .ok (.iinc 2 1, 3) := by decide +kernel
theorem dX4_countEntriesOf_38 : decode cX4_countEntriesOf 38 = .ok (.iinc 4 1, 3) := by decide +kernel
theorem dX4_countEntriesOf_41 : decode cX4_countEntriesOf 41 = .ok (.goto (-28), 3) := by decide +kernel
theorem dX4_countEntriesOf_44 : decode cX4_countEntriesOf 44 = .ok (.iinc 3 1, 3) := by decide +kernel
theorem dX4_countEntriesOf_47 : decode cX4_countEntriesOf 47 = .ok (.goto (-43), 3) := by decide +kernel
theorem dX4_countEntriesOf_50 : decode cX4_countEntriesOf 50 = .ok (.iload_n 2, 1) := by decide +kernel
theorem dX4_countEntriesOf_51 : decode cX4_countEntriesOf 51 = .ok (.ireturn, 1) := by decide +kernel
def f_X4_countEntriesOf (u0 : S1) (p1 : Int32) : Option (Int32) := qj2 (fun (r4_1 : Int32 → Int32 → Option (Int32)) (y4_1_2 : Int32) (y4_1_3 : Int32) => if 32 ≤ y4_1_3 then some y4_1_2 else qj3 (fun (r13_3 : Int32 → Int32 → Int32 → Option (Int32)) (y13_3_2 : Int32) (y13_3_3 : Int32) (y13_3_4 : Int32) => chk (inb y13_3_3 32) (if (u0 5 (y13_3_3).toNatClampNeg) ≤ y13_3_4 then r4_1 y13_3_2 (y13_3_3 + 1) else bn (f_X4_entryThing u0 y13_3_3 y13_3_4) (fun z_5 => jn (fun (y38_6_2 : Int32) => r13_3 y38_6_2 y13_3_3 (y13_3_4 + 1)) (fun k38_6 => if z_5 = p1 then k38_6 (y13_3_2 + 1) else k38_6 y13_3_2)))) (fun k13_3 => k13_3 y4_1_2 y4_1_3 0)) (fun k4_1 => k4_1 0 0)
def rmX4_countEntriesOf : Room := { frames := 2, cells := 0, slots := 0, locals := 44 }
set_option maxHeartbeats 4000000 in
set_option maxRecDepth 100000 in
theorem c_X4_countEntriesOf (l : Launch) (D : va_G) (cI cZ cJ cT : ClassId) (a0 : Nat → Nat) (u0 : S1) (p1 : Int32) (o : Int32) (hf : f_X4_countEntriesOf u0 p1 = some o) : Met l yX4_countEntriesOf wsX4_countEntriesOf rmX4_countEntriesOf (va_Pc [.ref (a0 0), .int p1] (PR D cls (tys cI cZ cJ cT) ((wX4 cI cZ a0 u0)))) (QR o) 0 0 (fun _ => False) := by
  refine Met.ofW (cc := cX4_countEntriesOf) (maxL := 5) (ret := (some .int)) (by decide) rfl ?_
  intro p e s m args below meth c s₁ B hml hv
  obtain ⟨hav, hP, hK⟩ := hv
  have hx := B.exec
  have hb := B.bytes
  have hr := B.returns
  have hlocks := B.notSynchronized
  have hts := atoms_spec (ws := wsX4_countEntriesOf) B.pre
  have hown : s.vm.findClass RX4 = some m.cls := findClass_of_methodNamed B.named
  have i4 : ∀ w ∈ wsX40, w ∈ wsX4_countEntriesOf := fun w h => List.mem_cons_of_mem _ (List.mem_append_right _ h)
  have hk27 := hts (.fieldLink RX4 27 "Inodery$Tree" "sizes" "[I") (by decide +kernel)
  refine Wq (fun Q hQ => ?_)
  refine W_entry hav (Nat.le_of_ble_eq_true rfl) (fun ls hl => ?_)
  have hl : lv_has ls 5 [(0, .ref (a0 0)), (1, .int p1)] := hl
  unfold f_X4_countEntriesOf at hf
  refine lv_iconst (v := 0) hx hb dX4_countEntriesOf_0 (by decide) ?_
  refine lv_istore_n (lv' := [(2, .int 0), (0, .ref (a0 0)), (1, .int p1)]) hx hb dX4_countEntriesOf_1 rfl hl (by decide) rfl (fun ls hl => ?_)
  refine lv_iconst (v := 0) hx hb dX4_countEntriesOf_2 (by decide) ?_
  refine lv_istore_n (lv' := [(3, .int 0), (2, .int 0), (0, .ref (a0 0)), (1, .int p1)]) hx hb dX4_countEntriesOf_3 rfl hl (by decide) rfl (fun ls hl => ?_)
  obtain ⟨G4_1, hG4_1, hf⟩ := qj2_some hf
  have j4_1 : ∀ (n : Nat) (y4_1_2 : Int32) (y4_1_3 : Int32) (ls : Array Slot), ql2 G4_1 n y4_1_2 y4_1_3 = some o → lv_has ls 5 [(0, .ref (a0 0)), (1, .int p1), (2, .int y4_1_2), (3, .int y4_1_3)] → W p l e (headSpec wsX4_countEntriesOf rmX4_countEntriesOf).room s m args below meth c s.heap [] 0 0 Q (F0 m 4 ls []) := by
    intro n
    induction n with
    | zero => intro y4_1_2 y4_1_3 ls hf hl; exact (ql2_z hf).elim
    | succ n ih4_1 =>
      intro y4_1_2 y4_1_3 ls hf hl
      have hf := ql2_s hG4_1 hf
      obtain ⟨r4_1, hr4_1⟩ : ∃ z, z = ql2 G4_1 n := ⟨_, rfl⟩
      rw [← hr4_1] at hf ih4_1
      refine lv_iload_n hx hb dX4_countEntriesOf_4 rfl (lv_at hl 3 rfl) ?_
      refine lv_bipush (v := 32) hx hb dX4_countEntriesOf_5 (by decide) ?_
      refine lv_icmp_ge (tgt := 50) hx hb dX4_countEntriesOf_7 (by decide) (fun c_2 => ?_) (fun c_2 => ?_)
      · have hf := ite_t hf c_2
        refine lv_iload_n hx hb dX4_countEntriesOf_50 rfl (lv_at hl 2 rfl) ?_
        rw [hQ]
        exact W.iret hx hb hr (fun t ht hW => ⟨_, rfl, Option.some.inj hf, ht⟩) (fun _ h => nomatch h) dX4_countEntriesOf_51 hlocks
      · have hf := ite_f hf c_2
        refine lv_iconst (v := 0) hx hb dX4_countEntriesOf_10 (by decide) ?_
        refine lv_istore (lv' := [(4, .int 0), (0, .ref (a0 0)), (1, .int p1), (2, .int y4_1_2), (3, .int y4_1_3)]) hx hb dX4_countEntriesOf_11 hl (by decide) rfl (fun ls hl => ?_)
        obtain ⟨G13_3, hG13_3, hf⟩ := qj3_some hf
        have j13_3 : ∀ (n : Nat) (y13_3_2 : Int32) (y13_3_3 : Int32) (y13_3_4 : Int32) (ls : Array Slot), ql3 G13_3 n y13_3_2 y13_3_3 y13_3_4 = some o → lv_has ls 5 [(0, .ref (a0 0)), (1, .int p1), (2, .int y13_3_2), (3, .int y13_3_3), (4, .int y13_3_4)] → W p l e (headSpec wsX4_countEntriesOf rmX4_countEntriesOf).room s m args below meth c s.heap [] 0 0 Q (F0 m 13 ls []) := by
          intro n
          induction n with
          | zero => intro y13_3_2 y13_3_3 y13_3_4 ls hf hl; exact (ql3_z hf).elim
          | succ n ih13_3 =>
            intro y13_3_2 y13_3_3 y13_3_4 ls hf hl
            have hf := ql3_s hG13_3 hf
            obtain ⟨r13_3, hr13_3⟩ : ∃ z, z = ql3 G13_3 n := ⟨_, rfl⟩
            rw [← hr13_3] at hf ih13_3
            refine lv_iload hx hb dX4_countEntriesOf_13 (lv_at hl 4 rfl) ?_
            refine lv_aload_n hx hb dX4_countEntriesOf_15 rfl (lv_at hl 0 rfl) ?_
            refine va_get (D := D) (ci := 4) (v := .ref (a0 6)) (C := RX4) (T := TX4) (N := 12) hx hb hts i4 hown hK hP 0 rfl rfl 5 (by decide) hk27 (fun _ h9 => h9) rfl dX4_countEntriesOf_16 ?_
            refine lv_iload_n hx hb dX4_countEntriesOf_19 rfl (lv_at hl 3 rfl) ?_
            obtain ⟨hi, hf⟩ := chk_some hf
            refine va_iald hx hb hK hP 6 0 rfl rfl (inb_in hi) dX4_countEntriesOf_20 ?_
            refine lv_icmp_ge (tgt := 44) hx hb dX4_countEntriesOf_21 (by decide) (fun c_4 => ?_) (fun c_4 => ?_)
            · have hf := ite_t hf c_4
              refine lv_iinc (v := y13_3_3 + 1) (lv' := [(3, .int (y13_3_3 + 1)), (0, .ref (a0 0)), (1, .int p1), (2, .int y13_3_2), (4, .int y13_3_4)]) hx hb dX4_countEntriesOf_44 hl (k := 3) rfl rfl (by decide) rfl (fun ls hl => ?_)
              refine lv_goto (tgt := 4) hx hb dX4_countEntriesOf_47 (by decide) ?_
              exact ih4_1 _ _ _ hf (lv_sub hl [1, 2, 3, 0] rfl)
            · have hf := ite_f hf c_4
              refine lv_aload_n hx hb dX4_countEntriesOf_24 rfl (lv_at hl 0 rfl) ?_
              refine lv_iload_n hx hb dX4_countEntriesOf_25 rfl (lv_at hl 3 rfl) ?_
              refine lv_iload hx hb dX4_countEntriesOf_26 (lv_at hl 4 rfl) ?_
              obtain ⟨z_5, hz_5, hf⟩ := bn_some hf
              refine cRV (As := [.int y13_3_3, .int y13_3_4]) (rest := []) ⟨hx, hb, hml, hown, hts⟩ (c_X4_entryThing l D cI cZ cJ cT a0 u0 y13_3_3 y13_3_4 z_5 hz_5) (cwV 2 hts gX4_countEntriesOf_X4_entryThing rfl rfl rfl (by decide +kernel) ⟨Nat.le_of_ble_eq_true rfl, Nat.le_of_ble_eq_true rfl⟩) hP hK (va_recv hK hP (ci := 4) (q0 := 0) rfl rfl) rfl rfl hl.1 (Nat.le_of_ble_eq_true rfl) dX4_countEntriesOf_28 ⟨Nat.le_of_ble_eq_true rfl, Nat.le_of_ble_eq_true rfl⟩ ?_
              refine lv_iload_n hx hb dX4_countEntriesOf_31 rfl (lv_at hl 1 rfl) ?_
              obtain ⟨k38_6, hk38_6, hf⟩ := jn_some hf
              have j38_6 : ∀ (y38_6_2 : Int32) (ls : Array Slot), k38_6 y38_6_2 = some o → lv_has ls 5 [(0, .ref (a0 0)), (1, .int p1), (2, .int y38_6_2), (3, .int y13_3_3), (4, .int y13_3_4)] → W p l e (headSpec wsX4_countEntriesOf rmX4_countEntriesOf).room s m args below meth c s.heap [] 0 0 Q (F0 m 38 ls []) := by
                intro y38_6_2 ls hf hl
                have hf := qa1 hk38_6 hf
                refine lv_iinc (v := y13_3_4 + 1) (lv' := [(4, .int (y13_3_4 + 1)), (0, .ref (a0 0)), (1, .int p1), (2, .int y38_6_2), (3, .int y13_3_3)]) hx hb dX4_countEntriesOf_38 hl (k := 4) rfl rfl (by decide) rfl (fun ls hl => ?_)
                refine lv_goto (tgt := 13) hx hb dX4_countEntriesOf_41 (by decide) ?_
                exact ih13_3 _ _ _ _ hf (lv_sub hl [1, 2, 3, 4, 0] rfl)
              refine lv_icmp_ne (tgt := 38) hx hb dX4_countEntriesOf_32 (by decide) (fun c_7 => ?_) (fun c_7 => ?_)
              · have hf := ite_f hf c_7
                exact j38_6 _ _ hf (lv_sub hl [0, 1, 2, 3, 4] rfl)
              · have hf := ite_t hf c_7
                refine lv_iinc (v := y13_3_2 + 1) (lv' := [(2, .int (y13_3_2 + 1)), (0, .ref (a0 0)), (1, .int p1), (3, .int y13_3_3), (4, .int y13_3_4)]) hx hb dX4_countEntriesOf_35 hl (k := 2) rfl rfl (by decide) rfl (fun ls hl => ?_)
                exact j38_6 _ _ hf (lv_sub hl [1, 2, 0, 3, 4] rfl)
        exact j13_3 4096 _ _ _ _ hf (lv_sub hl [1, 2, 3, 4, 0] rfl)
  exact j4_1 4096 _ _ _ hf (lv_sub hl [2, 3, 1, 0] rfl)
set_option maxRecDepth 20000 in
theorem ggX4_folderWith_X4_entryThing : GoodIn wsX4_folderWith wsX4_entryThing := goodIn_r _ [6, 7, 8, 9, 10, 5, 11, 1, 12, 13, 14, 15, 16, 17, 18, 19, 20, 21, 22, 23] (by decide +kernel) (by decide +kernel)
set_option maxRecDepth 20000 in
theorem gX4_folderWith_X4_entryThing : GoodIn wsX4_folderWith (wsV RX4 73 RX4 yX4_entryThing wsX4_entryThing) := goodIn_app (goodIn_of _ (by decide +kernel)) ggX4_folderWith_X4_entryThing
theorem dX4_folderWith_0 : decode cX4_folderWith 0 = .ok (.iconst 0, 1) := by decide +kernel
theorem dX4_folderWith_1 : decode cX4_folderWith 1 = .ok (.istore_n 2, 1) := by decide +kernel
theorem dX4_folderWith_2 : decode cX4_folderWith 2 = .ok (.iload_n 2, 1) := by decide +kernel
theorem dX4_folderWith_3 : decode cX4_folderWith 3 = .ok (.bipush 32, 2) := by decide +kernel
theorem dX4_folderWith_5 : decode cX4_folderWith 5 = .ok (.if_icmp .ge 39, 3) := by decide +kernel
theorem dX4_folderWith_8 : decode cX4_folderWith 8 = .ok (.iconst 0, 1) := by decide +kernel
theorem dX4_folderWith_9 : decode cX4_folderWith 9 = .ok (.istore_n 3, 1) := by decide +kernel
theorem dX4_folderWith_10 : decode cX4_folderWith 10 = .ok (.iload_n 3, 1) := by decide +kernel
theorem dX4_folderWith_11 : decode cX4_folderWith 11 = .ok (.aload_n 0, 1) := by decide +kernel
theorem dX4_folderWith_12 : decode cX4_folderWith 12 = .ok (.getfield 27, 3) := by decide +kernel
theorem dX4_folderWith_15 : decode cX4_folderWith 15 = .ok (.iload_n 2, 1) := by decide +kernel
theorem dX4_folderWith_16 : decode cX4_folderWith 16 = .ok (.iaload, 1) := by decide +kernel
theorem dX4_folderWith_17 : decode cX4_folderWith 17 = .ok (.if_icmp .ge 21, 3) := by decide +kernel
theorem dX4_folderWith_20 : decode cX4_folderWith 20 = .ok (.aload_n 0, 1) := by decide +kernel
theorem dX4_folderWith_21 : decode cX4_folderWith 21 = .ok (.iload_n 2, 1) := by decide +kernel
theorem dX4_folderWith_22 : decode cX4_folderWith 22 = .ok (.iload_n 3, 1) := by decide +kernel
theorem dX4_folderWith_23 : decode cX4_folderWith 23 = .ok (.invokevirtual 73, 3) := by decide +kernel
theorem dX4_folderWith_26 : decode cX4_folderWith 26 = .ok (.iload_n 1, 1) := by decide +kernel
theorem dX4_folderWith_27 : decode cX4_folderWith 27 = .ok (.if_icmp .ne 5, 3) := by decide +kernel
theorem dX4_folderWith_30 : decode cX4_folderWith 30 = .ok (.iload_n 2, 1) := by decide +kernel
theorem dX4_folderWith_31 : decode cX4_folderWith 31 = .ok (.ireturn, 1) := by decide +kernel
theorem dX4_folderWith_32 : decode cX4_folderWith 32 = .ok (.iinc 3 1, 3) := by decide +kernel
theorem dX4_folderWith_35 : decode cX4_folderWith 35 = .ok (.goto (-25), 3) := by decide +kernel
theorem dX4_folderWith_38 : decode cX4_folderWith 38 = .ok (.iinc 2 1, 3) := by decide +kernel
theorem dX4_folderWith_41 : decode cX4_folderWith 41 = .ok (.goto (-39), 3) := by decide +kernel
theorem dX4_folderWith_44 : decode cX4_folderWith 44 = .ok (.iconst (-1), 1) := by decide +kernel
theorem dX4_folderWith_45 : decode cX4_folderWith 45 = .ok (.ireturn, 1) := by decide +kernel
def f_X4_folderWith (u0 : S1) (p1 : Int32) : Option (Int32) := qj1 (fun (r2_1 : Int32 → Option (Int32)) (y2_1_2 : Int32) => if 32 ≤ y2_1_2 then some (-1) else qj2 (fun (r10_3 : Int32 → Int32 → Option (Int32)) (y10_3_2 : Int32) (y10_3_3 : Int32) => chk (inb y10_3_2 32) (if (u0 5 (y10_3_2).toNatClampNeg) ≤ y10_3_3 then r2_1 (y10_3_2 + 1) else bn (f_X4_entryThing u0 y10_3_2 y10_3_3) (fun z_5 => if z_5 = p1 then some y10_3_2 else r10_3 y10_3_2 (y10_3_3 + 1)))) (fun k10_3 => k10_3 y2_1_2 0)) (fun k2_1 => k2_1 0)
def rmX4_folderWith : Room := { frames := 2, cells := 0, slots := 0, locals := 44 }
set_option maxHeartbeats 4000000 in
set_option maxRecDepth 100000 in
theorem c_X4_folderWith (l : Launch) (D : va_G) (cI cZ cJ cT : ClassId) (a0 : Nat → Nat) (u0 : S1) (p1 : Int32) (o : Int32) (hf : f_X4_folderWith u0 p1 = some o) : Met l yX4_folderWith wsX4_folderWith rmX4_folderWith (va_Pc [.ref (a0 0), .int p1] (PR D cls (tys cI cZ cJ cT) ((wX4 cI cZ a0 u0)))) (QR o) 0 0 (fun _ => False) := by
  refine Met.ofW (cc := cX4_folderWith) (maxL := 4) (ret := (some .int)) (by decide) rfl ?_
  intro p e s m args below meth c s₁ B hml hv
  obtain ⟨hav, hP, hK⟩ := hv
  have hx := B.exec
  have hb := B.bytes
  have hr := B.returns
  have hlocks := B.notSynchronized
  have hts := atoms_spec (ws := wsX4_folderWith) B.pre
  have hown : s.vm.findClass RX4 = some m.cls := findClass_of_methodNamed B.named
  have i4 : ∀ w ∈ wsX40, w ∈ wsX4_folderWith := fun w h => List.mem_cons_of_mem _ (List.mem_append_right _ h)
  have hk27 := hts (.fieldLink RX4 27 "Inodery$Tree" "sizes" "[I") (by decide +kernel)
  refine Wq (fun Q hQ => ?_)
  refine W_entry hav (Nat.le_of_ble_eq_true rfl) (fun ls hl => ?_)
  have hl : lv_has ls 4 [(0, .ref (a0 0)), (1, .int p1)] := hl
  unfold f_X4_folderWith at hf
  refine lv_iconst (v := 0) hx hb dX4_folderWith_0 (by decide) ?_
  refine lv_istore_n (lv' := [(2, .int 0), (0, .ref (a0 0)), (1, .int p1)]) hx hb dX4_folderWith_1 rfl hl (by decide) rfl (fun ls hl => ?_)
  obtain ⟨G2_1, hG2_1, hf⟩ := qj1_some hf
  have j2_1 : ∀ (n : Nat) (y2_1_2 : Int32) (ls : Array Slot), ql1 G2_1 n y2_1_2 = some o → lv_has ls 4 [(0, .ref (a0 0)), (1, .int p1), (2, .int y2_1_2)] → W p l e (headSpec wsX4_folderWith rmX4_folderWith).room s m args below meth c s.heap [] 0 0 Q (F0 m 2 ls []) := by
    intro n
    induction n with
    | zero => intro y2_1_2 ls hf hl; exact (ql1_z hf).elim
    | succ n ih2_1 =>
      intro y2_1_2 ls hf hl
      have hf := ql1_s hG2_1 hf
      obtain ⟨r2_1, hr2_1⟩ : ∃ z, z = ql1 G2_1 n := ⟨_, rfl⟩
      rw [← hr2_1] at hf ih2_1
      refine lv_iload_n hx hb dX4_folderWith_2 rfl (lv_at hl 2 rfl) ?_
      refine lv_bipush (v := 32) hx hb dX4_folderWith_3 (by decide) ?_
      refine lv_icmp_ge (tgt := 44) hx hb dX4_folderWith_5 (by decide) (fun c_2 => ?_) (fun c_2 => ?_)
      · have hf := ite_t hf c_2
        refine lv_iconst (v := (-1)) hx hb dX4_folderWith_44 (by decide) ?_
        rw [hQ]
        exact W.iret hx hb hr (fun t ht hW => ⟨_, rfl, Option.some.inj hf, ht⟩) (fun _ h => nomatch h) dX4_folderWith_45 hlocks
      · have hf := ite_f hf c_2
        refine lv_iconst (v := 0) hx hb dX4_folderWith_8 (by decide) ?_
        refine lv_istore_n (lv' := [(3, .int 0), (0, .ref (a0 0)), (1, .int p1), (2, .int y2_1_2)]) hx hb dX4_folderWith_9 rfl hl (by decide) rfl (fun ls hl => ?_)
        obtain ⟨G10_3, hG10_3, hf⟩ := qj2_some hf
        have j10_3 : ∀ (n : Nat) (y10_3_2 : Int32) (y10_3_3 : Int32) (ls : Array Slot), ql2 G10_3 n y10_3_2 y10_3_3 = some o → lv_has ls 4 [(0, .ref (a0 0)), (1, .int p1), (2, .int y10_3_2), (3, .int y10_3_3)] → W p l e (headSpec wsX4_folderWith rmX4_folderWith).room s m args below meth c s.heap [] 0 0 Q (F0 m 10 ls []) := by
          intro n
          induction n with
          | zero => intro y10_3_2 y10_3_3 ls hf hl; exact (ql2_z hf).elim
          | succ n ih10_3 =>
            intro y10_3_2 y10_3_3 ls hf hl
            have hf := ql2_s hG10_3 hf
            obtain ⟨r10_3, hr10_3⟩ : ∃ z, z = ql2 G10_3 n := ⟨_, rfl⟩
            rw [← hr10_3] at hf ih10_3
            refine lv_iload_n hx hb dX4_folderWith_10 rfl (lv_at hl 3 rfl) ?_
            refine lv_aload_n hx hb dX4_folderWith_11 rfl (lv_at hl 0 rfl) ?_
            refine va_get (D := D) (ci := 4) (v := .ref (a0 6)) (C := RX4) (T := TX4) (N := 12) hx hb hts i4 hown hK hP 0 rfl rfl 5 (by decide) hk27 (fun _ h9 => h9) rfl dX4_folderWith_12 ?_
            refine lv_iload_n hx hb dX4_folderWith_15 rfl (lv_at hl 2 rfl) ?_
            obtain ⟨hi, hf⟩ := chk_some hf
            refine va_iald hx hb hK hP 6 0 rfl rfl (inb_in hi) dX4_folderWith_16 ?_
            refine lv_icmp_ge (tgt := 38) hx hb dX4_folderWith_17 (by decide) (fun c_4 => ?_) (fun c_4 => ?_)
            · have hf := ite_t hf c_4
              refine lv_iinc (v := y10_3_2 + 1) (lv' := [(2, .int (y10_3_2 + 1)), (0, .ref (a0 0)), (1, .int p1), (3, .int y10_3_3)]) hx hb dX4_folderWith_38 hl (k := 2) rfl rfl (by decide) rfl (fun ls hl => ?_)
              refine lv_goto (tgt := 2) hx hb dX4_folderWith_41 (by decide) ?_
              exact ih2_1 _ _ hf (lv_sub hl [1, 2, 0] rfl)
            · have hf := ite_f hf c_4
              refine lv_aload_n hx hb dX4_folderWith_20 rfl (lv_at hl 0 rfl) ?_
              refine lv_iload_n hx hb dX4_folderWith_21 rfl (lv_at hl 2 rfl) ?_
              refine lv_iload_n hx hb dX4_folderWith_22 rfl (lv_at hl 3 rfl) ?_
              obtain ⟨z_5, hz_5, hf⟩ := bn_some hf
              refine cRV (As := [.int y10_3_2, .int y10_3_3]) (rest := []) ⟨hx, hb, hml, hown, hts⟩ (c_X4_entryThing l D cI cZ cJ cT a0 u0 y10_3_2 y10_3_3 z_5 hz_5) (cwV 2 hts gX4_folderWith_X4_entryThing rfl rfl rfl (by decide +kernel) ⟨Nat.le_of_ble_eq_true rfl, Nat.le_of_ble_eq_true rfl⟩) hP hK (va_recv hK hP (ci := 4) (q0 := 0) rfl rfl) rfl rfl hl.1 (Nat.le_of_ble_eq_true rfl) dX4_folderWith_23 ⟨Nat.le_of_ble_eq_true rfl, Nat.le_of_ble_eq_true rfl⟩ ?_
              refine lv_iload_n hx hb dX4_folderWith_26 rfl (lv_at hl 1 rfl) ?_
              refine lv_icmp_ne (tgt := 32) hx hb dX4_folderWith_27 (by decide) (fun c_6 => ?_) (fun c_6 => ?_)
              · have hf := ite_f hf c_6
                refine lv_iinc (v := y10_3_3 + 1) (lv' := [(3, .int (y10_3_3 + 1)), (0, .ref (a0 0)), (1, .int p1), (2, .int y10_3_2)]) hx hb dX4_folderWith_32 hl (k := 3) rfl rfl (by decide) rfl (fun ls hl => ?_)
                refine lv_goto (tgt := 10) hx hb dX4_folderWith_35 (by decide) ?_
                exact ih10_3 _ _ _ hf (lv_sub hl [1, 2, 3, 0] rfl)
              · have hf := ite_t hf c_6
                refine lv_iload_n hx hb dX4_folderWith_30 rfl (lv_at hl 2 rfl) ?_
                rw [hQ]
                exact W.iret hx hb hr (fun t ht hW => ⟨_, rfl, Option.some.inj hf, ht⟩) (fun _ h => nomatch h) dX4_folderWith_31 hlocks
        exact j10_3 4096 _ _ _ hf (lv_sub hl [1, 2, 3, 0] rfl)
  exact j2_1 4096 _ _ hf (lv_sub hl [1, 2, 0] rfl)
set_option maxRecDepth 20000 in
theorem ggX4_isAtOrBelow_X4_folderWith : GoodIn wsX4_isAtOrBelow wsX4_folderWith := goodIn_r _ [5, 6, 7, 8, 9, 4, 10, 11, 12, 13, 14, 15, 16, 17, 18, 19, 20, 21, 22, 23, 24, 25, 26, 27] (by decide +kernel) (by decide +kernel)
set_option maxRecDepth 20000 in
theorem gX4_isAtOrBelow_X4_folderWith : GoodIn wsX4_isAtOrBelow (wsV RX4 86 RX4 yX4_folderWith wsX4_folderWith) := goodIn_app (goodIn_of _ (by decide +kernel)) ggX4_isAtOrBelow_X4_folderWith
theorem dX4_isAtOrBelow_0 : decode cX4_isAtOrBelow 0 = .ok (.iload_n 1, 1) := by decide +kernel
theorem dX4_isAtOrBelow_1 : decode cX4_isAtOrBelow 1 = .ok (.istore_n 3, 1) := by decide +kernel
theorem dX4_isAtOrBelow_2 : decode cX4_isAtOrBelow 2 = .ok (.iconst 0, 1) := by decide +kernel
theorem dX4_isAtOrBelow_3 : decode cX4_isAtOrBelow 3 = .ok (.istore 4, 2) := by decide +kernel
theorem dX4_isAtOrBelow_5 : decode cX4_isAtOrBelow 5 = .ok (.iload 4, 2) := by decide +kernel
theorem dX4_isAtOrBelow_7 : decode cX4_isAtOrBelow 7 = .ok (.bipush 32, 2) := by decide +kernel
theorem dX4_isAtOrBelow_9 : decode cX4_isAtOrBelow 9 = .ok (.if_icmp .ge 27, 3) := by decide +kernel
theorem dX4_isAtOrBelow_12 : decode cX4_isAtOrBelow 12 = .ok (.iload_n 3, 1) := by decide +kernel
theorem dX4_isAtOrBelow_13 : decode cX4_isAtOrBelow 13 = .ok (.iconst (-1), 1) := by decide +kernel
theorem dX4_isAtOrBelow_14 : decode cX4_isAtOrBelow 14 = .ok (.if_icmp .eq 22, 3) := by decide +kernel
theorem dX4_isAtOrBelow_17 : decode cX4_isAtOrBelow 17 = .ok (.iload_n 3, 1) := by decide +kernel
theorem dX4_isAtOrBelow_18 : decode cX4_isAtOrBelow 18 = .ok (.iload_n 2, 1) := by decide +kernel
theorem dX4_isAtOrBelow_19 : decode cX4_isAtOrBelow 19 = .ok (.if_icmp .ne 5, 3) := by decide +kernel
theorem dX4_isAtOrBelow_22 : decode cX4_isAtOrBelow 22 = .ok (.iconst 1, 1) := by decide +kernel
theorem dX4_isAtOrBelow_23 : decode cX4_isAtOrBelow 23 = .ok (.ireturn, 1) := by decide +kernel
theorem dX4_isAtOrBelow_24 : decode cX4_isAtOrBelow 24 = .ok (.aload_n 0, 1) := by decide +kernel
theorem dX4_isAtOrBelow_25 : decode cX4_isAtOrBelow 25 = .ok (.iload_n 3, 1) := by decide +kernel
theorem dX4_isAtOrBelow_26 : decode cX4_isAtOrBelow 26 = .ok (.invokevirtual 86, 3) := by decide +kernel
theorem dX4_isAtOrBelow_29 : decode cX4_isAtOrBelow 29 = .ok (.istore_n 3, 1) := by decide +kernel
theorem dX4_isAtOrBelow_30 : decode cX4_isAtOrBelow 30 = .ok (.iinc 4 1, 3) := by decide +kernel
theorem dX4_isAtOrBelow_33 : decode cX4_isAtOrBelow 33 = .ok (.goto (-28), 3) := by decide +kernel
theorem dX4_isAtOrBelow_36 : decode cX4_isAtOrBelow 36 = .ok (.iconst 0, 1) := by decide +kernel
theorem dX4_isAtOrBelow_37 : decode cX4_isAtOrBelow 37 = .ok (.ireturn, 1) := by decide +kernel
def f_X4_isAtOrBelow (u0 : S1) (p1 : Int32) (p2 : Int32) : Option (Int32) := qj2 (fun (r5_1 : Int32 → Int32 → Option (Int32)) (y5_1_3 : Int32) (y5_1_4 : Int32) => jn (some 0) (fun k36_2 => if 32 ≤ y5_1_4 then k36_2 else if y5_1_3 = (-1) then k36_2 else if y5_1_3 = p2 then some 1 else bn (f_X4_folderWith u0 y5_1_3) (fun z_6 => r5_1 z_6 (y5_1_4 + 1)))) (fun k5_1 => k5_1 p1 0)
def rmX4_isAtOrBelow : Room := { frames := 3, cells := 0, slots := 0, locals := 67 }
set_option maxHeartbeats 4000000 in
set_option maxRecDepth 100000 in
theorem c_X4_isAtOrBelow (l : Launch) (D : va_G) (cI cZ cJ cT : ClassId) (a0 : Nat → Nat) (u0 : S1) (p1 : Int32) (p2 : Int32) (o : Int32) (hf : f_X4_isAtOrBelow u0 p1 p2 = some o) : Met l yX4_isAtOrBelow wsX4_isAtOrBelow rmX4_isAtOrBelow (va_Pc [.ref (a0 0), .int p1, .int p2] (PR D cls (tys cI cZ cJ cT) ((wX4 cI cZ a0 u0)))) (QR o) 0 0 (fun _ => False) := by
  refine Met.ofW (cc := cX4_isAtOrBelow) (maxL := 5) (ret := (some .boolean)) (by decide) rfl ?_
  intro p e s m args below meth c s₁ B hml hv
  obtain ⟨hav, hP, hK⟩ := hv
  have hx := B.exec
  have hb := B.bytes
  have hr := B.returns
  have hlocks := B.notSynchronized
  have hts := atoms_spec (ws := wsX4_isAtOrBelow) B.pre
  have hown : s.vm.findClass RX4 = some m.cls := findClass_of_methodNamed B.named
  refine Wq (fun Q hQ => ?_)
  refine W_entry hav (Nat.le_of_ble_eq_true rfl) (fun ls hl => ?_)
  have hl : lv_has ls 5 [(0, .ref (a0 0)), (1, .int p1), (2, .int p2)] := hl
  unfold f_X4_isAtOrBelow at hf
  refine lv_iload_n hx hb dX4_isAtOrBelow_0 rfl (lv_at hl 1 rfl) ?_
  refine lv_istore_n (lv' := [(3, .int p1), (0, .ref (a0 0)), (1, .int p1), (2, .int p2)]) hx hb dX4_isAtOrBelow_1 rfl hl (by decide) rfl (fun ls hl => ?_)
  refine lv_iconst (v := 0) hx hb dX4_isAtOrBelow_2 (by decide) ?_
  refine lv_istore (lv' := [(4, .int 0), (3, .int p1), (0, .ref (a0 0)), (1, .int p1), (2, .int p2)]) hx hb dX4_isAtOrBelow_3 hl (by decide) rfl (fun ls hl => ?_)
  obtain ⟨G5_1, hG5_1, hf⟩ := qj2_some hf
  have j5_1 : ∀ (n : Nat) (y5_1_3 : Int32) (y5_1_4 : Int32) (ls : Array Slot), ql2 G5_1 n y5_1_3 y5_1_4 = some o → lv_has ls 5 [(0, .ref (a0 0)), (2, .int p2), (3, .int y5_1_3), (4, .int y5_1_4)] → W p l e (headSpec wsX4_isAtOrBelow rmX4_isAtOrBelow).room s m args below meth c s.heap [] 0 0 Q (F0 m 5 ls []) := by
    intro n
    induction n with
    | zero => intro y5_1_3 y5_1_4 ls hf hl; exact (ql2_z hf).elim
    | succ n ih5_1 =>
      intro y5_1_3 y5_1_4 ls hf hl
      have hf := ql2_s hG5_1 hf
      obtain ⟨r5_1, hr5_1⟩ : ∃ z, z = ql2 G5_1 n := ⟨_, rfl⟩
      rw [← hr5_1] at hf ih5_1
      refine lv_iload hx hb dX4_isAtOrBelow_5 (lv_at hl 3 rfl) ?_
      refine lv_bipush (v := 32) hx hb dX4_isAtOrBelow_7 (by decide) ?_
      obtain ⟨k36_2, hk36_2, hf⟩ := jn_some hf
      have j36_2 : ∀ (ls : Array Slot), k36_2 = some o → lv_has ls 5 [] → W p l e (headSpec wsX4_isAtOrBelow rmX4_isAtOrBelow).room s m args below meth c s.heap [] 0 0 Q (F0 m 36 ls []) := by
        intro ls hf hl
        have hf := qa0 hk36_2 hf
        refine lv_iconst (v := 0) hx hb dX4_isAtOrBelow_36 (by decide) ?_
        rw [hQ]
        exact zretN (v := 0) (v' := 0) hx hb hr rfl (fun t ht hW => ⟨_, rfl, Option.some.inj hf, ht⟩) (fun _ h => nomatch h) dX4_isAtOrBelow_37 hlocks
      refine lv_icmp_ge (tgt := 36) hx hb dX4_isAtOrBelow_9 (by decide) (fun c_3 => ?_) (fun c_3 => ?_)
      · have hf := ite_t hf c_3
        exact j36_2 _ hf (lv_sub hl [] rfl)
      · have hf := ite_f hf c_3
        refine lv_iload_n hx hb dX4_isAtOrBelow_12 rfl (lv_at hl 2 rfl) ?_
        refine lv_iconst (v := (-1)) hx hb dX4_isAtOrBelow_13 (by decide) ?_
        refine lv_icmp_eq (tgt := 36) hx hb dX4_isAtOrBelow_14 (by decide) (fun c_4 => ?_) (fun c_4 => ?_)
        · have hf := ite_t hf c_4
          exact j36_2 _ hf (lv_sub hl [] rfl)
        · have hf := ite_f hf c_4
          refine lv_iload_n hx hb dX4_isAtOrBelow_17 rfl (lv_at hl 2 rfl) ?_
          refine lv_iload_n hx hb dX4_isAtOrBelow_18 rfl (lv_at hl 1 rfl) ?_
          refine lv_icmp_ne (tgt := 24) hx hb dX4_isAtOrBelow_19 (by decide) (fun c_5 => ?_) (fun c_5 => ?_)
          · have hf := ite_f hf c_5
            refine lv_aload_n hx hb dX4_isAtOrBelow_24 rfl (lv_at hl 0 rfl) ?_
            refine lv_iload_n hx hb dX4_isAtOrBelow_25 rfl (lv_at hl 2 rfl) ?_
            obtain ⟨z_6, hz_6, hf⟩ := bn_some hf
            refine cRV (As := [.int y5_1_3]) (rest := []) ⟨hx, hb, hml, hown, hts⟩ (c_X4_folderWith l D cI cZ cJ cT a0 u0 y5_1_3 z_6 hz_6) (cwV 1 hts gX4_isAtOrBelow_X4_folderWith rfl rfl rfl (by decide +kernel) ⟨Nat.le_of_ble_eq_true rfl, Nat.le_of_ble_eq_true rfl⟩) hP hK (va_recv hK hP (ci := 4) (q0 := 0) rfl rfl) rfl rfl hl.1 (Nat.le_of_ble_eq_true rfl) dX4_isAtOrBelow_26 ⟨Nat.le_of_ble_eq_true rfl, Nat.le_of_ble_eq_true rfl⟩ ?_
            refine lv_istore_n (lv' := [(3, .int z_6), (0, .ref (a0 0)), (2, .int p2), (4, .int y5_1_4)]) hx hb dX4_isAtOrBelow_29 rfl hl (by decide) rfl (fun ls hl => ?_)
            refine lv_iinc (v := y5_1_4 + 1) (lv' := [(4, .int (y5_1_4 + 1)), (3, .int z_6), (0, .ref (a0 0)), (2, .int p2)]) hx hb dX4_isAtOrBelow_30 hl (k := 3) rfl rfl (by decide) rfl (fun ls hl => ?_)
            refine lv_goto (tgt := 5) hx hb dX4_isAtOrBelow_33 (by decide) ?_
            exact ih5_1 _ _ _ hf (lv_sub hl [2, 3, 1, 0] rfl)
          · have hf := ite_t hf c_5
            refine lv_iconst (v := 1) hx hb dX4_isAtOrBelow_22 (by decide) ?_
            rw [hQ]
            exact zretN (v := 1) (v' := 1) hx hb hr rfl (fun t ht hW => ⟨_, rfl, Option.some.inj hf, ht⟩) (fun _ h => nomatch h) dX4_isAtOrBelow_23 hlocks
  exact j5_1 4096 _ _ _ hf (lv_sub hl [2, 4, 1, 0] rfl)
set_option maxRecDepth 20000 in
theorem ggX4_pageKindOf_X4_isPageOf : GoodIn wsX4_pageKindOf wsX4_isPageOf := goodIn_r _ [5, 6, 7, 4, 8] (by decide +kernel) (by decide +kernel)
set_option maxRecDepth 20000 in
theorem gX4_pageKindOf_X4_isPageOf : GoodIn wsX4_pageKindOf (va_wsS RX4 89 yX4_isPageOf wsX4_isPageOf) := goodIn_app (goodIn_of _ (by decide +kernel)) ggX4_pageKindOf_X4_isPageOf
theorem dX4_pageKindOf_0 : decode cX4_pageKindOf 0 = .ok (.iload_n 1, 1) := by decide +kernel
theorem dX4_pageKindOf_1 : decode cX4_pageKindOf 1 = .ok (.iload_n 2, 1) := by decide +kernel
theorem dX4_pageKindOf_2 : decode cX4_pageKindOf 2 = .ok (.invokestatic 89, 3) := by decide +kernel
theorem dX4_pageKindOf_5 : decode cX4_pageKindOf 5 = .ok (.ifCond .eq 17, 3) := by decide +kernel
theorem dX4_pageKindOf_8 : decode cX4_pageKindOf 8 = .ok (.aload_n 0, 1) := by decide +kernel
theorem dX4_pageKindOf_9 : decode cX4_pageKindOf 9 = .ok (.getfield 36, 3) := by decide +kernel
theorem dX4_pageKindOf_12 : decode cX4_pageKindOf 12 = .ok (.iload_n 1, 1) := by decide +kernel
theorem dX4_pageKindOf_13 : decode cX4_pageKindOf 13 = .ok (.bipush 16, 2) := by decide +kernel
theorem dX4_pageKindOf_15 : decode cX4_pageKindOf 15 = .ok (.imul, 1) := by decide +kernel
theorem dX4_pageKindOf_16 : decode cX4_pageKindOf 16 = .ok (.iload_n 2, 1) := by decide +kernel
theorem dX4_pageKindOf_17 : decode cX4_pageKindOf 17 = .ok (.iadd, 1) := by decide +kernel
theorem dX4_pageKindOf_18 : decode cX4_pageKindOf 18 = .ok (.iaload, 1) := by decide +kernel
theorem dX4_pageKindOf_19 : decode cX4_pageKindOf 19 = .ok (.goto 4, 3) := by decide +kernel
theorem dX4_pageKindOf_22 : decode cX4_pageKindOf 22 = .ok (.iconst 0, 1) := by decide +kernel
theorem dX4_pageKindOf_23 : decode cX4_pageKindOf 23 = .ok (.ireturn, 1) := by decide +kernel
def f_X4_pageKindOf (u0 : S1) (p1 : Int32) (p2 : Int32) : Option (Int32) := bn (f_X4_isPageOf p1 p2) (fun z_1 => jn (fun (v23_2_0 : Int32) => some v23_2_0) (fun k23_2 => if z_1 = 0 then k23_2 0 else chk (inb ((p1 * 16) + p2) 512) (k23_2 (u0 8 ((p1 * 16) + p2).toNatClampNeg))))
def rmX4_pageKindOf : Room := { frames := 2, cells := 0, slots := 0, locals := 41 }
set_option maxHeartbeats 4000000 in
set_option maxRecDepth 100000 in
theorem c_X4_pageKindOf (l : Launch) (D : va_G) (cI cZ cJ cT : ClassId) (a0 : Nat → Nat) (u0 : S1) (p1 : Int32) (p2 : Int32) (o : Int32) (hf : f_X4_pageKindOf u0 p1 p2 = some o) : Met l yX4_pageKindOf wsX4_pageKindOf rmX4_pageKindOf (va_Pc [.ref (a0 0), .int p1, .int p2] (PR D cls (tys cI cZ cJ cT) ((wX4 cI cZ a0 u0)))) (QR o) 0 0 (fun _ => False) := by
  refine Met.ofW (cc := cX4_pageKindOf) (maxL := 3) (ret := (some .int)) (by decide) rfl ?_
  intro p e s m args below meth c s₁ B hml hv
  obtain ⟨hav, hP, hK⟩ := hv
  have hx := B.exec
  have hb := B.bytes
  have hr := B.returns
  have hlocks := B.notSynchronized
  have hts := atoms_spec (ws := wsX4_pageKindOf) B.pre
  have hown : s.vm.findClass RX4 = some m.cls := findClass_of_methodNamed B.named
  have i4 : ∀ w ∈ wsX40, w ∈ wsX4_pageKindOf := fun w h => List.mem_cons_of_mem _ (List.mem_append_right _ h)
  have hk36 := hts (.fieldLink RX4 36 "Inodery$Tree" "pageKinds" "[I") (by decide +kernel)
  refine Wq (fun Q hQ => ?_)
  refine W_entry hav (Nat.le_of_ble_eq_true rfl) (fun ls hl => ?_)
  have hl : lv_has ls 3 [(0, .ref (a0 0)), (1, .int p1), (2, .int p2)] := hl
  unfold f_X4_pageKindOf at hf
  refine lv_iload_n hx hb dX4_pageKindOf_0 rfl (lv_at hl 1 rfl) ?_
  refine lv_iload_n hx hb dX4_pageKindOf_1 rfl (lv_at hl 2 rfl) ?_
  obtain ⟨z_1, hz_1, hf⟩ := bn_some hf
  refine c0S (As := [.int p1, .int p2]) (rest := []) ⟨hx, hb, hml, hown, hts⟩ (c_X4_isPageOf l D cI cZ cJ cT p1 p2 z_1 hz_1) (va_cwS 2 hts gX4_pageKindOf_X4_isPageOf rfl rfl rfl (by decide +kernel) ⟨Nat.le_of_ble_eq_true rfl, Nat.le_of_ble_eq_true rfl⟩) rfl rfl hl.1 (Nat.le_of_ble_eq_true rfl) dX4_pageKindOf_2 ⟨Nat.le_of_ble_eq_true rfl, Nat.le_of_ble_eq_true rfl⟩ ?_
  obtain ⟨k23_2, hk23_2, hf⟩ := jn_some hf
  have j23_2 : ∀ (v23_2_0 : Int32) (ls : Array Slot), k23_2 v23_2_0 = some o → lv_has ls 3 [] → W p l e (headSpec wsX4_pageKindOf rmX4_pageKindOf).room s m args below meth c s.heap [] 0 0 Q (F0 m 23 ls [.int v23_2_0]) := by
    intro v23_2_0 ls hf hl
    have hf := qa1 hk23_2 hf
    rw [hQ]
    exact W.iret hx hb hr (fun t ht hW => ⟨_, rfl, Option.some.inj hf, ht⟩) (fun _ h => nomatch h) dX4_pageKindOf_23 hlocks
  refine lv_if_eq (tgt := 22) hx hb dX4_pageKindOf_5 (by decide) (fun c_3 => ?_) (fun c_3 => ?_)
  · have hf := ite_t hf c_3
    refine lv_iconst (v := 0) hx hb dX4_pageKindOf_22 (by decide) ?_
    exact j23_2 _ _ hf (lv_sub hl [] rfl)
  · have hf := ite_f hf c_3
    refine lv_aload_n hx hb dX4_pageKindOf_8 rfl (lv_at hl 0 rfl) ?_
    refine va_get (D := D) (ci := 4) (v := .ref (a0 9)) (C := RX4) (T := TX4) (N := 12) hx hb hts i4 hown hK hP 0 rfl rfl 8 (by decide) hk36 (fun _ h9 => h9) rfl dX4_pageKindOf_9 ?_
    refine lv_iload_n hx hb dX4_pageKindOf_12 rfl (lv_at hl 1 rfl) ?_
    refine lv_bipush (v := 16) hx hb dX4_pageKindOf_13 (by decide) ?_
    refine lv_imul hx hb dX4_pageKindOf_15 ?_
    refine lv_iload_n hx hb dX4_pageKindOf_16 rfl (lv_at hl 2 rfl) ?_
    refine lv_iadd hx hb dX4_pageKindOf_17 ?_
    obtain ⟨hi, hf⟩ := chk_some hf
    refine va_iald hx hb hK hP 9 0 rfl rfl (inb_in hi) dX4_pageKindOf_18 ?_
    refine lv_goto (tgt := 23) hx hb dX4_pageKindOf_19 (by decide) ?_
    exact j23_2 _ _ hf (lv_sub hl [] rfl)
set_option maxRecDepth 20000 in
theorem ggX4_blockOf_X4_isPageOf : GoodIn wsX4_blockOf wsX4_isPageOf := goodIn_r _ [5, 6, 7, 4, 8] (by decide +kernel) (by decide +kernel)
set_option maxRecDepth 20000 in
theorem gX4_blockOf_X4_isPageOf : GoodIn wsX4_blockOf (va_wsS RX4 89 yX4_isPageOf wsX4_isPageOf) := goodIn_app (goodIn_of _ (by decide +kernel)) ggX4_blockOf_X4_isPageOf
theorem dX4_blockOf_0 : decode cX4_blockOf 0 = .ok (.iload_n 1, 1) := by decide +kernel
theorem dX4_blockOf_1 : decode cX4_blockOf 1 = .ok (.iload_n 2, 1) := by decide +kernel
theorem dX4_blockOf_2 : decode cX4_blockOf 2 = .ok (.invokestatic 89, 3) := by decide +kernel
theorem dX4_blockOf_5 : decode cX4_blockOf 5 = .ok (.ifCond .eq 17, 3) := by decide +kernel
theorem dX4_blockOf_8 : decode cX4_blockOf 8 = .ok (.aload_n 0, 1) := by decide +kernel
theorem dX4_blockOf_9 : decode cX4_blockOf 9 = .ok (.getfield 39, 3) := by decide +kernel
theorem dX4_blockOf_12 : decode cX4_blockOf 12 = .ok (.iload_n 1, 1) := by decide +kernel
theorem dX4_blockOf_13 : decode cX4_blockOf 13 = .ok (.bipush 16, 2) := by decide +kernel
theorem dX4_blockOf_15 : decode cX4_blockOf 15 = .ok (.imul, 1) := by decide +kernel
theorem dX4_blockOf_16 : decode cX4_blockOf 16 = .ok (.iload_n 2, 1) := by decide +kernel
theorem dX4_blockOf_17 : decode cX4_blockOf 17 = .ok (.iadd, 1) := by decide +kernel
theorem dX4_blockOf_18 : decode cX4_blockOf 18 = .ok (.iaload, 1) := by decide +kernel
theorem dX4_blockOf_19 : decode cX4_blockOf 19 = .ok (.goto 4, 3) := by decide +kernel
theorem dX4_blockOf_22 : decode cX4_blockOf 22 = .ok (.iconst (-1), 1) := by decide +kernel
theorem dX4_blockOf_23 : decode cX4_blockOf 23 = .ok (.ireturn, 1) := by decide +kernel
def f_X4_blockOf (u0 : S1) (p1 : Int32) (p2 : Int32) : Option (Int32) := bn (f_X4_isPageOf p1 p2) (fun z_1 => jn (fun (v23_2_0 : Int32) => some v23_2_0) (fun k23_2 => if z_1 = 0 then k23_2 (-1) else chk (inb ((p1 * 16) + p2) 512) (k23_2 (u0 9 ((p1 * 16) + p2).toNatClampNeg))))
def rmX4_blockOf : Room := { frames := 2, cells := 0, slots := 0, locals := 41 }
set_option maxHeartbeats 4000000 in
set_option maxRecDepth 100000 in
theorem c_X4_blockOf (l : Launch) (D : va_G) (cI cZ cJ cT : ClassId) (a0 : Nat → Nat) (u0 : S1) (p1 : Int32) (p2 : Int32) (o : Int32) (hf : f_X4_blockOf u0 p1 p2 = some o) : Met l yX4_blockOf wsX4_blockOf rmX4_blockOf (va_Pc [.ref (a0 0), .int p1, .int p2] (PR D cls (tys cI cZ cJ cT) ((wX4 cI cZ a0 u0)))) (QR o) 0 0 (fun _ => False) := by
  refine Met.ofW (cc := cX4_blockOf) (maxL := 3) (ret := (some .int)) (by decide) rfl ?_
  intro p e s m args below meth c s₁ B hml hv
  obtain ⟨hav, hP, hK⟩ := hv
  have hx := B.exec
  have hb := B.bytes
  have hr := B.returns
  have hlocks := B.notSynchronized
  have hts := atoms_spec (ws := wsX4_blockOf) B.pre
  have hown : s.vm.findClass RX4 = some m.cls := findClass_of_methodNamed B.named
  have i4 : ∀ w ∈ wsX40, w ∈ wsX4_blockOf := fun w h => List.mem_cons_of_mem _ (List.mem_append_right _ h)
  have hk39 := hts (.fieldLink RX4 39 "Inodery$Tree" "pageBlocks" "[I") (by decide +kernel)
  refine Wq (fun Q hQ => ?_)
  refine W_entry hav (Nat.le_of_ble_eq_true rfl) (fun ls hl => ?_)
  have hl : lv_has ls 3 [(0, .ref (a0 0)), (1, .int p1), (2, .int p2)] := hl
  unfold f_X4_blockOf at hf
  refine lv_iload_n hx hb dX4_blockOf_0 rfl (lv_at hl 1 rfl) ?_
  refine lv_iload_n hx hb dX4_blockOf_1 rfl (lv_at hl 2 rfl) ?_
  obtain ⟨z_1, hz_1, hf⟩ := bn_some hf
  refine c0S (As := [.int p1, .int p2]) (rest := []) ⟨hx, hb, hml, hown, hts⟩ (c_X4_isPageOf l D cI cZ cJ cT p1 p2 z_1 hz_1) (va_cwS 2 hts gX4_blockOf_X4_isPageOf rfl rfl rfl (by decide +kernel) ⟨Nat.le_of_ble_eq_true rfl, Nat.le_of_ble_eq_true rfl⟩) rfl rfl hl.1 (Nat.le_of_ble_eq_true rfl) dX4_blockOf_2 ⟨Nat.le_of_ble_eq_true rfl, Nat.le_of_ble_eq_true rfl⟩ ?_
  obtain ⟨k23_2, hk23_2, hf⟩ := jn_some hf
  have j23_2 : ∀ (v23_2_0 : Int32) (ls : Array Slot), k23_2 v23_2_0 = some o → lv_has ls 3 [] → W p l e (headSpec wsX4_blockOf rmX4_blockOf).room s m args below meth c s.heap [] 0 0 Q (F0 m 23 ls [.int v23_2_0]) := by
    intro v23_2_0 ls hf hl
    have hf := qa1 hk23_2 hf
    rw [hQ]
    exact W.iret hx hb hr (fun t ht hW => ⟨_, rfl, Option.some.inj hf, ht⟩) (fun _ h => nomatch h) dX4_blockOf_23 hlocks
  refine lv_if_eq (tgt := 22) hx hb dX4_blockOf_5 (by decide) (fun c_3 => ?_) (fun c_3 => ?_)
  · have hf := ite_t hf c_3
    refine lv_iconst (v := (-1)) hx hb dX4_blockOf_22 (by decide) ?_
    exact j23_2 _ _ hf (lv_sub hl [] rfl)
  · have hf := ite_f hf c_3
    refine lv_aload_n hx hb dX4_blockOf_8 rfl (lv_at hl 0 rfl) ?_
    refine va_get (D := D) (ci := 4) (v := .ref (a0 10)) (C := RX4) (T := TX4) (N := 12) hx hb hts i4 hown hK hP 0 rfl rfl 9 (by decide) hk39 (fun _ h9 => h9) rfl dX4_blockOf_9 ?_
    refine lv_iload_n hx hb dX4_blockOf_12 rfl (lv_at hl 1 rfl) ?_
    refine lv_bipush (v := 16) hx hb dX4_blockOf_13 (by decide) ?_
    refine lv_imul hx hb dX4_blockOf_15 ?_
    refine lv_iload_n hx hb dX4_blockOf_16 rfl (lv_at hl 2 rfl) ?_
    refine lv_iadd hx hb dX4_blockOf_17 ?_
    obtain ⟨hi, hf⟩ := chk_some hf
    refine va_iald hx hb hK hP 10 0 rfl rfl (inb_in hi) dX4_blockOf_18 ?_
    refine lv_goto (tgt := 23) hx hb dX4_blockOf_19 (by decide) ?_
    exact j23_2 _ _ hf (lv_sub hl [] rfl)
theorem dX4_hasBlock_0 : decode cX4_hasBlock 0 = .ok (.iload_n 1, 1) := by decide +kernel
theorem dX4_hasBlock_1 : decode cX4_hasBlock 1 = .ok (.ifCond .lt 22, 3) := by decide +kernel
theorem dX4_hasBlock_4 : decode cX4_hasBlock 4 = .ok (.iload_n 1, 1) := by decide +kernel
theorem dX4_hasBlock_5 : decode cX4_hasBlock 5 = .ok (.bipush 64, 2) := by decide +kernel
theorem dX4_hasBlock_7 : decode cX4_hasBlock 7 = .ok (.if_icmp .ge 16, 3) := by decide +kernel
theorem dX4_hasBlock_10 : decode cX4_hasBlock 10 = .ok (.aload_n 0, 1) := by decide +kernel
theorem dX4_hasBlock_11 : decode cX4_hasBlock 11 = .ok (.getfield 45, 3) := by decide +kernel
theorem dX4_hasBlock_14 : decode cX4_hasBlock 14 = .ok (.iload_n 1, 1) := by decide +kernel
theorem dX4_hasBlock_15 : decode cX4_hasBlock 15 = .ok (.iaload, 1) := by decide +kernel
theorem dX4_hasBlock_16 : decode cX4_hasBlock 16 = .ok (.ifCond .le 7, 3) := by decide +kernel
theorem dX4_hasBlock_19 : decode cX4_hasBlock 19 = .ok (.iconst 1, 1) := by decide +kernel
theorem dX4_hasBlock_20 : decode cX4_hasBlock 20 = .ok (.goto 4, 3) := by decide +kernel
theorem dX4_hasBlock_23 : decode cX4_hasBlock 23 = .ok (.iconst 0, 1) := by decide +kernel
theorem dX4_hasBlock_24 : decode cX4_hasBlock 24 = .ok (.ireturn, 1) := by decide +kernel
def f_X4_hasBlock (u0 : S1) (p1 : Int32) : Option (Int32) := jn (fun (v24_1_0 : Int32) => some (vp_nar .boolean v24_1_0)) (fun k24_1 => jn (k24_1 0) (fun k23_2 => if p1 < 0 then k23_2 else if 64 ≤ p1 then k23_2 else chk (inb p1 64) (if (u0 11 (p1).toNatClampNeg) ≤ 0 then k23_2 else k24_1 1)))
def rmX4_hasBlock : Room := { frames := 0, cells := 0, slots := 0, locals := 0 }
set_option maxHeartbeats 4000000 in
set_option maxRecDepth 100000 in
theorem c_X4_hasBlock (l : Launch) (D : va_G) (cI cZ cJ cT : ClassId) (a0 : Nat → Nat) (u0 : S1) (p1 : Int32) (o : Int32) (hf : f_X4_hasBlock u0 p1 = some o) : Met l yX4_hasBlock wsX4_hasBlock rmX4_hasBlock (va_Pc [.ref (a0 0), .int p1] (PR D cls (tys cI cZ cJ cT) ((wX4 cI cZ a0 u0)))) (QR o) 0 0 (fun _ => False) := by
  refine Met.ofW (cc := cX4_hasBlock) (maxL := 2) (ret := (some .boolean)) (by decide) rfl ?_
  intro p e s m args below meth c s₁ B hml hv
  obtain ⟨hav, hP, hK⟩ := hv
  have hx := B.exec
  have hb := B.bytes
  have hr := B.returns
  have hlocks := B.notSynchronized
  have hts := atoms_spec (ws := wsX4_hasBlock) B.pre
  have hown : s.vm.findClass RX4 = some m.cls := findClass_of_methodNamed B.named
  have i4 : ∀ w ∈ wsX40, w ∈ wsX4_hasBlock := fun w h => List.mem_cons_of_mem _ (List.mem_append_right _ h)
  have hk45 := hts (.fieldLink RX4 45 "Inodery$Tree" "uses" "[I") (by decide +kernel)
  refine Wq (fun Q hQ => ?_)
  refine W_entry hav (Nat.le_of_ble_eq_true rfl) (fun ls hl => ?_)
  have hl : lv_has ls 2 [(0, .ref (a0 0)), (1, .int p1)] := hl
  unfold f_X4_hasBlock at hf
  refine lv_iload_n hx hb dX4_hasBlock_0 rfl (lv_at hl 1 rfl) ?_
  obtain ⟨k24_1, hk24_1, hf⟩ := jn_some hf
  have j24_1 : ∀ (v24_1_0 : Int32) (ls : Array Slot), k24_1 v24_1_0 = some o → lv_has ls 2 [] → W p l e (headSpec wsX4_hasBlock rmX4_hasBlock).room s m args below meth c s.heap [] 0 0 Q (F0 m 24 ls [.int v24_1_0]) := by
    intro v24_1_0 ls hf hl
    have hf := qa1 hk24_1 hf
    rw [hQ]
    exact zretN (v := v24_1_0) (v' := vp_nar .boolean v24_1_0) hx hb hr rfl (fun t ht hW => ⟨_, rfl, Option.some.inj hf, ht⟩) (fun _ h => nomatch h) dX4_hasBlock_24 hlocks
  obtain ⟨k23_2, hk23_2, hf⟩ := jn_some hf
  have j23_2 : ∀ (ls : Array Slot), k23_2 = some o → lv_has ls 2 [] → W p l e (headSpec wsX4_hasBlock rmX4_hasBlock).room s m args below meth c s.heap [] 0 0 Q (F0 m 23 ls []) := by
    intro ls hf hl
    have hf := qa0 hk23_2 hf
    refine lv_iconst (v := 0) hx hb dX4_hasBlock_23 (by decide) ?_
    exact j24_1 _ _ hf (lv_sub hl [] rfl)
  refine lv_if_lt (tgt := 23) hx hb dX4_hasBlock_1 (by decide) (fun c_3 => ?_) (fun c_3 => ?_)
  · have hf := ite_t hf c_3
    exact j23_2 _ hf (lv_sub hl [] rfl)
  · have hf := ite_f hf c_3
    refine lv_iload_n hx hb dX4_hasBlock_4 rfl (lv_at hl 1 rfl) ?_
    refine lv_bipush (v := 64) hx hb dX4_hasBlock_5 (by decide) ?_
    refine lv_icmp_ge (tgt := 23) hx hb dX4_hasBlock_7 (by decide) (fun c_4 => ?_) (fun c_4 => ?_)
    · have hf := ite_t hf c_4
      exact j23_2 _ hf (lv_sub hl [] rfl)
    · have hf := ite_f hf c_4
      refine lv_aload_n hx hb dX4_hasBlock_10 rfl (lv_at hl 0 rfl) ?_
      refine va_get (D := D) (ci := 4) (v := .ref (a0 12)) (C := RX4) (T := TX4) (N := 12) hx hb hts i4 hown hK hP 0 rfl rfl 11 (by decide) hk45 (fun _ h9 => h9) rfl dX4_hasBlock_11 ?_
      refine lv_iload_n hx hb dX4_hasBlock_14 rfl (lv_at hl 1 rfl) ?_
      obtain ⟨hi, hf⟩ := chk_some hf
      refine va_iald hx hb hK hP 12 0 rfl rfl (inb_in hi) dX4_hasBlock_15 ?_
      refine lv_if_le (tgt := 23) hx hb dX4_hasBlock_16 (by decide) (fun c_5 => ?_) (fun c_5 => ?_)
      · have hf := ite_t hf c_5
        exact j23_2 _ hf (lv_sub hl [] rfl)
      · have hf := ite_f hf c_5
        refine lv_iconst (v := 1) hx hb dX4_hasBlock_19 (by decide) ?_
        refine lv_goto (tgt := 24) hx hb dX4_hasBlock_20 (by decide) ?_
        exact j24_1 _ _ hf (lv_sub hl [] rfl)
set_option maxRecDepth 20000 in
theorem ggX4_filledOf_X4_isInRange : GoodIn wsX4_filledOf wsX4_isInRange := goodIn_r _ [5] (by decide +kernel) (by decide +kernel)
set_option maxRecDepth 20000 in
theorem gX4_filledOf_X4_isInRange : GoodIn wsX4_filledOf (va_wsS RX4 54 yX4_isInRange wsX4_isInRange) := goodIn_app (goodIn_of _ (by decide +kernel)) ggX4_filledOf_X4_isInRange
theorem dX4_filledOf_0 : decode cX4_filledOf 0 = .ok (.iload_n 1, 1) := by decide +kernel
theorem dX4_filledOf_1 : decode cX4_filledOf 1 = .ok (.invokestatic 54, 3) := by decide +kernel
theorem dX4_filledOf_4 : decode cX4_filledOf 4 = .ok (.ifCond .eq 12, 3) := by decide +kernel
theorem dX4_filledOf_7 : decode cX4_filledOf 7 = .ok (.aload_n 0, 1) := by decide +kernel
theorem dX4_filledOf_8 : decode cX4_filledOf 8 = .ok (.getfield 42, 3) := by decide +kernel
theorem dX4_filledOf_11 : decode cX4_filledOf 11 = .ok (.iload_n 1, 1) := by decide +kernel
theorem dX4_filledOf_12 : decode cX4_filledOf 12 = .ok (.iaload, 1) := by decide +kernel
theorem dX4_filledOf_13 : decode cX4_filledOf 13 = .ok (.goto 4, 3) := by decide +kernel
theorem dX4_filledOf_16 : decode cX4_filledOf 16 = .ok (.iconst 0, 1) := by decide +kernel
theorem dX4_filledOf_17 : decode cX4_filledOf 17 = .ok (.ireturn, 1) := by decide +kernel
def f_X4_filledOf (u0 : S1) (p1 : Int32) : Option (Int32) := bn (f_X4_isInRange p1) (fun z_1 => jn (fun (v17_2_0 : Int32) => some v17_2_0) (fun k17_2 => if z_1 = 0 then k17_2 0 else chk (inb p1 32) (k17_2 (u0 10 (p1).toNatClampNeg))))
def rmX4_filledOf : Room := { frames := 1, cells := 0, slots := 0, locals := 20 }
set_option maxHeartbeats 4000000 in
set_option maxRecDepth 100000 in
theorem c_X4_filledOf (l : Launch) (D : va_G) (cI cZ cJ cT : ClassId) (a0 : Nat → Nat) (u0 : S1) (p1 : Int32) (o : Int32) (hf : f_X4_filledOf u0 p1 = some o) : Met l yX4_filledOf wsX4_filledOf rmX4_filledOf (va_Pc [.ref (a0 0), .int p1] (PR D cls (tys cI cZ cJ cT) ((wX4 cI cZ a0 u0)))) (QR o) 0 0 (fun _ => False) := by
  refine Met.ofW (cc := cX4_filledOf) (maxL := 2) (ret := (some .int)) (by decide) rfl ?_
  intro p e s m args below meth c s₁ B hml hv
  obtain ⟨hav, hP, hK⟩ := hv
  have hx := B.exec
  have hb := B.bytes
  have hr := B.returns
  have hlocks := B.notSynchronized
  have hts := atoms_spec (ws := wsX4_filledOf) B.pre
  have hown : s.vm.findClass RX4 = some m.cls := findClass_of_methodNamed B.named
  have i4 : ∀ w ∈ wsX40, w ∈ wsX4_filledOf := fun w h => List.mem_cons_of_mem _ (List.mem_append_right _ h)
  have hk42 := hts (.fieldLink RX4 42 "Inodery$Tree" "filled" "[I") (by decide +kernel)
  refine Wq (fun Q hQ => ?_)
  refine W_entry hav (Nat.le_of_ble_eq_true rfl) (fun ls hl => ?_)
  have hl : lv_has ls 2 [(0, .ref (a0 0)), (1, .int p1)] := hl
  unfold f_X4_filledOf at hf
  refine lv_iload_n hx hb dX4_filledOf_0 rfl (lv_at hl 1 rfl) ?_
  obtain ⟨z_1, hz_1, hf⟩ := bn_some hf
  refine c0S (As := [.int p1]) (rest := []) ⟨hx, hb, hml, hown, hts⟩ (c_X4_isInRange l D cI cZ cJ cT p1 z_1 hz_1) (va_cwS 1 hts gX4_filledOf_X4_isInRange rfl rfl rfl (by decide +kernel) ⟨Nat.le_of_ble_eq_true rfl, Nat.le_of_ble_eq_true rfl⟩) rfl rfl hl.1 (Nat.le_of_ble_eq_true rfl) dX4_filledOf_1 ⟨Nat.le_of_ble_eq_true rfl, Nat.le_of_ble_eq_true rfl⟩ ?_
  obtain ⟨k17_2, hk17_2, hf⟩ := jn_some hf
  have j17_2 : ∀ (v17_2_0 : Int32) (ls : Array Slot), k17_2 v17_2_0 = some o → lv_has ls 2 [] → W p l e (headSpec wsX4_filledOf rmX4_filledOf).room s m args below meth c s.heap [] 0 0 Q (F0 m 17 ls [.int v17_2_0]) := by
    intro v17_2_0 ls hf hl
    have hf := qa1 hk17_2 hf
    rw [hQ]
    exact W.iret hx hb hr (fun t ht hW => ⟨_, rfl, Option.some.inj hf, ht⟩) (fun _ h => nomatch h) dX4_filledOf_17 hlocks
  refine lv_if_eq (tgt := 16) hx hb dX4_filledOf_4 (by decide) (fun c_3 => ?_) (fun c_3 => ?_)
  · have hf := ite_t hf c_3
    refine lv_iconst (v := 0) hx hb dX4_filledOf_16 (by decide) ?_
    exact j17_2 _ _ hf (lv_sub hl [] rfl)
  · have hf := ite_f hf c_3
    refine lv_aload_n hx hb dX4_filledOf_7 rfl (lv_at hl 0 rfl) ?_
    refine va_get (D := D) (ci := 4) (v := .ref (a0 11)) (C := RX4) (T := TX4) (N := 12) hx hb hts i4 hown hK hP 0 rfl rfl 10 (by decide) hk42 (fun _ h9 => h9) rfl dX4_filledOf_8 ?_
    refine lv_iload_n hx hb dX4_filledOf_11 rfl (lv_at hl 1 rfl) ?_
    obtain ⟨hi, hf⟩ := chk_some hf
    refine va_iald hx hb hK hP 11 0 rfl rfl (inb_in hi) dX4_filledOf_12 ?_
    refine lv_goto (tgt := 17) hx hb dX4_filledOf_13 (by decide) ?_
    exact j17_2 _ _ hf (lv_sub hl [] rfl)
set_option maxRecDepth 20000 in
theorem ggX4_holesOf_X4_pageKindOf : GoodIn wsX4_holesOf wsX4_pageKindOf := goodIn_r _ [5, 6, 7, 8, 4, 9, 10, 11, 12, 13, 14, 15, 16, 17, 18, 19, 20, 21, 22, 23, 24] (by decide +kernel) (by decide +kernel)
set_option maxRecDepth 20000 in
theorem gX4_holesOf_X4_pageKindOf : GoodIn wsX4_holesOf (wsV RX4 96 RX4 yX4_pageKindOf wsX4_pageKindOf) := goodIn_app (goodIn_of _ (by decide +kernel)) ggX4_holesOf_X4_pageKindOf
theorem dX4_holesOf_0 : decode cX4_holesOf 0 = .ok (.iconst 0, 1) := by decide +kernel
theorem dX4_holesOf_1 : decode cX4_holesOf 1 = .ok (.istore 4, 2) := by decide +kernel
theorem dX4_holesOf_3 : decode cX4_holesOf 3 = .ok (.iload_n 2, 1) := by decide +kernel
theorem dX4_holesOf_4 : decode cX4_holesOf 4 = .ok (.istore 5, 2) := by decide +kernel
theorem dX4_holesOf_6 : decode cX4_holesOf 6 = .ok (.iload 5, 2) := by decide +kernel
theorem dX4_holesOf_8 : decode cX4_holesOf 8 = .ok (.iload_n 3, 1) := by decide +kernel
theorem dX4_holesOf_9 : decode cX4_holesOf 9 = .ok (.if_icmp .gt 29, 3) := by decide +kernel
theorem dX4_holesOf_12 : decode cX4_holesOf 12 = .ok (.iload 5, 2) := by decide +kernel
theorem dX4_holesOf_14 : decode cX4_holesOf 14 = .ok (.bipush 16, 2) := by decide +kernel
theorem dX4_holesOf_16 : decode cX4_holesOf 16 = .ok (.if_icmp .ge 22, 3) := by decide +kernel
theorem dX4_holesOf_19 : decode cX4_holesOf 19 = .ok (.aload_n 0, 1) := by decide +kernel
theorem dX4_holesOf_20 : decode cX4_holesOf 20 = .ok (.iload_n 1, 1) := by decide +kernel
theorem dX4_holesOf_21 : decode cX4_holesOf 21 = .ok (.iload 5, 2) := by decide +kernel
theorem dX4_holesOf_23 : decode cX4_holesOf 23 = .ok (.invokevirtual 96, 3) := by decide +kernel
theorem dX4_holesOf_26 : decode cX4_holesOf 26 = .ok (.ifCond .ne 6, 3) := by decide +kernel
theorem dX4_holesOf_29 : decode cX4_holesOf 29 = .ok (.iinc 4 1, 3) := by decide +kernel
theorem dX4_holesOf_32 : decode cX4_holesOf 32 = .ok (.iinc 5 1, 3) := by decide +kernel
theorem dX4_holesOf_35 : decode cX4_holesOf 35 = .ok (.goto (-29), 3) := by decide +kernel
theorem dX4_holesOf_38 : decode cX4_holesOf 38 = .ok (.iload 4, 2) := by decide +kernel
theorem dX4_holesOf_40 : decode cX4_holesOf 40 = .ok (.ireturn, 1) := by decide +kernel
def f_X4_holesOf (u0 : S1) (p1 : Int32) (p2 : Int32) (p3 : Int32) : Option (Int32) := qj2 (fun (r6_1 : Int32 → Int32 → Option (Int32)) (y6_1_4 : Int32) (y6_1_5 : Int32) => jn (some y6_1_4) (fun k38_2 => if p3 < y6_1_5 then k38_2 else if 16 ≤ y6_1_5 then k38_2 else bn (f_X4_pageKindOf u0 p1 y6_1_5) (fun z_5 => jn (fun (y32_6_4 : Int32) => r6_1 y32_6_4 (y6_1_5 + 1)) (fun k32_6 => if z_5 = 0 then k32_6 (y6_1_4 + 1) else k32_6 y6_1_4)))) (fun k6_1 => k6_1 0 p2)
def rmX4_holesOf : Room := { frames := 3, cells := 0, slots := 0, locals := 63 }
set_option maxHeartbeats 4000000 in
set_option maxRecDepth 100000 in
theorem c_X4_holesOf (l : Launch) (D : va_G) (cI cZ cJ cT : ClassId) (a0 : Nat → Nat) (u0 : S1) (p1 : Int32) (p2 : Int32) (p3 : Int32) (o : Int32) (hf : f_X4_holesOf u0 p1 p2 p3 = some o) : Met l yX4_holesOf wsX4_holesOf rmX4_holesOf (va_Pc [.ref (a0 0), .int p1, .int p2, .int p3] (PR D cls (tys cI cZ cJ cT) ((wX4 cI cZ a0 u0)))) (QR o) 0 0 (fun _ => False) := by
  refine Met.ofW (cc := cX4_holesOf) (maxL := 6) (ret := (some .int)) (by decide) rfl ?_
  intro p e s m args below meth c s₁ B hml hv
  obtain ⟨hav, hP, hK⟩ := hv
  have hx := B.exec
  have hb := B.bytes
  have hr := B.returns
  have hlocks := B.notSynchronized
  have hts := atoms_spec (ws := wsX4_holesOf) B.pre
  have hown : s.vm.findClass RX4 = some m.cls := findClass_of_methodNamed B.named
  refine Wq (fun Q hQ => ?_)
  refine W_entry hav (Nat.le_of_ble_eq_true rfl) (fun ls hl => ?_)
  have hl : lv_has ls 6 [(0, .ref (a0 0)), (1, .int p1), (2, .int p2), (3, .int p3)] := hl
  unfold f_X4_holesOf at hf
  refine lv_iconst (v := 0) hx hb dX4_holesOf_0 (by decide) ?_
  refine lv_istore (lv' := [(4, .int 0), (0, .ref (a0 0)), (1, .int p1), (2, .int p2), (3, .int p3)]) hx hb dX4_holesOf_1 hl (by decide) rfl (fun ls hl => ?_)
  refine lv_iload_n hx hb dX4_holesOf_3 rfl (lv_at hl 3 rfl) ?_
  refine lv_istore (lv' := [(5, .int p2), (4, .int 0), (0, .ref (a0 0)), (1, .int p1), (2, .int p2), (3, .int p3)]) hx hb dX4_holesOf_4 hl (by decide) rfl (fun ls hl => ?_)
  obtain ⟨G6_1, hG6_1, hf⟩ := qj2_some hf
  have j6_1 : ∀ (n : Nat) (y6_1_4 : Int32) (y6_1_5 : Int32) (ls : Array Slot), ql2 G6_1 n y6_1_4 y6_1_5 = some o → lv_has ls 6 [(0, .ref (a0 0)), (1, .int p1), (3, .int p3), (4, .int y6_1_4), (5, .int y6_1_5)] → W p l e (headSpec wsX4_holesOf rmX4_holesOf).room s m args below meth c s.heap [] 0 0 Q (F0 m 6 ls []) := by
    intro n
    induction n with
    | zero => intro y6_1_4 y6_1_5 ls hf hl; exact (ql2_z hf).elim
    | succ n ih6_1 =>
      intro y6_1_4 y6_1_5 ls hf hl
      have hf := ql2_s hG6_1 hf
      obtain ⟨r6_1, hr6_1⟩ : ∃ z, z = ql2 G6_1 n := ⟨_, rfl⟩
      rw [← hr6_1] at hf ih6_1
      refine lv_iload hx hb dX4_holesOf_6 (lv_at hl 4 rfl) ?_
      refine lv_iload_n hx hb dX4_holesOf_8 rfl (lv_at hl 2 rfl) ?_
      obtain ⟨k38_2, hk38_2, hf⟩ := jn_some hf
      have j38_2 : ∀ (ls : Array Slot), k38_2 = some o → lv_has ls 6 [(4, .int y6_1_4)] → W p l e (headSpec wsX4_holesOf rmX4_holesOf).room s m args below meth c s.heap [] 0 0 Q (F0 m 38 ls []) := by
        intro ls hf hl
        have hf := qa0 hk38_2 hf
        refine lv_iload hx hb dX4_holesOf_38 (lv_at hl 0 rfl) ?_
        rw [hQ]
        exact W.iret hx hb hr (fun t ht hW => ⟨_, rfl, Option.some.inj hf, ht⟩) (fun _ h => nomatch h) dX4_holesOf_40 hlocks
      refine lv_icmp_gt (tgt := 38) hx hb dX4_holesOf_9 (by decide) (fun c_3 => ?_) (fun c_3 => ?_)
      · have hf := ite_t hf c_3
        exact j38_2 _ hf (lv_sub hl [3] rfl)
      · have hf := ite_f hf c_3
        refine lv_iload hx hb dX4_holesOf_12 (lv_at hl 4 rfl) ?_
        refine lv_bipush (v := 16) hx hb dX4_holesOf_14 (by decide) ?_
        refine lv_icmp_ge (tgt := 38) hx hb dX4_holesOf_16 (by decide) (fun c_4 => ?_) (fun c_4 => ?_)
        · have hf := ite_t hf c_4
          exact j38_2 _ hf (lv_sub hl [3] rfl)
        · have hf := ite_f hf c_4
          refine lv_aload_n hx hb dX4_holesOf_19 rfl (lv_at hl 0 rfl) ?_
          refine lv_iload_n hx hb dX4_holesOf_20 rfl (lv_at hl 1 rfl) ?_
          refine lv_iload hx hb dX4_holesOf_21 (lv_at hl 4 rfl) ?_
          obtain ⟨z_5, hz_5, hf⟩ := bn_some hf
          refine cRV (As := [.int p1, .int y6_1_5]) (rest := []) ⟨hx, hb, hml, hown, hts⟩ (c_X4_pageKindOf l D cI cZ cJ cT a0 u0 p1 y6_1_5 z_5 hz_5) (cwV 2 hts gX4_holesOf_X4_pageKindOf rfl rfl rfl (by decide +kernel) ⟨Nat.le_of_ble_eq_true rfl, Nat.le_of_ble_eq_true rfl⟩) hP hK (va_recv hK hP (ci := 4) (q0 := 0) rfl rfl) rfl rfl hl.1 (Nat.le_of_ble_eq_true rfl) dX4_holesOf_23 ⟨Nat.le_of_ble_eq_true rfl, Nat.le_of_ble_eq_true rfl⟩ ?_
          obtain ⟨k32_6, hk32_6, hf⟩ := jn_some hf
          have j32_6 : ∀ (y32_6_4 : Int32) (ls : Array Slot), k32_6 y32_6_4 = some o → lv_has ls 6 [(0, .ref (a0 0)), (1, .int p1), (3, .int p3), (4, .int y32_6_4), (5, .int y6_1_5)] → W p l e (headSpec wsX4_holesOf rmX4_holesOf).room s m args below meth c s.heap [] 0 0 Q (F0 m 32 ls []) := by
            intro y32_6_4 ls hf hl
            have hf := qa1 hk32_6 hf
            refine lv_iinc (v := y6_1_5 + 1) (lv' := [(5, .int (y6_1_5 + 1)), (0, .ref (a0 0)), (1, .int p1), (3, .int p3), (4, .int y32_6_4)]) hx hb dX4_holesOf_32 hl (k := 4) rfl rfl (by decide) rfl (fun ls hl => ?_)
            refine lv_goto (tgt := 6) hx hb dX4_holesOf_35 (by decide) ?_
            exact ih6_1 _ _ _ hf (lv_sub hl [1, 2, 3, 4, 0] rfl)
          refine lv_if_ne (tgt := 32) hx hb dX4_holesOf_26 (by decide) (fun c_7 => ?_) (fun c_7 => ?_)
          · have hf := ite_f hf c_7
            exact j32_6 _ _ hf (lv_sub hl [0, 1, 2, 3, 4] rfl)
          · have hf := ite_t hf c_7
            refine lv_iinc (v := y6_1_4 + 1) (lv' := [(4, .int (y6_1_4 + 1)), (0, .ref (a0 0)), (1, .int p1), (3, .int p3), (5, .int y6_1_5)]) hx hb dX4_holesOf_29 hl (k := 3) rfl rfl (by decide) rfl (fun ls hl => ?_)
            exact j32_6 _ _ hf (lv_sub hl [1, 2, 3, 0, 4] rfl)
  exact j6_1 4096 _ _ _ hf (lv_sub hl [2, 3, 5, 1, 0] rfl)
set_option maxRecDepth 20000 in
theorem ggX4_blocksOf_X4_isOfKind : GoodIn wsX4_blocksOf wsX4_isOfKind := goodIn_r _ [7, 8, 9, 10, 11, 6, 12, 13, 14, 15, 16, 17, 18, 19, 20, 21, 22, 23, 24, 25, 26, 27] (by decide +kernel) (by decide +kernel)
set_option maxRecDepth 20000 in
theorem gX4_blocksOf_X4_isOfKind : GoodIn wsX4_blocksOf (wsV RX4 99 RX4 yX4_isOfKind wsX4_isOfKind) := goodIn_app (goodIn_of _ (by decide +kernel)) ggX4_blocksOf_X4_isOfKind
theorem dX4_blocksOf_0 : decode cX4_blocksOf 0 = .ok (.iconst 0, 1) := by decide +kernel
theorem dX4_blocksOf_1 : decode cX4_blocksOf 1 = .ok (.istore_n 2, 1) := by decide +kernel
theorem dX4_blocksOf_2 : decode cX4_blocksOf 2 = .ok (.iconst 0, 1) := by decide +kernel
theorem dX4_blocksOf_3 : decode cX4_blocksOf 3 = .ok (.istore_n 3, 1) := by decide +kernel
theorem dX4_blocksOf_4 : decode cX4_blocksOf 4 = .ok (.iload_n 3, 1) := by decide +kernel
theorem dX4_blocksOf_5 : decode cX4_blocksOf 5 = .ok (.bipush 32, 2) := by decide +kernel
theorem dX4_blocksOf_7 : decode cX4_blocksOf 7 = .ok (.if_icmp .ge 37, 3) := by decide +kernel
theorem dX4_blocksOf_10 : decode cX4_blocksOf 10 = .ok (.aload_n 0, 1) := by decide +kernel
theorem dX4_blocksOf_11 : decode cX4_blocksOf 11 = .ok (.iload_n 3, 1) := by decide +kernel
theorem dX4_blocksOf_12 : decode cX4_blocksOf 12 = .ok (.iconst 0, 1) := by decide +kernel
theorem dX4_blocksOf_13 : decode cX4_blocksOf 13 = .ok (.invokevirtual 99, 3) := by decide +kernel
theorem dX4_blocksOf_16 : decode cX4_blocksOf 16 = .ok (.ifCond .eq 22, 3) := by decide +kernel
theorem dX4_blocksOf_19 : decode cX4_blocksOf 19 = .ok (.aload_n 0, 1) := by decide +kernel
theorem dX4_blocksOf_20 : decode cX4_blocksOf 20 = .ok (.getfield 15, 3) := by decide +kernel
theorem dX4_blocksOf_23 : decode cX4_blocksOf 23 = .ok (.iload_n 3, 1) := by decide +kernel
theorem dX4_blocksOf_24 : decode cX4_blocksOf 24 = .ok (.iaload, 1) := by decide +kernel
theorem dX4_blocksOf_25 : decode cX4_blocksOf 25 = .ok (.iload_n 1, 1) := by decide +kernel
theorem dX4_blocksOf_26 : decode cX4_blocksOf 26 = .ok (.if_icmp .ne 12, 3) := by decide +kernel
theorem dX4_blocksOf_29 : decode cX4_blocksOf 29 = .ok (.iload_n 2, 1) := by decide +kernel
theorem dX4_blocksOf_30 : decode cX4_blocksOf 30 = .ok (.aload_n 0, 1) := by decide +kernel
theorem dX4_blocksOf_31 : decode cX4_blocksOf 31 = .ok (.getfield 42, 3) := by decide +kernel
theorem dX4_blocksOf_34 : decode cX4_blocksOf 34 = .ok (.iload_n 3, 1) := by decide +kernel
theorem dX4_blocksOf_35 : decode cX4_blocksOf 35 = .ok (.iaload, 1) := by decide +kernel
theorem dX4_blocksOf_36 : decode cX4_blocksOf 36 = .ok (.iadd, 1) := by decide +kernel
theorem dX4_blocksOf_37 : decode cX4_blocksOf 37 = .ok (.istore_n 2, 1) := by decide +kernel
theorem dX4_blocksOf_38 : decode cX4_blocksOf 38 = .ok (.iinc 3 1, 3) := by decide +kernel
theorem dX4_blocksOf_41 : decode cX4_blocksOf 41 = .ok (.goto (-37), 3) := by decide +kernel
theorem dX4_blocksOf_44 : decode cX4_blocksOf 44 = .ok (.iload_n 2, 1) := by decide +kernel
theorem dX4_blocksOf_45 : decode cX4_blocksOf 45 = .ok (.ireturn, 1) := by decide +kernel
def f_X4_blocksOf (u0 : S1) (p1 : Int32) : Option (Int32) := qj2 (fun (r4_1 : Int32 → Int32 → Option (Int32)) (y4_1_2 : Int32) (y4_1_3 : Int32) => if 32 ≤ y4_1_3 then some y4_1_2 else bn (f_X4_isOfKind u0 y4_1_3 0) (fun z_3 => jn (fun (y38_4_2 : Int32) => r4_1 y38_4_2 (y4_1_3 + 1)) (fun k38_4 => if z_3 = 0 then k38_4 y4_1_2 else chk (inb y4_1_3 32) (if (u0 1 (y4_1_3).toNatClampNeg) = p1 then chk (inb y4_1_3 32) (k38_4 (y4_1_2 + (u0 10 (y4_1_3).toNatClampNeg))) else k38_4 y4_1_2)))) (fun k4_1 => k4_1 0 0)
def rmX4_blocksOf : Room := { frames := 3, cells := 0, slots := 0, locals := 63 }
set_option maxHeartbeats 4000000 in
set_option maxRecDepth 100000 in
theorem c_X4_blocksOf (l : Launch) (D : va_G) (cI cZ cJ cT : ClassId) (a0 : Nat → Nat) (u0 : S1) (p1 : Int32) (o : Int32) (hf : f_X4_blocksOf u0 p1 = some o) : Met l yX4_blocksOf wsX4_blocksOf rmX4_blocksOf (va_Pc [.ref (a0 0), .int p1] (PR D cls (tys cI cZ cJ cT) ((wX4 cI cZ a0 u0)))) (QR o) 0 0 (fun _ => False) := by
  refine Met.ofW (cc := cX4_blocksOf) (maxL := 4) (ret := (some .int)) (by decide) rfl ?_
  intro p e s m args below meth c s₁ B hml hv
  obtain ⟨hav, hP, hK⟩ := hv
  have hx := B.exec
  have hb := B.bytes
  have hr := B.returns
  have hlocks := B.notSynchronized
  have hts := atoms_spec (ws := wsX4_blocksOf) B.pre
  have hown : s.vm.findClass RX4 = some m.cls := findClass_of_methodNamed B.named
  have i4 : ∀ w ∈ wsX40, w ∈ wsX4_blocksOf := fun w h => List.mem_cons_of_mem _ (List.mem_append_right _ h)
  have hk15 := hts (.fieldLink RX4 15 "Inodery$Tree" "owners" "[I") (by decide +kernel)
  have hk42 := hts (.fieldLink RX4 42 "Inodery$Tree" "filled" "[I") (by decide +kernel)
  refine Wq (fun Q hQ => ?_)
  refine W_entry hav (Nat.le_of_ble_eq_true rfl) (fun ls hl => ?_)
  have hl : lv_has ls 4 [(0, .ref (a0 0)), (1, .int p1)] := hl
  unfold f_X4_blocksOf at hf
  refine lv_iconst (v := 0) hx hb dX4_blocksOf_0 (by decide) ?_
  refine lv_istore_n (lv' := [(2, .int 0), (0, .ref (a0 0)), (1, .int p1)]) hx hb dX4_blocksOf_1 rfl hl (by decide) rfl (fun ls hl => ?_)
  refine lv_iconst (v := 0) hx hb dX4_blocksOf_2 (by decide) ?_
  refine lv_istore_n (lv' := [(3, .int 0), (2, .int 0), (0, .ref (a0 0)), (1, .int p1)]) hx hb dX4_blocksOf_3 rfl hl (by decide) rfl (fun ls hl => ?_)
  obtain ⟨G4_1, hG4_1, hf⟩ := qj2_some hf
  have j4_1 : ∀ (n : Nat) (y4_1_2 : Int32) (y4_1_3 : Int32) (ls : Array Slot), ql2 G4_1 n y4_1_2 y4_1_3 = some o → lv_has ls 4 [(0, .ref (a0 0)), (1, .int p1), (2, .int y4_1_2), (3, .int y4_1_3)] → W p l e (headSpec wsX4_blocksOf rmX4_blocksOf).room s m args below meth c s.heap [] 0 0 Q (F0 m 4 ls []) := by
    intro n
    induction n with
    | zero => intro y4_1_2 y4_1_3 ls hf hl; exact (ql2_z hf).elim
    | succ n ih4_1 =>
      intro y4_1_2 y4_1_3 ls hf hl
      have hf := ql2_s hG4_1 hf
      obtain ⟨r4_1, hr4_1⟩ : ∃ z, z = ql2 G4_1 n := ⟨_, rfl⟩
      rw [← hr4_1] at hf ih4_1
      refine lv_iload_n hx hb dX4_blocksOf_4 rfl (lv_at hl 3 rfl) ?_
      refine lv_bipush (v := 32) hx hb dX4_blocksOf_5 (by decide) ?_
      refine lv_icmp_ge (tgt := 44) hx hb dX4_blocksOf_7 (by decide) (fun c_2 => ?_) (fun c_2 => ?_)
      · have hf := ite_t hf c_2
        refine lv_iload_n hx hb dX4_blocksOf_44 rfl (lv_at hl 2 rfl) ?_
        rw [hQ]
        exact W.iret hx hb hr (fun t ht hW => ⟨_, rfl, Option.some.inj hf, ht⟩) (fun _ h => nomatch h) dX4_blocksOf_45 hlocks
      · have hf := ite_f hf c_2
        refine lv_aload_n hx hb dX4_blocksOf_10 rfl (lv_at hl 0 rfl) ?_
        refine lv_iload_n hx hb dX4_blocksOf_11 rfl (lv_at hl 3 rfl) ?_
        refine lv_iconst (v := 0) hx hb dX4_blocksOf_12 (by decide) ?_
        obtain ⟨z_3, hz_3, hf⟩ := bn_some hf
        refine cRV (As := [.int y4_1_3, .int 0]) (rest := []) ⟨hx, hb, hml, hown, hts⟩ (c_X4_isOfKind l D cI cZ cJ cT a0 u0 y4_1_3 0 z_3 hz_3) (cwV 2 hts gX4_blocksOf_X4_isOfKind rfl rfl rfl (by decide +kernel) ⟨Nat.le_of_ble_eq_true rfl, Nat.le_of_ble_eq_true rfl⟩) hP hK (va_recv hK hP (ci := 4) (q0 := 0) rfl rfl) rfl rfl hl.1 (Nat.le_of_ble_eq_true rfl) dX4_blocksOf_13 ⟨Nat.le_of_ble_eq_true rfl, Nat.le_of_ble_eq_true rfl⟩ ?_
        obtain ⟨k38_4, hk38_4, hf⟩ := jn_some hf
        have j38_4 : ∀ (y38_4_2 : Int32) (ls : Array Slot), k38_4 y38_4_2 = some o → lv_has ls 4 [(0, .ref (a0 0)), (1, .int p1), (2, .int y38_4_2), (3, .int y4_1_3)] → W p l e (headSpec wsX4_blocksOf rmX4_blocksOf).room s m args below meth c s.heap [] 0 0 Q (F0 m 38 ls []) := by
          intro y38_4_2 ls hf hl
          have hf := qa1 hk38_4 hf
          refine lv_iinc (v := y4_1_3 + 1) (lv' := [(3, .int (y4_1_3 + 1)), (0, .ref (a0 0)), (1, .int p1), (2, .int y38_4_2)]) hx hb dX4_blocksOf_38 hl (k := 3) rfl rfl (by decide) rfl (fun ls hl => ?_)
          refine lv_goto (tgt := 4) hx hb dX4_blocksOf_41 (by decide) ?_
          exact ih4_1 _ _ _ hf (lv_sub hl [1, 2, 3, 0] rfl)
        refine lv_if_eq (tgt := 38) hx hb dX4_blocksOf_16 (by decide) (fun c_5 => ?_) (fun c_5 => ?_)
        · have hf := ite_t hf c_5
          exact j38_4 _ _ hf (lv_sub hl [0, 1, 2, 3] rfl)
        · have hf := ite_f hf c_5
          refine lv_aload_n hx hb dX4_blocksOf_19 rfl (lv_at hl 0 rfl) ?_
          refine va_get (D := D) (ci := 4) (v := .ref (a0 2)) (C := RX4) (T := TX4) (N := 12) hx hb hts i4 hown hK hP 0 rfl rfl 1 (by decide) hk15 (fun _ h9 => h9) rfl dX4_blocksOf_20 ?_
          refine lv_iload_n hx hb dX4_blocksOf_23 rfl (lv_at hl 3 rfl) ?_
          obtain ⟨hi, hf⟩ := chk_some hf
          refine va_iald hx hb hK hP 2 0 rfl rfl (inb_in hi) dX4_blocksOf_24 ?_
          refine lv_iload_n hx hb dX4_blocksOf_25 rfl (lv_at hl 1 rfl) ?_
          refine lv_icmp_ne (tgt := 38) hx hb dX4_blocksOf_26 (by decide) (fun c_6 => ?_) (fun c_6 => ?_)
          · have hf := ite_f hf c_6
            exact j38_4 _ _ hf (lv_sub hl [0, 1, 2, 3] rfl)
          · have hf := ite_t hf c_6
            refine lv_iload_n hx hb dX4_blocksOf_29 rfl (lv_at hl 2 rfl) ?_
            refine lv_aload_n hx hb dX4_blocksOf_30 rfl (lv_at hl 0 rfl) ?_
            refine va_get (D := D) (ci := 4) (v := .ref (a0 11)) (C := RX4) (T := TX4) (N := 12) hx hb hts i4 hown hK hP 0 rfl rfl 10 (by decide) hk42 (fun _ h9 => h9) rfl dX4_blocksOf_31 ?_
            refine lv_iload_n hx hb dX4_blocksOf_34 rfl (lv_at hl 3 rfl) ?_
            obtain ⟨hi, hf⟩ := chk_some hf
            refine va_iald hx hb hK hP 11 0 rfl rfl (inb_in hi) dX4_blocksOf_35 ?_
            refine lv_iadd hx hb dX4_blocksOf_36 ?_
            refine lv_istore_n (lv' := [(2, .int (y4_1_2 + (u0 10 (y4_1_3).toNatClampNeg))), (0, .ref (a0 0)), (1, .int p1), (3, .int y4_1_3)]) hx hb dX4_blocksOf_37 rfl hl (by decide) rfl (fun ls hl => ?_)
            exact j38_4 _ _ hf (lv_sub hl [1, 2, 0, 3] rfl)
  exact j4_1 4096 _ _ _ hf (lv_sub hl [2, 3, 1, 0] rfl)
