set_option maxRecDepth 20000 in
theorem ggL_user_X6_user : GoodIn wsL_user wsX6_user := goodIn_ca (goodIn_r _ [6, 7, 8, 9, 10, 11, 5, 12, 13, 14, 15, 16, 17, 18, 19, 20, 21, 22, 23] (by decide +kernel) (by decide +kernel)) (goodIn_sub (fun _ h => List.mem_cons_of_mem _ (List.mem_append_right _ h)) (by decide +kernel))
set_option maxRecDepth 20000 in
theorem gL_user_X6_user : GoodIn wsL_user (wsV RL 7 RX6 yX6_user wsX6_user) := goodIn_app (goodIn_of _ (by decide +kernel)) ggL_user_X6_user
theorem dL_user_0 : decode cL_user 0 = .ok (.aload_n 2, 1) := by decide +kernel
theorem dL_user_1 : decode cL_user 1 = .ok (.iconst 0, 1) := by decide +kernel
theorem dL_user_2 : decode cL_user 2 = .ok (.aload_n 0, 1) := by decide +kernel
theorem dL_user_3 : decode cL_user 3 = .ok (.iload_n 1, 1) := by decide +kernel
theorem dL_user_4 : decode cL_user 4 = .ok (.invokevirtual 7, 3) := by decide +kernel
theorem dL_user_7 : decode cL_user 7 = .ok (.i2l, 1) := by decide +kernel
theorem dL_user_8 : decode cL_user 8 = .ok (.lastore, 1) := by decide +kernel
theorem dL_user_9 : decode cL_user 9 = .ok (.goto 6, 3) := by decide +kernel
theorem dL_user_12 : decode cL_user 12 = .ok (.astore_n 3, 1) := by decide +kernel
theorem dL_user_13 : decode cL_user 13 = .ok (.iconst 1, 1) := by decide +kernel
theorem dL_user_14 : decode cL_user 14 = .ok (.ireturn, 1) := by decide +kernel
theorem dL_user_15 : decode cL_user 15 = .ok (.iconst 0, 1) := by decide +kernel
theorem dL_user_16 : decode cL_user 16 = .ok (.ireturn, 1) := by decide +kernel
def f_L_user (U : S2) (g : Nat → Int64) (p1 : Int32) : Option (Int32 × S2 × (Nat → Int64)) := bn (f_X6_user U p1) (fun z_1 => if z_1.1 = 0 then some (0, z_1.2.2, setL g z_1.2.1.toInt64) else if z_1.1 = 2 then some (1, z_1.2.2, g) else none)
def wsML_user : List Cond := wsL_user ++ LK
def rmL_user : Room := { frames := 7, cells := 1, slots := 6, locals := 112 }
set_option maxHeartbeats 4000000 in
set_option maxRecDepth 100000 in
theorem c_L_user (l : Launch) (hst : l.stackTraces = false) (D : va_G) (cI cZ cJ cT : ClassId) (a : Nat → Nat → Nat) (b : Nat) (sz : Nat) (U : S2) (g : Nat → Int64) (p1 : Int32) (o : Int32 × S2 × (Nat → Int64)) (hf : f_L_user U g p1 = some o) : vx_Met l yL_user wsML_user rmL_user (va_Pc [.ref (a 0 0), .int p1, .ref b] (PL D cls (tys cI cZ cJ cT) (wL cI cZ cJ cT a b U g) sz)) (QWi D cls o.1 (wL cI cZ cJ cT a b o.2.1 o.2.2) (va_A (wL cI cZ cJ cT a b U g) sz)) (vx_X (fun (_ : Unit) => False) (fun _ _ _ => True) (va_A (wL cI cZ cJ cT a b U g) sz)) 1 6 (va_A (wL cI cZ cJ cT a b U g) sz) := by
  refine vx_ofWH (cc := cL_user) (maxL := 4) (ret := (some .int)) (by decide) rfl ?_
  intro p e s m args below meth c s₁ B hml hv
  obtain ⟨hav, ⟨⟨hsz, hP, hK, hD0⟩, hE⟩, hN⟩ := hv
  have hx := B.exec
  have hb := B.bytes
  have hr := B.returns
  have hlocks := B.notSynchronized
  have hts := atoms_spec (ws := wsML_user) B.pre
  have hown : s.vm.findClass RL = some m.cls := findClass_of_methodNamed B.named
  have htb : c.exceptionTable.toList = [⟨0, 9, 12, 13⟩] := vx_table (x := yL_user) B (hts _ (List.mem_append_left _ List.mem_cons_self))
  subst hsz
  have hD := hD0.self (sz := s.heap.size)
  generalize hAe : va_A (wL cI cZ cJ cT a b U g) s.heap.size = A at hD hE ⊢
  have hA : ∀ q : Nat, s.heap.size ≤ q → A q := fun q h => by rw [← hAe]; exact Or.inr h
  have hS : va_S A s.heap s.heap [] := va_S.rf
  have hDD : ∀ (V : S2) (k : Nat → Int64), va_D A (wL cI cZ cJ cT a b V k) := fun _ _ => D_same (w := (wL cI cZ cJ cT a b U g)) rfl hD
  refine Wq (fun Q hQ => ?_)
  refine W_entry hav (Nat.le_of_ble_eq_true rfl) (fun ls hl => ?_)
  have hl : lv_has ls 4 [(0, .ref (a 0 0)), (1, .int p1), (2, .ref b)] := hl
  unfold f_L_user at hf
  refine W_heap hP hS (fun H locs hP hS => ?_)
  refine lv_aload_n hx hb dL_user_0 rfl (lv_at hl 2 rfl) ?_
  refine lv_iconst (v := 0) hx hb dL_user_1 (by decide) ?_
  refine lv_aload_n hx hb dL_user_2 rfl (lv_at hl 0 rfl) ?_
  refine lv_iload_n hx hb dL_user_3 rfl (lv_at hl 1 rfl) ?_
  obtain ⟨z_1, hz_1, hf⟩ := bn_some hf
  refine cYVi (As := [.int p1]) (rest := [.int 0, .ref b]) ⟨hx, hb, hml, hown, hts⟩ (c_X6_user l hst D cI cZ cJ cT a H.size U p1 z_1 hz_1) (cwV 1 hts (gM_sub gL_user_X6_user) rfl rfl rfl (by decide +kernel) ⟨Nat.le_of_ble_eq_true rfl, Nat.le_of_ble_eq_true rfl⟩) (fl_sub hP 0 rfl) hK (fl_subD (hDD U g) 0 rfl) hE hS (fl_free (hDD U g) hS hA 0 rfl) (va_recv hK (fl_sub (fl_sub hP 0 rfl) 0 rfl) (ci := 6) (q0 := 0) rfl rfl) rfl rfl hl.1 (Nat.le_of_ble_eq_true rfl) dL_user_4 ⟨Nat.le_of_ble_eq_true rfl, Nat.le_of_ble_eq_true rfl⟩ (fun E ce q9 H1 locs k_2 hE9 hP1 hk1 hS hce hcv hcl => ?_) (fun H1 locs k_2 hP1 hk1 hS => ?_)
  · have hf := ite_f hf k_2
    have hP : va_P D cls (wL cI cZ cJ cT a b z_1.2.2 g) H1 := fl_join hP (hDD U g) 0 rfl hk1 hP1
    clear hP1 hk1
    generalize H1 = H at hP hS hce ⊢
    by_cases e_3 : z_1.1 = 2
    · have hf := ite_t hf e_3
      have hE8 : E = "java/lang/IndexOutOfBoundsException" := by rw [hE9, e_3]; rfl
      subst hE8
      refine vx_catch hown [] ⟨0, 9, 12, 13⟩ [] htb (fun z hz => absurd hz List.not_mem_nil) (by decide) (by decide) (hts (.classLink RL 13 "java/lang/IndexOutOfBoundsException") (List.mem_append_right _ (by decide +kernel))) (EX_bad hE (by decide +kernel)) hce hcv hcl ?_
      refine lv_astore_n (lv' := [(3, .ref q9), (0, .ref (a 0 0)), (1, .int p1), (2, .ref b)]) hx hb dL_user_12 rfl hl (by decide) rfl (fun ls hl => ?_)
      refine lv_iconst (v := 1) hx hb dL_user_13 (by decide) ?_
      have eo := Option.some.inj hf
      have hP : va_P D cls (wL cI cZ cJ cT a b o.2.1 o.2.2) H := by rw [← eo]; exact hP
      rw [hQ]
      refine W.widen (k := 1) (n := 6) (Nat.le_of_ble_eq_true rfl) (Nat.le_of_ble_eq_true rfl) ?_
      exact vx_ret (W.iret hx hb hr (fun t ht hW => ⟨⟨_, (), rfl, (by rw [← eo]), P_at ht hP⟩, hS.F ht⟩) hS.2.2 dL_user_14 hlocks)
    have hf := ite_f hf e_3
    exact nomatch hf
  have hf := ite_t hf k_2
  have hP : va_P D cls (wL cI cZ cJ cT a b z_1.2.2 g) H1 := fl_join hP (hDD U g) 0 rfl hk1 hP1
  clear hP1 hk1
  generalize H1 = H at hP hS ⊢
  refine lv_i2l (v := z_1.2.1.toInt64) hx hb dL_user_7 rfl ?_
  refine va_last hx hb hK hP (hDD z_1.2.2 g) hS 86 2 rfl rfl (inb_in (i := 0) (n := 1) (by decide)) dL_user_8 (fun H locs hP _ hS => ?_)
  have hP : va_P D cls (wL cI cZ cJ cT a b z_1.2.2 (setL g z_1.2.1.toInt64)) H := hP
  refine lv_goto (tgt := 15) hx hb dL_user_9 (by decide) ?_
  refine lv_iconst (v := 0) hx hb dL_user_15 (by decide) ?_
  have eo := Option.some.inj hf
  have hP : va_P D cls (wL cI cZ cJ cT a b o.2.1 o.2.2) H := by rw [← eo]; exact hP
  rw [hQ]
  refine W.widen (k := 1) (n := 6) (Nat.le_of_ble_eq_true rfl) (Nat.le_of_ble_eq_true rfl) ?_
  exact vx_ret (W.iret hx hb hr (fun t ht hW => ⟨⟨_, (), rfl, (by rw [← eo]), P_at ht hP⟩, hS.F ht⟩) hS.2.2 dL_user_16 hlocks)
set_option maxRecDepth 20000 in
theorem ggL_file_X6_file : GoodIn wsL_file wsX6_file := goodIn_ca (goodIn_ca (goodIn_ca (goodIn_r _ [6, 7, 8, 9, 5, 10, 11, 12, 13, 14, 15, 16, 17, 18, 19, 20, 21, 22, 23, 24, 25, 26, 27, 28, 29, 30, 31, 32, 33, 34, 35, 36, 37, 38, 39, 40, 41, 42, 43, 44, 45, 46, 47, 48, 49, 50, 51, 52, 53, 54, 55, 56, 57, 58, 59, 60, 61, 62, 63, 64, 65, 66, 67, 68, 69, 70, 71, 72, 73, 74, 75, 76, 77, 78, 79, 80, 81, 82, 83, 84, 85, 86, 87, 88, 89, 90, 91, 92, 93, 94, 95, 96, 97, 98, 99, 100, 101, 102, 103, 104, 105, 106, 107, 108, 109, 110, 111, 112, 113, 114, 115, 116, 117, 118, 119, 120, 121, 122, 123, 124, 125, 126, 127, 128, 129, 130, 131, 132, 133, 134, 135, 136, 137, 138, 139, 140, 141, 142, 143, 144, 145, 146, 147, 148, 149, 150, 151, 152, 153, 154, 155, 156, 157, 158, 159, 160, 161, 162, 163, 164] (by decide +kernel) (by decide +kernel)) (goodIn_sub (fun _ h => List.mem_cons_of_mem _ (List.mem_append_left _ (List.mem_append_left _ (List.mem_append_right _ h)))) (by decide +kernel))) (goodIn_sub (fun _ h => List.mem_cons_of_mem _ (List.mem_append_left _ (List.mem_append_right _ h))) (by decide +kernel))) (goodIn_sub (fun _ h => List.mem_cons_of_mem _ (List.mem_append_right _ h)) (by decide +kernel))
set_option maxRecDepth 20000 in
theorem gL_file_X6_file : GoodIn wsL_file (wsV RL 15 RX6 yX6_file wsX6_file) := goodIn_app (goodIn_of _ (by decide +kernel)) ggL_file_X6_file
theorem dL_file_0 : decode cL_file 0 = .ok (.aload_n 3, 1) := by decide +kernel
theorem dL_file_1 : decode cL_file 1 = .ok (.iconst 0, 1) := by decide +kernel
theorem dL_file_2 : decode cL_file 2 = .ok (.aload_n 0, 1) := by decide +kernel
theorem dL_file_3 : decode cL_file 3 = .ok (.iload_n 1, 1) := by decide +kernel
theorem dL_file_4 : decode cL_file 4 = .ok (.iload_n 2, 1) := by decide +kernel
theorem dL_file_5 : decode cL_file 5 = .ok (.invokevirtual 15, 3) := by decide +kernel
theorem dL_file_8 : decode cL_file 8 = .ok (.i2l, 1) := by decide +kernel
theorem dL_file_9 : decode cL_file 9 = .ok (.lastore, 1) := by decide +kernel
theorem dL_file_10 : decode cL_file 10 = .ok (.goto 15, 3) := by decide +kernel
theorem dL_file_13 : decode cL_file 13 = .ok (.astore 4, 2) := by decide +kernel
theorem dL_file_15 : decode cL_file 15 = .ok (.iconst 1, 1) := by decide +kernel
theorem dL_file_16 : decode cL_file 16 = .ok (.ireturn, 1) := by decide +kernel
theorem dL_file_17 : decode cL_file 17 = .ok (.astore 4, 2) := by decide +kernel
theorem dL_file_19 : decode cL_file 19 = .ok (.iconst 2, 1) := by decide +kernel
theorem dL_file_20 : decode cL_file 20 = .ok (.ireturn, 1) := by decide +kernel
theorem dL_file_21 : decode cL_file 21 = .ok (.astore 4, 2) := by decide +kernel
theorem dL_file_23 : decode cL_file 23 = .ok (.iconst 3, 1) := by decide +kernel
theorem dL_file_24 : decode cL_file 24 = .ok (.ireturn, 1) := by decide +kernel
theorem dL_file_25 : decode cL_file 25 = .ok (.iconst 0, 1) := by decide +kernel
theorem dL_file_26 : decode cL_file 26 = .ok (.ireturn, 1) := by decide +kernel
def f_L_file (U : S2) (g : Nat → Int64) (p1 : Int32) (p2 : Int32) : Option (Int32 × S2 × (Nat → Int64)) := bn (f_X6_file U p1 p2) (fun z_1 => if z_1.1 = 0 then some (0, z_1.2.2, setL g z_1.2.1.toInt64) else if z_1.1 = 1 then some (1, z_1.2.2, g) else if z_1.1 = 2 then some (2, z_1.2.2, g) else if z_1.1 = 3 then some (3, z_1.2.2, g) else none)
def wsML_file : List Cond := wsL_file ++ LK
def rmL_file : Room := { frames := 8, cells := 1, slots := 6, locals := 164 }
set_option maxHeartbeats 4000000 in
set_option maxRecDepth 100000 in
theorem c_L_file (l : Launch) (hst : l.stackTraces = false) (D : va_G) (cI cZ cJ cT : ClassId) (a : Nat → Nat → Nat) (b : Nat) (sz : Nat) (U : S2) (g : Nat → Int64) (p1 : Int32) (p2 : Int32) (o : Int32 × S2 × (Nat → Int64)) (hf : f_L_file U g p1 p2 = some o) : vx_Met l yL_file wsML_file rmL_file (va_Pc [.ref (a 0 0), .int p1, .int p2, .ref b] (PL D cls (tys cI cZ cJ cT) (wL cI cZ cJ cT a b U g) sz)) (QWi D cls o.1 (wL cI cZ cJ cT a b o.2.1 o.2.2) (va_A (wL cI cZ cJ cT a b U g) sz)) (vx_X (fun (_ : Unit) => False) (fun _ _ _ => True) (va_A (wL cI cZ cJ cT a b U g) sz)) 1 6 (va_A (wL cI cZ cJ cT a b U g) sz) := by
  refine vx_ofWH (cc := cL_file) (maxL := 5) (ret := (some .int)) (by decide) rfl ?_
  intro p e s m args below meth c s₁ B hml hv
  obtain ⟨hav, ⟨⟨hsz, hP, hK, hD0⟩, hE⟩, hN⟩ := hv
  have hx := B.exec
  have hb := B.bytes
  have hr := B.returns
  have hlocks := B.notSynchronized
  have hts := atoms_spec (ws := wsML_file) B.pre
  have hown : s.vm.findClass RL = some m.cls := findClass_of_methodNamed B.named
  have htb : c.exceptionTable.toList = [⟨0, 10, 13, 19⟩, ⟨0, 10, 17, 13⟩, ⟨0, 10, 21, 21⟩] := vx_table (x := yL_file) B (hts _ (List.mem_append_left _ List.mem_cons_self))
  subst hsz
  have hD := hD0.self (sz := s.heap.size)
  generalize hAe : va_A (wL cI cZ cJ cT a b U g) s.heap.size = A at hD hE ⊢
  have hA : ∀ q : Nat, s.heap.size ≤ q → A q := fun q h => by rw [← hAe]; exact Or.inr h
  have hS : va_S A s.heap s.heap [] := va_S.rf
  have hDD : ∀ (V : S2) (k : Nat → Int64), va_D A (wL cI cZ cJ cT a b V k) := fun _ _ => D_same (w := (wL cI cZ cJ cT a b U g)) rfl hD
  refine Wq (fun Q hQ => ?_)
  refine W_entry hav (Nat.le_of_ble_eq_true rfl) (fun ls hl => ?_)
  have hl : lv_has ls 5 [(0, .ref (a 0 0)), (1, .int p1), (2, .int p2), (3, .ref b)] := hl
  unfold f_L_file at hf
  refine W_heap hP hS (fun H locs hP hS => ?_)
  refine lv_aload_n hx hb dL_file_0 rfl (lv_at hl 3 rfl) ?_
  refine lv_iconst (v := 0) hx hb dL_file_1 (by decide) ?_
  refine lv_aload_n hx hb dL_file_2 rfl (lv_at hl 0 rfl) ?_
  refine lv_iload_n hx hb dL_file_3 rfl (lv_at hl 1 rfl) ?_
  refine lv_iload_n hx hb dL_file_4 rfl (lv_at hl 2 rfl) ?_
  obtain ⟨z_1, hz_1, hf⟩ := bn_some hf
  refine cYVi (As := [.int p1, .int p2]) (rest := [.int 0, .ref b]) ⟨hx, hb, hml, hown, hts⟩ (c_X6_file l hst D cI cZ cJ cT a H.size U p1 p2 z_1 hz_1) (cwV 2 hts (gM_sub gL_file_X6_file) rfl rfl rfl (by decide +kernel) ⟨Nat.le_of_ble_eq_true rfl, Nat.le_of_ble_eq_true rfl⟩) (fl_sub hP 0 rfl) hK (fl_subD (hDD U g) 0 rfl) hE hS (fl_free (hDD U g) hS hA 0 rfl) (va_recv hK (fl_sub (fl_sub hP 0 rfl) 0 rfl) (ci := 6) (q0 := 0) rfl rfl) rfl rfl hl.1 (Nat.le_of_ble_eq_true rfl) dL_file_5 ⟨Nat.le_of_ble_eq_true rfl, Nat.le_of_ble_eq_true rfl⟩ (fun E ce q9 H1 locs k_2 hE9 hP1 hk1 hS hce hcv hcl => ?_) (fun H1 locs k_2 hP1 hk1 hS => ?_)
  · have hf := ite_f hf k_2
    have hP : va_P D cls (wL cI cZ cJ cT a b z_1.2.2 g) H1 := fl_join hP (hDD U g) 0 rfl hk1 hP1
    clear hP1 hk1
    generalize H1 = H at hP hS hce ⊢
    by_cases e_3 : z_1.1 = 1
    · have hf := ite_t hf e_3
      have hE8 : E = "java/lang/IllegalArgumentException" := by rw [hE9, e_3]; rfl
      subst hE8
      refine vx_catch hown [] ⟨0, 10, 13, 19⟩ [⟨0, 10, 17, 13⟩, ⟨0, 10, 21, 21⟩] htb (fun z hz => absurd hz List.not_mem_nil) (by decide) (by decide) (hts (.classLink RL 19 "java/lang/IllegalArgumentException") (List.mem_append_right _ (by decide +kernel))) (EX_bad hE (by decide +kernel)) hce hcv hcl ?_
      refine lv_astore (lv' := [(4, .ref q9), (0, .ref (a 0 0)), (1, .int p1), (2, .int p2), (3, .ref b)]) hx hb dL_file_13 hl (by decide) rfl (fun ls hl => ?_)
      refine lv_iconst (v := 1) hx hb dL_file_15 (by decide) ?_
      have eo := Option.some.inj hf
      have hP : va_P D cls (wL cI cZ cJ cT a b o.2.1 o.2.2) H := by rw [← eo]; exact hP
      rw [hQ]
      refine W.widen (k := 1) (n := 6) (Nat.le_of_ble_eq_true rfl) (Nat.le_of_ble_eq_true rfl) ?_
      exact vx_ret (W.iret hx hb hr (fun t ht hW => ⟨⟨_, (), rfl, (by rw [← eo]), P_at ht hP⟩, hS.F ht⟩) hS.2.2 dL_file_16 hlocks)
    have hf := ite_f hf e_3
    by_cases e_4 : z_1.1 = 2
    · have hf := ite_t hf e_4
      have hE8 : E = "java/lang/IndexOutOfBoundsException" := by rw [hE9, e_4]; rfl
      subst hE8
      refine vx_catch hown [⟨0, 10, 13, 19⟩] ⟨0, 10, 17, 13⟩ [⟨0, 10, 21, 21⟩] htb (List.forall_mem_cons.mpr ⟨Or.inr ⟨by decide, "java/lang/IllegalArgumentException", hts (.classLink RL 19 "java/lang/IllegalArgumentException") (List.mem_append_right _ (by decide +kernel)), hN 2 1 (by decide) (by decide) (by decide)⟩, fun z hz => absurd hz List.not_mem_nil⟩) (by decide) (by decide) (hts (.classLink RL 13 "java/lang/IndexOutOfBoundsException") (List.mem_append_right _ (by decide +kernel))) (EX_bad hE (by decide +kernel)) hce hcv hcl ?_
      refine lv_astore (lv' := [(4, .ref q9), (0, .ref (a 0 0)), (1, .int p1), (2, .int p2), (3, .ref b)]) hx hb dL_file_17 hl (by decide) rfl (fun ls hl => ?_)
      refine lv_iconst (v := 2) hx hb dL_file_19 (by decide) ?_
      have eo := Option.some.inj hf
      have hP : va_P D cls (wL cI cZ cJ cT a b o.2.1 o.2.2) H := by rw [← eo]; exact hP
      rw [hQ]
      refine W.widen (k := 1) (n := 6) (Nat.le_of_ble_eq_true rfl) (Nat.le_of_ble_eq_true rfl) ?_
      exact vx_ret (W.iret hx hb hr (fun t ht hW => ⟨⟨_, (), rfl, (by rw [← eo]), P_at ht hP⟩, hS.F ht⟩) hS.2.2 dL_file_20 hlocks)
    have hf := ite_f hf e_4
    by_cases e_5 : z_1.1 = 3
    · have hf := ite_t hf e_5
      have hE8 : E = "java/lang/IllegalStateException" := by rw [hE9, e_5]; rfl
      subst hE8
      refine vx_catch hown [⟨0, 10, 13, 19⟩, ⟨0, 10, 17, 13⟩] ⟨0, 10, 21, 21⟩ [] htb (List.forall_mem_cons.mpr ⟨Or.inr ⟨by decide, "java/lang/IllegalArgumentException", hts (.classLink RL 19 "java/lang/IllegalArgumentException") (List.mem_append_right _ (by decide +kernel)), hN 3 1 (by decide) (by decide) (by decide)⟩, List.forall_mem_cons.mpr ⟨Or.inr ⟨by decide, "java/lang/IndexOutOfBoundsException", hts (.classLink RL 13 "java/lang/IndexOutOfBoundsException") (List.mem_append_right _ (by decide +kernel)), hN 3 2 (by decide) (by decide) (by decide)⟩, fun z hz => absurd hz List.not_mem_nil⟩⟩) (by decide) (by decide) (hts (.classLink RL 21 "java/lang/IllegalStateException") (List.mem_append_right _ (by decide +kernel))) (EX_bad hE (by decide +kernel)) hce hcv hcl ?_
      refine lv_astore (lv' := [(4, .ref q9), (0, .ref (a 0 0)), (1, .int p1), (2, .int p2), (3, .ref b)]) hx hb dL_file_21 hl (by decide) rfl (fun ls hl => ?_)
      refine lv_iconst (v := 3) hx hb dL_file_23 (by decide) ?_
      have eo := Option.some.inj hf
      have hP : va_P D cls (wL cI cZ cJ cT a b o.2.1 o.2.2) H := by rw [← eo]; exact hP
      rw [hQ]
      refine W.widen (k := 1) (n := 6) (Nat.le_of_ble_eq_true rfl) (Nat.le_of_ble_eq_true rfl) ?_
      exact vx_ret (W.iret hx hb hr (fun t ht hW => ⟨⟨_, (), rfl, (by rw [← eo]), P_at ht hP⟩, hS.F ht⟩) hS.2.2 dL_file_24 hlocks)
    have hf := ite_f hf e_5
    exact nomatch hf
  have hf := ite_t hf k_2
  have hP : va_P D cls (wL cI cZ cJ cT a b z_1.2.2 g) H1 := fl_join hP (hDD U g) 0 rfl hk1 hP1
  clear hP1 hk1
  generalize H1 = H at hP hS ⊢
  refine lv_i2l (v := z_1.2.1.toInt64) hx hb dL_file_8 rfl ?_
  refine va_last hx hb hK hP (hDD z_1.2.2 g) hS 86 2 rfl rfl (inb_in (i := 0) (n := 1) (by decide)) dL_file_9 (fun H locs hP _ hS => ?_)
  have hP : va_P D cls (wL cI cZ cJ cT a b z_1.2.2 (setL g z_1.2.1.toInt64)) H := hP
  refine lv_goto (tgt := 25) hx hb dL_file_10 (by decide) ?_
  refine lv_iconst (v := 0) hx hb dL_file_25 (by decide) ?_
  have eo := Option.some.inj hf
  have hP : va_P D cls (wL cI cZ cJ cT a b o.2.1 o.2.2) H := by rw [← eo]; exact hP
  rw [hQ]
  refine W.widen (k := 1) (n := 6) (Nat.le_of_ble_eq_true rfl) (Nat.le_of_ble_eq_true rfl) ?_
  exact vx_ret (W.iret hx hb hr (fun t ht hW => ⟨⟨_, (), rfl, (by rw [← eo]), P_at ht hP⟩, hS.F ht⟩) hS.2.2 dL_file_26 hlocks)
set_option maxRecDepth 20000 in
theorem ggL_folder_X6_folder : GoodIn wsL_folder wsX6_folder := goodIn_ca (goodIn_ca (goodIn_ca (goodIn_r _ [6, 7, 8, 9, 5, 10, 11, 12, 13, 14, 15, 16, 17, 18, 19, 20, 21, 22, 23, 24, 25, 26, 27, 28, 29, 30, 31, 32, 33, 34, 35, 36, 37, 38, 39, 40, 41, 42, 43, 44, 45, 46, 47, 48, 49, 50, 51, 52, 53, 54, 55, 56, 57, 58, 59, 60, 61, 62, 63, 64, 65, 66, 67, 68, 69, 70, 71, 72, 73, 74, 75, 76, 77, 78, 79, 80, 81, 82, 83, 84, 85, 86, 87, 88, 89, 90, 91, 92, 93, 94, 95, 96, 97, 98, 99, 100, 101, 102, 103, 104, 105, 106, 107, 108, 109, 110, 111, 112, 113, 114, 115, 116, 117, 118, 119, 120, 121, 122, 123, 124, 125, 126, 127, 128, 129, 130, 131, 132, 133, 134, 135, 136, 137, 138, 139, 140, 141, 142, 143, 144, 145, 146, 147, 148, 149, 150, 151, 152, 153, 154, 155, 156, 157, 158, 159, 160, 161, 162, 163, 164] (by decide +kernel) (by decide +kernel)) (goodIn_sub (fun _ h => List.mem_cons_of_mem _ (List.mem_append_left _ (List.mem_append_left _ (List.mem_append_right _ h)))) (by decide +kernel))) (goodIn_sub (fun _ h => List.mem_cons_of_mem _ (List.mem_append_left _ (List.mem_append_right _ h))) (by decide +kernel))) (goodIn_sub (fun _ h => List.mem_cons_of_mem _ (List.mem_append_right _ h)) (by decide +kernel))
set_option maxRecDepth 20000 in
theorem gL_folder_X6_folder : GoodIn wsL_folder (wsV RL 23 RX6 yX6_folder wsX6_folder) := goodIn_app (goodIn_of _ (by decide +kernel)) ggL_folder_X6_folder
theorem dL_folder_0 : decode cL_folder 0 = .ok (.aload_n 3, 1) := by decide +kernel
theorem dL_folder_1 : decode cL_folder 1 = .ok (.iconst 0, 1) := by decide +kernel
theorem dL_folder_2 : decode cL_folder 2 = .ok (.aload_n 0, 1) := by decide +kernel
theorem dL_folder_3 : decode cL_folder 3 = .ok (.iload_n 1, 1) := by decide +kernel
theorem dL_folder_4 : decode cL_folder 4 = .ok (.iload_n 2, 1) := by decide +kernel
theorem dL_folder_5 : decode cL_folder 5 = .ok (.invokevirtual 23, 3) := by decide +kernel
theorem dL_folder_8 : decode cL_folder 8 = .ok (.i2l, 1) := by decide +kernel
theorem dL_folder_9 : decode cL_folder 9 = .ok (.lastore, 1) := by decide +kernel
theorem dL_folder_10 : decode cL_folder 10 = .ok (.goto 15, 3) := by decide +kernel
theorem dL_folder_13 : decode cL_folder 13 = .ok (.astore 4, 2) := by decide +kernel
theorem dL_folder_15 : decode cL_folder 15 = .ok (.iconst 1, 1) := by decide +kernel
theorem dL_folder_16 : decode cL_folder 16 = .ok (.ireturn, 1) := by decide +kernel
theorem dL_folder_17 : decode cL_folder 17 = .ok (.astore 4, 2) := by decide +kernel
theorem dL_folder_19 : decode cL_folder 19 = .ok (.iconst 2, 1) := by decide +kernel
theorem dL_folder_20 : decode cL_folder 20 = .ok (.ireturn, 1) := by decide +kernel
theorem dL_folder_21 : decode cL_folder 21 = .ok (.astore 4, 2) := by decide +kernel
theorem dL_folder_23 : decode cL_folder 23 = .ok (.iconst 3, 1) := by decide +kernel
theorem dL_folder_24 : decode cL_folder 24 = .ok (.ireturn, 1) := by decide +kernel
theorem dL_folder_25 : decode cL_folder 25 = .ok (.iconst 0, 1) := by decide +kernel
theorem dL_folder_26 : decode cL_folder 26 = .ok (.ireturn, 1) := by decide +kernel
def f_L_folder (U : S2) (g : Nat → Int64) (p1 : Int32) (p2 : Int32) : Option (Int32 × S2 × (Nat → Int64)) := bn (f_X6_folder U p1 p2) (fun z_1 => if z_1.1 = 0 then some (0, z_1.2.2, setL g z_1.2.1.toInt64) else if z_1.1 = 1 then some (1, z_1.2.2, g) else if z_1.1 = 2 then some (2, z_1.2.2, g) else if z_1.1 = 3 then some (3, z_1.2.2, g) else none)
def wsML_folder : List Cond := wsL_folder ++ LK
def rmL_folder : Room := { frames := 8, cells := 1, slots := 6, locals := 164 }
set_option maxHeartbeats 4000000 in
set_option maxRecDepth 100000 in
theorem c_L_folder (l : Launch) (hst : l.stackTraces = false) (D : va_G) (cI cZ cJ cT : ClassId) (a : Nat → Nat → Nat) (b : Nat) (sz : Nat) (U : S2) (g : Nat → Int64) (p1 : Int32) (p2 : Int32) (o : Int32 × S2 × (Nat → Int64)) (hf : f_L_folder U g p1 p2 = some o) : vx_Met l yL_folder wsML_folder rmL_folder (va_Pc [.ref (a 0 0), .int p1, .int p2, .ref b] (PL D cls (tys cI cZ cJ cT) (wL cI cZ cJ cT a b U g) sz)) (QWi D cls o.1 (wL cI cZ cJ cT a b o.2.1 o.2.2) (va_A (wL cI cZ cJ cT a b U g) sz)) (vx_X (fun (_ : Unit) => False) (fun _ _ _ => True) (va_A (wL cI cZ cJ cT a b U g) sz)) 1 6 (va_A (wL cI cZ cJ cT a b U g) sz) := by
  refine vx_ofWH (cc := cL_folder) (maxL := 5) (ret := (some .int)) (by decide) rfl ?_
  intro p e s m args below meth c s₁ B hml hv
  obtain ⟨hav, ⟨⟨hsz, hP, hK, hD0⟩, hE⟩, hN⟩ := hv
  have hx := B.exec
  have hb := B.bytes
  have hr := B.returns
  have hlocks := B.notSynchronized
  have hts := atoms_spec (ws := wsML_folder) B.pre
  have hown : s.vm.findClass RL = some m.cls := findClass_of_methodNamed B.named
  have htb : c.exceptionTable.toList = [⟨0, 10, 13, 19⟩, ⟨0, 10, 17, 13⟩, ⟨0, 10, 21, 21⟩] := vx_table (x := yL_folder) B (hts _ (List.mem_append_left _ List.mem_cons_self))
  subst hsz
  have hD := hD0.self (sz := s.heap.size)
  generalize hAe : va_A (wL cI cZ cJ cT a b U g) s.heap.size = A at hD hE ⊢
  have hA : ∀ q : Nat, s.heap.size ≤ q → A q := fun q h => by rw [← hAe]; exact Or.inr h
  have hS : va_S A s.heap s.heap [] := va_S.rf
  have hDD : ∀ (V : S2) (k : Nat → Int64), va_D A (wL cI cZ cJ cT a b V k) := fun _ _ => D_same (w := (wL cI cZ cJ cT a b U g)) rfl hD
  refine Wq (fun Q hQ => ?_)
  refine W_entry hav (Nat.le_of_ble_eq_true rfl) (fun ls hl => ?_)
  have hl : lv_has ls 5 [(0, .ref (a 0 0)), (1, .int p1), (2, .int p2), (3, .ref b)] := hl
  unfold f_L_folder at hf
  refine W_heap hP hS (fun H locs hP hS => ?_)
  refine lv_aload_n hx hb dL_folder_0 rfl (lv_at hl 3 rfl) ?_
  refine lv_iconst (v := 0) hx hb dL_folder_1 (by decide) ?_
  refine lv_aload_n hx hb dL_folder_2 rfl (lv_at hl 0 rfl) ?_
  refine lv_iload_n hx hb dL_folder_3 rfl (lv_at hl 1 rfl) ?_
  refine lv_iload_n hx hb dL_folder_4 rfl (lv_at hl 2 rfl) ?_
  obtain ⟨z_1, hz_1, hf⟩ := bn_some hf
  refine cYVi (As := [.int p1, .int p2]) (rest := [.int 0, .ref b]) ⟨hx, hb, hml, hown, hts⟩ (c_X6_folder l hst D cI cZ cJ cT a H.size U p1 p2 z_1 hz_1) (cwV 2 hts (gM_sub gL_folder_X6_folder) rfl rfl rfl (by decide +kernel) ⟨Nat.le_of_ble_eq_true rfl, Nat.le_of_ble_eq_true rfl⟩) (fl_sub hP 0 rfl) hK (fl_subD (hDD U g) 0 rfl) hE hS (fl_free (hDD U g) hS hA 0 rfl) (va_recv hK (fl_sub (fl_sub hP 0 rfl) 0 rfl) (ci := 6) (q0 := 0) rfl rfl) rfl rfl hl.1 (Nat.le_of_ble_eq_true rfl) dL_folder_5 ⟨Nat.le_of_ble_eq_true rfl, Nat.le_of_ble_eq_true rfl⟩ (fun E ce q9 H1 locs k_2 hE9 hP1 hk1 hS hce hcv hcl => ?_) (fun H1 locs k_2 hP1 hk1 hS => ?_)
  · have hf := ite_f hf k_2
    have hP : va_P D cls (wL cI cZ cJ cT a b z_1.2.2 g) H1 := fl_join hP (hDD U g) 0 rfl hk1 hP1
    clear hP1 hk1
    generalize H1 = H at hP hS hce ⊢
    by_cases e_3 : z_1.1 = 1
    · have hf := ite_t hf e_3
      have hE8 : E = "java/lang/IllegalArgumentException" := by rw [hE9, e_3]; rfl
      subst hE8
      refine vx_catch hown [] ⟨0, 10, 13, 19⟩ [⟨0, 10, 17, 13⟩, ⟨0, 10, 21, 21⟩] htb (fun z hz => absurd hz List.not_mem_nil) (by decide) (by decide) (hts (.classLink RL 19 "java/lang/IllegalArgumentException") (List.mem_append_right _ (by decide +kernel))) (EX_bad hE (by decide +kernel)) hce hcv hcl ?_
      refine lv_astore (lv' := [(4, .ref q9), (0, .ref (a 0 0)), (1, .int p1), (2, .int p2), (3, .ref b)]) hx hb dL_folder_13 hl (by decide) rfl (fun ls hl => ?_)
      refine lv_iconst (v := 1) hx hb dL_folder_15 (by decide) ?_
      have eo := Option.some.inj hf
      have hP : va_P D cls (wL cI cZ cJ cT a b o.2.1 o.2.2) H := by rw [← eo]; exact hP
      rw [hQ]
      refine W.widen (k := 1) (n := 6) (Nat.le_of_ble_eq_true rfl) (Nat.le_of_ble_eq_true rfl) ?_
      exact vx_ret (W.iret hx hb hr (fun t ht hW => ⟨⟨_, (), rfl, (by rw [← eo]), P_at ht hP⟩, hS.F ht⟩) hS.2.2 dL_folder_16 hlocks)
    have hf := ite_f hf e_3
    by_cases e_4 : z_1.1 = 2
    · have hf := ite_t hf e_4
      have hE8 : E = "java/lang/IndexOutOfBoundsException" := by rw [hE9, e_4]; rfl
      subst hE8
      refine vx_catch hown [⟨0, 10, 13, 19⟩] ⟨0, 10, 17, 13⟩ [⟨0, 10, 21, 21⟩] htb (List.forall_mem_cons.mpr ⟨Or.inr ⟨by decide, "java/lang/IllegalArgumentException", hts (.classLink RL 19 "java/lang/IllegalArgumentException") (List.mem_append_right _ (by decide +kernel)), hN 2 1 (by decide) (by decide) (by decide)⟩, fun z hz => absurd hz List.not_mem_nil⟩) (by decide) (by decide) (hts (.classLink RL 13 "java/lang/IndexOutOfBoundsException") (List.mem_append_right _ (by decide +kernel))) (EX_bad hE (by decide +kernel)) hce hcv hcl ?_
      refine lv_astore (lv' := [(4, .ref q9), (0, .ref (a 0 0)), (1, .int p1), (2, .int p2), (3, .ref b)]) hx hb dL_folder_17 hl (by decide) rfl (fun ls hl => ?_)
      refine lv_iconst (v := 2) hx hb dL_folder_19 (by decide) ?_
      have eo := Option.some.inj hf
      have hP : va_P D cls (wL cI cZ cJ cT a b o.2.1 o.2.2) H := by rw [← eo]; exact hP
      rw [hQ]
      refine W.widen (k := 1) (n := 6) (Nat.le_of_ble_eq_true rfl) (Nat.le_of_ble_eq_true rfl) ?_
      exact vx_ret (W.iret hx hb hr (fun t ht hW => ⟨⟨_, (), rfl, (by rw [← eo]), P_at ht hP⟩, hS.F ht⟩) hS.2.2 dL_folder_20 hlocks)
    have hf := ite_f hf e_4
    by_cases e_5 : z_1.1 = 3
    · have hf := ite_t hf e_5
      have hE8 : E = "java/lang/IllegalStateException" := by rw [hE9, e_5]; rfl
      subst hE8
      refine vx_catch hown [⟨0, 10, 13, 19⟩, ⟨0, 10, 17, 13⟩] ⟨0, 10, 21, 21⟩ [] htb (List.forall_mem_cons.mpr ⟨Or.inr ⟨by decide, "java/lang/IllegalArgumentException", hts (.classLink RL 19 "java/lang/IllegalArgumentException") (List.mem_append_right _ (by decide +kernel)), hN 3 1 (by decide) (by decide) (by decide)⟩, List.forall_mem_cons.mpr ⟨Or.inr ⟨by decide, "java/lang/IndexOutOfBoundsException", hts (.classLink RL 13 "java/lang/IndexOutOfBoundsException") (List.mem_append_right _ (by decide +kernel)), hN 3 2 (by decide) (by decide) (by decide)⟩, fun z hz => absurd hz List.not_mem_nil⟩⟩) (by decide) (by decide) (hts (.classLink RL 21 "java/lang/IllegalStateException") (List.mem_append_right _ (by decide +kernel))) (EX_bad hE (by decide +kernel)) hce hcv hcl ?_
      refine lv_astore (lv' := [(4, .ref q9), (0, .ref (a 0 0)), (1, .int p1), (2, .int p2), (3, .ref b)]) hx hb dL_folder_21 hl (by decide) rfl (fun ls hl => ?_)
      refine lv_iconst (v := 3) hx hb dL_folder_23 (by decide) ?_
      have eo := Option.some.inj hf
      have hP : va_P D cls (wL cI cZ cJ cT a b o.2.1 o.2.2) H := by rw [← eo]; exact hP
      rw [hQ]
      refine W.widen (k := 1) (n := 6) (Nat.le_of_ble_eq_true rfl) (Nat.le_of_ble_eq_true rfl) ?_
      exact vx_ret (W.iret hx hb hr (fun t ht hW => ⟨⟨_, (), rfl, (by rw [← eo]), P_at ht hP⟩, hS.F ht⟩) hS.2.2 dL_folder_24 hlocks)
    have hf := ite_f hf e_5
    exact nomatch hf
  have hf := ite_t hf k_2
  have hP : va_P D cls (wL cI cZ cJ cT a b z_1.2.2 g) H1 := fl_join hP (hDD U g) 0 rfl hk1 hP1
  clear hP1 hk1
  generalize H1 = H at hP hS ⊢
  refine lv_i2l (v := z_1.2.1.toInt64) hx hb dL_folder_8 rfl ?_
  refine va_last hx hb hK hP (hDD z_1.2.2 g) hS 86 2 rfl rfl (inb_in (i := 0) (n := 1) (by decide)) dL_folder_9 (fun H locs hP _ hS => ?_)
  have hP : va_P D cls (wL cI cZ cJ cT a b z_1.2.2 (setL g z_1.2.1.toInt64)) H := hP
  refine lv_goto (tgt := 25) hx hb dL_folder_10 (by decide) ?_
  refine lv_iconst (v := 0) hx hb dL_folder_25 (by decide) ?_
  have eo := Option.some.inj hf
  have hP : va_P D cls (wL cI cZ cJ cT a b o.2.1 o.2.2) H := by rw [← eo]; exact hP
  rw [hQ]
  refine W.widen (k := 1) (n := 6) (Nat.le_of_ble_eq_true rfl) (Nat.le_of_ble_eq_true rfl) ?_
  exact vx_ret (W.iret hx hb hr (fun t ht hW => ⟨⟨_, (), rfl, (by rw [← eo]), P_at ht hP⟩, hS.F ht⟩) hS.2.2 dL_folder_26 hlocks)
set_option maxRecDepth 20000 in
theorem ggL_link_X6_link : GoodIn wsL_link wsX6_link := goodIn_ca (goodIn_ca (goodIn_ca (goodIn_r _ [6, 7, 8, 9, 5, 10, 11, 12, 13, 14, 15, 16, 17, 18, 19, 20, 21, 22, 23, 24, 25, 26, 27, 28, 29, 30, 31, 32, 33, 34, 35, 36, 37, 38, 39, 40, 41, 42, 43, 44, 45, 46, 47, 48, 49, 50, 51, 52, 53, 54, 55, 56, 57, 58, 59, 60, 61, 62, 63, 64, 65, 66, 67, 68, 69, 70, 71, 72, 73, 74, 75, 76, 77, 78, 79, 80, 81, 82, 83, 84, 85, 86, 87, 88, 89, 90, 91, 92, 93, 94, 95, 96, 97, 98, 99, 100, 101, 102, 103, 104, 105, 106, 107, 108, 109, 110, 111, 112, 113, 114, 115, 116, 117, 118, 119, 120, 121, 122, 123, 124, 125, 126, 127, 128, 129, 130, 131, 132, 133, 134, 135, 136, 137, 138, 139, 140, 141, 142, 143, 144, 145, 146, 147, 148, 149, 150, 151, 152, 153, 154, 155, 156, 157, 158, 159, 160, 161, 162, 163, 164] (by decide +kernel) (by decide +kernel)) (goodIn_sub (fun _ h => List.mem_cons_of_mem _ (List.mem_append_left _ (List.mem_append_left _ (List.mem_append_right _ h)))) (by decide +kernel))) (goodIn_sub (fun _ h => List.mem_cons_of_mem _ (List.mem_append_left _ (List.mem_append_right _ h))) (by decide +kernel))) (goodIn_sub (fun _ h => List.mem_cons_of_mem _ (List.mem_append_right _ h)) (by decide +kernel))
set_option maxRecDepth 20000 in
theorem gL_link_X6_link : GoodIn wsL_link (wsV RL 26 RX6 yX6_link wsX6_link) := goodIn_app (goodIn_of _ (by decide +kernel)) ggL_link_X6_link
theorem dL_link_0 : decode cL_link 0 = .ok (.aload_n 3, 1) := by decide +kernel
theorem dL_link_1 : decode cL_link 1 = .ok (.iconst 0, 1) := by decide +kernel
theorem dL_link_2 : decode cL_link 2 = .ok (.aload_n 0, 1) := by decide +kernel
theorem dL_link_3 : decode cL_link 3 = .ok (.iload_n 1, 1) := by decide +kernel
theorem dL_link_4 : decode cL_link 4 = .ok (.iload_n 2, 1) := by decide +kernel
theorem dL_link_5 : decode cL_link 5 = .ok (.invokevirtual 26, 3) := by decide +kernel
theorem dL_link_8 : decode cL_link 8 = .ok (.i2l, 1) := by decide +kernel
theorem dL_link_9 : decode cL_link 9 = .ok (.lastore, 1) := by decide +kernel
theorem dL_link_10 : decode cL_link 10 = .ok (.goto 15, 3) := by decide +kernel
theorem dL_link_13 : decode cL_link 13 = .ok (.astore 4, 2) := by decide +kernel
theorem dL_link_15 : decode cL_link 15 = .ok (.iconst 1, 1) := by decide +kernel
theorem dL_link_16 : decode cL_link 16 = .ok (.ireturn, 1) := by decide +kernel
theorem dL_link_17 : decode cL_link 17 = .ok (.astore 4, 2) := by decide +kernel
theorem dL_link_19 : decode cL_link 19 = .ok (.iconst 2, 1) := by decide +kernel
theorem dL_link_20 : decode cL_link 20 = .ok (.ireturn, 1) := by decide +kernel
theorem dL_link_21 : decode cL_link 21 = .ok (.astore 4, 2) := by decide +kernel
theorem dL_link_23 : decode cL_link 23 = .ok (.iconst 3, 1) := by decide +kernel
theorem dL_link_24 : decode cL_link 24 = .ok (.ireturn, 1) := by decide +kernel
theorem dL_link_25 : decode cL_link 25 = .ok (.iconst 0, 1) := by decide +kernel
theorem dL_link_26 : decode cL_link 26 = .ok (.ireturn, 1) := by decide +kernel
def f_L_link (U : S2) (g : Nat → Int64) (p1 : Int32) (p2 : Int32) : Option (Int32 × S2 × (Nat → Int64)) := bn (f_X6_link U p1 p2) (fun z_1 => if z_1.1 = 0 then some (0, z_1.2.2, setL g z_1.2.1.toInt64) else if z_1.1 = 1 then some (1, z_1.2.2, g) else if z_1.1 = 2 then some (2, z_1.2.2, g) else if z_1.1 = 3 then some (3, z_1.2.2, g) else none)
def wsML_link : List Cond := wsL_link ++ LK
def rmL_link : Room := { frames := 8, cells := 1, slots := 6, locals := 164 }
set_option maxHeartbeats 4000000 in
set_option maxRecDepth 100000 in
theorem c_L_link (l : Launch) (hst : l.stackTraces = false) (D : va_G) (cI cZ cJ cT : ClassId) (a : Nat → Nat → Nat) (b : Nat) (sz : Nat) (U : S2) (g : Nat → Int64) (p1 : Int32) (p2 : Int32) (o : Int32 × S2 × (Nat → Int64)) (hf : f_L_link U g p1 p2 = some o) : vx_Met l yL_link wsML_link rmL_link (va_Pc [.ref (a 0 0), .int p1, .int p2, .ref b] (PL D cls (tys cI cZ cJ cT) (wL cI cZ cJ cT a b U g) sz)) (QWi D cls o.1 (wL cI cZ cJ cT a b o.2.1 o.2.2) (va_A (wL cI cZ cJ cT a b U g) sz)) (vx_X (fun (_ : Unit) => False) (fun _ _ _ => True) (va_A (wL cI cZ cJ cT a b U g) sz)) 1 6 (va_A (wL cI cZ cJ cT a b U g) sz) := by
  refine vx_ofWH (cc := cL_link) (maxL := 5) (ret := (some .int)) (by decide) rfl ?_
  intro p e s m args below meth c s₁ B hml hv
  obtain ⟨hav, ⟨⟨hsz, hP, hK, hD0⟩, hE⟩, hN⟩ := hv
  have hx := B.exec
  have hb := B.bytes
  have hr := B.returns
  have hlocks := B.notSynchronized
  have hts := atoms_spec (ws := wsML_link) B.pre
  have hown : s.vm.findClass RL = some m.cls := findClass_of_methodNamed B.named
  have htb : c.exceptionTable.toList = [⟨0, 10, 13, 19⟩, ⟨0, 10, 17, 13⟩, ⟨0, 10, 21, 21⟩] := vx_table (x := yL_link) B (hts _ (List.mem_append_left _ List.mem_cons_self))
  subst hsz
  have hD := hD0.self (sz := s.heap.size)
  generalize hAe : va_A (wL cI cZ cJ cT a b U g) s.heap.size = A at hD hE ⊢
  have hA : ∀ q : Nat, s.heap.size ≤ q → A q := fun q h => by rw [← hAe]; exact Or.inr h
  have hS : va_S A s.heap s.heap [] := va_S.rf
  have hDD : ∀ (V : S2) (k : Nat → Int64), va_D A (wL cI cZ cJ cT a b V k) := fun _ _ => D_same (w := (wL cI cZ cJ cT a b U g)) rfl hD
  refine Wq (fun Q hQ => ?_)
  refine W_entry hav (Nat.le_of_ble_eq_true rfl) (fun ls hl => ?_)
  have hl : lv_has ls 5 [(0, .ref (a 0 0)), (1, .int p1), (2, .int p2), (3, .ref b)] := hl
  unfold f_L_link at hf
  refine W_heap hP hS (fun H locs hP hS => ?_)
  refine lv_aload_n hx hb dL_link_0 rfl (lv_at hl 3 rfl) ?_
  refine lv_iconst (v := 0) hx hb dL_link_1 (by decide) ?_
  refine lv_aload_n hx hb dL_link_2 rfl (lv_at hl 0 rfl) ?_
  refine lv_iload_n hx hb dL_link_3 rfl (lv_at hl 1 rfl) ?_
  refine lv_iload_n hx hb dL_link_4 rfl (lv_at hl 2 rfl) ?_
  obtain ⟨z_1, hz_1, hf⟩ := bn_some hf
  refine cYVi (As := [.int p1, .int p2]) (rest := [.int 0, .ref b]) ⟨hx, hb, hml, hown, hts⟩ (c_X6_link l hst D cI cZ cJ cT a H.size U p1 p2 z_1 hz_1) (cwV 2 hts (gM_sub gL_link_X6_link) rfl rfl rfl (by decide +kernel) ⟨Nat.le_of_ble_eq_true rfl, Nat.le_of_ble_eq_true rfl⟩) (fl_sub hP 0 rfl) hK (fl_subD (hDD U g) 0 rfl) hE hS (fl_free (hDD U g) hS hA 0 rfl) (va_recv hK (fl_sub (fl_sub hP 0 rfl) 0 rfl) (ci := 6) (q0 := 0) rfl rfl) rfl rfl hl.1 (Nat.le_of_ble_eq_true rfl) dL_link_5 ⟨Nat.le_of_ble_eq_true rfl, Nat.le_of_ble_eq_true rfl⟩ (fun E ce q9 H1 locs k_2 hE9 hP1 hk1 hS hce hcv hcl => ?_) (fun H1 locs k_2 hP1 hk1 hS => ?_)
  · have hf := ite_f hf k_2
    have hP : va_P D cls (wL cI cZ cJ cT a b z_1.2.2 g) H1 := fl_join hP (hDD U g) 0 rfl hk1 hP1
    clear hP1 hk1
    generalize H1 = H at hP hS hce ⊢
    by_cases e_3 : z_1.1 = 1
    · have hf := ite_t hf e_3
      have hE8 : E = "java/lang/IllegalArgumentException" := by rw [hE9, e_3]; rfl
      subst hE8
      refine vx_catch hown [] ⟨0, 10, 13, 19⟩ [⟨0, 10, 17, 13⟩, ⟨0, 10, 21, 21⟩] htb (fun z hz => absurd hz List.not_mem_nil) (by decide) (by decide) (hts (.classLink RL 19 "java/lang/IllegalArgumentException") (List.mem_append_right _ (by decide +kernel))) (EX_bad hE (by decide +kernel)) hce hcv hcl ?_
      refine lv_astore (lv' := [(4, .ref q9), (0, .ref (a 0 0)), (1, .int p1), (2, .int p2), (3, .ref b)]) hx hb dL_link_13 hl (by decide) rfl (fun ls hl => ?_)
      refine lv_iconst (v := 1) hx hb dL_link_15 (by decide) ?_
      have eo := Option.some.inj hf
      have hP : va_P D cls (wL cI cZ cJ cT a b o.2.1 o.2.2) H := by rw [← eo]; exact hP
      rw [hQ]
      refine W.widen (k := 1) (n := 6) (Nat.le_of_ble_eq_true rfl) (Nat.le_of_ble_eq_true rfl) ?_
      exact vx_ret (W.iret hx hb hr (fun t ht hW => ⟨⟨_, (), rfl, (by rw [← eo]), P_at ht hP⟩, hS.F ht⟩) hS.2.2 dL_link_16 hlocks)
    have hf := ite_f hf e_3
    by_cases e_4 : z_1.1 = 2
    · have hf := ite_t hf e_4
      have hE8 : E = "java/lang/IndexOutOfBoundsException" := by rw [hE9, e_4]; rfl
      subst hE8
      refine vx_catch hown [⟨0, 10, 13, 19⟩] ⟨0, 10, 17, 13⟩ [⟨0, 10, 21, 21⟩] htb (List.forall_mem_cons.mpr ⟨Or.inr ⟨by decide, "java/lang/IllegalArgumentException", hts (.classLink RL 19 "java/lang/IllegalArgumentException") (List.mem_append_right _ (by decide +kernel)), hN 2 1 (by decide) (by decide) (by decide)⟩, fun z hz => absurd hz List.not_mem_nil⟩) (by decide) (by decide) (hts (.classLink RL 13 "java/lang/IndexOutOfBoundsException") (List.mem_append_right _ (by decide +kernel))) (EX_bad hE (by decide +kernel)) hce hcv hcl ?_
      refine lv_astore (lv' := [(4, .ref q9), (0, .ref (a 0 0)), (1, .int p1), (2, .int p2), (3, .ref b)]) hx hb dL_link_17 hl (by decide) rfl (fun ls hl => ?_)
      refine lv_iconst (v := 2) hx hb dL_link_19 (by decide) ?_
      have eo := Option.some.inj hf
      have hP : va_P D cls (wL cI cZ cJ cT a b o.2.1 o.2.2) H := by rw [← eo]; exact hP
      rw [hQ]
      refine W.widen (k := 1) (n := 6) (Nat.le_of_ble_eq_true rfl) (Nat.le_of_ble_eq_true rfl) ?_
      exact vx_ret (W.iret hx hb hr (fun t ht hW => ⟨⟨_, (), rfl, (by rw [← eo]), P_at ht hP⟩, hS.F ht⟩) hS.2.2 dL_link_20 hlocks)
    have hf := ite_f hf e_4
    by_cases e_5 : z_1.1 = 3
    · have hf := ite_t hf e_5
      have hE8 : E = "java/lang/IllegalStateException" := by rw [hE9, e_5]; rfl
      subst hE8
      refine vx_catch hown [⟨0, 10, 13, 19⟩, ⟨0, 10, 17, 13⟩] ⟨0, 10, 21, 21⟩ [] htb (List.forall_mem_cons.mpr ⟨Or.inr ⟨by decide, "java/lang/IllegalArgumentException", hts (.classLink RL 19 "java/lang/IllegalArgumentException") (List.mem_append_right _ (by decide +kernel)), hN 3 1 (by decide) (by decide) (by decide)⟩, List.forall_mem_cons.mpr ⟨Or.inr ⟨by decide, "java/lang/IndexOutOfBoundsException", hts (.classLink RL 13 "java/lang/IndexOutOfBoundsException") (List.mem_append_right _ (by decide +kernel)), hN 3 2 (by decide) (by decide) (by decide)⟩, fun z hz => absurd hz List.not_mem_nil⟩⟩) (by decide) (by decide) (hts (.classLink RL 21 "java/lang/IllegalStateException") (List.mem_append_right _ (by decide +kernel))) (EX_bad hE (by decide +kernel)) hce hcv hcl ?_
      refine lv_astore (lv' := [(4, .ref q9), (0, .ref (a 0 0)), (1, .int p1), (2, .int p2), (3, .ref b)]) hx hb dL_link_21 hl (by decide) rfl (fun ls hl => ?_)
      refine lv_iconst (v := 3) hx hb dL_link_23 (by decide) ?_
      have eo := Option.some.inj hf
      have hP : va_P D cls (wL cI cZ cJ cT a b o.2.1 o.2.2) H := by rw [← eo]; exact hP
      rw [hQ]
      refine W.widen (k := 1) (n := 6) (Nat.le_of_ble_eq_true rfl) (Nat.le_of_ble_eq_true rfl) ?_
      exact vx_ret (W.iret hx hb hr (fun t ht hW => ⟨⟨_, (), rfl, (by rw [← eo]), P_at ht hP⟩, hS.F ht⟩) hS.2.2 dL_link_24 hlocks)
    have hf := ite_f hf e_5
    exact nomatch hf
  have hf := ite_t hf k_2
  have hP : va_P D cls (wL cI cZ cJ cT a b z_1.2.2 g) H1 := fl_join hP (hDD U g) 0 rfl hk1 hP1
  clear hP1 hk1
  generalize H1 = H at hP hS ⊢
  refine lv_i2l (v := z_1.2.1.toInt64) hx hb dL_link_8 rfl ?_
  refine va_last hx hb hK hP (hDD z_1.2.2 g) hS 86 2 rfl rfl (inb_in (i := 0) (n := 1) (by decide)) dL_link_9 (fun H locs hP _ hS => ?_)
  have hP : va_P D cls (wL cI cZ cJ cT a b z_1.2.2 (setL g z_1.2.1.toInt64)) H := hP
  refine lv_goto (tgt := 25) hx hb dL_link_10 (by decide) ?_
  refine lv_iconst (v := 0) hx hb dL_link_25 (by decide) ?_
  have eo := Option.some.inj hf
  have hP : va_P D cls (wL cI cZ cJ cT a b o.2.1 o.2.2) H := by rw [← eo]; exact hP
  rw [hQ]
  refine W.widen (k := 1) (n := 6) (Nat.le_of_ble_eq_true rfl) (Nat.le_of_ble_eq_true rfl) ?_
  exact vx_ret (W.iret hx hb hr (fun t ht hW => ⟨⟨_, (), rfl, (by rw [← eo]), P_at ht hP⟩, hS.F ht⟩) hS.2.2 dL_link_26 hlocks)
set_option maxRecDepth 20000 in
theorem ggL_hard_X6_hard : GoodIn wsL_hard wsX6_hard := goodIn_ca (goodIn_ca (goodIn_ca (goodIn_r _ [6, 7, 8, 9, 10, 11, 12, 13, 14, 15, 16, 5, 17, 18, 19, 20, 21, 22, 23, 24, 25, 26, 27, 28, 29, 30, 31, 32, 33, 34, 35, 36, 37, 38, 39, 40, 41, 42, 43, 44, 45, 46, 47, 48, 49, 50, 51, 52, 53, 54, 55, 56, 57, 58, 59, 60, 61, 62, 63, 64, 65, 66, 67, 68, 69, 70, 71, 72, 73, 74, 75, 76, 77, 78, 79, 80, 81, 82, 83, 84, 85, 86, 87, 88, 89, 90, 91, 92, 93, 94, 95, 96, 97, 98, 99, 100, 101, 102, 103, 104, 105, 106, 107, 108, 109, 110, 111, 112, 113, 114, 115, 116, 117, 118, 119, 120, 121, 122, 123, 124, 125, 126, 127, 128, 129, 130, 131, 132, 133, 134, 135, 136, 137, 138, 139, 140, 141, 142, 143, 144, 145, 146, 147, 148, 149, 150] (by decide +kernel) (by decide +kernel)) (goodIn_sub (fun _ h => List.mem_cons_of_mem _ (List.mem_append_left _ (List.mem_append_left _ (List.mem_append_right _ h)))) (by decide +kernel))) (goodIn_sub (fun _ h => List.mem_cons_of_mem _ (List.mem_append_left _ (List.mem_append_right _ h))) (by decide +kernel))) (goodIn_sub (fun _ h => List.mem_cons_of_mem _ (List.mem_append_right _ h)) (by decide +kernel))
set_option maxRecDepth 20000 in
theorem gL_hard_X6_hard : GoodIn wsL_hard (wsV RL 29 RX6 yX6_hard wsX6_hard) := goodIn_app (goodIn_of _ (by decide +kernel)) ggL_hard_X6_hard
theorem dL_hard_0 : decode cL_hard 0 = .ok (.aload_n 3, 1) := by decide +kernel
theorem dL_hard_1 : decode cL_hard 1 = .ok (.iconst 0, 1) := by decide +kernel
theorem dL_hard_2 : decode cL_hard 2 = .ok (.aload_n 0, 1) := by decide +kernel
theorem dL_hard_3 : decode cL_hard 3 = .ok (.iload_n 1, 1) := by decide +kernel
theorem dL_hard_4 : decode cL_hard 4 = .ok (.iload_n 2, 1) := by decide +kernel
theorem dL_hard_5 : decode cL_hard 5 = .ok (.invokevirtual 29, 3) := by decide +kernel
theorem dL_hard_8 : decode cL_hard 8 = .ok (.i2l, 1) := by decide +kernel
theorem dL_hard_9 : decode cL_hard 9 = .ok (.lastore, 1) := by decide +kernel
theorem dL_hard_10 : decode cL_hard 10 = .ok (.goto 15, 3) := by decide +kernel
theorem dL_hard_13 : decode cL_hard 13 = .ok (.astore 4, 2) := by decide +kernel
theorem dL_hard_15 : decode cL_hard 15 = .ok (.iconst 1, 1) := by decide +kernel
theorem dL_hard_16 : decode cL_hard 16 = .ok (.ireturn, 1) := by decide +kernel
theorem dL_hard_17 : decode cL_hard 17 = .ok (.astore 4, 2) := by decide +kernel
theorem dL_hard_19 : decode cL_hard 19 = .ok (.iconst 2, 1) := by decide +kernel
theorem dL_hard_20 : decode cL_hard 20 = .ok (.ireturn, 1) := by decide +kernel
theorem dL_hard_21 : decode cL_hard 21 = .ok (.astore 4, 2) := by decide +kernel
theorem dL_hard_23 : decode cL_hard 23 = .ok (.iconst 3, 1) := by decide +kernel
theorem dL_hard_24 : decode cL_hard 24 = .ok (.ireturn, 1) := by decide +kernel
theorem dL_hard_25 : decode cL_hard 25 = .ok (.iconst 0, 1) := by decide +kernel
theorem dL_hard_26 : decode cL_hard 26 = .ok (.ireturn, 1) := by decide +kernel
def f_L_hard (U : S2) (g : Nat → Int64) (p1 : Int32) (p2 : Int32) : Option (Int32 × S2 × (Nat → Int64)) := bn (f_X6_hard U p1 p2) (fun z_1 => if z_1.1 = 0 then some (0, z_1.2.2, setL g z_1.2.1.toInt64) else if z_1.1 = 1 then some (1, z_1.2.2, g) else if z_1.1 = 2 then some (2, z_1.2.2, g) else if z_1.1 = 3 then some (3, z_1.2.2, g) else none)
def wsML_hard : List Cond := wsL_hard ++ LK
def rmL_hard : Room := { frames := 7, cells := 1, slots := 6, locals := 140 }
set_option maxHeartbeats 4000000 in
set_option maxRecDepth 100000 in
theorem c_L_hard (l : Launch) (hst : l.stackTraces = false) (D : va_G) (cI cZ cJ cT : ClassId) (a : Nat → Nat → Nat) (b : Nat) (sz : Nat) (U : S2) (g : Nat → Int64) (p1 : Int32) (p2 : Int32) (o : Int32 × S2 × (Nat → Int64)) (hf : f_L_hard U g p1 p2 = some o) : vx_Met l yL_hard wsML_hard rmL_hard (va_Pc [.ref (a 0 0), .int p1, .int p2, .ref b] (PL D cls (tys cI cZ cJ cT) (wL cI cZ cJ cT a b U g) sz)) (QWi D cls o.1 (wL cI cZ cJ cT a b o.2.1 o.2.2) (va_A (wL cI cZ cJ cT a b U g) sz)) (vx_X (fun (_ : Unit) => False) (fun _ _ _ => True) (va_A (wL cI cZ cJ cT a b U g) sz)) 1 6 (va_A (wL cI cZ cJ cT a b U g) sz) := by
  refine vx_ofWH (cc := cL_hard) (maxL := 5) (ret := (some .int)) (by decide) rfl ?_
  intro p e s m args below meth c s₁ B hml hv
  obtain ⟨hav, ⟨⟨hsz, hP, hK, hD0⟩, hE⟩, hN⟩ := hv
  have hx := B.exec
  have hb := B.bytes
  have hr := B.returns
  have hlocks := B.notSynchronized
  have hts := atoms_spec (ws := wsML_hard) B.pre
  have hown : s.vm.findClass RL = some m.cls := findClass_of_methodNamed B.named
  have htb : c.exceptionTable.toList = [⟨0, 10, 13, 19⟩, ⟨0, 10, 17, 13⟩, ⟨0, 10, 21, 21⟩] := vx_table (x := yL_hard) B (hts _ (List.mem_append_left _ List.mem_cons_self))
  subst hsz
  have hD := hD0.self (sz := s.heap.size)
  generalize hAe : va_A (wL cI cZ cJ cT a b U g) s.heap.size = A at hD hE ⊢
  have hA : ∀ q : Nat, s.heap.size ≤ q → A q := fun q h => by rw [← hAe]; exact Or.inr h
  have hS : va_S A s.heap s.heap [] := va_S.rf
  have hDD : ∀ (V : S2) (k : Nat → Int64), va_D A (wL cI cZ cJ cT a b V k) := fun _ _ => D_same (w := (wL cI cZ cJ cT a b U g)) rfl hD
  refine Wq (fun Q hQ => ?_)
  refine W_entry hav (Nat.le_of_ble_eq_true rfl) (fun ls hl => ?_)
  have hl : lv_has ls 5 [(0, .ref (a 0 0)), (1, .int p1), (2, .int p2), (3, .ref b)] := hl
  unfold f_L_hard at hf
  refine W_heap hP hS (fun H locs hP hS => ?_)
  refine lv_aload_n hx hb dL_hard_0 rfl (lv_at hl 3 rfl) ?_
  refine lv_iconst (v := 0) hx hb dL_hard_1 (by decide) ?_
  refine lv_aload_n hx hb dL_hard_2 rfl (lv_at hl 0 rfl) ?_
  refine lv_iload_n hx hb dL_hard_3 rfl (lv_at hl 1 rfl) ?_
  refine lv_iload_n hx hb dL_hard_4 rfl (lv_at hl 2 rfl) ?_
  obtain ⟨z_1, hz_1, hf⟩ := bn_some hf
  refine cYVi (As := [.int p1, .int p2]) (rest := [.int 0, .ref b]) ⟨hx, hb, hml, hown, hts⟩ (c_X6_hard l hst D cI cZ cJ cT a H.size U p1 p2 z_1 hz_1) (cwV 2 hts (gM_sub gL_hard_X6_hard) rfl rfl rfl (by decide +kernel) ⟨Nat.le_of_ble_eq_true rfl, Nat.le_of_ble_eq_true rfl⟩) (fl_sub hP 0 rfl) hK (fl_subD (hDD U g) 0 rfl) hE hS (fl_free (hDD U g) hS hA 0 rfl) (va_recv hK (fl_sub (fl_sub hP 0 rfl) 0 rfl) (ci := 6) (q0 := 0) rfl rfl) rfl rfl hl.1 (Nat.le_of_ble_eq_true rfl) dL_hard_5 ⟨Nat.le_of_ble_eq_true rfl, Nat.le_of_ble_eq_true rfl⟩ (fun E ce q9 H1 locs k_2 hE9 hP1 hk1 hS hce hcv hcl => ?_) (fun H1 locs k_2 hP1 hk1 hS => ?_)
  · have hf := ite_f hf k_2
    have hP : va_P D cls (wL cI cZ cJ cT a b z_1.2.2 g) H1 := fl_join hP (hDD U g) 0 rfl hk1 hP1
    clear hP1 hk1
    generalize H1 = H at hP hS hce ⊢
    by_cases e_3 : z_1.1 = 1
    · have hf := ite_t hf e_3
      have hE8 : E = "java/lang/IllegalArgumentException" := by rw [hE9, e_3]; rfl
      subst hE8
      refine vx_catch hown [] ⟨0, 10, 13, 19⟩ [⟨0, 10, 17, 13⟩, ⟨0, 10, 21, 21⟩] htb (fun z hz => absurd hz List.not_mem_nil) (by decide) (by decide) (hts (.classLink RL 19 "java/lang/IllegalArgumentException") (List.mem_append_right _ (by decide +kernel))) (EX_bad hE (by decide +kernel)) hce hcv hcl ?_
      refine lv_astore (lv' := [(4, .ref q9), (0, .ref (a 0 0)), (1, .int p1), (2, .int p2), (3, .ref b)]) hx hb dL_hard_13 hl (by decide) rfl (fun ls hl => ?_)
      refine lv_iconst (v := 1) hx hb dL_hard_15 (by decide) ?_
      have eo := Option.some.inj hf
      have hP : va_P D cls (wL cI cZ cJ cT a b o.2.1 o.2.2) H := by rw [← eo]; exact hP
      rw [hQ]
      refine W.widen (k := 1) (n := 6) (Nat.le_of_ble_eq_true rfl) (Nat.le_of_ble_eq_true rfl) ?_
      exact vx_ret (W.iret hx hb hr (fun t ht hW => ⟨⟨_, (), rfl, (by rw [← eo]), P_at ht hP⟩, hS.F ht⟩) hS.2.2 dL_hard_16 hlocks)
    have hf := ite_f hf e_3
    by_cases e_4 : z_1.1 = 2
    · have hf := ite_t hf e_4
      have hE8 : E = "java/lang/IndexOutOfBoundsException" := by rw [hE9, e_4]; rfl
      subst hE8
      refine vx_catch hown [⟨0, 10, 13, 19⟩] ⟨0, 10, 17, 13⟩ [⟨0, 10, 21, 21⟩] htb (List.forall_mem_cons.mpr ⟨Or.inr ⟨by decide, "java/lang/IllegalArgumentException", hts (.classLink RL 19 "java/lang/IllegalArgumentException") (List.mem_append_right _ (by decide +kernel)), hN 2 1 (by decide) (by decide) (by decide)⟩, fun z hz => absurd hz List.not_mem_nil⟩) (by decide) (by decide) (hts (.classLink RL 13 "java/lang/IndexOutOfBoundsException") (List.mem_append_right _ (by decide +kernel))) (EX_bad hE (by decide +kernel)) hce hcv hcl ?_
      refine lv_astore (lv' := [(4, .ref q9), (0, .ref (a 0 0)), (1, .int p1), (2, .int p2), (3, .ref b)]) hx hb dL_hard_17 hl (by decide) rfl (fun ls hl => ?_)
      refine lv_iconst (v := 2) hx hb dL_hard_19 (by decide) ?_
      have eo := Option.some.inj hf
      have hP : va_P D cls (wL cI cZ cJ cT a b o.2.1 o.2.2) H := by rw [← eo]; exact hP
      rw [hQ]
      refine W.widen (k := 1) (n := 6) (Nat.le_of_ble_eq_true rfl) (Nat.le_of_ble_eq_true rfl) ?_
      exact vx_ret (W.iret hx hb hr (fun t ht hW => ⟨⟨_, (), rfl, (by rw [← eo]), P_at ht hP⟩, hS.F ht⟩) hS.2.2 dL_hard_20 hlocks)
    have hf := ite_f hf e_4
    by_cases e_5 : z_1.1 = 3
    · have hf := ite_t hf e_5
      have hE8 : E = "java/lang/IllegalStateException" := by rw [hE9, e_5]; rfl
      subst hE8
      refine vx_catch hown [⟨0, 10, 13, 19⟩, ⟨0, 10, 17, 13⟩] ⟨0, 10, 21, 21⟩ [] htb (List.forall_mem_cons.mpr ⟨Or.inr ⟨by decide, "java/lang/IllegalArgumentException", hts (.classLink RL 19 "java/lang/IllegalArgumentException") (List.mem_append_right _ (by decide +kernel)), hN 3 1 (by decide) (by decide) (by decide)⟩, List.forall_mem_cons.mpr ⟨Or.inr ⟨by decide, "java/lang/IndexOutOfBoundsException", hts (.classLink RL 13 "java/lang/IndexOutOfBoundsException") (List.mem_append_right _ (by decide +kernel)), hN 3 2 (by decide) (by decide) (by decide)⟩, fun z hz => absurd hz List.not_mem_nil⟩⟩) (by decide) (by decide) (hts (.classLink RL 21 "java/lang/IllegalStateException") (List.mem_append_right _ (by decide +kernel))) (EX_bad hE (by decide +kernel)) hce hcv hcl ?_
      refine lv_astore (lv' := [(4, .ref q9), (0, .ref (a 0 0)), (1, .int p1), (2, .int p2), (3, .ref b)]) hx hb dL_hard_21 hl (by decide) rfl (fun ls hl => ?_)
      refine lv_iconst (v := 3) hx hb dL_hard_23 (by decide) ?_
      have eo := Option.some.inj hf
      have hP : va_P D cls (wL cI cZ cJ cT a b o.2.1 o.2.2) H := by rw [← eo]; exact hP
      rw [hQ]
      refine W.widen (k := 1) (n := 6) (Nat.le_of_ble_eq_true rfl) (Nat.le_of_ble_eq_true rfl) ?_
      exact vx_ret (W.iret hx hb hr (fun t ht hW => ⟨⟨_, (), rfl, (by rw [← eo]), P_at ht hP⟩, hS.F ht⟩) hS.2.2 dL_hard_24 hlocks)
    have hf := ite_f hf e_5
    exact nomatch hf
  have hf := ite_t hf k_2
  have hP : va_P D cls (wL cI cZ cJ cT a b z_1.2.2 g) H1 := fl_join hP (hDD U g) 0 rfl hk1 hP1
  clear hP1 hk1
  generalize H1 = H at hP hS ⊢
  refine lv_i2l (v := z_1.2.1.toInt64) hx hb dL_hard_8 rfl ?_
  refine va_last hx hb hK hP (hDD z_1.2.2 g) hS 86 2 rfl rfl (inb_in (i := 0) (n := 1) (by decide)) dL_hard_9 (fun H locs hP _ hS => ?_)
  have hP : va_P D cls (wL cI cZ cJ cT a b z_1.2.2 (setL g z_1.2.1.toInt64)) H := hP
  refine lv_goto (tgt := 25) hx hb dL_hard_10 (by decide) ?_
  refine lv_iconst (v := 0) hx hb dL_hard_25 (by decide) ?_
  have eo := Option.some.inj hf
  have hP : va_P D cls (wL cI cZ cJ cT a b o.2.1 o.2.2) H := by rw [← eo]; exact hP
  rw [hQ]
  refine W.widen (k := 1) (n := 6) (Nat.le_of_ble_eq_true rfl) (Nat.le_of_ble_eq_true rfl) ?_
  exact vx_ret (W.iret hx hb hr (fun t ht hW => ⟨⟨_, (), rfl, (by rw [← eo]), P_at ht hP⟩, hS.F ht⟩) hS.2.2 dL_hard_26 hlocks)
set_option maxRecDepth 20000 in
theorem ggL_rename_X6_rename : GoodIn wsL_rename wsX6_rename := goodIn_ca (goodIn_ca (goodIn_ca (goodIn_r _ [6, 7, 8, 9, 10, 11, 12, 13, 14, 15, 5, 16, 17, 18, 19, 20, 21, 22, 23, 24, 25, 26, 27, 28, 29, 30, 31, 32, 33, 34, 35, 36, 37, 38, 39, 40, 41, 42, 43, 44, 45, 46, 47, 48, 49, 50, 51, 52, 53, 54, 55, 56, 57, 58, 59, 60, 61, 62, 63, 64, 65, 66, 67, 68, 69, 70, 71, 72, 73, 74, 75, 76, 77, 78, 79, 80, 81, 82, 83, 84, 85, 86, 87, 88, 89, 90, 91, 92, 93, 94, 95, 96, 97, 98, 99, 100, 101, 102, 103, 104, 105, 106, 107, 108, 109, 110, 111, 112, 113, 114, 115, 116, 117, 118, 119, 120, 121, 122, 123, 124, 125, 126, 127, 128, 129, 130, 131, 132, 133, 134, 135, 136, 137, 138, 139, 140, 141, 142, 143, 144, 145, 146, 147, 148, 149, 150, 151, 152, 153, 154, 155, 156, 157, 158, 159, 160, 161, 162, 163, 164, 165, 166, 167, 168, 169, 170, 171, 172, 173, 174, 175, 176, 177, 178, 179, 180, 181, 182, 183, 184, 185, 186, 187, 188, 189, 190, 191, 192, 193, 194, 195, 196, 197, 198, 199, 200, 201, 202, 203, 204, 205, 206, 207, 208, 209, 210, 211, 212, 213, 214, 215, 216, 217, 218, 219, 220, 221, 222, 223, 224, 225, 226, 227, 228, 229, 230, 231, 232, 233, 234, 235, 236, 237, 238, 239, 240, 241, 242, 243, 244, 245, 246, 247, 248, 249, 250] (by decide +kernel) (by decide +kernel)) (goodIn_sub (fun _ h => List.mem_cons_of_mem _ (List.mem_append_left _ (List.mem_append_left _ (List.mem_append_right _ h)))) (by decide +kernel))) (goodIn_sub (fun _ h => List.mem_cons_of_mem _ (List.mem_append_left _ (List.mem_append_right _ h))) (by decide +kernel))) (goodIn_sub (fun _ h => List.mem_cons_of_mem _ (List.mem_append_right _ h)) (by decide +kernel))
set_option maxRecDepth 20000 in
theorem gL_rename_X6_rename : GoodIn wsL_rename (wsV RL 32 RX6 yX6_rename wsX6_rename) := goodIn_app (goodIn_of _ (by decide +kernel)) ggL_rename_X6_rename
theorem dL_rename_0 : decode cL_rename 0 = .ok (.aload_n 3, 1) := by decide +kernel
theorem dL_rename_1 : decode cL_rename 1 = .ok (.iconst 0, 1) := by decide +kernel
theorem dL_rename_2 : decode cL_rename 2 = .ok (.aload_n 0, 1) := by decide +kernel
theorem dL_rename_3 : decode cL_rename 3 = .ok (.iload_n 1, 1) := by decide +kernel
theorem dL_rename_4 : decode cL_rename 4 = .ok (.iload_n 2, 1) := by decide +kernel
theorem dL_rename_5 : decode cL_rename 5 = .ok (.invokevirtual 32, 3) := by decide +kernel
theorem dL_rename_8 : decode cL_rename 8 = .ok (.i2l, 1) := by decide +kernel
theorem dL_rename_9 : decode cL_rename 9 = .ok (.lastore, 1) := by decide +kernel
theorem dL_rename_10 : decode cL_rename 10 = .ok (.goto 15, 3) := by decide +kernel
theorem dL_rename_13 : decode cL_rename 13 = .ok (.astore 4, 2) := by decide +kernel
theorem dL_rename_15 : decode cL_rename 15 = .ok (.iconst 1, 1) := by decide +kernel
theorem dL_rename_16 : decode cL_rename 16 = .ok (.ireturn, 1) := by decide +kernel
theorem dL_rename_17 : decode cL_rename 17 = .ok (.astore 4, 2) := by decide +kernel
theorem dL_rename_19 : decode cL_rename 19 = .ok (.iconst 2, 1) := by decide +kernel
theorem dL_rename_20 : decode cL_rename 20 = .ok (.ireturn, 1) := by decide +kernel
theorem dL_rename_21 : decode cL_rename 21 = .ok (.astore 4, 2) := by decide +kernel
theorem dL_rename_23 : decode cL_rename 23 = .ok (.iconst 3, 1) := by decide +kernel
theorem dL_rename_24 : decode cL_rename 24 = .ok (.ireturn, 1) := by decide +kernel
theorem dL_rename_25 : decode cL_rename 25 = .ok (.iconst 0, 1) := by decide +kernel
theorem dL_rename_26 : decode cL_rename 26 = .ok (.ireturn, 1) := by decide +kernel
def f_L_rename (U : S2) (g : Nat → Int64) (p1 : Int32) (p2 : Int32) : Option (Int32 × S2 × (Nat → Int64)) := bn (f_X6_rename U p1 p2) (fun z_1 => if z_1.1 = 0 then some (0, z_1.2.2, setL g z_1.2.1.toInt64) else if z_1.1 = 1 then some (1, z_1.2.2, g) else if z_1.1 = 2 then some (2, z_1.2.2, g) else if z_1.1 = 3 then some (3, z_1.2.2, g) else none)
def wsML_rename : List Cond := wsL_rename ++ LK
def rmL_rename : Room := { frames := 7, cells := 1, slots := 6, locals := 158 }
set_option maxHeartbeats 4000000 in
set_option maxRecDepth 100000 in
theorem c_L_rename (l : Launch) (hst : l.stackTraces = false) (D : va_G) (cI cZ cJ cT : ClassId) (a : Nat → Nat → Nat) (b : Nat) (sz : Nat) (U : S2) (g : Nat → Int64) (p1 : Int32) (p2 : Int32) (o : Int32 × S2 × (Nat → Int64)) (hf : f_L_rename U g p1 p2 = some o) : vx_Met l yL_rename wsML_rename rmL_rename (va_Pc [.ref (a 0 0), .int p1, .int p2, .ref b] (PL D cls (tys cI cZ cJ cT) (wL cI cZ cJ cT a b U g) sz)) (QWi D cls o.1 (wL cI cZ cJ cT a b o.2.1 o.2.2) (va_A (wL cI cZ cJ cT a b U g) sz)) (vx_X (fun (_ : Unit) => False) (fun _ _ _ => True) (va_A (wL cI cZ cJ cT a b U g) sz)) 1 6 (va_A (wL cI cZ cJ cT a b U g) sz) := by
  refine vx_ofWH (cc := cL_rename) (maxL := 5) (ret := (some .int)) (by decide) rfl ?_
  intro p e s m args below meth c s₁ B hml hv
  obtain ⟨hav, ⟨⟨hsz, hP, hK, hD0⟩, hE⟩, hN⟩ := hv
  have hx := B.exec
  have hb := B.bytes
  have hr := B.returns
  have hlocks := B.notSynchronized
  have hts := atoms_spec (ws := wsML_rename) B.pre
  have hown : s.vm.findClass RL = some m.cls := findClass_of_methodNamed B.named
  have htb : c.exceptionTable.toList = [⟨0, 10, 13, 19⟩, ⟨0, 10, 17, 13⟩, ⟨0, 10, 21, 21⟩] := vx_table (x := yL_rename) B (hts _ (List.mem_append_left _ List.mem_cons_self))
  subst hsz
  have hD := hD0.self (sz := s.heap.size)
  generalize hAe : va_A (wL cI cZ cJ cT a b U g) s.heap.size = A at hD hE ⊢
  have hA : ∀ q : Nat, s.heap.size ≤ q → A q := fun q h => by rw [← hAe]; exact Or.inr h
  have hS : va_S A s.heap s.heap [] := va_S.rf
  have hDD : ∀ (V : S2) (k : Nat → Int64), va_D A (wL cI cZ cJ cT a b V k) := fun _ _ => D_same (w := (wL cI cZ cJ cT a b U g)) rfl hD
  refine Wq (fun Q hQ => ?_)
  refine W_entry hav (Nat.le_of_ble_eq_true rfl) (fun ls hl => ?_)
  have hl : lv_has ls 5 [(0, .ref (a 0 0)), (1, .int p1), (2, .int p2), (3, .ref b)] := hl
  unfold f_L_rename at hf
  refine W_heap hP hS (fun H locs hP hS => ?_)
  refine lv_aload_n hx hb dL_rename_0 rfl (lv_at hl 3 rfl) ?_
  refine lv_iconst (v := 0) hx hb dL_rename_1 (by decide) ?_
  refine lv_aload_n hx hb dL_rename_2 rfl (lv_at hl 0 rfl) ?_
  refine lv_iload_n hx hb dL_rename_3 rfl (lv_at hl 1 rfl) ?_
  refine lv_iload_n hx hb dL_rename_4 rfl (lv_at hl 2 rfl) ?_
  obtain ⟨z_1, hz_1, hf⟩ := bn_some hf
  refine cYVi (As := [.int p1, .int p2]) (rest := [.int 0, .ref b]) ⟨hx, hb, hml, hown, hts⟩ (c_X6_rename l hst D cI cZ cJ cT a H.size U p1 p2 z_1 hz_1) (cwV 2 hts (gM_sub gL_rename_X6_rename) rfl rfl rfl (by decide +kernel) ⟨Nat.le_of_ble_eq_true rfl, Nat.le_of_ble_eq_true rfl⟩) (fl_sub hP 0 rfl) hK (fl_subD (hDD U g) 0 rfl) hE hS (fl_free (hDD U g) hS hA 0 rfl) (va_recv hK (fl_sub (fl_sub hP 0 rfl) 0 rfl) (ci := 6) (q0 := 0) rfl rfl) rfl rfl hl.1 (Nat.le_of_ble_eq_true rfl) dL_rename_5 ⟨Nat.le_of_ble_eq_true rfl, Nat.le_of_ble_eq_true rfl⟩ (fun E ce q9 H1 locs k_2 hE9 hP1 hk1 hS hce hcv hcl => ?_) (fun H1 locs k_2 hP1 hk1 hS => ?_)
  · have hf := ite_f hf k_2
    have hP : va_P D cls (wL cI cZ cJ cT a b z_1.2.2 g) H1 := fl_join hP (hDD U g) 0 rfl hk1 hP1
    clear hP1 hk1
    generalize H1 = H at hP hS hce ⊢
    by_cases e_3 : z_1.1 = 1
    · have hf := ite_t hf e_3
      have hE8 : E = "java/lang/IllegalArgumentException" := by rw [hE9, e_3]; rfl
      subst hE8
      refine vx_catch hown [] ⟨0, 10, 13, 19⟩ [⟨0, 10, 17, 13⟩, ⟨0, 10, 21, 21⟩] htb (fun z hz => absurd hz List.not_mem_nil) (by decide) (by decide) (hts (.classLink RL 19 "java/lang/IllegalArgumentException") (List.mem_append_right _ (by decide +kernel))) (EX_bad hE (by decide +kernel)) hce hcv hcl ?_
      refine lv_astore (lv' := [(4, .ref q9), (0, .ref (a 0 0)), (1, .int p1), (2, .int p2), (3, .ref b)]) hx hb dL_rename_13 hl (by decide) rfl (fun ls hl => ?_)
      refine lv_iconst (v := 1) hx hb dL_rename_15 (by decide) ?_
      have eo := Option.some.inj hf
      have hP : va_P D cls (wL cI cZ cJ cT a b o.2.1 o.2.2) H := by rw [← eo]; exact hP
      rw [hQ]
      refine W.widen (k := 1) (n := 6) (Nat.le_of_ble_eq_true rfl) (Nat.le_of_ble_eq_true rfl) ?_
      exact vx_ret (W.iret hx hb hr (fun t ht hW => ⟨⟨_, (), rfl, (by rw [← eo]), P_at ht hP⟩, hS.F ht⟩) hS.2.2 dL_rename_16 hlocks)
    have hf := ite_f hf e_3
    by_cases e_4 : z_1.1 = 2
    · have hf := ite_t hf e_4
      have hE8 : E = "java/lang/IndexOutOfBoundsException" := by rw [hE9, e_4]; rfl
      subst hE8
      refine vx_catch hown [⟨0, 10, 13, 19⟩] ⟨0, 10, 17, 13⟩ [⟨0, 10, 21, 21⟩] htb (List.forall_mem_cons.mpr ⟨Or.inr ⟨by decide, "java/lang/IllegalArgumentException", hts (.classLink RL 19 "java/lang/IllegalArgumentException") (List.mem_append_right _ (by decide +kernel)), hN 2 1 (by decide) (by decide) (by decide)⟩, fun z hz => absurd hz List.not_mem_nil⟩) (by decide) (by decide) (hts (.classLink RL 13 "java/lang/IndexOutOfBoundsException") (List.mem_append_right _ (by decide +kernel))) (EX_bad hE (by decide +kernel)) hce hcv hcl ?_
      refine lv_astore (lv' := [(4, .ref q9), (0, .ref (a 0 0)), (1, .int p1), (2, .int p2), (3, .ref b)]) hx hb dL_rename_17 hl (by decide) rfl (fun ls hl => ?_)
      refine lv_iconst (v := 2) hx hb dL_rename_19 (by decide) ?_
      have eo := Option.some.inj hf
      have hP : va_P D cls (wL cI cZ cJ cT a b o.2.1 o.2.2) H := by rw [← eo]; exact hP
      rw [hQ]
      refine W.widen (k := 1) (n := 6) (Nat.le_of_ble_eq_true rfl) (Nat.le_of_ble_eq_true rfl) ?_
      exact vx_ret (W.iret hx hb hr (fun t ht hW => ⟨⟨_, (), rfl, (by rw [← eo]), P_at ht hP⟩, hS.F ht⟩) hS.2.2 dL_rename_20 hlocks)
    have hf := ite_f hf e_4
    by_cases e_5 : z_1.1 = 3
    · have hf := ite_t hf e_5
      have hE8 : E = "java/lang/IllegalStateException" := by rw [hE9, e_5]; rfl
      subst hE8
      refine vx_catch hown [⟨0, 10, 13, 19⟩, ⟨0, 10, 17, 13⟩] ⟨0, 10, 21, 21⟩ [] htb (List.forall_mem_cons.mpr ⟨Or.inr ⟨by decide, "java/lang/IllegalArgumentException", hts (.classLink RL 19 "java/lang/IllegalArgumentException") (List.mem_append_right _ (by decide +kernel)), hN 3 1 (by decide) (by decide) (by decide)⟩, List.forall_mem_cons.mpr ⟨Or.inr ⟨by decide, "java/lang/IndexOutOfBoundsException", hts (.classLink RL 13 "java/lang/IndexOutOfBoundsException") (List.mem_append_right _ (by decide +kernel)), hN 3 2 (by decide) (by decide) (by decide)⟩, fun z hz => absurd hz List.not_mem_nil⟩⟩) (by decide) (by decide) (hts (.classLink RL 21 "java/lang/IllegalStateException") (List.mem_append_right _ (by decide +kernel))) (EX_bad hE (by decide +kernel)) hce hcv hcl ?_
      refine lv_astore (lv' := [(4, .ref q9), (0, .ref (a 0 0)), (1, .int p1), (2, .int p2), (3, .ref b)]) hx hb dL_rename_21 hl (by decide) rfl (fun ls hl => ?_)
      refine lv_iconst (v := 3) hx hb dL_rename_23 (by decide) ?_
      have eo := Option.some.inj hf
      have hP : va_P D cls (wL cI cZ cJ cT a b o.2.1 o.2.2) H := by rw [← eo]; exact hP
      rw [hQ]
      refine W.widen (k := 1) (n := 6) (Nat.le_of_ble_eq_true rfl) (Nat.le_of_ble_eq_true rfl) ?_
      exact vx_ret (W.iret hx hb hr (fun t ht hW => ⟨⟨_, (), rfl, (by rw [← eo]), P_at ht hP⟩, hS.F ht⟩) hS.2.2 dL_rename_24 hlocks)
    have hf := ite_f hf e_5
    exact nomatch hf
  have hf := ite_t hf k_2
  have hP : va_P D cls (wL cI cZ cJ cT a b z_1.2.2 g) H1 := fl_join hP (hDD U g) 0 rfl hk1 hP1
  clear hP1 hk1
  generalize H1 = H at hP hS ⊢
  refine lv_i2l (v := z_1.2.1.toInt64) hx hb dL_rename_8 rfl ?_
  refine va_last hx hb hK hP (hDD z_1.2.2 g) hS 86 2 rfl rfl (inb_in (i := 0) (n := 1) (by decide)) dL_rename_9 (fun H locs hP _ hS => ?_)
  have hP : va_P D cls (wL cI cZ cJ cT a b z_1.2.2 (setL g z_1.2.1.toInt64)) H := hP
  refine lv_goto (tgt := 25) hx hb dL_rename_10 (by decide) ?_
  refine lv_iconst (v := 0) hx hb dL_rename_25 (by decide) ?_
  have eo := Option.some.inj hf
  have hP : va_P D cls (wL cI cZ cJ cT a b o.2.1 o.2.2) H := by rw [← eo]; exact hP
  rw [hQ]
  refine W.widen (k := 1) (n := 6) (Nat.le_of_ble_eq_true rfl) (Nat.le_of_ble_eq_true rfl) ?_
  exact vx_ret (W.iret hx hb hr (fun t ht hW => ⟨⟨_, (), rfl, (by rw [← eo]), P_at ht hP⟩, hS.F ht⟩) hS.2.2 dL_rename_26 hlocks)
set_option maxRecDepth 20000 in
theorem ggL_remove_X6_remove : GoodIn wsL_remove wsX6_remove := goodIn_ca (goodIn_ca (goodIn_ca (goodIn_r _ [6, 7, 8, 9, 10, 11, 12, 13, 14, 15, 5, 16, 17, 18, 19, 20, 21, 22, 23, 24, 25, 26, 27, 28, 29, 30, 31, 32, 33, 34, 35, 36, 37, 38, 39, 40, 41, 42, 43, 44, 45, 46, 47, 48, 49, 50, 51, 52, 53, 54, 55, 56, 57, 58, 59, 60, 61, 62, 63, 64, 65, 66, 67, 68, 69, 70, 71, 72, 73, 74, 75, 76, 77, 78, 79, 80, 81, 82, 83, 84, 85, 86, 87, 88, 89, 90, 91, 92, 93, 94, 95, 96, 97, 98, 99, 100, 101, 102, 103, 104, 105, 106, 107, 108, 109, 110, 111, 112, 113, 114, 115, 116, 117, 118, 119, 120, 121, 122, 123, 124, 125, 126, 127, 128, 129, 130, 131, 132, 133, 134, 135, 136, 137, 138, 139, 140, 141, 142, 143, 144, 145, 146, 147, 148, 149, 150, 151, 152, 153, 154, 155, 156, 157, 158, 159, 160, 161, 162, 163, 164, 165, 166, 167, 168, 169, 170, 171, 172, 173, 174, 175, 176, 177, 178, 179, 180, 181, 182, 183, 184, 185, 186, 187, 188, 189, 190, 191, 192, 193, 194, 195, 196, 197, 198, 199, 200, 201, 202, 203, 204, 205, 206, 207, 208, 209, 210, 211, 212, 213, 214, 215, 216, 217, 218, 219, 220, 221, 222, 223, 224, 225, 226, 227, 228, 229] (by decide +kernel) (by decide +kernel)) (goodIn_sub (fun _ h => List.mem_cons_of_mem _ (List.mem_append_left _ (List.mem_append_left _ (List.mem_append_right _ h)))) (by decide +kernel))) (goodIn_sub (fun _ h => List.mem_cons_of_mem _ (List.mem_append_left _ (List.mem_append_right _ h))) (by decide +kernel))) (goodIn_sub (fun _ h => List.mem_cons_of_mem _ (List.mem_append_right _ h)) (by decide +kernel))
set_option maxRecDepth 20000 in
theorem gL_remove_X6_remove : GoodIn wsL_remove (wsV RL 35 RX6 yX6_remove wsX6_remove) := goodIn_app (goodIn_of _ (by decide +kernel)) ggL_remove_X6_remove
theorem dL_remove_0 : decode cL_remove 0 = .ok (.aload_n 2, 1) := by decide +kernel
theorem dL_remove_1 : decode cL_remove 1 = .ok (.iconst 0, 1) := by decide +kernel
theorem dL_remove_2 : decode cL_remove 2 = .ok (.aload_n 0, 1) := by decide +kernel
theorem dL_remove_3 : decode cL_remove 3 = .ok (.iload_n 1, 1) := by decide +kernel
theorem dL_remove_4 : decode cL_remove 4 = .ok (.invokevirtual 35, 3) := by decide +kernel
theorem dL_remove_7 : decode cL_remove 7 = .ok (.ifCond .eq 7, 3) := by decide +kernel
theorem dL_remove_10 : decode cL_remove 10 = .ok (.lconst 1, 1) := by decide +kernel
theorem dL_remove_11 : decode cL_remove 11 = .ok (.goto 4, 3) := by decide +kernel
theorem dL_remove_14 : decode cL_remove 14 = .ok (.lconst 0, 1) := by decide +kernel
theorem dL_remove_15 : decode cL_remove 15 = .ok (.lastore, 1) := by decide +kernel
theorem dL_remove_16 : decode cL_remove 16 = .ok (.goto 12, 3) := by decide +kernel
theorem dL_remove_19 : decode cL_remove 19 = .ok (.astore_n 3, 1) := by decide +kernel
theorem dL_remove_20 : decode cL_remove 20 = .ok (.iconst 1, 1) := by decide +kernel
theorem dL_remove_21 : decode cL_remove 21 = .ok (.ireturn, 1) := by decide +kernel
theorem dL_remove_22 : decode cL_remove 22 = .ok (.astore_n 3, 1) := by decide +kernel
theorem dL_remove_23 : decode cL_remove 23 = .ok (.iconst 2, 1) := by decide +kernel
theorem dL_remove_24 : decode cL_remove 24 = .ok (.ireturn, 1) := by decide +kernel
theorem dL_remove_25 : decode cL_remove 25 = .ok (.astore_n 3, 1) := by decide +kernel
theorem dL_remove_26 : decode cL_remove 26 = .ok (.iconst 3, 1) := by decide +kernel
theorem dL_remove_27 : decode cL_remove 27 = .ok (.ireturn, 1) := by decide +kernel
theorem dL_remove_28 : decode cL_remove 28 = .ok (.iconst 0, 1) := by decide +kernel
theorem dL_remove_29 : decode cL_remove 29 = .ok (.ireturn, 1) := by decide +kernel
def f_L_remove (U : S2) (g : Nat → Int64) (p1 : Int32) : Option (Int32 × S2 × (Nat → Int64)) := bn (f_X6_remove U p1) (fun z_1 => if z_1.1 = 0 then if z_1.2.1 = 0 then some (0, z_1.2.2, setL g 0) else some (0, z_1.2.2, setL g 1) else if z_1.1 = 1 then some (1, z_1.2.2, g) else if z_1.1 = 2 then some (2, z_1.2.2, g) else if z_1.1 = 3 then some (3, z_1.2.2, g) else none)
def wsML_remove : List Cond := wsL_remove ++ LK
def rmL_remove : Room := { frames := 7, cells := 1, slots := 6, locals := 155 }
set_option maxHeartbeats 4000000 in
set_option maxRecDepth 100000 in
theorem c_L_remove (l : Launch) (hst : l.stackTraces = false) (D : va_G) (cI cZ cJ cT : ClassId) (a : Nat → Nat → Nat) (b : Nat) (sz : Nat) (U : S2) (g : Nat → Int64) (p1 : Int32) (o : Int32 × S2 × (Nat → Int64)) (hf : f_L_remove U g p1 = some o) : vx_Met l yL_remove wsML_remove rmL_remove (va_Pc [.ref (a 0 0), .int p1, .ref b] (PL D cls (tys cI cZ cJ cT) (wL cI cZ cJ cT a b U g) sz)) (QWi D cls o.1 (wL cI cZ cJ cT a b o.2.1 o.2.2) (va_A (wL cI cZ cJ cT a b U g) sz)) (vx_X (fun (_ : Unit) => False) (fun _ _ _ => True) (va_A (wL cI cZ cJ cT a b U g) sz)) 1 6 (va_A (wL cI cZ cJ cT a b U g) sz) := by
  refine vx_ofWH (cc := cL_remove) (maxL := 4) (ret := (some .int)) (by decide) rfl ?_
  intro p e s m args below meth c s₁ B hml hv
  obtain ⟨hav, ⟨⟨hsz, hP, hK, hD0⟩, hE⟩, hN⟩ := hv
  have hx := B.exec
  have hb := B.bytes
  have hr := B.returns
  have hlocks := B.notSynchronized
  have hts := atoms_spec (ws := wsML_remove) B.pre
  have hown : s.vm.findClass RL = some m.cls := findClass_of_methodNamed B.named
  have htb : c.exceptionTable.toList = [⟨0, 16, 19, 19⟩, ⟨0, 16, 22, 13⟩, ⟨0, 16, 25, 21⟩] := vx_table (x := yL_remove) B (hts _ (List.mem_append_left _ List.mem_cons_self))
  subst hsz
  have hD := hD0.self (sz := s.heap.size)
  generalize hAe : va_A (wL cI cZ cJ cT a b U g) s.heap.size = A at hD hE ⊢
  have hA : ∀ q : Nat, s.heap.size ≤ q → A q := fun q h => by rw [← hAe]; exact Or.inr h
  have hS : va_S A s.heap s.heap [] := va_S.rf
  have hDD : ∀ (V : S2) (k : Nat → Int64), va_D A (wL cI cZ cJ cT a b V k) := fun _ _ => D_same (w := (wL cI cZ cJ cT a b U g)) rfl hD
  refine Wq (fun Q hQ => ?_)
  refine W_entry hav (Nat.le_of_ble_eq_true rfl) (fun ls hl => ?_)
  have hl : lv_has ls 4 [(0, .ref (a 0 0)), (1, .int p1), (2, .ref b)] := hl
  unfold f_L_remove at hf
  refine W_heap hP hS (fun H locs hP hS => ?_)
  refine lv_aload_n hx hb dL_remove_0 rfl (lv_at hl 2 rfl) ?_
  refine lv_iconst (v := 0) hx hb dL_remove_1 (by decide) ?_
  refine lv_aload_n hx hb dL_remove_2 rfl (lv_at hl 0 rfl) ?_
  refine lv_iload_n hx hb dL_remove_3 rfl (lv_at hl 1 rfl) ?_
  obtain ⟨z_1, hz_1, hf⟩ := bn_some hf
  refine cYVi (As := [.int p1]) (rest := [.int 0, .ref b]) ⟨hx, hb, hml, hown, hts⟩ (c_X6_remove l hst D cI cZ cJ cT a H.size U p1 z_1 hz_1) (cwV 1 hts (gM_sub gL_remove_X6_remove) rfl rfl rfl (by decide +kernel) ⟨Nat.le_of_ble_eq_true rfl, Nat.le_of_ble_eq_true rfl⟩) (fl_sub hP 0 rfl) hK (fl_subD (hDD U g) 0 rfl) hE hS (fl_free (hDD U g) hS hA 0 rfl) (va_recv hK (fl_sub (fl_sub hP 0 rfl) 0 rfl) (ci := 6) (q0 := 0) rfl rfl) rfl rfl hl.1 (Nat.le_of_ble_eq_true rfl) dL_remove_4 ⟨Nat.le_of_ble_eq_true rfl, Nat.le_of_ble_eq_true rfl⟩ (fun E ce q9 H1 locs k_2 hE9 hP1 hk1 hS hce hcv hcl => ?_) (fun H1 locs k_2 hP1 hk1 hS => ?_)
  · have hf := ite_f hf k_2
    have hP : va_P D cls (wL cI cZ cJ cT a b z_1.2.2 g) H1 := fl_join hP (hDD U g) 0 rfl hk1 hP1
    clear hP1 hk1
    generalize H1 = H at hP hS hce ⊢
    by_cases e_3 : z_1.1 = 1
    · have hf := ite_t hf e_3
      have hE8 : E = "java/lang/IllegalArgumentException" := by rw [hE9, e_3]; rfl
      subst hE8
      refine vx_catch hown [] ⟨0, 16, 19, 19⟩ [⟨0, 16, 22, 13⟩, ⟨0, 16, 25, 21⟩] htb (fun z hz => absurd hz List.not_mem_nil) (by decide) (by decide) (hts (.classLink RL 19 "java/lang/IllegalArgumentException") (List.mem_append_right _ (by decide +kernel))) (EX_bad hE (by decide +kernel)) hce hcv hcl ?_
      refine lv_astore_n (lv' := [(3, .ref q9), (0, .ref (a 0 0)), (1, .int p1), (2, .ref b)]) hx hb dL_remove_19 rfl hl (by decide) rfl (fun ls hl => ?_)
      refine lv_iconst (v := 1) hx hb dL_remove_20 (by decide) ?_
      have eo := Option.some.inj hf
      have hP : va_P D cls (wL cI cZ cJ cT a b o.2.1 o.2.2) H := by rw [← eo]; exact hP
      rw [hQ]
      refine W.widen (k := 1) (n := 6) (Nat.le_of_ble_eq_true rfl) (Nat.le_of_ble_eq_true rfl) ?_
      exact vx_ret (W.iret hx hb hr (fun t ht hW => ⟨⟨_, (), rfl, (by rw [← eo]), P_at ht hP⟩, hS.F ht⟩) hS.2.2 dL_remove_21 hlocks)
    have hf := ite_f hf e_3
    by_cases e_4 : z_1.1 = 2
    · have hf := ite_t hf e_4
      have hE8 : E = "java/lang/IndexOutOfBoundsException" := by rw [hE9, e_4]; rfl
      subst hE8
      refine vx_catch hown [⟨0, 16, 19, 19⟩] ⟨0, 16, 22, 13⟩ [⟨0, 16, 25, 21⟩] htb (List.forall_mem_cons.mpr ⟨Or.inr ⟨by decide, "java/lang/IllegalArgumentException", hts (.classLink RL 19 "java/lang/IllegalArgumentException") (List.mem_append_right _ (by decide +kernel)), hN 2 1 (by decide) (by decide) (by decide)⟩, fun z hz => absurd hz List.not_mem_nil⟩) (by decide) (by decide) (hts (.classLink RL 13 "java/lang/IndexOutOfBoundsException") (List.mem_append_right _ (by decide +kernel))) (EX_bad hE (by decide +kernel)) hce hcv hcl ?_
      refine lv_astore_n (lv' := [(3, .ref q9), (0, .ref (a 0 0)), (1, .int p1), (2, .ref b)]) hx hb dL_remove_22 rfl hl (by decide) rfl (fun ls hl => ?_)
      refine lv_iconst (v := 2) hx hb dL_remove_23 (by decide) ?_
      have eo := Option.some.inj hf
      have hP : va_P D cls (wL cI cZ cJ cT a b o.2.1 o.2.2) H := by rw [← eo]; exact hP
      rw [hQ]
      refine W.widen (k := 1) (n := 6) (Nat.le_of_ble_eq_true rfl) (Nat.le_of_ble_eq_true rfl) ?_
      exact vx_ret (W.iret hx hb hr (fun t ht hW => ⟨⟨_, (), rfl, (by rw [← eo]), P_at ht hP⟩, hS.F ht⟩) hS.2.2 dL_remove_24 hlocks)
    have hf := ite_f hf e_4
    by_cases e_5 : z_1.1 = 3
    · have hf := ite_t hf e_5
      have hE8 : E = "java/lang/IllegalStateException" := by rw [hE9, e_5]; rfl
      subst hE8
      refine vx_catch hown [⟨0, 16, 19, 19⟩, ⟨0, 16, 22, 13⟩] ⟨0, 16, 25, 21⟩ [] htb (List.forall_mem_cons.mpr ⟨Or.inr ⟨by decide, "java/lang/IllegalArgumentException", hts (.classLink RL 19 "java/lang/IllegalArgumentException") (List.mem_append_right _ (by decide +kernel)), hN 3 1 (by decide) (by decide) (by decide)⟩, List.forall_mem_cons.mpr ⟨Or.inr ⟨by decide, "java/lang/IndexOutOfBoundsException", hts (.classLink RL 13 "java/lang/IndexOutOfBoundsException") (List.mem_append_right _ (by decide +kernel)), hN 3 2 (by decide) (by decide) (by decide)⟩, fun z hz => absurd hz List.not_mem_nil⟩⟩) (by decide) (by decide) (hts (.classLink RL 21 "java/lang/IllegalStateException") (List.mem_append_right _ (by decide +kernel))) (EX_bad hE (by decide +kernel)) hce hcv hcl ?_
      refine lv_astore_n (lv' := [(3, .ref q9), (0, .ref (a 0 0)), (1, .int p1), (2, .ref b)]) hx hb dL_remove_25 rfl hl (by decide) rfl (fun ls hl => ?_)
      refine lv_iconst (v := 3) hx hb dL_remove_26 (by decide) ?_
      have eo := Option.some.inj hf
      have hP : va_P D cls (wL cI cZ cJ cT a b o.2.1 o.2.2) H := by rw [← eo]; exact hP
      rw [hQ]
      refine W.widen (k := 1) (n := 6) (Nat.le_of_ble_eq_true rfl) (Nat.le_of_ble_eq_true rfl) ?_
      exact vx_ret (W.iret hx hb hr (fun t ht hW => ⟨⟨_, (), rfl, (by rw [← eo]), P_at ht hP⟩, hS.F ht⟩) hS.2.2 dL_remove_27 hlocks)
    have hf := ite_f hf e_5
    exact nomatch hf
  have hf := ite_t hf k_2
  have hP : va_P D cls (wL cI cZ cJ cT a b z_1.2.2 g) H1 := fl_join hP (hDD U g) 0 rfl hk1 hP1
  clear hP1 hk1
  generalize H1 = H at hP hS ⊢
  refine lv_if_eq (tgt := 14) hx hb dL_remove_7 (by decide) (fun c_6 => ?_) (fun c_6 => ?_)
  · have hf := ite_t hf c_6
    refine lv_lconst (v := 0) hx hb dL_remove_14 (by decide) ?_
    refine va_last hx hb hK hP (hDD z_1.2.2 g) hS 86 2 rfl rfl (inb_in (i := 0) (n := 1) (by decide)) dL_remove_15 (fun H locs hP _ hS => ?_)
    have hP : va_P D cls (wL cI cZ cJ cT a b z_1.2.2 (setL g 0)) H := hP
    refine lv_goto (tgt := 28) hx hb dL_remove_16 (by decide) ?_
    refine lv_iconst (v := 0) hx hb dL_remove_28 (by decide) ?_
    have eo := Option.some.inj hf
    have hP : va_P D cls (wL cI cZ cJ cT a b o.2.1 o.2.2) H := by rw [← eo]; exact hP
    rw [hQ]
    refine W.widen (k := 1) (n := 6) (Nat.le_of_ble_eq_true rfl) (Nat.le_of_ble_eq_true rfl) ?_
    exact vx_ret (W.iret hx hb hr (fun t ht hW => ⟨⟨_, (), rfl, (by rw [← eo]), P_at ht hP⟩, hS.F ht⟩) hS.2.2 dL_remove_29 hlocks)
  · have hf := ite_f hf c_6
    refine lv_lconst (v := 1) hx hb dL_remove_10 (by decide) ?_
    refine lv_goto (tgt := 15) hx hb dL_remove_11 (by decide) ?_
    refine va_last hx hb hK hP (hDD z_1.2.2 g) hS 86 2 rfl rfl (inb_in (i := 0) (n := 1) (by decide)) dL_remove_15 (fun H locs hP _ hS => ?_)
    have hP : va_P D cls (wL cI cZ cJ cT a b z_1.2.2 (setL g 1)) H := hP
    refine lv_goto (tgt := 28) hx hb dL_remove_16 (by decide) ?_
    refine lv_iconst (v := 0) hx hb dL_remove_28 (by decide) ?_
    have eo := Option.some.inj hf
    have hP : va_P D cls (wL cI cZ cJ cT a b o.2.1 o.2.2) H := by rw [← eo]; exact hP
    rw [hQ]
    refine W.widen (k := 1) (n := 6) (Nat.le_of_ble_eq_true rfl) (Nat.le_of_ble_eq_true rfl) ?_
    exact vx_ret (W.iret hx hb hr (fun t ht hW => ⟨⟨_, (), rfl, (by rw [← eo]), P_at ht hP⟩, hS.F ht⟩) hS.2.2 dL_remove_29 hlocks)
set_option maxRecDepth 20000 in
theorem ggL_rights_X6_rights : GoodIn wsL_rights wsX6_rights := goodIn_ca (goodIn_ca (goodIn_ca (goodIn_r _ [6, 7, 8, 9, 10, 11, 12, 13, 14, 15, 16, 17, 5, 18, 19, 20, 21, 22, 23, 24, 25, 26, 27, 28, 29, 30, 31, 32, 33, 34, 35, 36, 37, 38, 39, 40, 41, 42, 43, 44, 45, 46, 47, 48, 49, 50, 51, 52, 53, 54, 55, 56, 57, 58, 59, 60, 61, 62, 63, 64, 65, 66, 67, 68, 69, 70, 71, 72, 73, 74, 75, 76, 77, 78, 79, 80, 81, 82, 83, 84, 85, 86, 87, 88, 89, 90, 91, 92, 93, 94, 95, 96, 97, 98, 99, 100, 101, 102, 103, 104, 105, 106, 107, 108, 109, 110, 111, 112, 113] (by decide +kernel) (by decide +kernel)) (goodIn_sub (fun _ h => List.mem_cons_of_mem _ (List.mem_append_left _ (List.mem_append_left _ (List.mem_append_right _ h)))) (by decide +kernel))) (goodIn_sub (fun _ h => List.mem_cons_of_mem _ (List.mem_append_left _ (List.mem_append_right _ h))) (by decide +kernel))) (goodIn_sub (fun _ h => List.mem_cons_of_mem _ (List.mem_append_right _ h)) (by decide +kernel))
set_option maxRecDepth 20000 in
theorem gL_rights_X6_rights : GoodIn wsL_rights (wsV RL 39 RX6 yX6_rights wsX6_rights) := goodIn_app (goodIn_of _ (by decide +kernel)) ggL_rights_X6_rights
theorem dL_rights_0 : decode cL_rights 0 = .ok (.aload_n 3, 1) := by decide +kernel
theorem dL_rights_1 : decode cL_rights 1 = .ok (.iconst 0, 1) := by decide +kernel
theorem dL_rights_2 : decode cL_rights 2 = .ok (.aload_n 0, 1) := by decide +kernel
theorem dL_rights_3 : decode cL_rights 3 = .ok (.iload_n 1, 1) := by decide +kernel
theorem dL_rights_4 : decode cL_rights 4 = .ok (.iload_n 2, 1) := by decide +kernel
theorem dL_rights_5 : decode cL_rights 5 = .ok (.invokevirtual 39, 3) := by decide +kernel
theorem dL_rights_8 : decode cL_rights 8 = .ok (.i2l, 1) := by decide +kernel
theorem dL_rights_9 : decode cL_rights 9 = .ok (.lastore, 1) := by decide +kernel
theorem dL_rights_10 : decode cL_rights 10 = .ok (.goto 15, 3) := by decide +kernel
theorem dL_rights_13 : decode cL_rights 13 = .ok (.astore 4, 2) := by decide +kernel
theorem dL_rights_15 : decode cL_rights 15 = .ok (.iconst 1, 1) := by decide +kernel
theorem dL_rights_16 : decode cL_rights 16 = .ok (.ireturn, 1) := by decide +kernel
theorem dL_rights_17 : decode cL_rights 17 = .ok (.astore 4, 2) := by decide +kernel
theorem dL_rights_19 : decode cL_rights 19 = .ok (.iconst 2, 1) := by decide +kernel
theorem dL_rights_20 : decode cL_rights 20 = .ok (.ireturn, 1) := by decide +kernel
theorem dL_rights_21 : decode cL_rights 21 = .ok (.astore 4, 2) := by decide +kernel
theorem dL_rights_23 : decode cL_rights 23 = .ok (.iconst 3, 1) := by decide +kernel
theorem dL_rights_24 : decode cL_rights 24 = .ok (.ireturn, 1) := by decide +kernel
theorem dL_rights_25 : decode cL_rights 25 = .ok (.iconst 0, 1) := by decide +kernel
theorem dL_rights_26 : decode cL_rights 26 = .ok (.ireturn, 1) := by decide +kernel
def f_L_rights (U : S2) (g : Nat → Int64) (p1 : Int32) (p2 : Int32) : Option (Int32 × S2 × (Nat → Int64)) := bn (f_X6_rights U p1 p2) (fun z_1 => if z_1.1 = 0 then some (0, z_1.2.2, setL g z_1.2.1.toInt64) else if z_1.1 = 1 then some (1, z_1.2.2, g) else if z_1.1 = 2 then some (2, z_1.2.2, g) else if z_1.1 = 3 then some (3, z_1.2.2, g) else none)
def wsML_rights : List Cond := wsL_rights ++ LK
def rmL_rights : Room := { frames := 7, cells := 1, slots := 6, locals := 117 }
set_option maxHeartbeats 4000000 in
set_option maxRecDepth 100000 in
theorem c_L_rights (l : Launch) (hst : l.stackTraces = false) (D : va_G) (cI cZ cJ cT : ClassId) (a : Nat → Nat → Nat) (b : Nat) (sz : Nat) (U : S2) (g : Nat → Int64) (p1 : Int32) (p2 : Int32) (o : Int32 × S2 × (Nat → Int64)) (hf : f_L_rights U g p1 p2 = some o) : vx_Met l yL_rights wsML_rights rmL_rights (va_Pc [.ref (a 0 0), .int p1, .int p2, .ref b] (PL D cls (tys cI cZ cJ cT) (wL cI cZ cJ cT a b U g) sz)) (QWi D cls o.1 (wL cI cZ cJ cT a b o.2.1 o.2.2) (va_A (wL cI cZ cJ cT a b U g) sz)) (vx_X (fun (_ : Unit) => False) (fun _ _ _ => True) (va_A (wL cI cZ cJ cT a b U g) sz)) 1 6 (va_A (wL cI cZ cJ cT a b U g) sz) := by
  refine vx_ofWH (cc := cL_rights) (maxL := 5) (ret := (some .int)) (by decide) rfl ?_
  intro p e s m args below meth c s₁ B hml hv
  obtain ⟨hav, ⟨⟨hsz, hP, hK, hD0⟩, hE⟩, hN⟩ := hv
  have hx := B.exec
  have hb := B.bytes
  have hr := B.returns
  have hlocks := B.notSynchronized
  have hts := atoms_spec (ws := wsML_rights) B.pre
  have hown : s.vm.findClass RL = some m.cls := findClass_of_methodNamed B.named
  have htb : c.exceptionTable.toList = [⟨0, 10, 13, 19⟩, ⟨0, 10, 17, 13⟩, ⟨0, 10, 21, 21⟩] := vx_table (x := yL_rights) B (hts _ (List.mem_append_left _ List.mem_cons_self))
  subst hsz
  have hD := hD0.self (sz := s.heap.size)
  generalize hAe : va_A (wL cI cZ cJ cT a b U g) s.heap.size = A at hD hE ⊢
  have hA : ∀ q : Nat, s.heap.size ≤ q → A q := fun q h => by rw [← hAe]; exact Or.inr h
  have hS : va_S A s.heap s.heap [] := va_S.rf
  have hDD : ∀ (V : S2) (k : Nat → Int64), va_D A (wL cI cZ cJ cT a b V k) := fun _ _ => D_same (w := (wL cI cZ cJ cT a b U g)) rfl hD
  refine Wq (fun Q hQ => ?_)
  refine W_entry hav (Nat.le_of_ble_eq_true rfl) (fun ls hl => ?_)
  have hl : lv_has ls 5 [(0, .ref (a 0 0)), (1, .int p1), (2, .int p2), (3, .ref b)] := hl
  unfold f_L_rights at hf
  refine W_heap hP hS (fun H locs hP hS => ?_)
  refine lv_aload_n hx hb dL_rights_0 rfl (lv_at hl 3 rfl) ?_
  refine lv_iconst (v := 0) hx hb dL_rights_1 (by decide) ?_
  refine lv_aload_n hx hb dL_rights_2 rfl (lv_at hl 0 rfl) ?_
  refine lv_iload_n hx hb dL_rights_3 rfl (lv_at hl 1 rfl) ?_
  refine lv_iload_n hx hb dL_rights_4 rfl (lv_at hl 2 rfl) ?_
  obtain ⟨z_1, hz_1, hf⟩ := bn_some hf
  refine cYVi (As := [.int p1, .int p2]) (rest := [.int 0, .ref b]) ⟨hx, hb, hml, hown, hts⟩ (c_X6_rights l hst D cI cZ cJ cT a H.size U p1 p2 z_1 hz_1) (cwV 2 hts (gM_sub gL_rights_X6_rights) rfl rfl rfl (by decide +kernel) ⟨Nat.le_of_ble_eq_true rfl, Nat.le_of_ble_eq_true rfl⟩) (fl_sub hP 0 rfl) hK (fl_subD (hDD U g) 0 rfl) hE hS (fl_free (hDD U g) hS hA 0 rfl) (va_recv hK (fl_sub (fl_sub hP 0 rfl) 0 rfl) (ci := 6) (q0 := 0) rfl rfl) rfl rfl hl.1 (Nat.le_of_ble_eq_true rfl) dL_rights_5 ⟨Nat.le_of_ble_eq_true rfl, Nat.le_of_ble_eq_true rfl⟩ (fun E ce q9 H1 locs k_2 hE9 hP1 hk1 hS hce hcv hcl => ?_) (fun H1 locs k_2 hP1 hk1 hS => ?_)
  · have hf := ite_f hf k_2
    have hP : va_P D cls (wL cI cZ cJ cT a b z_1.2.2 g) H1 := fl_join hP (hDD U g) 0 rfl hk1 hP1
    clear hP1 hk1
    generalize H1 = H at hP hS hce ⊢
    by_cases e_3 : z_1.1 = 1
    · have hf := ite_t hf e_3
      have hE8 : E = "java/lang/IllegalArgumentException" := by rw [hE9, e_3]; rfl
      subst hE8
      refine vx_catch hown [] ⟨0, 10, 13, 19⟩ [⟨0, 10, 17, 13⟩, ⟨0, 10, 21, 21⟩] htb (fun z hz => absurd hz List.not_mem_nil) (by decide) (by decide) (hts (.classLink RL 19 "java/lang/IllegalArgumentException") (List.mem_append_right _ (by decide +kernel))) (EX_bad hE (by decide +kernel)) hce hcv hcl ?_
      refine lv_astore (lv' := [(4, .ref q9), (0, .ref (a 0 0)), (1, .int p1), (2, .int p2), (3, .ref b)]) hx hb dL_rights_13 hl (by decide) rfl (fun ls hl => ?_)
      refine lv_iconst (v := 1) hx hb dL_rights_15 (by decide) ?_
      have eo := Option.some.inj hf
      have hP : va_P D cls (wL cI cZ cJ cT a b o.2.1 o.2.2) H := by rw [← eo]; exact hP
      rw [hQ]
      refine W.widen (k := 1) (n := 6) (Nat.le_of_ble_eq_true rfl) (Nat.le_of_ble_eq_true rfl) ?_
      exact vx_ret (W.iret hx hb hr (fun t ht hW => ⟨⟨_, (), rfl, (by rw [← eo]), P_at ht hP⟩, hS.F ht⟩) hS.2.2 dL_rights_16 hlocks)
    have hf := ite_f hf e_3
    by_cases e_4 : z_1.1 = 2
    · have hf := ite_t hf e_4
      have hE8 : E = "java/lang/IndexOutOfBoundsException" := by rw [hE9, e_4]; rfl
      subst hE8
      refine vx_catch hown [⟨0, 10, 13, 19⟩] ⟨0, 10, 17, 13⟩ [⟨0, 10, 21, 21⟩] htb (List.forall_mem_cons.mpr ⟨Or.inr ⟨by decide, "java/lang/IllegalArgumentException", hts (.classLink RL 19 "java/lang/IllegalArgumentException") (List.mem_append_right _ (by decide +kernel)), hN 2 1 (by decide) (by decide) (by decide)⟩, fun z hz => absurd hz List.not_mem_nil⟩) (by decide) (by decide) (hts (.classLink RL 13 "java/lang/IndexOutOfBoundsException") (List.mem_append_right _ (by decide +kernel))) (EX_bad hE (by decide +kernel)) hce hcv hcl ?_
      refine lv_astore (lv' := [(4, .ref q9), (0, .ref (a 0 0)), (1, .int p1), (2, .int p2), (3, .ref b)]) hx hb dL_rights_17 hl (by decide) rfl (fun ls hl => ?_)
      refine lv_iconst (v := 2) hx hb dL_rights_19 (by decide) ?_
      have eo := Option.some.inj hf
      have hP : va_P D cls (wL cI cZ cJ cT a b o.2.1 o.2.2) H := by rw [← eo]; exact hP
      rw [hQ]
      refine W.widen (k := 1) (n := 6) (Nat.le_of_ble_eq_true rfl) (Nat.le_of_ble_eq_true rfl) ?_
      exact vx_ret (W.iret hx hb hr (fun t ht hW => ⟨⟨_, (), rfl, (by rw [← eo]), P_at ht hP⟩, hS.F ht⟩) hS.2.2 dL_rights_20 hlocks)
    have hf := ite_f hf e_4
    by_cases e_5 : z_1.1 = 3
    · have hf := ite_t hf e_5
      have hE8 : E = "java/lang/IllegalStateException" := by rw [hE9, e_5]; rfl
      subst hE8
      refine vx_catch hown [⟨0, 10, 13, 19⟩, ⟨0, 10, 17, 13⟩] ⟨0, 10, 21, 21⟩ [] htb (List.forall_mem_cons.mpr ⟨Or.inr ⟨by decide, "java/lang/IllegalArgumentException", hts (.classLink RL 19 "java/lang/IllegalArgumentException") (List.mem_append_right _ (by decide +kernel)), hN 3 1 (by decide) (by decide) (by decide)⟩, List.forall_mem_cons.mpr ⟨Or.inr ⟨by decide, "java/lang/IndexOutOfBoundsException", hts (.classLink RL 13 "java/lang/IndexOutOfBoundsException") (List.mem_append_right _ (by decide +kernel)), hN 3 2 (by decide) (by decide) (by decide)⟩, fun z hz => absurd hz List.not_mem_nil⟩⟩) (by decide) (by decide) (hts (.classLink RL 21 "java/lang/IllegalStateException") (List.mem_append_right _ (by decide +kernel))) (EX_bad hE (by decide +kernel)) hce hcv hcl ?_
      refine lv_astore (lv' := [(4, .ref q9), (0, .ref (a 0 0)), (1, .int p1), (2, .int p2), (3, .ref b)]) hx hb dL_rights_21 hl (by decide) rfl (fun ls hl => ?_)
      refine lv_iconst (v := 3) hx hb dL_rights_23 (by decide) ?_
      have eo := Option.some.inj hf
      have hP : va_P D cls (wL cI cZ cJ cT a b o.2.1 o.2.2) H := by rw [← eo]; exact hP
      rw [hQ]
      refine W.widen (k := 1) (n := 6) (Nat.le_of_ble_eq_true rfl) (Nat.le_of_ble_eq_true rfl) ?_
      exact vx_ret (W.iret hx hb hr (fun t ht hW => ⟨⟨_, (), rfl, (by rw [← eo]), P_at ht hP⟩, hS.F ht⟩) hS.2.2 dL_rights_24 hlocks)
    have hf := ite_f hf e_5
    exact nomatch hf
  have hf := ite_t hf k_2
  have hP : va_P D cls (wL cI cZ cJ cT a b z_1.2.2 g) H1 := fl_join hP (hDD U g) 0 rfl hk1 hP1
  clear hP1 hk1
  generalize H1 = H at hP hS ⊢
  refine lv_i2l (v := z_1.2.1.toInt64) hx hb dL_rights_8 rfl ?_
  refine va_last hx hb hK hP (hDD z_1.2.2 g) hS 86 2 rfl rfl (inb_in (i := 0) (n := 1) (by decide)) dL_rights_9 (fun H locs hP _ hS => ?_)
  have hP : va_P D cls (wL cI cZ cJ cT a b z_1.2.2 (setL g z_1.2.1.toInt64)) H := hP
  refine lv_goto (tgt := 25) hx hb dL_rights_10 (by decide) ?_
  refine lv_iconst (v := 0) hx hb dL_rights_25 (by decide) ?_
  have eo := Option.some.inj hf
  have hP : va_P D cls (wL cI cZ cJ cT a b o.2.1 o.2.2) H := by rw [← eo]; exact hP
  rw [hQ]
  refine W.widen (k := 1) (n := 6) (Nat.le_of_ble_eq_true rfl) (Nat.le_of_ble_eq_true rfl) ?_
  exact vx_ret (W.iret hx hb hr (fun t ht hW => ⟨⟨_, (), rfl, (by rw [← eo]), P_at ht hP⟩, hS.F ht⟩) hS.2.2 dL_rights_26 hlocks)
set_option maxRecDepth 20000 in
theorem ggL_own_X6_own : GoodIn wsL_own wsX6_own := goodIn_ca (goodIn_ca (goodIn_ca (goodIn_r _ [6, 7, 8, 9, 10, 11, 12, 13, 14, 15, 16, 17, 5, 18, 19, 20, 21, 22, 23, 24, 25, 26, 27, 28, 29, 30, 31, 32, 33, 34, 35, 36, 37, 38, 39, 40, 41, 42, 43, 44, 45, 46, 47, 48, 49, 50, 51, 52, 53, 54, 55, 56, 57, 58, 59, 60, 61, 62, 63, 64, 65, 66, 67, 68, 69, 70, 71, 72, 73, 74, 75, 76, 77, 78, 79, 80, 81, 82, 83, 84, 85, 86, 87, 88, 89, 90, 91, 92, 93, 94, 95, 96, 97, 98, 99, 100, 101, 102, 103, 104, 105, 106, 107, 108] (by decide +kernel) (by decide +kernel)) (goodIn_sub (fun _ h => List.mem_cons_of_mem _ (List.mem_append_left _ (List.mem_append_left _ (List.mem_append_right _ h)))) (by decide +kernel))) (goodIn_sub (fun _ h => List.mem_cons_of_mem _ (List.mem_append_left _ (List.mem_append_right _ h))) (by decide +kernel))) (goodIn_sub (fun _ h => List.mem_cons_of_mem _ (List.mem_append_right _ h)) (by decide +kernel))
set_option maxRecDepth 20000 in
theorem gL_own_X6_own : GoodIn wsL_own (wsV RL 42 RX6 yX6_own wsX6_own) := goodIn_app (goodIn_of _ (by decide +kernel)) ggL_own_X6_own
theorem dL_own_0 : decode cL_own 0 = .ok (.aload_n 3, 1) := by decide +kernel
theorem dL_own_1 : decode cL_own 1 = .ok (.iconst 0, 1) := by decide +kernel
theorem dL_own_2 : decode cL_own 2 = .ok (.aload_n 0, 1) := by decide +kernel
theorem dL_own_3 : decode cL_own 3 = .ok (.iload_n 1, 1) := by decide +kernel
theorem dL_own_4 : decode cL_own 4 = .ok (.iload_n 2, 1) := by decide +kernel
theorem dL_own_5 : decode cL_own 5 = .ok (.invokevirtual 42, 3) := by decide +kernel
theorem dL_own_8 : decode cL_own 8 = .ok (.i2l, 1) := by decide +kernel
theorem dL_own_9 : decode cL_own 9 = .ok (.lastore, 1) := by decide +kernel
theorem dL_own_10 : decode cL_own 10 = .ok (.goto 15, 3) := by decide +kernel
theorem dL_own_13 : decode cL_own 13 = .ok (.astore 4, 2) := by decide +kernel
theorem dL_own_15 : decode cL_own 15 = .ok (.iconst 1, 1) := by decide +kernel
theorem dL_own_16 : decode cL_own 16 = .ok (.ireturn, 1) := by decide +kernel
theorem dL_own_17 : decode cL_own 17 = .ok (.astore 4, 2) := by decide +kernel
theorem dL_own_19 : decode cL_own 19 = .ok (.iconst 2, 1) := by decide +kernel
theorem dL_own_20 : decode cL_own 20 = .ok (.ireturn, 1) := by decide +kernel
theorem dL_own_21 : decode cL_own 21 = .ok (.astore 4, 2) := by decide +kernel
theorem dL_own_23 : decode cL_own 23 = .ok (.iconst 3, 1) := by decide +kernel
theorem dL_own_24 : decode cL_own 24 = .ok (.ireturn, 1) := by decide +kernel
theorem dL_own_25 : decode cL_own 25 = .ok (.iconst 0, 1) := by decide +kernel
theorem dL_own_26 : decode cL_own 26 = .ok (.ireturn, 1) := by decide +kernel
def f_L_own (U : S2) (g : Nat → Int64) (p1 : Int32) (p2 : Int32) : Option (Int32 × S2 × (Nat → Int64)) := bn (f_X6_own U p1 p2) (fun z_1 => if z_1.1 = 0 then some (0, z_1.2.2, setL g z_1.2.1.toInt64) else if z_1.1 = 1 then some (1, z_1.2.2, g) else if z_1.1 = 2 then some (2, z_1.2.2, g) else if z_1.1 = 3 then some (3, z_1.2.2, g) else none)
def wsML_own : List Cond := wsL_own ++ LK
def rmL_own : Room := { frames := 7, cells := 1, slots := 6, locals := 117 }
set_option maxHeartbeats 4000000 in
set_option maxRecDepth 100000 in
theorem c_L_own (l : Launch) (hst : l.stackTraces = false) (D : va_G) (cI cZ cJ cT : ClassId) (a : Nat → Nat → Nat) (b : Nat) (sz : Nat) (U : S2) (g : Nat → Int64) (p1 : Int32) (p2 : Int32) (o : Int32 × S2 × (Nat → Int64)) (hf : f_L_own U g p1 p2 = some o) : vx_Met l yL_own wsML_own rmL_own (va_Pc [.ref (a 0 0), .int p1, .int p2, .ref b] (PL D cls (tys cI cZ cJ cT) (wL cI cZ cJ cT a b U g) sz)) (QWi D cls o.1 (wL cI cZ cJ cT a b o.2.1 o.2.2) (va_A (wL cI cZ cJ cT a b U g) sz)) (vx_X (fun (_ : Unit) => False) (fun _ _ _ => True) (va_A (wL cI cZ cJ cT a b U g) sz)) 1 6 (va_A (wL cI cZ cJ cT a b U g) sz) := by
  refine vx_ofWH (cc := cL_own) (maxL := 5) (ret := (some .int)) (by decide) rfl ?_
  intro p e s m args below meth c s₁ B hml hv
  obtain ⟨hav, ⟨⟨hsz, hP, hK, hD0⟩, hE⟩, hN⟩ := hv
  have hx := B.exec
  have hb := B.bytes
  have hr := B.returns
  have hlocks := B.notSynchronized
  have hts := atoms_spec (ws := wsML_own) B.pre
  have hown : s.vm.findClass RL = some m.cls := findClass_of_methodNamed B.named
  have htb : c.exceptionTable.toList = [⟨0, 10, 13, 19⟩, ⟨0, 10, 17, 13⟩, ⟨0, 10, 21, 21⟩] := vx_table (x := yL_own) B (hts _ (List.mem_append_left _ List.mem_cons_self))
  subst hsz
  have hD := hD0.self (sz := s.heap.size)
  generalize hAe : va_A (wL cI cZ cJ cT a b U g) s.heap.size = A at hD hE ⊢
  have hA : ∀ q : Nat, s.heap.size ≤ q → A q := fun q h => by rw [← hAe]; exact Or.inr h
  have hS : va_S A s.heap s.heap [] := va_S.rf
  have hDD : ∀ (V : S2) (k : Nat → Int64), va_D A (wL cI cZ cJ cT a b V k) := fun _ _ => D_same (w := (wL cI cZ cJ cT a b U g)) rfl hD
  refine Wq (fun Q hQ => ?_)
  refine W_entry hav (Nat.le_of_ble_eq_true rfl) (fun ls hl => ?_)
  have hl : lv_has ls 5 [(0, .ref (a 0 0)), (1, .int p1), (2, .int p2), (3, .ref b)] := hl
  unfold f_L_own at hf
  refine W_heap hP hS (fun H locs hP hS => ?_)
  refine lv_aload_n hx hb dL_own_0 rfl (lv_at hl 3 rfl) ?_
  refine lv_iconst (v := 0) hx hb dL_own_1 (by decide) ?_
  refine lv_aload_n hx hb dL_own_2 rfl (lv_at hl 0 rfl) ?_
  refine lv_iload_n hx hb dL_own_3 rfl (lv_at hl 1 rfl) ?_
  refine lv_iload_n hx hb dL_own_4 rfl (lv_at hl 2 rfl) ?_
  obtain ⟨z_1, hz_1, hf⟩ := bn_some hf
  refine cYVi (As := [.int p1, .int p2]) (rest := [.int 0, .ref b]) ⟨hx, hb, hml, hown, hts⟩ (c_X6_own l hst D cI cZ cJ cT a H.size U p1 p2 z_1 hz_1) (cwV 2 hts (gM_sub gL_own_X6_own) rfl rfl rfl (by decide +kernel) ⟨Nat.le_of_ble_eq_true rfl, Nat.le_of_ble_eq_true rfl⟩) (fl_sub hP 0 rfl) hK (fl_subD (hDD U g) 0 rfl) hE hS (fl_free (hDD U g) hS hA 0 rfl) (va_recv hK (fl_sub (fl_sub hP 0 rfl) 0 rfl) (ci := 6) (q0 := 0) rfl rfl) rfl rfl hl.1 (Nat.le_of_ble_eq_true rfl) dL_own_5 ⟨Nat.le_of_ble_eq_true rfl, Nat.le_of_ble_eq_true rfl⟩ (fun E ce q9 H1 locs k_2 hE9 hP1 hk1 hS hce hcv hcl => ?_) (fun H1 locs k_2 hP1 hk1 hS => ?_)
  · have hf := ite_f hf k_2
    have hP : va_P D cls (wL cI cZ cJ cT a b z_1.2.2 g) H1 := fl_join hP (hDD U g) 0 rfl hk1 hP1
    clear hP1 hk1
    generalize H1 = H at hP hS hce ⊢
    by_cases e_3 : z_1.1 = 1
    · have hf := ite_t hf e_3
      have hE8 : E = "java/lang/IllegalArgumentException" := by rw [hE9, e_3]; rfl
      subst hE8
      refine vx_catch hown [] ⟨0, 10, 13, 19⟩ [⟨0, 10, 17, 13⟩, ⟨0, 10, 21, 21⟩] htb (fun z hz => absurd hz List.not_mem_nil) (by decide) (by decide) (hts (.classLink RL 19 "java/lang/IllegalArgumentException") (List.mem_append_right _ (by decide +kernel))) (EX_bad hE (by decide +kernel)) hce hcv hcl ?_
      refine lv_astore (lv' := [(4, .ref q9), (0, .ref (a 0 0)), (1, .int p1), (2, .int p2), (3, .ref b)]) hx hb dL_own_13 hl (by decide) rfl (fun ls hl => ?_)
      refine lv_iconst (v := 1) hx hb dL_own_15 (by decide) ?_
      have eo := Option.some.inj hf
      have hP : va_P D cls (wL cI cZ cJ cT a b o.2.1 o.2.2) H := by rw [← eo]; exact hP
      rw [hQ]
      refine W.widen (k := 1) (n := 6) (Nat.le_of_ble_eq_true rfl) (Nat.le_of_ble_eq_true rfl) ?_
      exact vx_ret (W.iret hx hb hr (fun t ht hW => ⟨⟨_, (), rfl, (by rw [← eo]), P_at ht hP⟩, hS.F ht⟩) hS.2.2 dL_own_16 hlocks)
    have hf := ite_f hf e_3
    by_cases e_4 : z_1.1 = 2
    · have hf := ite_t hf e_4
      have hE8 : E = "java/lang/IndexOutOfBoundsException" := by rw [hE9, e_4]; rfl
      subst hE8
      refine vx_catch hown [⟨0, 10, 13, 19⟩] ⟨0, 10, 17, 13⟩ [⟨0, 10, 21, 21⟩] htb (List.forall_mem_cons.mpr ⟨Or.inr ⟨by decide, "java/lang/IllegalArgumentException", hts (.classLink RL 19 "java/lang/IllegalArgumentException") (List.mem_append_right _ (by decide +kernel)), hN 2 1 (by decide) (by decide) (by decide)⟩, fun z hz => absurd hz List.not_mem_nil⟩) (by decide) (by decide) (hts (.classLink RL 13 "java/lang/IndexOutOfBoundsException") (List.mem_append_right _ (by decide +kernel))) (EX_bad hE (by decide +kernel)) hce hcv hcl ?_
      refine lv_astore (lv' := [(4, .ref q9), (0, .ref (a 0 0)), (1, .int p1), (2, .int p2), (3, .ref b)]) hx hb dL_own_17 hl (by decide) rfl (fun ls hl => ?_)
      refine lv_iconst (v := 2) hx hb dL_own_19 (by decide) ?_
      have eo := Option.some.inj hf
      have hP : va_P D cls (wL cI cZ cJ cT a b o.2.1 o.2.2) H := by rw [← eo]; exact hP
      rw [hQ]
      refine W.widen (k := 1) (n := 6) (Nat.le_of_ble_eq_true rfl) (Nat.le_of_ble_eq_true rfl) ?_
      exact vx_ret (W.iret hx hb hr (fun t ht hW => ⟨⟨_, (), rfl, (by rw [← eo]), P_at ht hP⟩, hS.F ht⟩) hS.2.2 dL_own_20 hlocks)
    have hf := ite_f hf e_4
    by_cases e_5 : z_1.1 = 3
    · have hf := ite_t hf e_5
      have hE8 : E = "java/lang/IllegalStateException" := by rw [hE9, e_5]; rfl
      subst hE8
      refine vx_catch hown [⟨0, 10, 13, 19⟩, ⟨0, 10, 17, 13⟩] ⟨0, 10, 21, 21⟩ [] htb (List.forall_mem_cons.mpr ⟨Or.inr ⟨by decide, "java/lang/IllegalArgumentException", hts (.classLink RL 19 "java/lang/IllegalArgumentException") (List.mem_append_right _ (by decide +kernel)), hN 3 1 (by decide) (by decide) (by decide)⟩, List.forall_mem_cons.mpr ⟨Or.inr ⟨by decide, "java/lang/IndexOutOfBoundsException", hts (.classLink RL 13 "java/lang/IndexOutOfBoundsException") (List.mem_append_right _ (by decide +kernel)), hN 3 2 (by decide) (by decide) (by decide)⟩, fun z hz => absurd hz List.not_mem_nil⟩⟩) (by decide) (by decide) (hts (.classLink RL 21 "java/lang/IllegalStateException") (List.mem_append_right _ (by decide +kernel))) (EX_bad hE (by decide +kernel)) hce hcv hcl ?_
      refine lv_astore (lv' := [(4, .ref q9), (0, .ref (a 0 0)), (1, .int p1), (2, .int p2), (3, .ref b)]) hx hb dL_own_21 hl (by decide) rfl (fun ls hl => ?_)
      refine lv_iconst (v := 3) hx hb dL_own_23 (by decide) ?_
      have eo := Option.some.inj hf
      have hP : va_P D cls (wL cI cZ cJ cT a b o.2.1 o.2.2) H := by rw [← eo]; exact hP
      rw [hQ]
      refine W.widen (k := 1) (n := 6) (Nat.le_of_ble_eq_true rfl) (Nat.le_of_ble_eq_true rfl) ?_
      exact vx_ret (W.iret hx hb hr (fun t ht hW => ⟨⟨_, (), rfl, (by rw [← eo]), P_at ht hP⟩, hS.F ht⟩) hS.2.2 dL_own_24 hlocks)
    have hf := ite_f hf e_5
    exact nomatch hf
  have hf := ite_t hf k_2
  have hP : va_P D cls (wL cI cZ cJ cT a b z_1.2.2 g) H1 := fl_join hP (hDD U g) 0 rfl hk1 hP1
  clear hP1 hk1
  generalize H1 = H at hP hS ⊢
  refine lv_i2l (v := z_1.2.1.toInt64) hx hb dL_own_8 rfl ?_
  refine va_last hx hb hK hP (hDD z_1.2.2 g) hS 86 2 rfl rfl (inb_in (i := 0) (n := 1) (by decide)) dL_own_9 (fun H locs hP _ hS => ?_)
  have hP : va_P D cls (wL cI cZ cJ cT a b z_1.2.2 (setL g z_1.2.1.toInt64)) H := hP
  refine lv_goto (tgt := 25) hx hb dL_own_10 (by decide) ?_
  refine lv_iconst (v := 0) hx hb dL_own_25 (by decide) ?_
  have eo := Option.some.inj hf
  have hP : va_P D cls (wL cI cZ cJ cT a b o.2.1 o.2.2) H := by rw [← eo]; exact hP
  rw [hQ]
  refine W.widen (k := 1) (n := 6) (Nat.le_of_ble_eq_true rfl) (Nat.le_of_ble_eq_true rfl) ?_
  exact vx_ret (W.iret hx hb hr (fun t ht hW => ⟨⟨_, (), rfl, (by rw [← eo]), P_at ht hP⟩, hS.F ht⟩) hS.2.2 dL_own_26 hlocks)
set_option maxRecDepth 20000 in
theorem ggL_look_X6_look : GoodIn wsL_look wsX6_look := goodIn_ca (goodIn_ca (goodIn_r _ [6, 7, 8, 9, 10, 11, 12, 13, 14, 5, 15, 16, 17, 18, 19, 20, 21, 22, 23, 24, 25, 26, 27, 28, 29, 30, 31, 32, 33, 34, 35, 36, 37, 38, 39, 40, 41, 42, 43, 44, 45, 46, 47, 48, 49, 50, 51, 52, 53, 54, 55, 56, 57, 58, 59, 60, 61, 62, 63, 64, 65, 66, 67, 68, 69, 70, 71, 72, 73, 74, 75, 76, 77, 78, 79, 80, 81, 82, 83, 84, 85, 86, 87, 88, 89, 90, 91, 92, 93] (by decide +kernel) (by decide +kernel)) (goodIn_sub (fun _ h => List.mem_cons_of_mem _ (List.mem_append_left _ (List.mem_append_right _ h))) (by decide +kernel))) (goodIn_sub (fun _ h => List.mem_cons_of_mem _ (List.mem_append_right _ h)) (by decide +kernel))
set_option maxRecDepth 20000 in
theorem gL_look_X6_look : GoodIn wsL_look (wsV RL 45 RX6 yX6_look wsX6_look) := goodIn_app (goodIn_of _ (by decide +kernel)) ggL_look_X6_look
theorem dL_look_0 : decode cL_look 0 = .ok (.aload_n 3, 1) := by decide +kernel
theorem dL_look_1 : decode cL_look 1 = .ok (.iconst 0, 1) := by decide +kernel
theorem dL_look_2 : decode cL_look 2 = .ok (.aload_n 0, 1) := by decide +kernel
theorem dL_look_3 : decode cL_look 3 = .ok (.iload_n 1, 1) := by decide +kernel
theorem dL_look_4 : decode cL_look 4 = .ok (.iload_n 2, 1) := by decide +kernel
theorem dL_look_5 : decode cL_look 5 = .ok (.invokevirtual 45, 3) := by decide +kernel
theorem dL_look_8 : decode cL_look 8 = .ok (.i2l, 1) := by decide +kernel
theorem dL_look_9 : decode cL_look 9 = .ok (.lastore, 1) := by decide +kernel
theorem dL_look_10 : decode cL_look 10 = .ok (.goto 11, 3) := by decide +kernel
theorem dL_look_13 : decode cL_look 13 = .ok (.astore 4, 2) := by decide +kernel
theorem dL_look_15 : decode cL_look 15 = .ok (.iconst 1, 1) := by decide +kernel
theorem dL_look_16 : decode cL_look 16 = .ok (.ireturn, 1) := by decide +kernel
theorem dL_look_17 : decode cL_look 17 = .ok (.astore 4, 2) := by decide +kernel
theorem dL_look_19 : decode cL_look 19 = .ok (.iconst 2, 1) := by decide +kernel
theorem dL_look_20 : decode cL_look 20 = .ok (.ireturn, 1) := by decide +kernel
theorem dL_look_21 : decode cL_look 21 = .ok (.iconst 0, 1) := by decide +kernel
theorem dL_look_22 : decode cL_look 22 = .ok (.ireturn, 1) := by decide +kernel
def f_L_look (U : S2) (g : Nat → Int64) (p1 : Int32) (p2 : Int32) : Option (Int32 × S2 × (Nat → Int64)) := bn (f_X6_look U p1 p2) (fun z_1 => if z_1.1 = 0 then some (0, z_1.2.2, setL g z_1.2.1.toInt64) else if z_1.1 = 1 then some (1, z_1.2.2, g) else if z_1.1 = 2 then some (2, z_1.2.2, g) else none)
def wsML_look : List Cond := wsL_look ++ LK
def rmL_look : Room := { frames := 7, cells := 1, slots := 6, locals := 116 }
set_option maxHeartbeats 4000000 in
set_option maxRecDepth 100000 in
theorem c_L_look (l : Launch) (hst : l.stackTraces = false) (D : va_G) (cI cZ cJ cT : ClassId) (a : Nat → Nat → Nat) (b : Nat) (sz : Nat) (U : S2) (g : Nat → Int64) (p1 : Int32) (p2 : Int32) (o : Int32 × S2 × (Nat → Int64)) (hf : f_L_look U g p1 p2 = some o) : vx_Met l yL_look wsML_look rmL_look (va_Pc [.ref (a 0 0), .int p1, .int p2, .ref b] (PL D cls (tys cI cZ cJ cT) (wL cI cZ cJ cT a b U g) sz)) (QWi D cls o.1 (wL cI cZ cJ cT a b o.2.1 o.2.2) (va_A (wL cI cZ cJ cT a b U g) sz)) (vx_X (fun (_ : Unit) => False) (fun _ _ _ => True) (va_A (wL cI cZ cJ cT a b U g) sz)) 1 6 (va_A (wL cI cZ cJ cT a b U g) sz) := by
  refine vx_ofWH (cc := cL_look) (maxL := 5) (ret := (some .int)) (by decide) rfl ?_
  intro p e s m args below meth c s₁ B hml hv
  obtain ⟨hav, ⟨⟨hsz, hP, hK, hD0⟩, hE⟩, hN⟩ := hv
  have hx := B.exec
  have hb := B.bytes
  have hr := B.returns
  have hlocks := B.notSynchronized
  have hts := atoms_spec (ws := wsML_look) B.pre
  have hown : s.vm.findClass RL = some m.cls := findClass_of_methodNamed B.named
  have htb : c.exceptionTable.toList = [⟨0, 10, 13, 19⟩, ⟨0, 10, 17, 13⟩] := vx_table (x := yL_look) B (hts _ (List.mem_append_left _ List.mem_cons_self))
  subst hsz
  have hD := hD0.self (sz := s.heap.size)
  generalize hAe : va_A (wL cI cZ cJ cT a b U g) s.heap.size = A at hD hE ⊢
  have hA : ∀ q : Nat, s.heap.size ≤ q → A q := fun q h => by rw [← hAe]; exact Or.inr h
  have hS : va_S A s.heap s.heap [] := va_S.rf
  have hDD : ∀ (V : S2) (k : Nat → Int64), va_D A (wL cI cZ cJ cT a b V k) := fun _ _ => D_same (w := (wL cI cZ cJ cT a b U g)) rfl hD
  refine Wq (fun Q hQ => ?_)
  refine W_entry hav (Nat.le_of_ble_eq_true rfl) (fun ls hl => ?_)
  have hl : lv_has ls 5 [(0, .ref (a 0 0)), (1, .int p1), (2, .int p2), (3, .ref b)] := hl
  unfold f_L_look at hf
  refine W_heap hP hS (fun H locs hP hS => ?_)
  refine lv_aload_n hx hb dL_look_0 rfl (lv_at hl 3 rfl) ?_
  refine lv_iconst (v := 0) hx hb dL_look_1 (by decide) ?_
  refine lv_aload_n hx hb dL_look_2 rfl (lv_at hl 0 rfl) ?_
  refine lv_iload_n hx hb dL_look_3 rfl (lv_at hl 1 rfl) ?_
  refine lv_iload_n hx hb dL_look_4 rfl (lv_at hl 2 rfl) ?_
  obtain ⟨z_1, hz_1, hf⟩ := bn_some hf
  refine cYVi (As := [.int p1, .int p2]) (rest := [.int 0, .ref b]) ⟨hx, hb, hml, hown, hts⟩ (c_X6_look l hst D cI cZ cJ cT a H.size U p1 p2 z_1 hz_1) (cwV 2 hts (gM_sub gL_look_X6_look) rfl rfl rfl (by decide +kernel) ⟨Nat.le_of_ble_eq_true rfl, Nat.le_of_ble_eq_true rfl⟩) (fl_sub hP 0 rfl) hK (fl_subD (hDD U g) 0 rfl) hE hS (fl_free (hDD U g) hS hA 0 rfl) (va_recv hK (fl_sub (fl_sub hP 0 rfl) 0 rfl) (ci := 6) (q0 := 0) rfl rfl) rfl rfl hl.1 (Nat.le_of_ble_eq_true rfl) dL_look_5 ⟨Nat.le_of_ble_eq_true rfl, Nat.le_of_ble_eq_true rfl⟩ (fun E ce q9 H1 locs k_2 hE9 hP1 hk1 hS hce hcv hcl => ?_) (fun H1 locs k_2 hP1 hk1 hS => ?_)
  · have hf := ite_f hf k_2
    have hP : va_P D cls (wL cI cZ cJ cT a b z_1.2.2 g) H1 := fl_join hP (hDD U g) 0 rfl hk1 hP1
    clear hP1 hk1
    generalize H1 = H at hP hS hce ⊢
    by_cases e_3 : z_1.1 = 1
    · have hf := ite_t hf e_3
      have hE8 : E = "java/lang/IllegalArgumentException" := by rw [hE9, e_3]; rfl
      subst hE8
      refine vx_catch hown [] ⟨0, 10, 13, 19⟩ [⟨0, 10, 17, 13⟩] htb (fun z hz => absurd hz List.not_mem_nil) (by decide) (by decide) (hts (.classLink RL 19 "java/lang/IllegalArgumentException") (List.mem_append_right _ (by decide +kernel))) (EX_bad hE (by decide +kernel)) hce hcv hcl ?_
      refine lv_astore (lv' := [(4, .ref q9), (0, .ref (a 0 0)), (1, .int p1), (2, .int p2), (3, .ref b)]) hx hb dL_look_13 hl (by decide) rfl (fun ls hl => ?_)
      refine lv_iconst (v := 1) hx hb dL_look_15 (by decide) ?_
      have eo := Option.some.inj hf
      have hP : va_P D cls (wL cI cZ cJ cT a b o.2.1 o.2.2) H := by rw [← eo]; exact hP
      rw [hQ]
      refine W.widen (k := 1) (n := 6) (Nat.le_of_ble_eq_true rfl) (Nat.le_of_ble_eq_true rfl) ?_
      exact vx_ret (W.iret hx hb hr (fun t ht hW => ⟨⟨_, (), rfl, (by rw [← eo]), P_at ht hP⟩, hS.F ht⟩) hS.2.2 dL_look_16 hlocks)
    have hf := ite_f hf e_3
    by_cases e_4 : z_1.1 = 2
    · have hf := ite_t hf e_4
      have hE8 : E = "java/lang/IndexOutOfBoundsException" := by rw [hE9, e_4]; rfl
      subst hE8
      refine vx_catch hown [⟨0, 10, 13, 19⟩] ⟨0, 10, 17, 13⟩ [] htb (List.forall_mem_cons.mpr ⟨Or.inr ⟨by decide, "java/lang/IllegalArgumentException", hts (.classLink RL 19 "java/lang/IllegalArgumentException") (List.mem_append_right _ (by decide +kernel)), hN 2 1 (by decide) (by decide) (by decide)⟩, fun z hz => absurd hz List.not_mem_nil⟩) (by decide) (by decide) (hts (.classLink RL 13 "java/lang/IndexOutOfBoundsException") (List.mem_append_right _ (by decide +kernel))) (EX_bad hE (by decide +kernel)) hce hcv hcl ?_
      refine lv_astore (lv' := [(4, .ref q9), (0, .ref (a 0 0)), (1, .int p1), (2, .int p2), (3, .ref b)]) hx hb dL_look_17 hl (by decide) rfl (fun ls hl => ?_)
      refine lv_iconst (v := 2) hx hb dL_look_19 (by decide) ?_
      have eo := Option.some.inj hf
      have hP : va_P D cls (wL cI cZ cJ cT a b o.2.1 o.2.2) H := by rw [← eo]; exact hP
      rw [hQ]
      refine W.widen (k := 1) (n := 6) (Nat.le_of_ble_eq_true rfl) (Nat.le_of_ble_eq_true rfl) ?_
      exact vx_ret (W.iret hx hb hr (fun t ht hW => ⟨⟨_, (), rfl, (by rw [← eo]), P_at ht hP⟩, hS.F ht⟩) hS.2.2 dL_look_20 hlocks)
    have hf := ite_f hf e_4
    exact nomatch hf
  have hf := ite_t hf k_2
  have hP : va_P D cls (wL cI cZ cJ cT a b z_1.2.2 g) H1 := fl_join hP (hDD U g) 0 rfl hk1 hP1
  clear hP1 hk1
  generalize H1 = H at hP hS ⊢
  refine lv_i2l (v := z_1.2.1.toInt64) hx hb dL_look_8 rfl ?_
  refine va_last hx hb hK hP (hDD z_1.2.2 g) hS 86 2 rfl rfl (inb_in (i := 0) (n := 1) (by decide)) dL_look_9 (fun H locs hP _ hS => ?_)
  have hP : va_P D cls (wL cI cZ cJ cT a b z_1.2.2 (setL g z_1.2.1.toInt64)) H := hP
  refine lv_goto (tgt := 21) hx hb dL_look_10 (by decide) ?_
  refine lv_iconst (v := 0) hx hb dL_look_21 (by decide) ?_
  have eo := Option.some.inj hf
  have hP : va_P D cls (wL cI cZ cJ cT a b o.2.1 o.2.2) H := by rw [← eo]; exact hP
  rw [hQ]
  refine W.widen (k := 1) (n := 6) (Nat.le_of_ble_eq_true rfl) (Nat.le_of_ble_eq_true rfl) ?_
  exact vx_ret (W.iret hx hb hr (fun t ht hW => ⟨⟨_, (), rfl, (by rw [← eo]), P_at ht hP⟩, hS.F ht⟩) hS.2.2 dL_look_22 hlocks)
set_option maxRecDepth 20000 in
theorem ggL_open_X6_open : GoodIn wsL_open wsX6_open := goodIn_ca (goodIn_ca (goodIn_ca (goodIn_r _ [6, 7, 8, 9, 10, 11, 12, 13, 14, 15, 16, 17, 5, 18, 19, 20, 21, 22, 23, 24, 25, 26, 27, 28, 29, 30, 31, 32, 33, 34, 35, 36, 37, 38, 39, 40, 41, 42, 43, 44, 45, 46, 47, 48, 49, 50, 51, 52, 53, 54, 55, 56, 57, 58, 59, 60, 61, 62, 63, 64, 65, 66, 67, 68, 69, 70, 71, 72, 73, 74, 75, 76, 77, 78, 79, 80, 81, 82, 83, 84, 85, 86, 87, 88, 89, 90, 91, 92, 93, 94, 95, 96, 97, 98, 99, 100, 101, 102, 103, 104, 105, 106, 107, 108, 109, 110, 111, 112, 113, 114, 115, 116, 117, 118, 119, 120, 121, 122, 123, 124, 125, 126, 127, 128, 129, 130, 131, 132, 133, 134, 135, 136, 137, 138] (by decide +kernel) (by decide +kernel)) (goodIn_sub (fun _ h => List.mem_cons_of_mem _ (List.mem_append_left _ (List.mem_append_left _ (List.mem_append_right _ h)))) (by decide +kernel))) (goodIn_sub (fun _ h => List.mem_cons_of_mem _ (List.mem_append_left _ (List.mem_append_right _ h))) (by decide +kernel))) (goodIn_sub (fun _ h => List.mem_cons_of_mem _ (List.mem_append_right _ h)) (by decide +kernel))
set_option maxRecDepth 20000 in
theorem gL_open_X6_open : GoodIn wsL_open (wsV RL 49 RX6 yX6_open wsX6_open) := goodIn_app (goodIn_of _ (by decide +kernel)) ggL_open_X6_open
theorem dL_open_0 : decode cL_open 0 = .ok (.aload_n 3, 1) := by decide +kernel
theorem dL_open_1 : decode cL_open 1 = .ok (.iconst 0, 1) := by decide +kernel
theorem dL_open_2 : decode cL_open 2 = .ok (.aload_n 0, 1) := by decide +kernel
theorem dL_open_3 : decode cL_open 3 = .ok (.iload_n 1, 1) := by decide +kernel
theorem dL_open_4 : decode cL_open 4 = .ok (.iload_n 2, 1) := by decide +kernel
theorem dL_open_5 : decode cL_open 5 = .ok (.invokevirtual 49, 3) := by decide +kernel
theorem dL_open_8 : decode cL_open 8 = .ok (.i2l, 1) := by decide +kernel
theorem dL_open_9 : decode cL_open 9 = .ok (.lastore, 1) := by decide +kernel
theorem dL_open_10 : decode cL_open 10 = .ok (.goto 15, 3) := by decide +kernel
theorem dL_open_13 : decode cL_open 13 = .ok (.astore 4, 2) := by decide +kernel
theorem dL_open_15 : decode cL_open 15 = .ok (.iconst 1, 1) := by decide +kernel
theorem dL_open_16 : decode cL_open 16 = .ok (.ireturn, 1) := by decide +kernel
theorem dL_open_17 : decode cL_open 17 = .ok (.astore 4, 2) := by decide +kernel
theorem dL_open_19 : decode cL_open 19 = .ok (.iconst 2, 1) := by decide +kernel
theorem dL_open_20 : decode cL_open 20 = .ok (.ireturn, 1) := by decide +kernel
theorem dL_open_21 : decode cL_open 21 = .ok (.astore 4, 2) := by decide +kernel
theorem dL_open_23 : decode cL_open 23 = .ok (.iconst 3, 1) := by decide +kernel
theorem dL_open_24 : decode cL_open 24 = .ok (.ireturn, 1) := by decide +kernel
theorem dL_open_25 : decode cL_open 25 = .ok (.iconst 0, 1) := by decide +kernel
theorem dL_open_26 : decode cL_open 26 = .ok (.ireturn, 1) := by decide +kernel
def f_L_open (U : S2) (g : Nat → Int64) (p1 : Int32) (p2 : Int32) : Option (Int32 × S2 × (Nat → Int64)) := bn (f_X6_open U p1 p2) (fun z_1 => if z_1.1 = 0 then some (0, z_1.2.2, setL g z_1.2.1.toInt64) else if z_1.1 = 1 then some (1, z_1.2.2, g) else if z_1.1 = 2 then some (2, z_1.2.2, g) else if z_1.1 = 3 then some (3, z_1.2.2, g) else none)
def wsML_open : List Cond := wsL_open ++ LK
def rmL_open : Room := { frames := 7, cells := 1, slots := 6, locals := 116 }
set_option maxHeartbeats 4000000 in
set_option maxRecDepth 100000 in
theorem c_L_open (l : Launch) (hst : l.stackTraces = false) (D : va_G) (cI cZ cJ cT : ClassId) (a : Nat → Nat → Nat) (b : Nat) (sz : Nat) (U : S2) (g : Nat → Int64) (p1 : Int32) (p2 : Int32) (o : Int32 × S2 × (Nat → Int64)) (hf : f_L_open U g p1 p2 = some o) : vx_Met l yL_open wsML_open rmL_open (va_Pc [.ref (a 0 0), .int p1, .int p2, .ref b] (PL D cls (tys cI cZ cJ cT) (wL cI cZ cJ cT a b U g) sz)) (QWi D cls o.1 (wL cI cZ cJ cT a b o.2.1 o.2.2) (va_A (wL cI cZ cJ cT a b U g) sz)) (vx_X (fun (_ : Unit) => False) (fun _ _ _ => True) (va_A (wL cI cZ cJ cT a b U g) sz)) 1 6 (va_A (wL cI cZ cJ cT a b U g) sz) := by
  refine vx_ofWH (cc := cL_open) (maxL := 5) (ret := (some .int)) (by decide) rfl ?_
  intro p e s m args below meth c s₁ B hml hv
  obtain ⟨hav, ⟨⟨hsz, hP, hK, hD0⟩, hE⟩, hN⟩ := hv
  have hx := B.exec
  have hb := B.bytes
  have hr := B.returns
  have hlocks := B.notSynchronized
  have hts := atoms_spec (ws := wsML_open) B.pre
  have hown : s.vm.findClass RL = some m.cls := findClass_of_methodNamed B.named
  have htb : c.exceptionTable.toList = [⟨0, 10, 13, 19⟩, ⟨0, 10, 17, 13⟩, ⟨0, 10, 21, 21⟩] := vx_table (x := yL_open) B (hts _ (List.mem_append_left _ List.mem_cons_self))
  subst hsz
  have hD := hD0.self (sz := s.heap.size)
  generalize hAe : va_A (wL cI cZ cJ cT a b U g) s.heap.size = A at hD hE ⊢
  have hA : ∀ q : Nat, s.heap.size ≤ q → A q := fun q h => by rw [← hAe]; exact Or.inr h
  have hS : va_S A s.heap s.heap [] := va_S.rf
  have hDD : ∀ (V : S2) (k : Nat → Int64), va_D A (wL cI cZ cJ cT a b V k) := fun _ _ => D_same (w := (wL cI cZ cJ cT a b U g)) rfl hD
  refine Wq (fun Q hQ => ?_)
  refine W_entry hav (Nat.le_of_ble_eq_true rfl) (fun ls hl => ?_)
  have hl : lv_has ls 5 [(0, .ref (a 0 0)), (1, .int p1), (2, .int p2), (3, .ref b)] := hl
  unfold f_L_open at hf
  refine W_heap hP hS (fun H locs hP hS => ?_)
  refine lv_aload_n hx hb dL_open_0 rfl (lv_at hl 3 rfl) ?_
  refine lv_iconst (v := 0) hx hb dL_open_1 (by decide) ?_
  refine lv_aload_n hx hb dL_open_2 rfl (lv_at hl 0 rfl) ?_
  refine lv_iload_n hx hb dL_open_3 rfl (lv_at hl 1 rfl) ?_
  refine lv_iload_n hx hb dL_open_4 rfl (lv_at hl 2 rfl) ?_
  obtain ⟨z_1, hz_1, hf⟩ := bn_some hf
  refine cYVi (As := [.int p1, .int p2]) (rest := [.int 0, .ref b]) ⟨hx, hb, hml, hown, hts⟩ (c_X6_open l hst D cI cZ cJ cT a H.size U p1 p2 z_1 hz_1) (cwV 2 hts (gM_sub gL_open_X6_open) rfl rfl rfl (by decide +kernel) ⟨Nat.le_of_ble_eq_true rfl, Nat.le_of_ble_eq_true rfl⟩) (fl_sub hP 0 rfl) hK (fl_subD (hDD U g) 0 rfl) hE hS (fl_free (hDD U g) hS hA 0 rfl) (va_recv hK (fl_sub (fl_sub hP 0 rfl) 0 rfl) (ci := 6) (q0 := 0) rfl rfl) rfl rfl hl.1 (Nat.le_of_ble_eq_true rfl) dL_open_5 ⟨Nat.le_of_ble_eq_true rfl, Nat.le_of_ble_eq_true rfl⟩ (fun E ce q9 H1 locs k_2 hE9 hP1 hk1 hS hce hcv hcl => ?_) (fun H1 locs k_2 hP1 hk1 hS => ?_)
  · have hf := ite_f hf k_2
    have hP : va_P D cls (wL cI cZ cJ cT a b z_1.2.2 g) H1 := fl_join hP (hDD U g) 0 rfl hk1 hP1
    clear hP1 hk1
    generalize H1 = H at hP hS hce ⊢
    by_cases e_3 : z_1.1 = 1
    · have hf := ite_t hf e_3
      have hE8 : E = "java/lang/IllegalArgumentException" := by rw [hE9, e_3]; rfl
      subst hE8
      refine vx_catch hown [] ⟨0, 10, 13, 19⟩ [⟨0, 10, 17, 13⟩, ⟨0, 10, 21, 21⟩] htb (fun z hz => absurd hz List.not_mem_nil) (by decide) (by decide) (hts (.classLink RL 19 "java/lang/IllegalArgumentException") (List.mem_append_right _ (by decide +kernel))) (EX_bad hE (by decide +kernel)) hce hcv hcl ?_
      refine lv_astore (lv' := [(4, .ref q9), (0, .ref (a 0 0)), (1, .int p1), (2, .int p2), (3, .ref b)]) hx hb dL_open_13 hl (by decide) rfl (fun ls hl => ?_)
      refine lv_iconst (v := 1) hx hb dL_open_15 (by decide) ?_
      have eo := Option.some.inj hf
      have hP : va_P D cls (wL cI cZ cJ cT a b o.2.1 o.2.2) H := by rw [← eo]; exact hP
      rw [hQ]
      refine W.widen (k := 1) (n := 6) (Nat.le_of_ble_eq_true rfl) (Nat.le_of_ble_eq_true rfl) ?_
      exact vx_ret (W.iret hx hb hr (fun t ht hW => ⟨⟨_, (), rfl, (by rw [← eo]), P_at ht hP⟩, hS.F ht⟩) hS.2.2 dL_open_16 hlocks)
    have hf := ite_f hf e_3
    by_cases e_4 : z_1.1 = 2
    · have hf := ite_t hf e_4
      have hE8 : E = "java/lang/IndexOutOfBoundsException" := by rw [hE9, e_4]; rfl
      subst hE8
      refine vx_catch hown [⟨0, 10, 13, 19⟩] ⟨0, 10, 17, 13⟩ [⟨0, 10, 21, 21⟩] htb (List.forall_mem_cons.mpr ⟨Or.inr ⟨by decide, "java/lang/IllegalArgumentException", hts (.classLink RL 19 "java/lang/IllegalArgumentException") (List.mem_append_right _ (by decide +kernel)), hN 2 1 (by decide) (by decide) (by decide)⟩, fun z hz => absurd hz List.not_mem_nil⟩) (by decide) (by decide) (hts (.classLink RL 13 "java/lang/IndexOutOfBoundsException") (List.mem_append_right _ (by decide +kernel))) (EX_bad hE (by decide +kernel)) hce hcv hcl ?_
      refine lv_astore (lv' := [(4, .ref q9), (0, .ref (a 0 0)), (1, .int p1), (2, .int p2), (3, .ref b)]) hx hb dL_open_17 hl (by decide) rfl (fun ls hl => ?_)
      refine lv_iconst (v := 2) hx hb dL_open_19 (by decide) ?_
      have eo := Option.some.inj hf
      have hP : va_P D cls (wL cI cZ cJ cT a b o.2.1 o.2.2) H := by rw [← eo]; exact hP
      rw [hQ]
      refine W.widen (k := 1) (n := 6) (Nat.le_of_ble_eq_true rfl) (Nat.le_of_ble_eq_true rfl) ?_
      exact vx_ret (W.iret hx hb hr (fun t ht hW => ⟨⟨_, (), rfl, (by rw [← eo]), P_at ht hP⟩, hS.F ht⟩) hS.2.2 dL_open_20 hlocks)
    have hf := ite_f hf e_4
    by_cases e_5 : z_1.1 = 3
    · have hf := ite_t hf e_5
      have hE8 : E = "java/lang/IllegalStateException" := by rw [hE9, e_5]; rfl
      subst hE8
      refine vx_catch hown [⟨0, 10, 13, 19⟩, ⟨0, 10, 17, 13⟩] ⟨0, 10, 21, 21⟩ [] htb (List.forall_mem_cons.mpr ⟨Or.inr ⟨by decide, "java/lang/IllegalArgumentException", hts (.classLink RL 19 "java/lang/IllegalArgumentException") (List.mem_append_right _ (by decide +kernel)), hN 3 1 (by decide) (by decide) (by decide)⟩, List.forall_mem_cons.mpr ⟨Or.inr ⟨by decide, "java/lang/IndexOutOfBoundsException", hts (.classLink RL 13 "java/lang/IndexOutOfBoundsException") (List.mem_append_right _ (by decide +kernel)), hN 3 2 (by decide) (by decide) (by decide)⟩, fun z hz => absurd hz List.not_mem_nil⟩⟩) (by decide) (by decide) (hts (.classLink RL 21 "java/lang/IllegalStateException") (List.mem_append_right _ (by decide +kernel))) (EX_bad hE (by decide +kernel)) hce hcv hcl ?_
      refine lv_astore (lv' := [(4, .ref q9), (0, .ref (a 0 0)), (1, .int p1), (2, .int p2), (3, .ref b)]) hx hb dL_open_21 hl (by decide) rfl (fun ls hl => ?_)
      refine lv_iconst (v := 3) hx hb dL_open_23 (by decide) ?_
      have eo := Option.some.inj hf
      have hP : va_P D cls (wL cI cZ cJ cT a b o.2.1 o.2.2) H := by rw [← eo]; exact hP
      rw [hQ]
      refine W.widen (k := 1) (n := 6) (Nat.le_of_ble_eq_true rfl) (Nat.le_of_ble_eq_true rfl) ?_
      exact vx_ret (W.iret hx hb hr (fun t ht hW => ⟨⟨_, (), rfl, (by rw [← eo]), P_at ht hP⟩, hS.F ht⟩) hS.2.2 dL_open_24 hlocks)
    have hf := ite_f hf e_5
    exact nomatch hf
  have hf := ite_t hf k_2
  have hP : va_P D cls (wL cI cZ cJ cT a b z_1.2.2 g) H1 := fl_join hP (hDD U g) 0 rfl hk1 hP1
  clear hP1 hk1
  generalize H1 = H at hP hS ⊢
  refine lv_i2l (v := z_1.2.1.toInt64) hx hb dL_open_8 rfl ?_
  refine va_last hx hb hK hP (hDD z_1.2.2 g) hS 86 2 rfl rfl (inb_in (i := 0) (n := 1) (by decide)) dL_open_9 (fun H locs hP _ hS => ?_)
  have hP : va_P D cls (wL cI cZ cJ cT a b z_1.2.2 (setL g z_1.2.1.toInt64)) H := hP
  refine lv_goto (tgt := 25) hx hb dL_open_10 (by decide) ?_
  refine lv_iconst (v := 0) hx hb dL_open_25 (by decide) ?_
  have eo := Option.some.inj hf
  have hP : va_P D cls (wL cI cZ cJ cT a b o.2.1 o.2.2) H := by rw [← eo]; exact hP
  rw [hQ]
  refine W.widen (k := 1) (n := 6) (Nat.le_of_ble_eq_true rfl) (Nat.le_of_ble_eq_true rfl) ?_
  exact vx_ret (W.iret hx hb hr (fun t ht hW => ⟨⟨_, (), rfl, (by rw [← eo]), P_at ht hP⟩, hS.F ht⟩) hS.2.2 dL_open_26 hlocks)
set_option maxRecDepth 20000 in
theorem ggL_close_X6_close : GoodIn wsL_close wsX6_close := goodIn_ca (goodIn_ca (goodIn_r _ [6, 7, 8, 9, 10, 11, 12, 5, 13, 14, 15, 16, 17, 18, 19, 20, 21, 22, 23, 24, 25, 26, 27, 28, 29, 30, 31, 32, 33, 34, 35, 36, 37, 38, 39, 40, 41, 42, 43, 44, 45, 46, 47, 48, 49, 50, 51, 52, 53, 54, 55, 56, 57, 58, 59, 60, 61, 62, 63, 64, 65, 66, 67, 68, 69, 70, 71, 72, 73, 74, 75, 76, 77, 78, 79, 80, 81, 82, 83, 84, 85, 86, 87, 88, 89, 90, 91, 92, 93, 94, 95, 96, 97, 98, 99, 100, 101, 102, 103, 104, 105, 106, 107, 108, 109, 110, 111, 112, 113, 114, 115, 116, 117, 118, 119, 120, 121, 122, 123, 124, 125, 126, 127, 128, 129, 130, 131, 132, 133, 134, 135, 136, 137, 138, 139, 140, 141, 142, 143, 144, 145, 146] (by decide +kernel) (by decide +kernel)) (goodIn_sub (fun _ h => List.mem_cons_of_mem _ (List.mem_append_left _ (List.mem_append_right _ h))) (by decide +kernel))) (goodIn_sub (fun _ h => List.mem_cons_of_mem _ (List.mem_append_right _ h)) (by decide +kernel))
set_option maxRecDepth 20000 in
theorem gL_close_X6_close : GoodIn wsL_close (wsV RL 52 RX6 yX6_close wsX6_close) := goodIn_app (goodIn_of _ (by decide +kernel)) ggL_close_X6_close
theorem dL_close_0 : decode cL_close 0 = .ok (.aload_n 2, 1) := by decide +kernel
theorem dL_close_1 : decode cL_close 1 = .ok (.iconst 0, 1) := by decide +kernel
theorem dL_close_2 : decode cL_close 2 = .ok (.aload_n 0, 1) := by decide +kernel
theorem dL_close_3 : decode cL_close 3 = .ok (.iload_n 1, 1) := by decide +kernel
theorem dL_close_4 : decode cL_close 4 = .ok (.invokevirtual 52, 3) := by decide +kernel
theorem dL_close_7 : decode cL_close 7 = .ok (.ifCond .eq 7, 3) := by decide +kernel
theorem dL_close_10 : decode cL_close 10 = .ok (.lconst 1, 1) := by decide +kernel
theorem dL_close_11 : decode cL_close 11 = .ok (.goto 4, 3) := by decide +kernel
theorem dL_close_14 : decode cL_close 14 = .ok (.lconst 0, 1) := by decide +kernel
theorem dL_close_15 : decode cL_close 15 = .ok (.lastore, 1) := by decide +kernel
theorem dL_close_16 : decode cL_close 16 = .ok (.goto 9, 3) := by decide +kernel
theorem dL_close_19 : decode cL_close 19 = .ok (.astore_n 3, 1) := by decide +kernel
theorem dL_close_20 : decode cL_close 20 = .ok (.iconst 1, 1) := by decide +kernel
theorem dL_close_21 : decode cL_close 21 = .ok (.ireturn, 1) := by decide +kernel
theorem dL_close_22 : decode cL_close 22 = .ok (.astore_n 3, 1) := by decide +kernel
theorem dL_close_23 : decode cL_close 23 = .ok (.iconst 2, 1) := by decide +kernel
theorem dL_close_24 : decode cL_close 24 = .ok (.ireturn, 1) := by decide +kernel
theorem dL_close_25 : decode cL_close 25 = .ok (.iconst 0, 1) := by decide +kernel
theorem dL_close_26 : decode cL_close 26 = .ok (.ireturn, 1) := by decide +kernel
def f_L_close (U : S2) (g : Nat → Int64) (p1 : Int32) : Option (Int32 × S2 × (Nat → Int64)) := bn (f_X6_close U p1) (fun z_1 => if z_1.1 = 0 then if z_1.2.1 = 0 then some (0, z_1.2.2, setL g 0) else some (0, z_1.2.2, setL g 1) else if z_1.1 = 2 then some (1, z_1.2.2, g) else if z_1.1 = 3 then some (2, z_1.2.2, g) else none)
def wsML_close : List Cond := wsL_close ++ LK
def rmL_close : Room := { frames := 8, cells := 2, slots := 12, locals := 134 }
set_option maxHeartbeats 4000000 in
set_option maxRecDepth 100000 in
theorem c_L_close (l : Launch) (hst : l.stackTraces = false) (D : va_G) (cI cZ cJ cT : ClassId) (a : Nat → Nat → Nat) (b : Nat) (sz : Nat) (U : S2) (g : Nat → Int64) (p1 : Int32) (o : Int32 × S2 × (Nat → Int64)) (hf : f_L_close U g p1 = some o) : vx_Met l yL_close wsML_close rmL_close (va_Pc [.ref (a 0 0), .int p1, .ref b] (PL D cls (tys cI cZ cJ cT) (wL cI cZ cJ cT a b U g) sz)) (QWi D cls o.1 (wL cI cZ cJ cT a b o.2.1 o.2.2) (va_A (wL cI cZ cJ cT a b U g) sz)) (vx_X (fun (_ : Unit) => False) (fun _ _ _ => True) (va_A (wL cI cZ cJ cT a b U g) sz)) 2 12 (va_A (wL cI cZ cJ cT a b U g) sz) := by
  refine vx_ofWH (cc := cL_close) (maxL := 4) (ret := (some .int)) (by decide) rfl ?_
  intro p e s m args below meth c s₁ B hml hv
  obtain ⟨hav, ⟨⟨hsz, hP, hK, hD0⟩, hE⟩, hN⟩ := hv
  have hx := B.exec
  have hb := B.bytes
  have hr := B.returns
  have hlocks := B.notSynchronized
  have hts := atoms_spec (ws := wsML_close) B.pre
  have hown : s.vm.findClass RL = some m.cls := findClass_of_methodNamed B.named
  have htb : c.exceptionTable.toList = [⟨0, 16, 19, 13⟩, ⟨0, 16, 22, 21⟩] := vx_table (x := yL_close) B (hts _ (List.mem_append_left _ List.mem_cons_self))
  subst hsz
  have hD := hD0.self (sz := s.heap.size)
  generalize hAe : va_A (wL cI cZ cJ cT a b U g) s.heap.size = A at hD hE ⊢
  have hA : ∀ q : Nat, s.heap.size ≤ q → A q := fun q h => by rw [← hAe]; exact Or.inr h
  have hS : va_S A s.heap s.heap [] := va_S.rf
  have hDD : ∀ (V : S2) (k : Nat → Int64), va_D A (wL cI cZ cJ cT a b V k) := fun _ _ => D_same (w := (wL cI cZ cJ cT a b U g)) rfl hD
  refine Wq (fun Q hQ => ?_)
  refine W_entry hav (Nat.le_of_ble_eq_true rfl) (fun ls hl => ?_)
  have hl : lv_has ls 4 [(0, .ref (a 0 0)), (1, .int p1), (2, .ref b)] := hl
  unfold f_L_close at hf
  refine W_heap hP hS (fun H locs hP hS => ?_)
  refine lv_aload_n hx hb dL_close_0 rfl (lv_at hl 2 rfl) ?_
  refine lv_iconst (v := 0) hx hb dL_close_1 (by decide) ?_
  refine lv_aload_n hx hb dL_close_2 rfl (lv_at hl 0 rfl) ?_
  refine lv_iload_n hx hb dL_close_3 rfl (lv_at hl 1 rfl) ?_
  obtain ⟨z_1, hz_1, hf⟩ := bn_some hf
  refine cYVi (As := [.int p1]) (rest := [.int 0, .ref b]) ⟨hx, hb, hml, hown, hts⟩ (c_X6_close l hst D cI cZ cJ cT a H.size U p1 z_1 hz_1) (cwV 1 hts (gM_sub gL_close_X6_close) rfl rfl rfl (by decide +kernel) ⟨Nat.le_of_ble_eq_true rfl, Nat.le_of_ble_eq_true rfl⟩) (fl_sub hP 0 rfl) hK (fl_subD (hDD U g) 0 rfl) hE hS (fl_free (hDD U g) hS hA 0 rfl) (va_recv hK (fl_sub (fl_sub hP 0 rfl) 0 rfl) (ci := 6) (q0 := 0) rfl rfl) rfl rfl hl.1 (Nat.le_of_ble_eq_true rfl) dL_close_4 ⟨Nat.le_of_ble_eq_true rfl, Nat.le_of_ble_eq_true rfl⟩ (fun E ce q9 H1 locs k_2 hE9 hP1 hk1 hS hce hcv hcl => ?_) (fun H1 locs k_2 hP1 hk1 hS => ?_)
  · have hf := ite_f hf k_2
    have hP : va_P D cls (wL cI cZ cJ cT a b z_1.2.2 g) H1 := fl_join hP (hDD U g) 0 rfl hk1 hP1
    clear hP1 hk1
    generalize H1 = H at hP hS hce ⊢
    by_cases e_3 : z_1.1 = 2
    · have hf := ite_t hf e_3
      have hE8 : E = "java/lang/IndexOutOfBoundsException" := by rw [hE9, e_3]; rfl
      subst hE8
      refine vx_catch hown [] ⟨0, 16, 19, 13⟩ [⟨0, 16, 22, 21⟩] htb (fun z hz => absurd hz List.not_mem_nil) (by decide) (by decide) (hts (.classLink RL 13 "java/lang/IndexOutOfBoundsException") (List.mem_append_right _ (by decide +kernel))) (EX_bad hE (by decide +kernel)) hce hcv hcl ?_
      refine lv_astore_n (lv' := [(3, .ref q9), (0, .ref (a 0 0)), (1, .int p1), (2, .ref b)]) hx hb dL_close_19 rfl hl (by decide) rfl (fun ls hl => ?_)
      refine lv_iconst (v := 1) hx hb dL_close_20 (by decide) ?_
      have eo := Option.some.inj hf
      have hP : va_P D cls (wL cI cZ cJ cT a b o.2.1 o.2.2) H := by rw [← eo]; exact hP
      rw [hQ]
      refine W.widen (k := 2) (n := 12) (Nat.le_of_ble_eq_true rfl) (Nat.le_of_ble_eq_true rfl) ?_
      exact vx_ret (W.iret hx hb hr (fun t ht hW => ⟨⟨_, (), rfl, (by rw [← eo]), P_at ht hP⟩, hS.F ht⟩) hS.2.2 dL_close_21 hlocks)
    have hf := ite_f hf e_3
    by_cases e_4 : z_1.1 = 3
    · have hf := ite_t hf e_4
      have hE8 : E = "java/lang/IllegalStateException" := by rw [hE9, e_4]; rfl
      subst hE8
      refine vx_catch hown [⟨0, 16, 19, 13⟩] ⟨0, 16, 22, 21⟩ [] htb (List.forall_mem_cons.mpr ⟨Or.inr ⟨by decide, "java/lang/IndexOutOfBoundsException", hts (.classLink RL 13 "java/lang/IndexOutOfBoundsException") (List.mem_append_right _ (by decide +kernel)), hN 3 2 (by decide) (by decide) (by decide)⟩, fun z hz => absurd hz List.not_mem_nil⟩) (by decide) (by decide) (hts (.classLink RL 21 "java/lang/IllegalStateException") (List.mem_append_right _ (by decide +kernel))) (EX_bad hE (by decide +kernel)) hce hcv hcl ?_
      refine lv_astore_n (lv' := [(3, .ref q9), (0, .ref (a 0 0)), (1, .int p1), (2, .ref b)]) hx hb dL_close_22 rfl hl (by decide) rfl (fun ls hl => ?_)
      refine lv_iconst (v := 2) hx hb dL_close_23 (by decide) ?_
      have eo := Option.some.inj hf
      have hP : va_P D cls (wL cI cZ cJ cT a b o.2.1 o.2.2) H := by rw [← eo]; exact hP
      rw [hQ]
      refine W.widen (k := 2) (n := 12) (Nat.le_of_ble_eq_true rfl) (Nat.le_of_ble_eq_true rfl) ?_
      exact vx_ret (W.iret hx hb hr (fun t ht hW => ⟨⟨_, (), rfl, (by rw [← eo]), P_at ht hP⟩, hS.F ht⟩) hS.2.2 dL_close_24 hlocks)
    have hf := ite_f hf e_4
    exact nomatch hf
  have hf := ite_t hf k_2
  have hP : va_P D cls (wL cI cZ cJ cT a b z_1.2.2 g) H1 := fl_join hP (hDD U g) 0 rfl hk1 hP1
  clear hP1 hk1
  generalize H1 = H at hP hS ⊢
  refine lv_if_eq (tgt := 14) hx hb dL_close_7 (by decide) (fun c_5 => ?_) (fun c_5 => ?_)
  · have hf := ite_t hf c_5
    refine lv_lconst (v := 0) hx hb dL_close_14 (by decide) ?_
    refine va_last hx hb hK hP (hDD z_1.2.2 g) hS 86 2 rfl rfl (inb_in (i := 0) (n := 1) (by decide)) dL_close_15 (fun H locs hP _ hS => ?_)
    have hP : va_P D cls (wL cI cZ cJ cT a b z_1.2.2 (setL g 0)) H := hP
    refine lv_goto (tgt := 25) hx hb dL_close_16 (by decide) ?_
    refine lv_iconst (v := 0) hx hb dL_close_25 (by decide) ?_
    have eo := Option.some.inj hf
    have hP : va_P D cls (wL cI cZ cJ cT a b o.2.1 o.2.2) H := by rw [← eo]; exact hP
    rw [hQ]
    refine W.widen (k := 2) (n := 12) (Nat.le_of_ble_eq_true rfl) (Nat.le_of_ble_eq_true rfl) ?_
    exact vx_ret (W.iret hx hb hr (fun t ht hW => ⟨⟨_, (), rfl, (by rw [← eo]), P_at ht hP⟩, hS.F ht⟩) hS.2.2 dL_close_26 hlocks)
  · have hf := ite_f hf c_5
    refine lv_lconst (v := 1) hx hb dL_close_10 (by decide) ?_
    refine lv_goto (tgt := 15) hx hb dL_close_11 (by decide) ?_
    refine va_last hx hb hK hP (hDD z_1.2.2 g) hS 86 2 rfl rfl (inb_in (i := 0) (n := 1) (by decide)) dL_close_15 (fun H locs hP _ hS => ?_)
    have hP : va_P D cls (wL cI cZ cJ cT a b z_1.2.2 (setL g 1)) H := hP
    refine lv_goto (tgt := 25) hx hb dL_close_16 (by decide) ?_
    refine lv_iconst (v := 0) hx hb dL_close_25 (by decide) ?_
    have eo := Option.some.inj hf
    have hP : va_P D cls (wL cI cZ cJ cT a b o.2.1 o.2.2) H := by rw [← eo]; exact hP
    rw [hQ]
    refine W.widen (k := 2) (n := 12) (Nat.le_of_ble_eq_true rfl) (Nat.le_of_ble_eq_true rfl) ?_
    exact vx_ret (W.iret hx hb hr (fun t ht hW => ⟨⟨_, (), rfl, (by rw [← eo]), P_at ht hP⟩, hS.F ht⟩) hS.2.2 dL_close_26 hlocks)
set_option maxRecDepth 20000 in
theorem ggL_write_X6_write : GoodIn wsL_write wsX6_write := goodIn_ca (goodIn_ca (goodIn_ca (goodIn_r _ [6, 7, 8, 9, 10, 11, 12, 13, 14, 15, 16, 5, 17, 18, 19, 20, 21, 22, 23, 24, 25, 26, 27, 28, 29, 30, 31, 32, 33, 34, 35, 36, 37, 38, 39, 40, 41, 42, 43, 44, 45, 46, 47, 48, 49, 50, 51, 52, 53, 54, 55, 56, 57, 58, 59, 60, 61, 62, 63, 64, 65, 66, 67, 68, 69, 70, 71, 72, 73, 74, 75, 76, 77, 78, 79, 80, 81, 82, 83, 84, 85, 86, 87, 88, 89, 90, 91, 92, 93, 94, 95, 96, 97, 98, 99, 100, 101, 102, 103, 104, 105, 106, 107, 108, 109, 110, 111, 112, 113, 114, 115, 116, 117, 118, 119, 120, 121, 122, 123, 124, 125, 126, 127, 128, 129, 130, 131, 132, 133, 134, 135, 136, 137, 138, 139, 140, 141, 142, 143, 144, 145, 146, 147, 148, 149, 150, 151, 152, 153, 154, 155, 156, 157, 158, 159, 160, 161, 162, 163, 164, 165, 166, 167, 168, 169, 170, 171, 172, 173, 174, 175, 176, 177] (by decide +kernel) (by decide +kernel)) (goodIn_sub (fun _ h => List.mem_cons_of_mem _ (List.mem_append_left _ (List.mem_append_left _ (List.mem_append_right _ h)))) (by decide +kernel))) (goodIn_sub (fun _ h => List.mem_cons_of_mem _ (List.mem_append_left _ (List.mem_append_right _ h))) (by decide +kernel))) (goodIn_sub (fun _ h => List.mem_cons_of_mem _ (List.mem_append_right _ h)) (by decide +kernel))
set_option maxRecDepth 20000 in
theorem gL_write_X6_write : GoodIn wsL_write (wsV RL 55 RX6 yX6_write wsX6_write) := goodIn_app (goodIn_of _ (by decide +kernel)) ggL_write_X6_write
theorem dL_write_0 : decode cL_write 0 = .ok (.aload 4, 2) := by decide +kernel
theorem dL_write_2 : decode cL_write 2 = .ok (.iconst 0, 1) := by decide +kernel
theorem dL_write_3 : decode cL_write 3 = .ok (.aload_n 0, 1) := by decide +kernel
theorem dL_write_4 : decode cL_write 4 = .ok (.iload_n 1, 1) := by decide +kernel
theorem dL_write_5 : decode cL_write 5 = .ok (.iload_n 2, 1) := by decide +kernel
theorem dL_write_6 : decode cL_write 6 = .ok (.iload_n 3, 1) := by decide +kernel
theorem dL_write_7 : decode cL_write 7 = .ok (.invokevirtual 55, 3) := by decide +kernel
theorem dL_write_10 : decode cL_write 10 = .ok (.i2l, 1) := by decide +kernel
theorem dL_write_11 : decode cL_write 11 = .ok (.lastore, 1) := by decide +kernel
theorem dL_write_12 : decode cL_write 12 = .ok (.goto 15, 3) := by decide +kernel
theorem dL_write_15 : decode cL_write 15 = .ok (.astore 5, 2) := by decide +kernel
theorem dL_write_17 : decode cL_write 17 = .ok (.iconst 1, 1) := by decide +kernel
theorem dL_write_18 : decode cL_write 18 = .ok (.ireturn, 1) := by decide +kernel
theorem dL_write_19 : decode cL_write 19 = .ok (.astore 5, 2) := by decide +kernel
theorem dL_write_21 : decode cL_write 21 = .ok (.iconst 2, 1) := by decide +kernel
theorem dL_write_22 : decode cL_write 22 = .ok (.ireturn, 1) := by decide +kernel
theorem dL_write_23 : decode cL_write 23 = .ok (.astore 5, 2) := by decide +kernel
theorem dL_write_25 : decode cL_write 25 = .ok (.iconst 3, 1) := by decide +kernel
theorem dL_write_26 : decode cL_write 26 = .ok (.ireturn, 1) := by decide +kernel
theorem dL_write_27 : decode cL_write 27 = .ok (.iconst 0, 1) := by decide +kernel
theorem dL_write_28 : decode cL_write 28 = .ok (.ireturn, 1) := by decide +kernel
def f_L_write (U : S2) (g : Nat → Int64) (p1 : Int32) (p2 : Int32) (p3 : Int32) : Option (Int32 × S2 × (Nat → Int64)) := bn (f_X6_write U p1 p2 p3) (fun z_1 => if z_1.1 = 0 then some (0, z_1.2.2, setL g z_1.2.1.toInt64) else if z_1.1 = 2 then some (1, z_1.2.2, g) else if z_1.1 = 1 then some (2, z_1.2.2, g) else if z_1.1 = 3 then some (3, z_1.2.2, g) else none)
def wsML_write : List Cond := wsL_write ++ LK
def rmL_write : Room := { frames := 9, cells := 5, slots := 30, locals := 159 }
set_option maxHeartbeats 4000000 in
set_option maxRecDepth 100000 in
theorem c_L_write (l : Launch) (hst : l.stackTraces = false) (D : va_G) (cI cZ cJ cT : ClassId) (a : Nat → Nat → Nat) (b : Nat) (sz : Nat) (U : S2) (g : Nat → Int64) (p1 : Int32) (p2 : Int32) (p3 : Int32) (o : Int32 × S2 × (Nat → Int64)) (hf : f_L_write U g p1 p2 p3 = some o) : vx_Met l yL_write wsML_write rmL_write (va_Pc [.ref (a 0 0), .int p1, .int p2, .int p3, .ref b] (PL D cls (tys cI cZ cJ cT) (wL cI cZ cJ cT a b U g) sz)) (QWi D cls o.1 (wL cI cZ cJ cT a b o.2.1 o.2.2) (va_A (wL cI cZ cJ cT a b U g) sz)) (vx_X (fun (_ : Unit) => False) (fun _ _ _ => True) (va_A (wL cI cZ cJ cT a b U g) sz)) 5 30 (va_A (wL cI cZ cJ cT a b U g) sz) := by
  refine vx_ofWH (cc := cL_write) (maxL := 6) (ret := (some .int)) (by decide) rfl ?_
  intro p e s m args below meth c s₁ B hml hv
  obtain ⟨hav, ⟨⟨hsz, hP, hK, hD0⟩, hE⟩, hN⟩ := hv
  have hx := B.exec
  have hb := B.bytes
  have hr := B.returns
  have hlocks := B.notSynchronized
  have hts := atoms_spec (ws := wsML_write) B.pre
  have hown : s.vm.findClass RL = some m.cls := findClass_of_methodNamed B.named
  have htb : c.exceptionTable.toList = [⟨0, 12, 15, 13⟩, ⟨0, 12, 19, 19⟩, ⟨0, 12, 23, 21⟩] := vx_table (x := yL_write) B (hts _ (List.mem_append_left _ List.mem_cons_self))
  subst hsz
  have hD := hD0.self (sz := s.heap.size)
  generalize hAe : va_A (wL cI cZ cJ cT a b U g) s.heap.size = A at hD hE ⊢
  have hA : ∀ q : Nat, s.heap.size ≤ q → A q := fun q h => by rw [← hAe]; exact Or.inr h
  have hS : va_S A s.heap s.heap [] := va_S.rf
  have hDD : ∀ (V : S2) (k : Nat → Int64), va_D A (wL cI cZ cJ cT a b V k) := fun _ _ => D_same (w := (wL cI cZ cJ cT a b U g)) rfl hD
  refine Wq (fun Q hQ => ?_)
  refine W_entry hav (Nat.le_of_ble_eq_true rfl) (fun ls hl => ?_)
  have hl : lv_has ls 6 [(0, .ref (a 0 0)), (1, .int p1), (2, .int p2), (3, .int p3), (4, .ref b)] := hl
  unfold f_L_write at hf
  refine W_heap hP hS (fun H locs hP hS => ?_)
  refine lv_aload hx hb dL_write_0 (lv_at hl 4 rfl) ?_
  refine lv_iconst (v := 0) hx hb dL_write_2 (by decide) ?_
  refine lv_aload_n hx hb dL_write_3 rfl (lv_at hl 0 rfl) ?_
  refine lv_iload_n hx hb dL_write_4 rfl (lv_at hl 1 rfl) ?_
  refine lv_iload_n hx hb dL_write_5 rfl (lv_at hl 2 rfl) ?_
  refine lv_iload_n hx hb dL_write_6 rfl (lv_at hl 3 rfl) ?_
  obtain ⟨z_1, hz_1, hf⟩ := bn_some hf
  refine cYVi (As := [.int p1, .int p2, .int p3]) (rest := [.int 0, .ref b]) ⟨hx, hb, hml, hown, hts⟩ (c_X6_write l hst D cI cZ cJ cT a H.size U p1 p2 p3 z_1 hz_1) (cwV 3 hts (gM_sub gL_write_X6_write) rfl rfl rfl (by decide +kernel) ⟨Nat.le_of_ble_eq_true rfl, Nat.le_of_ble_eq_true rfl⟩) (fl_sub hP 0 rfl) hK (fl_subD (hDD U g) 0 rfl) hE hS (fl_free (hDD U g) hS hA 0 rfl) (va_recv hK (fl_sub (fl_sub hP 0 rfl) 0 rfl) (ci := 6) (q0 := 0) rfl rfl) rfl rfl hl.1 (Nat.le_of_ble_eq_true rfl) dL_write_7 ⟨Nat.le_of_ble_eq_true rfl, Nat.le_of_ble_eq_true rfl⟩ (fun E ce q9 H1 locs k_2 hE9 hP1 hk1 hS hce hcv hcl => ?_) (fun H1 locs k_2 hP1 hk1 hS => ?_)
  · have hf := ite_f hf k_2
    have hP : va_P D cls (wL cI cZ cJ cT a b z_1.2.2 g) H1 := fl_join hP (hDD U g) 0 rfl hk1 hP1
    clear hP1 hk1
    generalize H1 = H at hP hS hce ⊢
    by_cases e_3 : z_1.1 = 2
    · have hf := ite_t hf e_3
      have hE8 : E = "java/lang/IndexOutOfBoundsException" := by rw [hE9, e_3]; rfl
      subst hE8
      refine vx_catch hown [] ⟨0, 12, 15, 13⟩ [⟨0, 12, 19, 19⟩, ⟨0, 12, 23, 21⟩] htb (fun z hz => absurd hz List.not_mem_nil) (by decide) (by decide) (hts (.classLink RL 13 "java/lang/IndexOutOfBoundsException") (List.mem_append_right _ (by decide +kernel))) (EX_bad hE (by decide +kernel)) hce hcv hcl ?_
      refine lv_astore (lv' := [(5, .ref q9), (0, .ref (a 0 0)), (1, .int p1), (2, .int p2), (3, .int p3), (4, .ref b)]) hx hb dL_write_15 hl (by decide) rfl (fun ls hl => ?_)
      refine lv_iconst (v := 1) hx hb dL_write_17 (by decide) ?_
      have eo := Option.some.inj hf
      have hP : va_P D cls (wL cI cZ cJ cT a b o.2.1 o.2.2) H := by rw [← eo]; exact hP
      rw [hQ]
      refine W.widen (k := 5) (n := 30) (Nat.le_of_ble_eq_true rfl) (Nat.le_of_ble_eq_true rfl) ?_
      exact vx_ret (W.iret hx hb hr (fun t ht hW => ⟨⟨_, (), rfl, (by rw [← eo]), P_at ht hP⟩, hS.F ht⟩) hS.2.2 dL_write_18 hlocks)
    have hf := ite_f hf e_3
    by_cases e_4 : z_1.1 = 1
    · have hf := ite_t hf e_4
      have hE8 : E = "java/lang/IllegalArgumentException" := by rw [hE9, e_4]; rfl
      subst hE8
      refine vx_catch hown [⟨0, 12, 15, 13⟩] ⟨0, 12, 19, 19⟩ [⟨0, 12, 23, 21⟩] htb (List.forall_mem_cons.mpr ⟨Or.inr ⟨by decide, "java/lang/IndexOutOfBoundsException", hts (.classLink RL 13 "java/lang/IndexOutOfBoundsException") (List.mem_append_right _ (by decide +kernel)), hN 1 2 (by decide) (by decide) (by decide)⟩, fun z hz => absurd hz List.not_mem_nil⟩) (by decide) (by decide) (hts (.classLink RL 19 "java/lang/IllegalArgumentException") (List.mem_append_right _ (by decide +kernel))) (EX_bad hE (by decide +kernel)) hce hcv hcl ?_
      refine lv_astore (lv' := [(5, .ref q9), (0, .ref (a 0 0)), (1, .int p1), (2, .int p2), (3, .int p3), (4, .ref b)]) hx hb dL_write_19 hl (by decide) rfl (fun ls hl => ?_)
      refine lv_iconst (v := 2) hx hb dL_write_21 (by decide) ?_
      have eo := Option.some.inj hf
      have hP : va_P D cls (wL cI cZ cJ cT a b o.2.1 o.2.2) H := by rw [← eo]; exact hP
      rw [hQ]
      refine W.widen (k := 5) (n := 30) (Nat.le_of_ble_eq_true rfl) (Nat.le_of_ble_eq_true rfl) ?_
      exact vx_ret (W.iret hx hb hr (fun t ht hW => ⟨⟨_, (), rfl, (by rw [← eo]), P_at ht hP⟩, hS.F ht⟩) hS.2.2 dL_write_22 hlocks)
    have hf := ite_f hf e_4
    by_cases e_5 : z_1.1 = 3
    · have hf := ite_t hf e_5
      have hE8 : E = "java/lang/IllegalStateException" := by rw [hE9, e_5]; rfl
      subst hE8
      refine vx_catch hown [⟨0, 12, 15, 13⟩, ⟨0, 12, 19, 19⟩] ⟨0, 12, 23, 21⟩ [] htb (List.forall_mem_cons.mpr ⟨Or.inr ⟨by decide, "java/lang/IndexOutOfBoundsException", hts (.classLink RL 13 "java/lang/IndexOutOfBoundsException") (List.mem_append_right _ (by decide +kernel)), hN 3 2 (by decide) (by decide) (by decide)⟩, List.forall_mem_cons.mpr ⟨Or.inr ⟨by decide, "java/lang/IllegalArgumentException", hts (.classLink RL 19 "java/lang/IllegalArgumentException") (List.mem_append_right _ (by decide +kernel)), hN 3 1 (by decide) (by decide) (by decide)⟩, fun z hz => absurd hz List.not_mem_nil⟩⟩) (by decide) (by decide) (hts (.classLink RL 21 "java/lang/IllegalStateException") (List.mem_append_right _ (by decide +kernel))) (EX_bad hE (by decide +kernel)) hce hcv hcl ?_
      refine lv_astore (lv' := [(5, .ref q9), (0, .ref (a 0 0)), (1, .int p1), (2, .int p2), (3, .int p3), (4, .ref b)]) hx hb dL_write_23 hl (by decide) rfl (fun ls hl => ?_)
      refine lv_iconst (v := 3) hx hb dL_write_25 (by decide) ?_
      have eo := Option.some.inj hf
      have hP : va_P D cls (wL cI cZ cJ cT a b o.2.1 o.2.2) H := by rw [← eo]; exact hP
      rw [hQ]
      refine W.widen (k := 5) (n := 30) (Nat.le_of_ble_eq_true rfl) (Nat.le_of_ble_eq_true rfl) ?_
      exact vx_ret (W.iret hx hb hr (fun t ht hW => ⟨⟨_, (), rfl, (by rw [← eo]), P_at ht hP⟩, hS.F ht⟩) hS.2.2 dL_write_26 hlocks)
    have hf := ite_f hf e_5
    exact nomatch hf
  have hf := ite_t hf k_2
  have hP : va_P D cls (wL cI cZ cJ cT a b z_1.2.2 g) H1 := fl_join hP (hDD U g) 0 rfl hk1 hP1
  clear hP1 hk1
  generalize H1 = H at hP hS ⊢
  refine lv_i2l (v := z_1.2.1.toInt64) hx hb dL_write_10 rfl ?_
  refine va_last hx hb hK hP (hDD z_1.2.2 g) hS 86 2 rfl rfl (inb_in (i := 0) (n := 1) (by decide)) dL_write_11 (fun H locs hP _ hS => ?_)
  have hP : va_P D cls (wL cI cZ cJ cT a b z_1.2.2 (setL g z_1.2.1.toInt64)) H := hP
  refine lv_goto (tgt := 27) hx hb dL_write_12 (by decide) ?_
  refine lv_iconst (v := 0) hx hb dL_write_27 (by decide) ?_
  have eo := Option.some.inj hf
  have hP : va_P D cls (wL cI cZ cJ cT a b o.2.1 o.2.2) H := by rw [← eo]; exact hP
  rw [hQ]
  refine W.widen (k := 5) (n := 30) (Nat.le_of_ble_eq_true rfl) (Nat.le_of_ble_eq_true rfl) ?_
  exact vx_ret (W.iret hx hb hr (fun t ht hW => ⟨⟨_, (), rfl, (by rw [← eo]), P_at ht hP⟩, hS.F ht⟩) hS.2.2 dL_write_28 hlocks)
set_option maxRecDepth 20000 in
theorem ggL_read_X6_read : GoodIn wsL_read wsX6_read := goodIn_ca (goodIn_ca (goodIn_r _ [6, 7, 8, 9, 10, 11, 12, 5, 13, 14, 15, 16, 17, 18, 19, 20, 21, 22, 23, 24, 25, 26, 27, 28, 29, 30, 31, 32, 33, 34, 35, 36, 37, 38, 39, 40, 41, 42, 43, 44, 45, 46, 47, 48, 49, 50, 51, 52, 53, 54, 55, 56, 57, 58, 59, 60, 61, 62, 63, 64, 65, 66, 67, 68, 69, 70, 71, 72, 73, 74, 75, 76, 77, 78, 79, 80, 81, 82, 83, 84, 85, 86, 87, 88, 89, 90, 91, 92, 93, 94, 95, 96, 97, 98, 99, 100, 101, 102, 103, 104, 105, 106, 107, 108, 109, 110, 111, 112, 113, 114, 115, 116, 117, 118, 119, 120, 121, 122, 123] (by decide +kernel) (by decide +kernel)) (goodIn_sub (fun _ h => List.mem_cons_of_mem _ (List.mem_append_left _ (List.mem_append_right _ h))) (by decide +kernel))) (goodIn_sub (fun _ h => List.mem_cons_of_mem _ (List.mem_append_right _ h)) (by decide +kernel))
set_option maxRecDepth 20000 in
theorem gL_read_X6_read : GoodIn wsL_read (wsV RL 59 RX6 yX6_read wsX6_read) := goodIn_app (goodIn_of _ (by decide +kernel)) ggL_read_X6_read
theorem dL_read_0 : decode cL_read 0 = .ok (.aload_n 3, 1) := by decide +kernel
theorem dL_read_1 : decode cL_read 1 = .ok (.iconst 0, 1) := by decide +kernel
theorem dL_read_2 : decode cL_read 2 = .ok (.aload_n 0, 1) := by decide +kernel
theorem dL_read_3 : decode cL_read 3 = .ok (.iload_n 1, 1) := by decide +kernel
theorem dL_read_4 : decode cL_read 4 = .ok (.iload_n 2, 1) := by decide +kernel
theorem dL_read_5 : decode cL_read 5 = .ok (.invokevirtual 59, 3) := by decide +kernel
theorem dL_read_8 : decode cL_read 8 = .ok (.i2l, 1) := by decide +kernel
theorem dL_read_9 : decode cL_read 9 = .ok (.lastore, 1) := by decide +kernel
theorem dL_read_10 : decode cL_read 10 = .ok (.goto 11, 3) := by decide +kernel
theorem dL_read_13 : decode cL_read 13 = .ok (.astore 4, 2) := by decide +kernel
theorem dL_read_15 : decode cL_read 15 = .ok (.iconst 1, 1) := by decide +kernel
theorem dL_read_16 : decode cL_read 16 = .ok (.ireturn, 1) := by decide +kernel
theorem dL_read_17 : decode cL_read 17 = .ok (.astore 4, 2) := by decide +kernel
theorem dL_read_19 : decode cL_read 19 = .ok (.iconst 2, 1) := by decide +kernel
theorem dL_read_20 : decode cL_read 20 = .ok (.ireturn, 1) := by decide +kernel
theorem dL_read_21 : decode cL_read 21 = .ok (.iconst 0, 1) := by decide +kernel
theorem dL_read_22 : decode cL_read 22 = .ok (.ireturn, 1) := by decide +kernel
def f_L_read (U : S2) (g : Nat → Int64) (p1 : Int32) (p2 : Int32) : Option (Int32 × S2 × (Nat → Int64)) := bn (f_X6_read U p1 p2) (fun z_1 => if z_1.1 = 0 then some (0, z_1.2.2, setL g z_1.2.1.toInt64) else if z_1.1 = 2 then some (1, z_1.2.2, g) else if z_1.1 = 3 then some (2, z_1.2.2, g) else none)
def wsML_read : List Cond := wsL_read ++ LK
def rmL_read : Room := { frames := 9, cells := 3, slots := 18, locals := 156 }
set_option maxHeartbeats 4000000 in
set_option maxRecDepth 100000 in
theorem c_L_read (l : Launch) (hst : l.stackTraces = false) (D : va_G) (cI cZ cJ cT : ClassId) (a : Nat → Nat → Nat) (b : Nat) (sz : Nat) (U : S2) (g : Nat → Int64) (p1 : Int32) (p2 : Int32) (o : Int32 × S2 × (Nat → Int64)) (hf : f_L_read U g p1 p2 = some o) : vx_Met l yL_read wsML_read rmL_read (va_Pc [.ref (a 0 0), .int p1, .int p2, .ref b] (PL D cls (tys cI cZ cJ cT) (wL cI cZ cJ cT a b U g) sz)) (QWi D cls o.1 (wL cI cZ cJ cT a b o.2.1 o.2.2) (va_A (wL cI cZ cJ cT a b U g) sz)) (vx_X (fun (_ : Unit) => False) (fun _ _ _ => True) (va_A (wL cI cZ cJ cT a b U g) sz)) 3 18 (va_A (wL cI cZ cJ cT a b U g) sz) := by
  refine vx_ofWH (cc := cL_read) (maxL := 5) (ret := (some .int)) (by decide) rfl ?_
  intro p e s m args below meth c s₁ B hml hv
  obtain ⟨hav, ⟨⟨hsz, hP, hK, hD0⟩, hE⟩, hN⟩ := hv
  have hx := B.exec
  have hb := B.bytes
  have hr := B.returns
  have hlocks := B.notSynchronized
  have hts := atoms_spec (ws := wsML_read) B.pre
  have hown : s.vm.findClass RL = some m.cls := findClass_of_methodNamed B.named
  have htb : c.exceptionTable.toList = [⟨0, 10, 13, 13⟩, ⟨0, 10, 17, 21⟩] := vx_table (x := yL_read) B (hts _ (List.mem_append_left _ List.mem_cons_self))
  subst hsz
  have hD := hD0.self (sz := s.heap.size)
  generalize hAe : va_A (wL cI cZ cJ cT a b U g) s.heap.size = A at hD hE ⊢
  have hA : ∀ q : Nat, s.heap.size ≤ q → A q := fun q h => by rw [← hAe]; exact Or.inr h
  have hS : va_S A s.heap s.heap [] := va_S.rf
  have hDD : ∀ (V : S2) (k : Nat → Int64), va_D A (wL cI cZ cJ cT a b V k) := fun _ _ => D_same (w := (wL cI cZ cJ cT a b U g)) rfl hD
  refine Wq (fun Q hQ => ?_)
  refine W_entry hav (Nat.le_of_ble_eq_true rfl) (fun ls hl => ?_)
  have hl : lv_has ls 5 [(0, .ref (a 0 0)), (1, .int p1), (2, .int p2), (3, .ref b)] := hl
  unfold f_L_read at hf
  refine W_heap hP hS (fun H locs hP hS => ?_)
  refine lv_aload_n hx hb dL_read_0 rfl (lv_at hl 3 rfl) ?_
  refine lv_iconst (v := 0) hx hb dL_read_1 (by decide) ?_
  refine lv_aload_n hx hb dL_read_2 rfl (lv_at hl 0 rfl) ?_
  refine lv_iload_n hx hb dL_read_3 rfl (lv_at hl 1 rfl) ?_
  refine lv_iload_n hx hb dL_read_4 rfl (lv_at hl 2 rfl) ?_
  obtain ⟨z_1, hz_1, hf⟩ := bn_some hf
  refine cYVi (As := [.int p1, .int p2]) (rest := [.int 0, .ref b]) ⟨hx, hb, hml, hown, hts⟩ (c_X6_read l hst D cI cZ cJ cT a H.size U p1 p2 z_1 hz_1) (cwV 2 hts (gM_sub gL_read_X6_read) rfl rfl rfl (by decide +kernel) ⟨Nat.le_of_ble_eq_true rfl, Nat.le_of_ble_eq_true rfl⟩) (fl_sub hP 0 rfl) hK (fl_subD (hDD U g) 0 rfl) hE hS (fl_free (hDD U g) hS hA 0 rfl) (va_recv hK (fl_sub (fl_sub hP 0 rfl) 0 rfl) (ci := 6) (q0 := 0) rfl rfl) rfl rfl hl.1 (Nat.le_of_ble_eq_true rfl) dL_read_5 ⟨Nat.le_of_ble_eq_true rfl, Nat.le_of_ble_eq_true rfl⟩ (fun E ce q9 H1 locs k_2 hE9 hP1 hk1 hS hce hcv hcl => ?_) (fun H1 locs k_2 hP1 hk1 hS => ?_)
  · have hf := ite_f hf k_2
    have hP : va_P D cls (wL cI cZ cJ cT a b z_1.2.2 g) H1 := fl_join hP (hDD U g) 0 rfl hk1 hP1
    clear hP1 hk1
    generalize H1 = H at hP hS hce ⊢
    by_cases e_3 : z_1.1 = 2
    · have hf := ite_t hf e_3
      have hE8 : E = "java/lang/IndexOutOfBoundsException" := by rw [hE9, e_3]; rfl
      subst hE8
      refine vx_catch hown [] ⟨0, 10, 13, 13⟩ [⟨0, 10, 17, 21⟩] htb (fun z hz => absurd hz List.not_mem_nil) (by decide) (by decide) (hts (.classLink RL 13 "java/lang/IndexOutOfBoundsException") (List.mem_append_right _ (by decide +kernel))) (EX_bad hE (by decide +kernel)) hce hcv hcl ?_
      refine lv_astore (lv' := [(4, .ref q9), (0, .ref (a 0 0)), (1, .int p1), (2, .int p2), (3, .ref b)]) hx hb dL_read_13 hl (by decide) rfl (fun ls hl => ?_)
      refine lv_iconst (v := 1) hx hb dL_read_15 (by decide) ?_
      have eo := Option.some.inj hf
      have hP : va_P D cls (wL cI cZ cJ cT a b o.2.1 o.2.2) H := by rw [← eo]; exact hP
      rw [hQ]
      refine W.widen (k := 3) (n := 18) (Nat.le_of_ble_eq_true rfl) (Nat.le_of_ble_eq_true rfl) ?_
      exact vx_ret (W.iret hx hb hr (fun t ht hW => ⟨⟨_, (), rfl, (by rw [← eo]), P_at ht hP⟩, hS.F ht⟩) hS.2.2 dL_read_16 hlocks)
    have hf := ite_f hf e_3
    by_cases e_4 : z_1.1 = 3
    · have hf := ite_t hf e_4
      have hE8 : E = "java/lang/IllegalStateException" := by rw [hE9, e_4]; rfl
      subst hE8
      refine vx_catch hown [⟨0, 10, 13, 13⟩] ⟨0, 10, 17, 21⟩ [] htb (List.forall_mem_cons.mpr ⟨Or.inr ⟨by decide, "java/lang/IndexOutOfBoundsException", hts (.classLink RL 13 "java/lang/IndexOutOfBoundsException") (List.mem_append_right _ (by decide +kernel)), hN 3 2 (by decide) (by decide) (by decide)⟩, fun z hz => absurd hz List.not_mem_nil⟩) (by decide) (by decide) (hts (.classLink RL 21 "java/lang/IllegalStateException") (List.mem_append_right _ (by decide +kernel))) (EX_bad hE (by decide +kernel)) hce hcv hcl ?_
      refine lv_astore (lv' := [(4, .ref q9), (0, .ref (a 0 0)), (1, .int p1), (2, .int p2), (3, .ref b)]) hx hb dL_read_17 hl (by decide) rfl (fun ls hl => ?_)
      refine lv_iconst (v := 2) hx hb dL_read_19 (by decide) ?_
      have eo := Option.some.inj hf
      have hP : va_P D cls (wL cI cZ cJ cT a b o.2.1 o.2.2) H := by rw [← eo]; exact hP
      rw [hQ]
      refine W.widen (k := 3) (n := 18) (Nat.le_of_ble_eq_true rfl) (Nat.le_of_ble_eq_true rfl) ?_
      exact vx_ret (W.iret hx hb hr (fun t ht hW => ⟨⟨_, (), rfl, (by rw [← eo]), P_at ht hP⟩, hS.F ht⟩) hS.2.2 dL_read_20 hlocks)
    have hf := ite_f hf e_4
    exact nomatch hf
  have hf := ite_t hf k_2
  have hP : va_P D cls (wL cI cZ cJ cT a b z_1.2.2 g) H1 := fl_join hP (hDD U g) 0 rfl hk1 hP1
  clear hP1 hk1
  generalize H1 = H at hP hS ⊢
  refine lv_i2l (v := z_1.2.1.toInt64) hx hb dL_read_8 rfl ?_
  refine va_last hx hb hK hP (hDD z_1.2.2 g) hS 86 2 rfl rfl (inb_in (i := 0) (n := 1) (by decide)) dL_read_9 (fun H locs hP _ hS => ?_)
  have hP : va_P D cls (wL cI cZ cJ cT a b z_1.2.2 (setL g z_1.2.1.toInt64)) H := hP
  refine lv_goto (tgt := 21) hx hb dL_read_10 (by decide) ?_
  refine lv_iconst (v := 0) hx hb dL_read_21 (by decide) ?_
  have eo := Option.some.inj hf
  have hP : va_P D cls (wL cI cZ cJ cT a b o.2.1 o.2.2) H := by rw [← eo]; exact hP
  rw [hQ]
  refine W.widen (k := 3) (n := 18) (Nat.le_of_ble_eq_true rfl) (Nat.le_of_ble_eq_true rfl) ?_
  exact vx_ret (W.iret hx hb hr (fun t ht hW => ⟨⟨_, (), rfl, (by rw [← eo]), P_at ht hP⟩, hS.F ht⟩) hS.2.2 dL_read_22 hlocks)
set_option maxRecDepth 20000 in
theorem ggL_ahead_X6_ahead : GoodIn wsL_ahead wsX6_ahead := goodIn_ca (goodIn_ca (goodIn_ca (goodIn_r _ [6, 7, 8, 9, 10, 11, 12, 13, 5, 14, 15, 16, 17, 18, 19, 20, 21, 22, 23, 24, 25, 26, 27, 28, 29, 30, 31, 32, 33, 34, 35, 36, 37, 38, 39, 40, 41, 42, 43, 44, 45, 46, 47, 48, 49, 50, 51, 52, 53, 54, 55, 56, 57, 58, 59, 60, 61, 62, 63, 64, 65, 66, 67, 68, 69, 70, 71, 72, 73, 74, 75, 76, 77, 78, 79, 80, 81, 82, 83, 84, 85, 86, 87, 88, 89, 90, 91, 92, 93, 94, 95, 96, 97, 98, 99, 100, 101, 102, 103, 104, 105, 106, 107, 108, 109, 110, 111, 112, 113, 114, 115, 116, 117, 118, 119, 120, 121, 122, 123, 124, 125, 126, 127, 128, 129, 130, 131, 132, 133, 134, 135, 136, 137, 138, 139, 140, 141, 142, 143, 144, 145, 146, 147, 148, 149, 150, 151, 152, 153, 154, 155, 156, 157, 158, 159, 160, 161, 162, 163, 164, 165, 166, 167, 168, 169, 170, 171, 172] (by decide +kernel) (by decide +kernel)) (goodIn_sub (fun _ h => List.mem_cons_of_mem _ (List.mem_append_left _ (List.mem_append_left _ (List.mem_append_right _ h)))) (by decide +kernel))) (goodIn_sub (fun _ h => List.mem_cons_of_mem _ (List.mem_append_left _ (List.mem_append_right _ h))) (by decide +kernel))) (goodIn_sub (fun _ h => List.mem_cons_of_mem _ (List.mem_append_right _ h)) (by decide +kernel))
set_option maxRecDepth 20000 in
theorem gL_ahead_X6_ahead : GoodIn wsL_ahead (wsV RL 62 RX6 yX6_ahead wsX6_ahead) := goodIn_app (goodIn_of _ (by decide +kernel)) ggL_ahead_X6_ahead
theorem dL_ahead_0 : decode cL_ahead 0 = .ok (.aload 4, 2) := by decide +kernel
theorem dL_ahead_2 : decode cL_ahead 2 = .ok (.iconst 0, 1) := by decide +kernel
theorem dL_ahead_3 : decode cL_ahead 3 = .ok (.aload_n 0, 1) := by decide +kernel
theorem dL_ahead_4 : decode cL_ahead 4 = .ok (.iload_n 1, 1) := by decide +kernel
theorem dL_ahead_5 : decode cL_ahead 5 = .ok (.iload_n 2, 1) := by decide +kernel
theorem dL_ahead_6 : decode cL_ahead 6 = .ok (.iload_n 3, 1) := by decide +kernel
theorem dL_ahead_7 : decode cL_ahead 7 = .ok (.invokevirtual 62, 3) := by decide +kernel
theorem dL_ahead_10 : decode cL_ahead 10 = .ok (.i2l, 1) := by decide +kernel
theorem dL_ahead_11 : decode cL_ahead 11 = .ok (.lastore, 1) := by decide +kernel
theorem dL_ahead_12 : decode cL_ahead 12 = .ok (.goto 15, 3) := by decide +kernel
theorem dL_ahead_15 : decode cL_ahead 15 = .ok (.astore 5, 2) := by decide +kernel
theorem dL_ahead_17 : decode cL_ahead 17 = .ok (.iconst 1, 1) := by decide +kernel
theorem dL_ahead_18 : decode cL_ahead 18 = .ok (.ireturn, 1) := by decide +kernel
theorem dL_ahead_19 : decode cL_ahead 19 = .ok (.astore 5, 2) := by decide +kernel
theorem dL_ahead_21 : decode cL_ahead 21 = .ok (.iconst 2, 1) := by decide +kernel
theorem dL_ahead_22 : decode cL_ahead 22 = .ok (.ireturn, 1) := by decide +kernel
theorem dL_ahead_23 : decode cL_ahead 23 = .ok (.astore 5, 2) := by decide +kernel
theorem dL_ahead_25 : decode cL_ahead 25 = .ok (.iconst 3, 1) := by decide +kernel
theorem dL_ahead_26 : decode cL_ahead 26 = .ok (.ireturn, 1) := by decide +kernel
theorem dL_ahead_27 : decode cL_ahead 27 = .ok (.iconst 0, 1) := by decide +kernel
theorem dL_ahead_28 : decode cL_ahead 28 = .ok (.ireturn, 1) := by decide +kernel
def f_L_ahead (U : S2) (g : Nat → Int64) (p1 : Int32) (p2 : Int32) (p3 : Int32) : Option (Int32 × S2 × (Nat → Int64)) := bn (f_X6_ahead U p1 p2 p3) (fun z_1 => if z_1.1 = 0 then some (0, z_1.2.2, setL g z_1.2.1.toInt64) else if z_1.1 = 2 then some (1, z_1.2.2, g) else if z_1.1 = 1 then some (2, z_1.2.2, g) else if z_1.1 = 3 then some (3, z_1.2.2, g) else none)
def wsML_ahead : List Cond := wsL_ahead ++ LK
def rmL_ahead : Room := { frames := 10, cells := 8, slots := 48, locals := 182 }
set_option maxHeartbeats 4000000 in
set_option maxRecDepth 100000 in
theorem c_L_ahead (l : Launch) (hst : l.stackTraces = false) (D : va_G) (cI cZ cJ cT : ClassId) (a : Nat → Nat → Nat) (b : Nat) (sz : Nat) (U : S2) (g : Nat → Int64) (p1 : Int32) (p2 : Int32) (p3 : Int32) (o : Int32 × S2 × (Nat → Int64)) (hf : f_L_ahead U g p1 p2 p3 = some o) : vx_Met l yL_ahead wsML_ahead rmL_ahead (va_Pc [.ref (a 0 0), .int p1, .int p2, .int p3, .ref b] (PL D cls (tys cI cZ cJ cT) (wL cI cZ cJ cT a b U g) sz)) (QWi D cls o.1 (wL cI cZ cJ cT a b o.2.1 o.2.2) (va_A (wL cI cZ cJ cT a b U g) sz)) (vx_X (fun (_ : Unit) => False) (fun _ _ _ => True) (va_A (wL cI cZ cJ cT a b U g) sz)) 8 48 (va_A (wL cI cZ cJ cT a b U g) sz) := by
  refine vx_ofWH (cc := cL_ahead) (maxL := 6) (ret := (some .int)) (by decide) rfl ?_
  intro p e s m args below meth c s₁ B hml hv
  obtain ⟨hav, ⟨⟨hsz, hP, hK, hD0⟩, hE⟩, hN⟩ := hv
  have hx := B.exec
  have hb := B.bytes
  have hr := B.returns
  have hlocks := B.notSynchronized
  have hts := atoms_spec (ws := wsML_ahead) B.pre
  have hown : s.vm.findClass RL = some m.cls := findClass_of_methodNamed B.named
  have htb : c.exceptionTable.toList = [⟨0, 12, 15, 13⟩, ⟨0, 12, 19, 19⟩, ⟨0, 12, 23, 21⟩] := vx_table (x := yL_ahead) B (hts _ (List.mem_append_left _ List.mem_cons_self))
  subst hsz
  have hD := hD0.self (sz := s.heap.size)
  generalize hAe : va_A (wL cI cZ cJ cT a b U g) s.heap.size = A at hD hE ⊢
  have hA : ∀ q : Nat, s.heap.size ≤ q → A q := fun q h => by rw [← hAe]; exact Or.inr h
  have hS : va_S A s.heap s.heap [] := va_S.rf
  have hDD : ∀ (V : S2) (k : Nat → Int64), va_D A (wL cI cZ cJ cT a b V k) := fun _ _ => D_same (w := (wL cI cZ cJ cT a b U g)) rfl hD
  refine Wq (fun Q hQ => ?_)
  refine W_entry hav (Nat.le_of_ble_eq_true rfl) (fun ls hl => ?_)
  have hl : lv_has ls 6 [(0, .ref (a 0 0)), (1, .int p1), (2, .int p2), (3, .int p3), (4, .ref b)] := hl
  unfold f_L_ahead at hf
  refine W_heap hP hS (fun H locs hP hS => ?_)
  refine lv_aload hx hb dL_ahead_0 (lv_at hl 4 rfl) ?_
  refine lv_iconst (v := 0) hx hb dL_ahead_2 (by decide) ?_
  refine lv_aload_n hx hb dL_ahead_3 rfl (lv_at hl 0 rfl) ?_
  refine lv_iload_n hx hb dL_ahead_4 rfl (lv_at hl 1 rfl) ?_
  refine lv_iload_n hx hb dL_ahead_5 rfl (lv_at hl 2 rfl) ?_
  refine lv_iload_n hx hb dL_ahead_6 rfl (lv_at hl 3 rfl) ?_
  obtain ⟨z_1, hz_1, hf⟩ := bn_some hf
  refine cYVi (As := [.int p1, .int p2, .int p3]) (rest := [.int 0, .ref b]) ⟨hx, hb, hml, hown, hts⟩ (c_X6_ahead l hst D cI cZ cJ cT a H.size U p1 p2 p3 z_1 hz_1) (cwV 3 hts (gM_sub gL_ahead_X6_ahead) rfl rfl rfl (by decide +kernel) ⟨Nat.le_of_ble_eq_true rfl, Nat.le_of_ble_eq_true rfl⟩) (fl_sub hP 0 rfl) hK (fl_subD (hDD U g) 0 rfl) hE hS (fl_free (hDD U g) hS hA 0 rfl) (va_recv hK (fl_sub (fl_sub hP 0 rfl) 0 rfl) (ci := 6) (q0 := 0) rfl rfl) rfl rfl hl.1 (Nat.le_of_ble_eq_true rfl) dL_ahead_7 ⟨Nat.le_of_ble_eq_true rfl, Nat.le_of_ble_eq_true rfl⟩ (fun E ce q9 H1 locs k_2 hE9 hP1 hk1 hS hce hcv hcl => ?_) (fun H1 locs k_2 hP1 hk1 hS => ?_)
  · have hf := ite_f hf k_2
    have hP : va_P D cls (wL cI cZ cJ cT a b z_1.2.2 g) H1 := fl_join hP (hDD U g) 0 rfl hk1 hP1
    clear hP1 hk1
    generalize H1 = H at hP hS hce ⊢
    by_cases e_3 : z_1.1 = 2
    · have hf := ite_t hf e_3
      have hE8 : E = "java/lang/IndexOutOfBoundsException" := by rw [hE9, e_3]; rfl
      subst hE8
      refine vx_catch hown [] ⟨0, 12, 15, 13⟩ [⟨0, 12, 19, 19⟩, ⟨0, 12, 23, 21⟩] htb (fun z hz => absurd hz List.not_mem_nil) (by decide) (by decide) (hts (.classLink RL 13 "java/lang/IndexOutOfBoundsException") (List.mem_append_right _ (by decide +kernel))) (EX_bad hE (by decide +kernel)) hce hcv hcl ?_
      refine lv_astore (lv' := [(5, .ref q9), (0, .ref (a 0 0)), (1, .int p1), (2, .int p2), (3, .int p3), (4, .ref b)]) hx hb dL_ahead_15 hl (by decide) rfl (fun ls hl => ?_)
      refine lv_iconst (v := 1) hx hb dL_ahead_17 (by decide) ?_
      have eo := Option.some.inj hf
      have hP : va_P D cls (wL cI cZ cJ cT a b o.2.1 o.2.2) H := by rw [← eo]; exact hP
      rw [hQ]
      refine W.widen (k := 8) (n := 48) (Nat.le_of_ble_eq_true rfl) (Nat.le_of_ble_eq_true rfl) ?_
      exact vx_ret (W.iret hx hb hr (fun t ht hW => ⟨⟨_, (), rfl, (by rw [← eo]), P_at ht hP⟩, hS.F ht⟩) hS.2.2 dL_ahead_18 hlocks)
    have hf := ite_f hf e_3
    by_cases e_4 : z_1.1 = 1
    · have hf := ite_t hf e_4
      have hE8 : E = "java/lang/IllegalArgumentException" := by rw [hE9, e_4]; rfl
      subst hE8
      refine vx_catch hown [⟨0, 12, 15, 13⟩] ⟨0, 12, 19, 19⟩ [⟨0, 12, 23, 21⟩] htb (List.forall_mem_cons.mpr ⟨Or.inr ⟨by decide, "java/lang/IndexOutOfBoundsException", hts (.classLink RL 13 "java/lang/IndexOutOfBoundsException") (List.mem_append_right _ (by decide +kernel)), hN 1 2 (by decide) (by decide) (by decide)⟩, fun z hz => absurd hz List.not_mem_nil⟩) (by decide) (by decide) (hts (.classLink RL 19 "java/lang/IllegalArgumentException") (List.mem_append_right _ (by decide +kernel))) (EX_bad hE (by decide +kernel)) hce hcv hcl ?_
      refine lv_astore (lv' := [(5, .ref q9), (0, .ref (a 0 0)), (1, .int p1), (2, .int p2), (3, .int p3), (4, .ref b)]) hx hb dL_ahead_19 hl (by decide) rfl (fun ls hl => ?_)
      refine lv_iconst (v := 2) hx hb dL_ahead_21 (by decide) ?_
      have eo := Option.some.inj hf
      have hP : va_P D cls (wL cI cZ cJ cT a b o.2.1 o.2.2) H := by rw [← eo]; exact hP
      rw [hQ]
      refine W.widen (k := 8) (n := 48) (Nat.le_of_ble_eq_true rfl) (Nat.le_of_ble_eq_true rfl) ?_
      exact vx_ret (W.iret hx hb hr (fun t ht hW => ⟨⟨_, (), rfl, (by rw [← eo]), P_at ht hP⟩, hS.F ht⟩) hS.2.2 dL_ahead_22 hlocks)
    have hf := ite_f hf e_4
    by_cases e_5 : z_1.1 = 3
    · have hf := ite_t hf e_5
      have hE8 : E = "java/lang/IllegalStateException" := by rw [hE9, e_5]; rfl
      subst hE8
      refine vx_catch hown [⟨0, 12, 15, 13⟩, ⟨0, 12, 19, 19⟩] ⟨0, 12, 23, 21⟩ [] htb (List.forall_mem_cons.mpr ⟨Or.inr ⟨by decide, "java/lang/IndexOutOfBoundsException", hts (.classLink RL 13 "java/lang/IndexOutOfBoundsException") (List.mem_append_right _ (by decide +kernel)), hN 3 2 (by decide) (by decide) (by decide)⟩, List.forall_mem_cons.mpr ⟨Or.inr ⟨by decide, "java/lang/IllegalArgumentException", hts (.classLink RL 19 "java/lang/IllegalArgumentException") (List.mem_append_right _ (by decide +kernel)), hN 3 1 (by decide) (by decide) (by decide)⟩, fun z hz => absurd hz List.not_mem_nil⟩⟩) (by decide) (by decide) (hts (.classLink RL 21 "java/lang/IllegalStateException") (List.mem_append_right _ (by decide +kernel))) (EX_bad hE (by decide +kernel)) hce hcv hcl ?_
      refine lv_astore (lv' := [(5, .ref q9), (0, .ref (a 0 0)), (1, .int p1), (2, .int p2), (3, .int p3), (4, .ref b)]) hx hb dL_ahead_23 hl (by decide) rfl (fun ls hl => ?_)
      refine lv_iconst (v := 3) hx hb dL_ahead_25 (by decide) ?_
      have eo := Option.some.inj hf
      have hP : va_P D cls (wL cI cZ cJ cT a b o.2.1 o.2.2) H := by rw [← eo]; exact hP
      rw [hQ]
      refine W.widen (k := 8) (n := 48) (Nat.le_of_ble_eq_true rfl) (Nat.le_of_ble_eq_true rfl) ?_
      exact vx_ret (W.iret hx hb hr (fun t ht hW => ⟨⟨_, (), rfl, (by rw [← eo]), P_at ht hP⟩, hS.F ht⟩) hS.2.2 dL_ahead_26 hlocks)
    have hf := ite_f hf e_5
    exact nomatch hf
  have hf := ite_t hf k_2
  have hP : va_P D cls (wL cI cZ cJ cT a b z_1.2.2 g) H1 := fl_join hP (hDD U g) 0 rfl hk1 hP1
  clear hP1 hk1
  generalize H1 = H at hP hS ⊢
  refine lv_i2l (v := z_1.2.1.toInt64) hx hb dL_ahead_10 rfl ?_
  refine va_last hx hb hK hP (hDD z_1.2.2 g) hS 86 2 rfl rfl (inb_in (i := 0) (n := 1) (by decide)) dL_ahead_11 (fun H locs hP _ hS => ?_)
  have hP : va_P D cls (wL cI cZ cJ cT a b z_1.2.2 (setL g z_1.2.1.toInt64)) H := hP
  refine lv_goto (tgt := 27) hx hb dL_ahead_12 (by decide) ?_
  refine lv_iconst (v := 0) hx hb dL_ahead_27 (by decide) ?_
  have eo := Option.some.inj hf
  have hP : va_P D cls (wL cI cZ cJ cT a b o.2.1 o.2.2) H := by rw [← eo]; exact hP
  rw [hQ]
  refine W.widen (k := 8) (n := 48) (Nat.le_of_ble_eq_true rfl) (Nat.le_of_ble_eq_true rfl) ?_
  exact vx_ret (W.iret hx hb hr (fun t ht hW => ⟨⟨_, (), rfl, (by rw [← eo]), P_at ht hP⟩, hS.F ht⟩) hS.2.2 dL_ahead_28 hlocks)
set_option maxRecDepth 20000 in
theorem ggL_cut_X6_cut : GoodIn wsL_cut wsX6_cut := goodIn_ca (goodIn_ca (goodIn_r _ [6, 7, 8, 9, 10, 11, 12, 5, 13, 14, 15, 16, 17, 18, 19, 20, 21, 22, 23, 24, 25, 26, 27, 28, 29, 30, 31, 32, 33, 34, 35, 36, 37, 38, 39, 40, 41, 42, 43, 44, 45, 46, 47, 48, 49, 50, 51, 52, 53, 54, 55, 56, 57, 58, 59, 60, 61, 62, 63, 64, 65, 66, 67, 68, 69, 70, 71, 72, 73, 74, 75, 76, 77, 78, 79, 80, 81, 82, 83, 84, 85, 86, 87, 88, 89, 90, 91, 92, 93, 94, 95, 96, 97, 98, 99, 100, 101, 102, 103, 104, 105, 106, 107, 108, 109, 110, 111, 112, 113, 114, 115, 116, 117, 118] (by decide +kernel) (by decide +kernel)) (goodIn_sub (fun _ h => List.mem_cons_of_mem _ (List.mem_append_left _ (List.mem_append_right _ h))) (by decide +kernel))) (goodIn_sub (fun _ h => List.mem_cons_of_mem _ (List.mem_append_right _ h)) (by decide +kernel))
set_option maxRecDepth 20000 in
theorem gL_cut_X6_cut : GoodIn wsL_cut (wsV RL 65 RX6 yX6_cut wsX6_cut) := goodIn_app (goodIn_of _ (by decide +kernel)) ggL_cut_X6_cut
theorem dL_cut_0 : decode cL_cut 0 = .ok (.aload_n 3, 1) := by decide +kernel
theorem dL_cut_1 : decode cL_cut 1 = .ok (.iconst 0, 1) := by decide +kernel
theorem dL_cut_2 : decode cL_cut 2 = .ok (.aload_n 0, 1) := by decide +kernel
theorem dL_cut_3 : decode cL_cut 3 = .ok (.iload_n 1, 1) := by decide +kernel
theorem dL_cut_4 : decode cL_cut 4 = .ok (.iload_n 2, 1) := by decide +kernel
theorem dL_cut_5 : decode cL_cut 5 = .ok (.invokevirtual 65, 3) := by decide +kernel
theorem dL_cut_8 : decode cL_cut 8 = .ok (.i2l, 1) := by decide +kernel
theorem dL_cut_9 : decode cL_cut 9 = .ok (.lastore, 1) := by decide +kernel
theorem dL_cut_10 : decode cL_cut 10 = .ok (.goto 11, 3) := by decide +kernel
theorem dL_cut_13 : decode cL_cut 13 = .ok (.astore 4, 2) := by decide +kernel
theorem dL_cut_15 : decode cL_cut 15 = .ok (.iconst 1, 1) := by decide +kernel
theorem dL_cut_16 : decode cL_cut 16 = .ok (.ireturn, 1) := by decide +kernel
theorem dL_cut_17 : decode cL_cut 17 = .ok (.astore 4, 2) := by decide +kernel
theorem dL_cut_19 : decode cL_cut 19 = .ok (.iconst 2, 1) := by decide +kernel
theorem dL_cut_20 : decode cL_cut 20 = .ok (.ireturn, 1) := by decide +kernel
theorem dL_cut_21 : decode cL_cut 21 = .ok (.iconst 0, 1) := by decide +kernel
theorem dL_cut_22 : decode cL_cut 22 = .ok (.ireturn, 1) := by decide +kernel
def f_L_cut (U : S2) (g : Nat → Int64) (p1 : Int32) (p2 : Int32) : Option (Int32 × S2 × (Nat → Int64)) := bn (f_X6_cut U p1 p2) (fun z_1 => if z_1.1 = 0 then some (0, z_1.2.2, setL g z_1.2.1.toInt64) else if z_1.1 = 2 then some (1, z_1.2.2, g) else if z_1.1 = 3 then some (2, z_1.2.2, g) else none)
def wsML_cut : List Cond := wsL_cut ++ LK
def rmL_cut : Room := { frames := 9, cells := 4, slots := 24, locals := 158 }
set_option maxHeartbeats 4000000 in
set_option maxRecDepth 100000 in
theorem c_L_cut (l : Launch) (hst : l.stackTraces = false) (D : va_G) (cI cZ cJ cT : ClassId) (a : Nat → Nat → Nat) (b : Nat) (sz : Nat) (U : S2) (g : Nat → Int64) (p1 : Int32) (p2 : Int32) (o : Int32 × S2 × (Nat → Int64)) (hf : f_L_cut U g p1 p2 = some o) : vx_Met l yL_cut wsML_cut rmL_cut (va_Pc [.ref (a 0 0), .int p1, .int p2, .ref b] (PL D cls (tys cI cZ cJ cT) (wL cI cZ cJ cT a b U g) sz)) (QWi D cls o.1 (wL cI cZ cJ cT a b o.2.1 o.2.2) (va_A (wL cI cZ cJ cT a b U g) sz)) (vx_X (fun (_ : Unit) => False) (fun _ _ _ => True) (va_A (wL cI cZ cJ cT a b U g) sz)) 4 24 (va_A (wL cI cZ cJ cT a b U g) sz) := by
  refine vx_ofWH (cc := cL_cut) (maxL := 5) (ret := (some .int)) (by decide) rfl ?_
  intro p e s m args below meth c s₁ B hml hv
  obtain ⟨hav, ⟨⟨hsz, hP, hK, hD0⟩, hE⟩, hN⟩ := hv
  have hx := B.exec
  have hb := B.bytes
  have hr := B.returns
  have hlocks := B.notSynchronized
  have hts := atoms_spec (ws := wsML_cut) B.pre
  have hown : s.vm.findClass RL = some m.cls := findClass_of_methodNamed B.named
  have htb : c.exceptionTable.toList = [⟨0, 10, 13, 13⟩, ⟨0, 10, 17, 21⟩] := vx_table (x := yL_cut) B (hts _ (List.mem_append_left _ List.mem_cons_self))
  subst hsz
  have hD := hD0.self (sz := s.heap.size)
  generalize hAe : va_A (wL cI cZ cJ cT a b U g) s.heap.size = A at hD hE ⊢
  have hA : ∀ q : Nat, s.heap.size ≤ q → A q := fun q h => by rw [← hAe]; exact Or.inr h
  have hS : va_S A s.heap s.heap [] := va_S.rf
  have hDD : ∀ (V : S2) (k : Nat → Int64), va_D A (wL cI cZ cJ cT a b V k) := fun _ _ => D_same (w := (wL cI cZ cJ cT a b U g)) rfl hD
  refine Wq (fun Q hQ => ?_)
  refine W_entry hav (Nat.le_of_ble_eq_true rfl) (fun ls hl => ?_)
  have hl : lv_has ls 5 [(0, .ref (a 0 0)), (1, .int p1), (2, .int p2), (3, .ref b)] := hl
  unfold f_L_cut at hf
  refine W_heap hP hS (fun H locs hP hS => ?_)
  refine lv_aload_n hx hb dL_cut_0 rfl (lv_at hl 3 rfl) ?_
  refine lv_iconst (v := 0) hx hb dL_cut_1 (by decide) ?_
  refine lv_aload_n hx hb dL_cut_2 rfl (lv_at hl 0 rfl) ?_
  refine lv_iload_n hx hb dL_cut_3 rfl (lv_at hl 1 rfl) ?_
  refine lv_iload_n hx hb dL_cut_4 rfl (lv_at hl 2 rfl) ?_
  obtain ⟨z_1, hz_1, hf⟩ := bn_some hf
  refine cYVi (As := [.int p1, .int p2]) (rest := [.int 0, .ref b]) ⟨hx, hb, hml, hown, hts⟩ (c_X6_cut l hst D cI cZ cJ cT a H.size U p1 p2 z_1 hz_1) (cwV 2 hts (gM_sub gL_cut_X6_cut) rfl rfl rfl (by decide +kernel) ⟨Nat.le_of_ble_eq_true rfl, Nat.le_of_ble_eq_true rfl⟩) (fl_sub hP 0 rfl) hK (fl_subD (hDD U g) 0 rfl) hE hS (fl_free (hDD U g) hS hA 0 rfl) (va_recv hK (fl_sub (fl_sub hP 0 rfl) 0 rfl) (ci := 6) (q0 := 0) rfl rfl) rfl rfl hl.1 (Nat.le_of_ble_eq_true rfl) dL_cut_5 ⟨Nat.le_of_ble_eq_true rfl, Nat.le_of_ble_eq_true rfl⟩ (fun E ce q9 H1 locs k_2 hE9 hP1 hk1 hS hce hcv hcl => ?_) (fun H1 locs k_2 hP1 hk1 hS => ?_)
  · have hf := ite_f hf k_2
    have hP : va_P D cls (wL cI cZ cJ cT a b z_1.2.2 g) H1 := fl_join hP (hDD U g) 0 rfl hk1 hP1
    clear hP1 hk1
    generalize H1 = H at hP hS hce ⊢
    by_cases e_3 : z_1.1 = 2
    · have hf := ite_t hf e_3
      have hE8 : E = "java/lang/IndexOutOfBoundsException" := by rw [hE9, e_3]; rfl
      subst hE8
      refine vx_catch hown [] ⟨0, 10, 13, 13⟩ [⟨0, 10, 17, 21⟩] htb (fun z hz => absurd hz List.not_mem_nil) (by decide) (by decide) (hts (.classLink RL 13 "java/lang/IndexOutOfBoundsException") (List.mem_append_right _ (by decide +kernel))) (EX_bad hE (by decide +kernel)) hce hcv hcl ?_
      refine lv_astore (lv' := [(4, .ref q9), (0, .ref (a 0 0)), (1, .int p1), (2, .int p2), (3, .ref b)]) hx hb dL_cut_13 hl (by decide) rfl (fun ls hl => ?_)
      refine lv_iconst (v := 1) hx hb dL_cut_15 (by decide) ?_
      have eo := Option.some.inj hf
      have hP : va_P D cls (wL cI cZ cJ cT a b o.2.1 o.2.2) H := by rw [← eo]; exact hP
      rw [hQ]
      refine W.widen (k := 4) (n := 24) (Nat.le_of_ble_eq_true rfl) (Nat.le_of_ble_eq_true rfl) ?_
      exact vx_ret (W.iret hx hb hr (fun t ht hW => ⟨⟨_, (), rfl, (by rw [← eo]), P_at ht hP⟩, hS.F ht⟩) hS.2.2 dL_cut_16 hlocks)
    have hf := ite_f hf e_3
    by_cases e_4 : z_1.1 = 3
    · have hf := ite_t hf e_4
      have hE8 : E = "java/lang/IllegalStateException" := by rw [hE9, e_4]; rfl
      subst hE8
      refine vx_catch hown [⟨0, 10, 13, 13⟩] ⟨0, 10, 17, 21⟩ [] htb (List.forall_mem_cons.mpr ⟨Or.inr ⟨by decide, "java/lang/IndexOutOfBoundsException", hts (.classLink RL 13 "java/lang/IndexOutOfBoundsException") (List.mem_append_right _ (by decide +kernel)), hN 3 2 (by decide) (by decide) (by decide)⟩, fun z hz => absurd hz List.not_mem_nil⟩) (by decide) (by decide) (hts (.classLink RL 21 "java/lang/IllegalStateException") (List.mem_append_right _ (by decide +kernel))) (EX_bad hE (by decide +kernel)) hce hcv hcl ?_
      refine lv_astore (lv' := [(4, .ref q9), (0, .ref (a 0 0)), (1, .int p1), (2, .int p2), (3, .ref b)]) hx hb dL_cut_17 hl (by decide) rfl (fun ls hl => ?_)
      refine lv_iconst (v := 2) hx hb dL_cut_19 (by decide) ?_
      have eo := Option.some.inj hf
      have hP : va_P D cls (wL cI cZ cJ cT a b o.2.1 o.2.2) H := by rw [← eo]; exact hP
      rw [hQ]
      refine W.widen (k := 4) (n := 24) (Nat.le_of_ble_eq_true rfl) (Nat.le_of_ble_eq_true rfl) ?_
      exact vx_ret (W.iret hx hb hr (fun t ht hW => ⟨⟨_, (), rfl, (by rw [← eo]), P_at ht hP⟩, hS.F ht⟩) hS.2.2 dL_cut_20 hlocks)
    have hf := ite_f hf e_4
    exact nomatch hf
  have hf := ite_t hf k_2
  have hP : va_P D cls (wL cI cZ cJ cT a b z_1.2.2 g) H1 := fl_join hP (hDD U g) 0 rfl hk1 hP1
  clear hP1 hk1
  generalize H1 = H at hP hS ⊢
  refine lv_i2l (v := z_1.2.1.toInt64) hx hb dL_cut_8 rfl ?_
  refine va_last hx hb hK hP (hDD z_1.2.2 g) hS 86 2 rfl rfl (inb_in (i := 0) (n := 1) (by decide)) dL_cut_9 (fun H locs hP _ hS => ?_)
  have hP : va_P D cls (wL cI cZ cJ cT a b z_1.2.2 (setL g z_1.2.1.toInt64)) H := hP
  refine lv_goto (tgt := 21) hx hb dL_cut_10 (by decide) ?_
  refine lv_iconst (v := 0) hx hb dL_cut_21 (by decide) ?_
  have eo := Option.some.inj hf
  have hP : va_P D cls (wL cI cZ cJ cT a b o.2.1 o.2.2) H := by rw [← eo]; exact hP
  rw [hQ]
  refine W.widen (k := 4) (n := 24) (Nat.le_of_ble_eq_true rfl) (Nat.le_of_ble_eq_true rfl) ?_
  exact vx_ret (W.iret hx hb hr (fun t ht hW => ⟨⟨_, (), rfl, (by rw [← eo]), P_at ht hP⟩, hS.F ht⟩) hS.2.2 dL_cut_22 hlocks)
set_option maxRecDepth 20000 in
theorem ggL_lock_X6_lock : GoodIn wsL_lock wsX6_lock := goodIn_ca (goodIn_ca (goodIn_ca (goodIn_r _ [6, 7, 8, 9, 10, 11, 12, 5, 13, 14, 15, 16, 17, 18, 19, 20, 21, 22, 23, 24, 25, 26, 27, 28, 29, 30, 31, 32, 33, 34, 35, 36, 37, 38, 39, 40, 41, 42, 43, 44, 45, 46, 47, 48, 49, 50, 51, 52, 53, 54, 55, 56, 57, 58, 59, 60, 61, 62, 63, 64, 65, 66, 67, 68, 69, 70, 71, 72, 73, 74, 75, 76, 77, 78, 79, 80, 81, 82, 83, 84, 85, 86, 87, 88] (by decide +kernel) (by decide +kernel)) (goodIn_sub (fun _ h => List.mem_cons_of_mem _ (List.mem_append_left _ (List.mem_append_left _ (List.mem_append_right _ h)))) (by decide +kernel))) (goodIn_sub (fun _ h => List.mem_cons_of_mem _ (List.mem_append_left _ (List.mem_append_right _ h))) (by decide +kernel))) (goodIn_sub (fun _ h => List.mem_cons_of_mem _ (List.mem_append_right _ h)) (by decide +kernel))
set_option maxRecDepth 20000 in
theorem gL_lock_X6_lock : GoodIn wsL_lock (wsV RL 68 RX6 yX6_lock wsX6_lock) := goodIn_app (goodIn_of _ (by decide +kernel)) ggL_lock_X6_lock
theorem dL_lock_0 : decode cL_lock 0 = .ok (.aload 5, 2) := by decide +kernel
theorem dL_lock_2 : decode cL_lock 2 = .ok (.iconst 0, 1) := by decide +kernel
theorem dL_lock_3 : decode cL_lock 3 = .ok (.aload_n 0, 1) := by decide +kernel
theorem dL_lock_4 : decode cL_lock 4 = .ok (.iload_n 1, 1) := by decide +kernel
theorem dL_lock_5 : decode cL_lock 5 = .ok (.iload_n 2, 1) := by decide +kernel
theorem dL_lock_6 : decode cL_lock 6 = .ok (.iload_n 3, 1) := by decide +kernel
theorem dL_lock_7 : decode cL_lock 7 = .ok (.iload 4, 2) := by decide +kernel
theorem dL_lock_9 : decode cL_lock 9 = .ok (.invokevirtual 68, 3) := by decide +kernel
theorem dL_lock_12 : decode cL_lock 12 = .ok (.i2l, 1) := by decide +kernel
theorem dL_lock_13 : decode cL_lock 13 = .ok (.lastore, 1) := by decide +kernel
theorem dL_lock_14 : decode cL_lock 14 = .ok (.goto 15, 3) := by decide +kernel
theorem dL_lock_17 : decode cL_lock 17 = .ok (.astore 6, 2) := by decide +kernel
theorem dL_lock_19 : decode cL_lock 19 = .ok (.iconst 1, 1) := by decide +kernel
theorem dL_lock_20 : decode cL_lock 20 = .ok (.ireturn, 1) := by decide +kernel
theorem dL_lock_21 : decode cL_lock 21 = .ok (.astore 6, 2) := by decide +kernel
theorem dL_lock_23 : decode cL_lock 23 = .ok (.iconst 2, 1) := by decide +kernel
theorem dL_lock_24 : decode cL_lock 24 = .ok (.ireturn, 1) := by decide +kernel
theorem dL_lock_25 : decode cL_lock 25 = .ok (.astore 6, 2) := by decide +kernel
theorem dL_lock_27 : decode cL_lock 27 = .ok (.iconst 3, 1) := by decide +kernel
theorem dL_lock_28 : decode cL_lock 28 = .ok (.ireturn, 1) := by decide +kernel
theorem dL_lock_29 : decode cL_lock 29 = .ok (.iconst 0, 1) := by decide +kernel
theorem dL_lock_30 : decode cL_lock 30 = .ok (.ireturn, 1) := by decide +kernel
def f_L_lock (U : S2) (g : Nat → Int64) (p1 : Int32) (p2 : Int32) (p3 : Int32) (p4 : Int32) : Option (Int32 × S2 × (Nat → Int64)) := bn (f_X6_lock U p1 p2 p3 p4) (fun z_1 => if z_1.1 = 0 then some (0, z_1.2.2, setL g z_1.2.1.toInt64) else if z_1.1 = 2 then some (1, z_1.2.2, g) else if z_1.1 = 1 then some (2, z_1.2.2, g) else if z_1.1 = 3 then some (3, z_1.2.2, g) else none)
def wsML_lock : List Cond := wsL_lock ++ LK
def rmL_lock : Room := { frames := 10, cells := 7, slots := 42, locals := 182 }
set_option maxHeartbeats 4000000 in
set_option maxRecDepth 100000 in
theorem c_L_lock (l : Launch) (hst : l.stackTraces = false) (D : va_G) (cI cZ cJ cT : ClassId) (a : Nat → Nat → Nat) (b : Nat) (sz : Nat) (U : S2) (g : Nat → Int64) (p1 : Int32) (p2 : Int32) (p3 : Int32) (p4 : Int32) (o : Int32 × S2 × (Nat → Int64)) (hf : f_L_lock U g p1 p2 p3 p4 = some o) : vx_Met l yL_lock wsML_lock rmL_lock (va_Pc [.ref (a 0 0), .int p1, .int p2, .int p3, .int p4, .ref b] (PL D cls (tys cI cZ cJ cT) (wL cI cZ cJ cT a b U g) sz)) (QWi D cls o.1 (wL cI cZ cJ cT a b o.2.1 o.2.2) (va_A (wL cI cZ cJ cT a b U g) sz)) (vx_X (fun (_ : Unit) => False) (fun _ _ _ => True) (va_A (wL cI cZ cJ cT a b U g) sz)) 7 42 (va_A (wL cI cZ cJ cT a b U g) sz) := by
  refine vx_ofWH (cc := cL_lock) (maxL := 7) (ret := (some .int)) (by decide) rfl ?_
  intro p e s m args below meth c s₁ B hml hv
  obtain ⟨hav, ⟨⟨hsz, hP, hK, hD0⟩, hE⟩, hN⟩ := hv
  have hx := B.exec
  have hb := B.bytes
  have hr := B.returns
  have hlocks := B.notSynchronized
  have hts := atoms_spec (ws := wsML_lock) B.pre
  have hown : s.vm.findClass RL = some m.cls := findClass_of_methodNamed B.named
  have htb : c.exceptionTable.toList = [⟨0, 14, 17, 13⟩, ⟨0, 14, 21, 19⟩, ⟨0, 14, 25, 21⟩] := vx_table (x := yL_lock) B (hts _ (List.mem_append_left _ List.mem_cons_self))
  subst hsz
  have hD := hD0.self (sz := s.heap.size)
  generalize hAe : va_A (wL cI cZ cJ cT a b U g) s.heap.size = A at hD hE ⊢
  have hA : ∀ q : Nat, s.heap.size ≤ q → A q := fun q h => by rw [← hAe]; exact Or.inr h
  have hS : va_S A s.heap s.heap [] := va_S.rf
  have hDD : ∀ (V : S2) (k : Nat → Int64), va_D A (wL cI cZ cJ cT a b V k) := fun _ _ => D_same (w := (wL cI cZ cJ cT a b U g)) rfl hD
  refine Wq (fun Q hQ => ?_)
  refine W_entry hav (Nat.le_of_ble_eq_true rfl) (fun ls hl => ?_)
  have hl : lv_has ls 7 [(0, .ref (a 0 0)), (1, .int p1), (2, .int p2), (3, .int p3), (4, .int p4), (5, .ref b)] := hl
  unfold f_L_lock at hf
  refine W_heap hP hS (fun H locs hP hS => ?_)
  refine lv_aload hx hb dL_lock_0 (lv_at hl 5 rfl) ?_
  refine lv_iconst (v := 0) hx hb dL_lock_2 (by decide) ?_
  refine lv_aload_n hx hb dL_lock_3 rfl (lv_at hl 0 rfl) ?_
  refine lv_iload_n hx hb dL_lock_4 rfl (lv_at hl 1 rfl) ?_
  refine lv_iload_n hx hb dL_lock_5 rfl (lv_at hl 2 rfl) ?_
  refine lv_iload_n hx hb dL_lock_6 rfl (lv_at hl 3 rfl) ?_
  refine lv_iload hx hb dL_lock_7 (lv_at hl 4 rfl) ?_
  obtain ⟨z_1, hz_1, hf⟩ := bn_some hf
  refine cYVi (As := [.int p1, .int p2, .int p3, .int p4]) (rest := [.int 0, .ref b]) ⟨hx, hb, hml, hown, hts⟩ (c_X6_lock l hst D cI cZ cJ cT a H.size U p1 p2 p3 p4 z_1 hz_1) (cwV 4 hts (gM_sub gL_lock_X6_lock) rfl rfl rfl (by decide +kernel) ⟨Nat.le_of_ble_eq_true rfl, Nat.le_of_ble_eq_true rfl⟩) (fl_sub hP 0 rfl) hK (fl_subD (hDD U g) 0 rfl) hE hS (fl_free (hDD U g) hS hA 0 rfl) (va_recv hK (fl_sub (fl_sub hP 0 rfl) 0 rfl) (ci := 6) (q0 := 0) rfl rfl) rfl rfl hl.1 (Nat.le_of_ble_eq_true rfl) dL_lock_9 ⟨Nat.le_of_ble_eq_true rfl, Nat.le_of_ble_eq_true rfl⟩ (fun E ce q9 H1 locs k_2 hE9 hP1 hk1 hS hce hcv hcl => ?_) (fun H1 locs k_2 hP1 hk1 hS => ?_)
  · have hf := ite_f hf k_2
    have hP : va_P D cls (wL cI cZ cJ cT a b z_1.2.2 g) H1 := fl_join hP (hDD U g) 0 rfl hk1 hP1
    clear hP1 hk1
    generalize H1 = H at hP hS hce ⊢
    by_cases e_3 : z_1.1 = 2
    · have hf := ite_t hf e_3
      have hE8 : E = "java/lang/IndexOutOfBoundsException" := by rw [hE9, e_3]; rfl
      subst hE8
      refine vx_catch hown [] ⟨0, 14, 17, 13⟩ [⟨0, 14, 21, 19⟩, ⟨0, 14, 25, 21⟩] htb (fun z hz => absurd hz List.not_mem_nil) (by decide) (by decide) (hts (.classLink RL 13 "java/lang/IndexOutOfBoundsException") (List.mem_append_right _ (by decide +kernel))) (EX_bad hE (by decide +kernel)) hce hcv hcl ?_
      refine lv_astore (lv' := [(6, .ref q9), (0, .ref (a 0 0)), (1, .int p1), (2, .int p2), (3, .int p3), (4, .int p4), (5, .ref b)]) hx hb dL_lock_17 hl (by decide) rfl (fun ls hl => ?_)
      refine lv_iconst (v := 1) hx hb dL_lock_19 (by decide) ?_
      have eo := Option.some.inj hf
      have hP : va_P D cls (wL cI cZ cJ cT a b o.2.1 o.2.2) H := by rw [← eo]; exact hP
      rw [hQ]
      refine W.widen (k := 7) (n := 42) (Nat.le_of_ble_eq_true rfl) (Nat.le_of_ble_eq_true rfl) ?_
      exact vx_ret (W.iret hx hb hr (fun t ht hW => ⟨⟨_, (), rfl, (by rw [← eo]), P_at ht hP⟩, hS.F ht⟩) hS.2.2 dL_lock_20 hlocks)
    have hf := ite_f hf e_3
    by_cases e_4 : z_1.1 = 1
    · have hf := ite_t hf e_4
      have hE8 : E = "java/lang/IllegalArgumentException" := by rw [hE9, e_4]; rfl
      subst hE8
      refine vx_catch hown [⟨0, 14, 17, 13⟩] ⟨0, 14, 21, 19⟩ [⟨0, 14, 25, 21⟩] htb (List.forall_mem_cons.mpr ⟨Or.inr ⟨by decide, "java/lang/IndexOutOfBoundsException", hts (.classLink RL 13 "java/lang/IndexOutOfBoundsException") (List.mem_append_right _ (by decide +kernel)), hN 1 2 (by decide) (by decide) (by decide)⟩, fun z hz => absurd hz List.not_mem_nil⟩) (by decide) (by decide) (hts (.classLink RL 19 "java/lang/IllegalArgumentException") (List.mem_append_right _ (by decide +kernel))) (EX_bad hE (by decide +kernel)) hce hcv hcl ?_
      refine lv_astore (lv' := [(6, .ref q9), (0, .ref (a 0 0)), (1, .int p1), (2, .int p2), (3, .int p3), (4, .int p4), (5, .ref b)]) hx hb dL_lock_21 hl (by decide) rfl (fun ls hl => ?_)
      refine lv_iconst (v := 2) hx hb dL_lock_23 (by decide) ?_
      have eo := Option.some.inj hf
      have hP : va_P D cls (wL cI cZ cJ cT a b o.2.1 o.2.2) H := by rw [← eo]; exact hP
      rw [hQ]
      refine W.widen (k := 7) (n := 42) (Nat.le_of_ble_eq_true rfl) (Nat.le_of_ble_eq_true rfl) ?_
      exact vx_ret (W.iret hx hb hr (fun t ht hW => ⟨⟨_, (), rfl, (by rw [← eo]), P_at ht hP⟩, hS.F ht⟩) hS.2.2 dL_lock_24 hlocks)
    have hf := ite_f hf e_4
    by_cases e_5 : z_1.1 = 3
    · have hf := ite_t hf e_5
      have hE8 : E = "java/lang/IllegalStateException" := by rw [hE9, e_5]; rfl
      subst hE8
      refine vx_catch hown [⟨0, 14, 17, 13⟩, ⟨0, 14, 21, 19⟩] ⟨0, 14, 25, 21⟩ [] htb (List.forall_mem_cons.mpr ⟨Or.inr ⟨by decide, "java/lang/IndexOutOfBoundsException", hts (.classLink RL 13 "java/lang/IndexOutOfBoundsException") (List.mem_append_right _ (by decide +kernel)), hN 3 2 (by decide) (by decide) (by decide)⟩, List.forall_mem_cons.mpr ⟨Or.inr ⟨by decide, "java/lang/IllegalArgumentException", hts (.classLink RL 19 "java/lang/IllegalArgumentException") (List.mem_append_right _ (by decide +kernel)), hN 3 1 (by decide) (by decide) (by decide)⟩, fun z hz => absurd hz List.not_mem_nil⟩⟩) (by decide) (by decide) (hts (.classLink RL 21 "java/lang/IllegalStateException") (List.mem_append_right _ (by decide +kernel))) (EX_bad hE (by decide +kernel)) hce hcv hcl ?_
      refine lv_astore (lv' := [(6, .ref q9), (0, .ref (a 0 0)), (1, .int p1), (2, .int p2), (3, .int p3), (4, .int p4), (5, .ref b)]) hx hb dL_lock_25 hl (by decide) rfl (fun ls hl => ?_)
      refine lv_iconst (v := 3) hx hb dL_lock_27 (by decide) ?_
      have eo := Option.some.inj hf
      have hP : va_P D cls (wL cI cZ cJ cT a b o.2.1 o.2.2) H := by rw [← eo]; exact hP
      rw [hQ]
      refine W.widen (k := 7) (n := 42) (Nat.le_of_ble_eq_true rfl) (Nat.le_of_ble_eq_true rfl) ?_
      exact vx_ret (W.iret hx hb hr (fun t ht hW => ⟨⟨_, (), rfl, (by rw [← eo]), P_at ht hP⟩, hS.F ht⟩) hS.2.2 dL_lock_28 hlocks)
    have hf := ite_f hf e_5
    exact nomatch hf
  have hf := ite_t hf k_2
  have hP : va_P D cls (wL cI cZ cJ cT a b z_1.2.2 g) H1 := fl_join hP (hDD U g) 0 rfl hk1 hP1
  clear hP1 hk1
  generalize H1 = H at hP hS ⊢
  refine lv_i2l (v := z_1.2.1.toInt64) hx hb dL_lock_12 rfl ?_
  refine va_last hx hb hK hP (hDD z_1.2.2 g) hS 86 2 rfl rfl (inb_in (i := 0) (n := 1) (by decide)) dL_lock_13 (fun H locs hP _ hS => ?_)
  have hP : va_P D cls (wL cI cZ cJ cT a b z_1.2.2 (setL g z_1.2.1.toInt64)) H := hP
  refine lv_goto (tgt := 29) hx hb dL_lock_14 (by decide) ?_
  refine lv_iconst (v := 0) hx hb dL_lock_29 (by decide) ?_
  have eo := Option.some.inj hf
  have hP : va_P D cls (wL cI cZ cJ cT a b o.2.1 o.2.2) H := by rw [← eo]; exact hP
  rw [hQ]
  refine W.widen (k := 7) (n := 42) (Nat.le_of_ble_eq_true rfl) (Nat.le_of_ble_eq_true rfl) ?_
  exact vx_ret (W.iret hx hb hr (fun t ht hW => ⟨⟨_, (), rfl, (by rw [← eo]), P_at ht hP⟩, hS.F ht⟩) hS.2.2 dL_lock_30 hlocks)
set_option maxRecDepth 20000 in
theorem ggL_unlock_X6_unlock : GoodIn wsL_unlock wsX6_unlock := goodIn_ca (goodIn_ca (goodIn_ca (goodIn_r _ [6, 7, 8, 9, 10, 5, 11, 12, 13, 14, 15, 16, 17, 18, 19, 20, 21, 22, 23, 24, 25, 26, 27, 28, 29, 30, 31, 32, 33, 34, 35, 36, 37, 38, 39, 40, 41, 42, 43, 44, 45, 46, 47, 48, 49, 50, 51, 52, 53, 54, 55, 56, 57, 58, 59, 60, 61, 62, 63, 64, 65, 66, 67, 68, 69, 70, 71, 72, 73] (by decide +kernel) (by decide +kernel)) (goodIn_sub (fun _ h => List.mem_cons_of_mem _ (List.mem_append_left _ (List.mem_append_left _ (List.mem_append_right _ h)))) (by decide +kernel))) (goodIn_sub (fun _ h => List.mem_cons_of_mem _ (List.mem_append_left _ (List.mem_append_right _ h))) (by decide +kernel))) (goodIn_sub (fun _ h => List.mem_cons_of_mem _ (List.mem_append_right _ h)) (by decide +kernel))
set_option maxRecDepth 20000 in
theorem gL_unlock_X6_unlock : GoodIn wsL_unlock (wsV RL 72 RX6 yX6_unlock wsX6_unlock) := goodIn_app (goodIn_of _ (by decide +kernel)) ggL_unlock_X6_unlock
theorem dL_unlock_0 : decode cL_unlock 0 = .ok (.aload 4, 2) := by decide +kernel
theorem dL_unlock_2 : decode cL_unlock 2 = .ok (.iconst 0, 1) := by decide +kernel
theorem dL_unlock_3 : decode cL_unlock 3 = .ok (.aload_n 0, 1) := by decide +kernel
theorem dL_unlock_4 : decode cL_unlock 4 = .ok (.iload_n 1, 1) := by decide +kernel
theorem dL_unlock_5 : decode cL_unlock 5 = .ok (.iload_n 2, 1) := by decide +kernel
theorem dL_unlock_6 : decode cL_unlock 6 = .ok (.iload_n 3, 1) := by decide +kernel
theorem dL_unlock_7 : decode cL_unlock 7 = .ok (.invokevirtual 72, 3) := by decide +kernel
theorem dL_unlock_10 : decode cL_unlock 10 = .ok (.i2l, 1) := by decide +kernel
theorem dL_unlock_11 : decode cL_unlock 11 = .ok (.lastore, 1) := by decide +kernel
theorem dL_unlock_12 : decode cL_unlock 12 = .ok (.goto 15, 3) := by decide +kernel
theorem dL_unlock_15 : decode cL_unlock 15 = .ok (.astore 5, 2) := by decide +kernel
theorem dL_unlock_17 : decode cL_unlock 17 = .ok (.iconst 1, 1) := by decide +kernel
theorem dL_unlock_18 : decode cL_unlock 18 = .ok (.ireturn, 1) := by decide +kernel
theorem dL_unlock_19 : decode cL_unlock 19 = .ok (.astore 5, 2) := by decide +kernel
theorem dL_unlock_21 : decode cL_unlock 21 = .ok (.iconst 2, 1) := by decide +kernel
theorem dL_unlock_22 : decode cL_unlock 22 = .ok (.ireturn, 1) := by decide +kernel
theorem dL_unlock_23 : decode cL_unlock 23 = .ok (.astore 5, 2) := by decide +kernel
theorem dL_unlock_25 : decode cL_unlock 25 = .ok (.iconst 3, 1) := by decide +kernel
theorem dL_unlock_26 : decode cL_unlock 26 = .ok (.ireturn, 1) := by decide +kernel
theorem dL_unlock_27 : decode cL_unlock 27 = .ok (.iconst 0, 1) := by decide +kernel
theorem dL_unlock_28 : decode cL_unlock 28 = .ok (.ireturn, 1) := by decide +kernel
def f_L_unlock (U : S2) (g : Nat → Int64) (p1 : Int32) (p2 : Int32) (p3 : Int32) : Option (Int32 × S2 × (Nat → Int64)) := bn (f_X6_unlock U p1 p2 p3) (fun z_1 => if z_1.1 = 0 then some (0, z_1.2.2, setL g z_1.2.1.toInt64) else if z_1.1 = 2 then some (1, z_1.2.2, g) else if z_1.1 = 1 then some (2, z_1.2.2, g) else if z_1.1 = 3 then some (3, z_1.2.2, g) else none)
def wsML_unlock : List Cond := wsL_unlock ++ LK
def rmL_unlock : Room := { frames := 10, cells := 6, slots := 36, locals := 180 }
set_option maxHeartbeats 4000000 in
set_option maxRecDepth 100000 in
theorem c_L_unlock (l : Launch) (hst : l.stackTraces = false) (D : va_G) (cI cZ cJ cT : ClassId) (a : Nat → Nat → Nat) (b : Nat) (sz : Nat) (U : S2) (g : Nat → Int64) (p1 : Int32) (p2 : Int32) (p3 : Int32) (o : Int32 × S2 × (Nat → Int64)) (hf : f_L_unlock U g p1 p2 p3 = some o) : vx_Met l yL_unlock wsML_unlock rmL_unlock (va_Pc [.ref (a 0 0), .int p1, .int p2, .int p3, .ref b] (PL D cls (tys cI cZ cJ cT) (wL cI cZ cJ cT a b U g) sz)) (QWi D cls o.1 (wL cI cZ cJ cT a b o.2.1 o.2.2) (va_A (wL cI cZ cJ cT a b U g) sz)) (vx_X (fun (_ : Unit) => False) (fun _ _ _ => True) (va_A (wL cI cZ cJ cT a b U g) sz)) 6 36 (va_A (wL cI cZ cJ cT a b U g) sz) := by
  refine vx_ofWH (cc := cL_unlock) (maxL := 6) (ret := (some .int)) (by decide) rfl ?_
  intro p e s m args below meth c s₁ B hml hv
  obtain ⟨hav, ⟨⟨hsz, hP, hK, hD0⟩, hE⟩, hN⟩ := hv
  have hx := B.exec
  have hb := B.bytes
  have hr := B.returns
  have hlocks := B.notSynchronized
  have hts := atoms_spec (ws := wsML_unlock) B.pre
  have hown : s.vm.findClass RL = some m.cls := findClass_of_methodNamed B.named
  have htb : c.exceptionTable.toList = [⟨0, 12, 15, 13⟩, ⟨0, 12, 19, 19⟩, ⟨0, 12, 23, 21⟩] := vx_table (x := yL_unlock) B (hts _ (List.mem_append_left _ List.mem_cons_self))
  subst hsz
  have hD := hD0.self (sz := s.heap.size)
  generalize hAe : va_A (wL cI cZ cJ cT a b U g) s.heap.size = A at hD hE ⊢
  have hA : ∀ q : Nat, s.heap.size ≤ q → A q := fun q h => by rw [← hAe]; exact Or.inr h
  have hS : va_S A s.heap s.heap [] := va_S.rf
  have hDD : ∀ (V : S2) (k : Nat → Int64), va_D A (wL cI cZ cJ cT a b V k) := fun _ _ => D_same (w := (wL cI cZ cJ cT a b U g)) rfl hD
  refine Wq (fun Q hQ => ?_)
  refine W_entry hav (Nat.le_of_ble_eq_true rfl) (fun ls hl => ?_)
  have hl : lv_has ls 6 [(0, .ref (a 0 0)), (1, .int p1), (2, .int p2), (3, .int p3), (4, .ref b)] := hl
  unfold f_L_unlock at hf
  refine W_heap hP hS (fun H locs hP hS => ?_)
  refine lv_aload hx hb dL_unlock_0 (lv_at hl 4 rfl) ?_
  refine lv_iconst (v := 0) hx hb dL_unlock_2 (by decide) ?_
  refine lv_aload_n hx hb dL_unlock_3 rfl (lv_at hl 0 rfl) ?_
  refine lv_iload_n hx hb dL_unlock_4 rfl (lv_at hl 1 rfl) ?_
  refine lv_iload_n hx hb dL_unlock_5 rfl (lv_at hl 2 rfl) ?_
  refine lv_iload_n hx hb dL_unlock_6 rfl (lv_at hl 3 rfl) ?_
  obtain ⟨z_1, hz_1, hf⟩ := bn_some hf
  refine cYVi (As := [.int p1, .int p2, .int p3]) (rest := [.int 0, .ref b]) ⟨hx, hb, hml, hown, hts⟩ (c_X6_unlock l hst D cI cZ cJ cT a H.size U p1 p2 p3 z_1 hz_1) (cwV 3 hts (gM_sub gL_unlock_X6_unlock) rfl rfl rfl (by decide +kernel) ⟨Nat.le_of_ble_eq_true rfl, Nat.le_of_ble_eq_true rfl⟩) (fl_sub hP 0 rfl) hK (fl_subD (hDD U g) 0 rfl) hE hS (fl_free (hDD U g) hS hA 0 rfl) (va_recv hK (fl_sub (fl_sub hP 0 rfl) 0 rfl) (ci := 6) (q0 := 0) rfl rfl) rfl rfl hl.1 (Nat.le_of_ble_eq_true rfl) dL_unlock_7 ⟨Nat.le_of_ble_eq_true rfl, Nat.le_of_ble_eq_true rfl⟩ (fun E ce q9 H1 locs k_2 hE9 hP1 hk1 hS hce hcv hcl => ?_) (fun H1 locs k_2 hP1 hk1 hS => ?_)
  · have hf := ite_f hf k_2
    have hP : va_P D cls (wL cI cZ cJ cT a b z_1.2.2 g) H1 := fl_join hP (hDD U g) 0 rfl hk1 hP1
    clear hP1 hk1
    generalize H1 = H at hP hS hce ⊢
    by_cases e_3 : z_1.1 = 2
    · have hf := ite_t hf e_3
      have hE8 : E = "java/lang/IndexOutOfBoundsException" := by rw [hE9, e_3]; rfl
      subst hE8
      refine vx_catch hown [] ⟨0, 12, 15, 13⟩ [⟨0, 12, 19, 19⟩, ⟨0, 12, 23, 21⟩] htb (fun z hz => absurd hz List.not_mem_nil) (by decide) (by decide) (hts (.classLink RL 13 "java/lang/IndexOutOfBoundsException") (List.mem_append_right _ (by decide +kernel))) (EX_bad hE (by decide +kernel)) hce hcv hcl ?_
      refine lv_astore (lv' := [(5, .ref q9), (0, .ref (a 0 0)), (1, .int p1), (2, .int p2), (3, .int p3), (4, .ref b)]) hx hb dL_unlock_15 hl (by decide) rfl (fun ls hl => ?_)
      refine lv_iconst (v := 1) hx hb dL_unlock_17 (by decide) ?_
      have eo := Option.some.inj hf
      have hP : va_P D cls (wL cI cZ cJ cT a b o.2.1 o.2.2) H := by rw [← eo]; exact hP
      rw [hQ]
      refine W.widen (k := 6) (n := 36) (Nat.le_of_ble_eq_true rfl) (Nat.le_of_ble_eq_true rfl) ?_
      exact vx_ret (W.iret hx hb hr (fun t ht hW => ⟨⟨_, (), rfl, (by rw [← eo]), P_at ht hP⟩, hS.F ht⟩) hS.2.2 dL_unlock_18 hlocks)
    have hf := ite_f hf e_3
    by_cases e_4 : z_1.1 = 1
    · have hf := ite_t hf e_4
      have hE8 : E = "java/lang/IllegalArgumentException" := by rw [hE9, e_4]; rfl
      subst hE8
      refine vx_catch hown [⟨0, 12, 15, 13⟩] ⟨0, 12, 19, 19⟩ [⟨0, 12, 23, 21⟩] htb (List.forall_mem_cons.mpr ⟨Or.inr ⟨by decide, "java/lang/IndexOutOfBoundsException", hts (.classLink RL 13 "java/lang/IndexOutOfBoundsException") (List.mem_append_right _ (by decide +kernel)), hN 1 2 (by decide) (by decide) (by decide)⟩, fun z hz => absurd hz List.not_mem_nil⟩) (by decide) (by decide) (hts (.classLink RL 19 "java/lang/IllegalArgumentException") (List.mem_append_right _ (by decide +kernel))) (EX_bad hE (by decide +kernel)) hce hcv hcl ?_
      refine lv_astore (lv' := [(5, .ref q9), (0, .ref (a 0 0)), (1, .int p1), (2, .int p2), (3, .int p3), (4, .ref b)]) hx hb dL_unlock_19 hl (by decide) rfl (fun ls hl => ?_)
      refine lv_iconst (v := 2) hx hb dL_unlock_21 (by decide) ?_
      have eo := Option.some.inj hf
      have hP : va_P D cls (wL cI cZ cJ cT a b o.2.1 o.2.2) H := by rw [← eo]; exact hP
      rw [hQ]
      refine W.widen (k := 6) (n := 36) (Nat.le_of_ble_eq_true rfl) (Nat.le_of_ble_eq_true rfl) ?_
      exact vx_ret (W.iret hx hb hr (fun t ht hW => ⟨⟨_, (), rfl, (by rw [← eo]), P_at ht hP⟩, hS.F ht⟩) hS.2.2 dL_unlock_22 hlocks)
    have hf := ite_f hf e_4
    by_cases e_5 : z_1.1 = 3
    · have hf := ite_t hf e_5
      have hE8 : E = "java/lang/IllegalStateException" := by rw [hE9, e_5]; rfl
      subst hE8
      refine vx_catch hown [⟨0, 12, 15, 13⟩, ⟨0, 12, 19, 19⟩] ⟨0, 12, 23, 21⟩ [] htb (List.forall_mem_cons.mpr ⟨Or.inr ⟨by decide, "java/lang/IndexOutOfBoundsException", hts (.classLink RL 13 "java/lang/IndexOutOfBoundsException") (List.mem_append_right _ (by decide +kernel)), hN 3 2 (by decide) (by decide) (by decide)⟩, List.forall_mem_cons.mpr ⟨Or.inr ⟨by decide, "java/lang/IllegalArgumentException", hts (.classLink RL 19 "java/lang/IllegalArgumentException") (List.mem_append_right _ (by decide +kernel)), hN 3 1 (by decide) (by decide) (by decide)⟩, fun z hz => absurd hz List.not_mem_nil⟩⟩) (by decide) (by decide) (hts (.classLink RL 21 "java/lang/IllegalStateException") (List.mem_append_right _ (by decide +kernel))) (EX_bad hE (by decide +kernel)) hce hcv hcl ?_
      refine lv_astore (lv' := [(5, .ref q9), (0, .ref (a 0 0)), (1, .int p1), (2, .int p2), (3, .int p3), (4, .ref b)]) hx hb dL_unlock_23 hl (by decide) rfl (fun ls hl => ?_)
      refine lv_iconst (v := 3) hx hb dL_unlock_25 (by decide) ?_
      have eo := Option.some.inj hf
      have hP : va_P D cls (wL cI cZ cJ cT a b o.2.1 o.2.2) H := by rw [← eo]; exact hP
      rw [hQ]
      refine W.widen (k := 6) (n := 36) (Nat.le_of_ble_eq_true rfl) (Nat.le_of_ble_eq_true rfl) ?_
      exact vx_ret (W.iret hx hb hr (fun t ht hW => ⟨⟨_, (), rfl, (by rw [← eo]), P_at ht hP⟩, hS.F ht⟩) hS.2.2 dL_unlock_26 hlocks)
    have hf := ite_f hf e_5
    exact nomatch hf
  have hf := ite_t hf k_2
  have hP : va_P D cls (wL cI cZ cJ cT a b z_1.2.2 g) H1 := fl_join hP (hDD U g) 0 rfl hk1 hP1
  clear hP1 hk1
  generalize H1 = H at hP hS ⊢
  refine lv_i2l (v := z_1.2.1.toInt64) hx hb dL_unlock_10 rfl ?_
  refine va_last hx hb hK hP (hDD z_1.2.2 g) hS 86 2 rfl rfl (inb_in (i := 0) (n := 1) (by decide)) dL_unlock_11 (fun H locs hP _ hS => ?_)
  have hP : va_P D cls (wL cI cZ cJ cT a b z_1.2.2 (setL g z_1.2.1.toInt64)) H := hP
  refine lv_goto (tgt := 27) hx hb dL_unlock_12 (by decide) ?_
  refine lv_iconst (v := 0) hx hb dL_unlock_27 (by decide) ?_
  have eo := Option.some.inj hf
  have hP : va_P D cls (wL cI cZ cJ cT a b o.2.1 o.2.2) H := by rw [← eo]; exact hP
  rw [hQ]
  refine W.widen (k := 6) (n := 36) (Nat.le_of_ble_eq_true rfl) (Nat.le_of_ble_eq_true rfl) ?_
  exact vx_ret (W.iret hx hb hr (fun t ht hW => ⟨⟨_, (), rfl, (by rw [← eo]), P_at ht hP⟩, hS.F ht⟩) hS.2.2 dL_unlock_28 hlocks)
