set_option maxRecDepth 20000 in
theorem ggL_lockOf_X6_lockOf : GoodIn wsL_lockOf wsX6_lockOf := goodIn_ca (goodIn_r _ [6, 7, 8, 9, 10, 5, 11, 12, 13, 14, 15, 16, 17, 18, 19, 20, 21, 22, 23, 24, 25, 26, 27, 28, 29, 30, 31, 32, 33, 34, 35, 36, 37, 38, 39, 40, 41, 42, 43, 44, 45, 46, 47, 48] (by decide +kernel) (by decide +kernel)) (goodIn_sub (fun _ h => List.mem_cons_of_mem _ (List.mem_append_right _ h)) (by decide +kernel))
set_option maxRecDepth 20000 in
theorem gL_lockOf_X6_lockOf : GoodIn wsL_lockOf (wsV RL 75 RX6 yX6_lockOf wsX6_lockOf) := goodIn_app (goodIn_of _ (by decide +kernel)) ggL_lockOf_X6_lockOf
theorem dL_lockOf_0 : decode cL_lockOf 0 = .ok (.aload_n 3, 1) := by decide +kernel
theorem dL_lockOf_1 : decode cL_lockOf 1 = .ok (.iconst 0, 1) := by decide +kernel
theorem dL_lockOf_2 : decode cL_lockOf 2 = .ok (.aload_n 0, 1) := by decide +kernel
theorem dL_lockOf_3 : decode cL_lockOf 3 = .ok (.iload_n 1, 1) := by decide +kernel
theorem dL_lockOf_4 : decode cL_lockOf 4 = .ok (.iload_n 2, 1) := by decide +kernel
theorem dL_lockOf_5 : decode cL_lockOf 5 = .ok (.invokevirtual 75, 3) := by decide +kernel
theorem dL_lockOf_8 : decode cL_lockOf 8 = .ok (.i2l, 1) := by decide +kernel
theorem dL_lockOf_9 : decode cL_lockOf 9 = .ok (.lastore, 1) := by decide +kernel
theorem dL_lockOf_10 : decode cL_lockOf 10 = .ok (.goto 7, 3) := by decide +kernel
theorem dL_lockOf_13 : decode cL_lockOf 13 = .ok (.astore 4, 2) := by decide +kernel
theorem dL_lockOf_15 : decode cL_lockOf 15 = .ok (.iconst 1, 1) := by decide +kernel
theorem dL_lockOf_16 : decode cL_lockOf 16 = .ok (.ireturn, 1) := by decide +kernel
theorem dL_lockOf_17 : decode cL_lockOf 17 = .ok (.iconst 0, 1) := by decide +kernel
theorem dL_lockOf_18 : decode cL_lockOf 18 = .ok (.ireturn, 1) := by decide +kernel
def f_L_lockOf (U : S2) (g : Nat → Int64) (p1 : Int32) (p2 : Int32) : Option (Int32 × S2 × (Nat → Int64)) := bn (f_X6_lockOf U p1 p2) (fun z_1 => if z_1.1 = 0 then some (0, z_1.2.2, setL g z_1.2.1.toInt64) else if z_1.1 = 2 then some (1, z_1.2.2, g) else none)
def wsML_lockOf : List Cond := wsL_lockOf ++ LK
def rmL_lockOf : Room := { frames := 9, cells := 2, slots := 12, locals := 155 }
set_option maxHeartbeats 4000000 in
set_option maxRecDepth 100000 in
theorem c_L_lockOf (l : Launch) (hst : l.stackTraces = false) (D : va_G) (cI cZ cJ cT : ClassId) (a : Nat → Nat → Nat) (b : Nat) (sz : Nat) (U : S2) (g : Nat → Int64) (p1 : Int32) (p2 : Int32) (o : Int32 × S2 × (Nat → Int64)) (hf : f_L_lockOf U g p1 p2 = some o) : vx_Met l yL_lockOf wsML_lockOf rmL_lockOf (va_Pc [.ref (a 0 0), .int p1, .int p2, .ref b] (PL D cls (tys cI cZ cJ cT) (wL cI cZ cJ cT a b U g) sz)) (QWi D cls o.1 (wL cI cZ cJ cT a b o.2.1 o.2.2) (va_A (wL cI cZ cJ cT a b U g) sz)) (vx_X (fun (_ : Unit) => False) (fun _ _ _ => True) (va_A (wL cI cZ cJ cT a b U g) sz)) 2 12 (va_A (wL cI cZ cJ cT a b U g) sz) := by
  refine vx_ofWH (cc := cL_lockOf) (maxL := 5) (ret := (some .int)) (by decide) rfl ?_
  intro p e s m args below meth c s₁ B hml hv
  obtain ⟨hav, ⟨⟨hsz, hP, hK, hD0⟩, hE⟩, hN⟩ := hv
  have hx := B.exec
  have hb := B.bytes
  have hr := B.returns
  have hlocks := B.notSynchronized
  have hts := atoms_spec (ws := wsML_lockOf) B.pre
  have hown : s.vm.findClass RL = some m.cls := findClass_of_methodNamed B.named
  have htb : c.exceptionTable.toList = [⟨0, 10, 13, 13⟩] := vx_table (x := yL_lockOf) B (hts _ (List.mem_append_left _ List.mem_cons_self))
  subst hsz
  have hD := hD0.self (sz := s.heap.size)
  generalize hAe : va_A (wL cI cZ cJ cT a b U g) s.heap.size = A at hD hE ⊢
  have hA : ∀ q : Nat, s.heap.size ≤ q → A q := fun q h => by rw [← hAe]; exact Or.inr h
  have hS : va_S A s.heap s.heap [] := va_S.rf
  have hDD : ∀ (V : S2) (k : Nat → Int64), va_D A (wL cI cZ cJ cT a b V k) := fun _ _ => D_same (w := (wL cI cZ cJ cT a b U g)) rfl hD
  refine Wq (fun Q hQ => ?_)
  refine W_entry hav (Nat.le_of_ble_eq_true rfl) (fun ls hl => ?_)
  have hl : lv_has ls 5 [(0, .ref (a 0 0)), (1, .int p1), (2, .int p2), (3, .ref b)] := hl
  unfold f_L_lockOf at hf
  refine W_heap hP hS (fun H locs hP hS => ?_)
  refine lv_aload_n hx hb dL_lockOf_0 rfl (lv_at hl 3 rfl) ?_
  refine lv_iconst (v := 0) hx hb dL_lockOf_1 (by decide) ?_
  refine lv_aload_n hx hb dL_lockOf_2 rfl (lv_at hl 0 rfl) ?_
  refine lv_iload_n hx hb dL_lockOf_3 rfl (lv_at hl 1 rfl) ?_
  refine lv_iload_n hx hb dL_lockOf_4 rfl (lv_at hl 2 rfl) ?_
  obtain ⟨z_1, hz_1, hf⟩ := bn_some hf
  refine cYVi (As := [.int p1, .int p2]) (rest := [.int 0, .ref b]) ⟨hx, hb, hml, hown, hts⟩ (c_X6_lockOf l hst D cI cZ cJ cT a H.size U p1 p2 z_1 hz_1) (cwV 2 hts (gM_sub gL_lockOf_X6_lockOf) rfl rfl rfl (by decide +kernel) ⟨Nat.le_of_ble_eq_true rfl, Nat.le_of_ble_eq_true rfl⟩) (fl_sub hP 0 rfl) hK (fl_subD (hDD U g) 0 rfl) hE hS (fl_free (hDD U g) hS hA 0 rfl) (va_recv hK (fl_sub (fl_sub hP 0 rfl) 0 rfl) (ci := 6) (q0 := 0) rfl rfl) rfl rfl hl.1 (Nat.le_of_ble_eq_true rfl) dL_lockOf_5 ⟨Nat.le_of_ble_eq_true rfl, Nat.le_of_ble_eq_true rfl⟩ (fun E ce q9 H1 locs k_2 hE9 hP1 hk1 hS hce hcv hcl => ?_) (fun H1 locs k_2 hP1 hk1 hS => ?_)
  · have hf := ite_f hf k_2
    have hP : va_P D cls (wL cI cZ cJ cT a b z_1.2.2 g) H1 := fl_join hP (hDD U g) 0 rfl hk1 hP1
    clear hP1 hk1
    generalize H1 = H at hP hS hce ⊢
    by_cases e_3 : z_1.1 = 2
    · have hf := ite_t hf e_3
      have hE8 : E = "java/lang/IndexOutOfBoundsException" := by rw [hE9, e_3]; rfl
      subst hE8
      refine vx_catch hown [] ⟨0, 10, 13, 13⟩ [] htb (fun z hz => absurd hz List.not_mem_nil) (by decide) (by decide) (hts (.classLink RL 13 "java/lang/IndexOutOfBoundsException") (List.mem_append_right _ (by decide +kernel))) (EX_bad hE (by decide +kernel)) hce hcv hcl ?_
      refine lv_astore (lv' := [(4, .ref q9), (0, .ref (a 0 0)), (1, .int p1), (2, .int p2), (3, .ref b)]) hx hb dL_lockOf_13 hl (by decide) rfl (fun ls hl => ?_)
      refine lv_iconst (v := 1) hx hb dL_lockOf_15 (by decide) ?_
      have eo := Option.some.inj hf
      have hP : va_P D cls (wL cI cZ cJ cT a b o.2.1 o.2.2) H := by rw [← eo]; exact hP
      rw [hQ]
      refine W.widen (k := 2) (n := 12) (Nat.le_of_ble_eq_true rfl) (Nat.le_of_ble_eq_true rfl) ?_
      exact vx_ret (W.iret hx hb hr (fun t ht hW => ⟨⟨_, (), rfl, (by rw [← eo]), P_at ht hP⟩, hS.F ht⟩) hS.2.2 dL_lockOf_16 hlocks)
    have hf := ite_f hf e_3
    exact nomatch hf
  have hf := ite_t hf k_2
  have hP : va_P D cls (wL cI cZ cJ cT a b z_1.2.2 g) H1 := fl_join hP (hDD U g) 0 rfl hk1 hP1
  clear hP1 hk1
  generalize H1 = H at hP hS ⊢
  refine lv_i2l (v := z_1.2.1.toInt64) hx hb dL_lockOf_8 rfl ?_
  refine va_last hx hb hK hP (hDD z_1.2.2 g) hS 86 2 rfl rfl (inb_in (i := 0) (n := 1) (by decide)) dL_lockOf_9 (fun H locs hP _ hS => ?_)
  have hP : va_P D cls (wL cI cZ cJ cT a b z_1.2.2 (setL g z_1.2.1.toInt64)) H := hP
  refine lv_goto (tgt := 17) hx hb dL_lockOf_10 (by decide) ?_
  refine lv_iconst (v := 0) hx hb dL_lockOf_17 (by decide) ?_
  have eo := Option.some.inj hf
  have hP : va_P D cls (wL cI cZ cJ cT a b o.2.1 o.2.2) H := by rw [← eo]; exact hP
  rw [hQ]
  refine W.widen (k := 2) (n := 12) (Nat.le_of_ble_eq_true rfl) (Nat.le_of_ble_eq_true rfl) ?_
  exact vx_ret (W.iret hx hb hr (fun t ht hW => ⟨⟨_, (), rfl, (by rw [← eo]), P_at ht hP⟩, hS.F ht⟩) hS.2.2 dL_lockOf_18 hlocks)
set_option maxRecDepth 20000 in
theorem ggL_flush_X6_flush : GoodIn wsL_flush wsX6_flush := goodIn_ca (goodIn_r _ [6, 7, 8, 9, 10, 11, 5, 12, 13, 14, 15, 16, 17, 18, 19, 20, 21, 22, 23, 24, 25, 26, 27, 28, 29, 30, 31, 32, 33, 34, 35, 36, 37, 38, 39, 40, 41, 42, 43, 44, 45, 46, 47, 48, 49, 50, 51, 52, 53, 54, 55, 56, 57, 58, 59, 60, 61, 62, 63, 64, 65, 66, 67, 68, 69, 70, 71, 72, 73, 74, 75, 76, 77, 78, 79, 80, 81, 82, 83, 84, 85, 86, 87, 88, 89, 90, 91, 92, 93, 94, 95, 96, 97] (by decide +kernel) (by decide +kernel)) (goodIn_sub (fun _ h => List.mem_cons_of_mem _ (List.mem_append_right _ h)) (by decide +kernel))
set_option maxRecDepth 20000 in
theorem gL_flush_X6_flush : GoodIn wsL_flush (wsV RL 78 RX6 yX6_flush wsX6_flush) := goodIn_app (goodIn_of _ (by decide +kernel)) ggL_flush_X6_flush
theorem dL_flush_0 : decode cL_flush 0 = .ok (.aload_n 2, 1) := by decide +kernel
theorem dL_flush_1 : decode cL_flush 1 = .ok (.iconst 0, 1) := by decide +kernel
theorem dL_flush_2 : decode cL_flush 2 = .ok (.aload_n 0, 1) := by decide +kernel
theorem dL_flush_3 : decode cL_flush 3 = .ok (.iload_n 1, 1) := by decide +kernel
theorem dL_flush_4 : decode cL_flush 4 = .ok (.invokevirtual 78, 3) := by decide +kernel
theorem dL_flush_7 : decode cL_flush 7 = .ok (.i2l, 1) := by decide +kernel
theorem dL_flush_8 : decode cL_flush 8 = .ok (.lastore, 1) := by decide +kernel
theorem dL_flush_9 : decode cL_flush 9 = .ok (.goto 6, 3) := by decide +kernel
theorem dL_flush_12 : decode cL_flush 12 = .ok (.astore_n 3, 1) := by decide +kernel
theorem dL_flush_13 : decode cL_flush 13 = .ok (.iconst 1, 1) := by decide +kernel
theorem dL_flush_14 : decode cL_flush 14 = .ok (.ireturn, 1) := by decide +kernel
theorem dL_flush_15 : decode cL_flush 15 = .ok (.iconst 0, 1) := by decide +kernel
theorem dL_flush_16 : decode cL_flush 16 = .ok (.ireturn, 1) := by decide +kernel
def f_L_flush (U : S2) (g : Nat → Int64) (p1 : Int32) : Option (Int32 × S2 × (Nat → Int64)) := bn (f_X6_flush U p1) (fun z_1 => if z_1.1 = 0 then some (0, z_1.2.2, setL g z_1.2.1.toInt64) else if z_1.1 = 1 then some (1, z_1.2.2, g) else none)
def wsML_flush : List Cond := wsL_flush ++ LK
def rmL_flush : Room := { frames := 7, cells := 1, slots := 6, locals := 134 }
set_option maxHeartbeats 4000000 in
set_option maxRecDepth 100000 in
theorem c_L_flush (l : Launch) (hst : l.stackTraces = false) (D : va_G) (cI cZ cJ cT : ClassId) (a : Nat → Nat → Nat) (b : Nat) (sz : Nat) (U : S2) (g : Nat → Int64) (p1 : Int32) (o : Int32 × S2 × (Nat → Int64)) (hf : f_L_flush U g p1 = some o) : vx_Met l yL_flush wsML_flush rmL_flush (va_Pc [.ref (a 0 0), .int p1, .ref b] (PL D cls (tys cI cZ cJ cT) (wL cI cZ cJ cT a b U g) sz)) (QWi D cls o.1 (wL cI cZ cJ cT a b o.2.1 o.2.2) (va_A (wL cI cZ cJ cT a b U g) sz)) (vx_X (fun (_ : Unit) => False) (fun _ _ _ => True) (va_A (wL cI cZ cJ cT a b U g) sz)) 1 6 (va_A (wL cI cZ cJ cT a b U g) sz) := by
  refine vx_ofWH (cc := cL_flush) (maxL := 4) (ret := (some .int)) (by decide) rfl ?_
  intro p e s m args below meth c s₁ B hml hv
  obtain ⟨hav, ⟨⟨hsz, hP, hK, hD0⟩, hE⟩, hN⟩ := hv
  have hx := B.exec
  have hb := B.bytes
  have hr := B.returns
  have hlocks := B.notSynchronized
  have hts := atoms_spec (ws := wsML_flush) B.pre
  have hown : s.vm.findClass RL = some m.cls := findClass_of_methodNamed B.named
  have htb : c.exceptionTable.toList = [⟨0, 9, 12, 19⟩] := vx_table (x := yL_flush) B (hts _ (List.mem_append_left _ List.mem_cons_self))
  subst hsz
  have hD := hD0.self (sz := s.heap.size)
  generalize hAe : va_A (wL cI cZ cJ cT a b U g) s.heap.size = A at hD hE ⊢
  have hA : ∀ q : Nat, s.heap.size ≤ q → A q := fun q h => by rw [← hAe]; exact Or.inr h
  have hS : va_S A s.heap s.heap [] := va_S.rf
  have hDD : ∀ (V : S2) (k : Nat → Int64), va_D A (wL cI cZ cJ cT a b V k) := fun _ _ => D_same (w := (wL cI cZ cJ cT a b U g)) rfl hD
  refine Wq (fun Q hQ => ?_)
  refine W_entry hav (Nat.le_of_ble_eq_true rfl) (fun ls hl => ?_)
  have hl : lv_has ls 4 [(0, .ref (a 0 0)), (1, .int p1), (2, .ref b)] := hl
  unfold f_L_flush at hf
  refine W_heap hP hS (fun H locs hP hS => ?_)
  refine lv_aload_n hx hb dL_flush_0 rfl (lv_at hl 2 rfl) ?_
  refine lv_iconst (v := 0) hx hb dL_flush_1 (by decide) ?_
  refine lv_aload_n hx hb dL_flush_2 rfl (lv_at hl 0 rfl) ?_
  refine lv_iload_n hx hb dL_flush_3 rfl (lv_at hl 1 rfl) ?_
  obtain ⟨z_1, hz_1, hf⟩ := bn_some hf
  refine cYVi (As := [.int p1]) (rest := [.int 0, .ref b]) ⟨hx, hb, hml, hown, hts⟩ (c_X6_flush l hst D cI cZ cJ cT a H.size U p1 z_1 hz_1) (cwV 1 hts (gM_sub gL_flush_X6_flush) rfl rfl rfl (by decide +kernel) ⟨Nat.le_of_ble_eq_true rfl, Nat.le_of_ble_eq_true rfl⟩) (fl_sub hP 0 rfl) hK (fl_subD (hDD U g) 0 rfl) hE hS (fl_free (hDD U g) hS hA 0 rfl) (va_recv hK (fl_sub (fl_sub hP 0 rfl) 0 rfl) (ci := 6) (q0 := 0) rfl rfl) rfl rfl hl.1 (Nat.le_of_ble_eq_true rfl) dL_flush_4 ⟨Nat.le_of_ble_eq_true rfl, Nat.le_of_ble_eq_true rfl⟩ (fun E ce q9 H1 locs k_2 hE9 hP1 hk1 hS hce hcv hcl => ?_) (fun H1 locs k_2 hP1 hk1 hS => ?_)
  · have hf := ite_f hf k_2
    have hP : va_P D cls (wL cI cZ cJ cT a b z_1.2.2 g) H1 := fl_join hP (hDD U g) 0 rfl hk1 hP1
    clear hP1 hk1
    generalize H1 = H at hP hS hce ⊢
    by_cases e_3 : z_1.1 = 1
    · have hf := ite_t hf e_3
      have hE8 : E = "java/lang/IllegalArgumentException" := by rw [hE9, e_3]; rfl
      subst hE8
      refine vx_catch hown [] ⟨0, 9, 12, 19⟩ [] htb (fun z hz => absurd hz List.not_mem_nil) (by decide) (by decide) (hts (.classLink RL 19 "java/lang/IllegalArgumentException") (List.mem_append_right _ (by decide +kernel))) (EX_bad hE (by decide +kernel)) hce hcv hcl ?_
      refine lv_astore_n (lv' := [(3, .ref q9), (0, .ref (a 0 0)), (1, .int p1), (2, .ref b)]) hx hb dL_flush_12 rfl hl (by decide) rfl (fun ls hl => ?_)
      refine lv_iconst (v := 1) hx hb dL_flush_13 (by decide) ?_
      have eo := Option.some.inj hf
      have hP : va_P D cls (wL cI cZ cJ cT a b o.2.1 o.2.2) H := by rw [← eo]; exact hP
      rw [hQ]
      refine W.widen (k := 1) (n := 6) (Nat.le_of_ble_eq_true rfl) (Nat.le_of_ble_eq_true rfl) ?_
      exact vx_ret (W.iret hx hb hr (fun t ht hW => ⟨⟨_, (), rfl, (by rw [← eo]), P_at ht hP⟩, hS.F ht⟩) hS.2.2 dL_flush_14 hlocks)
    have hf := ite_f hf e_3
    exact nomatch hf
  have hf := ite_t hf k_2
  have hP : va_P D cls (wL cI cZ cJ cT a b z_1.2.2 g) H1 := fl_join hP (hDD U g) 0 rfl hk1 hP1
  clear hP1 hk1
  generalize H1 = H at hP hS ⊢
  refine lv_i2l (v := z_1.2.1.toInt64) hx hb dL_flush_7 rfl ?_
  refine va_last hx hb hK hP (hDD z_1.2.2 g) hS 86 2 rfl rfl (inb_in (i := 0) (n := 1) (by decide)) dL_flush_8 (fun H locs hP _ hS => ?_)
  have hP : va_P D cls (wL cI cZ cJ cT a b z_1.2.2 (setL g z_1.2.1.toInt64)) H := hP
  refine lv_goto (tgt := 15) hx hb dL_flush_9 (by decide) ?_
  refine lv_iconst (v := 0) hx hb dL_flush_15 (by decide) ?_
  have eo := Option.some.inj hf
  have hP : va_P D cls (wL cI cZ cJ cT a b o.2.1 o.2.2) H := by rw [← eo]; exact hP
  rw [hQ]
  refine W.widen (k := 1) (n := 6) (Nat.le_of_ble_eq_true rfl) (Nat.le_of_ble_eq_true rfl) ?_
  exact vx_ret (W.iret hx hb hr (fun t ht hW => ⟨⟨_, (), rfl, (by rw [← eo]), P_at ht hP⟩, hS.F ht⟩) hS.2.2 dL_flush_16 hlocks)
set_option maxRecDepth 20000 in
theorem ggL_sync_X6_sync : GoodIn wsL_sync wsX6_sync := goodIn_ca (goodIn_ca (goodIn_r _ [6, 7, 8, 9, 10, 11, 5, 12, 13, 14, 15, 16, 17, 18, 19, 20, 21, 22, 23, 24, 25, 26, 27, 28, 29, 30, 31, 32, 33, 34, 35, 36, 37, 38, 39, 40, 41, 42, 43, 44, 45, 46, 47, 48, 49, 50, 51, 52, 53, 54, 55, 56, 57, 58, 59, 60, 61, 62, 63, 64, 65, 66, 67, 68, 69, 70, 71, 72, 73, 74, 75, 76, 77, 78, 79, 80, 81, 82, 83, 84, 85, 86, 87, 88, 89, 90, 91, 92, 93, 94, 95, 96, 97, 98, 99, 100, 101, 102, 103, 104, 105, 106, 107, 108, 109, 110, 111, 112, 113, 114, 115, 116, 117, 118, 119, 120, 121, 122, 123, 124, 125, 126, 127, 128, 129, 130, 131, 132, 133, 134, 135, 136, 137, 138, 139, 140, 141, 142, 143, 144, 145, 146, 147, 148, 149, 150, 151, 152, 153, 154, 155, 156, 157, 158, 159, 160, 161, 162] (by decide +kernel) (by decide +kernel)) (goodIn_sub (fun _ h => List.mem_cons_of_mem _ (List.mem_append_left _ (List.mem_append_right _ h))) (by decide +kernel))) (goodIn_sub (fun _ h => List.mem_cons_of_mem _ (List.mem_append_right _ h)) (by decide +kernel))
set_option maxRecDepth 20000 in
theorem gL_sync_X6_sync : GoodIn wsL_sync (wsV RL 81 RX6 yX6_sync wsX6_sync) := goodIn_app (goodIn_of _ (by decide +kernel)) ggL_sync_X6_sync
theorem dL_sync_0 : decode cL_sync 0 = .ok (.aload_n 2, 1) := by decide +kernel
theorem dL_sync_1 : decode cL_sync 1 = .ok (.iconst 0, 1) := by decide +kernel
theorem dL_sync_2 : decode cL_sync 2 = .ok (.aload_n 0, 1) := by decide +kernel
theorem dL_sync_3 : decode cL_sync 3 = .ok (.iload_n 1, 1) := by decide +kernel
theorem dL_sync_4 : decode cL_sync 4 = .ok (.invokevirtual 81, 3) := by decide +kernel
theorem dL_sync_7 : decode cL_sync 7 = .ok (.ifCond .eq 7, 3) := by decide +kernel
theorem dL_sync_10 : decode cL_sync 10 = .ok (.lconst 1, 1) := by decide +kernel
theorem dL_sync_11 : decode cL_sync 11 = .ok (.goto 4, 3) := by decide +kernel
theorem dL_sync_14 : decode cL_sync 14 = .ok (.lconst 0, 1) := by decide +kernel
theorem dL_sync_15 : decode cL_sync 15 = .ok (.lastore, 1) := by decide +kernel
theorem dL_sync_16 : decode cL_sync 16 = .ok (.goto 9, 3) := by decide +kernel
theorem dL_sync_19 : decode cL_sync 19 = .ok (.astore_n 3, 1) := by decide +kernel
theorem dL_sync_20 : decode cL_sync 20 = .ok (.iconst 1, 1) := by decide +kernel
theorem dL_sync_21 : decode cL_sync 21 = .ok (.ireturn, 1) := by decide +kernel
theorem dL_sync_22 : decode cL_sync 22 = .ok (.astore_n 3, 1) := by decide +kernel
theorem dL_sync_23 : decode cL_sync 23 = .ok (.iconst 2, 1) := by decide +kernel
theorem dL_sync_24 : decode cL_sync 24 = .ok (.ireturn, 1) := by decide +kernel
theorem dL_sync_25 : decode cL_sync 25 = .ok (.iconst 0, 1) := by decide +kernel
theorem dL_sync_26 : decode cL_sync 26 = .ok (.ireturn, 1) := by decide +kernel
def f_L_sync (U : S2) (g : Nat → Int64) (p1 : Int32) : Option (Int32 × S2 × (Nat → Int64)) := bn (f_X6_sync U p1) (fun z_1 => if z_1.1 = 0 then if z_1.2.1 = 0 then some (0, z_1.2.2, setL g 0) else some (0, z_1.2.2, setL g 1) else if z_1.1 = 2 then some (1, z_1.2.2, g) else if z_1.1 = 3 then some (2, z_1.2.2, g) else none)
def wsML_sync : List Cond := wsL_sync ++ LK
def rmL_sync : Room := { frames := 8, cells := 2, slots := 12, locals := 156 }
set_option maxHeartbeats 4000000 in
set_option maxRecDepth 100000 in
theorem c_L_sync (l : Launch) (hst : l.stackTraces = false) (D : va_G) (cI cZ cJ cT : ClassId) (a : Nat → Nat → Nat) (b : Nat) (sz : Nat) (U : S2) (g : Nat → Int64) (p1 : Int32) (o : Int32 × S2 × (Nat → Int64)) (hf : f_L_sync U g p1 = some o) : vx_Met l yL_sync wsML_sync rmL_sync (va_Pc [.ref (a 0 0), .int p1, .ref b] (PL D cls (tys cI cZ cJ cT) (wL cI cZ cJ cT a b U g) sz)) (QWi D cls o.1 (wL cI cZ cJ cT a b o.2.1 o.2.2) (va_A (wL cI cZ cJ cT a b U g) sz)) (vx_X (fun (_ : Unit) => False) (fun _ _ _ => True) (va_A (wL cI cZ cJ cT a b U g) sz)) 2 12 (va_A (wL cI cZ cJ cT a b U g) sz) := by
  refine vx_ofWH (cc := cL_sync) (maxL := 4) (ret := (some .int)) (by decide) rfl ?_
  intro p e s m args below meth c s₁ B hml hv
  obtain ⟨hav, ⟨⟨hsz, hP, hK, hD0⟩, hE⟩, hN⟩ := hv
  have hx := B.exec
  have hb := B.bytes
  have hr := B.returns
  have hlocks := B.notSynchronized
  have hts := atoms_spec (ws := wsML_sync) B.pre
  have hown : s.vm.findClass RL = some m.cls := findClass_of_methodNamed B.named
  have htb : c.exceptionTable.toList = [⟨0, 16, 19, 13⟩, ⟨0, 16, 22, 21⟩] := vx_table (x := yL_sync) B (hts _ (List.mem_append_left _ List.mem_cons_self))
  subst hsz
  have hD := hD0.self (sz := s.heap.size)
  generalize hAe : va_A (wL cI cZ cJ cT a b U g) s.heap.size = A at hD hE ⊢
  have hA : ∀ q : Nat, s.heap.size ≤ q → A q := fun q h => by rw [← hAe]; exact Or.inr h
  have hS : va_S A s.heap s.heap [] := va_S.rf
  have hDD : ∀ (V : S2) (k : Nat → Int64), va_D A (wL cI cZ cJ cT a b V k) := fun _ _ => D_same (w := (wL cI cZ cJ cT a b U g)) rfl hD
  refine Wq (fun Q hQ => ?_)
  refine W_entry hav (Nat.le_of_ble_eq_true rfl) (fun ls hl => ?_)
  have hl : lv_has ls 4 [(0, .ref (a 0 0)), (1, .int p1), (2, .ref b)] := hl
  unfold f_L_sync at hf
  refine W_heap hP hS (fun H locs hP hS => ?_)
  refine lv_aload_n hx hb dL_sync_0 rfl (lv_at hl 2 rfl) ?_
  refine lv_iconst (v := 0) hx hb dL_sync_1 (by decide) ?_
  refine lv_aload_n hx hb dL_sync_2 rfl (lv_at hl 0 rfl) ?_
  refine lv_iload_n hx hb dL_sync_3 rfl (lv_at hl 1 rfl) ?_
  obtain ⟨z_1, hz_1, hf⟩ := bn_some hf
  refine cYVi (As := [.int p1]) (rest := [.int 0, .ref b]) ⟨hx, hb, hml, hown, hts⟩ (c_X6_sync l hst D cI cZ cJ cT a H.size U p1 z_1 hz_1) (cwV 1 hts (gM_sub gL_sync_X6_sync) rfl rfl rfl (by decide +kernel) ⟨Nat.le_of_ble_eq_true rfl, Nat.le_of_ble_eq_true rfl⟩) (fl_sub hP 0 rfl) hK (fl_subD (hDD U g) 0 rfl) hE hS (fl_free (hDD U g) hS hA 0 rfl) (va_recv hK (fl_sub (fl_sub hP 0 rfl) 0 rfl) (ci := 6) (q0 := 0) rfl rfl) rfl rfl hl.1 (Nat.le_of_ble_eq_true rfl) dL_sync_4 ⟨Nat.le_of_ble_eq_true rfl, Nat.le_of_ble_eq_true rfl⟩ (fun E ce q9 H1 locs k_2 hE9 hP1 hk1 hS hce hcv hcl => ?_) (fun H1 locs k_2 hP1 hk1 hS => ?_)
  · have hf := ite_f hf k_2
    have hP : va_P D cls (wL cI cZ cJ cT a b z_1.2.2 g) H1 := fl_join hP (hDD U g) 0 rfl hk1 hP1
    clear hP1 hk1
    generalize H1 = H at hP hS hce ⊢
    by_cases e_3 : z_1.1 = 2
    · have hf := ite_t hf e_3
      have hE8 : E = "java/lang/IndexOutOfBoundsException" := by rw [hE9, e_3]; rfl
      subst hE8
      refine vx_catch hown [] ⟨0, 16, 19, 13⟩ [⟨0, 16, 22, 21⟩] htb (fun z hz => absurd hz List.not_mem_nil) (by decide) (by decide) (hts (.classLink RL 13 "java/lang/IndexOutOfBoundsException") (List.mem_append_right _ (by decide +kernel))) (EX_bad hE (by decide +kernel)) hce hcv hcl ?_
      refine lv_astore_n (lv' := [(3, .ref q9), (0, .ref (a 0 0)), (1, .int p1), (2, .ref b)]) hx hb dL_sync_19 rfl hl (by decide) rfl (fun ls hl => ?_)
      refine lv_iconst (v := 1) hx hb dL_sync_20 (by decide) ?_
      have eo := Option.some.inj hf
      have hP : va_P D cls (wL cI cZ cJ cT a b o.2.1 o.2.2) H := by rw [← eo]; exact hP
      rw [hQ]
      refine W.widen (k := 2) (n := 12) (Nat.le_of_ble_eq_true rfl) (Nat.le_of_ble_eq_true rfl) ?_
      exact vx_ret (W.iret hx hb hr (fun t ht hW => ⟨⟨_, (), rfl, (by rw [← eo]), P_at ht hP⟩, hS.F ht⟩) hS.2.2 dL_sync_21 hlocks)
    have hf := ite_f hf e_3
    by_cases e_4 : z_1.1 = 3
    · have hf := ite_t hf e_4
      have hE8 : E = "java/lang/IllegalStateException" := by rw [hE9, e_4]; rfl
      subst hE8
      refine vx_catch hown [⟨0, 16, 19, 13⟩] ⟨0, 16, 22, 21⟩ [] htb (List.forall_mem_cons.mpr ⟨Or.inr ⟨by decide, "java/lang/IndexOutOfBoundsException", hts (.classLink RL 13 "java/lang/IndexOutOfBoundsException") (List.mem_append_right _ (by decide +kernel)), hN 3 2 (by decide) (by decide) (by decide)⟩, fun z hz => absurd hz List.not_mem_nil⟩) (by decide) (by decide) (hts (.classLink RL 21 "java/lang/IllegalStateException") (List.mem_append_right _ (by decide +kernel))) (EX_bad hE (by decide +kernel)) hce hcv hcl ?_
      refine lv_astore_n (lv' := [(3, .ref q9), (0, .ref (a 0 0)), (1, .int p1), (2, .ref b)]) hx hb dL_sync_22 rfl hl (by decide) rfl (fun ls hl => ?_)
      refine lv_iconst (v := 2) hx hb dL_sync_23 (by decide) ?_
      have eo := Option.some.inj hf
      have hP : va_P D cls (wL cI cZ cJ cT a b o.2.1 o.2.2) H := by rw [← eo]; exact hP
      rw [hQ]
      refine W.widen (k := 2) (n := 12) (Nat.le_of_ble_eq_true rfl) (Nat.le_of_ble_eq_true rfl) ?_
      exact vx_ret (W.iret hx hb hr (fun t ht hW => ⟨⟨_, (), rfl, (by rw [← eo]), P_at ht hP⟩, hS.F ht⟩) hS.2.2 dL_sync_24 hlocks)
    have hf := ite_f hf e_4
    exact nomatch hf
  have hf := ite_t hf k_2
  have hP : va_P D cls (wL cI cZ cJ cT a b z_1.2.2 g) H1 := fl_join hP (hDD U g) 0 rfl hk1 hP1
  clear hP1 hk1
  generalize H1 = H at hP hS ⊢
  refine lv_if_eq (tgt := 14) hx hb dL_sync_7 (by decide) (fun c_5 => ?_) (fun c_5 => ?_)
  · have hf := ite_t hf c_5
    refine lv_lconst (v := 0) hx hb dL_sync_14 (by decide) ?_
    refine va_last hx hb hK hP (hDD z_1.2.2 g) hS 86 2 rfl rfl (inb_in (i := 0) (n := 1) (by decide)) dL_sync_15 (fun H locs hP _ hS => ?_)
    have hP : va_P D cls (wL cI cZ cJ cT a b z_1.2.2 (setL g 0)) H := hP
    refine lv_goto (tgt := 25) hx hb dL_sync_16 (by decide) ?_
    refine lv_iconst (v := 0) hx hb dL_sync_25 (by decide) ?_
    have eo := Option.some.inj hf
    have hP : va_P D cls (wL cI cZ cJ cT a b o.2.1 o.2.2) H := by rw [← eo]; exact hP
    rw [hQ]
    refine W.widen (k := 2) (n := 12) (Nat.le_of_ble_eq_true rfl) (Nat.le_of_ble_eq_true rfl) ?_
    exact vx_ret (W.iret hx hb hr (fun t ht hW => ⟨⟨_, (), rfl, (by rw [← eo]), P_at ht hP⟩, hS.F ht⟩) hS.2.2 dL_sync_26 hlocks)
  · have hf := ite_f hf c_5
    refine lv_lconst (v := 1) hx hb dL_sync_10 (by decide) ?_
    refine lv_goto (tgt := 15) hx hb dL_sync_11 (by decide) ?_
    refine va_last hx hb hK hP (hDD z_1.2.2 g) hS 86 2 rfl rfl (inb_in (i := 0) (n := 1) (by decide)) dL_sync_15 (fun H locs hP _ hS => ?_)
    have hP : va_P D cls (wL cI cZ cJ cT a b z_1.2.2 (setL g 1)) H := hP
    refine lv_goto (tgt := 25) hx hb dL_sync_16 (by decide) ?_
    refine lv_iconst (v := 0) hx hb dL_sync_25 (by decide) ?_
    have eo := Option.some.inj hf
    have hP : va_P D cls (wL cI cZ cJ cT a b o.2.1 o.2.2) H := by rw [← eo]; exact hP
    rw [hQ]
    refine W.widen (k := 2) (n := 12) (Nat.le_of_ble_eq_true rfl) (Nat.le_of_ble_eq_true rfl) ?_
    exact vx_ret (W.iret hx hb hr (fun t ht hW => ⟨⟨_, (), rfl, (by rw [← eo]), P_at ht hP⟩, hS.F ht⟩) hS.2.2 dL_sync_26 hlocks)
set_option maxRecDepth 20000 in
theorem ggL_snapshot_X6_snapshot : GoodIn wsL_snapshot wsX6_snapshot := goodIn_ca (goodIn_r _ [6, 7, 8, 9, 10, 11, 12, 13, 14, 5, 15, 16, 17, 18, 19, 20, 21, 22, 23, 24, 25, 26, 27, 28, 29, 30, 31, 32, 33, 34, 35, 36, 37, 38, 39, 40, 41, 42, 43, 44, 45, 46, 47, 48, 49, 50, 51, 52, 53, 54, 55, 56, 57, 58, 59, 60, 61, 62, 63, 64, 65, 66, 67, 68, 69, 70, 71, 72, 73, 74, 75, 76, 77, 78, 79, 80, 81, 82, 83, 84, 85, 86, 87, 88, 89, 90, 91, 92, 93, 94, 95, 96, 97, 98, 99, 100, 101, 102, 103, 104, 105, 106, 107, 108, 109, 110, 111, 112, 113, 114, 115, 116, 117, 118, 119, 120, 121, 122, 123, 124, 125, 126, 127] (by decide +kernel) (by decide +kernel)) (goodIn_sub (fun _ h => List.mem_cons_of_mem _ (List.mem_append_right _ h)) (by decide +kernel))
set_option maxRecDepth 20000 in
theorem gL_snapshot_X6_snapshot : GoodIn wsL_snapshot (wsV RL 84 RX6 yX6_snapshot wsX6_snapshot) := goodIn_app (goodIn_of _ (by decide +kernel)) ggL_snapshot_X6_snapshot
theorem dL_snapshot_0 : decode cL_snapshot 0 = .ok (.aload_n 1, 1) := by decide +kernel
theorem dL_snapshot_1 : decode cL_snapshot 1 = .ok (.iconst 0, 1) := by decide +kernel
theorem dL_snapshot_2 : decode cL_snapshot 2 = .ok (.aload_n 0, 1) := by decide +kernel
theorem dL_snapshot_3 : decode cL_snapshot 3 = .ok (.invokevirtual 84, 3) := by decide +kernel
theorem dL_snapshot_6 : decode cL_snapshot 6 = .ok (.i2l, 1) := by decide +kernel
theorem dL_snapshot_7 : decode cL_snapshot 7 = .ok (.lastore, 1) := by decide +kernel
theorem dL_snapshot_8 : decode cL_snapshot 8 = .ok (.goto 6, 3) := by decide +kernel
theorem dL_snapshot_11 : decode cL_snapshot 11 = .ok (.astore_n 2, 1) := by decide +kernel
theorem dL_snapshot_12 : decode cL_snapshot 12 = .ok (.iconst 1, 1) := by decide +kernel
theorem dL_snapshot_13 : decode cL_snapshot 13 = .ok (.ireturn, 1) := by decide +kernel
theorem dL_snapshot_14 : decode cL_snapshot 14 = .ok (.iconst 0, 1) := by decide +kernel
theorem dL_snapshot_15 : decode cL_snapshot 15 = .ok (.ireturn, 1) := by decide +kernel
def f_L_snapshot (U : S2) (g : Nat → Int64) : Option (Int32 × S2 × (Nat → Int64)) := bn (f_X6_snapshot U) (fun z_1 => if z_1.1 = 0 then some (0, z_1.2.2, setL g z_1.2.1.toInt64) else if z_1.1 = 3 then some (1, z_1.2.2, g) else none)
def wsML_snapshot : List Cond := wsL_snapshot ++ LK
def rmL_snapshot : Room := { frames := 7, cells := 1, slots := 6, locals := 155 }
set_option maxHeartbeats 4000000 in
set_option maxRecDepth 100000 in
theorem c_L_snapshot (l : Launch) (hst : l.stackTraces = false) (D : va_G) (cI cZ cJ cT : ClassId) (a : Nat → Nat → Nat) (b : Nat) (sz : Nat) (U : S2) (g : Nat → Int64) (o : Int32 × S2 × (Nat → Int64)) (hf : f_L_snapshot U g = some o) : vx_Met l yL_snapshot wsML_snapshot rmL_snapshot (va_Pc [.ref (a 0 0), .ref b] (PL D cls (tys cI cZ cJ cT) (wL cI cZ cJ cT a b U g) sz)) (QWi D cls o.1 (wL cI cZ cJ cT a b o.2.1 o.2.2) (va_A (wL cI cZ cJ cT a b U g) sz)) (vx_X (fun (_ : Unit) => False) (fun _ _ _ => True) (va_A (wL cI cZ cJ cT a b U g) sz)) 1 6 (va_A (wL cI cZ cJ cT a b U g) sz) := by
  refine vx_ofWH (cc := cL_snapshot) (maxL := 3) (ret := (some .int)) (by decide) rfl ?_
  intro p e s m args below meth c s₁ B hml hv
  obtain ⟨hav, ⟨⟨hsz, hP, hK, hD0⟩, hE⟩, hN⟩ := hv
  have hx := B.exec
  have hb := B.bytes
  have hr := B.returns
  have hlocks := B.notSynchronized
  have hts := atoms_spec (ws := wsML_snapshot) B.pre
  have hown : s.vm.findClass RL = some m.cls := findClass_of_methodNamed B.named
  have htb : c.exceptionTable.toList = [⟨0, 8, 11, 21⟩] := vx_table (x := yL_snapshot) B (hts _ (List.mem_append_left _ List.mem_cons_self))
  subst hsz
  have hD := hD0.self (sz := s.heap.size)
  generalize hAe : va_A (wL cI cZ cJ cT a b U g) s.heap.size = A at hD hE ⊢
  have hA : ∀ q : Nat, s.heap.size ≤ q → A q := fun q h => by rw [← hAe]; exact Or.inr h
  have hS : va_S A s.heap s.heap [] := va_S.rf
  have hDD : ∀ (V : S2) (k : Nat → Int64), va_D A (wL cI cZ cJ cT a b V k) := fun _ _ => D_same (w := (wL cI cZ cJ cT a b U g)) rfl hD
  refine Wq (fun Q hQ => ?_)
  refine W_entry hav (Nat.le_of_ble_eq_true rfl) (fun ls hl => ?_)
  have hl : lv_has ls 3 [(0, .ref (a 0 0)), (1, .ref b)] := hl
  unfold f_L_snapshot at hf
  refine W_heap hP hS (fun H locs hP hS => ?_)
  refine lv_aload_n hx hb dL_snapshot_0 rfl (lv_at hl 1 rfl) ?_
  refine lv_iconst (v := 0) hx hb dL_snapshot_1 (by decide) ?_
  refine lv_aload_n hx hb dL_snapshot_2 rfl (lv_at hl 0 rfl) ?_
  obtain ⟨z_1, hz_1, hf⟩ := bn_some hf
  refine cYVi (As := []) (rest := [.int 0, .ref b]) ⟨hx, hb, hml, hown, hts⟩ (c_X6_snapshot l hst D cI cZ cJ cT a H.size U z_1 hz_1) (cwV 0 hts (gM_sub gL_snapshot_X6_snapshot) rfl rfl rfl (by decide +kernel) ⟨Nat.le_of_ble_eq_true rfl, Nat.le_of_ble_eq_true rfl⟩) (fl_sub hP 0 rfl) hK (fl_subD (hDD U g) 0 rfl) hE hS (fl_free (hDD U g) hS hA 0 rfl) (va_recv hK (fl_sub (fl_sub hP 0 rfl) 0 rfl) (ci := 6) (q0 := 0) rfl rfl) rfl rfl hl.1 (Nat.le_of_ble_eq_true rfl) dL_snapshot_3 ⟨Nat.le_of_ble_eq_true rfl, Nat.le_of_ble_eq_true rfl⟩ (fun E ce q9 H1 locs k_2 hE9 hP1 hk1 hS hce hcv hcl => ?_) (fun H1 locs k_2 hP1 hk1 hS => ?_)
  · have hf := ite_f hf k_2
    have hP : va_P D cls (wL cI cZ cJ cT a b z_1.2.2 g) H1 := fl_join hP (hDD U g) 0 rfl hk1 hP1
    clear hP1 hk1
    generalize H1 = H at hP hS hce ⊢
    by_cases e_3 : z_1.1 = 3
    · have hf := ite_t hf e_3
      have hE8 : E = "java/lang/IllegalStateException" := by rw [hE9, e_3]; rfl
      subst hE8
      refine vx_catch hown [] ⟨0, 8, 11, 21⟩ [] htb (fun z hz => absurd hz List.not_mem_nil) (by decide) (by decide) (hts (.classLink RL 21 "java/lang/IllegalStateException") (List.mem_append_right _ (by decide +kernel))) (EX_bad hE (by decide +kernel)) hce hcv hcl ?_
      refine lv_astore_n (lv' := [(2, .ref q9), (0, .ref (a 0 0)), (1, .ref b)]) hx hb dL_snapshot_11 rfl hl (by decide) rfl (fun ls hl => ?_)
      refine lv_iconst (v := 1) hx hb dL_snapshot_12 (by decide) ?_
      have eo := Option.some.inj hf
      have hP : va_P D cls (wL cI cZ cJ cT a b o.2.1 o.2.2) H := by rw [← eo]; exact hP
      rw [hQ]
      refine W.widen (k := 1) (n := 6) (Nat.le_of_ble_eq_true rfl) (Nat.le_of_ble_eq_true rfl) ?_
      exact vx_ret (W.iret hx hb hr (fun t ht hW => ⟨⟨_, (), rfl, (by rw [← eo]), P_at ht hP⟩, hS.F ht⟩) hS.2.2 dL_snapshot_13 hlocks)
    have hf := ite_f hf e_3
    exact nomatch hf
  have hf := ite_t hf k_2
  have hP : va_P D cls (wL cI cZ cJ cT a b z_1.2.2 g) H1 := fl_join hP (hDD U g) 0 rfl hk1 hP1
  clear hP1 hk1
  generalize H1 = H at hP hS ⊢
  refine lv_i2l (v := z_1.2.1.toInt64) hx hb dL_snapshot_6 rfl ?_
  refine va_last hx hb hK hP (hDD z_1.2.2 g) hS 86 2 rfl rfl (inb_in (i := 0) (n := 1) (by decide)) dL_snapshot_7 (fun H locs hP _ hS => ?_)
  have hP : va_P D cls (wL cI cZ cJ cT a b z_1.2.2 (setL g z_1.2.1.toInt64)) H := hP
  refine lv_goto (tgt := 14) hx hb dL_snapshot_8 (by decide) ?_
  refine lv_iconst (v := 0) hx hb dL_snapshot_14 (by decide) ?_
  have eo := Option.some.inj hf
  have hP : va_P D cls (wL cI cZ cJ cT a b o.2.1 o.2.2) H := by rw [← eo]; exact hP
  rw [hQ]
  refine W.widen (k := 1) (n := 6) (Nat.le_of_ble_eq_true rfl) (Nat.le_of_ble_eq_true rfl) ?_
  exact vx_ret (W.iret hx hb hr (fun t ht hW => ⟨⟨_, (), rfl, (by rw [← eo]), P_at ht hP⟩, hS.F ht⟩) hS.2.2 dL_snapshot_15 hlocks)
set_option maxRecDepth 20000 in
theorem ggL_drop_X6_drop : GoodIn wsL_drop wsX6_drop := goodIn_ca (goodIn_r _ [6, 7, 8, 9, 10, 11, 12, 5, 13, 14, 15, 16, 17, 18, 19, 20, 21, 22, 23, 24, 25, 26, 27, 28, 29, 30, 31, 32, 33, 34, 35, 36, 37, 38, 39, 40, 41, 42, 43, 44, 45, 46, 47, 48, 49, 50, 51, 52, 53, 54, 55, 56, 57] (by decide +kernel) (by decide +kernel)) (goodIn_sub (fun _ h => List.mem_cons_of_mem _ (List.mem_append_right _ h)) (by decide +kernel))
set_option maxRecDepth 20000 in
theorem gL_drop_X6_drop : GoodIn wsL_drop (wsV RL 88 RX6 yX6_drop wsX6_drop) := goodIn_app (goodIn_of _ (by decide +kernel)) ggL_drop_X6_drop
theorem dL_drop_0 : decode cL_drop 0 = .ok (.aload_n 2, 1) := by decide +kernel
theorem dL_drop_1 : decode cL_drop 1 = .ok (.iconst 0, 1) := by decide +kernel
theorem dL_drop_2 : decode cL_drop 2 = .ok (.aload_n 0, 1) := by decide +kernel
theorem dL_drop_3 : decode cL_drop 3 = .ok (.iload_n 1, 1) := by decide +kernel
theorem dL_drop_4 : decode cL_drop 4 = .ok (.invokevirtual 88, 3) := by decide +kernel
theorem dL_drop_7 : decode cL_drop 7 = .ok (.i2l, 1) := by decide +kernel
theorem dL_drop_8 : decode cL_drop 8 = .ok (.lastore, 1) := by decide +kernel
theorem dL_drop_9 : decode cL_drop 9 = .ok (.goto 6, 3) := by decide +kernel
theorem dL_drop_12 : decode cL_drop 12 = .ok (.astore_n 3, 1) := by decide +kernel
theorem dL_drop_13 : decode cL_drop 13 = .ok (.iconst 1, 1) := by decide +kernel
theorem dL_drop_14 : decode cL_drop 14 = .ok (.ireturn, 1) := by decide +kernel
theorem dL_drop_15 : decode cL_drop 15 = .ok (.iconst 0, 1) := by decide +kernel
theorem dL_drop_16 : decode cL_drop 16 = .ok (.ireturn, 1) := by decide +kernel
def f_L_drop (U : S2) (g : Nat → Int64) (p1 : Int32) : Option (Int32 × S2 × (Nat → Int64)) := bn (f_X6_drop U p1) (fun z_1 => if z_1.1 = 0 then some (0, z_1.2.2, setL g z_1.2.1.toInt64) else if z_1.1 = 2 then some (1, z_1.2.2, g) else none)
def wsML_drop : List Cond := wsL_drop ++ LK
def rmL_drop : Room := { frames := 7, cells := 1, slots := 6, locals := 112 }
set_option maxHeartbeats 4000000 in
set_option maxRecDepth 100000 in
theorem c_L_drop (l : Launch) (hst : l.stackTraces = false) (D : va_G) (cI cZ cJ cT : ClassId) (a : Nat → Nat → Nat) (b : Nat) (sz : Nat) (U : S2) (g : Nat → Int64) (p1 : Int32) (o : Int32 × S2 × (Nat → Int64)) (hf : f_L_drop U g p1 = some o) : vx_Met l yL_drop wsML_drop rmL_drop (va_Pc [.ref (a 0 0), .int p1, .ref b] (PL D cls (tys cI cZ cJ cT) (wL cI cZ cJ cT a b U g) sz)) (QWi D cls o.1 (wL cI cZ cJ cT a b o.2.1 o.2.2) (va_A (wL cI cZ cJ cT a b U g) sz)) (vx_X (fun (_ : Unit) => False) (fun _ _ _ => True) (va_A (wL cI cZ cJ cT a b U g) sz)) 1 6 (va_A (wL cI cZ cJ cT a b U g) sz) := by
  refine vx_ofWH (cc := cL_drop) (maxL := 4) (ret := (some .int)) (by decide) rfl ?_
  intro p e s m args below meth c s₁ B hml hv
  obtain ⟨hav, ⟨⟨hsz, hP, hK, hD0⟩, hE⟩, hN⟩ := hv
  have hx := B.exec
  have hb := B.bytes
  have hr := B.returns
  have hlocks := B.notSynchronized
  have hts := atoms_spec (ws := wsML_drop) B.pre
  have hown : s.vm.findClass RL = some m.cls := findClass_of_methodNamed B.named
  have htb : c.exceptionTable.toList = [⟨0, 9, 12, 13⟩] := vx_table (x := yL_drop) B (hts _ (List.mem_append_left _ List.mem_cons_self))
  subst hsz
  have hD := hD0.self (sz := s.heap.size)
  generalize hAe : va_A (wL cI cZ cJ cT a b U g) s.heap.size = A at hD hE ⊢
  have hA : ∀ q : Nat, s.heap.size ≤ q → A q := fun q h => by rw [← hAe]; exact Or.inr h
  have hS : va_S A s.heap s.heap [] := va_S.rf
  have hDD : ∀ (V : S2) (k : Nat → Int64), va_D A (wL cI cZ cJ cT a b V k) := fun _ _ => D_same (w := (wL cI cZ cJ cT a b U g)) rfl hD
  refine Wq (fun Q hQ => ?_)
  refine W_entry hav (Nat.le_of_ble_eq_true rfl) (fun ls hl => ?_)
  have hl : lv_has ls 4 [(0, .ref (a 0 0)), (1, .int p1), (2, .ref b)] := hl
  unfold f_L_drop at hf
  refine W_heap hP hS (fun H locs hP hS => ?_)
  refine lv_aload_n hx hb dL_drop_0 rfl (lv_at hl 2 rfl) ?_
  refine lv_iconst (v := 0) hx hb dL_drop_1 (by decide) ?_
  refine lv_aload_n hx hb dL_drop_2 rfl (lv_at hl 0 rfl) ?_
  refine lv_iload_n hx hb dL_drop_3 rfl (lv_at hl 1 rfl) ?_
  obtain ⟨z_1, hz_1, hf⟩ := bn_some hf
  refine cYVi (As := [.int p1]) (rest := [.int 0, .ref b]) ⟨hx, hb, hml, hown, hts⟩ (c_X6_drop l hst D cI cZ cJ cT a H.size U p1 z_1 hz_1) (cwV 1 hts (gM_sub gL_drop_X6_drop) rfl rfl rfl (by decide +kernel) ⟨Nat.le_of_ble_eq_true rfl, Nat.le_of_ble_eq_true rfl⟩) (fl_sub hP 0 rfl) hK (fl_subD (hDD U g) 0 rfl) hE hS (fl_free (hDD U g) hS hA 0 rfl) (va_recv hK (fl_sub (fl_sub hP 0 rfl) 0 rfl) (ci := 6) (q0 := 0) rfl rfl) rfl rfl hl.1 (Nat.le_of_ble_eq_true rfl) dL_drop_4 ⟨Nat.le_of_ble_eq_true rfl, Nat.le_of_ble_eq_true rfl⟩ (fun E ce q9 H1 locs k_2 hE9 hP1 hk1 hS hce hcv hcl => ?_) (fun H1 locs k_2 hP1 hk1 hS => ?_)
  · have hf := ite_f hf k_2
    have hP : va_P D cls (wL cI cZ cJ cT a b z_1.2.2 g) H1 := fl_join hP (hDD U g) 0 rfl hk1 hP1
    clear hP1 hk1
    generalize H1 = H at hP hS hce ⊢
    by_cases e_3 : z_1.1 = 2
    · have hf := ite_t hf e_3
      have hE8 : E = "java/lang/IndexOutOfBoundsException" := by rw [hE9, e_3]; rfl
      subst hE8
      refine vx_catch hown [] ⟨0, 9, 12, 13⟩ [] htb (fun z hz => absurd hz List.not_mem_nil) (by decide) (by decide) (hts (.classLink RL 13 "java/lang/IndexOutOfBoundsException") (List.mem_append_right _ (by decide +kernel))) (EX_bad hE (by decide +kernel)) hce hcv hcl ?_
      refine lv_astore_n (lv' := [(3, .ref q9), (0, .ref (a 0 0)), (1, .int p1), (2, .ref b)]) hx hb dL_drop_12 rfl hl (by decide) rfl (fun ls hl => ?_)
      refine lv_iconst (v := 1) hx hb dL_drop_13 (by decide) ?_
      have eo := Option.some.inj hf
      have hP : va_P D cls (wL cI cZ cJ cT a b o.2.1 o.2.2) H := by rw [← eo]; exact hP
      rw [hQ]
      refine W.widen (k := 1) (n := 6) (Nat.le_of_ble_eq_true rfl) (Nat.le_of_ble_eq_true rfl) ?_
      exact vx_ret (W.iret hx hb hr (fun t ht hW => ⟨⟨_, (), rfl, (by rw [← eo]), P_at ht hP⟩, hS.F ht⟩) hS.2.2 dL_drop_14 hlocks)
    have hf := ite_f hf e_3
    exact nomatch hf
  have hf := ite_t hf k_2
  have hP : va_P D cls (wL cI cZ cJ cT a b z_1.2.2 g) H1 := fl_join hP (hDD U g) 0 rfl hk1 hP1
  clear hP1 hk1
  generalize H1 = H at hP hS ⊢
  refine lv_i2l (v := z_1.2.1.toInt64) hx hb dL_drop_7 rfl ?_
  refine va_last hx hb hK hP (hDD z_1.2.2 g) hS 86 2 rfl rfl (inb_in (i := 0) (n := 1) (by decide)) dL_drop_8 (fun H locs hP _ hS => ?_)
  have hP : va_P D cls (wL cI cZ cJ cT a b z_1.2.2 (setL g z_1.2.1.toInt64)) H := hP
  refine lv_goto (tgt := 15) hx hb dL_drop_9 (by decide) ?_
  refine lv_iconst (v := 0) hx hb dL_drop_15 (by decide) ?_
  have eo := Option.some.inj hf
  have hP : va_P D cls (wL cI cZ cJ cT a b o.2.1 o.2.2) H := by rw [← eo]; exact hP
  rw [hQ]
  refine W.widen (k := 1) (n := 6) (Nat.le_of_ble_eq_true rfl) (Nat.le_of_ble_eq_true rfl) ?_
  exact vx_ret (W.iret hx hb hr (fun t ht hW => ⟨⟨_, (), rfl, (by rw [← eo]), P_at ht hP⟩, hS.F ht⟩) hS.2.2 dL_drop_16 hlocks)
set_option maxRecDepth 20000 in
theorem ggL_readOld_X6_readOld : GoodIn wsL_readOld wsX6_readOld := goodIn_ca (goodIn_ca (goodIn_ca (goodIn_r _ [6, 7, 8, 9, 10, 11, 12, 13, 14, 15, 16, 5, 17, 18, 19, 20, 21, 22, 23, 24, 25, 26, 27, 28, 29, 30, 31, 32, 33, 34, 35, 36, 37, 38, 39, 40, 41, 42, 43, 44, 45, 46, 47, 48, 49, 50, 51, 52, 53, 54, 55, 56, 57, 58, 59, 60, 61, 62, 63, 64, 65, 66, 67, 68, 69, 70, 71, 72, 73, 74, 75, 76, 77, 78, 79, 80, 81, 82, 83, 84, 85, 86, 87, 88, 89, 90, 91, 92, 93, 94, 95, 96, 97, 98, 99, 100, 101, 102, 103, 104, 105, 106, 107, 108, 109, 110, 111, 112, 113, 114, 115, 116, 117, 118, 119, 120, 121, 122, 123, 124, 125, 126, 127, 128, 129, 130, 131, 132, 133] (by decide +kernel) (by decide +kernel)) (goodIn_sub (fun _ h => List.mem_cons_of_mem _ (List.mem_append_left _ (List.mem_append_left _ (List.mem_append_right _ h)))) (by decide +kernel))) (goodIn_sub (fun _ h => List.mem_cons_of_mem _ (List.mem_append_left _ (List.mem_append_right _ h))) (by decide +kernel))) (goodIn_sub (fun _ h => List.mem_cons_of_mem _ (List.mem_append_right _ h)) (by decide +kernel))
set_option maxRecDepth 20000 in
theorem gL_readOld_X6_readOld : GoodIn wsL_readOld (wsV RL 91 RX6 yX6_readOld wsX6_readOld) := goodIn_app (goodIn_of _ (by decide +kernel)) ggL_readOld_X6_readOld
theorem dL_readOld_0 : decode cL_readOld 0 = .ok (.aload 4, 2) := by decide +kernel
theorem dL_readOld_2 : decode cL_readOld 2 = .ok (.iconst 0, 1) := by decide +kernel
theorem dL_readOld_3 : decode cL_readOld 3 = .ok (.aload_n 0, 1) := by decide +kernel
theorem dL_readOld_4 : decode cL_readOld 4 = .ok (.iload_n 1, 1) := by decide +kernel
theorem dL_readOld_5 : decode cL_readOld 5 = .ok (.iload_n 2, 1) := by decide +kernel
theorem dL_readOld_6 : decode cL_readOld 6 = .ok (.iload_n 3, 1) := by decide +kernel
theorem dL_readOld_7 : decode cL_readOld 7 = .ok (.invokevirtual 91, 3) := by decide +kernel
theorem dL_readOld_10 : decode cL_readOld 10 = .ok (.i2l, 1) := by decide +kernel
theorem dL_readOld_11 : decode cL_readOld 11 = .ok (.lastore, 1) := by decide +kernel
theorem dL_readOld_12 : decode cL_readOld 12 = .ok (.goto 15, 3) := by decide +kernel
theorem dL_readOld_15 : decode cL_readOld 15 = .ok (.astore 5, 2) := by decide +kernel
theorem dL_readOld_17 : decode cL_readOld 17 = .ok (.iconst 1, 1) := by decide +kernel
theorem dL_readOld_18 : decode cL_readOld 18 = .ok (.ireturn, 1) := by decide +kernel
theorem dL_readOld_19 : decode cL_readOld 19 = .ok (.astore 5, 2) := by decide +kernel
theorem dL_readOld_21 : decode cL_readOld 21 = .ok (.iconst 2, 1) := by decide +kernel
theorem dL_readOld_22 : decode cL_readOld 22 = .ok (.ireturn, 1) := by decide +kernel
theorem dL_readOld_23 : decode cL_readOld 23 = .ok (.astore 5, 2) := by decide +kernel
theorem dL_readOld_25 : decode cL_readOld 25 = .ok (.iconst 3, 1) := by decide +kernel
theorem dL_readOld_26 : decode cL_readOld 26 = .ok (.ireturn, 1) := by decide +kernel
theorem dL_readOld_27 : decode cL_readOld 27 = .ok (.iconst 0, 1) := by decide +kernel
theorem dL_readOld_28 : decode cL_readOld 28 = .ok (.ireturn, 1) := by decide +kernel
def f_L_readOld (U : S2) (g : Nat → Int64) (p1 : Int32) (p2 : Int32) (p3 : Int32) : Option (Int32 × S2 × (Nat → Int64)) := bn (f_X6_readOld U p1 p2 p3) (fun z_1 => if z_1.1 = 0 then some (0, z_1.2.2, setL g z_1.2.1.toInt64) else if z_1.1 = 1 then some (1, z_1.2.2, g) else if z_1.1 = 2 then some (2, z_1.2.2, g) else if z_1.1 = 3 then some (3, z_1.2.2, g) else none)
def wsML_readOld : List Cond := wsL_readOld ++ LK
def rmL_readOld : Room := { frames := 7, cells := 1, slots := 6, locals := 118 }
set_option maxHeartbeats 4000000 in
set_option maxRecDepth 100000 in
theorem c_L_readOld (l : Launch) (hst : l.stackTraces = false) (D : va_G) (cI cZ cJ cT : ClassId) (a : Nat → Nat → Nat) (b : Nat) (sz : Nat) (U : S2) (g : Nat → Int64) (p1 : Int32) (p2 : Int32) (p3 : Int32) (o : Int32 × S2 × (Nat → Int64)) (hf : f_L_readOld U g p1 p2 p3 = some o) : vx_Met l yL_readOld wsML_readOld rmL_readOld (va_Pc [.ref (a 0 0), .int p1, .int p2, .int p3, .ref b] (PL D cls (tys cI cZ cJ cT) (wL cI cZ cJ cT a b U g) sz)) (QWi D cls o.1 (wL cI cZ cJ cT a b o.2.1 o.2.2) (va_A (wL cI cZ cJ cT a b U g) sz)) (vx_X (fun (_ : Unit) => False) (fun _ _ _ => True) (va_A (wL cI cZ cJ cT a b U g) sz)) 1 6 (va_A (wL cI cZ cJ cT a b U g) sz) := by
  refine vx_ofWH (cc := cL_readOld) (maxL := 6) (ret := (some .int)) (by decide) rfl ?_
  intro p e s m args below meth c s₁ B hml hv
  obtain ⟨hav, ⟨⟨hsz, hP, hK, hD0⟩, hE⟩, hN⟩ := hv
  have hx := B.exec
  have hb := B.bytes
  have hr := B.returns
  have hlocks := B.notSynchronized
  have hts := atoms_spec (ws := wsML_readOld) B.pre
  have hown : s.vm.findClass RL = some m.cls := findClass_of_methodNamed B.named
  have htb : c.exceptionTable.toList = [⟨0, 12, 15, 19⟩, ⟨0, 12, 19, 13⟩, ⟨0, 12, 23, 21⟩] := vx_table (x := yL_readOld) B (hts _ (List.mem_append_left _ List.mem_cons_self))
  subst hsz
  have hD := hD0.self (sz := s.heap.size)
  generalize hAe : va_A (wL cI cZ cJ cT a b U g) s.heap.size = A at hD hE ⊢
  have hA : ∀ q : Nat, s.heap.size ≤ q → A q := fun q h => by rw [← hAe]; exact Or.inr h
  have hS : va_S A s.heap s.heap [] := va_S.rf
  have hDD : ∀ (V : S2) (k : Nat → Int64), va_D A (wL cI cZ cJ cT a b V k) := fun _ _ => D_same (w := (wL cI cZ cJ cT a b U g)) rfl hD
  refine Wq (fun Q hQ => ?_)
  refine W_entry hav (Nat.le_of_ble_eq_true rfl) (fun ls hl => ?_)
  have hl : lv_has ls 6 [(0, .ref (a 0 0)), (1, .int p1), (2, .int p2), (3, .int p3), (4, .ref b)] := hl
  unfold f_L_readOld at hf
  refine W_heap hP hS (fun H locs hP hS => ?_)
  refine lv_aload hx hb dL_readOld_0 (lv_at hl 4 rfl) ?_
  refine lv_iconst (v := 0) hx hb dL_readOld_2 (by decide) ?_
  refine lv_aload_n hx hb dL_readOld_3 rfl (lv_at hl 0 rfl) ?_
  refine lv_iload_n hx hb dL_readOld_4 rfl (lv_at hl 1 rfl) ?_
  refine lv_iload_n hx hb dL_readOld_5 rfl (lv_at hl 2 rfl) ?_
  refine lv_iload_n hx hb dL_readOld_6 rfl (lv_at hl 3 rfl) ?_
  obtain ⟨z_1, hz_1, hf⟩ := bn_some hf
  refine cYVi (As := [.int p1, .int p2, .int p3]) (rest := [.int 0, .ref b]) ⟨hx, hb, hml, hown, hts⟩ (c_X6_readOld l hst D cI cZ cJ cT a H.size U p1 p2 p3 z_1 hz_1) (cwV 3 hts (gM_sub gL_readOld_X6_readOld) rfl rfl rfl (by decide +kernel) ⟨Nat.le_of_ble_eq_true rfl, Nat.le_of_ble_eq_true rfl⟩) (fl_sub hP 0 rfl) hK (fl_subD (hDD U g) 0 rfl) hE hS (fl_free (hDD U g) hS hA 0 rfl) (va_recv hK (fl_sub (fl_sub hP 0 rfl) 0 rfl) (ci := 6) (q0 := 0) rfl rfl) rfl rfl hl.1 (Nat.le_of_ble_eq_true rfl) dL_readOld_7 ⟨Nat.le_of_ble_eq_true rfl, Nat.le_of_ble_eq_true rfl⟩ (fun E ce q9 H1 locs k_2 hE9 hP1 hk1 hS hce hcv hcl => ?_) (fun H1 locs k_2 hP1 hk1 hS => ?_)
  · have hf := ite_f hf k_2
    have hP : va_P D cls (wL cI cZ cJ cT a b z_1.2.2 g) H1 := fl_join hP (hDD U g) 0 rfl hk1 hP1
    clear hP1 hk1
    generalize H1 = H at hP hS hce ⊢
    by_cases e_3 : z_1.1 = 1
    · have hf := ite_t hf e_3
      have hE8 : E = "java/lang/IllegalArgumentException" := by rw [hE9, e_3]; rfl
      subst hE8
      refine vx_catch hown [] ⟨0, 12, 15, 19⟩ [⟨0, 12, 19, 13⟩, ⟨0, 12, 23, 21⟩] htb (fun z hz => absurd hz List.not_mem_nil) (by decide) (by decide) (hts (.classLink RL 19 "java/lang/IllegalArgumentException") (List.mem_append_right _ (by decide +kernel))) (EX_bad hE (by decide +kernel)) hce hcv hcl ?_
      refine lv_astore (lv' := [(5, .ref q9), (0, .ref (a 0 0)), (1, .int p1), (2, .int p2), (3, .int p3), (4, .ref b)]) hx hb dL_readOld_15 hl (by decide) rfl (fun ls hl => ?_)
      refine lv_iconst (v := 1) hx hb dL_readOld_17 (by decide) ?_
      have eo := Option.some.inj hf
      have hP : va_P D cls (wL cI cZ cJ cT a b o.2.1 o.2.2) H := by rw [← eo]; exact hP
      rw [hQ]
      refine W.widen (k := 1) (n := 6) (Nat.le_of_ble_eq_true rfl) (Nat.le_of_ble_eq_true rfl) ?_
      exact vx_ret (W.iret hx hb hr (fun t ht hW => ⟨⟨_, (), rfl, (by rw [← eo]), P_at ht hP⟩, hS.F ht⟩) hS.2.2 dL_readOld_18 hlocks)
    have hf := ite_f hf e_3
    by_cases e_4 : z_1.1 = 2
    · have hf := ite_t hf e_4
      have hE8 : E = "java/lang/IndexOutOfBoundsException" := by rw [hE9, e_4]; rfl
      subst hE8
      refine vx_catch hown [⟨0, 12, 15, 19⟩] ⟨0, 12, 19, 13⟩ [⟨0, 12, 23, 21⟩] htb (List.forall_mem_cons.mpr ⟨Or.inr ⟨by decide, "java/lang/IllegalArgumentException", hts (.classLink RL 19 "java/lang/IllegalArgumentException") (List.mem_append_right _ (by decide +kernel)), hN 2 1 (by decide) (by decide) (by decide)⟩, fun z hz => absurd hz List.not_mem_nil⟩) (by decide) (by decide) (hts (.classLink RL 13 "java/lang/IndexOutOfBoundsException") (List.mem_append_right _ (by decide +kernel))) (EX_bad hE (by decide +kernel)) hce hcv hcl ?_
      refine lv_astore (lv' := [(5, .ref q9), (0, .ref (a 0 0)), (1, .int p1), (2, .int p2), (3, .int p3), (4, .ref b)]) hx hb dL_readOld_19 hl (by decide) rfl (fun ls hl => ?_)
      refine lv_iconst (v := 2) hx hb dL_readOld_21 (by decide) ?_
      have eo := Option.some.inj hf
      have hP : va_P D cls (wL cI cZ cJ cT a b o.2.1 o.2.2) H := by rw [← eo]; exact hP
      rw [hQ]
      refine W.widen (k := 1) (n := 6) (Nat.le_of_ble_eq_true rfl) (Nat.le_of_ble_eq_true rfl) ?_
      exact vx_ret (W.iret hx hb hr (fun t ht hW => ⟨⟨_, (), rfl, (by rw [← eo]), P_at ht hP⟩, hS.F ht⟩) hS.2.2 dL_readOld_22 hlocks)
    have hf := ite_f hf e_4
    by_cases e_5 : z_1.1 = 3
    · have hf := ite_t hf e_5
      have hE8 : E = "java/lang/IllegalStateException" := by rw [hE9, e_5]; rfl
      subst hE8
      refine vx_catch hown [⟨0, 12, 15, 19⟩, ⟨0, 12, 19, 13⟩] ⟨0, 12, 23, 21⟩ [] htb (List.forall_mem_cons.mpr ⟨Or.inr ⟨by decide, "java/lang/IllegalArgumentException", hts (.classLink RL 19 "java/lang/IllegalArgumentException") (List.mem_append_right _ (by decide +kernel)), hN 3 1 (by decide) (by decide) (by decide)⟩, List.forall_mem_cons.mpr ⟨Or.inr ⟨by decide, "java/lang/IndexOutOfBoundsException", hts (.classLink RL 13 "java/lang/IndexOutOfBoundsException") (List.mem_append_right _ (by decide +kernel)), hN 3 2 (by decide) (by decide) (by decide)⟩, fun z hz => absurd hz List.not_mem_nil⟩⟩) (by decide) (by decide) (hts (.classLink RL 21 "java/lang/IllegalStateException") (List.mem_append_right _ (by decide +kernel))) (EX_bad hE (by decide +kernel)) hce hcv hcl ?_
      refine lv_astore (lv' := [(5, .ref q9), (0, .ref (a 0 0)), (1, .int p1), (2, .int p2), (3, .int p3), (4, .ref b)]) hx hb dL_readOld_23 hl (by decide) rfl (fun ls hl => ?_)
      refine lv_iconst (v := 3) hx hb dL_readOld_25 (by decide) ?_
      have eo := Option.some.inj hf
      have hP : va_P D cls (wL cI cZ cJ cT a b o.2.1 o.2.2) H := by rw [← eo]; exact hP
      rw [hQ]
      refine W.widen (k := 1) (n := 6) (Nat.le_of_ble_eq_true rfl) (Nat.le_of_ble_eq_true rfl) ?_
      exact vx_ret (W.iret hx hb hr (fun t ht hW => ⟨⟨_, (), rfl, (by rw [← eo]), P_at ht hP⟩, hS.F ht⟩) hS.2.2 dL_readOld_26 hlocks)
    have hf := ite_f hf e_5
    exact nomatch hf
  have hf := ite_t hf k_2
  have hP : va_P D cls (wL cI cZ cJ cT a b z_1.2.2 g) H1 := fl_join hP (hDD U g) 0 rfl hk1 hP1
  clear hP1 hk1
  generalize H1 = H at hP hS ⊢
  refine lv_i2l (v := z_1.2.1.toInt64) hx hb dL_readOld_10 rfl ?_
  refine va_last hx hb hK hP (hDD z_1.2.2 g) hS 86 2 rfl rfl (inb_in (i := 0) (n := 1) (by decide)) dL_readOld_11 (fun H locs hP _ hS => ?_)
  have hP : va_P D cls (wL cI cZ cJ cT a b z_1.2.2 (setL g z_1.2.1.toInt64)) H := hP
  refine lv_goto (tgt := 27) hx hb dL_readOld_12 (by decide) ?_
  refine lv_iconst (v := 0) hx hb dL_readOld_27 (by decide) ?_
  have eo := Option.some.inj hf
  have hP : va_P D cls (wL cI cZ cJ cT a b o.2.1 o.2.2) H := by rw [← eo]; exact hP
  rw [hQ]
  refine W.widen (k := 1) (n := 6) (Nat.le_of_ble_eq_true rfl) (Nat.le_of_ble_eq_true rfl) ?_
  exact vx_ret (W.iret hx hb hr (fun t ht hW => ⟨⟨_, (), rfl, (by rw [← eo]), P_at ht hP⟩, hS.F ht⟩) hS.2.2 dL_readOld_28 hlocks)
set_option maxRecDepth 20000 in
theorem ggL_quota_X6_quota : GoodIn wsL_quota wsX6_quota := goodIn_ca (goodIn_ca (goodIn_r _ [6, 7, 8, 9, 10, 11, 12, 13, 5, 14, 15, 16, 17, 18, 19, 20, 21, 22, 23, 24, 25] (by decide +kernel) (by decide +kernel)) (goodIn_sub (fun _ h => List.mem_cons_of_mem _ (List.mem_append_left _ (List.mem_append_right _ h))) (by decide +kernel))) (goodIn_sub (fun _ h => List.mem_cons_of_mem _ (List.mem_append_right _ h)) (by decide +kernel))
set_option maxRecDepth 20000 in
theorem gL_quota_X6_quota : GoodIn wsL_quota (wsV RL 94 RX6 yX6_quota wsX6_quota) := goodIn_app (goodIn_of _ (by decide +kernel)) ggL_quota_X6_quota
theorem dL_quota_0 : decode cL_quota 0 = .ok (.aload_n 3, 1) := by decide +kernel
theorem dL_quota_1 : decode cL_quota 1 = .ok (.iconst 0, 1) := by decide +kernel
theorem dL_quota_2 : decode cL_quota 2 = .ok (.aload_n 0, 1) := by decide +kernel
theorem dL_quota_3 : decode cL_quota 3 = .ok (.iload_n 1, 1) := by decide +kernel
theorem dL_quota_4 : decode cL_quota 4 = .ok (.iload_n 2, 1) := by decide +kernel
theorem dL_quota_5 : decode cL_quota 5 = .ok (.invokevirtual 94, 3) := by decide +kernel
theorem dL_quota_8 : decode cL_quota 8 = .ok (.i2l, 1) := by decide +kernel
theorem dL_quota_9 : decode cL_quota 9 = .ok (.lastore, 1) := by decide +kernel
theorem dL_quota_10 : decode cL_quota 10 = .ok (.goto 11, 3) := by decide +kernel
theorem dL_quota_13 : decode cL_quota 13 = .ok (.astore 4, 2) := by decide +kernel
theorem dL_quota_15 : decode cL_quota 15 = .ok (.iconst 1, 1) := by decide +kernel
theorem dL_quota_16 : decode cL_quota 16 = .ok (.ireturn, 1) := by decide +kernel
theorem dL_quota_17 : decode cL_quota 17 = .ok (.astore 4, 2) := by decide +kernel
theorem dL_quota_19 : decode cL_quota 19 = .ok (.iconst 2, 1) := by decide +kernel
theorem dL_quota_20 : decode cL_quota 20 = .ok (.ireturn, 1) := by decide +kernel
theorem dL_quota_21 : decode cL_quota 21 = .ok (.iconst 0, 1) := by decide +kernel
theorem dL_quota_22 : decode cL_quota 22 = .ok (.ireturn, 1) := by decide +kernel
def f_L_quota (U : S2) (g : Nat → Int64) (p1 : Int32) (p2 : Int32) : Option (Int32 × S2 × (Nat → Int64)) := bn (f_X6_quota U p1 p2) (fun z_1 => if z_1.1 = 0 then some (0, z_1.2.2, setL g z_1.2.1.toInt64) else if z_1.1 = 2 then some (1, z_1.2.2, g) else if z_1.1 = 1 then some (2, z_1.2.2, g) else none)
def wsML_quota : List Cond := wsL_quota ++ LK
def rmL_quota : Room := { frames := 7, cells := 1, slots := 6, locals := 113 }
set_option maxHeartbeats 4000000 in
set_option maxRecDepth 100000 in
theorem c_L_quota (l : Launch) (hst : l.stackTraces = false) (D : va_G) (cI cZ cJ cT : ClassId) (a : Nat → Nat → Nat) (b : Nat) (sz : Nat) (U : S2) (g : Nat → Int64) (p1 : Int32) (p2 : Int32) (o : Int32 × S2 × (Nat → Int64)) (hf : f_L_quota U g p1 p2 = some o) : vx_Met l yL_quota wsML_quota rmL_quota (va_Pc [.ref (a 0 0), .int p1, .int p2, .ref b] (PL D cls (tys cI cZ cJ cT) (wL cI cZ cJ cT a b U g) sz)) (QWi D cls o.1 (wL cI cZ cJ cT a b o.2.1 o.2.2) (va_A (wL cI cZ cJ cT a b U g) sz)) (vx_X (fun (_ : Unit) => False) (fun _ _ _ => True) (va_A (wL cI cZ cJ cT a b U g) sz)) 1 6 (va_A (wL cI cZ cJ cT a b U g) sz) := by
  refine vx_ofWH (cc := cL_quota) (maxL := 5) (ret := (some .int)) (by decide) rfl ?_
  intro p e s m args below meth c s₁ B hml hv
  obtain ⟨hav, ⟨⟨hsz, hP, hK, hD0⟩, hE⟩, hN⟩ := hv
  have hx := B.exec
  have hb := B.bytes
  have hr := B.returns
  have hlocks := B.notSynchronized
  have hts := atoms_spec (ws := wsML_quota) B.pre
  have hown : s.vm.findClass RL = some m.cls := findClass_of_methodNamed B.named
  have htb : c.exceptionTable.toList = [⟨0, 10, 13, 13⟩, ⟨0, 10, 17, 19⟩] := vx_table (x := yL_quota) B (hts _ (List.mem_append_left _ List.mem_cons_self))
  subst hsz
  have hD := hD0.self (sz := s.heap.size)
  generalize hAe : va_A (wL cI cZ cJ cT a b U g) s.heap.size = A at hD hE ⊢
  have hA : ∀ q : Nat, s.heap.size ≤ q → A q := fun q h => by rw [← hAe]; exact Or.inr h
  have hS : va_S A s.heap s.heap [] := va_S.rf
  have hDD : ∀ (V : S2) (k : Nat → Int64), va_D A (wL cI cZ cJ cT a b V k) := fun _ _ => D_same (w := (wL cI cZ cJ cT a b U g)) rfl hD
  refine Wq (fun Q hQ => ?_)
  refine W_entry hav (Nat.le_of_ble_eq_true rfl) (fun ls hl => ?_)
  have hl : lv_has ls 5 [(0, .ref (a 0 0)), (1, .int p1), (2, .int p2), (3, .ref b)] := hl
  unfold f_L_quota at hf
  refine W_heap hP hS (fun H locs hP hS => ?_)
  refine lv_aload_n hx hb dL_quota_0 rfl (lv_at hl 3 rfl) ?_
  refine lv_iconst (v := 0) hx hb dL_quota_1 (by decide) ?_
  refine lv_aload_n hx hb dL_quota_2 rfl (lv_at hl 0 rfl) ?_
  refine lv_iload_n hx hb dL_quota_3 rfl (lv_at hl 1 rfl) ?_
  refine lv_iload_n hx hb dL_quota_4 rfl (lv_at hl 2 rfl) ?_
  obtain ⟨z_1, hz_1, hf⟩ := bn_some hf
  refine cYVi (As := [.int p1, .int p2]) (rest := [.int 0, .ref b]) ⟨hx, hb, hml, hown, hts⟩ (c_X6_quota l hst D cI cZ cJ cT a H.size U p1 p2 z_1 hz_1) (cwV 2 hts (gM_sub gL_quota_X6_quota) rfl rfl rfl (by decide +kernel) ⟨Nat.le_of_ble_eq_true rfl, Nat.le_of_ble_eq_true rfl⟩) (fl_sub hP 0 rfl) hK (fl_subD (hDD U g) 0 rfl) hE hS (fl_free (hDD U g) hS hA 0 rfl) (va_recv hK (fl_sub (fl_sub hP 0 rfl) 0 rfl) (ci := 6) (q0 := 0) rfl rfl) rfl rfl hl.1 (Nat.le_of_ble_eq_true rfl) dL_quota_5 ⟨Nat.le_of_ble_eq_true rfl, Nat.le_of_ble_eq_true rfl⟩ (fun E ce q9 H1 locs k_2 hE9 hP1 hk1 hS hce hcv hcl => ?_) (fun H1 locs k_2 hP1 hk1 hS => ?_)
  · have hf := ite_f hf k_2
    have hP : va_P D cls (wL cI cZ cJ cT a b z_1.2.2 g) H1 := fl_join hP (hDD U g) 0 rfl hk1 hP1
    clear hP1 hk1
    generalize H1 = H at hP hS hce ⊢
    by_cases e_3 : z_1.1 = 2
    · have hf := ite_t hf e_3
      have hE8 : E = "java/lang/IndexOutOfBoundsException" := by rw [hE9, e_3]; rfl
      subst hE8
      refine vx_catch hown [] ⟨0, 10, 13, 13⟩ [⟨0, 10, 17, 19⟩] htb (fun z hz => absurd hz List.not_mem_nil) (by decide) (by decide) (hts (.classLink RL 13 "java/lang/IndexOutOfBoundsException") (List.mem_append_right _ (by decide +kernel))) (EX_bad hE (by decide +kernel)) hce hcv hcl ?_
      refine lv_astore (lv' := [(4, .ref q9), (0, .ref (a 0 0)), (1, .int p1), (2, .int p2), (3, .ref b)]) hx hb dL_quota_13 hl (by decide) rfl (fun ls hl => ?_)
      refine lv_iconst (v := 1) hx hb dL_quota_15 (by decide) ?_
      have eo := Option.some.inj hf
      have hP : va_P D cls (wL cI cZ cJ cT a b o.2.1 o.2.2) H := by rw [← eo]; exact hP
      rw [hQ]
      refine W.widen (k := 1) (n := 6) (Nat.le_of_ble_eq_true rfl) (Nat.le_of_ble_eq_true rfl) ?_
      exact vx_ret (W.iret hx hb hr (fun t ht hW => ⟨⟨_, (), rfl, (by rw [← eo]), P_at ht hP⟩, hS.F ht⟩) hS.2.2 dL_quota_16 hlocks)
    have hf := ite_f hf e_3
    by_cases e_4 : z_1.1 = 1
    · have hf := ite_t hf e_4
      have hE8 : E = "java/lang/IllegalArgumentException" := by rw [hE9, e_4]; rfl
      subst hE8
      refine vx_catch hown [⟨0, 10, 13, 13⟩] ⟨0, 10, 17, 19⟩ [] htb (List.forall_mem_cons.mpr ⟨Or.inr ⟨by decide, "java/lang/IndexOutOfBoundsException", hts (.classLink RL 13 "java/lang/IndexOutOfBoundsException") (List.mem_append_right _ (by decide +kernel)), hN 1 2 (by decide) (by decide) (by decide)⟩, fun z hz => absurd hz List.not_mem_nil⟩) (by decide) (by decide) (hts (.classLink RL 19 "java/lang/IllegalArgumentException") (List.mem_append_right _ (by decide +kernel))) (EX_bad hE (by decide +kernel)) hce hcv hcl ?_
      refine lv_astore (lv' := [(4, .ref q9), (0, .ref (a 0 0)), (1, .int p1), (2, .int p2), (3, .ref b)]) hx hb dL_quota_17 hl (by decide) rfl (fun ls hl => ?_)
      refine lv_iconst (v := 2) hx hb dL_quota_19 (by decide) ?_
      have eo := Option.some.inj hf
      have hP : va_P D cls (wL cI cZ cJ cT a b o.2.1 o.2.2) H := by rw [← eo]; exact hP
      rw [hQ]
      refine W.widen (k := 1) (n := 6) (Nat.le_of_ble_eq_true rfl) (Nat.le_of_ble_eq_true rfl) ?_
      exact vx_ret (W.iret hx hb hr (fun t ht hW => ⟨⟨_, (), rfl, (by rw [← eo]), P_at ht hP⟩, hS.F ht⟩) hS.2.2 dL_quota_20 hlocks)
    have hf := ite_f hf e_4
    exact nomatch hf
  have hf := ite_t hf k_2
  have hP : va_P D cls (wL cI cZ cJ cT a b z_1.2.2 g) H1 := fl_join hP (hDD U g) 0 rfl hk1 hP1
  clear hP1 hk1
  generalize H1 = H at hP hS ⊢
  refine lv_i2l (v := z_1.2.1.toInt64) hx hb dL_quota_8 rfl ?_
  refine va_last hx hb hK hP (hDD z_1.2.2 g) hS 86 2 rfl rfl (inb_in (i := 0) (n := 1) (by decide)) dL_quota_9 (fun H locs hP _ hS => ?_)
  have hP : va_P D cls (wL cI cZ cJ cT a b z_1.2.2 (setL g z_1.2.1.toInt64)) H := hP
  refine lv_goto (tgt := 21) hx hb dL_quota_10 (by decide) ?_
  refine lv_iconst (v := 0) hx hb dL_quota_21 (by decide) ?_
  have eo := Option.some.inj hf
  have hP : va_P D cls (wL cI cZ cJ cT a b o.2.1 o.2.2) H := by rw [← eo]; exact hP
  rw [hQ]
  refine W.widen (k := 1) (n := 6) (Nat.le_of_ble_eq_true rfl) (Nat.le_of_ble_eq_true rfl) ?_
  exact vx_ret (W.iret hx hb hr (fun t ht hW => ⟨⟨_, (), rfl, (by rw [← eo]), P_at ht hP⟩, hS.F ht⟩) hS.2.2 dL_quota_22 hlocks)
set_option maxRecDepth 20000 in
theorem ggL_bad_X6_bad : GoodIn wsL_bad wsX6_bad := goodIn_ca (goodIn_r _ [6, 7, 8, 9, 5, 10, 11, 12, 13, 14, 15, 16, 17, 18, 19, 20, 21, 22, 23, 24, 25, 26, 27, 28, 29, 30, 31, 32, 33, 34, 35, 36, 37, 38] (by decide +kernel) (by decide +kernel)) (goodIn_sub (fun _ h => List.mem_cons_of_mem _ (List.mem_append_right _ h)) (by decide +kernel))
set_option maxRecDepth 20000 in
theorem gL_bad_X6_bad : GoodIn wsL_bad (wsV RL 97 RX6 yX6_bad wsX6_bad) := goodIn_app (goodIn_of _ (by decide +kernel)) ggL_bad_X6_bad
theorem dL_bad_0 : decode cL_bad 0 = .ok (.aload_n 3, 1) := by decide +kernel
theorem dL_bad_1 : decode cL_bad 1 = .ok (.iconst 0, 1) := by decide +kernel
theorem dL_bad_2 : decode cL_bad 2 = .ok (.aload_n 0, 1) := by decide +kernel
theorem dL_bad_3 : decode cL_bad 3 = .ok (.iload_n 1, 1) := by decide +kernel
theorem dL_bad_4 : decode cL_bad 4 = .ok (.iload_n 2, 1) := by decide +kernel
theorem dL_bad_5 : decode cL_bad 5 = .ok (.invokevirtual 97, 3) := by decide +kernel
theorem dL_bad_8 : decode cL_bad 8 = .ok (.ifCond .eq 7, 3) := by decide +kernel
theorem dL_bad_11 : decode cL_bad 11 = .ok (.lconst 1, 1) := by decide +kernel
theorem dL_bad_12 : decode cL_bad 12 = .ok (.goto 4, 3) := by decide +kernel
theorem dL_bad_15 : decode cL_bad 15 = .ok (.lconst 0, 1) := by decide +kernel
theorem dL_bad_16 : decode cL_bad 16 = .ok (.lastore, 1) := by decide +kernel
theorem dL_bad_17 : decode cL_bad 17 = .ok (.goto 7, 3) := by decide +kernel
theorem dL_bad_20 : decode cL_bad 20 = .ok (.astore 4, 2) := by decide +kernel
theorem dL_bad_22 : decode cL_bad 22 = .ok (.iconst 1, 1) := by decide +kernel
theorem dL_bad_23 : decode cL_bad 23 = .ok (.ireturn, 1) := by decide +kernel
theorem dL_bad_24 : decode cL_bad 24 = .ok (.iconst 0, 1) := by decide +kernel
theorem dL_bad_25 : decode cL_bad 25 = .ok (.ireturn, 1) := by decide +kernel
def f_L_bad (U : S2) (g : Nat → Int64) (p1 : Int32) (p2 : Int32) : Option (Int32 × S2 × (Nat → Int64)) := bn (f_X6_bad U p1 p2) (fun z_1 => if z_1.1 = 0 then if z_1.2.1 = 0 then some (0, z_1.2.2, setL g 0) else some (0, z_1.2.2, setL g 1) else if z_1.1 = 2 then some (1, z_1.2.2, g) else none)
def wsML_bad : List Cond := wsL_bad ++ LK
def rmL_bad : Room := { frames := 8, cells := 1, slots := 6, locals := 133 }
set_option maxHeartbeats 4000000 in
set_option maxRecDepth 100000 in
theorem c_L_bad (l : Launch) (hst : l.stackTraces = false) (D : va_G) (cI cZ cJ cT : ClassId) (a : Nat → Nat → Nat) (b : Nat) (sz : Nat) (U : S2) (g : Nat → Int64) (p1 : Int32) (p2 : Int32) (o : Int32 × S2 × (Nat → Int64)) (hf : f_L_bad U g p1 p2 = some o) : vx_Met l yL_bad wsML_bad rmL_bad (va_Pc [.ref (a 0 0), .int p1, .int p2, .ref b] (PL D cls (tys cI cZ cJ cT) (wL cI cZ cJ cT a b U g) sz)) (QWi D cls o.1 (wL cI cZ cJ cT a b o.2.1 o.2.2) (va_A (wL cI cZ cJ cT a b U g) sz)) (vx_X (fun (_ : Unit) => False) (fun _ _ _ => True) (va_A (wL cI cZ cJ cT a b U g) sz)) 1 6 (va_A (wL cI cZ cJ cT a b U g) sz) := by
  refine vx_ofWH (cc := cL_bad) (maxL := 5) (ret := (some .int)) (by decide) rfl ?_
  intro p e s m args below meth c s₁ B hml hv
  obtain ⟨hav, ⟨⟨hsz, hP, hK, hD0⟩, hE⟩, hN⟩ := hv
  have hx := B.exec
  have hb := B.bytes
  have hr := B.returns
  have hlocks := B.notSynchronized
  have hts := atoms_spec (ws := wsML_bad) B.pre
  have hown : s.vm.findClass RL = some m.cls := findClass_of_methodNamed B.named
  have htb : c.exceptionTable.toList = [⟨0, 17, 20, 13⟩] := vx_table (x := yL_bad) B (hts _ (List.mem_append_left _ List.mem_cons_self))
  subst hsz
  have hD := hD0.self (sz := s.heap.size)
  generalize hAe : va_A (wL cI cZ cJ cT a b U g) s.heap.size = A at hD hE ⊢
  have hA : ∀ q : Nat, s.heap.size ≤ q → A q := fun q h => by rw [← hAe]; exact Or.inr h
  have hS : va_S A s.heap s.heap [] := va_S.rf
  have hDD : ∀ (V : S2) (k : Nat → Int64), va_D A (wL cI cZ cJ cT a b V k) := fun _ _ => D_same (w := (wL cI cZ cJ cT a b U g)) rfl hD
  refine Wq (fun Q hQ => ?_)
  refine W_entry hav (Nat.le_of_ble_eq_true rfl) (fun ls hl => ?_)
  have hl : lv_has ls 5 [(0, .ref (a 0 0)), (1, .int p1), (2, .int p2), (3, .ref b)] := hl
  unfold f_L_bad at hf
  refine W_heap hP hS (fun H locs hP hS => ?_)
  refine lv_aload_n hx hb dL_bad_0 rfl (lv_at hl 3 rfl) ?_
  refine lv_iconst (v := 0) hx hb dL_bad_1 (by decide) ?_
  refine lv_aload_n hx hb dL_bad_2 rfl (lv_at hl 0 rfl) ?_
  refine lv_iload_n hx hb dL_bad_3 rfl (lv_at hl 1 rfl) ?_
  refine lv_iload_n hx hb dL_bad_4 rfl (lv_at hl 2 rfl) ?_
  obtain ⟨z_1, hz_1, hf⟩ := bn_some hf
  refine cYVi (As := [.int p1, .int p2]) (rest := [.int 0, .ref b]) ⟨hx, hb, hml, hown, hts⟩ (c_X6_bad l hst D cI cZ cJ cT a H.size U p1 p2 z_1 hz_1) (cwV 2 hts (gM_sub gL_bad_X6_bad) rfl rfl rfl (by decide +kernel) ⟨Nat.le_of_ble_eq_true rfl, Nat.le_of_ble_eq_true rfl⟩) (fl_sub hP 0 rfl) hK (fl_subD (hDD U g) 0 rfl) hE hS (fl_free (hDD U g) hS hA 0 rfl) (va_recv hK (fl_sub (fl_sub hP 0 rfl) 0 rfl) (ci := 6) (q0 := 0) rfl rfl) rfl rfl hl.1 (Nat.le_of_ble_eq_true rfl) dL_bad_5 ⟨Nat.le_of_ble_eq_true rfl, Nat.le_of_ble_eq_true rfl⟩ (fun E ce q9 H1 locs k_2 hE9 hP1 hk1 hS hce hcv hcl => ?_) (fun H1 locs k_2 hP1 hk1 hS => ?_)
  · have hf := ite_f hf k_2
    have hP : va_P D cls (wL cI cZ cJ cT a b z_1.2.2 g) H1 := fl_join hP (hDD U g) 0 rfl hk1 hP1
    clear hP1 hk1
    generalize H1 = H at hP hS hce ⊢
    by_cases e_3 : z_1.1 = 2
    · have hf := ite_t hf e_3
      have hE8 : E = "java/lang/IndexOutOfBoundsException" := by rw [hE9, e_3]; rfl
      subst hE8
      refine vx_catch hown [] ⟨0, 17, 20, 13⟩ [] htb (fun z hz => absurd hz List.not_mem_nil) (by decide) (by decide) (hts (.classLink RL 13 "java/lang/IndexOutOfBoundsException") (List.mem_append_right _ (by decide +kernel))) (EX_bad hE (by decide +kernel)) hce hcv hcl ?_
      refine lv_astore (lv' := [(4, .ref q9), (0, .ref (a 0 0)), (1, .int p1), (2, .int p2), (3, .ref b)]) hx hb dL_bad_20 hl (by decide) rfl (fun ls hl => ?_)
      refine lv_iconst (v := 1) hx hb dL_bad_22 (by decide) ?_
      have eo := Option.some.inj hf
      have hP : va_P D cls (wL cI cZ cJ cT a b o.2.1 o.2.2) H := by rw [← eo]; exact hP
      rw [hQ]
      refine W.widen (k := 1) (n := 6) (Nat.le_of_ble_eq_true rfl) (Nat.le_of_ble_eq_true rfl) ?_
      exact vx_ret (W.iret hx hb hr (fun t ht hW => ⟨⟨_, (), rfl, (by rw [← eo]), P_at ht hP⟩, hS.F ht⟩) hS.2.2 dL_bad_23 hlocks)
    have hf := ite_f hf e_3
    exact nomatch hf
  have hf := ite_t hf k_2
  have hP : va_P D cls (wL cI cZ cJ cT a b z_1.2.2 g) H1 := fl_join hP (hDD U g) 0 rfl hk1 hP1
  clear hP1 hk1
  generalize H1 = H at hP hS ⊢
  refine lv_if_eq (tgt := 15) hx hb dL_bad_8 (by decide) (fun c_4 => ?_) (fun c_4 => ?_)
  · have hf := ite_t hf c_4
    refine lv_lconst (v := 0) hx hb dL_bad_15 (by decide) ?_
    refine va_last hx hb hK hP (hDD z_1.2.2 g) hS 86 2 rfl rfl (inb_in (i := 0) (n := 1) (by decide)) dL_bad_16 (fun H locs hP _ hS => ?_)
    have hP : va_P D cls (wL cI cZ cJ cT a b z_1.2.2 (setL g 0)) H := hP
    refine lv_goto (tgt := 24) hx hb dL_bad_17 (by decide) ?_
    refine lv_iconst (v := 0) hx hb dL_bad_24 (by decide) ?_
    have eo := Option.some.inj hf
    have hP : va_P D cls (wL cI cZ cJ cT a b o.2.1 o.2.2) H := by rw [← eo]; exact hP
    rw [hQ]
    refine W.widen (k := 1) (n := 6) (Nat.le_of_ble_eq_true rfl) (Nat.le_of_ble_eq_true rfl) ?_
    exact vx_ret (W.iret hx hb hr (fun t ht hW => ⟨⟨_, (), rfl, (by rw [← eo]), P_at ht hP⟩, hS.F ht⟩) hS.2.2 dL_bad_25 hlocks)
  · have hf := ite_f hf c_4
    refine lv_lconst (v := 1) hx hb dL_bad_11 (by decide) ?_
    refine lv_goto (tgt := 16) hx hb dL_bad_12 (by decide) ?_
    refine va_last hx hb hK hP (hDD z_1.2.2 g) hS 86 2 rfl rfl (inb_in (i := 0) (n := 1) (by decide)) dL_bad_16 (fun H locs hP _ hS => ?_)
    have hP : va_P D cls (wL cI cZ cJ cT a b z_1.2.2 (setL g 1)) H := hP
    refine lv_goto (tgt := 24) hx hb dL_bad_17 (by decide) ?_
    refine lv_iconst (v := 0) hx hb dL_bad_24 (by decide) ?_
    have eo := Option.some.inj hf
    have hP : va_P D cls (wL cI cZ cJ cT a b o.2.1 o.2.2) H := by rw [← eo]; exact hP
    rw [hQ]
    refine W.widen (k := 1) (n := 6) (Nat.le_of_ble_eq_true rfl) (Nat.le_of_ble_eq_true rfl) ?_
    exact vx_ret (W.iret hx hb hr (fun t ht hW => ⟨⟨_, (), rfl, (by rw [← eo]), P_at ht hP⟩, hS.F ht⟩) hS.2.2 dL_bad_25 hlocks)
set_option maxRecDepth 20000 in
theorem ggL_damage_X6_damage : GoodIn wsL_damage wsX6_damage := goodIn_ca (goodIn_ca (goodIn_ca (goodIn_r _ [6, 7, 8, 9, 10, 11, 12, 5, 13, 14, 15, 16, 17, 18, 19, 20, 21, 22, 23, 24, 25, 26, 27, 28, 29, 30, 31, 32, 33, 34, 35, 36, 37, 38, 39, 40, 41, 42, 43, 44, 45, 46, 47, 48, 49, 50, 51, 52, 53, 54, 55, 56, 57, 58, 59, 60, 61, 62, 63, 64, 65, 66, 67, 68, 69, 70, 71, 72, 73, 74, 75, 76, 77, 78, 79, 80, 81, 82, 83, 84, 85, 86, 87, 88, 89, 90, 91, 92, 93, 94, 95, 96, 97, 98, 99, 100, 101, 102, 103, 104, 105, 106, 107, 108, 109, 110, 111, 112, 113, 114, 115, 116, 117, 118, 119, 120, 121, 122, 123, 124, 125, 126, 127, 128, 129, 130, 131, 132, 133, 134, 135, 136, 137, 138, 139, 140] (by decide +kernel) (by decide +kernel)) (goodIn_sub (fun _ h => List.mem_cons_of_mem _ (List.mem_append_left _ (List.mem_append_left _ (List.mem_append_right _ h)))) (by decide +kernel))) (goodIn_sub (fun _ h => List.mem_cons_of_mem _ (List.mem_append_left _ (List.mem_append_right _ h))) (by decide +kernel))) (goodIn_sub (fun _ h => List.mem_cons_of_mem _ (List.mem_append_right _ h)) (by decide +kernel))
set_option maxRecDepth 20000 in
theorem gL_damage_X6_damage : GoodIn wsL_damage (wsV RL 101 RX6 yX6_damage wsX6_damage) := goodIn_app (goodIn_of _ (by decide +kernel)) ggL_damage_X6_damage
theorem dL_damage_0 : decode cL_damage 0 = .ok (.aload_n 0, 1) := by decide +kernel
theorem dL_damage_1 : decode cL_damage 1 = .ok (.iload_n 1, 1) := by decide +kernel
theorem dL_damage_2 : decode cL_damage 2 = .ok (.iload_n 2, 1) := by decide +kernel
theorem dL_damage_3 : decode cL_damage 3 = .ok (.iload_n 3, 1) := by decide +kernel
theorem dL_damage_4 : decode cL_damage 4 = .ok (.invokevirtual 101, 3) := by decide +kernel
theorem dL_damage_7 : decode cL_damage 7 = .ok (.goto 15, 3) := by decide +kernel
theorem dL_damage_10 : decode cL_damage 10 = .ok (.astore 4, 2) := by decide +kernel
theorem dL_damage_12 : decode cL_damage 12 = .ok (.iconst 1, 1) := by decide +kernel
theorem dL_damage_13 : decode cL_damage 13 = .ok (.ireturn, 1) := by decide +kernel
theorem dL_damage_14 : decode cL_damage 14 = .ok (.astore 4, 2) := by decide +kernel
theorem dL_damage_16 : decode cL_damage 16 = .ok (.iconst 2, 1) := by decide +kernel
theorem dL_damage_17 : decode cL_damage 17 = .ok (.ireturn, 1) := by decide +kernel
theorem dL_damage_18 : decode cL_damage 18 = .ok (.astore 4, 2) := by decide +kernel
theorem dL_damage_20 : decode cL_damage 20 = .ok (.iconst 3, 1) := by decide +kernel
theorem dL_damage_21 : decode cL_damage 21 = .ok (.ireturn, 1) := by decide +kernel
theorem dL_damage_22 : decode cL_damage 22 = .ok (.iconst 0, 1) := by decide +kernel
theorem dL_damage_23 : decode cL_damage 23 = .ok (.ireturn, 1) := by decide +kernel
def f_L_damage (U : S2) (p1 : Int32) (p2 : Int32) (p3 : Int32) : Option (Int32 × S2) := bn (f_X6_damage U p1 p2 p3) (fun z_1 => if z_1.1 = 0 then some (0, z_1.2.2) else if z_1.1 = 1 then some (1, z_1.2.2) else if z_1.1 = 2 then some (2, z_1.2.2) else if z_1.1 = 3 then some (3, z_1.2.2) else none)
def wsML_damage : List Cond := wsL_damage ++ LK
def rmL_damage : Room := { frames := 8, cells := 3, slots := 18, locals := 136 }
set_option maxHeartbeats 4000000 in
set_option maxRecDepth 100000 in
theorem c_L_damage (l : Launch) (hst : l.stackTraces = false) (D : va_G) (cI cZ cJ cT : ClassId) (a : Nat → Nat → Nat) (sz : Nat) (U : S2) (p1 : Int32) (p2 : Int32) (p3 : Int32) (o : Int32 × S2) (hf : f_L_damage U p1 p2 p3 = some o) : vx_Met l yL_damage wsML_damage rmL_damage (va_Pc [.ref (a 0 0), .int p1, .int p2, .int p3] (PL D cls (tys cI cZ cJ cT) (wI cI cZ cT a U) sz)) (QWi D cls o.1 (wI cI cZ cT a o.2) (va_A (wI cI cZ cT a U) sz)) (vx_X (fun (_ : Unit) => False) (fun _ _ _ => True) (va_A (wI cI cZ cT a U) sz)) 3 18 (va_A (wI cI cZ cT a U) sz) := by
  refine vx_ofWH (cc := cL_damage) (maxL := 5) (ret := (some .int)) (by decide) rfl ?_
  intro p e s m args below meth c s₁ B hml hv
  obtain ⟨hav, ⟨⟨hsz, hP, hK, hD0⟩, hE⟩, hN⟩ := hv
  have hx := B.exec
  have hb := B.bytes
  have hr := B.returns
  have hlocks := B.notSynchronized
  have hts := atoms_spec (ws := wsML_damage) B.pre
  have hown : s.vm.findClass RL = some m.cls := findClass_of_methodNamed B.named
  have htb : c.exceptionTable.toList = [⟨0, 7, 10, 19⟩, ⟨0, 7, 14, 13⟩, ⟨0, 7, 18, 21⟩] := vx_table (x := yL_damage) B (hts _ (List.mem_append_left _ List.mem_cons_self))
  subst hsz
  have hD := hD0.self (sz := s.heap.size)
  generalize hAe : va_A (wI cI cZ cT a U) s.heap.size = A at hD hE ⊢
  have hA : ∀ q : Nat, s.heap.size ≤ q → A q := fun q h => by rw [← hAe]; exact Or.inr h
  have hS : va_S A s.heap s.heap [] := va_S.rf
  have hDD : ∀ (V : S2), va_D A (wI cI cZ cT a V) := fun _ => D_same (w := (wI cI cZ cT a U)) rfl hD
  refine Wq (fun Q hQ => ?_)
  refine W_entry hav (Nat.le_of_ble_eq_true rfl) (fun ls hl => ?_)
  have hl : lv_has ls 5 [(0, .ref (a 0 0)), (1, .int p1), (2, .int p2), (3, .int p3)] := hl
  unfold f_L_damage at hf
  refine W_heap hP hS (fun H locs hP hS => ?_)
  refine lv_aload_n hx hb dL_damage_0 rfl (lv_at hl 0 rfl) ?_
  refine lv_iload_n hx hb dL_damage_1 rfl (lv_at hl 1 rfl) ?_
  refine lv_iload_n hx hb dL_damage_2 rfl (lv_at hl 2 rfl) ?_
  refine lv_iload_n hx hb dL_damage_3 rfl (lv_at hl 3 rfl) ?_
  obtain ⟨z_1, hz_1, hf⟩ := bn_some hf
  refine cYVv (As := [.int p1, .int p2, .int p3]) (rest := []) ⟨hx, hb, hml, hown, hts⟩ (c_X6_damage l hst D cI cZ cJ cT a H.size U p1 p2 p3 z_1 hz_1) (cwV 3 hts (gM_sub gL_damage_X6_damage) rfl rfl rfl (by decide +kernel) ⟨Nat.le_of_ble_eq_true rfl, Nat.le_of_ble_eq_true rfl⟩) hP hK (hDD U) hE hS (own_free (hDD U) hS hA) (va_recv hK (fl_sub hP 0 rfl) (ci := 6) (q0 := 0) rfl rfl) rfl rfl hl.1 (Nat.le_of_ble_eq_true rfl) dL_damage_4 ⟨Nat.le_of_ble_eq_true rfl, Nat.le_of_ble_eq_true rfl⟩ (fun E ce q9 H1 locs k_2 hE9 hP1 hk1 hS hce hcv hcl => ?_) (fun H1 locs k_2 hP1 hk1 hS => ?_)
  · have hf := ite_f hf k_2
    have hP : va_P D cls (wI cI cZ cT a z_1.2.2) H1 := hP1
    clear hP1 hk1
    generalize H1 = H at hP hS hce ⊢
    by_cases e_3 : z_1.1 = 1
    · have hf := ite_t hf e_3
      have hE8 : E = "java/lang/IllegalArgumentException" := by rw [hE9, e_3]; rfl
      subst hE8
      refine vx_catch hown [] ⟨0, 7, 10, 19⟩ [⟨0, 7, 14, 13⟩, ⟨0, 7, 18, 21⟩] htb (fun z hz => absurd hz List.not_mem_nil) (by decide) (by decide) (hts (.classLink RL 19 "java/lang/IllegalArgumentException") (List.mem_append_right _ (by decide +kernel))) (EX_bad hE (by decide +kernel)) hce hcv hcl ?_
      refine lv_astore (lv' := [(4, .ref q9), (0, .ref (a 0 0)), (1, .int p1), (2, .int p2), (3, .int p3)]) hx hb dL_damage_10 hl (by decide) rfl (fun ls hl => ?_)
      refine lv_iconst (v := 1) hx hb dL_damage_12 (by decide) ?_
      have eo := Option.some.inj hf
      have hP : va_P D cls (wI cI cZ cT a o.2) H := by rw [← eo]; exact hP
      rw [hQ]
      refine W.widen (k := 3) (n := 18) (Nat.le_of_ble_eq_true rfl) (Nat.le_of_ble_eq_true rfl) ?_
      exact vx_ret (W.iret hx hb hr (fun t ht hW => ⟨⟨_, (), rfl, (by rw [← eo]), P_at ht hP⟩, hS.F ht⟩) hS.2.2 dL_damage_13 hlocks)
    have hf := ite_f hf e_3
    by_cases e_4 : z_1.1 = 2
    · have hf := ite_t hf e_4
      have hE8 : E = "java/lang/IndexOutOfBoundsException" := by rw [hE9, e_4]; rfl
      subst hE8
      refine vx_catch hown [⟨0, 7, 10, 19⟩] ⟨0, 7, 14, 13⟩ [⟨0, 7, 18, 21⟩] htb (List.forall_mem_cons.mpr ⟨Or.inr ⟨by decide, "java/lang/IllegalArgumentException", hts (.classLink RL 19 "java/lang/IllegalArgumentException") (List.mem_append_right _ (by decide +kernel)), hN 2 1 (by decide) (by decide) (by decide)⟩, fun z hz => absurd hz List.not_mem_nil⟩) (by decide) (by decide) (hts (.classLink RL 13 "java/lang/IndexOutOfBoundsException") (List.mem_append_right _ (by decide +kernel))) (EX_bad hE (by decide +kernel)) hce hcv hcl ?_
      refine lv_astore (lv' := [(4, .ref q9), (0, .ref (a 0 0)), (1, .int p1), (2, .int p2), (3, .int p3)]) hx hb dL_damage_14 hl (by decide) rfl (fun ls hl => ?_)
      refine lv_iconst (v := 2) hx hb dL_damage_16 (by decide) ?_
      have eo := Option.some.inj hf
      have hP : va_P D cls (wI cI cZ cT a o.2) H := by rw [← eo]; exact hP
      rw [hQ]
      refine W.widen (k := 3) (n := 18) (Nat.le_of_ble_eq_true rfl) (Nat.le_of_ble_eq_true rfl) ?_
      exact vx_ret (W.iret hx hb hr (fun t ht hW => ⟨⟨_, (), rfl, (by rw [← eo]), P_at ht hP⟩, hS.F ht⟩) hS.2.2 dL_damage_17 hlocks)
    have hf := ite_f hf e_4
    by_cases e_5 : z_1.1 = 3
    · have hf := ite_t hf e_5
      have hE8 : E = "java/lang/IllegalStateException" := by rw [hE9, e_5]; rfl
      subst hE8
      refine vx_catch hown [⟨0, 7, 10, 19⟩, ⟨0, 7, 14, 13⟩] ⟨0, 7, 18, 21⟩ [] htb (List.forall_mem_cons.mpr ⟨Or.inr ⟨by decide, "java/lang/IllegalArgumentException", hts (.classLink RL 19 "java/lang/IllegalArgumentException") (List.mem_append_right _ (by decide +kernel)), hN 3 1 (by decide) (by decide) (by decide)⟩, List.forall_mem_cons.mpr ⟨Or.inr ⟨by decide, "java/lang/IndexOutOfBoundsException", hts (.classLink RL 13 "java/lang/IndexOutOfBoundsException") (List.mem_append_right _ (by decide +kernel)), hN 3 2 (by decide) (by decide) (by decide)⟩, fun z hz => absurd hz List.not_mem_nil⟩⟩) (by decide) (by decide) (hts (.classLink RL 21 "java/lang/IllegalStateException") (List.mem_append_right _ (by decide +kernel))) (EX_bad hE (by decide +kernel)) hce hcv hcl ?_
      refine lv_astore (lv' := [(4, .ref q9), (0, .ref (a 0 0)), (1, .int p1), (2, .int p2), (3, .int p3)]) hx hb dL_damage_18 hl (by decide) rfl (fun ls hl => ?_)
      refine lv_iconst (v := 3) hx hb dL_damage_20 (by decide) ?_
      have eo := Option.some.inj hf
      have hP : va_P D cls (wI cI cZ cT a o.2) H := by rw [← eo]; exact hP
      rw [hQ]
      refine W.widen (k := 3) (n := 18) (Nat.le_of_ble_eq_true rfl) (Nat.le_of_ble_eq_true rfl) ?_
      exact vx_ret (W.iret hx hb hr (fun t ht hW => ⟨⟨_, (), rfl, (by rw [← eo]), P_at ht hP⟩, hS.F ht⟩) hS.2.2 dL_damage_21 hlocks)
    have hf := ite_f hf e_5
    exact nomatch hf
  have hf := ite_t hf k_2
  have hP : va_P D cls (wI cI cZ cT a z_1.2.2) H1 := hP1
  clear hP1 hk1
  generalize H1 = H at hP hS ⊢
  refine lv_goto (tgt := 22) hx hb dL_damage_7 (by decide) ?_
  refine lv_iconst (v := 0) hx hb dL_damage_22 (by decide) ?_
  have eo := Option.some.inj hf
  have hP : va_P D cls (wI cI cZ cT a o.2) H := by rw [← eo]; exact hP
  rw [hQ]
  refine W.widen (k := 3) (n := 18) (Nat.le_of_ble_eq_true rfl) (Nat.le_of_ble_eq_true rfl) ?_
  exact vx_ret (W.iret hx hb hr (fun t ht hW => ⟨⟨_, (), rfl, (by rw [← eo]), P_at ht hP⟩, hS.F ht⟩) hS.2.2 dL_damage_23 hlocks)
set_option maxRecDepth 20000 in
theorem ggL_check_X6_check : GoodIn wsL_check wsX6_check := goodIn_ca (goodIn_r _ [6, 7, 8, 9, 10, 11, 12, 13, 14, 15, 16, 17, 18, 19, 20, 21, 22, 23, 24, 25, 26, 27, 28, 29, 30, 31, 32, 33, 34, 35, 36, 37, 38, 39, 40, 41, 42, 43, 44, 45, 46, 47, 48, 49, 50, 51, 52, 53, 54, 55, 56, 57, 58, 59, 60, 61, 62, 63, 64, 65, 66, 67, 68, 69, 70, 71, 72, 73, 74, 75, 76, 77, 78, 79, 80, 81, 82, 83, 84, 85, 86, 87, 88, 89, 90, 91, 92, 93, 94, 95, 96, 97, 98, 99, 100, 101, 102, 103, 104, 105, 106, 107, 108, 109, 110, 111, 112, 113, 114, 115, 116, 117, 118, 119, 120, 121, 122, 123, 124, 125, 126, 127, 128, 129, 130, 131, 132, 133, 134, 135, 136, 137, 138, 139, 140, 141, 142, 143, 144, 145, 146, 147, 148, 149, 150, 151, 152, 153, 154, 155, 156, 157, 158, 159, 160, 161, 162, 163, 164, 165, 166, 167] (by decide +kernel) (by decide +kernel)) (goodIn_sub (fun _ h => List.mem_cons_of_mem _ (List.mem_append_right _ h)) (by decide +kernel))
set_option maxRecDepth 20000 in
theorem gL_check_X6_check : GoodIn wsL_check (wsV RL 105 RX6 yX6_check wsX6_check) := goodIn_app (goodIn_of _ (by decide +kernel)) ggL_check_X6_check
theorem dL_check_0 : decode cL_check 0 = .ok (.aload_n 1, 1) := by decide +kernel
theorem dL_check_1 : decode cL_check 1 = .ok (.iconst 0, 1) := by decide +kernel
theorem dL_check_2 : decode cL_check 2 = .ok (.aload_n 0, 1) := by decide +kernel
theorem dL_check_3 : decode cL_check 3 = .ok (.invokevirtual 105, 3) := by decide +kernel
theorem dL_check_6 : decode cL_check 6 = .ok (.i2l, 1) := by decide +kernel
theorem dL_check_7 : decode cL_check 7 = .ok (.lastore, 1) := by decide +kernel
theorem dL_check_8 : decode cL_check 8 = .ok (.goto 6, 3) := by decide +kernel
theorem dL_check_11 : decode cL_check 11 = .ok (.astore_n 2, 1) := by decide +kernel
theorem dL_check_12 : decode cL_check 12 = .ok (.iconst 1, 1) := by decide +kernel
theorem dL_check_13 : decode cL_check 13 = .ok (.ireturn, 1) := by decide +kernel
theorem dL_check_14 : decode cL_check 14 = .ok (.iconst 0, 1) := by decide +kernel
theorem dL_check_15 : decode cL_check 15 = .ok (.ireturn, 1) := by decide +kernel
def f_L_check (U : S2) (g : Nat → Int64) : Option (Int32 × S2 × (Nat → Int64)) := bn (f_X6_check U) (fun z_1 => if z_1.1 = 0 then some (0, z_1.2.2, setL g z_1.2.1.toInt64) else if z_1.1 = 3 then some (1, z_1.2.2, g) else none)
def wsML_check : List Cond := wsL_check ++ LK
def rmL_check : Room := { frames := 7, cells := 1, slots := 6, locals := 136 }
set_option maxHeartbeats 4000000 in
set_option maxRecDepth 100000 in
theorem c_L_check (l : Launch) (hst : l.stackTraces = false) (D : va_G) (cI cZ cJ cT : ClassId) (a : Nat → Nat → Nat) (b : Nat) (sz : Nat) (U : S2) (g : Nat → Int64) (o : Int32 × S2 × (Nat → Int64)) (hf : f_L_check U g = some o) : vx_Met l yL_check wsML_check rmL_check (va_Pc [.ref (a 0 0), .ref b] (PL D cls (tys cI cZ cJ cT) (wL cI cZ cJ cT a b U g) sz)) (QWi D cls o.1 (wL cI cZ cJ cT a b o.2.1 o.2.2) (va_A (wL cI cZ cJ cT a b U g) sz)) (vx_X (fun (_ : Unit) => False) (fun _ _ _ => True) (va_A (wL cI cZ cJ cT a b U g) sz)) 1 6 (va_A (wL cI cZ cJ cT a b U g) sz) := by
  refine vx_ofWH (cc := cL_check) (maxL := 3) (ret := (some .int)) (by decide) rfl ?_
  intro p e s m args below meth c s₁ B hml hv
  obtain ⟨hav, ⟨⟨hsz, hP, hK, hD0⟩, hE⟩, hN⟩ := hv
  have hx := B.exec
  have hb := B.bytes
  have hr := B.returns
  have hlocks := B.notSynchronized
  have hts := atoms_spec (ws := wsML_check) B.pre
  have hown : s.vm.findClass RL = some m.cls := findClass_of_methodNamed B.named
  have htb : c.exceptionTable.toList = [⟨0, 8, 11, 21⟩] := vx_table (x := yL_check) B (hts _ (List.mem_append_left _ List.mem_cons_self))
  subst hsz
  have hD := hD0.self (sz := s.heap.size)
  generalize hAe : va_A (wL cI cZ cJ cT a b U g) s.heap.size = A at hD hE ⊢
  have hA : ∀ q : Nat, s.heap.size ≤ q → A q := fun q h => by rw [← hAe]; exact Or.inr h
  have hS : va_S A s.heap s.heap [] := va_S.rf
  have hDD : ∀ (V : S2) (k : Nat → Int64), va_D A (wL cI cZ cJ cT a b V k) := fun _ _ => D_same (w := (wL cI cZ cJ cT a b U g)) rfl hD
  refine Wq (fun Q hQ => ?_)
  refine W_entry hav (Nat.le_of_ble_eq_true rfl) (fun ls hl => ?_)
  have hl : lv_has ls 3 [(0, .ref (a 0 0)), (1, .ref b)] := hl
  unfold f_L_check at hf
  refine W_heap hP hS (fun H locs hP hS => ?_)
  refine lv_aload_n hx hb dL_check_0 rfl (lv_at hl 1 rfl) ?_
  refine lv_iconst (v := 0) hx hb dL_check_1 (by decide) ?_
  refine lv_aload_n hx hb dL_check_2 rfl (lv_at hl 0 rfl) ?_
  obtain ⟨z_1, hz_1, hf⟩ := bn_some hf
  refine cYVi (As := []) (rest := [.int 0, .ref b]) ⟨hx, hb, hml, hown, hts⟩ (c_X6_check l hst D cI cZ cJ cT a H.size U z_1 hz_1) (cwV 0 hts (gM_sub gL_check_X6_check) rfl rfl rfl (by decide +kernel) ⟨Nat.le_of_ble_eq_true rfl, Nat.le_of_ble_eq_true rfl⟩) (fl_sub hP 0 rfl) hK (fl_subD (hDD U g) 0 rfl) hE hS (fl_free (hDD U g) hS hA 0 rfl) (va_recv hK (fl_sub (fl_sub hP 0 rfl) 0 rfl) (ci := 6) (q0 := 0) rfl rfl) rfl rfl hl.1 (Nat.le_of_ble_eq_true rfl) dL_check_3 ⟨Nat.le_of_ble_eq_true rfl, Nat.le_of_ble_eq_true rfl⟩ (fun E ce q9 H1 locs k_2 hE9 hP1 hk1 hS hce hcv hcl => ?_) (fun H1 locs k_2 hP1 hk1 hS => ?_)
  · have hf := ite_f hf k_2
    have hP : va_P D cls (wL cI cZ cJ cT a b z_1.2.2 g) H1 := fl_join hP (hDD U g) 0 rfl hk1 hP1
    clear hP1 hk1
    generalize H1 = H at hP hS hce ⊢
    by_cases e_3 : z_1.1 = 3
    · have hf := ite_t hf e_3
      have hE8 : E = "java/lang/IllegalStateException" := by rw [hE9, e_3]; rfl
      subst hE8
      refine vx_catch hown [] ⟨0, 8, 11, 21⟩ [] htb (fun z hz => absurd hz List.not_mem_nil) (by decide) (by decide) (hts (.classLink RL 21 "java/lang/IllegalStateException") (List.mem_append_right _ (by decide +kernel))) (EX_bad hE (by decide +kernel)) hce hcv hcl ?_
      refine lv_astore_n (lv' := [(2, .ref q9), (0, .ref (a 0 0)), (1, .ref b)]) hx hb dL_check_11 rfl hl (by decide) rfl (fun ls hl => ?_)
      refine lv_iconst (v := 1) hx hb dL_check_12 (by decide) ?_
      have eo := Option.some.inj hf
      have hP : va_P D cls (wL cI cZ cJ cT a b o.2.1 o.2.2) H := by rw [← eo]; exact hP
      rw [hQ]
      refine W.widen (k := 1) (n := 6) (Nat.le_of_ble_eq_true rfl) (Nat.le_of_ble_eq_true rfl) ?_
      exact vx_ret (W.iret hx hb hr (fun t ht hW => ⟨⟨_, (), rfl, (by rw [← eo]), P_at ht hP⟩, hS.F ht⟩) hS.2.2 dL_check_13 hlocks)
    have hf := ite_f hf e_3
    exact nomatch hf
  have hf := ite_t hf k_2
  have hP : va_P D cls (wL cI cZ cJ cT a b z_1.2.2 g) H1 := fl_join hP (hDD U g) 0 rfl hk1 hP1
  clear hP1 hk1
  generalize H1 = H at hP hS ⊢
  refine lv_i2l (v := z_1.2.1.toInt64) hx hb dL_check_6 rfl ?_
  refine va_last hx hb hK hP (hDD z_1.2.2 g) hS 86 2 rfl rfl (inb_in (i := 0) (n := 1) (by decide)) dL_check_7 (fun H locs hP _ hS => ?_)
  have hP : va_P D cls (wL cI cZ cJ cT a b z_1.2.2 (setL g z_1.2.1.toInt64)) H := hP
  refine lv_goto (tgt := 14) hx hb dL_check_8 (by decide) ?_
  refine lv_iconst (v := 0) hx hb dL_check_14 (by decide) ?_
  have eo := Option.some.inj hf
  have hP : va_P D cls (wL cI cZ cJ cT a b o.2.1 o.2.2) H := by rw [← eo]; exact hP
  rw [hQ]
  refine W.widen (k := 1) (n := 6) (Nat.le_of_ble_eq_true rfl) (Nat.le_of_ble_eq_true rfl) ?_
  exact vx_ret (W.iret hx hb hr (fun t ht hW => ⟨⟨_, (), rfl, (by rw [← eo]), P_at ht hP⟩, hS.F ht⟩) hS.2.2 dL_check_15 hlocks)
set_option maxRecDepth 20000 in
theorem ggL_about_X6_about : GoodIn wsL_about wsX6_about := goodIn_ca (goodIn_ca (goodIn_r _ [6, 7, 8, 9, 10, 11, 12, 13, 14, 5, 15, 16, 17, 18, 19, 20, 21, 22, 23, 24, 25, 26, 27, 28, 29, 30, 31, 32, 33, 34, 35, 36, 37, 38, 39, 40, 41, 42, 43, 44, 45, 46, 47, 48, 49, 50, 51, 52, 53, 54, 55, 56, 57, 58, 59, 60, 61, 62, 63, 64, 65, 66, 67, 68, 69, 70, 71, 72, 73, 74, 75, 76, 77, 78, 79, 80, 81, 82, 83, 84, 85, 86, 87, 88, 89, 90, 91, 92, 93, 94, 95, 96, 97, 98, 99, 100, 101, 102, 103, 104, 105, 106, 107, 108, 109, 110, 111, 112, 113, 114, 115, 116, 117, 118, 119, 120, 121] (by decide +kernel) (by decide +kernel)) (goodIn_sub (fun _ h => List.mem_cons_of_mem _ (List.mem_append_left _ (List.mem_append_right _ h))) (by decide +kernel))) (goodIn_sub (fun _ h => List.mem_cons_of_mem _ (List.mem_append_right _ h)) (by decide +kernel))
set_option maxRecDepth 20000 in
theorem gL_about_X6_about : GoodIn wsL_about (wsV RL 108 RX6 yX6_about wsX6_about) := goodIn_app (goodIn_of _ (by decide +kernel)) ggL_about_X6_about
theorem dL_about_0 : decode cL_about 0 = .ok (.aload_n 3, 1) := by decide +kernel
theorem dL_about_1 : decode cL_about 1 = .ok (.iconst 0, 1) := by decide +kernel
theorem dL_about_2 : decode cL_about 2 = .ok (.aload_n 0, 1) := by decide +kernel
theorem dL_about_3 : decode cL_about 3 = .ok (.iload_n 1, 1) := by decide +kernel
theorem dL_about_4 : decode cL_about 4 = .ok (.iload_n 2, 1) := by decide +kernel
theorem dL_about_5 : decode cL_about 5 = .ok (.invokevirtual 108, 3) := by decide +kernel
theorem dL_about_8 : decode cL_about 8 = .ok (.i2l, 1) := by decide +kernel
theorem dL_about_9 : decode cL_about 9 = .ok (.lastore, 1) := by decide +kernel
theorem dL_about_10 : decode cL_about 10 = .ok (.goto 11, 3) := by decide +kernel
theorem dL_about_13 : decode cL_about 13 = .ok (.astore 4, 2) := by decide +kernel
theorem dL_about_15 : decode cL_about 15 = .ok (.iconst 1, 1) := by decide +kernel
theorem dL_about_16 : decode cL_about 16 = .ok (.ireturn, 1) := by decide +kernel
theorem dL_about_17 : decode cL_about 17 = .ok (.astore 4, 2) := by decide +kernel
theorem dL_about_19 : decode cL_about 19 = .ok (.iconst 2, 1) := by decide +kernel
theorem dL_about_20 : decode cL_about 20 = .ok (.ireturn, 1) := by decide +kernel
theorem dL_about_21 : decode cL_about 21 = .ok (.iconst 0, 1) := by decide +kernel
theorem dL_about_22 : decode cL_about 22 = .ok (.ireturn, 1) := by decide +kernel
def f_L_about (U : S2) (g : Nat → Int64) (p1 : Int32) (p2 : Int32) : Option (Int32 × S2 × (Nat → Int64)) := bn (f_X6_about U p1 p2) (fun z_1 => if z_1.1 = 0 then some (0, z_1.2.2, setL g z_1.2.1.toInt64) else if z_1.1 = 2 then some (1, z_1.2.2, g) else if z_1.1 = 1 then some (2, z_1.2.2, g) else none)
def wsML_about : List Cond := wsL_about ++ LK
def rmL_about : Room := { frames := 8, cells := 2, slots := 12, locals := 133 }
set_option maxHeartbeats 4000000 in
set_option maxRecDepth 100000 in
theorem c_L_about (l : Launch) (hst : l.stackTraces = false) (D : va_G) (cI cZ cJ cT : ClassId) (a : Nat → Nat → Nat) (b : Nat) (sz : Nat) (U : S2) (g : Nat → Int64) (p1 : Int32) (p2 : Int32) (o : Int32 × S2 × (Nat → Int64)) (hf : f_L_about U g p1 p2 = some o) : vx_Met l yL_about wsML_about rmL_about (va_Pc [.ref (a 0 0), .int p1, .int p2, .ref b] (PL D cls (tys cI cZ cJ cT) (wL cI cZ cJ cT a b U g) sz)) (QWi D cls o.1 (wL cI cZ cJ cT a b o.2.1 o.2.2) (va_A (wL cI cZ cJ cT a b U g) sz)) (vx_X (fun (_ : Unit) => False) (fun _ _ _ => True) (va_A (wL cI cZ cJ cT a b U g) sz)) 2 12 (va_A (wL cI cZ cJ cT a b U g) sz) := by
  refine vx_ofWH (cc := cL_about) (maxL := 5) (ret := (some .int)) (by decide) rfl ?_
  intro p e s m args below meth c s₁ B hml hv
  obtain ⟨hav, ⟨⟨hsz, hP, hK, hD0⟩, hE⟩, hN⟩ := hv
  have hx := B.exec
  have hb := B.bytes
  have hr := B.returns
  have hlocks := B.notSynchronized
  have hts := atoms_spec (ws := wsML_about) B.pre
  have hown : s.vm.findClass RL = some m.cls := findClass_of_methodNamed B.named
  have htb : c.exceptionTable.toList = [⟨0, 10, 13, 13⟩, ⟨0, 10, 17, 19⟩] := vx_table (x := yL_about) B (hts _ (List.mem_append_left _ List.mem_cons_self))
  subst hsz
  have hD := hD0.self (sz := s.heap.size)
  generalize hAe : va_A (wL cI cZ cJ cT a b U g) s.heap.size = A at hD hE ⊢
  have hA : ∀ q : Nat, s.heap.size ≤ q → A q := fun q h => by rw [← hAe]; exact Or.inr h
  have hS : va_S A s.heap s.heap [] := va_S.rf
  have hDD : ∀ (V : S2) (k : Nat → Int64), va_D A (wL cI cZ cJ cT a b V k) := fun _ _ => D_same (w := (wL cI cZ cJ cT a b U g)) rfl hD
  refine Wq (fun Q hQ => ?_)
  refine W_entry hav (Nat.le_of_ble_eq_true rfl) (fun ls hl => ?_)
  have hl : lv_has ls 5 [(0, .ref (a 0 0)), (1, .int p1), (2, .int p2), (3, .ref b)] := hl
  unfold f_L_about at hf
  refine W_heap hP hS (fun H locs hP hS => ?_)
  refine lv_aload_n hx hb dL_about_0 rfl (lv_at hl 3 rfl) ?_
  refine lv_iconst (v := 0) hx hb dL_about_1 (by decide) ?_
  refine lv_aload_n hx hb dL_about_2 rfl (lv_at hl 0 rfl) ?_
  refine lv_iload_n hx hb dL_about_3 rfl (lv_at hl 1 rfl) ?_
  refine lv_iload_n hx hb dL_about_4 rfl (lv_at hl 2 rfl) ?_
  obtain ⟨z_1, hz_1, hf⟩ := bn_some hf
  refine cYVi (As := [.int p1, .int p2]) (rest := [.int 0, .ref b]) ⟨hx, hb, hml, hown, hts⟩ (c_X6_about l hst D cI cZ cJ cT a H.size U p1 p2 z_1 hz_1) (cwV 2 hts (gM_sub gL_about_X6_about) rfl rfl rfl (by decide +kernel) ⟨Nat.le_of_ble_eq_true rfl, Nat.le_of_ble_eq_true rfl⟩) (fl_sub hP 0 rfl) hK (fl_subD (hDD U g) 0 rfl) hE hS (fl_free (hDD U g) hS hA 0 rfl) (va_recv hK (fl_sub (fl_sub hP 0 rfl) 0 rfl) (ci := 6) (q0 := 0) rfl rfl) rfl rfl hl.1 (Nat.le_of_ble_eq_true rfl) dL_about_5 ⟨Nat.le_of_ble_eq_true rfl, Nat.le_of_ble_eq_true rfl⟩ (fun E ce q9 H1 locs k_2 hE9 hP1 hk1 hS hce hcv hcl => ?_) (fun H1 locs k_2 hP1 hk1 hS => ?_)
  · have hf := ite_f hf k_2
    have hP : va_P D cls (wL cI cZ cJ cT a b z_1.2.2 g) H1 := fl_join hP (hDD U g) 0 rfl hk1 hP1
    clear hP1 hk1
    generalize H1 = H at hP hS hce ⊢
    by_cases e_3 : z_1.1 = 2
    · have hf := ite_t hf e_3
      have hE8 : E = "java/lang/IndexOutOfBoundsException" := by rw [hE9, e_3]; rfl
      subst hE8
      refine vx_catch hown [] ⟨0, 10, 13, 13⟩ [⟨0, 10, 17, 19⟩] htb (fun z hz => absurd hz List.not_mem_nil) (by decide) (by decide) (hts (.classLink RL 13 "java/lang/IndexOutOfBoundsException") (List.mem_append_right _ (by decide +kernel))) (EX_bad hE (by decide +kernel)) hce hcv hcl ?_
      refine lv_astore (lv' := [(4, .ref q9), (0, .ref (a 0 0)), (1, .int p1), (2, .int p2), (3, .ref b)]) hx hb dL_about_13 hl (by decide) rfl (fun ls hl => ?_)
      refine lv_iconst (v := 1) hx hb dL_about_15 (by decide) ?_
      have eo := Option.some.inj hf
      have hP : va_P D cls (wL cI cZ cJ cT a b o.2.1 o.2.2) H := by rw [← eo]; exact hP
      rw [hQ]
      refine W.widen (k := 2) (n := 12) (Nat.le_of_ble_eq_true rfl) (Nat.le_of_ble_eq_true rfl) ?_
      exact vx_ret (W.iret hx hb hr (fun t ht hW => ⟨⟨_, (), rfl, (by rw [← eo]), P_at ht hP⟩, hS.F ht⟩) hS.2.2 dL_about_16 hlocks)
    have hf := ite_f hf e_3
    by_cases e_4 : z_1.1 = 1
    · have hf := ite_t hf e_4
      have hE8 : E = "java/lang/IllegalArgumentException" := by rw [hE9, e_4]; rfl
      subst hE8
      refine vx_catch hown [⟨0, 10, 13, 13⟩] ⟨0, 10, 17, 19⟩ [] htb (List.forall_mem_cons.mpr ⟨Or.inr ⟨by decide, "java/lang/IndexOutOfBoundsException", hts (.classLink RL 13 "java/lang/IndexOutOfBoundsException") (List.mem_append_right _ (by decide +kernel)), hN 1 2 (by decide) (by decide) (by decide)⟩, fun z hz => absurd hz List.not_mem_nil⟩) (by decide) (by decide) (hts (.classLink RL 19 "java/lang/IllegalArgumentException") (List.mem_append_right _ (by decide +kernel))) (EX_bad hE (by decide +kernel)) hce hcv hcl ?_
      refine lv_astore (lv' := [(4, .ref q9), (0, .ref (a 0 0)), (1, .int p1), (2, .int p2), (3, .ref b)]) hx hb dL_about_17 hl (by decide) rfl (fun ls hl => ?_)
      refine lv_iconst (v := 2) hx hb dL_about_19 (by decide) ?_
      have eo := Option.some.inj hf
      have hP : va_P D cls (wL cI cZ cJ cT a b o.2.1 o.2.2) H := by rw [← eo]; exact hP
      rw [hQ]
      refine W.widen (k := 2) (n := 12) (Nat.le_of_ble_eq_true rfl) (Nat.le_of_ble_eq_true rfl) ?_
      exact vx_ret (W.iret hx hb hr (fun t ht hW => ⟨⟨_, (), rfl, (by rw [← eo]), P_at ht hP⟩, hS.F ht⟩) hS.2.2 dL_about_20 hlocks)
    have hf := ite_f hf e_4
    exact nomatch hf
  have hf := ite_t hf k_2
  have hP : va_P D cls (wL cI cZ cJ cT a b z_1.2.2 g) H1 := fl_join hP (hDD U g) 0 rfl hk1 hP1
  clear hP1 hk1
  generalize H1 = H at hP hS ⊢
  refine lv_i2l (v := z_1.2.1.toInt64) hx hb dL_about_8 rfl ?_
  refine va_last hx hb hK hP (hDD z_1.2.2 g) hS 86 2 rfl rfl (inb_in (i := 0) (n := 1) (by decide)) dL_about_9 (fun H locs hP _ hS => ?_)
  have hP : va_P D cls (wL cI cZ cJ cT a b z_1.2.2 (setL g z_1.2.1.toInt64)) H := hP
  refine lv_goto (tgt := 21) hx hb dL_about_10 (by decide) ?_
  refine lv_iconst (v := 0) hx hb dL_about_21 (by decide) ?_
  have eo := Option.some.inj hf
  have hP : va_P D cls (wL cI cZ cJ cT a b o.2.1 o.2.2) H := by rw [← eo]; exact hP
  rw [hQ]
  refine W.widen (k := 2) (n := 12) (Nat.le_of_ble_eq_true rfl) (Nat.le_of_ble_eq_true rfl) ?_
  exact vx_ret (W.iret hx hb hr (fun t ht hW => ⟨⟨_, (), rfl, (by rw [← eo]), P_at ht hP⟩, hS.F ht⟩) hS.2.2 dL_about_22 hlocks)
set_option maxRecDepth 20000 in
theorem ggL_entry_X6_entry : GoodIn wsL_entry wsX6_entry := goodIn_ca (goodIn_r _ [6, 7, 8, 9, 10, 11, 12, 5, 13, 14, 15, 16, 17, 18, 19, 20, 21, 22, 23, 24, 25, 26, 27, 28, 29, 30, 31, 32, 33, 34, 35, 36, 37, 38, 39, 40, 41, 42, 43, 44, 45, 46, 47, 48, 49, 50, 51, 52, 53, 54, 55, 56, 57, 58, 59, 60, 61, 62, 63, 64] (by decide +kernel) (by decide +kernel)) (goodIn_sub (fun _ h => List.mem_cons_of_mem _ (List.mem_append_right _ h)) (by decide +kernel))
set_option maxRecDepth 20000 in
theorem gL_entry_X6_entry : GoodIn wsL_entry (wsV RL 111 RX6 yX6_entry wsX6_entry) := goodIn_app (goodIn_of _ (by decide +kernel)) ggL_entry_X6_entry
theorem dL_entry_0 : decode cL_entry 0 = .ok (.aload_n 3, 1) := by decide +kernel
theorem dL_entry_1 : decode cL_entry 1 = .ok (.iconst 0, 1) := by decide +kernel
theorem dL_entry_2 : decode cL_entry 2 = .ok (.aload_n 0, 1) := by decide +kernel
theorem dL_entry_3 : decode cL_entry 3 = .ok (.iload_n 1, 1) := by decide +kernel
theorem dL_entry_4 : decode cL_entry 4 = .ok (.iload_n 2, 1) := by decide +kernel
theorem dL_entry_5 : decode cL_entry 5 = .ok (.invokevirtual 111, 3) := by decide +kernel
theorem dL_entry_8 : decode cL_entry 8 = .ok (.i2l, 1) := by decide +kernel
theorem dL_entry_9 : decode cL_entry 9 = .ok (.lastore, 1) := by decide +kernel
theorem dL_entry_10 : decode cL_entry 10 = .ok (.goto 7, 3) := by decide +kernel
theorem dL_entry_13 : decode cL_entry 13 = .ok (.astore 4, 2) := by decide +kernel
theorem dL_entry_15 : decode cL_entry 15 = .ok (.iconst 1, 1) := by decide +kernel
theorem dL_entry_16 : decode cL_entry 16 = .ok (.ireturn, 1) := by decide +kernel
theorem dL_entry_17 : decode cL_entry 17 = .ok (.iconst 0, 1) := by decide +kernel
theorem dL_entry_18 : decode cL_entry 18 = .ok (.ireturn, 1) := by decide +kernel
def f_L_entry (U : S2) (g : Nat → Int64) (p1 : Int32) (p2 : Int32) : Option (Int32 × S2 × (Nat → Int64)) := bn (f_X6_entry U p1 p2) (fun z_1 => if z_1.1 = 0 then some (0, z_1.2.2, setL g z_1.2.1.toInt64) else if z_1.1 = 2 then some (1, z_1.2.2, g) else none)
def wsML_entry : List Cond := wsL_entry ++ LK
def rmL_entry : Room := { frames := 8, cells := 2, slots := 12, locals := 133 }
set_option maxHeartbeats 4000000 in
set_option maxRecDepth 100000 in
theorem c_L_entry (l : Launch) (hst : l.stackTraces = false) (D : va_G) (cI cZ cJ cT : ClassId) (a : Nat → Nat → Nat) (b : Nat) (sz : Nat) (U : S2) (g : Nat → Int64) (p1 : Int32) (p2 : Int32) (o : Int32 × S2 × (Nat → Int64)) (hf : f_L_entry U g p1 p2 = some o) : vx_Met l yL_entry wsML_entry rmL_entry (va_Pc [.ref (a 0 0), .int p1, .int p2, .ref b] (PL D cls (tys cI cZ cJ cT) (wL cI cZ cJ cT a b U g) sz)) (QWi D cls o.1 (wL cI cZ cJ cT a b o.2.1 o.2.2) (va_A (wL cI cZ cJ cT a b U g) sz)) (vx_X (fun (_ : Unit) => False) (fun _ _ _ => True) (va_A (wL cI cZ cJ cT a b U g) sz)) 2 12 (va_A (wL cI cZ cJ cT a b U g) sz) := by
  refine vx_ofWH (cc := cL_entry) (maxL := 5) (ret := (some .int)) (by decide) rfl ?_
  intro p e s m args below meth c s₁ B hml hv
  obtain ⟨hav, ⟨⟨hsz, hP, hK, hD0⟩, hE⟩, hN⟩ := hv
  have hx := B.exec
  have hb := B.bytes
  have hr := B.returns
  have hlocks := B.notSynchronized
  have hts := atoms_spec (ws := wsML_entry) B.pre
  have hown : s.vm.findClass RL = some m.cls := findClass_of_methodNamed B.named
  have htb : c.exceptionTable.toList = [⟨0, 10, 13, 13⟩] := vx_table (x := yL_entry) B (hts _ (List.mem_append_left _ List.mem_cons_self))
  subst hsz
  have hD := hD0.self (sz := s.heap.size)
  generalize hAe : va_A (wL cI cZ cJ cT a b U g) s.heap.size = A at hD hE ⊢
  have hA : ∀ q : Nat, s.heap.size ≤ q → A q := fun q h => by rw [← hAe]; exact Or.inr h
  have hS : va_S A s.heap s.heap [] := va_S.rf
  have hDD : ∀ (V : S2) (k : Nat → Int64), va_D A (wL cI cZ cJ cT a b V k) := fun _ _ => D_same (w := (wL cI cZ cJ cT a b U g)) rfl hD
  refine Wq (fun Q hQ => ?_)
  refine W_entry hav (Nat.le_of_ble_eq_true rfl) (fun ls hl => ?_)
  have hl : lv_has ls 5 [(0, .ref (a 0 0)), (1, .int p1), (2, .int p2), (3, .ref b)] := hl
  unfold f_L_entry at hf
  refine W_heap hP hS (fun H locs hP hS => ?_)
  refine lv_aload_n hx hb dL_entry_0 rfl (lv_at hl 3 rfl) ?_
  refine lv_iconst (v := 0) hx hb dL_entry_1 (by decide) ?_
  refine lv_aload_n hx hb dL_entry_2 rfl (lv_at hl 0 rfl) ?_
  refine lv_iload_n hx hb dL_entry_3 rfl (lv_at hl 1 rfl) ?_
  refine lv_iload_n hx hb dL_entry_4 rfl (lv_at hl 2 rfl) ?_
  obtain ⟨z_1, hz_1, hf⟩ := bn_some hf
  refine cYVi (As := [.int p1, .int p2]) (rest := [.int 0, .ref b]) ⟨hx, hb, hml, hown, hts⟩ (c_X6_entry l hst D cI cZ cJ cT a H.size U p1 p2 z_1 hz_1) (cwV 2 hts (gM_sub gL_entry_X6_entry) rfl rfl rfl (by decide +kernel) ⟨Nat.le_of_ble_eq_true rfl, Nat.le_of_ble_eq_true rfl⟩) (fl_sub hP 0 rfl) hK (fl_subD (hDD U g) 0 rfl) hE hS (fl_free (hDD U g) hS hA 0 rfl) (va_recv hK (fl_sub (fl_sub hP 0 rfl) 0 rfl) (ci := 6) (q0 := 0) rfl rfl) rfl rfl hl.1 (Nat.le_of_ble_eq_true rfl) dL_entry_5 ⟨Nat.le_of_ble_eq_true rfl, Nat.le_of_ble_eq_true rfl⟩ (fun E ce q9 H1 locs k_2 hE9 hP1 hk1 hS hce hcv hcl => ?_) (fun H1 locs k_2 hP1 hk1 hS => ?_)
  · have hf := ite_f hf k_2
    have hP : va_P D cls (wL cI cZ cJ cT a b z_1.2.2 g) H1 := fl_join hP (hDD U g) 0 rfl hk1 hP1
    clear hP1 hk1
    generalize H1 = H at hP hS hce ⊢
    by_cases e_3 : z_1.1 = 2
    · have hf := ite_t hf e_3
      have hE8 : E = "java/lang/IndexOutOfBoundsException" := by rw [hE9, e_3]; rfl
      subst hE8
      refine vx_catch hown [] ⟨0, 10, 13, 13⟩ [] htb (fun z hz => absurd hz List.not_mem_nil) (by decide) (by decide) (hts (.classLink RL 13 "java/lang/IndexOutOfBoundsException") (List.mem_append_right _ (by decide +kernel))) (EX_bad hE (by decide +kernel)) hce hcv hcl ?_
      refine lv_astore (lv' := [(4, .ref q9), (0, .ref (a 0 0)), (1, .int p1), (2, .int p2), (3, .ref b)]) hx hb dL_entry_13 hl (by decide) rfl (fun ls hl => ?_)
      refine lv_iconst (v := 1) hx hb dL_entry_15 (by decide) ?_
      have eo := Option.some.inj hf
      have hP : va_P D cls (wL cI cZ cJ cT a b o.2.1 o.2.2) H := by rw [← eo]; exact hP
      rw [hQ]
      refine W.widen (k := 2) (n := 12) (Nat.le_of_ble_eq_true rfl) (Nat.le_of_ble_eq_true rfl) ?_
      exact vx_ret (W.iret hx hb hr (fun t ht hW => ⟨⟨_, (), rfl, (by rw [← eo]), P_at ht hP⟩, hS.F ht⟩) hS.2.2 dL_entry_16 hlocks)
    have hf := ite_f hf e_3
    exact nomatch hf
  have hf := ite_t hf k_2
  have hP : va_P D cls (wL cI cZ cJ cT a b z_1.2.2 g) H1 := fl_join hP (hDD U g) 0 rfl hk1 hP1
  clear hP1 hk1
  generalize H1 = H at hP hS ⊢
  refine lv_i2l (v := z_1.2.1.toInt64) hx hb dL_entry_8 rfl ?_
  refine va_last hx hb hK hP (hDD z_1.2.2 g) hS 86 2 rfl rfl (inb_in (i := 0) (n := 1) (by decide)) dL_entry_9 (fun H locs hP _ hS => ?_)
  have hP : va_P D cls (wL cI cZ cJ cT a b z_1.2.2 (setL g z_1.2.1.toInt64)) H := hP
  refine lv_goto (tgt := 17) hx hb dL_entry_10 (by decide) ?_
  refine lv_iconst (v := 0) hx hb dL_entry_17 (by decide) ?_
  have eo := Option.some.inj hf
  have hP : va_P D cls (wL cI cZ cJ cT a b o.2.1 o.2.2) H := by rw [← eo]; exact hP
  rw [hQ]
  refine W.widen (k := 2) (n := 12) (Nat.le_of_ble_eq_true rfl) (Nat.le_of_ble_eq_true rfl) ?_
  exact vx_ret (W.iret hx hb hr (fun t ht hW => ⟨⟨_, (), rfl, (by rw [← eo]), P_at ht hP⟩, hS.F ht⟩) hS.2.2 dL_entry_18 hlocks)
set_option maxRecDepth 20000 in
theorem ggL_target_X6_target : GoodIn wsL_target wsX6_target := goodIn_ca (goodIn_r _ [6, 7, 8, 9, 10, 5, 11, 12, 13, 14, 15, 16, 17, 18, 19, 20, 21, 22, 23, 24, 25, 26, 27, 28, 29, 30, 31, 32, 33, 34, 35, 36, 37, 38, 39, 40, 41, 42, 43, 44, 45, 46, 47, 48, 49, 50, 51, 52, 53, 54, 55] (by decide +kernel) (by decide +kernel)) (goodIn_sub (fun _ h => List.mem_cons_of_mem _ (List.mem_append_right _ h)) (by decide +kernel))
set_option maxRecDepth 20000 in
theorem gL_target_X6_target : GoodIn wsL_target (wsV RL 114 RX6 yX6_target wsX6_target) := goodIn_app (goodIn_of _ (by decide +kernel)) ggL_target_X6_target
theorem dL_target_0 : decode cL_target 0 = .ok (.aload_n 2, 1) := by decide +kernel
theorem dL_target_1 : decode cL_target 1 = .ok (.iconst 0, 1) := by decide +kernel
theorem dL_target_2 : decode cL_target 2 = .ok (.aload_n 0, 1) := by decide +kernel
theorem dL_target_3 : decode cL_target 3 = .ok (.iload_n 1, 1) := by decide +kernel
theorem dL_target_4 : decode cL_target 4 = .ok (.invokevirtual 114, 3) := by decide +kernel
theorem dL_target_7 : decode cL_target 7 = .ok (.i2l, 1) := by decide +kernel
theorem dL_target_8 : decode cL_target 8 = .ok (.lastore, 1) := by decide +kernel
theorem dL_target_9 : decode cL_target 9 = .ok (.goto 6, 3) := by decide +kernel
theorem dL_target_12 : decode cL_target 12 = .ok (.astore_n 3, 1) := by decide +kernel
theorem dL_target_13 : decode cL_target 13 = .ok (.iconst 1, 1) := by decide +kernel
theorem dL_target_14 : decode cL_target 14 = .ok (.ireturn, 1) := by decide +kernel
theorem dL_target_15 : decode cL_target 15 = .ok (.iconst 0, 1) := by decide +kernel
theorem dL_target_16 : decode cL_target 16 = .ok (.ireturn, 1) := by decide +kernel
def f_L_target (U : S2) (g : Nat → Int64) (p1 : Int32) : Option (Int32 × S2 × (Nat → Int64)) := bn (f_X6_target U p1) (fun z_1 => if z_1.1 = 0 then some (0, z_1.2.2, setL g z_1.2.1.toInt64) else if z_1.1 = 2 then some (1, z_1.2.2, g) else none)
def wsML_target : List Cond := wsL_target ++ LK
def rmL_target : Room := { frames := 8, cells := 1, slots := 6, locals := 132 }
set_option maxHeartbeats 4000000 in
set_option maxRecDepth 100000 in
theorem c_L_target (l : Launch) (hst : l.stackTraces = false) (D : va_G) (cI cZ cJ cT : ClassId) (a : Nat → Nat → Nat) (b : Nat) (sz : Nat) (U : S2) (g : Nat → Int64) (p1 : Int32) (o : Int32 × S2 × (Nat → Int64)) (hf : f_L_target U g p1 = some o) : vx_Met l yL_target wsML_target rmL_target (va_Pc [.ref (a 0 0), .int p1, .ref b] (PL D cls (tys cI cZ cJ cT) (wL cI cZ cJ cT a b U g) sz)) (QWi D cls o.1 (wL cI cZ cJ cT a b o.2.1 o.2.2) (va_A (wL cI cZ cJ cT a b U g) sz)) (vx_X (fun (_ : Unit) => False) (fun _ _ _ => True) (va_A (wL cI cZ cJ cT a b U g) sz)) 1 6 (va_A (wL cI cZ cJ cT a b U g) sz) := by
  refine vx_ofWH (cc := cL_target) (maxL := 4) (ret := (some .int)) (by decide) rfl ?_
  intro p e s m args below meth c s₁ B hml hv
  obtain ⟨hav, ⟨⟨hsz, hP, hK, hD0⟩, hE⟩, hN⟩ := hv
  have hx := B.exec
  have hb := B.bytes
  have hr := B.returns
  have hlocks := B.notSynchronized
  have hts := atoms_spec (ws := wsML_target) B.pre
  have hown : s.vm.findClass RL = some m.cls := findClass_of_methodNamed B.named
  have htb : c.exceptionTable.toList = [⟨0, 9, 12, 13⟩] := vx_table (x := yL_target) B (hts _ (List.mem_append_left _ List.mem_cons_self))
  subst hsz
  have hD := hD0.self (sz := s.heap.size)
  generalize hAe : va_A (wL cI cZ cJ cT a b U g) s.heap.size = A at hD hE ⊢
  have hA : ∀ q : Nat, s.heap.size ≤ q → A q := fun q h => by rw [← hAe]; exact Or.inr h
  have hS : va_S A s.heap s.heap [] := va_S.rf
  have hDD : ∀ (V : S2) (k : Nat → Int64), va_D A (wL cI cZ cJ cT a b V k) := fun _ _ => D_same (w := (wL cI cZ cJ cT a b U g)) rfl hD
  refine Wq (fun Q hQ => ?_)
  refine W_entry hav (Nat.le_of_ble_eq_true rfl) (fun ls hl => ?_)
  have hl : lv_has ls 4 [(0, .ref (a 0 0)), (1, .int p1), (2, .ref b)] := hl
  unfold f_L_target at hf
  refine W_heap hP hS (fun H locs hP hS => ?_)
  refine lv_aload_n hx hb dL_target_0 rfl (lv_at hl 2 rfl) ?_
  refine lv_iconst (v := 0) hx hb dL_target_1 (by decide) ?_
  refine lv_aload_n hx hb dL_target_2 rfl (lv_at hl 0 rfl) ?_
  refine lv_iload_n hx hb dL_target_3 rfl (lv_at hl 1 rfl) ?_
  obtain ⟨z_1, hz_1, hf⟩ := bn_some hf
  refine cYVi (As := [.int p1]) (rest := [.int 0, .ref b]) ⟨hx, hb, hml, hown, hts⟩ (c_X6_target l hst D cI cZ cJ cT a H.size U p1 z_1 hz_1) (cwV 1 hts (gM_sub gL_target_X6_target) rfl rfl rfl (by decide +kernel) ⟨Nat.le_of_ble_eq_true rfl, Nat.le_of_ble_eq_true rfl⟩) (fl_sub hP 0 rfl) hK (fl_subD (hDD U g) 0 rfl) hE hS (fl_free (hDD U g) hS hA 0 rfl) (va_recv hK (fl_sub (fl_sub hP 0 rfl) 0 rfl) (ci := 6) (q0 := 0) rfl rfl) rfl rfl hl.1 (Nat.le_of_ble_eq_true rfl) dL_target_4 ⟨Nat.le_of_ble_eq_true rfl, Nat.le_of_ble_eq_true rfl⟩ (fun E ce q9 H1 locs k_2 hE9 hP1 hk1 hS hce hcv hcl => ?_) (fun H1 locs k_2 hP1 hk1 hS => ?_)
  · have hf := ite_f hf k_2
    have hP : va_P D cls (wL cI cZ cJ cT a b z_1.2.2 g) H1 := fl_join hP (hDD U g) 0 rfl hk1 hP1
    clear hP1 hk1
    generalize H1 = H at hP hS hce ⊢
    by_cases e_3 : z_1.1 = 2
    · have hf := ite_t hf e_3
      have hE8 : E = "java/lang/IndexOutOfBoundsException" := by rw [hE9, e_3]; rfl
      subst hE8
      refine vx_catch hown [] ⟨0, 9, 12, 13⟩ [] htb (fun z hz => absurd hz List.not_mem_nil) (by decide) (by decide) (hts (.classLink RL 13 "java/lang/IndexOutOfBoundsException") (List.mem_append_right _ (by decide +kernel))) (EX_bad hE (by decide +kernel)) hce hcv hcl ?_
      refine lv_astore_n (lv' := [(3, .ref q9), (0, .ref (a 0 0)), (1, .int p1), (2, .ref b)]) hx hb dL_target_12 rfl hl (by decide) rfl (fun ls hl => ?_)
      refine lv_iconst (v := 1) hx hb dL_target_13 (by decide) ?_
      have eo := Option.some.inj hf
      have hP : va_P D cls (wL cI cZ cJ cT a b o.2.1 o.2.2) H := by rw [← eo]; exact hP
      rw [hQ]
      refine W.widen (k := 1) (n := 6) (Nat.le_of_ble_eq_true rfl) (Nat.le_of_ble_eq_true rfl) ?_
      exact vx_ret (W.iret hx hb hr (fun t ht hW => ⟨⟨_, (), rfl, (by rw [← eo]), P_at ht hP⟩, hS.F ht⟩) hS.2.2 dL_target_14 hlocks)
    have hf := ite_f hf e_3
    exact nomatch hf
  have hf := ite_t hf k_2
  have hP : va_P D cls (wL cI cZ cJ cT a b z_1.2.2 g) H1 := fl_join hP (hDD U g) 0 rfl hk1 hP1
  clear hP1 hk1
  generalize H1 = H at hP hS ⊢
  refine lv_i2l (v := z_1.2.1.toInt64) hx hb dL_target_7 rfl ?_
  refine va_last hx hb hK hP (hDD z_1.2.2 g) hS 86 2 rfl rfl (inb_in (i := 0) (n := 1) (by decide)) dL_target_8 (fun H locs hP _ hS => ?_)
  have hP : va_P D cls (wL cI cZ cJ cT a b z_1.2.2 (setL g z_1.2.1.toInt64)) H := hP
  refine lv_goto (tgt := 15) hx hb dL_target_9 (by decide) ?_
  refine lv_iconst (v := 0) hx hb dL_target_15 (by decide) ?_
  have eo := Option.some.inj hf
  have hP : va_P D cls (wL cI cZ cJ cT a b o.2.1 o.2.2) H := by rw [← eo]; exact hP
  rw [hQ]
  refine W.widen (k := 1) (n := 6) (Nat.le_of_ble_eq_true rfl) (Nat.le_of_ble_eq_true rfl) ?_
  exact vx_ret (W.iret hx hb hr (fun t ht hW => ⟨⟨_, (), rfl, (by rw [← eo]), P_at ht hP⟩, hS.F ht⟩) hS.2.2 dL_target_16 hlocks)
set_option maxRecDepth 20000 in
theorem ggL_page_X6_page : GoodIn wsL_page wsX6_page := goodIn_ca (goodIn_ca (goodIn_r _ [6, 7, 8, 9, 10, 11, 12, 13, 14, 15, 5, 16, 17, 18, 19, 20, 21, 22, 23, 24, 25, 26, 27, 28, 29, 30, 31, 32, 33, 34, 35, 36, 37, 38, 39, 40, 41, 42, 43, 44, 45, 46, 47, 48, 49, 50, 51, 52, 53, 54, 55, 56, 57, 58, 59, 60, 61, 62, 63, 64, 65, 66, 67, 68, 69, 70, 71, 72, 73, 74, 75, 76, 77, 78, 79, 80] (by decide +kernel) (by decide +kernel)) (goodIn_sub (fun _ h => List.mem_cons_of_mem _ (List.mem_append_left _ (List.mem_append_right _ h))) (by decide +kernel))) (goodIn_sub (fun _ h => List.mem_cons_of_mem _ (List.mem_append_right _ h)) (by decide +kernel))
set_option maxRecDepth 20000 in
theorem gL_page_X6_page : GoodIn wsL_page (wsV RL 117 RX6 yX6_page wsX6_page) := goodIn_app (goodIn_of _ (by decide +kernel)) ggL_page_X6_page
theorem dL_page_0 : decode cL_page 0 = .ok (.aload 4, 2) := by decide +kernel
theorem dL_page_2 : decode cL_page 2 = .ok (.iconst 0, 1) := by decide +kernel
theorem dL_page_3 : decode cL_page 3 = .ok (.aload_n 0, 1) := by decide +kernel
theorem dL_page_4 : decode cL_page 4 = .ok (.iload_n 1, 1) := by decide +kernel
theorem dL_page_5 : decode cL_page 5 = .ok (.iload_n 2, 1) := by decide +kernel
theorem dL_page_6 : decode cL_page 6 = .ok (.iload_n 3, 1) := by decide +kernel
theorem dL_page_7 : decode cL_page 7 = .ok (.invokevirtual 117, 3) := by decide +kernel
theorem dL_page_10 : decode cL_page 10 = .ok (.i2l, 1) := by decide +kernel
theorem dL_page_11 : decode cL_page 11 = .ok (.lastore, 1) := by decide +kernel
theorem dL_page_12 : decode cL_page 12 = .ok (.goto 11, 3) := by decide +kernel
theorem dL_page_15 : decode cL_page 15 = .ok (.astore 5, 2) := by decide +kernel
theorem dL_page_17 : decode cL_page 17 = .ok (.iconst 1, 1) := by decide +kernel
theorem dL_page_18 : decode cL_page 18 = .ok (.ireturn, 1) := by decide +kernel
theorem dL_page_19 : decode cL_page 19 = .ok (.astore 5, 2) := by decide +kernel
theorem dL_page_21 : decode cL_page 21 = .ok (.iconst 2, 1) := by decide +kernel
theorem dL_page_22 : decode cL_page 22 = .ok (.ireturn, 1) := by decide +kernel
theorem dL_page_23 : decode cL_page 23 = .ok (.iconst 0, 1) := by decide +kernel
theorem dL_page_24 : decode cL_page 24 = .ok (.ireturn, 1) := by decide +kernel
def f_L_page (U : S2) (g : Nat → Int64) (p1 : Int32) (p2 : Int32) (p3 : Int32) : Option (Int32 × S2 × (Nat → Int64)) := bn (f_X6_page U p1 p2 p3) (fun z_1 => if z_1.1 = 0 then some (0, z_1.2.2, setL g z_1.2.1.toInt64) else if z_1.1 = 2 then some (1, z_1.2.2, g) else if z_1.1 = 1 then some (2, z_1.2.2, g) else none)
def wsML_page : List Cond := wsL_page ++ LK
def rmL_page : Room := { frames := 8, cells := 2, slots := 12, locals := 134 }
set_option maxHeartbeats 4000000 in
set_option maxRecDepth 100000 in
theorem c_L_page (l : Launch) (hst : l.stackTraces = false) (D : va_G) (cI cZ cJ cT : ClassId) (a : Nat → Nat → Nat) (b : Nat) (sz : Nat) (U : S2) (g : Nat → Int64) (p1 : Int32) (p2 : Int32) (p3 : Int32) (o : Int32 × S2 × (Nat → Int64)) (hf : f_L_page U g p1 p2 p3 = some o) : vx_Met l yL_page wsML_page rmL_page (va_Pc [.ref (a 0 0), .int p1, .int p2, .int p3, .ref b] (PL D cls (tys cI cZ cJ cT) (wL cI cZ cJ cT a b U g) sz)) (QWi D cls o.1 (wL cI cZ cJ cT a b o.2.1 o.2.2) (va_A (wL cI cZ cJ cT a b U g) sz)) (vx_X (fun (_ : Unit) => False) (fun _ _ _ => True) (va_A (wL cI cZ cJ cT a b U g) sz)) 2 12 (va_A (wL cI cZ cJ cT a b U g) sz) := by
  refine vx_ofWH (cc := cL_page) (maxL := 6) (ret := (some .int)) (by decide) rfl ?_
  intro p e s m args below meth c s₁ B hml hv
  obtain ⟨hav, ⟨⟨hsz, hP, hK, hD0⟩, hE⟩, hN⟩ := hv
  have hx := B.exec
  have hb := B.bytes
  have hr := B.returns
  have hlocks := B.notSynchronized
  have hts := atoms_spec (ws := wsML_page) B.pre
  have hown : s.vm.findClass RL = some m.cls := findClass_of_methodNamed B.named
  have htb : c.exceptionTable.toList = [⟨0, 12, 15, 13⟩, ⟨0, 12, 19, 19⟩] := vx_table (x := yL_page) B (hts _ (List.mem_append_left _ List.mem_cons_self))
  subst hsz
  have hD := hD0.self (sz := s.heap.size)
  generalize hAe : va_A (wL cI cZ cJ cT a b U g) s.heap.size = A at hD hE ⊢
  have hA : ∀ q : Nat, s.heap.size ≤ q → A q := fun q h => by rw [← hAe]; exact Or.inr h
  have hS : va_S A s.heap s.heap [] := va_S.rf
  have hDD : ∀ (V : S2) (k : Nat → Int64), va_D A (wL cI cZ cJ cT a b V k) := fun _ _ => D_same (w := (wL cI cZ cJ cT a b U g)) rfl hD
  refine Wq (fun Q hQ => ?_)
  refine W_entry hav (Nat.le_of_ble_eq_true rfl) (fun ls hl => ?_)
  have hl : lv_has ls 6 [(0, .ref (a 0 0)), (1, .int p1), (2, .int p2), (3, .int p3), (4, .ref b)] := hl
  unfold f_L_page at hf
  refine W_heap hP hS (fun H locs hP hS => ?_)
  refine lv_aload hx hb dL_page_0 (lv_at hl 4 rfl) ?_
  refine lv_iconst (v := 0) hx hb dL_page_2 (by decide) ?_
  refine lv_aload_n hx hb dL_page_3 rfl (lv_at hl 0 rfl) ?_
  refine lv_iload_n hx hb dL_page_4 rfl (lv_at hl 1 rfl) ?_
  refine lv_iload_n hx hb dL_page_5 rfl (lv_at hl 2 rfl) ?_
  refine lv_iload_n hx hb dL_page_6 rfl (lv_at hl 3 rfl) ?_
  obtain ⟨z_1, hz_1, hf⟩ := bn_some hf
  refine cYVi (As := [.int p1, .int p2, .int p3]) (rest := [.int 0, .ref b]) ⟨hx, hb, hml, hown, hts⟩ (c_X6_page l hst D cI cZ cJ cT a H.size U p1 p2 p3 z_1 hz_1) (cwV 3 hts (gM_sub gL_page_X6_page) rfl rfl rfl (by decide +kernel) ⟨Nat.le_of_ble_eq_true rfl, Nat.le_of_ble_eq_true rfl⟩) (fl_sub hP 0 rfl) hK (fl_subD (hDD U g) 0 rfl) hE hS (fl_free (hDD U g) hS hA 0 rfl) (va_recv hK (fl_sub (fl_sub hP 0 rfl) 0 rfl) (ci := 6) (q0 := 0) rfl rfl) rfl rfl hl.1 (Nat.le_of_ble_eq_true rfl) dL_page_7 ⟨Nat.le_of_ble_eq_true rfl, Nat.le_of_ble_eq_true rfl⟩ (fun E ce q9 H1 locs k_2 hE9 hP1 hk1 hS hce hcv hcl => ?_) (fun H1 locs k_2 hP1 hk1 hS => ?_)
  · have hf := ite_f hf k_2
    have hP : va_P D cls (wL cI cZ cJ cT a b z_1.2.2 g) H1 := fl_join hP (hDD U g) 0 rfl hk1 hP1
    clear hP1 hk1
    generalize H1 = H at hP hS hce ⊢
    by_cases e_3 : z_1.1 = 2
    · have hf := ite_t hf e_3
      have hE8 : E = "java/lang/IndexOutOfBoundsException" := by rw [hE9, e_3]; rfl
      subst hE8
      refine vx_catch hown [] ⟨0, 12, 15, 13⟩ [⟨0, 12, 19, 19⟩] htb (fun z hz => absurd hz List.not_mem_nil) (by decide) (by decide) (hts (.classLink RL 13 "java/lang/IndexOutOfBoundsException") (List.mem_append_right _ (by decide +kernel))) (EX_bad hE (by decide +kernel)) hce hcv hcl ?_
      refine lv_astore (lv' := [(5, .ref q9), (0, .ref (a 0 0)), (1, .int p1), (2, .int p2), (3, .int p3), (4, .ref b)]) hx hb dL_page_15 hl (by decide) rfl (fun ls hl => ?_)
      refine lv_iconst (v := 1) hx hb dL_page_17 (by decide) ?_
      have eo := Option.some.inj hf
      have hP : va_P D cls (wL cI cZ cJ cT a b o.2.1 o.2.2) H := by rw [← eo]; exact hP
      rw [hQ]
      refine W.widen (k := 2) (n := 12) (Nat.le_of_ble_eq_true rfl) (Nat.le_of_ble_eq_true rfl) ?_
      exact vx_ret (W.iret hx hb hr (fun t ht hW => ⟨⟨_, (), rfl, (by rw [← eo]), P_at ht hP⟩, hS.F ht⟩) hS.2.2 dL_page_18 hlocks)
    have hf := ite_f hf e_3
    by_cases e_4 : z_1.1 = 1
    · have hf := ite_t hf e_4
      have hE8 : E = "java/lang/IllegalArgumentException" := by rw [hE9, e_4]; rfl
      subst hE8
      refine vx_catch hown [⟨0, 12, 15, 13⟩] ⟨0, 12, 19, 19⟩ [] htb (List.forall_mem_cons.mpr ⟨Or.inr ⟨by decide, "java/lang/IndexOutOfBoundsException", hts (.classLink RL 13 "java/lang/IndexOutOfBoundsException") (List.mem_append_right _ (by decide +kernel)), hN 1 2 (by decide) (by decide) (by decide)⟩, fun z hz => absurd hz List.not_mem_nil⟩) (by decide) (by decide) (hts (.classLink RL 19 "java/lang/IllegalArgumentException") (List.mem_append_right _ (by decide +kernel))) (EX_bad hE (by decide +kernel)) hce hcv hcl ?_
      refine lv_astore (lv' := [(5, .ref q9), (0, .ref (a 0 0)), (1, .int p1), (2, .int p2), (3, .int p3), (4, .ref b)]) hx hb dL_page_19 hl (by decide) rfl (fun ls hl => ?_)
      refine lv_iconst (v := 2) hx hb dL_page_21 (by decide) ?_
      have eo := Option.some.inj hf
      have hP : va_P D cls (wL cI cZ cJ cT a b o.2.1 o.2.2) H := by rw [← eo]; exact hP
      rw [hQ]
      refine W.widen (k := 2) (n := 12) (Nat.le_of_ble_eq_true rfl) (Nat.le_of_ble_eq_true rfl) ?_
      exact vx_ret (W.iret hx hb hr (fun t ht hW => ⟨⟨_, (), rfl, (by rw [← eo]), P_at ht hP⟩, hS.F ht⟩) hS.2.2 dL_page_22 hlocks)
    have hf := ite_f hf e_4
    exact nomatch hf
  have hf := ite_t hf k_2
  have hP : va_P D cls (wL cI cZ cJ cT a b z_1.2.2 g) H1 := fl_join hP (hDD U g) 0 rfl hk1 hP1
  clear hP1 hk1
  generalize H1 = H at hP hS ⊢
  refine lv_i2l (v := z_1.2.1.toInt64) hx hb dL_page_10 rfl ?_
  refine va_last hx hb hK hP (hDD z_1.2.2 g) hS 86 2 rfl rfl (inb_in (i := 0) (n := 1) (by decide)) dL_page_11 (fun H locs hP _ hS => ?_)
  have hP : va_P D cls (wL cI cZ cJ cT a b z_1.2.2 (setL g z_1.2.1.toInt64)) H := hP
  refine lv_goto (tgt := 23) hx hb dL_page_12 (by decide) ?_
  refine lv_iconst (v := 0) hx hb dL_page_23 (by decide) ?_
  have eo := Option.some.inj hf
  have hP : va_P D cls (wL cI cZ cJ cT a b o.2.1 o.2.2) H := by rw [← eo]; exact hP
  rw [hQ]
  refine W.widen (k := 2) (n := 12) (Nat.le_of_ble_eq_true rfl) (Nat.le_of_ble_eq_true rfl) ?_
  exact vx_ret (W.iret hx hb hr (fun t ht hW => ⟨⟨_, (), rfl, (by rw [← eo]), P_at ht hP⟩, hS.F ht⟩) hS.2.2 dL_page_24 hlocks)
set_option maxRecDepth 20000 in
theorem ggL_number_X6_number : GoodIn wsL_number wsX6_number := goodIn_ca (goodIn_r _ [6, 7, 8, 9, 5, 10, 11, 12, 13, 14, 15, 16, 17, 18, 19, 20, 21, 22, 23, 24, 25, 26, 27, 28, 29, 30, 31, 32, 33, 34] (by decide +kernel) (by decide +kernel)) (goodIn_sub (fun _ h => List.mem_cons_of_mem _ (List.mem_append_right _ h)) (by decide +kernel))
set_option maxRecDepth 20000 in
theorem gL_number_X6_number : GoodIn wsL_number (wsV RL 120 RX6 yX6_number wsX6_number) := goodIn_app (goodIn_of _ (by decide +kernel)) ggL_number_X6_number
theorem dL_number_0 : decode cL_number 0 = .ok (.aload_n 2, 1) := by decide +kernel
theorem dL_number_1 : decode cL_number 1 = .ok (.iconst 0, 1) := by decide +kernel
theorem dL_number_2 : decode cL_number 2 = .ok (.aload_n 0, 1) := by decide +kernel
theorem dL_number_3 : decode cL_number 3 = .ok (.iload_n 1, 1) := by decide +kernel
theorem dL_number_4 : decode cL_number 4 = .ok (.invokevirtual 120, 3) := by decide +kernel
theorem dL_number_7 : decode cL_number 7 = .ok (.i2l, 1) := by decide +kernel
theorem dL_number_8 : decode cL_number 8 = .ok (.lastore, 1) := by decide +kernel
theorem dL_number_9 : decode cL_number 9 = .ok (.goto 6, 3) := by decide +kernel
theorem dL_number_12 : decode cL_number 12 = .ok (.astore_n 3, 1) := by decide +kernel
theorem dL_number_13 : decode cL_number 13 = .ok (.iconst 1, 1) := by decide +kernel
theorem dL_number_14 : decode cL_number 14 = .ok (.ireturn, 1) := by decide +kernel
theorem dL_number_15 : decode cL_number 15 = .ok (.iconst 0, 1) := by decide +kernel
theorem dL_number_16 : decode cL_number 16 = .ok (.ireturn, 1) := by decide +kernel
def f_L_number (U : S2) (g : Nat → Int64) (p1 : Int32) : Option (Int32 × S2 × (Nat → Int64)) := bn (f_X6_number U p1) (fun z_1 => if z_1.1 = 0 then some (0, z_1.2.2, setL g z_1.2.1.toInt64) else if z_1.1 = 2 then some (1, z_1.2.2, g) else none)
def wsML_number : List Cond := wsL_number ++ LK
def rmL_number : Room := { frames := 8, cells := 1, slots := 6, locals := 131 }
set_option maxHeartbeats 4000000 in
set_option maxRecDepth 100000 in
theorem c_L_number (l : Launch) (hst : l.stackTraces = false) (D : va_G) (cI cZ cJ cT : ClassId) (a : Nat → Nat → Nat) (b : Nat) (sz : Nat) (U : S2) (g : Nat → Int64) (p1 : Int32) (o : Int32 × S2 × (Nat → Int64)) (hf : f_L_number U g p1 = some o) : vx_Met l yL_number wsML_number rmL_number (va_Pc [.ref (a 0 0), .int p1, .ref b] (PL D cls (tys cI cZ cJ cT) (wL cI cZ cJ cT a b U g) sz)) (QWi D cls o.1 (wL cI cZ cJ cT a b o.2.1 o.2.2) (va_A (wL cI cZ cJ cT a b U g) sz)) (vx_X (fun (_ : Unit) => False) (fun _ _ _ => True) (va_A (wL cI cZ cJ cT a b U g) sz)) 1 6 (va_A (wL cI cZ cJ cT a b U g) sz) := by
  refine vx_ofWH (cc := cL_number) (maxL := 4) (ret := (some .int)) (by decide) rfl ?_
  intro p e s m args below meth c s₁ B hml hv
  obtain ⟨hav, ⟨⟨hsz, hP, hK, hD0⟩, hE⟩, hN⟩ := hv
  have hx := B.exec
  have hb := B.bytes
  have hr := B.returns
  have hlocks := B.notSynchronized
  have hts := atoms_spec (ws := wsML_number) B.pre
  have hown : s.vm.findClass RL = some m.cls := findClass_of_methodNamed B.named
  have htb : c.exceptionTable.toList = [⟨0, 9, 12, 13⟩] := vx_table (x := yL_number) B (hts _ (List.mem_append_left _ List.mem_cons_self))
  subst hsz
  have hD := hD0.self (sz := s.heap.size)
  generalize hAe : va_A (wL cI cZ cJ cT a b U g) s.heap.size = A at hD hE ⊢
  have hA : ∀ q : Nat, s.heap.size ≤ q → A q := fun q h => by rw [← hAe]; exact Or.inr h
  have hS : va_S A s.heap s.heap [] := va_S.rf
  have hDD : ∀ (V : S2) (k : Nat → Int64), va_D A (wL cI cZ cJ cT a b V k) := fun _ _ => D_same (w := (wL cI cZ cJ cT a b U g)) rfl hD
  refine Wq (fun Q hQ => ?_)
  refine W_entry hav (Nat.le_of_ble_eq_true rfl) (fun ls hl => ?_)
  have hl : lv_has ls 4 [(0, .ref (a 0 0)), (1, .int p1), (2, .ref b)] := hl
  unfold f_L_number at hf
  refine W_heap hP hS (fun H locs hP hS => ?_)
  refine lv_aload_n hx hb dL_number_0 rfl (lv_at hl 2 rfl) ?_
  refine lv_iconst (v := 0) hx hb dL_number_1 (by decide) ?_
  refine lv_aload_n hx hb dL_number_2 rfl (lv_at hl 0 rfl) ?_
  refine lv_iload_n hx hb dL_number_3 rfl (lv_at hl 1 rfl) ?_
  obtain ⟨z_1, hz_1, hf⟩ := bn_some hf
  refine cYVi (As := [.int p1]) (rest := [.int 0, .ref b]) ⟨hx, hb, hml, hown, hts⟩ (c_X6_number l hst D cI cZ cJ cT a H.size U p1 z_1 hz_1) (cwV 1 hts (gM_sub gL_number_X6_number) rfl rfl rfl (by decide +kernel) ⟨Nat.le_of_ble_eq_true rfl, Nat.le_of_ble_eq_true rfl⟩) (fl_sub hP 0 rfl) hK (fl_subD (hDD U g) 0 rfl) hE hS (fl_free (hDD U g) hS hA 0 rfl) (va_recv hK (fl_sub (fl_sub hP 0 rfl) 0 rfl) (ci := 6) (q0 := 0) rfl rfl) rfl rfl hl.1 (Nat.le_of_ble_eq_true rfl) dL_number_4 ⟨Nat.le_of_ble_eq_true rfl, Nat.le_of_ble_eq_true rfl⟩ (fun E ce q9 H1 locs k_2 hE9 hP1 hk1 hS hce hcv hcl => ?_) (fun H1 locs k_2 hP1 hk1 hS => ?_)
  · have hf := ite_f hf k_2
    have hP : va_P D cls (wL cI cZ cJ cT a b z_1.2.2 g) H1 := fl_join hP (hDD U g) 0 rfl hk1 hP1
    clear hP1 hk1
    generalize H1 = H at hP hS hce ⊢
    by_cases e_3 : z_1.1 = 2
    · have hf := ite_t hf e_3
      have hE8 : E = "java/lang/IndexOutOfBoundsException" := by rw [hE9, e_3]; rfl
      subst hE8
      refine vx_catch hown [] ⟨0, 9, 12, 13⟩ [] htb (fun z hz => absurd hz List.not_mem_nil) (by decide) (by decide) (hts (.classLink RL 13 "java/lang/IndexOutOfBoundsException") (List.mem_append_right _ (by decide +kernel))) (EX_bad hE (by decide +kernel)) hce hcv hcl ?_
      refine lv_astore_n (lv' := [(3, .ref q9), (0, .ref (a 0 0)), (1, .int p1), (2, .ref b)]) hx hb dL_number_12 rfl hl (by decide) rfl (fun ls hl => ?_)
      refine lv_iconst (v := 1) hx hb dL_number_13 (by decide) ?_
      have eo := Option.some.inj hf
      have hP : va_P D cls (wL cI cZ cJ cT a b o.2.1 o.2.2) H := by rw [← eo]; exact hP
      rw [hQ]
      refine W.widen (k := 1) (n := 6) (Nat.le_of_ble_eq_true rfl) (Nat.le_of_ble_eq_true rfl) ?_
      exact vx_ret (W.iret hx hb hr (fun t ht hW => ⟨⟨_, (), rfl, (by rw [← eo]), P_at ht hP⟩, hS.F ht⟩) hS.2.2 dL_number_14 hlocks)
    have hf := ite_f hf e_3
    exact nomatch hf
  have hf := ite_t hf k_2
  have hP : va_P D cls (wL cI cZ cJ cT a b z_1.2.2 g) H1 := fl_join hP (hDD U g) 0 rfl hk1 hP1
  clear hP1 hk1
  generalize H1 = H at hP hS ⊢
  refine lv_i2l (v := z_1.2.1.toInt64) hx hb dL_number_7 rfl ?_
  refine va_last hx hb hK hP (hDD z_1.2.2 g) hS 86 2 rfl rfl (inb_in (i := 0) (n := 1) (by decide)) dL_number_8 (fun H locs hP _ hS => ?_)
  have hP : va_P D cls (wL cI cZ cJ cT a b z_1.2.2 (setL g z_1.2.1.toInt64)) H := hP
  refine lv_goto (tgt := 15) hx hb dL_number_9 (by decide) ?_
  refine lv_iconst (v := 0) hx hb dL_number_15 (by decide) ?_
  have eo := Option.some.inj hf
  have hP : va_P D cls (wL cI cZ cJ cT a b o.2.1 o.2.2) H := by rw [← eo]; exact hP
  rw [hQ]
  refine W.widen (k := 1) (n := 6) (Nat.le_of_ble_eq_true rfl) (Nat.le_of_ble_eq_true rfl) ?_
  exact vx_ret (W.iret hx hb hr (fun t ht hW => ⟨⟨_, (), rfl, (by rw [← eo]), P_at ht hP⟩, hS.F ht⟩) hS.2.2 dL_number_16 hlocks)
set_option maxRecDepth 20000 in
theorem ggL_isFree_X6_isFree : GoodIn wsL_isFree wsX6_isFree := goodIn_ca (goodIn_r _ [6, 7, 8, 5, 9, 10, 11, 12, 13, 14, 15, 16, 17, 18, 19, 20, 21, 22, 23, 24, 25, 26, 27, 28, 29, 30, 31, 32, 33, 34, 35, 36, 37, 38, 39, 40, 41, 42, 43, 44, 45, 46, 47, 48, 49, 50, 51, 52] (by decide +kernel) (by decide +kernel)) (goodIn_sub (fun _ h => List.mem_cons_of_mem _ (List.mem_append_right _ h)) (by decide +kernel))
set_option maxRecDepth 20000 in
theorem gL_isFree_X6_isFree : GoodIn wsL_isFree (wsV RL 123 RX6 yX6_isFree wsX6_isFree) := goodIn_app (goodIn_of _ (by decide +kernel)) ggL_isFree_X6_isFree
theorem dL_isFree_0 : decode cL_isFree 0 = .ok (.aload_n 2, 1) := by decide +kernel
theorem dL_isFree_1 : decode cL_isFree 1 = .ok (.iconst 0, 1) := by decide +kernel
theorem dL_isFree_2 : decode cL_isFree 2 = .ok (.aload_n 0, 1) := by decide +kernel
theorem dL_isFree_3 : decode cL_isFree 3 = .ok (.iload_n 1, 1) := by decide +kernel
theorem dL_isFree_4 : decode cL_isFree 4 = .ok (.invokevirtual 123, 3) := by decide +kernel
theorem dL_isFree_7 : decode cL_isFree 7 = .ok (.ifCond .eq 7, 3) := by decide +kernel
theorem dL_isFree_10 : decode cL_isFree 10 = .ok (.lconst 1, 1) := by decide +kernel
theorem dL_isFree_11 : decode cL_isFree 11 = .ok (.goto 4, 3) := by decide +kernel
theorem dL_isFree_14 : decode cL_isFree 14 = .ok (.lconst 0, 1) := by decide +kernel
theorem dL_isFree_15 : decode cL_isFree 15 = .ok (.lastore, 1) := by decide +kernel
theorem dL_isFree_16 : decode cL_isFree 16 = .ok (.goto 6, 3) := by decide +kernel
theorem dL_isFree_19 : decode cL_isFree 19 = .ok (.astore_n 3, 1) := by decide +kernel
theorem dL_isFree_20 : decode cL_isFree 20 = .ok (.iconst 1, 1) := by decide +kernel
theorem dL_isFree_21 : decode cL_isFree 21 = .ok (.ireturn, 1) := by decide +kernel
theorem dL_isFree_22 : decode cL_isFree 22 = .ok (.iconst 0, 1) := by decide +kernel
theorem dL_isFree_23 : decode cL_isFree 23 = .ok (.ireturn, 1) := by decide +kernel
def f_L_isFree (U : S2) (g : Nat → Int64) (p1 : Int32) : Option (Int32 × S2 × (Nat → Int64)) := bn (f_X6_isFree U p1) (fun z_1 => if z_1.1 = 0 then if z_1.2.1 = 0 then some (0, z_1.2.2, setL g 0) else some (0, z_1.2.2, setL g 1) else if z_1.1 = 2 then some (1, z_1.2.2, g) else none)
def wsML_isFree : List Cond := wsL_isFree ++ LK
def rmL_isFree : Room := { frames := 8, cells := 1, slots := 6, locals := 131 }
set_option maxHeartbeats 4000000 in
set_option maxRecDepth 100000 in
theorem c_L_isFree (l : Launch) (hst : l.stackTraces = false) (D : va_G) (cI cZ cJ cT : ClassId) (a : Nat → Nat → Nat) (b : Nat) (sz : Nat) (U : S2) (g : Nat → Int64) (p1 : Int32) (o : Int32 × S2 × (Nat → Int64)) (hf : f_L_isFree U g p1 = some o) : vx_Met l yL_isFree wsML_isFree rmL_isFree (va_Pc [.ref (a 0 0), .int p1, .ref b] (PL D cls (tys cI cZ cJ cT) (wL cI cZ cJ cT a b U g) sz)) (QWi D cls o.1 (wL cI cZ cJ cT a b o.2.1 o.2.2) (va_A (wL cI cZ cJ cT a b U g) sz)) (vx_X (fun (_ : Unit) => False) (fun _ _ _ => True) (va_A (wL cI cZ cJ cT a b U g) sz)) 1 6 (va_A (wL cI cZ cJ cT a b U g) sz) := by
  refine vx_ofWH (cc := cL_isFree) (maxL := 4) (ret := (some .int)) (by decide) rfl ?_
  intro p e s m args below meth c s₁ B hml hv
  obtain ⟨hav, ⟨⟨hsz, hP, hK, hD0⟩, hE⟩, hN⟩ := hv
  have hx := B.exec
  have hb := B.bytes
  have hr := B.returns
  have hlocks := B.notSynchronized
  have hts := atoms_spec (ws := wsML_isFree) B.pre
  have hown : s.vm.findClass RL = some m.cls := findClass_of_methodNamed B.named
  have htb : c.exceptionTable.toList = [⟨0, 16, 19, 13⟩] := vx_table (x := yL_isFree) B (hts _ (List.mem_append_left _ List.mem_cons_self))
  subst hsz
  have hD := hD0.self (sz := s.heap.size)
  generalize hAe : va_A (wL cI cZ cJ cT a b U g) s.heap.size = A at hD hE ⊢
  have hA : ∀ q : Nat, s.heap.size ≤ q → A q := fun q h => by rw [← hAe]; exact Or.inr h
  have hS : va_S A s.heap s.heap [] := va_S.rf
  have hDD : ∀ (V : S2) (k : Nat → Int64), va_D A (wL cI cZ cJ cT a b V k) := fun _ _ => D_same (w := (wL cI cZ cJ cT a b U g)) rfl hD
  refine Wq (fun Q hQ => ?_)
  refine W_entry hav (Nat.le_of_ble_eq_true rfl) (fun ls hl => ?_)
  have hl : lv_has ls 4 [(0, .ref (a 0 0)), (1, .int p1), (2, .ref b)] := hl
  unfold f_L_isFree at hf
  refine W_heap hP hS (fun H locs hP hS => ?_)
  refine lv_aload_n hx hb dL_isFree_0 rfl (lv_at hl 2 rfl) ?_
  refine lv_iconst (v := 0) hx hb dL_isFree_1 (by decide) ?_
  refine lv_aload_n hx hb dL_isFree_2 rfl (lv_at hl 0 rfl) ?_
  refine lv_iload_n hx hb dL_isFree_3 rfl (lv_at hl 1 rfl) ?_
  obtain ⟨z_1, hz_1, hf⟩ := bn_some hf
  refine cYVi (As := [.int p1]) (rest := [.int 0, .ref b]) ⟨hx, hb, hml, hown, hts⟩ (c_X6_isFree l hst D cI cZ cJ cT a H.size U p1 z_1 hz_1) (cwV 1 hts (gM_sub gL_isFree_X6_isFree) rfl rfl rfl (by decide +kernel) ⟨Nat.le_of_ble_eq_true rfl, Nat.le_of_ble_eq_true rfl⟩) (fl_sub hP 0 rfl) hK (fl_subD (hDD U g) 0 rfl) hE hS (fl_free (hDD U g) hS hA 0 rfl) (va_recv hK (fl_sub (fl_sub hP 0 rfl) 0 rfl) (ci := 6) (q0 := 0) rfl rfl) rfl rfl hl.1 (Nat.le_of_ble_eq_true rfl) dL_isFree_4 ⟨Nat.le_of_ble_eq_true rfl, Nat.le_of_ble_eq_true rfl⟩ (fun E ce q9 H1 locs k_2 hE9 hP1 hk1 hS hce hcv hcl => ?_) (fun H1 locs k_2 hP1 hk1 hS => ?_)
  · have hf := ite_f hf k_2
    have hP : va_P D cls (wL cI cZ cJ cT a b z_1.2.2 g) H1 := fl_join hP (hDD U g) 0 rfl hk1 hP1
    clear hP1 hk1
    generalize H1 = H at hP hS hce ⊢
    by_cases e_3 : z_1.1 = 2
    · have hf := ite_t hf e_3
      have hE8 : E = "java/lang/IndexOutOfBoundsException" := by rw [hE9, e_3]; rfl
      subst hE8
      refine vx_catch hown [] ⟨0, 16, 19, 13⟩ [] htb (fun z hz => absurd hz List.not_mem_nil) (by decide) (by decide) (hts (.classLink RL 13 "java/lang/IndexOutOfBoundsException") (List.mem_append_right _ (by decide +kernel))) (EX_bad hE (by decide +kernel)) hce hcv hcl ?_
      refine lv_astore_n (lv' := [(3, .ref q9), (0, .ref (a 0 0)), (1, .int p1), (2, .ref b)]) hx hb dL_isFree_19 rfl hl (by decide) rfl (fun ls hl => ?_)
      refine lv_iconst (v := 1) hx hb dL_isFree_20 (by decide) ?_
      have eo := Option.some.inj hf
      have hP : va_P D cls (wL cI cZ cJ cT a b o.2.1 o.2.2) H := by rw [← eo]; exact hP
      rw [hQ]
      refine W.widen (k := 1) (n := 6) (Nat.le_of_ble_eq_true rfl) (Nat.le_of_ble_eq_true rfl) ?_
      exact vx_ret (W.iret hx hb hr (fun t ht hW => ⟨⟨_, (), rfl, (by rw [← eo]), P_at ht hP⟩, hS.F ht⟩) hS.2.2 dL_isFree_21 hlocks)
    have hf := ite_f hf e_3
    exact nomatch hf
  have hf := ite_t hf k_2
  have hP : va_P D cls (wL cI cZ cJ cT a b z_1.2.2 g) H1 := fl_join hP (hDD U g) 0 rfl hk1 hP1
  clear hP1 hk1
  generalize H1 = H at hP hS ⊢
  refine lv_if_eq (tgt := 14) hx hb dL_isFree_7 (by decide) (fun c_4 => ?_) (fun c_4 => ?_)
  · have hf := ite_t hf c_4
    refine lv_lconst (v := 0) hx hb dL_isFree_14 (by decide) ?_
    refine va_last hx hb hK hP (hDD z_1.2.2 g) hS 86 2 rfl rfl (inb_in (i := 0) (n := 1) (by decide)) dL_isFree_15 (fun H locs hP _ hS => ?_)
    have hP : va_P D cls (wL cI cZ cJ cT a b z_1.2.2 (setL g 0)) H := hP
    refine lv_goto (tgt := 22) hx hb dL_isFree_16 (by decide) ?_
    refine lv_iconst (v := 0) hx hb dL_isFree_22 (by decide) ?_
    have eo := Option.some.inj hf
    have hP : va_P D cls (wL cI cZ cJ cT a b o.2.1 o.2.2) H := by rw [← eo]; exact hP
    rw [hQ]
    refine W.widen (k := 1) (n := 6) (Nat.le_of_ble_eq_true rfl) (Nat.le_of_ble_eq_true rfl) ?_
    exact vx_ret (W.iret hx hb hr (fun t ht hW => ⟨⟨_, (), rfl, (by rw [← eo]), P_at ht hP⟩, hS.F ht⟩) hS.2.2 dL_isFree_23 hlocks)
  · have hf := ite_f hf c_4
    refine lv_lconst (v := 1) hx hb dL_isFree_10 (by decide) ?_
    refine lv_goto (tgt := 15) hx hb dL_isFree_11 (by decide) ?_
    refine va_last hx hb hK hP (hDD z_1.2.2 g) hS 86 2 rfl rfl (inb_in (i := 0) (n := 1) (by decide)) dL_isFree_15 (fun H locs hP _ hS => ?_)
    have hP : va_P D cls (wL cI cZ cJ cT a b z_1.2.2 (setL g 1)) H := hP
    refine lv_goto (tgt := 22) hx hb dL_isFree_16 (by decide) ?_
    refine lv_iconst (v := 0) hx hb dL_isFree_22 (by decide) ?_
    have eo := Option.some.inj hf
    have hP : va_P D cls (wL cI cZ cJ cT a b o.2.1 o.2.2) H := by rw [← eo]; exact hP
    rw [hQ]
    refine W.widen (k := 1) (n := 6) (Nat.le_of_ble_eq_true rfl) (Nat.le_of_ble_eq_true rfl) ?_
    exact vx_ret (W.iret hx hb hr (fun t ht hW => ⟨⟨_, (), rfl, (by rw [← eo]), P_at ht hP⟩, hS.F ht⟩) hS.2.2 dL_isFree_23 hlocks)
set_option maxRecDepth 20000 in
theorem ggL_used_X6_used : GoodIn wsL_used wsX6_used := goodIn_ca (goodIn_r _ [6, 7, 8, 9, 10, 11, 5, 12, 13, 14, 15, 16, 17, 18, 19, 20, 21, 22, 23, 24, 25, 26, 27, 28, 29, 30, 31, 32, 33, 34, 35, 36, 37, 38, 39, 40, 41, 42, 43, 44, 45, 46, 47, 48, 49, 50, 51, 52, 53, 54] (by decide +kernel) (by decide +kernel)) (goodIn_sub (fun _ h => List.mem_cons_of_mem _ (List.mem_append_right _ h)) (by decide +kernel))
set_option maxRecDepth 20000 in
theorem gL_used_X6_used : GoodIn wsL_used (wsV RL 126 RX6 yX6_used wsX6_used) := goodIn_app (goodIn_of _ (by decide +kernel)) ggL_used_X6_used
theorem dL_used_0 : decode cL_used 0 = .ok (.aload_n 2, 1) := by decide +kernel
theorem dL_used_1 : decode cL_used 1 = .ok (.iconst 0, 1) := by decide +kernel
theorem dL_used_2 : decode cL_used 2 = .ok (.aload_n 0, 1) := by decide +kernel
theorem dL_used_3 : decode cL_used 3 = .ok (.iload_n 1, 1) := by decide +kernel
theorem dL_used_4 : decode cL_used 4 = .ok (.invokevirtual 126, 3) := by decide +kernel
theorem dL_used_7 : decode cL_used 7 = .ok (.i2l, 1) := by decide +kernel
theorem dL_used_8 : decode cL_used 8 = .ok (.lastore, 1) := by decide +kernel
theorem dL_used_9 : decode cL_used 9 = .ok (.goto 6, 3) := by decide +kernel
theorem dL_used_12 : decode cL_used 12 = .ok (.astore_n 3, 1) := by decide +kernel
theorem dL_used_13 : decode cL_used 13 = .ok (.iconst 1, 1) := by decide +kernel
theorem dL_used_14 : decode cL_used 14 = .ok (.ireturn, 1) := by decide +kernel
theorem dL_used_15 : decode cL_used 15 = .ok (.iconst 0, 1) := by decide +kernel
theorem dL_used_16 : decode cL_used 16 = .ok (.ireturn, 1) := by decide +kernel
def f_L_used (U : S2) (g : Nat → Int64) (p1 : Int32) : Option (Int32 × S2 × (Nat → Int64)) := bn (f_X6_used U p1) (fun z_1 => if z_1.1 = 0 then some (0, z_1.2.2, setL g z_1.2.1.toInt64) else if z_1.1 = 2 then some (1, z_1.2.2, g) else none)
def wsML_used : List Cond := wsL_used ++ LK
def rmL_used : Room := { frames := 7, cells := 1, slots := 6, locals := 111 }
set_option maxHeartbeats 4000000 in
set_option maxRecDepth 100000 in
theorem c_L_used (l : Launch) (hst : l.stackTraces = false) (D : va_G) (cI cZ cJ cT : ClassId) (a : Nat → Nat → Nat) (b : Nat) (sz : Nat) (U : S2) (g : Nat → Int64) (p1 : Int32) (o : Int32 × S2 × (Nat → Int64)) (hf : f_L_used U g p1 = some o) : vx_Met l yL_used wsML_used rmL_used (va_Pc [.ref (a 0 0), .int p1, .ref b] (PL D cls (tys cI cZ cJ cT) (wL cI cZ cJ cT a b U g) sz)) (QWi D cls o.1 (wL cI cZ cJ cT a b o.2.1 o.2.2) (va_A (wL cI cZ cJ cT a b U g) sz)) (vx_X (fun (_ : Unit) => False) (fun _ _ _ => True) (va_A (wL cI cZ cJ cT a b U g) sz)) 1 6 (va_A (wL cI cZ cJ cT a b U g) sz) := by
  refine vx_ofWH (cc := cL_used) (maxL := 4) (ret := (some .int)) (by decide) rfl ?_
  intro p e s m args below meth c s₁ B hml hv
  obtain ⟨hav, ⟨⟨hsz, hP, hK, hD0⟩, hE⟩, hN⟩ := hv
  have hx := B.exec
  have hb := B.bytes
  have hr := B.returns
  have hlocks := B.notSynchronized
  have hts := atoms_spec (ws := wsML_used) B.pre
  have hown : s.vm.findClass RL = some m.cls := findClass_of_methodNamed B.named
  have htb : c.exceptionTable.toList = [⟨0, 9, 12, 13⟩] := vx_table (x := yL_used) B (hts _ (List.mem_append_left _ List.mem_cons_self))
  subst hsz
  have hD := hD0.self (sz := s.heap.size)
  generalize hAe : va_A (wL cI cZ cJ cT a b U g) s.heap.size = A at hD hE ⊢
  have hA : ∀ q : Nat, s.heap.size ≤ q → A q := fun q h => by rw [← hAe]; exact Or.inr h
  have hS : va_S A s.heap s.heap [] := va_S.rf
  have hDD : ∀ (V : S2) (k : Nat → Int64), va_D A (wL cI cZ cJ cT a b V k) := fun _ _ => D_same (w := (wL cI cZ cJ cT a b U g)) rfl hD
  refine Wq (fun Q hQ => ?_)
  refine W_entry hav (Nat.le_of_ble_eq_true rfl) (fun ls hl => ?_)
  have hl : lv_has ls 4 [(0, .ref (a 0 0)), (1, .int p1), (2, .ref b)] := hl
  unfold f_L_used at hf
  refine W_heap hP hS (fun H locs hP hS => ?_)
  refine lv_aload_n hx hb dL_used_0 rfl (lv_at hl 2 rfl) ?_
  refine lv_iconst (v := 0) hx hb dL_used_1 (by decide) ?_
  refine lv_aload_n hx hb dL_used_2 rfl (lv_at hl 0 rfl) ?_
  refine lv_iload_n hx hb dL_used_3 rfl (lv_at hl 1 rfl) ?_
  obtain ⟨z_1, hz_1, hf⟩ := bn_some hf
  refine cYVi (As := [.int p1]) (rest := [.int 0, .ref b]) ⟨hx, hb, hml, hown, hts⟩ (c_X6_used l hst D cI cZ cJ cT a H.size U p1 z_1 hz_1) (cwV 1 hts (gM_sub gL_used_X6_used) rfl rfl rfl (by decide +kernel) ⟨Nat.le_of_ble_eq_true rfl, Nat.le_of_ble_eq_true rfl⟩) (fl_sub hP 0 rfl) hK (fl_subD (hDD U g) 0 rfl) hE hS (fl_free (hDD U g) hS hA 0 rfl) (va_recv hK (fl_sub (fl_sub hP 0 rfl) 0 rfl) (ci := 6) (q0 := 0) rfl rfl) rfl rfl hl.1 (Nat.le_of_ble_eq_true rfl) dL_used_4 ⟨Nat.le_of_ble_eq_true rfl, Nat.le_of_ble_eq_true rfl⟩ (fun E ce q9 H1 locs k_2 hE9 hP1 hk1 hS hce hcv hcl => ?_) (fun H1 locs k_2 hP1 hk1 hS => ?_)
  · have hf := ite_f hf k_2
    have hP : va_P D cls (wL cI cZ cJ cT a b z_1.2.2 g) H1 := fl_join hP (hDD U g) 0 rfl hk1 hP1
    clear hP1 hk1
    generalize H1 = H at hP hS hce ⊢
    by_cases e_3 : z_1.1 = 2
    · have hf := ite_t hf e_3
      have hE8 : E = "java/lang/IndexOutOfBoundsException" := by rw [hE9, e_3]; rfl
      subst hE8
      refine vx_catch hown [] ⟨0, 9, 12, 13⟩ [] htb (fun z hz => absurd hz List.not_mem_nil) (by decide) (by decide) (hts (.classLink RL 13 "java/lang/IndexOutOfBoundsException") (List.mem_append_right _ (by decide +kernel))) (EX_bad hE (by decide +kernel)) hce hcv hcl ?_
      refine lv_astore_n (lv' := [(3, .ref q9), (0, .ref (a 0 0)), (1, .int p1), (2, .ref b)]) hx hb dL_used_12 rfl hl (by decide) rfl (fun ls hl => ?_)
      refine lv_iconst (v := 1) hx hb dL_used_13 (by decide) ?_
      have eo := Option.some.inj hf
      have hP : va_P D cls (wL cI cZ cJ cT a b o.2.1 o.2.2) H := by rw [← eo]; exact hP
      rw [hQ]
      refine W.widen (k := 1) (n := 6) (Nat.le_of_ble_eq_true rfl) (Nat.le_of_ble_eq_true rfl) ?_
      exact vx_ret (W.iret hx hb hr (fun t ht hW => ⟨⟨_, (), rfl, (by rw [← eo]), P_at ht hP⟩, hS.F ht⟩) hS.2.2 dL_used_14 hlocks)
    have hf := ite_f hf e_3
    exact nomatch hf
  have hf := ite_t hf k_2
  have hP : va_P D cls (wL cI cZ cJ cT a b z_1.2.2 g) H1 := fl_join hP (hDD U g) 0 rfl hk1 hP1
  clear hP1 hk1
  generalize H1 = H at hP hS ⊢
  refine lv_i2l (v := z_1.2.1.toInt64) hx hb dL_used_7 rfl ?_
  refine va_last hx hb hK hP (hDD z_1.2.2 g) hS 86 2 rfl rfl (inb_in (i := 0) (n := 1) (by decide)) dL_used_8 (fun H locs hP _ hS => ?_)
  have hP : va_P D cls (wL cI cZ cJ cT a b z_1.2.2 (setL g z_1.2.1.toInt64)) H := hP
  refine lv_goto (tgt := 15) hx hb dL_used_9 (by decide) ?_
  refine lv_iconst (v := 0) hx hb dL_used_15 (by decide) ?_
  have eo := Option.some.inj hf
  have hP : va_P D cls (wL cI cZ cJ cT a b o.2.1 o.2.2) H := by rw [← eo]; exact hP
  rw [hQ]
  refine W.widen (k := 1) (n := 6) (Nat.le_of_ble_eq_true rfl) (Nat.le_of_ble_eq_true rfl) ?_
  exact vx_ret (W.iret hx hb hr (fun t ht hW => ⟨⟨_, (), rfl, (by rw [← eo]), P_at ht hP⟩, hS.F ht⟩) hS.2.2 dL_used_16 hlocks)
