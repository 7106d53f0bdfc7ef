def law_B10 (L : Nat) (xs : Nat → Int32) (r23 : Int32 → S2 → S1 → (Nat → Int64) → Option Int32) (y : Int32) (U : S2) (V : S1) (g : Nat → Int64) : Option Int32 := chk (inb (y + 1) L) (chk (inb (y + 2) L) (if (xs (y + 2).toNatClampNeg) = 0 then bn (f_L_open U g (xs (y + 1).toNatClampNeg) 0) (fun z_73 => chk (inb (y + 1) L) (chk (inb (y + 2) L) (if (xs (y + 2).toNatClampNeg) = 0 then bn (f_X7_open V (xs (y + 1).toNatClampNeg) 0) (fun z_75 => r23 (y + 5) z_73.2.1 z_75.2 z_73.2.2) else bn (f_X7_open V (xs (y + 1).toNatClampNeg) 1) (fun z_76 => r23 (y + 5) z_73.2.1 z_76.2 z_73.2.2)))) else bn (f_L_open U g (xs (y + 1).toNatClampNeg) 1) (fun z_77 => chk (inb (y + 1) L) (chk (inb (y + 2) L) (if (xs (y + 2).toNatClampNeg) = 0 then bn (f_X7_open V (xs (y + 1).toNatClampNeg) 0) (fun z_79 => r23 (y + 5) z_77.2.1 z_79.2 z_77.2.2) else bn (f_X7_open V (xs (y + 1).toNatClampNeg) 1) (fun z_80 => r23 (y + 5) z_77.2.1 z_80.2 z_77.2.2))))))
set_option maxHeartbeats 40000000 in
set_option maxRecDepth 100000 in
theorem law_case10 {p : Program} {l : Launch} {e : Env} {s : State} {m : MethodId} {below : List Frame} {meth : Method} {c : Code} {D : va_G} {cI cZ cJ cT : ClassId} {sb L : Nat} {xs : Nat → Int32} (hst : l.stackTraces = false) (C0 : lw_At p s m meth c sb L xs) (hK : va_K D cls (tys cI cZ cJ cT) s) (hE : EX (fun q : Nat => s.heap.size ≤ q) s) (hNC : NC s) (a : Nat → Nat → Nat) (am : Nat → Nat) (b : Nat) (hDD : ∀ (U : S2) (V : S1) (g : Nat → Int64), va_D (fun q : Nat => s.heap.size ≤ q) (wW cI cZ cJ cT a am b U V g)) (r23 : Int32 → S2 → S1 → (Nat → Int64) → Option Int32) (n : Nat) (ih : ∀ (y : Int32) (U : S2) (V : S1) (g : Nat → Int64) (H : Heap) (locs : List Loc) (ls : Array Slot) (nc ns : Nat), r23 y U V g = some 1 → va_P D cls (wW cI cZ cJ cT a am b U V g) H → va_S (fun q : Nat => s.heap.size ≤ q) s.heap H locs → lv_has ls 7 [(0, .ref sb), (1, .ref (a 0 0)), (2, .ref (am 0)), (3, .ref b), (4, .int y)] → nc + 8 * n ≤ 601024 → ns + 48 * n ≤ 7293034 → nc ≤ 601024 → ns ≤ 7293034 → W p l e room_1 s m #[Value.ref sb] below meth c H locs nc ns (lw_Z below #[Value.ref sb] s) (F0 m 23 ls [])) (y : Int32) (U : S2) (V : S1) (g : Nat → Int64) (H : Heap) (locs : List Loc) (ls : Array Slot) (nc ns : Nat) (hf : law_B10 L xs r23 y U V g = some 1) (hP : va_P D cls (wW cI cZ cJ cT a am b U V g) H) (hS : va_S (fun q : Nat => s.heap.size ≤ q) s.heap H locs) (hl : lv_has ls 7 [(0, .ref sb), (1, .ref (a 0 0)), (2, .ref (am 0)), (3, .ref b), (4, .int y)]) (hc1 : nc + 8 * (n + 1) ≤ 601024) (hc2 : ns + 48 * (n + 1) ≤ 7293034) (hc3 : nc ≤ 601024) (hc4 : ns ≤ 7293034) : W p l e room_1 s m #[Value.ref sb] below meth c H locs nc ns (lw_Z below #[Value.ref sb] s) (F0 m 624 ls []) := by
  obtain ⟨hx, hb, hr, hml, hown, hts, hX, hbl, hlocks, hgv⟩ := id C0
  have hA : ∀ q : Nat, s.heap.size ≤ q → (fun q : Nat => s.heap.size ≤ q) q := fun _ h => h
  have hbA : ¬ (fun q : Nat => s.heap.size ≤ q) sb := Nat.not_le.mpr hbl
  unfold law_B10 at hf
  refine lv_aload_n hx hb dL_law_624 rfl (lv_at hl 1 rfl) ?_
  refine lv_aload_n hx hb dL_law_625 rfl (lv_at hl 0 rfl) ?_
  refine lv_iload hx hb dL_law_626 (lv_at hl 4 rfl) ?_
  refine lv_iconst (v := 1) hx hb dL_law_628 (by decide) ?_
  refine lv_iadd hx hb dL_law_629 ?_
  obtain ⟨hi, hf⟩ := chk_some hf
  refine va_sld hx hb hX hbl hbA hS (inb_in hi) dL_law_630 ?_
  refine lv_aload_n hx hb dL_law_631 rfl (lv_at hl 0 rfl) ?_
  refine lv_iload hx hb dL_law_632 (lv_at hl 4 rfl) ?_
  refine lv_iconst (v := 2) hx hb dL_law_634 (by decide) ?_
  refine lv_iadd hx hb dL_law_635 ?_
  obtain ⟨hi, hf⟩ := chk_some hf
  refine va_sld hx hb hX hbl hbA hS (inb_in hi) dL_law_636 ?_
  refine lv_if_eq (tgt := 644) hx hb dL_law_637 (by decide) (fun c_72 => ?_) (fun c_72 => ?_)
  · have hf := ite_t hf c_72
    refine lv_iconst (v := 0) hx hb dL_law_644 (by decide) ?_
    refine lv_aload_n hx hb dL_law_645 rfl (lv_at hl 3 rfl) ?_
    obtain ⟨z_73, hz_73, hf⟩ := bn_some hf
    refine cLS (As := [.ref (a 0 0), .int (xs (y + 1).toNatClampNeg), .int 0, .ref b]) (rest := []) ⟨hx, hb, hml, hown, hts⟩ (c_L_open l hst D cI cZ cJ cT a b H.size U g (xs (y + 1).toNatClampNeg) 0 z_73 hz_73) (vx_cwSW 4 hts (gM_law (gL_in gL_law_L_open) gLK) rfl rfl rfl (by decide +kernel) ⟨Nat.le_of_ble_eq_true rfl, Nat.le_of_ble_eq_true rfl⟩) (fl_subM hP [0, 2] rfl) hK (fl_subDM (hDD U V g) [0, 2] rfl rfl) hE hNC hS (own_free (fl_subDM (hDD U V g) [0, 2] rfl rfl) hS hA) rfl rfl hl.1 (Nat.le_of_ble_eq_true rfl) dL_law_646 ⟨(by show _ ≤ 601024; omega), (by show _ ≤ 7293034; omega)⟩ (fun H1 locs hP1 hk1 hS => ?_)
    have hP : va_P D cls (wW cI cZ cJ cT a am b z_73.2.1 V z_73.2.2) H1 := fl_joinM (cs' := [wI cI cZ cT a z_73.2.1, [(b, .inl (cJ, 1, .inr (.inl z_73.2.2)))]]) hP (hDD U V g) [0, 2] rfl rfl hk1 hP1
    clear hP1 hk1
    generalize H1 = H at hP hS ⊢
    refine lv_istore (lv' := [(5, .int z_73.1), (0, .ref sb), (1, .ref (a 0 0)), (2, .ref (am 0)), (3, .ref b), (4, .int y)]) hx hb dL_law_649 hl (by decide) rfl (fun ls hl => ?_)
    refine lv_aload_n hx hb dL_law_651 rfl (lv_at hl 3 rfl) ?_
    refine lv_aload_n hx hb dL_law_652 rfl (lv_at hl 1 rfl) ?_
    refine lv_iload hx hb dL_law_653 (lv_at hl 5 rfl) ?_
    refine lv_iconst (v := 1) hx hb dL_law_655 (by decide) ?_
    refine lv_iadd hx hb dL_law_656 ?_
    obtain ⟨hi, hf⟩ := chk_some hf
    refine va_sld hx hb hX hbl hbA hS (inb_in hi) dL_law_657 ?_
    refine lv_aload_n hx hb dL_law_658 rfl (lv_at hl 1 rfl) ?_
    refine lv_iload hx hb dL_law_659 (lv_at hl 5 rfl) ?_
    refine lv_iconst (v := 2) hx hb dL_law_661 (by decide) ?_
    refine lv_iadd hx hb dL_law_662 ?_
    obtain ⟨hi, hf⟩ := chk_some hf
    refine va_sld hx hb hX hbl hbA hS (inb_in hi) dL_law_663 ?_
    refine lv_if_eq (tgt := 671) hx hb dL_law_664 (by decide) (fun c_74 => ?_) (fun c_74 => ?_)
    · have hf := ite_t hf c_74
      refine lv_iconst (v := 0) hx hb dL_law_671 (by decide) ?_
      obtain ⟨z_75, hz_75, hf⟩ := bn_some hf
      refine cWVi (As := [.int (xs (y + 1).toNatClampNeg), .int 0]) (rest := []) ⟨hx, hb, hml, hown, hts⟩ (c_X7_open l D cI cZ cJ cT am H.size V (xs (y + 1).toNatClampNeg) 0 z_75 hz_75) (cwV 2 hts (gL_in gL_law_X7_open) rfl rfl rfl (by decide +kernel) ⟨Nat.le_of_ble_eq_true rfl, Nat.le_of_ble_eq_true rfl⟩) (fl_sub hP 1 rfl) hK (fl_subD (hDD z_73.2.1 V z_73.2.2) 1 rfl) hS (fl_free (hDD z_73.2.1 V z_73.2.2) hS hA 1 rfl) (va_recv hK (fl_sub hP 1 rfl) (ci := 7) (q0 := 0) rfl rfl) rfl rfl hl.1 (Nat.le_of_ble_eq_true rfl) dL_law_672 ⟨(by show _ ≤ 601024; omega), (by show _ ≤ 7293034; omega)⟩ (fun H1 locs hP1 hk1 hS => ?_)
      have hP : va_P D cls (wW cI cZ cJ cT a am b z_73.2.1 z_75.2 z_73.2.2) H1 := fl_join hP (hDD z_73.2.1 V z_73.2.2) 1 rfl hk1 hP1
      clear hP1 hk1
      generalize H1 = H at hP hS ⊢
      refine lv_istore (lv' := [(6, .int z_75.1), (5, .int z_73.1), (0, .ref sb), (1, .ref (a 0 0)), (2, .ref (am 0)), (3, .ref b), (4, .int y)]) hx hb dL_law_675 hl (by decide) rfl (fun ls hl => ?_)
      refine lv_goto (tgt := 1660) hx hb dL_law_677 (by decide) ?_
      refine lv_iinc (v := y + 5) (lv' := [(4, .int (y + 5)), (6, .int z_75.1), (5, .int z_73.1), (0, .ref sb), (1, .ref (a 0 0)), (2, .ref (am 0)), (3, .ref b)]) hx hb dL_law_1660 hl (k := 6) rfl rfl (by decide) rfl (fun ls hl => ?_)
      refine lv_goto (tgt := 23) hx hb dL_law_1663 (by decide) ?_
      exact ih _ _ _ _ _ _ _ _ _ hf hP hS (lv_sub hl [3, 4, 5, 6, 0] rfl) (by omega) (by omega) (by omega) (by omega)
    · have hf := ite_f hf c_74
      refine lv_iconst (v := 1) hx hb dL_law_667 (by decide) ?_
      refine lv_goto (tgt := 672) hx hb dL_law_668 (by decide) ?_
      obtain ⟨z_76, hz_76, hf⟩ := bn_some hf
      refine cWVi (As := [.int (xs (y + 1).toNatClampNeg), .int 1]) (rest := []) ⟨hx, hb, hml, hown, hts⟩ (c_X7_open l D cI cZ cJ cT am H.size V (xs (y + 1).toNatClampNeg) 1 z_76 hz_76) (cwV 2 hts (gL_in gL_law_X7_open) rfl rfl rfl (by decide +kernel) ⟨Nat.le_of_ble_eq_true rfl, Nat.le_of_ble_eq_true rfl⟩) (fl_sub hP 1 rfl) hK (fl_subD (hDD z_73.2.1 V z_73.2.2) 1 rfl) hS (fl_free (hDD z_73.2.1 V z_73.2.2) hS hA 1 rfl) (va_recv hK (fl_sub hP 1 rfl) (ci := 7) (q0 := 0) rfl rfl) rfl rfl hl.1 (Nat.le_of_ble_eq_true rfl) dL_law_672 ⟨(by show _ ≤ 601024; omega), (by show _ ≤ 7293034; omega)⟩ (fun H1 locs hP1 hk1 hS => ?_)
      have hP : va_P D cls (wW cI cZ cJ cT a am b z_73.2.1 z_76.2 z_73.2.2) H1 := fl_join hP (hDD z_73.2.1 V z_73.2.2) 1 rfl hk1 hP1
      clear hP1 hk1
      generalize H1 = H at hP hS ⊢
      refine lv_istore (lv' := [(6, .int z_76.1), (5, .int z_73.1), (0, .ref sb), (1, .ref (a 0 0)), (2, .ref (am 0)), (3, .ref b), (4, .int y)]) hx hb dL_law_675 hl (by decide) rfl (fun ls hl => ?_)
      refine lv_goto (tgt := 1660) hx hb dL_law_677 (by decide) ?_
      refine lv_iinc (v := y + 5) (lv' := [(4, .int (y + 5)), (6, .int z_76.1), (5, .int z_73.1), (0, .ref sb), (1, .ref (a 0 0)), (2, .ref (am 0)), (3, .ref b)]) hx hb dL_law_1660 hl (k := 6) rfl rfl (by decide) rfl (fun ls hl => ?_)
      refine lv_goto (tgt := 23) hx hb dL_law_1663 (by decide) ?_
      exact ih _ _ _ _ _ _ _ _ _ hf hP hS (lv_sub hl [3, 4, 5, 6, 0] rfl) (by omega) (by omega) (by omega) (by omega)
  · have hf := ite_f hf c_72
    refine lv_iconst (v := 1) hx hb dL_law_640 (by decide) ?_
    refine lv_goto (tgt := 645) hx hb dL_law_641 (by decide) ?_
    refine lv_aload_n hx hb dL_law_645 rfl (lv_at hl 3 rfl) ?_
    obtain ⟨z_77, hz_77, hf⟩ := bn_some hf
    refine cLS (As := [.ref (a 0 0), .int (xs (y + 1).toNatClampNeg), .int 1, .ref b]) (rest := []) ⟨hx, hb, hml, hown, hts⟩ (c_L_open l hst D cI cZ cJ cT a b H.size U g (xs (y + 1).toNatClampNeg) 1 z_77 hz_77) (vx_cwSW 4 hts (gM_law (gL_in gL_law_L_open) gLK) rfl rfl rfl (by decide +kernel) ⟨Nat.le_of_ble_eq_true rfl, Nat.le_of_ble_eq_true rfl⟩) (fl_subM hP [0, 2] rfl) hK (fl_subDM (hDD U V g) [0, 2] rfl rfl) hE hNC hS (own_free (fl_subDM (hDD U V g) [0, 2] rfl rfl) hS hA) rfl rfl hl.1 (Nat.le_of_ble_eq_true rfl) dL_law_646 ⟨(by show _ ≤ 601024; omega), (by show _ ≤ 7293034; omega)⟩ (fun H1 locs hP1 hk1 hS => ?_)
    have hP : va_P D cls (wW cI cZ cJ cT a am b z_77.2.1 V z_77.2.2) H1 := fl_joinM (cs' := [wI cI cZ cT a z_77.2.1, [(b, .inl (cJ, 1, .inr (.inl z_77.2.2)))]]) hP (hDD U V g) [0, 2] rfl rfl hk1 hP1
    clear hP1 hk1
    generalize H1 = H at hP hS ⊢
    refine lv_istore (lv' := [(5, .int z_77.1), (0, .ref sb), (1, .ref (a 0 0)), (2, .ref (am 0)), (3, .ref b), (4, .int y)]) hx hb dL_law_649 hl (by decide) rfl (fun ls hl => ?_)
    refine lv_aload_n hx hb dL_law_651 rfl (lv_at hl 3 rfl) ?_
    refine lv_aload_n hx hb dL_law_652 rfl (lv_at hl 1 rfl) ?_
    refine lv_iload hx hb dL_law_653 (lv_at hl 5 rfl) ?_
    refine lv_iconst (v := 1) hx hb dL_law_655 (by decide) ?_
    refine lv_iadd hx hb dL_law_656 ?_
    obtain ⟨hi, hf⟩ := chk_some hf
    refine va_sld hx hb hX hbl hbA hS (inb_in hi) dL_law_657 ?_
    refine lv_aload_n hx hb dL_law_658 rfl (lv_at hl 1 rfl) ?_
    refine lv_iload hx hb dL_law_659 (lv_at hl 5 rfl) ?_
    refine lv_iconst (v := 2) hx hb dL_law_661 (by decide) ?_
    refine lv_iadd hx hb dL_law_662 ?_
    obtain ⟨hi, hf⟩ := chk_some hf
    refine va_sld hx hb hX hbl hbA hS (inb_in hi) dL_law_663 ?_
    refine lv_if_eq (tgt := 671) hx hb dL_law_664 (by decide) (fun c_78 => ?_) (fun c_78 => ?_)
    · have hf := ite_t hf c_78
      refine lv_iconst (v := 0) hx hb dL_law_671 (by decide) ?_
      obtain ⟨z_79, hz_79, hf⟩ := bn_some hf
      refine cWVi (As := [.int (xs (y + 1).toNatClampNeg), .int 0]) (rest := []) ⟨hx, hb, hml, hown, hts⟩ (c_X7_open l D cI cZ cJ cT am H.size V (xs (y + 1).toNatClampNeg) 0 z_79 hz_79) (cwV 2 hts (gL_in gL_law_X7_open) rfl rfl rfl (by decide +kernel) ⟨Nat.le_of_ble_eq_true rfl, Nat.le_of_ble_eq_true rfl⟩) (fl_sub hP 1 rfl) hK (fl_subD (hDD z_77.2.1 V z_77.2.2) 1 rfl) hS (fl_free (hDD z_77.2.1 V z_77.2.2) hS hA 1 rfl) (va_recv hK (fl_sub hP 1 rfl) (ci := 7) (q0 := 0) rfl rfl) rfl rfl hl.1 (Nat.le_of_ble_eq_true rfl) dL_law_672 ⟨(by show _ ≤ 601024; omega), (by show _ ≤ 7293034; omega)⟩ (fun H1 locs hP1 hk1 hS => ?_)
      have hP : va_P D cls (wW cI cZ cJ cT a am b z_77.2.1 z_79.2 z_77.2.2) H1 := fl_join hP (hDD z_77.2.1 V z_77.2.2) 1 rfl hk1 hP1
      clear hP1 hk1
      generalize H1 = H at hP hS ⊢
      refine lv_istore (lv' := [(6, .int z_79.1), (5, .int z_77.1), (0, .ref sb), (1, .ref (a 0 0)), (2, .ref (am 0)), (3, .ref b), (4, .int y)]) hx hb dL_law_675 hl (by decide) rfl (fun ls hl => ?_)
      refine lv_goto (tgt := 1660) hx hb dL_law_677 (by decide) ?_
      refine lv_iinc (v := y + 5) (lv' := [(4, .int (y + 5)), (6, .int z_79.1), (5, .int z_77.1), (0, .ref sb), (1, .ref (a 0 0)), (2, .ref (am 0)), (3, .ref b)]) hx hb dL_law_1660 hl (k := 6) rfl rfl (by decide) rfl (fun ls hl => ?_)
      refine lv_goto (tgt := 23) hx hb dL_law_1663 (by decide) ?_
      exact ih _ _ _ _ _ _ _ _ _ hf hP hS (lv_sub hl [3, 4, 5, 6, 0] rfl) (by omega) (by omega) (by omega) (by omega)
    · have hf := ite_f hf c_78
      refine lv_iconst (v := 1) hx hb dL_law_667 (by decide) ?_
      refine lv_goto (tgt := 672) hx hb dL_law_668 (by decide) ?_
      obtain ⟨z_80, hz_80, hf⟩ := bn_some hf
      refine cWVi (As := [.int (xs (y + 1).toNatClampNeg), .int 1]) (rest := []) ⟨hx, hb, hml, hown, hts⟩ (c_X7_open l D cI cZ cJ cT am H.size V (xs (y + 1).toNatClampNeg) 1 z_80 hz_80) (cwV 2 hts (gL_in gL_law_X7_open) rfl rfl rfl (by decide +kernel) ⟨Nat.le_of_ble_eq_true rfl, Nat.le_of_ble_eq_true rfl⟩) (fl_sub hP 1 rfl) hK (fl_subD (hDD z_77.2.1 V z_77.2.2) 1 rfl) hS (fl_free (hDD z_77.2.1 V z_77.2.2) hS hA 1 rfl) (va_recv hK (fl_sub hP 1 rfl) (ci := 7) (q0 := 0) rfl rfl) rfl rfl hl.1 (Nat.le_of_ble_eq_true rfl) dL_law_672 ⟨(by show _ ≤ 601024; omega), (by show _ ≤ 7293034; omega)⟩ (fun H1 locs hP1 hk1 hS => ?_)
      have hP : va_P D cls (wW cI cZ cJ cT a am b z_77.2.1 z_80.2 z_77.2.2) H1 := fl_join hP (hDD z_77.2.1 V z_77.2.2) 1 rfl hk1 hP1
      clear hP1 hk1
      generalize H1 = H at hP hS ⊢
      refine lv_istore (lv' := [(6, .int z_80.1), (5, .int z_77.1), (0, .ref sb), (1, .ref (a 0 0)), (2, .ref (am 0)), (3, .ref b), (4, .int y)]) hx hb dL_law_675 hl (by decide) rfl (fun ls hl => ?_)
      refine lv_goto (tgt := 1660) hx hb dL_law_677 (by decide) ?_
      refine lv_iinc (v := y + 5) (lv' := [(4, .int (y + 5)), (6, .int z_80.1), (5, .int z_77.1), (0, .ref sb), (1, .ref (a 0 0)), (2, .ref (am 0)), (3, .ref b)]) hx hb dL_law_1660 hl (k := 6) rfl rfl (by decide) rfl (fun ls hl => ?_)
      refine lv_goto (tgt := 23) hx hb dL_law_1663 (by decide) ?_
      exact ih _ _ _ _ _ _ _ _ _ hf hP hS (lv_sub hl [3, 4, 5, 6, 0] rfl) (by omega) (by omega) (by omega) (by omega)
def law_B11 (L : Nat) (xs : Nat → Int32) (r23 : Int32 → S2 → S1 → (Nat → Int64) → Option Int32) (y : Int32) (U : S2) (V : S1) (g : Nat → Int64) : Option Int32 := chk (inb (y + 1) L) (bn (f_L_close U g (xs (y + 1).toNatClampNeg)) (fun z_81 => chk (inb (y + 1) L) (bn (f_X7_close V (xs (y + 1).toNatClampNeg)) (fun z_82 => r23 (y + 5) z_81.2.1 z_82.2 z_81.2.2))))
set_option maxHeartbeats 40000000 in
set_option maxRecDepth 100000 in
theorem law_case11 {p : Program} {l : Launch} {e : Env} {s : State} {m : MethodId} {below : List Frame} {meth : Method} {c : Code} {D : va_G} {cI cZ cJ cT : ClassId} {sb L : Nat} {xs : Nat → Int32} (hst : l.stackTraces = false) (C0 : lw_At p s m meth c sb L xs) (hK : va_K D cls (tys cI cZ cJ cT) s) (hE : EX (fun q : Nat => s.heap.size ≤ q) s) (hNC : NC s) (a : Nat → Nat → Nat) (am : Nat → Nat) (b : Nat) (hDD : ∀ (U : S2) (V : S1) (g : Nat → Int64), va_D (fun q : Nat => s.heap.size ≤ q) (wW cI cZ cJ cT a am b U V g)) (r23 : Int32 → S2 → S1 → (Nat → Int64) → Option Int32) (n : Nat) (ih : ∀ (y : Int32) (U : S2) (V : S1) (g : Nat → Int64) (H : Heap) (locs : List Loc) (ls : Array Slot) (nc ns : Nat), r23 y U V g = some 1 → va_P D cls (wW cI cZ cJ cT a am b U V g) H → va_S (fun q : Nat => s.heap.size ≤ q) s.heap H locs → lv_has ls 7 [(0, .ref sb), (1, .ref (a 0 0)), (2, .ref (am 0)), (3, .ref b), (4, .int y)] → nc + 8 * n ≤ 601024 → ns + 48 * n ≤ 7293034 → nc ≤ 601024 → ns ≤ 7293034 → W p l e room_1 s m #[Value.ref sb] below meth c H locs nc ns (lw_Z below #[Value.ref sb] s) (F0 m 23 ls [])) (y : Int32) (U : S2) (V : S1) (g : Nat → Int64) (H : Heap) (locs : List Loc) (ls : Array Slot) (nc ns : Nat) (hf : law_B11 L xs r23 y U V g = some 1) (hP : va_P D cls (wW cI cZ cJ cT a am b U V g) H) (hS : va_S (fun q : Nat => s.heap.size ≤ q) s.heap H locs) (hl : lv_has ls 7 [(0, .ref sb), (1, .ref (a 0 0)), (2, .ref (am 0)), (3, .ref b), (4, .int y)]) (hc1 : nc + 8 * (n + 1) ≤ 601024) (hc2 : ns + 48 * (n + 1) ≤ 7293034) (hc3 : nc ≤ 601024) (hc4 : ns ≤ 7293034) : W p l e room_1 s m #[Value.ref sb] below meth c H locs nc ns (lw_Z below #[Value.ref sb] s) (F0 m 680 ls []) := by
  obtain ⟨hx, hb, hr, hml, hown, hts, hX, hbl, hlocks, hgv⟩ := id C0
  have hA : ∀ q : Nat, s.heap.size ≤ q → (fun q : Nat => s.heap.size ≤ q) q := fun _ h => h
  have hbA : ¬ (fun q : Nat => s.heap.size ≤ q) sb := Nat.not_le.mpr hbl
  unfold law_B11 at hf
  refine lv_aload_n hx hb dL_law_680 rfl (lv_at hl 1 rfl) ?_
  refine lv_aload_n hx hb dL_law_681 rfl (lv_at hl 0 rfl) ?_
  refine lv_iload hx hb dL_law_682 (lv_at hl 4 rfl) ?_
  refine lv_iconst (v := 1) hx hb dL_law_684 (by decide) ?_
  refine lv_iadd hx hb dL_law_685 ?_
  obtain ⟨hi, hf⟩ := chk_some hf
  refine va_sld hx hb hX hbl hbA hS (inb_in hi) dL_law_686 ?_
  refine lv_aload_n hx hb dL_law_687 rfl (lv_at hl 3 rfl) ?_
  obtain ⟨z_81, hz_81, hf⟩ := bn_some hf
  refine cLS (As := [.ref (a 0 0), .int (xs (y + 1).toNatClampNeg), .ref b]) (rest := []) ⟨hx, hb, hml, hown, hts⟩ (c_L_close l hst D cI cZ cJ cT a b H.size U g (xs (y + 1).toNatClampNeg) z_81 hz_81) (vx_cwSW 3 hts (gM_law (gL_in gL_law_L_close) gLK) rfl rfl rfl (by decide +kernel) ⟨Nat.le_of_ble_eq_true rfl, Nat.le_of_ble_eq_true rfl⟩) (fl_subM hP [0, 2] rfl) hK (fl_subDM (hDD U V g) [0, 2] rfl rfl) hE hNC hS (own_free (fl_subDM (hDD U V g) [0, 2] rfl rfl) hS hA) rfl rfl hl.1 (Nat.le_of_ble_eq_true rfl) dL_law_688 ⟨(by show _ ≤ 601024; omega), (by show _ ≤ 7293034; omega)⟩ (fun H1 locs hP1 hk1 hS => ?_)
  have hP : va_P D cls (wW cI cZ cJ cT a am b z_81.2.1 V z_81.2.2) H1 := fl_joinM (cs' := [wI cI cZ cT a z_81.2.1, [(b, .inl (cJ, 1, .inr (.inl z_81.2.2)))]]) hP (hDD U V g) [0, 2] rfl rfl hk1 hP1
  clear hP1 hk1
  generalize H1 = H at hP hS ⊢
  refine lv_istore (lv' := [(5, .int z_81.1), (0, .ref sb), (1, .ref (a 0 0)), (2, .ref (am 0)), (3, .ref b), (4, .int y)]) hx hb dL_law_691 hl (by decide) rfl (fun ls hl => ?_)
  refine lv_aload_n hx hb dL_law_693 rfl (lv_at hl 3 rfl) ?_
  refine lv_aload_n hx hb dL_law_694 rfl (lv_at hl 1 rfl) ?_
  refine lv_iload hx hb dL_law_695 (lv_at hl 5 rfl) ?_
  refine lv_iconst (v := 1) hx hb dL_law_697 (by decide) ?_
  refine lv_iadd hx hb dL_law_698 ?_
  obtain ⟨hi, hf⟩ := chk_some hf
  refine va_sld hx hb hX hbl hbA hS (inb_in hi) dL_law_699 ?_
  obtain ⟨z_82, hz_82, hf⟩ := bn_some hf
  refine cWVi (As := [.int (xs (y + 1).toNatClampNeg)]) (rest := []) ⟨hx, hb, hml, hown, hts⟩ (c_X7_close l D cI cZ cJ cT am H.size V (xs (y + 1).toNatClampNeg) z_82 hz_82) (cwV 1 hts (gL_in gL_law_X7_close) rfl rfl rfl (by decide +kernel) ⟨Nat.le_of_ble_eq_true rfl, Nat.le_of_ble_eq_true rfl⟩) (fl_sub hP 1 rfl) hK (fl_subD (hDD z_81.2.1 V z_81.2.2) 1 rfl) hS (fl_free (hDD z_81.2.1 V z_81.2.2) hS hA 1 rfl) (va_recv hK (fl_sub hP 1 rfl) (ci := 7) (q0 := 0) rfl rfl) rfl rfl hl.1 (Nat.le_of_ble_eq_true rfl) dL_law_700 ⟨(by show _ ≤ 601024; omega), (by show _ ≤ 7293034; omega)⟩ (fun H1 locs hP1 hk1 hS => ?_)
  have hP : va_P D cls (wW cI cZ cJ cT a am b z_81.2.1 z_82.2 z_81.2.2) H1 := fl_join hP (hDD z_81.2.1 V z_81.2.2) 1 rfl hk1 hP1
  clear hP1 hk1
  generalize H1 = H at hP hS ⊢
  refine lv_istore (lv' := [(6, .int z_82.1), (5, .int z_81.1), (0, .ref sb), (1, .ref (a 0 0)), (2, .ref (am 0)), (3, .ref b), (4, .int y)]) hx hb dL_law_703 hl (by decide) rfl (fun ls hl => ?_)
  refine lv_goto (tgt := 1660) hx hb dL_law_705 (by decide) ?_
  refine lv_iinc (v := y + 5) (lv' := [(4, .int (y + 5)), (6, .int z_82.1), (5, .int z_81.1), (0, .ref sb), (1, .ref (a 0 0)), (2, .ref (am 0)), (3, .ref b)]) hx hb dL_law_1660 hl (k := 6) rfl rfl (by decide) rfl (fun ls hl => ?_)
  refine lv_goto (tgt := 23) hx hb dL_law_1663 (by decide) ?_
  exact ih _ _ _ _ _ _ _ _ _ hf hP hS (lv_sub hl [3, 4, 5, 6, 0] rfl) (by omega) (by omega) (by omega) (by omega)
def law_B12 (L : Nat) (xs : Nat → Int32) (r23 : Int32 → S2 → S1 → (Nat → Int64) → Option Int32) (y : Int32) (U : S2) (V : S1) (g : Nat → Int64) : Option Int32 := chk (inb (y + 1) L) (chk (inb (y + 2) L) (chk (inb (y + 3) L) (bn (f_L_write U g (xs (y + 1).toNatClampNeg) (xs (y + 2).toNatClampNeg) (xs (y + 3).toNatClampNeg)) (fun z_83 => chk (inb (y + 1) L) (chk (inb (y + 2) L) (chk (inb (y + 3) L) (bn (f_X7_write V (xs (y + 1).toNatClampNeg) (xs (y + 2).toNatClampNeg) (xs (y + 3).toNatClampNeg)) (fun z_84 => r23 (y + 5) z_83.2.1 z_84.2 z_83.2.2))))))))
set_option maxHeartbeats 40000000 in
set_option maxRecDepth 100000 in
theorem law_case12 {p : Program} {l : Launch} {e : Env} {s : State} {m : MethodId} {below : List Frame} {meth : Method} {c : Code} {D : va_G} {cI cZ cJ cT : ClassId} {sb L : Nat} {xs : Nat → Int32} (hst : l.stackTraces = false) (C0 : lw_At p s m meth c sb L xs) (hK : va_K D cls (tys cI cZ cJ cT) s) (hE : EX (fun q : Nat => s.heap.size ≤ q) s) (hNC : NC s) (a : Nat → Nat → Nat) (am : Nat → Nat) (b : Nat) (hDD : ∀ (U : S2) (V : S1) (g : Nat → Int64), va_D (fun q : Nat => s.heap.size ≤ q) (wW cI cZ cJ cT a am b U V g)) (r23 : Int32 → S2 → S1 → (Nat → Int64) → Option Int32) (n : Nat) (ih : ∀ (y : Int32) (U : S2) (V : S1) (g : Nat → Int64) (H : Heap) (locs : List Loc) (ls : Array Slot) (nc ns : Nat), r23 y U V g = some 1 → va_P D cls (wW cI cZ cJ cT a am b U V g) H → va_S (fun q : Nat => s.heap.size ≤ q) s.heap H locs → lv_has ls 7 [(0, .ref sb), (1, .ref (a 0 0)), (2, .ref (am 0)), (3, .ref b), (4, .int y)] → nc + 8 * n ≤ 601024 → ns + 48 * n ≤ 7293034 → nc ≤ 601024 → ns ≤ 7293034 → W p l e room_1 s m #[Value.ref sb] below meth c H locs nc ns (lw_Z below #[Value.ref sb] s) (F0 m 23 ls [])) (y : Int32) (U : S2) (V : S1) (g : Nat → Int64) (H : Heap) (locs : List Loc) (ls : Array Slot) (nc ns : Nat) (hf : law_B12 L xs r23 y U V g = some 1) (hP : va_P D cls (wW cI cZ cJ cT a am b U V g) H) (hS : va_S (fun q : Nat => s.heap.size ≤ q) s.heap H locs) (hl : lv_has ls 7 [(0, .ref sb), (1, .ref (a 0 0)), (2, .ref (am 0)), (3, .ref b), (4, .int y)]) (hc1 : nc + 8 * (n + 1) ≤ 601024) (hc2 : ns + 48 * (n + 1) ≤ 7293034) (hc3 : nc ≤ 601024) (hc4 : ns ≤ 7293034) : W p l e room_1 s m #[Value.ref sb] below meth c H locs nc ns (lw_Z below #[Value.ref sb] s) (F0 m 708 ls []) := by
  obtain ⟨hx, hb, hr, hml, hown, hts, hX, hbl, hlocks, hgv⟩ := id C0
  have hA : ∀ q : Nat, s.heap.size ≤ q → (fun q : Nat => s.heap.size ≤ q) q := fun _ h => h
  have hbA : ¬ (fun q : Nat => s.heap.size ≤ q) sb := Nat.not_le.mpr hbl
  unfold law_B12 at hf
  refine lv_aload_n hx hb dL_law_708 rfl (lv_at hl 1 rfl) ?_
  refine lv_aload_n hx hb dL_law_709 rfl (lv_at hl 0 rfl) ?_
  refine lv_iload hx hb dL_law_710 (lv_at hl 4 rfl) ?_
  refine lv_iconst (v := 1) hx hb dL_law_712 (by decide) ?_
  refine lv_iadd hx hb dL_law_713 ?_
  obtain ⟨hi, hf⟩ := chk_some hf
  refine va_sld hx hb hX hbl hbA hS (inb_in hi) dL_law_714 ?_
  refine lv_aload_n hx hb dL_law_715 rfl (lv_at hl 0 rfl) ?_
  refine lv_iload hx hb dL_law_716 (lv_at hl 4 rfl) ?_
  refine lv_iconst (v := 2) hx hb dL_law_718 (by decide) ?_
  refine lv_iadd hx hb dL_law_719 ?_
  obtain ⟨hi, hf⟩ := chk_some hf
  refine va_sld hx hb hX hbl hbA hS (inb_in hi) dL_law_720 ?_
  refine lv_aload_n hx hb dL_law_721 rfl (lv_at hl 0 rfl) ?_
  refine lv_iload hx hb dL_law_722 (lv_at hl 4 rfl) ?_
  refine lv_iconst (v := 3) hx hb dL_law_724 (by decide) ?_
  refine lv_iadd hx hb dL_law_725 ?_
  obtain ⟨hi, hf⟩ := chk_some hf
  refine va_sld hx hb hX hbl hbA hS (inb_in hi) dL_law_726 ?_
  refine lv_aload_n hx hb dL_law_727 rfl (lv_at hl 3 rfl) ?_
  obtain ⟨z_83, hz_83, hf⟩ := bn_some hf
  refine cLS (As := [.ref (a 0 0), .int (xs (y + 1).toNatClampNeg), .int (xs (y + 2).toNatClampNeg), .int (xs (y + 3).toNatClampNeg), .ref b]) (rest := []) ⟨hx, hb, hml, hown, hts⟩ (c_L_write l hst D cI cZ cJ cT a b H.size U g (xs (y + 1).toNatClampNeg) (xs (y + 2).toNatClampNeg) (xs (y + 3).toNatClampNeg) z_83 hz_83) (vx_cwSW 5 hts (gM_law (gL_in gL_law_L_write) gLK) rfl rfl rfl (by decide +kernel) ⟨Nat.le_of_ble_eq_true rfl, Nat.le_of_ble_eq_true rfl⟩) (fl_subM hP [0, 2] rfl) hK (fl_subDM (hDD U V g) [0, 2] rfl rfl) hE hNC hS (own_free (fl_subDM (hDD U V g) [0, 2] rfl rfl) hS hA) rfl rfl hl.1 (Nat.le_of_ble_eq_true rfl) dL_law_728 ⟨(by show _ ≤ 601024; omega), (by show _ ≤ 7293034; omega)⟩ (fun H1 locs hP1 hk1 hS => ?_)
  have hP : va_P D cls (wW cI cZ cJ cT a am b z_83.2.1 V z_83.2.2) H1 := fl_joinM (cs' := [wI cI cZ cT a z_83.2.1, [(b, .inl (cJ, 1, .inr (.inl z_83.2.2)))]]) hP (hDD U V g) [0, 2] rfl rfl hk1 hP1
  clear hP1 hk1
  generalize H1 = H at hP hS ⊢
  refine lv_istore (lv' := [(5, .int z_83.1), (0, .ref sb), (1, .ref (a 0 0)), (2, .ref (am 0)), (3, .ref b), (4, .int y)]) hx hb dL_law_731 hl (by decide) rfl (fun ls hl => ?_)
  refine lv_aload_n hx hb dL_law_733 rfl (lv_at hl 3 rfl) ?_
  refine lv_aload_n hx hb dL_law_734 rfl (lv_at hl 1 rfl) ?_
  refine lv_iload hx hb dL_law_735 (lv_at hl 5 rfl) ?_
  refine lv_iconst (v := 1) hx hb dL_law_737 (by decide) ?_
  refine lv_iadd hx hb dL_law_738 ?_
  obtain ⟨hi, hf⟩ := chk_some hf
  refine va_sld hx hb hX hbl hbA hS (inb_in hi) dL_law_739 ?_
  refine lv_aload_n hx hb dL_law_740 rfl (lv_at hl 1 rfl) ?_
  refine lv_iload hx hb dL_law_741 (lv_at hl 5 rfl) ?_
  refine lv_iconst (v := 2) hx hb dL_law_743 (by decide) ?_
  refine lv_iadd hx hb dL_law_744 ?_
  obtain ⟨hi, hf⟩ := chk_some hf
  refine va_sld hx hb hX hbl hbA hS (inb_in hi) dL_law_745 ?_
  refine lv_aload_n hx hb dL_law_746 rfl (lv_at hl 1 rfl) ?_
  refine lv_iload hx hb dL_law_747 (lv_at hl 5 rfl) ?_
  refine lv_iconst (v := 3) hx hb dL_law_749 (by decide) ?_
  refine lv_iadd hx hb dL_law_750 ?_
  obtain ⟨hi, hf⟩ := chk_some hf
  refine va_sld hx hb hX hbl hbA hS (inb_in hi) dL_law_751 ?_
  obtain ⟨z_84, hz_84, hf⟩ := bn_some hf
  refine cWVi (As := [.int (xs (y + 1).toNatClampNeg), .int (xs (y + 2).toNatClampNeg), .int (xs (y + 3).toNatClampNeg)]) (rest := []) ⟨hx, hb, hml, hown, hts⟩ (c_X7_write l D cI cZ cJ cT am H.size V (xs (y + 1).toNatClampNeg) (xs (y + 2).toNatClampNeg) (xs (y + 3).toNatClampNeg) z_84 hz_84) (cwV 3 hts (gL_in gL_law_X7_write) rfl rfl rfl (by decide +kernel) ⟨Nat.le_of_ble_eq_true rfl, Nat.le_of_ble_eq_true rfl⟩) (fl_sub hP 1 rfl) hK (fl_subD (hDD z_83.2.1 V z_83.2.2) 1 rfl) hS (fl_free (hDD z_83.2.1 V z_83.2.2) hS hA 1 rfl) (va_recv hK (fl_sub hP 1 rfl) (ci := 7) (q0 := 0) rfl rfl) rfl rfl hl.1 (Nat.le_of_ble_eq_true rfl) dL_law_752 ⟨(by show _ ≤ 601024; omega), (by show _ ≤ 7293034; omega)⟩ (fun H1 locs hP1 hk1 hS => ?_)
  have hP : va_P D cls (wW cI cZ cJ cT a am b z_83.2.1 z_84.2 z_83.2.2) H1 := fl_join hP (hDD z_83.2.1 V z_83.2.2) 1 rfl hk1 hP1
  clear hP1 hk1
  generalize H1 = H at hP hS ⊢
  refine lv_istore (lv' := [(6, .int z_84.1), (5, .int z_83.1), (0, .ref sb), (1, .ref (a 0 0)), (2, .ref (am 0)), (3, .ref b), (4, .int y)]) hx hb dL_law_755 hl (by decide) rfl (fun ls hl => ?_)
  refine lv_goto (tgt := 1660) hx hb dL_law_757 (by decide) ?_
  refine lv_iinc (v := y + 5) (lv' := [(4, .int (y + 5)), (6, .int z_84.1), (5, .int z_83.1), (0, .ref sb), (1, .ref (a 0 0)), (2, .ref (am 0)), (3, .ref b)]) hx hb dL_law_1660 hl (k := 6) rfl rfl (by decide) rfl (fun ls hl => ?_)
  refine lv_goto (tgt := 23) hx hb dL_law_1663 (by decide) ?_
  exact ih _ _ _ _ _ _ _ _ _ hf hP hS (lv_sub hl [3, 4, 5, 6, 0] rfl) (by omega) (by omega) (by omega) (by omega)
def law_B13 (L : Nat) (xs : Nat → Int32) (r23 : Int32 → S2 → S1 → (Nat → Int64) → Option Int32) (y : Int32) (U : S2) (V : S1) (g : Nat → Int64) : Option Int32 := chk (inb (y + 1) L) (chk (inb (y + 2) L) (bn (f_L_read U g (xs (y + 1).toNatClampNeg) (xs (y + 2).toNatClampNeg)) (fun z_85 => chk (inb (y + 1) L) (chk (inb (y + 2) L) (bn (f_X7_read V (xs (y + 1).toNatClampNeg) (xs (y + 2).toNatClampNeg)) (fun z_86 => r23 (y + 5) z_85.2.1 z_86.2 z_85.2.2))))))
set_option maxHeartbeats 40000000 in
set_option maxRecDepth 100000 in
theorem law_case13 {p : Program} {l : Launch} {e : Env} {s : State} {m : MethodId} {below : List Frame} {meth : Method} {c : Code} {D : va_G} {cI cZ cJ cT : ClassId} {sb L : Nat} {xs : Nat → Int32} (hst : l.stackTraces = false) (C0 : lw_At p s m meth c sb L xs) (hK : va_K D cls (tys cI cZ cJ cT) s) (hE : EX (fun q : Nat => s.heap.size ≤ q) s) (hNC : NC s) (a : Nat → Nat → Nat) (am : Nat → Nat) (b : Nat) (hDD : ∀ (U : S2) (V : S1) (g : Nat → Int64), va_D (fun q : Nat => s.heap.size ≤ q) (wW cI cZ cJ cT a am b U V g)) (r23 : Int32 → S2 → S1 → (Nat → Int64) → Option Int32) (n : Nat) (ih : ∀ (y : Int32) (U : S2) (V : S1) (g : Nat → Int64) (H : Heap) (locs : List Loc) (ls : Array Slot) (nc ns : Nat), r23 y U V g = some 1 → va_P D cls (wW cI cZ cJ cT a am b U V g) H → va_S (fun q : Nat => s.heap.size ≤ q) s.heap H locs → lv_has ls 7 [(0, .ref sb), (1, .ref (a 0 0)), (2, .ref (am 0)), (3, .ref b), (4, .int y)] → nc + 8 * n ≤ 601024 → ns + 48 * n ≤ 7293034 → nc ≤ 601024 → ns ≤ 7293034 → W p l e room_1 s m #[Value.ref sb] below meth c H locs nc ns (lw_Z below #[Value.ref sb] s) (F0 m 23 ls [])) (y : Int32) (U : S2) (V : S1) (g : Nat → Int64) (H : Heap) (locs : List Loc) (ls : Array Slot) (nc ns : Nat) (hf : law_B13 L xs r23 y U V g = some 1) (hP : va_P D cls (wW cI cZ cJ cT a am b U V g) H) (hS : va_S (fun q : Nat => s.heap.size ≤ q) s.heap H locs) (hl : lv_has ls 7 [(0, .ref sb), (1, .ref (a 0 0)), (2, .ref (am 0)), (3, .ref b), (4, .int y)]) (hc1 : nc + 8 * (n + 1) ≤ 601024) (hc2 : ns + 48 * (n + 1) ≤ 7293034) (hc3 : nc ≤ 601024) (hc4 : ns ≤ 7293034) : W p l e room_1 s m #[Value.ref sb] below meth c H locs nc ns (lw_Z below #[Value.ref sb] s) (F0 m 760 ls []) := by
  obtain ⟨hx, hb, hr, hml, hown, hts, hX, hbl, hlocks, hgv⟩ := id C0
  have hA : ∀ q : Nat, s.heap.size ≤ q → (fun q : Nat => s.heap.size ≤ q) q := fun _ h => h
  have hbA : ¬ (fun q : Nat => s.heap.size ≤ q) sb := Nat.not_le.mpr hbl
  unfold law_B13 at hf
  refine lv_aload_n hx hb dL_law_760 rfl (lv_at hl 1 rfl) ?_
  refine lv_aload_n hx hb dL_law_761 rfl (lv_at hl 0 rfl) ?_
  refine lv_iload hx hb dL_law_762 (lv_at hl 4 rfl) ?_
  refine lv_iconst (v := 1) hx hb dL_law_764 (by decide) ?_
  refine lv_iadd hx hb dL_law_765 ?_
  obtain ⟨hi, hf⟩ := chk_some hf
  refine va_sld hx hb hX hbl hbA hS (inb_in hi) dL_law_766 ?_
  refine lv_aload_n hx hb dL_law_767 rfl (lv_at hl 0 rfl) ?_
  refine lv_iload hx hb dL_law_768 (lv_at hl 4 rfl) ?_
  refine lv_iconst (v := 2) hx hb dL_law_770 (by decide) ?_
  refine lv_iadd hx hb dL_law_771 ?_
  obtain ⟨hi, hf⟩ := chk_some hf
  refine va_sld hx hb hX hbl hbA hS (inb_in hi) dL_law_772 ?_
  refine lv_aload_n hx hb dL_law_773 rfl (lv_at hl 3 rfl) ?_
  obtain ⟨z_85, hz_85, hf⟩ := bn_some hf
  refine cLS (As := [.ref (a 0 0), .int (xs (y + 1).toNatClampNeg), .int (xs (y + 2).toNatClampNeg), .ref b]) (rest := []) ⟨hx, hb, hml, hown, hts⟩ (c_L_read l hst D cI cZ cJ cT a b H.size U g (xs (y + 1).toNatClampNeg) (xs (y + 2).toNatClampNeg) z_85 hz_85) (vx_cwSW 4 hts (gM_law (gL_in gL_law_L_read) gLK) rfl rfl rfl (by decide +kernel) ⟨Nat.le_of_ble_eq_true rfl, Nat.le_of_ble_eq_true rfl⟩) (fl_subM hP [0, 2] rfl) hK (fl_subDM (hDD U V g) [0, 2] rfl rfl) hE hNC hS (own_free (fl_subDM (hDD U V g) [0, 2] rfl rfl) hS hA) rfl rfl hl.1 (Nat.le_of_ble_eq_true rfl) dL_law_774 ⟨(by show _ ≤ 601024; omega), (by show _ ≤ 7293034; omega)⟩ (fun H1 locs hP1 hk1 hS => ?_)
  have hP : va_P D cls (wW cI cZ cJ cT a am b z_85.2.1 V z_85.2.2) H1 := fl_joinM (cs' := [wI cI cZ cT a z_85.2.1, [(b, .inl (cJ, 1, .inr (.inl z_85.2.2)))]]) hP (hDD U V g) [0, 2] rfl rfl hk1 hP1
  clear hP1 hk1
  generalize H1 = H at hP hS ⊢
  refine lv_istore (lv' := [(5, .int z_85.1), (0, .ref sb), (1, .ref (a 0 0)), (2, .ref (am 0)), (3, .ref b), (4, .int y)]) hx hb dL_law_777 hl (by decide) rfl (fun ls hl => ?_)
  refine lv_aload_n hx hb dL_law_779 rfl (lv_at hl 3 rfl) ?_
  refine lv_aload_n hx hb dL_law_780 rfl (lv_at hl 1 rfl) ?_
  refine lv_iload hx hb dL_law_781 (lv_at hl 5 rfl) ?_
  refine lv_iconst (v := 1) hx hb dL_law_783 (by decide) ?_
  refine lv_iadd hx hb dL_law_784 ?_
  obtain ⟨hi, hf⟩ := chk_some hf
  refine va_sld hx hb hX hbl hbA hS (inb_in hi) dL_law_785 ?_
  refine lv_aload_n hx hb dL_law_786 rfl (lv_at hl 1 rfl) ?_
  refine lv_iload hx hb dL_law_787 (lv_at hl 5 rfl) ?_
  refine lv_iconst (v := 2) hx hb dL_law_789 (by decide) ?_
  refine lv_iadd hx hb dL_law_790 ?_
  obtain ⟨hi, hf⟩ := chk_some hf
  refine va_sld hx hb hX hbl hbA hS (inb_in hi) dL_law_791 ?_
  obtain ⟨z_86, hz_86, hf⟩ := bn_some hf
  refine cWVi (As := [.int (xs (y + 1).toNatClampNeg), .int (xs (y + 2).toNatClampNeg)]) (rest := []) ⟨hx, hb, hml, hown, hts⟩ (c_X7_read l D cI cZ cJ cT am H.size V (xs (y + 1).toNatClampNeg) (xs (y + 2).toNatClampNeg) z_86 hz_86) (cwV 2 hts (gL_in gL_law_X7_read) rfl rfl rfl (by decide +kernel) ⟨Nat.le_of_ble_eq_true rfl, Nat.le_of_ble_eq_true rfl⟩) (fl_sub hP 1 rfl) hK (fl_subD (hDD z_85.2.1 V z_85.2.2) 1 rfl) hS (fl_free (hDD z_85.2.1 V z_85.2.2) hS hA 1 rfl) (va_recv hK (fl_sub hP 1 rfl) (ci := 7) (q0 := 0) rfl rfl) rfl rfl hl.1 (Nat.le_of_ble_eq_true rfl) dL_law_792 ⟨(by show _ ≤ 601024; omega), (by show _ ≤ 7293034; omega)⟩ (fun H1 locs hP1 hk1 hS => ?_)
  have hP : va_P D cls (wW cI cZ cJ cT a am b z_85.2.1 z_86.2 z_85.2.2) H1 := fl_join hP (hDD z_85.2.1 V z_85.2.2) 1 rfl hk1 hP1
  clear hP1 hk1
  generalize H1 = H at hP hS ⊢
  refine lv_istore (lv' := [(6, .int z_86.1), (5, .int z_85.1), (0, .ref sb), (1, .ref (a 0 0)), (2, .ref (am 0)), (3, .ref b), (4, .int y)]) hx hb dL_law_795 hl (by decide) rfl (fun ls hl => ?_)
  refine lv_goto (tgt := 1660) hx hb dL_law_797 (by decide) ?_
  refine lv_iinc (v := y + 5) (lv' := [(4, .int (y + 5)), (6, .int z_86.1), (5, .int z_85.1), (0, .ref sb), (1, .ref (a 0 0)), (2, .ref (am 0)), (3, .ref b)]) hx hb dL_law_1660 hl (k := 6) rfl rfl (by decide) rfl (fun ls hl => ?_)
  refine lv_goto (tgt := 23) hx hb dL_law_1663 (by decide) ?_
  exact ih _ _ _ _ _ _ _ _ _ hf hP hS (lv_sub hl [3, 4, 5, 6, 0] rfl) (by omega) (by omega) (by omega) (by omega)
def law_B14 (L : Nat) (xs : Nat → Int32) (r23 : Int32 → S2 → S1 → (Nat → Int64) → Option Int32) (y : Int32) (U : S2) (V : S1) (g : Nat → Int64) : Option Int32 := chk (inb (y + 1) L) (chk (inb (y + 2) L) (chk (inb (y + 3) L) (bn (f_L_ahead U g (xs (y + 1).toNatClampNeg) (xs (y + 2).toNatClampNeg) (xs (y + 3).toNatClampNeg)) (fun z_87 => chk (inb (y + 1) L) (chk (inb (y + 2) L) (chk (inb (y + 3) L) (bn (f_X7_ahead V (xs (y + 1).toNatClampNeg) (xs (y + 2).toNatClampNeg) (xs (y + 3).toNatClampNeg)) (fun z_88 => r23 (y + 5) z_87.2.1 z_88.2 z_87.2.2))))))))
set_option maxHeartbeats 40000000 in
set_option maxRecDepth 100000 in
theorem law_case14 {p : Program} {l : Launch} {e : Env} {s : State} {m : MethodId} {below : List Frame} {meth : Method} {c : Code} {D : va_G} {cI cZ cJ cT : ClassId} {sb L : Nat} {xs : Nat → Int32} (hst : l.stackTraces = false) (C0 : lw_At p s m meth c sb L xs) (hK : va_K D cls (tys cI cZ cJ cT) s) (hE : EX (fun q : Nat => s.heap.size ≤ q) s) (hNC : NC s) (a : Nat → Nat → Nat) (am : Nat → Nat) (b : Nat) (hDD : ∀ (U : S2) (V : S1) (g : Nat → Int64), va_D (fun q : Nat => s.heap.size ≤ q) (wW cI cZ cJ cT a am b U V g)) (r23 : Int32 → S2 → S1 → (Nat → Int64) → Option Int32) (n : Nat) (ih : ∀ (y : Int32) (U : S2) (V : S1) (g : Nat → Int64) (H : Heap) (locs : List Loc) (ls : Array Slot) (nc ns : Nat), r23 y U V g = some 1 → va_P D cls (wW cI cZ cJ cT a am b U V g) H → va_S (fun q : Nat => s.heap.size ≤ q) s.heap H locs → lv_has ls 7 [(0, .ref sb), (1, .ref (a 0 0)), (2, .ref (am 0)), (3, .ref b), (4, .int y)] → nc + 8 * n ≤ 601024 → ns + 48 * n ≤ 7293034 → nc ≤ 601024 → ns ≤ 7293034 → W p l e room_1 s m #[Value.ref sb] below meth c H locs nc ns (lw_Z below #[Value.ref sb] s) (F0 m 23 ls [])) (y : Int32) (U : S2) (V : S1) (g : Nat → Int64) (H : Heap) (locs : List Loc) (ls : Array Slot) (nc ns : Nat) (hf : law_B14 L xs r23 y U V g = some 1) (hP : va_P D cls (wW cI cZ cJ cT a am b U V g) H) (hS : va_S (fun q : Nat => s.heap.size ≤ q) s.heap H locs) (hl : lv_has ls 7 [(0, .ref sb), (1, .ref (a 0 0)), (2, .ref (am 0)), (3, .ref b), (4, .int y)]) (hc1 : nc + 8 * (n + 1) ≤ 601024) (hc2 : ns + 48 * (n + 1) ≤ 7293034) (hc3 : nc ≤ 601024) (hc4 : ns ≤ 7293034) : W p l e room_1 s m #[Value.ref sb] below meth c H locs nc ns (lw_Z below #[Value.ref sb] s) (F0 m 800 ls []) := by
  obtain ⟨hx, hb, hr, hml, hown, hts, hX, hbl, hlocks, hgv⟩ := id C0
  have hA : ∀ q : Nat, s.heap.size ≤ q → (fun q : Nat => s.heap.size ≤ q) q := fun _ h => h
  have hbA : ¬ (fun q : Nat => s.heap.size ≤ q) sb := Nat.not_le.mpr hbl
  unfold law_B14 at hf
  refine lv_aload_n hx hb dL_law_800 rfl (lv_at hl 1 rfl) ?_
  refine lv_aload_n hx hb dL_law_801 rfl (lv_at hl 0 rfl) ?_
  refine lv_iload hx hb dL_law_802 (lv_at hl 4 rfl) ?_
  refine lv_iconst (v := 1) hx hb dL_law_804 (by decide) ?_
  refine lv_iadd hx hb dL_law_805 ?_
  obtain ⟨hi, hf⟩ := chk_some hf
  refine va_sld hx hb hX hbl hbA hS (inb_in hi) dL_law_806 ?_
  refine lv_aload_n hx hb dL_law_807 rfl (lv_at hl 0 rfl) ?_
  refine lv_iload hx hb dL_law_808 (lv_at hl 4 rfl) ?_
  refine lv_iconst (v := 2) hx hb dL_law_810 (by decide) ?_
  refine lv_iadd hx hb dL_law_811 ?_
  obtain ⟨hi, hf⟩ := chk_some hf
  refine va_sld hx hb hX hbl hbA hS (inb_in hi) dL_law_812 ?_
  refine lv_aload_n hx hb dL_law_813 rfl (lv_at hl 0 rfl) ?_
  refine lv_iload hx hb dL_law_814 (lv_at hl 4 rfl) ?_
  refine lv_iconst (v := 3) hx hb dL_law_816 (by decide) ?_
  refine lv_iadd hx hb dL_law_817 ?_
  obtain ⟨hi, hf⟩ := chk_some hf
  refine va_sld hx hb hX hbl hbA hS (inb_in hi) dL_law_818 ?_
  refine lv_aload_n hx hb dL_law_819 rfl (lv_at hl 3 rfl) ?_
  obtain ⟨z_87, hz_87, hf⟩ := bn_some hf
  refine cLS (As := [.ref (a 0 0), .int (xs (y + 1).toNatClampNeg), .int (xs (y + 2).toNatClampNeg), .int (xs (y + 3).toNatClampNeg), .ref b]) (rest := []) ⟨hx, hb, hml, hown, hts⟩ (c_L_ahead l hst D cI cZ cJ cT a b H.size U g (xs (y + 1).toNatClampNeg) (xs (y + 2).toNatClampNeg) (xs (y + 3).toNatClampNeg) z_87 hz_87) (vx_cwSW 5 hts (gM_law (gL_in gL_law_L_ahead) gLK) rfl rfl rfl (by decide +kernel) ⟨Nat.le_of_ble_eq_true rfl, Nat.le_of_ble_eq_true rfl⟩) (fl_subM hP [0, 2] rfl) hK (fl_subDM (hDD U V g) [0, 2] rfl rfl) hE hNC hS (own_free (fl_subDM (hDD U V g) [0, 2] rfl rfl) hS hA) rfl rfl hl.1 (Nat.le_of_ble_eq_true rfl) dL_law_820 ⟨(by show _ ≤ 601024; omega), (by show _ ≤ 7293034; omega)⟩ (fun H1 locs hP1 hk1 hS => ?_)
  have hP : va_P D cls (wW cI cZ cJ cT a am b z_87.2.1 V z_87.2.2) H1 := fl_joinM (cs' := [wI cI cZ cT a z_87.2.1, [(b, .inl (cJ, 1, .inr (.inl z_87.2.2)))]]) hP (hDD U V g) [0, 2] rfl rfl hk1 hP1
  clear hP1 hk1
  generalize H1 = H at hP hS ⊢
  refine lv_istore (lv' := [(5, .int z_87.1), (0, .ref sb), (1, .ref (a 0 0)), (2, .ref (am 0)), (3, .ref b), (4, .int y)]) hx hb dL_law_823 hl (by decide) rfl (fun ls hl => ?_)
  refine lv_aload_n hx hb dL_law_825 rfl (lv_at hl 3 rfl) ?_
  refine lv_aload_n hx hb dL_law_826 rfl (lv_at hl 1 rfl) ?_
  refine lv_iload hx hb dL_law_827 (lv_at hl 5 rfl) ?_
  refine lv_iconst (v := 1) hx hb dL_law_829 (by decide) ?_
  refine lv_iadd hx hb dL_law_830 ?_
  obtain ⟨hi, hf⟩ := chk_some hf
  refine va_sld hx hb hX hbl hbA hS (inb_in hi) dL_law_831 ?_
  refine lv_aload_n hx hb dL_law_832 rfl (lv_at hl 1 rfl) ?_
  refine lv_iload hx hb dL_law_833 (lv_at hl 5 rfl) ?_
  refine lv_iconst (v := 2) hx hb dL_law_835 (by decide) ?_
  refine lv_iadd hx hb dL_law_836 ?_
  obtain ⟨hi, hf⟩ := chk_some hf
  refine va_sld hx hb hX hbl hbA hS (inb_in hi) dL_law_837 ?_
  refine lv_aload_n hx hb dL_law_838 rfl (lv_at hl 1 rfl) ?_
  refine lv_iload hx hb dL_law_839 (lv_at hl 5 rfl) ?_
  refine lv_iconst (v := 3) hx hb dL_law_841 (by decide) ?_
  refine lv_iadd hx hb dL_law_842 ?_
  obtain ⟨hi, hf⟩ := chk_some hf
  refine va_sld hx hb hX hbl hbA hS (inb_in hi) dL_law_843 ?_
  obtain ⟨z_88, hz_88, hf⟩ := bn_some hf
  refine cWVi (As := [.int (xs (y + 1).toNatClampNeg), .int (xs (y + 2).toNatClampNeg), .int (xs (y + 3).toNatClampNeg)]) (rest := []) ⟨hx, hb, hml, hown, hts⟩ (c_X7_ahead l D cI cZ cJ cT am H.size V (xs (y + 1).toNatClampNeg) (xs (y + 2).toNatClampNeg) (xs (y + 3).toNatClampNeg) z_88 hz_88) (cwV 3 hts (gL_in gL_law_X7_ahead) rfl rfl rfl (by decide +kernel) ⟨Nat.le_of_ble_eq_true rfl, Nat.le_of_ble_eq_true rfl⟩) (fl_sub hP 1 rfl) hK (fl_subD (hDD z_87.2.1 V z_87.2.2) 1 rfl) hS (fl_free (hDD z_87.2.1 V z_87.2.2) hS hA 1 rfl) (va_recv hK (fl_sub hP 1 rfl) (ci := 7) (q0 := 0) rfl rfl) rfl rfl hl.1 (Nat.le_of_ble_eq_true rfl) dL_law_844 ⟨(by show _ ≤ 601024; omega), (by show _ ≤ 7293034; omega)⟩ (fun H1 locs hP1 hk1 hS => ?_)
  have hP : va_P D cls (wW cI cZ cJ cT a am b z_87.2.1 z_88.2 z_87.2.2) H1 := fl_join hP (hDD z_87.2.1 V z_87.2.2) 1 rfl hk1 hP1
  clear hP1 hk1
  generalize H1 = H at hP hS ⊢
  refine lv_istore (lv' := [(6, .int z_88.1), (5, .int z_87.1), (0, .ref sb), (1, .ref (a 0 0)), (2, .ref (am 0)), (3, .ref b), (4, .int y)]) hx hb dL_law_847 hl (by decide) rfl (fun ls hl => ?_)
  refine lv_goto (tgt := 1660) hx hb dL_law_849 (by decide) ?_
  refine lv_iinc (v := y + 5) (lv' := [(4, .int (y + 5)), (6, .int z_88.1), (5, .int z_87.1), (0, .ref sb), (1, .ref (a 0 0)), (2, .ref (am 0)), (3, .ref b)]) hx hb dL_law_1660 hl (k := 6) rfl rfl (by decide) rfl (fun ls hl => ?_)
  refine lv_goto (tgt := 23) hx hb dL_law_1663 (by decide) ?_
  exact ih _ _ _ _ _ _ _ _ _ hf hP hS (lv_sub hl [3, 4, 5, 6, 0] rfl) (by omega) (by omega) (by omega) (by omega)
def law_B15 (L : Nat) (xs : Nat → Int32) (r23 : Int32 → S2 → S1 → (Nat → Int64) → Option Int32) (y : Int32) (U : S2) (V : S1) (g : Nat → Int64) : Option Int32 := chk (inb (y + 1) L) (chk (inb (y + 2) L) (bn (f_L_cut U g (xs (y + 1).toNatClampNeg) (xs (y + 2).toNatClampNeg)) (fun z_89 => chk (inb (y + 1) L) (chk (inb (y + 2) L) (bn (f_X7_cut V (xs (y + 1).toNatClampNeg) (xs (y + 2).toNatClampNeg)) (fun z_90 => r23 (y + 5) z_89.2.1 z_90.2 z_89.2.2))))))
set_option maxHeartbeats 40000000 in
set_option maxRecDepth 100000 in
theorem law_case15 {p : Program} {l : Launch} {e : Env} {s : State} {m : MethodId} {below : List Frame} {meth : Method} {c : Code} {D : va_G} {cI cZ cJ cT : ClassId} {sb L : Nat} {xs : Nat → Int32} (hst : l.stackTraces = false) (C0 : lw_At p s m meth c sb L xs) (hK : va_K D cls (tys cI cZ cJ cT) s) (hE : EX (fun q : Nat => s.heap.size ≤ q) s) (hNC : NC s) (a : Nat → Nat → Nat) (am : Nat → Nat) (b : Nat) (hDD : ∀ (U : S2) (V : S1) (g : Nat → Int64), va_D (fun q : Nat => s.heap.size ≤ q) (wW cI cZ cJ cT a am b U V g)) (r23 : Int32 → S2 → S1 → (Nat → Int64) → Option Int32) (n : Nat) (ih : ∀ (y : Int32) (U : S2) (V : S1) (g : Nat → Int64) (H : Heap) (locs : List Loc) (ls : Array Slot) (nc ns : Nat), r23 y U V g = some 1 → va_P D cls (wW cI cZ cJ cT a am b U V g) H → va_S (fun q : Nat => s.heap.size ≤ q) s.heap H locs → lv_has ls 7 [(0, .ref sb), (1, .ref (a 0 0)), (2, .ref (am 0)), (3, .ref b), (4, .int y)] → nc + 8 * n ≤ 601024 → ns + 48 * n ≤ 7293034 → nc ≤ 601024 → ns ≤ 7293034 → W p l e room_1 s m #[Value.ref sb] below meth c H locs nc ns (lw_Z below #[Value.ref sb] s) (F0 m 23 ls [])) (y : Int32) (U : S2) (V : S1) (g : Nat → Int64) (H : Heap) (locs : List Loc) (ls : Array Slot) (nc ns : Nat) (hf : law_B15 L xs r23 y U V g = some 1) (hP : va_P D cls (wW cI cZ cJ cT a am b U V g) H) (hS : va_S (fun q : Nat => s.heap.size ≤ q) s.heap H locs) (hl : lv_has ls 7 [(0, .ref sb), (1, .ref (a 0 0)), (2, .ref (am 0)), (3, .ref b), (4, .int y)]) (hc1 : nc + 8 * (n + 1) ≤ 601024) (hc2 : ns + 48 * (n + 1) ≤ 7293034) (hc3 : nc ≤ 601024) (hc4 : ns ≤ 7293034) : W p l e room_1 s m #[Value.ref sb] below meth c H locs nc ns (lw_Z below #[Value.ref sb] s) (F0 m 852 ls []) := by
  obtain ⟨hx, hb, hr, hml, hown, hts, hX, hbl, hlocks, hgv⟩ := id C0
  have hA : ∀ q : Nat, s.heap.size ≤ q → (fun q : Nat => s.heap.size ≤ q) q := fun _ h => h
  have hbA : ¬ (fun q : Nat => s.heap.size ≤ q) sb := Nat.not_le.mpr hbl
  unfold law_B15 at hf
  refine lv_aload_n hx hb dL_law_852 rfl (lv_at hl 1 rfl) ?_
  refine lv_aload_n hx hb dL_law_853 rfl (lv_at hl 0 rfl) ?_
  refine lv_iload hx hb dL_law_854 (lv_at hl 4 rfl) ?_
  refine lv_iconst (v := 1) hx hb dL_law_856 (by decide) ?_
  refine lv_iadd hx hb dL_law_857 ?_
  obtain ⟨hi, hf⟩ := chk_some hf
  refine va_sld hx hb hX hbl hbA hS (inb_in hi) dL_law_858 ?_
  refine lv_aload_n hx hb dL_law_859 rfl (lv_at hl 0 rfl) ?_
  refine lv_iload hx hb dL_law_860 (lv_at hl 4 rfl) ?_
  refine lv_iconst (v := 2) hx hb dL_law_862 (by decide) ?_
  refine lv_iadd hx hb dL_law_863 ?_
  obtain ⟨hi, hf⟩ := chk_some hf
  refine va_sld hx hb hX hbl hbA hS (inb_in hi) dL_law_864 ?_
  refine lv_aload_n hx hb dL_law_865 rfl (lv_at hl 3 rfl) ?_
  obtain ⟨z_89, hz_89, hf⟩ := bn_some hf
  refine cLS (As := [.ref (a 0 0), .int (xs (y + 1).toNatClampNeg), .int (xs (y + 2).toNatClampNeg), .ref b]) (rest := []) ⟨hx, hb, hml, hown, hts⟩ (c_L_cut l hst D cI cZ cJ cT a b H.size U g (xs (y + 1).toNatClampNeg) (xs (y + 2).toNatClampNeg) z_89 hz_89) (vx_cwSW 4 hts (gM_law (gL_in gL_law_L_cut) gLK) rfl rfl rfl (by decide +kernel) ⟨Nat.le_of_ble_eq_true rfl, Nat.le_of_ble_eq_true rfl⟩) (fl_subM hP [0, 2] rfl) hK (fl_subDM (hDD U V g) [0, 2] rfl rfl) hE hNC hS (own_free (fl_subDM (hDD U V g) [0, 2] rfl rfl) hS hA) rfl rfl hl.1 (Nat.le_of_ble_eq_true rfl) dL_law_866 ⟨(by show _ ≤ 601024; omega), (by show _ ≤ 7293034; omega)⟩ (fun H1 locs hP1 hk1 hS => ?_)
  have hP : va_P D cls (wW cI cZ cJ cT a am b z_89.2.1 V z_89.2.2) H1 := fl_joinM (cs' := [wI cI cZ cT a z_89.2.1, [(b, .inl (cJ, 1, .inr (.inl z_89.2.2)))]]) hP (hDD U V g) [0, 2] rfl rfl hk1 hP1
  clear hP1 hk1
  generalize H1 = H at hP hS ⊢
  refine lv_istore (lv' := [(5, .int z_89.1), (0, .ref sb), (1, .ref (a 0 0)), (2, .ref (am 0)), (3, .ref b), (4, .int y)]) hx hb dL_law_869 hl (by decide) rfl (fun ls hl => ?_)
  refine lv_aload_n hx hb dL_law_871 rfl (lv_at hl 3 rfl) ?_
  refine lv_aload_n hx hb dL_law_872 rfl (lv_at hl 1 rfl) ?_
  refine lv_iload hx hb dL_law_873 (lv_at hl 5 rfl) ?_
  refine lv_iconst (v := 1) hx hb dL_law_875 (by decide) ?_
  refine lv_iadd hx hb dL_law_876 ?_
  obtain ⟨hi, hf⟩ := chk_some hf
  refine va_sld hx hb hX hbl hbA hS (inb_in hi) dL_law_877 ?_
  refine lv_aload_n hx hb dL_law_878 rfl (lv_at hl 1 rfl) ?_
  refine lv_iload hx hb dL_law_879 (lv_at hl 5 rfl) ?_
  refine lv_iconst (v := 2) hx hb dL_law_881 (by decide) ?_
  refine lv_iadd hx hb dL_law_882 ?_
  obtain ⟨hi, hf⟩ := chk_some hf
  refine va_sld hx hb hX hbl hbA hS (inb_in hi) dL_law_883 ?_
  obtain ⟨z_90, hz_90, hf⟩ := bn_some hf
  refine cWVi (As := [.int (xs (y + 1).toNatClampNeg), .int (xs (y + 2).toNatClampNeg)]) (rest := []) ⟨hx, hb, hml, hown, hts⟩ (c_X7_cut l D cI cZ cJ cT am H.size V (xs (y + 1).toNatClampNeg) (xs (y + 2).toNatClampNeg) z_90 hz_90) (cwV 2 hts (gL_in gL_law_X7_cut) rfl rfl rfl (by decide +kernel) ⟨Nat.le_of_ble_eq_true rfl, Nat.le_of_ble_eq_true rfl⟩) (fl_sub hP 1 rfl) hK (fl_subD (hDD z_89.2.1 V z_89.2.2) 1 rfl) hS (fl_free (hDD z_89.2.1 V z_89.2.2) hS hA 1 rfl) (va_recv hK (fl_sub hP 1 rfl) (ci := 7) (q0 := 0) rfl rfl) rfl rfl hl.1 (Nat.le_of_ble_eq_true rfl) dL_law_884 ⟨(by show _ ≤ 601024; omega), (by show _ ≤ 7293034; omega)⟩ (fun H1 locs hP1 hk1 hS => ?_)
  have hP : va_P D cls (wW cI cZ cJ cT a am b z_89.2.1 z_90.2 z_89.2.2) H1 := fl_join hP (hDD z_89.2.1 V z_89.2.2) 1 rfl hk1 hP1
  clear hP1 hk1
  generalize H1 = H at hP hS ⊢
  refine lv_istore (lv' := [(6, .int z_90.1), (5, .int z_89.1), (0, .ref sb), (1, .ref (a 0 0)), (2, .ref (am 0)), (3, .ref b), (4, .int y)]) hx hb dL_law_887 hl (by decide) rfl (fun ls hl => ?_)
  refine lv_goto (tgt := 1660) hx hb dL_law_889 (by decide) ?_
  refine lv_iinc (v := y + 5) (lv' := [(4, .int (y + 5)), (6, .int z_90.1), (5, .int z_89.1), (0, .ref sb), (1, .ref (a 0 0)), (2, .ref (am 0)), (3, .ref b)]) hx hb dL_law_1660 hl (k := 6) rfl rfl (by decide) rfl (fun ls hl => ?_)
  refine lv_goto (tgt := 23) hx hb dL_law_1663 (by decide) ?_
  exact ih _ _ _ _ _ _ _ _ _ hf hP hS (lv_sub hl [3, 4, 5, 6, 0] rfl) (by omega) (by omega) (by omega) (by omega)
def law_B16 (L : Nat) (xs : Nat → Int32) (r23 : Int32 → S2 → S1 → (Nat → Int64) → Option Int32) (y : Int32) (U : S2) (V : S1) (g : Nat → Int64) : Option Int32 := chk (inb (y + 1) L) (chk (inb (y + 2) L) (chk (inb (y + 3) L) (chk (inb (y + 4) L) (if (xs (y + 4).toNatClampNeg) = 0 then bn (f_L_lock U g (xs (y + 1).toNatClampNeg) (xs (y + 2).toNatClampNeg) (xs (y + 3).toNatClampNeg) 0) (fun z_92 => chk (inb (y + 1) L) (chk (inb (y + 2) L) (chk (inb (y + 3) L) (chk (inb (y + 4) L) (if (xs (y + 4).toNatClampNeg) = 0 then bn (f_X7_lock V (xs (y + 1).toNatClampNeg) (xs (y + 2).toNatClampNeg) (xs (y + 3).toNatClampNeg) 0) (fun z_94 => r23 (y + 5) z_92.2.1 z_94.2 z_92.2.2) else bn (f_X7_lock V (xs (y + 1).toNatClampNeg) (xs (y + 2).toNatClampNeg) (xs (y + 3).toNatClampNeg) 1) (fun z_95 => r23 (y + 5) z_92.2.1 z_95.2 z_92.2.2)))))) else bn (f_L_lock U g (xs (y + 1).toNatClampNeg) (xs (y + 2).toNatClampNeg) (xs (y + 3).toNatClampNeg) 1) (fun z_96 => chk (inb (y + 1) L) (chk (inb (y + 2) L) (chk (inb (y + 3) L) (chk (inb (y + 4) L) (if (xs (y + 4).toNatClampNeg) = 0 then bn (f_X7_lock V (xs (y + 1).toNatClampNeg) (xs (y + 2).toNatClampNeg) (xs (y + 3).toNatClampNeg) 0) (fun z_98 => r23 (y + 5) z_96.2.1 z_98.2 z_96.2.2) else bn (f_X7_lock V (xs (y + 1).toNatClampNeg) (xs (y + 2).toNatClampNeg) (xs (y + 3).toNatClampNeg) 1) (fun z_99 => r23 (y + 5) z_96.2.1 z_99.2 z_96.2.2))))))))))
set_option maxHeartbeats 40000000 in
set_option maxRecDepth 100000 in
theorem law_case16 {p : Program} {l : Launch} {e : Env} {s : State} {m : MethodId} {below : List Frame} {meth : Method} {c : Code} {D : va_G} {cI cZ cJ cT : ClassId} {sb L : Nat} {xs : Nat → Int32} (hst : l.stackTraces = false) (C0 : lw_At p s m meth c sb L xs) (hK : va_K D cls (tys cI cZ cJ cT) s) (hE : EX (fun q : Nat => s.heap.size ≤ q) s) (hNC : NC s) (a : Nat → Nat → Nat) (am : Nat → Nat) (b : Nat) (hDD : ∀ (U : S2) (V : S1) (g : Nat → Int64), va_D (fun q : Nat => s.heap.size ≤ q) (wW cI cZ cJ cT a am b U V g)) (r23 : Int32 → S2 → S1 → (Nat → Int64) → Option Int32) (n : Nat) (ih : ∀ (y : Int32) (U : S2) (V : S1) (g : Nat → Int64) (H : Heap) (locs : List Loc) (ls : Array Slot) (nc ns : Nat), r23 y U V g = some 1 → va_P D cls (wW cI cZ cJ cT a am b U V g) H → va_S (fun q : Nat => s.heap.size ≤ q) s.heap H locs → lv_has ls 7 [(0, .ref sb), (1, .ref (a 0 0)), (2, .ref (am 0)), (3, .ref b), (4, .int y)] → nc + 8 * n ≤ 601024 → ns + 48 * n ≤ 7293034 → nc ≤ 601024 → ns ≤ 7293034 → W p l e room_1 s m #[Value.ref sb] below meth c H locs nc ns (lw_Z below #[Value.ref sb] s) (F0 m 23 ls [])) (y : Int32) (U : S2) (V : S1) (g : Nat → Int64) (H : Heap) (locs : List Loc) (ls : Array Slot) (nc ns : Nat) (hf : law_B16 L xs r23 y U V g = some 1) (hP : va_P D cls (wW cI cZ cJ cT a am b U V g) H) (hS : va_S (fun q : Nat => s.heap.size ≤ q) s.heap H locs) (hl : lv_has ls 7 [(0, .ref sb), (1, .ref (a 0 0)), (2, .ref (am 0)), (3, .ref b), (4, .int y)]) (hc1 : nc + 8 * (n + 1) ≤ 601024) (hc2 : ns + 48 * (n + 1) ≤ 7293034) (hc3 : nc ≤ 601024) (hc4 : ns ≤ 7293034) : W p l e room_1 s m #[Value.ref sb] below meth c H locs nc ns (lw_Z below #[Value.ref sb] s) (F0 m 892 ls []) := by
  obtain ⟨hx, hb, hr, hml, hown, hts, hX, hbl, hlocks, hgv⟩ := id C0
  have hA : ∀ q : Nat, s.heap.size ≤ q → (fun q : Nat => s.heap.size ≤ q) q := fun _ h => h
  have hbA : ¬ (fun q : Nat => s.heap.size ≤ q) sb := Nat.not_le.mpr hbl
  unfold law_B16 at hf
  refine lv_aload_n hx hb dL_law_892 rfl (lv_at hl 1 rfl) ?_
  refine lv_aload_n hx hb dL_law_893 rfl (lv_at hl 0 rfl) ?_
  refine lv_iload hx hb dL_law_894 (lv_at hl 4 rfl) ?_
  refine lv_iconst (v := 1) hx hb dL_law_896 (by decide) ?_
  refine lv_iadd hx hb dL_law_897 ?_
  obtain ⟨hi, hf⟩ := chk_some hf
  refine va_sld hx hb hX hbl hbA hS (inb_in hi) dL_law_898 ?_
  refine lv_aload_n hx hb dL_law_899 rfl (lv_at hl 0 rfl) ?_
  refine lv_iload hx hb dL_law_900 (lv_at hl 4 rfl) ?_
  refine lv_iconst (v := 2) hx hb dL_law_902 (by decide) ?_
  refine lv_iadd hx hb dL_law_903 ?_
  obtain ⟨hi, hf⟩ := chk_some hf
  refine va_sld hx hb hX hbl hbA hS (inb_in hi) dL_law_904 ?_
  refine lv_aload_n hx hb dL_law_905 rfl (lv_at hl 0 rfl) ?_
  refine lv_iload hx hb dL_law_906 (lv_at hl 4 rfl) ?_
  refine lv_iconst (v := 3) hx hb dL_law_908 (by decide) ?_
  refine lv_iadd hx hb dL_law_909 ?_
  obtain ⟨hi, hf⟩ := chk_some hf
  refine va_sld hx hb hX hbl hbA hS (inb_in hi) dL_law_910 ?_
  refine lv_aload_n hx hb dL_law_911 rfl (lv_at hl 0 rfl) ?_
  refine lv_iload hx hb dL_law_912 (lv_at hl 4 rfl) ?_
  refine lv_iconst (v := 4) hx hb dL_law_914 (by decide) ?_
  refine lv_iadd hx hb dL_law_915 ?_
  obtain ⟨hi, hf⟩ := chk_some hf
  refine va_sld hx hb hX hbl hbA hS (inb_in hi) dL_law_916 ?_
  refine lv_if_eq (tgt := 924) hx hb dL_law_917 (by decide) (fun c_91 => ?_) (fun c_91 => ?_)
  · have hf := ite_t hf c_91
    refine lv_iconst (v := 0) hx hb dL_law_924 (by decide) ?_
    refine lv_aload_n hx hb dL_law_925 rfl (lv_at hl 3 rfl) ?_
    obtain ⟨z_92, hz_92, hf⟩ := bn_some hf
    refine cLS (As := [.ref (a 0 0), .int (xs (y + 1).toNatClampNeg), .int (xs (y + 2).toNatClampNeg), .int (xs (y + 3).toNatClampNeg), .int 0, .ref b]) (rest := []) ⟨hx, hb, hml, hown, hts⟩ (c_L_lock l hst D cI cZ cJ cT a b H.size U g (xs (y + 1).toNatClampNeg) (xs (y + 2).toNatClampNeg) (xs (y + 3).toNatClampNeg) 0 z_92 hz_92) (vx_cwSW 6 hts (gM_law (gL_in gL_law_L_lock) gLK) rfl rfl rfl (by decide +kernel) ⟨Nat.le_of_ble_eq_true rfl, Nat.le_of_ble_eq_true rfl⟩) (fl_subM hP [0, 2] rfl) hK (fl_subDM (hDD U V g) [0, 2] rfl rfl) hE hNC hS (own_free (fl_subDM (hDD U V g) [0, 2] rfl rfl) hS hA) rfl rfl hl.1 (Nat.le_of_ble_eq_true rfl) dL_law_926 ⟨(by show _ ≤ 601024; omega), (by show _ ≤ 7293034; omega)⟩ (fun H1 locs hP1 hk1 hS => ?_)
    have hP : va_P D cls (wW cI cZ cJ cT a am b z_92.2.1 V z_92.2.2) H1 := fl_joinM (cs' := [wI cI cZ cT a z_92.2.1, [(b, .inl (cJ, 1, .inr (.inl z_92.2.2)))]]) hP (hDD U V g) [0, 2] rfl rfl hk1 hP1
    clear hP1 hk1
    generalize H1 = H at hP hS ⊢
    refine lv_istore (lv' := [(5, .int z_92.1), (0, .ref sb), (1, .ref (a 0 0)), (2, .ref (am 0)), (3, .ref b), (4, .int y)]) hx hb dL_law_929 hl (by decide) rfl (fun ls hl => ?_)
    refine lv_aload_n hx hb dL_law_931 rfl (lv_at hl 3 rfl) ?_
    refine lv_aload_n hx hb dL_law_932 rfl (lv_at hl 1 rfl) ?_
    refine lv_iload hx hb dL_law_933 (lv_at hl 5 rfl) ?_
    refine lv_iconst (v := 1) hx hb dL_law_935 (by decide) ?_
    refine lv_iadd hx hb dL_law_936 ?_
    obtain ⟨hi, hf⟩ := chk_some hf
    refine va_sld hx hb hX hbl hbA hS (inb_in hi) dL_law_937 ?_
    refine lv_aload_n hx hb dL_law_938 rfl (lv_at hl 1 rfl) ?_
    refine lv_iload hx hb dL_law_939 (lv_at hl 5 rfl) ?_
    refine lv_iconst (v := 2) hx hb dL_law_941 (by decide) ?_
    refine lv_iadd hx hb dL_law_942 ?_
    obtain ⟨hi, hf⟩ := chk_some hf
    refine va_sld hx hb hX hbl hbA hS (inb_in hi) dL_law_943 ?_
    refine lv_aload_n hx hb dL_law_944 rfl (lv_at hl 1 rfl) ?_
    refine lv_iload hx hb dL_law_945 (lv_at hl 5 rfl) ?_
    refine lv_iconst (v := 3) hx hb dL_law_947 (by decide) ?_
    refine lv_iadd hx hb dL_law_948 ?_
    obtain ⟨hi, hf⟩ := chk_some hf
    refine va_sld hx hb hX hbl hbA hS (inb_in hi) dL_law_949 ?_
    refine lv_aload_n hx hb dL_law_950 rfl (lv_at hl 1 rfl) ?_
    refine lv_iload hx hb dL_law_951 (lv_at hl 5 rfl) ?_
    refine lv_iconst (v := 4) hx hb dL_law_953 (by decide) ?_
    refine lv_iadd hx hb dL_law_954 ?_
    obtain ⟨hi, hf⟩ := chk_some hf
    refine va_sld hx hb hX hbl hbA hS (inb_in hi) dL_law_955 ?_
    refine lv_if_eq (tgt := 963) hx hb dL_law_956 (by decide) (fun c_93 => ?_) (fun c_93 => ?_)
    · have hf := ite_t hf c_93
      refine lv_iconst (v := 0) hx hb dL_law_963 (by decide) ?_
      obtain ⟨z_94, hz_94, hf⟩ := bn_some hf
      refine cWVi (As := [.int (xs (y + 1).toNatClampNeg), .int (xs (y + 2).toNatClampNeg), .int (xs (y + 3).toNatClampNeg), .int 0]) (rest := []) ⟨hx, hb, hml, hown, hts⟩ (c_X7_lock l D cI cZ cJ cT am H.size V (xs (y + 1).toNatClampNeg) (xs (y + 2).toNatClampNeg) (xs (y + 3).toNatClampNeg) 0 z_94 hz_94) (cwV 4 hts (gL_in gL_law_X7_lock) rfl rfl rfl (by decide +kernel) ⟨Nat.le_of_ble_eq_true rfl, Nat.le_of_ble_eq_true rfl⟩) (fl_sub hP 1 rfl) hK (fl_subD (hDD z_92.2.1 V z_92.2.2) 1 rfl) hS (fl_free (hDD z_92.2.1 V z_92.2.2) hS hA 1 rfl) (va_recv hK (fl_sub hP 1 rfl) (ci := 7) (q0 := 0) rfl rfl) rfl rfl hl.1 (Nat.le_of_ble_eq_true rfl) dL_law_964 ⟨(by show _ ≤ 601024; omega), (by show _ ≤ 7293034; omega)⟩ (fun H1 locs hP1 hk1 hS => ?_)
      have hP : va_P D cls (wW cI cZ cJ cT a am b z_92.2.1 z_94.2 z_92.2.2) H1 := fl_join hP (hDD z_92.2.1 V z_92.2.2) 1 rfl hk1 hP1
      clear hP1 hk1
      generalize H1 = H at hP hS ⊢
      refine lv_istore (lv' := [(6, .int z_94.1), (5, .int z_92.1), (0, .ref sb), (1, .ref (a 0 0)), (2, .ref (am 0)), (3, .ref b), (4, .int y)]) hx hb dL_law_967 hl (by decide) rfl (fun ls hl => ?_)
      refine lv_goto (tgt := 1660) hx hb dL_law_969 (by decide) ?_
      refine lv_iinc (v := y + 5) (lv' := [(4, .int (y + 5)), (6, .int z_94.1), (5, .int z_92.1), (0, .ref sb), (1, .ref (a 0 0)), (2, .ref (am 0)), (3, .ref b)]) hx hb dL_law_1660 hl (k := 6) rfl rfl (by decide) rfl (fun ls hl => ?_)
      refine lv_goto (tgt := 23) hx hb dL_law_1663 (by decide) ?_
      exact ih _ _ _ _ _ _ _ _ _ hf hP hS (lv_sub hl [3, 4, 5, 6, 0] rfl) (by omega) (by omega) (by omega) (by omega)
    · have hf := ite_f hf c_93
      refine lv_iconst (v := 1) hx hb dL_law_959 (by decide) ?_
      refine lv_goto (tgt := 964) hx hb dL_law_960 (by decide) ?_
      obtain ⟨z_95, hz_95, hf⟩ := bn_some hf
      refine cWVi (As := [.int (xs (y + 1).toNatClampNeg), .int (xs (y + 2).toNatClampNeg), .int (xs (y + 3).toNatClampNeg), .int 1]) (rest := []) ⟨hx, hb, hml, hown, hts⟩ (c_X7_lock l D cI cZ cJ cT am H.size V (xs (y + 1).toNatClampNeg) (xs (y + 2).toNatClampNeg) (xs (y + 3).toNatClampNeg) 1 z_95 hz_95) (cwV 4 hts (gL_in gL_law_X7_lock) rfl rfl rfl (by decide +kernel) ⟨Nat.le_of_ble_eq_true rfl, Nat.le_of_ble_eq_true rfl⟩) (fl_sub hP 1 rfl) hK (fl_subD (hDD z_92.2.1 V z_92.2.2) 1 rfl) hS (fl_free (hDD z_92.2.1 V z_92.2.2) hS hA 1 rfl) (va_recv hK (fl_sub hP 1 rfl) (ci := 7) (q0 := 0) rfl rfl) rfl rfl hl.1 (Nat.le_of_ble_eq_true rfl) dL_law_964 ⟨(by show _ ≤ 601024; omega), (by show _ ≤ 7293034; omega)⟩ (fun H1 locs hP1 hk1 hS => ?_)
      have hP : va_P D cls (wW cI cZ cJ cT a am b z_92.2.1 z_95.2 z_92.2.2) H1 := fl_join hP (hDD z_92.2.1 V z_92.2.2) 1 rfl hk1 hP1
      clear hP1 hk1
      generalize H1 = H at hP hS ⊢
      refine lv_istore (lv' := [(6, .int z_95.1), (5, .int z_92.1), (0, .ref sb), (1, .ref (a 0 0)), (2, .ref (am 0)), (3, .ref b), (4, .int y)]) hx hb dL_law_967 hl (by decide) rfl (fun ls hl => ?_)
      refine lv_goto (tgt := 1660) hx hb dL_law_969 (by decide) ?_
      refine lv_iinc (v := y + 5) (lv' := [(4, .int (y + 5)), (6, .int z_95.1), (5, .int z_92.1), (0, .ref sb), (1, .ref (a 0 0)), (2, .ref (am 0)), (3, .ref b)]) hx hb dL_law_1660 hl (k := 6) rfl rfl (by decide) rfl (fun ls hl => ?_)
      refine lv_goto (tgt := 23) hx hb dL_law_1663 (by decide) ?_
      exact ih _ _ _ _ _ _ _ _ _ hf hP hS (lv_sub hl [3, 4, 5, 6, 0] rfl) (by omega) (by omega) (by omega) (by omega)
  · have hf := ite_f hf c_91
    refine lv_iconst (v := 1) hx hb dL_law_920 (by decide) ?_
    refine lv_goto (tgt := 925) hx hb dL_law_921 (by decide) ?_
    refine lv_aload_n hx hb dL_law_925 rfl (lv_at hl 3 rfl) ?_
    obtain ⟨z_96, hz_96, hf⟩ := bn_some hf
    refine cLS (As := [.ref (a 0 0), .int (xs (y + 1).toNatClampNeg), .int (xs (y + 2).toNatClampNeg), .int (xs (y + 3).toNatClampNeg), .int 1, .ref b]) (rest := []) ⟨hx, hb, hml, hown, hts⟩ (c_L_lock l hst D cI cZ cJ cT a b H.size U g (xs (y + 1).toNatClampNeg) (xs (y + 2).toNatClampNeg) (xs (y + 3).toNatClampNeg) 1 z_96 hz_96) (vx_cwSW 6 hts (gM_law (gL_in gL_law_L_lock) gLK) rfl rfl rfl (by decide +kernel) ⟨Nat.le_of_ble_eq_true rfl, Nat.le_of_ble_eq_true rfl⟩) (fl_subM hP [0, 2] rfl) hK (fl_subDM (hDD U V g) [0, 2] rfl rfl) hE hNC hS (own_free (fl_subDM (hDD U V g) [0, 2] rfl rfl) hS hA) rfl rfl hl.1 (Nat.le_of_ble_eq_true rfl) dL_law_926 ⟨(by show _ ≤ 601024; omega), (by show _ ≤ 7293034; omega)⟩ (fun H1 locs hP1 hk1 hS => ?_)
    have hP : va_P D cls (wW cI cZ cJ cT a am b z_96.2.1 V z_96.2.2) H1 := fl_joinM (cs' := [wI cI cZ cT a z_96.2.1, [(b, .inl (cJ, 1, .inr (.inl z_96.2.2)))]]) hP (hDD U V g) [0, 2] rfl rfl hk1 hP1
    clear hP1 hk1
    generalize H1 = H at hP hS ⊢
    refine lv_istore (lv' := [(5, .int z_96.1), (0, .ref sb), (1, .ref (a 0 0)), (2, .ref (am 0)), (3, .ref b), (4, .int y)]) hx hb dL_law_929 hl (by decide) rfl (fun ls hl => ?_)
    refine lv_aload_n hx hb dL_law_931 rfl (lv_at hl 3 rfl) ?_
    refine lv_aload_n hx hb dL_law_932 rfl (lv_at hl 1 rfl) ?_
    refine lv_iload hx hb dL_law_933 (lv_at hl 5 rfl) ?_
    refine lv_iconst (v := 1) hx hb dL_law_935 (by decide) ?_
    refine lv_iadd hx hb dL_law_936 ?_
    obtain ⟨hi, hf⟩ := chk_some hf
    refine va_sld hx hb hX hbl hbA hS (inb_in hi) dL_law_937 ?_
    refine lv_aload_n hx hb dL_law_938 rfl (lv_at hl 1 rfl) ?_
    refine lv_iload hx hb dL_law_939 (lv_at hl 5 rfl) ?_
    refine lv_iconst (v := 2) hx hb dL_law_941 (by decide) ?_
    refine lv_iadd hx hb dL_law_942 ?_
    obtain ⟨hi, hf⟩ := chk_some hf
    refine va_sld hx hb hX hbl hbA hS (inb_in hi) dL_law_943 ?_
    refine lv_aload_n hx hb dL_law_944 rfl (lv_at hl 1 rfl) ?_
    refine lv_iload hx hb dL_law_945 (lv_at hl 5 rfl) ?_
    refine lv_iconst (v := 3) hx hb dL_law_947 (by decide) ?_
    refine lv_iadd hx hb dL_law_948 ?_
    obtain ⟨hi, hf⟩ := chk_some hf
    refine va_sld hx hb hX hbl hbA hS (inb_in hi) dL_law_949 ?_
    refine lv_aload_n hx hb dL_law_950 rfl (lv_at hl 1 rfl) ?_
    refine lv_iload hx hb dL_law_951 (lv_at hl 5 rfl) ?_
    refine lv_iconst (v := 4) hx hb dL_law_953 (by decide) ?_
    refine lv_iadd hx hb dL_law_954 ?_
    obtain ⟨hi, hf⟩ := chk_some hf
    refine va_sld hx hb hX hbl hbA hS (inb_in hi) dL_law_955 ?_
    refine lv_if_eq (tgt := 963) hx hb dL_law_956 (by decide) (fun c_97 => ?_) (fun c_97 => ?_)
    · have hf := ite_t hf c_97
      refine lv_iconst (v := 0) hx hb dL_law_963 (by decide) ?_
      obtain ⟨z_98, hz_98, hf⟩ := bn_some hf
      refine cWVi (As := [.int (xs (y + 1).toNatClampNeg), .int (xs (y + 2).toNatClampNeg), .int (xs (y + 3).toNatClampNeg), .int 0]) (rest := []) ⟨hx, hb, hml, hown, hts⟩ (c_X7_lock l D cI cZ cJ cT am H.size V (xs (y + 1).toNatClampNeg) (xs (y + 2).toNatClampNeg) (xs (y + 3).toNatClampNeg) 0 z_98 hz_98) (cwV 4 hts (gL_in gL_law_X7_lock) rfl rfl rfl (by decide +kernel) ⟨Nat.le_of_ble_eq_true rfl, Nat.le_of_ble_eq_true rfl⟩) (fl_sub hP 1 rfl) hK (fl_subD (hDD z_96.2.1 V z_96.2.2) 1 rfl) hS (fl_free (hDD z_96.2.1 V z_96.2.2) hS hA 1 rfl) (va_recv hK (fl_sub hP 1 rfl) (ci := 7) (q0 := 0) rfl rfl) rfl rfl hl.1 (Nat.le_of_ble_eq_true rfl) dL_law_964 ⟨(by show _ ≤ 601024; omega), (by show _ ≤ 7293034; omega)⟩ (fun H1 locs hP1 hk1 hS => ?_)
      have hP : va_P D cls (wW cI cZ cJ cT a am b z_96.2.1 z_98.2 z_96.2.2) H1 := fl_join hP (hDD z_96.2.1 V z_96.2.2) 1 rfl hk1 hP1
      clear hP1 hk1
      generalize H1 = H at hP hS ⊢
      refine lv_istore (lv' := [(6, .int z_98.1), (5, .int z_96.1), (0, .ref sb), (1, .ref (a 0 0)), (2, .ref (am 0)), (3, .ref b), (4, .int y)]) hx hb dL_law_967 hl (by decide) rfl (fun ls hl => ?_)
      refine lv_goto (tgt := 1660) hx hb dL_law_969 (by decide) ?_
      refine lv_iinc (v := y + 5) (lv' := [(4, .int (y + 5)), (6, .int z_98.1), (5, .int z_96.1), (0, .ref sb), (1, .ref (a 0 0)), (2, .ref (am 0)), (3, .ref b)]) hx hb dL_law_1660 hl (k := 6) rfl rfl (by decide) rfl (fun ls hl => ?_)
      refine lv_goto (tgt := 23) hx hb dL_law_1663 (by decide) ?_
      exact ih _ _ _ _ _ _ _ _ _ hf hP hS (lv_sub hl [3, 4, 5, 6, 0] rfl) (by omega) (by omega) (by omega) (by omega)
    · have hf := ite_f hf c_97
      refine lv_iconst (v := 1) hx hb dL_law_959 (by decide) ?_
      refine lv_goto (tgt := 964) hx hb dL_law_960 (by decide) ?_
      obtain ⟨z_99, hz_99, hf⟩ := bn_some hf
      refine cWVi (As := [.int (xs (y + 1).toNatClampNeg), .int (xs (y + 2).toNatClampNeg), .int (xs (y + 3).toNatClampNeg), .int 1]) (rest := []) ⟨hx, hb, hml, hown, hts⟩ (c_X7_lock l D cI cZ cJ cT am H.size V (xs (y + 1).toNatClampNeg) (xs (y + 2).toNatClampNeg) (xs (y + 3).toNatClampNeg) 1 z_99 hz_99) (cwV 4 hts (gL_in gL_law_X7_lock) rfl rfl rfl (by decide +kernel) ⟨Nat.le_of_ble_eq_true rfl, Nat.le_of_ble_eq_true rfl⟩) (fl_sub hP 1 rfl) hK (fl_subD (hDD z_96.2.1 V z_96.2.2) 1 rfl) hS (fl_free (hDD z_96.2.1 V z_96.2.2) hS hA 1 rfl) (va_recv hK (fl_sub hP 1 rfl) (ci := 7) (q0 := 0) rfl rfl) rfl rfl hl.1 (Nat.le_of_ble_eq_true rfl) dL_law_964 ⟨(by show _ ≤ 601024; omega), (by show _ ≤ 7293034; omega)⟩ (fun H1 locs hP1 hk1 hS => ?_)
      have hP : va_P D cls (wW cI cZ cJ cT a am b z_96.2.1 z_99.2 z_96.2.2) H1 := fl_join hP (hDD z_96.2.1 V z_96.2.2) 1 rfl hk1 hP1
      clear hP1 hk1
      generalize H1 = H at hP hS ⊢
      refine lv_istore (lv' := [(6, .int z_99.1), (5, .int z_96.1), (0, .ref sb), (1, .ref (a 0 0)), (2, .ref (am 0)), (3, .ref b), (4, .int y)]) hx hb dL_law_967 hl (by decide) rfl (fun ls hl => ?_)
      refine lv_goto (tgt := 1660) hx hb dL_law_969 (by decide) ?_
      refine lv_iinc (v := y + 5) (lv' := [(4, .int (y + 5)), (6, .int z_99.1), (5, .int z_96.1), (0, .ref sb), (1, .ref (a 0 0)), (2, .ref (am 0)), (3, .ref b)]) hx hb dL_law_1660 hl (k := 6) rfl rfl (by decide) rfl (fun ls hl => ?_)
      refine lv_goto (tgt := 23) hx hb dL_law_1663 (by decide) ?_
      exact ih _ _ _ _ _ _ _ _ _ hf hP hS (lv_sub hl [3, 4, 5, 6, 0] rfl) (by omega) (by omega) (by omega) (by omega)
def law_B17 (L : Nat) (xs : Nat → Int32) (r23 : Int32 → S2 → S1 → (Nat → Int64) → Option Int32) (y : Int32) (U : S2) (V : S1) (g : Nat → Int64) : Option Int32 := chk (inb (y + 1) L) (chk (inb (y + 2) L) (chk (inb (y + 3) L) (bn (f_L_unlock U g (xs (y + 1).toNatClampNeg) (xs (y + 2).toNatClampNeg) (xs (y + 3).toNatClampNeg)) (fun z_100 => chk (inb (y + 1) L) (chk (inb (y + 2) L) (chk (inb (y + 3) L) (bn (f_X7_unlock V (xs (y + 1).toNatClampNeg) (xs (y + 2).toNatClampNeg) (xs (y + 3).toNatClampNeg)) (fun z_101 => r23 (y + 5) z_100.2.1 z_101.2 z_100.2.2))))))))
set_option maxHeartbeats 40000000 in
set_option maxRecDepth 100000 in
theorem law_case17 {p : Program} {l : Launch} {e : Env} {s : State} {m : MethodId} {below : List Frame} {meth : Method} {c : Code} {D : va_G} {cI cZ cJ cT : ClassId} {sb L : Nat} {xs : Nat → Int32} (hst : l.stackTraces = false) (C0 : lw_At p s m meth c sb L xs) (hK : va_K D cls (tys cI cZ cJ cT) s) (hE : EX (fun q : Nat => s.heap.size ≤ q) s) (hNC : NC s) (a : Nat → Nat → Nat) (am : Nat → Nat) (b : Nat) (hDD : ∀ (U : S2) (V : S1) (g : Nat → Int64), va_D (fun q : Nat => s.heap.size ≤ q) (wW cI cZ cJ cT a am b U V g)) (r23 : Int32 → S2 → S1 → (Nat → Int64) → Option Int32) (n : Nat) (ih : ∀ (y : Int32) (U : S2) (V : S1) (g : Nat → Int64) (H : Heap) (locs : List Loc) (ls : Array Slot) (nc ns : Nat), r23 y U V g = some 1 → va_P D cls (wW cI cZ cJ cT a am b U V g) H → va_S (fun q : Nat => s.heap.size ≤ q) s.heap H locs → lv_has ls 7 [(0, .ref sb), (1, .ref (a 0 0)), (2, .ref (am 0)), (3, .ref b), (4, .int y)] → nc + 8 * n ≤ 601024 → ns + 48 * n ≤ 7293034 → nc ≤ 601024 → ns ≤ 7293034 → W p l e room_1 s m #[Value.ref sb] below meth c H locs nc ns (lw_Z below #[Value.ref sb] s) (F0 m 23 ls [])) (y : Int32) (U : S2) (V : S1) (g : Nat → Int64) (H : Heap) (locs : List Loc) (ls : Array Slot) (nc ns : Nat) (hf : law_B17 L xs r23 y U V g = some 1) (hP : va_P D cls (wW cI cZ cJ cT a am b U V g) H) (hS : va_S (fun q : Nat => s.heap.size ≤ q) s.heap H locs) (hl : lv_has ls 7 [(0, .ref sb), (1, .ref (a 0 0)), (2, .ref (am 0)), (3, .ref b), (4, .int y)]) (hc1 : nc + 8 * (n + 1) ≤ 601024) (hc2 : ns + 48 * (n + 1) ≤ 7293034) (hc3 : nc ≤ 601024) (hc4 : ns ≤ 7293034) : W p l e room_1 s m #[Value.ref sb] below meth c H locs nc ns (lw_Z below #[Value.ref sb] s) (F0 m 972 ls []) := by
  obtain ⟨hx, hb, hr, hml, hown, hts, hX, hbl, hlocks, hgv⟩ := id C0
  have hA : ∀ q : Nat, s.heap.size ≤ q → (fun q : Nat => s.heap.size ≤ q) q := fun _ h => h
  have hbA : ¬ (fun q : Nat => s.heap.size ≤ q) sb := Nat.not_le.mpr hbl
  unfold law_B17 at hf
  refine lv_aload_n hx hb dL_law_972 rfl (lv_at hl 1 rfl) ?_
  refine lv_aload_n hx hb dL_law_973 rfl (lv_at hl 0 rfl) ?_
  refine lv_iload hx hb dL_law_974 (lv_at hl 4 rfl) ?_
  refine lv_iconst (v := 1) hx hb dL_law_976 (by decide) ?_
  refine lv_iadd hx hb dL_law_977 ?_
  obtain ⟨hi, hf⟩ := chk_some hf
  refine va_sld hx hb hX hbl hbA hS (inb_in hi) dL_law_978 ?_
  refine lv_aload_n hx hb dL_law_979 rfl (lv_at hl 0 rfl) ?_
  refine lv_iload hx hb dL_law_980 (lv_at hl 4 rfl) ?_
  refine lv_iconst (v := 2) hx hb dL_law_982 (by decide) ?_
  refine lv_iadd hx hb dL_law_983 ?_
  obtain ⟨hi, hf⟩ := chk_some hf
  refine va_sld hx hb hX hbl hbA hS (inb_in hi) dL_law_984 ?_
  refine lv_aload_n hx hb dL_law_985 rfl (lv_at hl 0 rfl) ?_
  refine lv_iload hx hb dL_law_986 (lv_at hl 4 rfl) ?_
  refine lv_iconst (v := 3) hx hb dL_law_988 (by decide) ?_
  refine lv_iadd hx hb dL_law_989 ?_
  obtain ⟨hi, hf⟩ := chk_some hf
  refine va_sld hx hb hX hbl hbA hS (inb_in hi) dL_law_990 ?_
  refine lv_aload_n hx hb dL_law_991 rfl (lv_at hl 3 rfl) ?_
  obtain ⟨z_100, hz_100, hf⟩ := bn_some hf
  refine cLS (As := [.ref (a 0 0), .int (xs (y + 1).toNatClampNeg), .int (xs (y + 2).toNatClampNeg), .int (xs (y + 3).toNatClampNeg), .ref b]) (rest := []) ⟨hx, hb, hml, hown, hts⟩ (c_L_unlock l hst D cI cZ cJ cT a b H.size U g (xs (y + 1).toNatClampNeg) (xs (y + 2).toNatClampNeg) (xs (y + 3).toNatClampNeg) z_100 hz_100) (vx_cwSW 5 hts (gM_law (gL_in gL_law_L_unlock) gLK) rfl rfl rfl (by decide +kernel) ⟨Nat.le_of_ble_eq_true rfl, Nat.le_of_ble_eq_true rfl⟩) (fl_subM hP [0, 2] rfl) hK (fl_subDM (hDD U V g) [0, 2] rfl rfl) hE hNC hS (own_free (fl_subDM (hDD U V g) [0, 2] rfl rfl) hS hA) rfl rfl hl.1 (Nat.le_of_ble_eq_true rfl) dL_law_992 ⟨(by show _ ≤ 601024; omega), (by show _ ≤ 7293034; omega)⟩ (fun H1 locs hP1 hk1 hS => ?_)
  have hP : va_P D cls (wW cI cZ cJ cT a am b z_100.2.1 V z_100.2.2) H1 := fl_joinM (cs' := [wI cI cZ cT a z_100.2.1, [(b, .inl (cJ, 1, .inr (.inl z_100.2.2)))]]) hP (hDD U V g) [0, 2] rfl rfl hk1 hP1
  clear hP1 hk1
  generalize H1 = H at hP hS ⊢
  refine lv_istore (lv' := [(5, .int z_100.1), (0, .ref sb), (1, .ref (a 0 0)), (2, .ref (am 0)), (3, .ref b), (4, .int y)]) hx hb dL_law_995 hl (by decide) rfl (fun ls hl => ?_)
  refine lv_aload_n hx hb dL_law_997 rfl (lv_at hl 3 rfl) ?_
  refine lv_aload_n hx hb dL_law_998 rfl (lv_at hl 1 rfl) ?_
  refine lv_iload hx hb dL_law_999 (lv_at hl 5 rfl) ?_
  refine lv_iconst (v := 1) hx hb dL_law_1001 (by decide) ?_
  refine lv_iadd hx hb dL_law_1002 ?_
  obtain ⟨hi, hf⟩ := chk_some hf
  refine va_sld hx hb hX hbl hbA hS (inb_in hi) dL_law_1003 ?_
  refine lv_aload_n hx hb dL_law_1004 rfl (lv_at hl 1 rfl) ?_
  refine lv_iload hx hb dL_law_1005 (lv_at hl 5 rfl) ?_
  refine lv_iconst (v := 2) hx hb dL_law_1007 (by decide) ?_
  refine lv_iadd hx hb dL_law_1008 ?_
  obtain ⟨hi, hf⟩ := chk_some hf
  refine va_sld hx hb hX hbl hbA hS (inb_in hi) dL_law_1009 ?_
  refine lv_aload_n hx hb dL_law_1010 rfl (lv_at hl 1 rfl) ?_
  refine lv_iload hx hb dL_law_1011 (lv_at hl 5 rfl) ?_
  refine lv_iconst (v := 3) hx hb dL_law_1013 (by decide) ?_
  refine lv_iadd hx hb dL_law_1014 ?_
  obtain ⟨hi, hf⟩ := chk_some hf
  refine va_sld hx hb hX hbl hbA hS (inb_in hi) dL_law_1015 ?_
  obtain ⟨z_101, hz_101, hf⟩ := bn_some hf
  refine cWVi (As := [.int (xs (y + 1).toNatClampNeg), .int (xs (y + 2).toNatClampNeg), .int (xs (y + 3).toNatClampNeg)]) (rest := []) ⟨hx, hb, hml, hown, hts⟩ (c_X7_unlock l D cI cZ cJ cT am H.size V (xs (y + 1).toNatClampNeg) (xs (y + 2).toNatClampNeg) (xs (y + 3).toNatClampNeg) z_101 hz_101) (cwV 3 hts (gL_in gL_law_X7_unlock) rfl rfl rfl (by decide +kernel) ⟨Nat.le_of_ble_eq_true rfl, Nat.le_of_ble_eq_true rfl⟩) (fl_sub hP 1 rfl) hK (fl_subD (hDD z_100.2.1 V z_100.2.2) 1 rfl) hS (fl_free (hDD z_100.2.1 V z_100.2.2) hS hA 1 rfl) (va_recv hK (fl_sub hP 1 rfl) (ci := 7) (q0 := 0) rfl rfl) rfl rfl hl.1 (Nat.le_of_ble_eq_true rfl) dL_law_1016 ⟨(by show _ ≤ 601024; omega), (by show _ ≤ 7293034; omega)⟩ (fun H1 locs hP1 hk1 hS => ?_)
  have hP : va_P D cls (wW cI cZ cJ cT a am b z_100.2.1 z_101.2 z_100.2.2) H1 := fl_join hP (hDD z_100.2.1 V z_100.2.2) 1 rfl hk1 hP1
  clear hP1 hk1
  generalize H1 = H at hP hS ⊢
  refine lv_istore (lv' := [(6, .int z_101.1), (5, .int z_100.1), (0, .ref sb), (1, .ref (a 0 0)), (2, .ref (am 0)), (3, .ref b), (4, .int y)]) hx hb dL_law_1019 hl (by decide) rfl (fun ls hl => ?_)
  refine lv_goto (tgt := 1660) hx hb dL_law_1021 (by decide) ?_
  refine lv_iinc (v := y + 5) (lv' := [(4, .int (y + 5)), (6, .int z_101.1), (5, .int z_100.1), (0, .ref sb), (1, .ref (a 0 0)), (2, .ref (am 0)), (3, .ref b)]) hx hb dL_law_1660 hl (k := 6) rfl rfl (by decide) rfl (fun ls hl => ?_)
  refine lv_goto (tgt := 23) hx hb dL_law_1663 (by decide) ?_
  exact ih _ _ _ _ _ _ _ _ _ hf hP hS (lv_sub hl [3, 4, 5, 6, 0] rfl) (by omega) (by omega) (by omega) (by omega)
def law_B18 (L : Nat) (xs : Nat → Int32) (r23 : Int32 → S2 → S1 → (Nat → Int64) → Option Int32) (y : Int32) (U : S2) (V : S1) (g : Nat → Int64) : Option Int32 := chk (inb (y + 1) L) (chk (inb (y + 2) L) (bn (f_L_lockOf U g (xs (y + 1).toNatClampNeg) (xs (y + 2).toNatClampNeg)) (fun z_102 => chk (inb (y + 1) L) (chk (inb (y + 2) L) (bn (f_X7_lockOf V (xs (y + 1).toNatClampNeg) (xs (y + 2).toNatClampNeg)) (fun z_103 => r23 (y + 5) z_102.2.1 z_103.2 z_102.2.2))))))
set_option maxHeartbeats 40000000 in
set_option maxRecDepth 100000 in
theorem law_case18 {p : Program} {l : Launch} {e : Env} {s : State} {m : MethodId} {below : List Frame} {meth : Method} {c : Code} {D : va_G} {cI cZ cJ cT : ClassId} {sb L : Nat} {xs : Nat → Int32} (hst : l.stackTraces = false) (C0 : lw_At p s m meth c sb L xs) (hK : va_K D cls (tys cI cZ cJ cT) s) (hE : EX (fun q : Nat => s.heap.size ≤ q) s) (hNC : NC s) (a : Nat → Nat → Nat) (am : Nat → Nat) (b : Nat) (hDD : ∀ (U : S2) (V : S1) (g : Nat → Int64), va_D (fun q : Nat => s.heap.size ≤ q) (wW cI cZ cJ cT a am b U V g)) (r23 : Int32 → S2 → S1 → (Nat → Int64) → Option Int32) (n : Nat) (ih : ∀ (y : Int32) (U : S2) (V : S1) (g : Nat → Int64) (H : Heap) (locs : List Loc) (ls : Array Slot) (nc ns : Nat), r23 y U V g = some 1 → va_P D cls (wW cI cZ cJ cT a am b U V g) H → va_S (fun q : Nat => s.heap.size ≤ q) s.heap H locs → lv_has ls 7 [(0, .ref sb), (1, .ref (a 0 0)), (2, .ref (am 0)), (3, .ref b), (4, .int y)] → nc + 8 * n ≤ 601024 → ns + 48 * n ≤ 7293034 → nc ≤ 601024 → ns ≤ 7293034 → W p l e room_1 s m #[Value.ref sb] below meth c H locs nc ns (lw_Z below #[Value.ref sb] s) (F0 m 23 ls [])) (y : Int32) (U : S2) (V : S1) (g : Nat → Int64) (H : Heap) (locs : List Loc) (ls : Array Slot) (nc ns : Nat) (hf : law_B18 L xs r23 y U V g = some 1) (hP : va_P D cls (wW cI cZ cJ cT a am b U V g) H) (hS : va_S (fun q : Nat => s.heap.size ≤ q) s.heap H locs) (hl : lv_has ls 7 [(0, .ref sb), (1, .ref (a 0 0)), (2, .ref (am 0)), (3, .ref b), (4, .int y)]) (hc1 : nc + 8 * (n + 1) ≤ 601024) (hc2 : ns + 48 * (n + 1) ≤ 7293034) (hc3 : nc ≤ 601024) (hc4 : ns ≤ 7293034) : W p l e room_1 s m #[Value.ref sb] below meth c H locs nc ns (lw_Z below #[Value.ref sb] s) (F0 m 1024 ls []) := by
  obtain ⟨hx, hb, hr, hml, hown, hts, hX, hbl, hlocks, hgv⟩ := id C0
  have hA : ∀ q : Nat, s.heap.size ≤ q → (fun q : Nat => s.heap.size ≤ q) q := fun _ h => h
  have hbA : ¬ (fun q : Nat => s.heap.size ≤ q) sb := Nat.not_le.mpr hbl
  unfold law_B18 at hf
  refine lv_aload_n hx hb dL_law_1024 rfl (lv_at hl 1 rfl) ?_
  refine lv_aload_n hx hb dL_law_1025 rfl (lv_at hl 0 rfl) ?_
  refine lv_iload hx hb dL_law_1026 (lv_at hl 4 rfl) ?_
  refine lv_iconst (v := 1) hx hb dL_law_1028 (by decide) ?_
  refine lv_iadd hx hb dL_law_1029 ?_
  obtain ⟨hi, hf⟩ := chk_some hf
  refine va_sld hx hb hX hbl hbA hS (inb_in hi) dL_law_1030 ?_
  refine lv_aload_n hx hb dL_law_1031 rfl (lv_at hl 0 rfl) ?_
  refine lv_iload hx hb dL_law_1032 (lv_at hl 4 rfl) ?_
  refine lv_iconst (v := 2) hx hb dL_law_1034 (by decide) ?_
  refine lv_iadd hx hb dL_law_1035 ?_
  obtain ⟨hi, hf⟩ := chk_some hf
  refine va_sld hx hb hX hbl hbA hS (inb_in hi) dL_law_1036 ?_
  refine lv_aload_n hx hb dL_law_1037 rfl (lv_at hl 3 rfl) ?_
  obtain ⟨z_102, hz_102, hf⟩ := bn_some hf
  refine cLS (As := [.ref (a 0 0), .int (xs (y + 1).toNatClampNeg), .int (xs (y + 2).toNatClampNeg), .ref b]) (rest := []) ⟨hx, hb, hml, hown, hts⟩ (c_L_lockOf l hst D cI cZ cJ cT a b H.size U g (xs (y + 1).toNatClampNeg) (xs (y + 2).toNatClampNeg) z_102 hz_102) (vx_cwSW 4 hts (gM_law (gL_in gL_law_L_lockOf) gLK) rfl rfl rfl (by decide +kernel) ⟨Nat.le_of_ble_eq_true rfl, Nat.le_of_ble_eq_true rfl⟩) (fl_subM hP [0, 2] rfl) hK (fl_subDM (hDD U V g) [0, 2] rfl rfl) hE hNC hS (own_free (fl_subDM (hDD U V g) [0, 2] rfl rfl) hS hA) rfl rfl hl.1 (Nat.le_of_ble_eq_true rfl) dL_law_1038 ⟨(by show _ ≤ 601024; omega), (by show _ ≤ 7293034; omega)⟩ (fun H1 locs hP1 hk1 hS => ?_)
  have hP : va_P D cls (wW cI cZ cJ cT a am b z_102.2.1 V z_102.2.2) H1 := fl_joinM (cs' := [wI cI cZ cT a z_102.2.1, [(b, .inl (cJ, 1, .inr (.inl z_102.2.2)))]]) hP (hDD U V g) [0, 2] rfl rfl hk1 hP1
  clear hP1 hk1
  generalize H1 = H at hP hS ⊢
  refine lv_istore (lv' := [(5, .int z_102.1), (0, .ref sb), (1, .ref (a 0 0)), (2, .ref (am 0)), (3, .ref b), (4, .int y)]) hx hb dL_law_1041 hl (by decide) rfl (fun ls hl => ?_)
  refine lv_aload_n hx hb dL_law_1043 rfl (lv_at hl 3 rfl) ?_
  refine lv_aload_n hx hb dL_law_1044 rfl (lv_at hl 1 rfl) ?_
  refine lv_iload hx hb dL_law_1045 (lv_at hl 5 rfl) ?_
  refine lv_iconst (v := 1) hx hb dL_law_1047 (by decide) ?_
  refine lv_iadd hx hb dL_law_1048 ?_
  obtain ⟨hi, hf⟩ := chk_some hf
  refine va_sld hx hb hX hbl hbA hS (inb_in hi) dL_law_1049 ?_
  refine lv_aload_n hx hb dL_law_1050 rfl (lv_at hl 1 rfl) ?_
  refine lv_iload hx hb dL_law_1051 (lv_at hl 5 rfl) ?_
  refine lv_iconst (v := 2) hx hb dL_law_1053 (by decide) ?_
  refine lv_iadd hx hb dL_law_1054 ?_
  obtain ⟨hi, hf⟩ := chk_some hf
  refine va_sld hx hb hX hbl hbA hS (inb_in hi) dL_law_1055 ?_
  obtain ⟨z_103, hz_103, hf⟩ := bn_some hf
  refine cWVi (As := [.int (xs (y + 1).toNatClampNeg), .int (xs (y + 2).toNatClampNeg)]) (rest := []) ⟨hx, hb, hml, hown, hts⟩ (c_X7_lockOf l D cI cZ cJ cT am H.size V (xs (y + 1).toNatClampNeg) (xs (y + 2).toNatClampNeg) z_103 hz_103) (cwV 2 hts (gL_in gL_law_X7_lockOf) rfl rfl rfl (by decide +kernel) ⟨Nat.le_of_ble_eq_true rfl, Nat.le_of_ble_eq_true rfl⟩) (fl_sub hP 1 rfl) hK (fl_subD (hDD z_102.2.1 V z_102.2.2) 1 rfl) hS (fl_free (hDD z_102.2.1 V z_102.2.2) hS hA 1 rfl) (va_recv hK (fl_sub hP 1 rfl) (ci := 7) (q0 := 0) rfl rfl) rfl rfl hl.1 (Nat.le_of_ble_eq_true rfl) dL_law_1056 ⟨(by show _ ≤ 601024; omega), (by show _ ≤ 7293034; omega)⟩ (fun H1 locs hP1 hk1 hS => ?_)
  have hP : va_P D cls (wW cI cZ cJ cT a am b z_102.2.1 z_103.2 z_102.2.2) H1 := fl_join hP (hDD z_102.2.1 V z_102.2.2) 1 rfl hk1 hP1
  clear hP1 hk1
  generalize H1 = H at hP hS ⊢
  refine lv_istore (lv' := [(6, .int z_103.1), (5, .int z_102.1), (0, .ref sb), (1, .ref (a 0 0)), (2, .ref (am 0)), (3, .ref b), (4, .int y)]) hx hb dL_law_1059 hl (by decide) rfl (fun ls hl => ?_)
  refine lv_goto (tgt := 1660) hx hb dL_law_1061 (by decide) ?_
  refine lv_iinc (v := y + 5) (lv' := [(4, .int (y + 5)), (6, .int z_103.1), (5, .int z_102.1), (0, .ref sb), (1, .ref (a 0 0)), (2, .ref (am 0)), (3, .ref b)]) hx hb dL_law_1660 hl (k := 6) rfl rfl (by decide) rfl (fun ls hl => ?_)
  refine lv_goto (tgt := 23) hx hb dL_law_1663 (by decide) ?_
  exact ih _ _ _ _ _ _ _ _ _ hf hP hS (lv_sub hl [3, 4, 5, 6, 0] rfl) (by omega) (by omega) (by omega) (by omega)
def law_B19 (L : Nat) (xs : Nat → Int32) (r23 : Int32 → S2 → S1 → (Nat → Int64) → Option Int32) (y : Int32) (U : S2) (V : S1) (g : Nat → Int64) : Option Int32 := chk (inb (y + 1) L) (bn (f_L_flush U g (xs (y + 1).toNatClampNeg)) (fun z_104 => chk (inb (y + 1) L) (bn (f_X7_flush V (xs (y + 1).toNatClampNeg)) (fun z_105 => r23 (y + 5) z_104.2.1 z_105.2 z_104.2.2))))
set_option maxHeartbeats 40000000 in
set_option maxRecDepth 100000 in
theorem law_case19 {p : Program} {l : Launch} {e : Env} {s : State} {m : MethodId} {below : List Frame} {meth : Method} {c : Code} {D : va_G} {cI cZ cJ cT : ClassId} {sb L : Nat} {xs : Nat → Int32} (hst : l.stackTraces = false) (C0 : lw_At p s m meth c sb L xs) (hK : va_K D cls (tys cI cZ cJ cT) s) (hE : EX (fun q : Nat => s.heap.size ≤ q) s) (hNC : NC s) (a : Nat → Nat → Nat) (am : Nat → Nat) (b : Nat) (hDD : ∀ (U : S2) (V : S1) (g : Nat → Int64), va_D (fun q : Nat => s.heap.size ≤ q) (wW cI cZ cJ cT a am b U V g)) (r23 : Int32 → S2 → S1 → (Nat → Int64) → Option Int32) (n : Nat) (ih : ∀ (y : Int32) (U : S2) (V : S1) (g : Nat → Int64) (H : Heap) (locs : List Loc) (ls : Array Slot) (nc ns : Nat), r23 y U V g = some 1 → va_P D cls (wW cI cZ cJ cT a am b U V g) H → va_S (fun q : Nat => s.heap.size ≤ q) s.heap H locs → lv_has ls 7 [(0, .ref sb), (1, .ref (a 0 0)), (2, .ref (am 0)), (3, .ref b), (4, .int y)] → nc + 8 * n ≤ 601024 → ns + 48 * n ≤ 7293034 → nc ≤ 601024 → ns ≤ 7293034 → W p l e room_1 s m #[Value.ref sb] below meth c H locs nc ns (lw_Z below #[Value.ref sb] s) (F0 m 23 ls [])) (y : Int32) (U : S2) (V : S1) (g : Nat → Int64) (H : Heap) (locs : List Loc) (ls : Array Slot) (nc ns : Nat) (hf : law_B19 L xs r23 y U V g = some 1) (hP : va_P D cls (wW cI cZ cJ cT a am b U V g) H) (hS : va_S (fun q : Nat => s.heap.size ≤ q) s.heap H locs) (hl : lv_has ls 7 [(0, .ref sb), (1, .ref (a 0 0)), (2, .ref (am 0)), (3, .ref b), (4, .int y)]) (hc1 : nc + 8 * (n + 1) ≤ 601024) (hc2 : ns + 48 * (n + 1) ≤ 7293034) (hc3 : nc ≤ 601024) (hc4 : ns ≤ 7293034) : W p l e room_1 s m #[Value.ref sb] below meth c H locs nc ns (lw_Z below #[Value.ref sb] s) (F0 m 1064 ls []) := by
  obtain ⟨hx, hb, hr, hml, hown, hts, hX, hbl, hlocks, hgv⟩ := id C0
  have hA : ∀ q : Nat, s.heap.size ≤ q → (fun q : Nat => s.heap.size ≤ q) q := fun _ h => h
  have hbA : ¬ (fun q : Nat => s.heap.size ≤ q) sb := Nat.not_le.mpr hbl
  unfold law_B19 at hf
  refine lv_aload_n hx hb dL_law_1064 rfl (lv_at hl 1 rfl) ?_
  refine lv_aload_n hx hb dL_law_1065 rfl (lv_at hl 0 rfl) ?_
  refine lv_iload hx hb dL_law_1066 (lv_at hl 4 rfl) ?_
  refine lv_iconst (v := 1) hx hb dL_law_1068 (by decide) ?_
  refine lv_iadd hx hb dL_law_1069 ?_
  obtain ⟨hi, hf⟩ := chk_some hf
  refine va_sld hx hb hX hbl hbA hS (inb_in hi) dL_law_1070 ?_
  refine lv_aload_n hx hb dL_law_1071 rfl (lv_at hl 3 rfl) ?_
  obtain ⟨z_104, hz_104, hf⟩ := bn_some hf
  refine cLS (As := [.ref (a 0 0), .int (xs (y + 1).toNatClampNeg), .ref b]) (rest := []) ⟨hx, hb, hml, hown, hts⟩ (c_L_flush l hst D cI cZ cJ cT a b H.size U g (xs (y + 1).toNatClampNeg) z_104 hz_104) (vx_cwSW 3 hts (gM_law (gL_in gL_law_L_flush) gLK) rfl rfl rfl (by decide +kernel) ⟨Nat.le_of_ble_eq_true rfl, Nat.le_of_ble_eq_true rfl⟩) (fl_subM hP [0, 2] rfl) hK (fl_subDM (hDD U V g) [0, 2] rfl rfl) hE hNC hS (own_free (fl_subDM (hDD U V g) [0, 2] rfl rfl) hS hA) rfl rfl hl.1 (Nat.le_of_ble_eq_true rfl) dL_law_1072 ⟨(by show _ ≤ 601024; omega), (by show _ ≤ 7293034; omega)⟩ (fun H1 locs hP1 hk1 hS => ?_)
  have hP : va_P D cls (wW cI cZ cJ cT a am b z_104.2.1 V z_104.2.2) H1 := fl_joinM (cs' := [wI cI cZ cT a z_104.2.1, [(b, .inl (cJ, 1, .inr (.inl z_104.2.2)))]]) hP (hDD U V g) [0, 2] rfl rfl hk1 hP1
  clear hP1 hk1
  generalize H1 = H at hP hS ⊢
  refine lv_istore (lv' := [(5, .int z_104.1), (0, .ref sb), (1, .ref (a 0 0)), (2, .ref (am 0)), (3, .ref b), (4, .int y)]) hx hb dL_law_1075 hl (by decide) rfl (fun ls hl => ?_)
  refine lv_aload_n hx hb dL_law_1077 rfl (lv_at hl 3 rfl) ?_
  refine lv_aload_n hx hb dL_law_1078 rfl (lv_at hl 1 rfl) ?_
  refine lv_iload hx hb dL_law_1079 (lv_at hl 5 rfl) ?_
  refine lv_iconst (v := 1) hx hb dL_law_1081 (by decide) ?_
  refine lv_iadd hx hb dL_law_1082 ?_
  obtain ⟨hi, hf⟩ := chk_some hf
  refine va_sld hx hb hX hbl hbA hS (inb_in hi) dL_law_1083 ?_
  obtain ⟨z_105, hz_105, hf⟩ := bn_some hf
  refine cWVi (As := [.int (xs (y + 1).toNatClampNeg)]) (rest := []) ⟨hx, hb, hml, hown, hts⟩ (c_X7_flush l D cI cZ cJ cT am H.size V (xs (y + 1).toNatClampNeg) z_105 hz_105) (cwV 1 hts (gL_in gL_law_X7_flush) rfl rfl rfl (by decide +kernel) ⟨Nat.le_of_ble_eq_true rfl, Nat.le_of_ble_eq_true rfl⟩) (fl_sub hP 1 rfl) hK (fl_subD (hDD z_104.2.1 V z_104.2.2) 1 rfl) hS (fl_free (hDD z_104.2.1 V z_104.2.2) hS hA 1 rfl) (va_recv hK (fl_sub hP 1 rfl) (ci := 7) (q0 := 0) rfl rfl) rfl rfl hl.1 (Nat.le_of_ble_eq_true rfl) dL_law_1084 ⟨(by show _ ≤ 601024; omega), (by show _ ≤ 7293034; omega)⟩ (fun H1 locs hP1 hk1 hS => ?_)
  have hP : va_P D cls (wW cI cZ cJ cT a am b z_104.2.1 z_105.2 z_104.2.2) H1 := fl_join hP (hDD z_104.2.1 V z_104.2.2) 1 rfl hk1 hP1
  clear hP1 hk1
  generalize H1 = H at hP hS ⊢
  refine lv_istore (lv' := [(6, .int z_105.1), (5, .int z_104.1), (0, .ref sb), (1, .ref (a 0 0)), (2, .ref (am 0)), (3, .ref b), (4, .int y)]) hx hb dL_law_1087 hl (by decide) rfl (fun ls hl => ?_)
  refine lv_goto (tgt := 1660) hx hb dL_law_1089 (by decide) ?_
  refine lv_iinc (v := y + 5) (lv' := [(4, .int (y + 5)), (6, .int z_105.1), (5, .int z_104.1), (0, .ref sb), (1, .ref (a 0 0)), (2, .ref (am 0)), (3, .ref b)]) hx hb dL_law_1660 hl (k := 6) rfl rfl (by decide) rfl (fun ls hl => ?_)
  refine lv_goto (tgt := 23) hx hb dL_law_1663 (by decide) ?_
  exact ih _ _ _ _ _ _ _ _ _ hf hP hS (lv_sub hl [3, 4, 5, 6, 0] rfl) (by omega) (by omega) (by omega) (by omega)
