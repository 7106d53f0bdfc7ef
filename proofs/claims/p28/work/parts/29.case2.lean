def law_B20 (L : Nat) (xs : Nat → Int32) (r23 : Int32 → S2 → S1 → (Nat → Int64) → Option Int32) (y : Int32) (U : S2) (V : S1) (g : Nat → Int64) : Option Int32 := chk (inb (y + 1) L) (bn (f_L_sync U g (xs (y + 1).toNatClampNeg)) (fun z_102 => chk (inb (y + 1) L) (bn (f_X7_sync V (xs (y + 1).toNatClampNeg)) (fun z_103 => r23 (y + 5) z_102.2.1 z_103.2 z_102.2.2))))
set_option maxHeartbeats 40000000 in
set_option maxRecDepth 100000 in
theorem law_case20 {p : Program} {l : Launch} {e : Env} {s : State} {m : MethodId} {below : List Frame} {meth : Method} {c : Code} {D : va_G} {cI cZ cJ cT : ClassId} {sb L : Nat} {xs : Nat → Int32} (hst : l.stackTraces = false) (C0 : lw_At p s m meth c sb L xs) (hK : va_K D cls (tys cI cZ cJ cT) s) (hE : EX (fun q : Nat => s.heap.size ≤ q) s) (hNC : NC s) (a : Nat → Nat → Nat) (am : Nat → Nat) (b : Nat) (hDD : ∀ (U : S2) (V : S1) (g : Nat → Int64), va_D (fun q : Nat => s.heap.size ≤ q) (wW cI cZ cJ cT a am b U V g)) (r23 : Int32 → S2 → S1 → (Nat → Int64) → Option Int32) (n : Nat) (ih : ∀ (y : Int32) (U : S2) (V : S1) (g : Nat → Int64) (H : Heap) (locs : List Loc) (ls : Array Slot) (nc ns : Nat), r23 y U V g = some 1 → va_P D cls (wW cI cZ cJ cT a am b U V g) H → va_S (fun q : Nat => s.heap.size ≤ q) s.heap H locs → lv_has ls 7 [(0, .ref sb), (1, .ref (a 0 0)), (2, .ref (am 0)), (3, .ref b), (4, .int y)] → nc + 8 * n ≤ 601024 → ns + 48 * n ≤ 7293034 → nc ≤ 601024 → ns ≤ 7293034 → W p l e room_1 s m #[Value.ref sb] below meth c H locs nc ns (lw_Z below #[Value.ref sb] s) (F0 m 23 ls [])) (y : Int32) (U : S2) (V : S1) (g : Nat → Int64) (H : Heap) (locs : List Loc) (ls : Array Slot) (nc ns : Nat) (hf : law_B20 L xs r23 y U V g = some 1) (hP : va_P D cls (wW cI cZ cJ cT a am b U V g) H) (hS : va_S (fun q : Nat => s.heap.size ≤ q) s.heap H locs) (hl : lv_has ls 7 [(0, .ref sb), (1, .ref (a 0 0)), (2, .ref (am 0)), (3, .ref b), (4, .int y)]) (hc1 : nc + 8 * (n + 1) ≤ 601024) (hc2 : ns + 48 * (n + 1) ≤ 7293034) (hc3 : nc ≤ 601024) (hc4 : ns ≤ 7293034) : W p l e room_1 s m #[Value.ref sb] below meth c H locs nc ns (lw_Z below #[Value.ref sb] s) (F0 m 1064 ls []) := by
  obtain ⟨hx, hb, hr, hml, hown, hts, hX, hbl, hlocks, hgv⟩ := id C0
  have hA : ∀ q : Nat, s.heap.size ≤ q → (fun q : Nat => s.heap.size ≤ q) q := fun _ h => h
  have hbA : ¬ (fun q : Nat => s.heap.size ≤ q) sb := Nat.not_le.mpr hbl
  unfold law_B20 at hf
  refine lv_aload_n hx hb dL_law_1064 rfl (lv_at hl 1 rfl) ?_
  refine lv_aload_n hx hb dL_law_1065 rfl (lv_at hl 0 rfl) ?_
  refine lv_iload hx hb dL_law_1066 (lv_at hl 4 rfl) ?_
  refine lv_iconst (v := 1) hx hb dL_law_1068 (by decide) ?_
  refine lv_iadd hx hb dL_law_1069 ?_
  obtain ⟨hi, hf⟩ := chk_some hf
  refine va_sld hx hb hX hbl hbA hS (inb_in hi) dL_law_1070 ?_
  refine lv_aload_n hx hb dL_law_1071 rfl (lv_at hl 3 rfl) ?_
  obtain ⟨z_102, hz_102, hf⟩ := bn_some hf
  refine cLS (As := [.ref (a 0 0), .int (xs (y + 1).toNatClampNeg), .ref b]) (rest := []) ⟨hx, hb, hml, hown, hts⟩ (c_L_sync l hst D cI cZ cJ cT a b H.size U g (xs (y + 1).toNatClampNeg) z_102 hz_102) (vx_cwSW 3 hts (gM_law (gL_in gL_law_L_sync) gLK) rfl rfl rfl (by decide +kernel) ⟨Nat.le_of_ble_eq_true rfl, Nat.le_of_ble_eq_true rfl⟩) (fl_subM hP [0, 2] rfl) hK (fl_subDM (hDD U V g) [0, 2] rfl rfl) hE hNC hS (own_free (fl_subDM (hDD U V g) [0, 2] rfl rfl) hS hA) rfl rfl hl.1 (Nat.le_of_ble_eq_true rfl) dL_law_1072 ⟨(by show _ ≤ 601024; omega), (by show _ ≤ 7293034; omega)⟩ (fun H1 locs hP1 hk1 hS => ?_)
  have hP : va_P D cls (wW cI cZ cJ cT a am b z_102.2.1 V z_102.2.2) H1 := fl_joinM (cs' := [wI cI cZ cT a z_102.2.1, [(b, .inl (cJ, 1, .inr (.inl z_102.2.2)))]]) hP (hDD U V g) [0, 2] rfl rfl hk1 hP1
  clear hP1 hk1
  generalize H1 = H at hP hS ⊢
  refine lv_istore (lv' := [(5, .int z_102.1), (0, .ref sb), (1, .ref (a 0 0)), (2, .ref (am 0)), (3, .ref b), (4, .int y)]) hx hb dL_law_1075 hl (by decide) rfl (fun ls hl => ?_)
  refine lv_aload_n hx hb dL_law_1077 rfl (lv_at hl 3 rfl) ?_
  refine lv_aload_n hx hb dL_law_1078 rfl (lv_at hl 1 rfl) ?_
  refine lv_iload hx hb dL_law_1079 (lv_at hl 5 rfl) ?_
  refine lv_iconst (v := 1) hx hb dL_law_1081 (by decide) ?_
  refine lv_iadd hx hb dL_law_1082 ?_
  obtain ⟨hi, hf⟩ := chk_some hf
  refine va_sld hx hb hX hbl hbA hS (inb_in hi) dL_law_1083 ?_
  obtain ⟨z_103, hz_103, hf⟩ := bn_some hf
  refine cWVi (As := [.int (xs (y + 1).toNatClampNeg)]) (rest := []) ⟨hx, hb, hml, hown, hts⟩ (c_X7_sync l D cI cZ cJ cT am H.size V (xs (y + 1).toNatClampNeg) z_103 hz_103) (cwV 1 hts (gL_in gL_law_X7_sync) rfl rfl rfl (by decide +kernel) ⟨Nat.le_of_ble_eq_true rfl, Nat.le_of_ble_eq_true rfl⟩) (fl_sub hP 1 rfl) hK (fl_subD (hDD z_102.2.1 V z_102.2.2) 1 rfl) hS (fl_free (hDD z_102.2.1 V z_102.2.2) hS hA 1 rfl) (va_recv hK (fl_sub hP 1 rfl) (ci := 7) (q0 := 0) rfl rfl) rfl rfl hl.1 (Nat.le_of_ble_eq_true rfl) dL_law_1084 ⟨(by show _ ≤ 601024; omega), (by show _ ≤ 7293034; omega)⟩ (fun H1 locs hP1 hk1 hS => ?_)
  have hP : va_P D cls (wW cI cZ cJ cT a am b z_102.2.1 z_103.2 z_102.2.2) H1 := fl_join hP (hDD z_102.2.1 V z_102.2.2) 1 rfl hk1 hP1
  clear hP1 hk1
  generalize H1 = H at hP hS ⊢
  refine lv_istore (lv' := [(6, .int z_103.1), (5, .int z_102.1), (0, .ref sb), (1, .ref (a 0 0)), (2, .ref (am 0)), (3, .ref b), (4, .int y)]) hx hb dL_law_1087 hl (by decide) rfl (fun ls hl => ?_)
  refine lv_goto (tgt := 1660) hx hb dL_law_1089 (by decide) ?_
  refine lv_iinc (v := y + 5) (lv' := [(4, .int (y + 5)), (6, .int z_103.1), (5, .int z_102.1), (0, .ref sb), (1, .ref (a 0 0)), (2, .ref (am 0)), (3, .ref b)]) hx hb dL_law_1660 hl (k := 6) rfl rfl (by decide) rfl (fun ls hl => ?_)
  refine lv_goto (tgt := 23) hx hb dL_law_1663 (by decide) ?_
  exact ih _ _ _ _ _ _ _ _ _ hf hP hS (lv_sub hl [3, 4, 5, 6, 0] rfl) (by omega) (by omega) (by omega) (by omega)
def law_B21 (L : Nat) (xs : Nat → Int32) (r23 : Int32 → S2 → S1 → (Nat → Int64) → Option Int32) (y : Int32) (U : S2) (V : S1) (g : Nat → Int64) : Option Int32 := bn (f_X6_commit U) (fun z_104 => bn (f_X7_commit V) (fun z_105 => r23 (y + 5) z_104.2 z_105.2 g))
set_option maxHeartbeats 40000000 in
set_option maxRecDepth 100000 in
theorem law_case21 {p : Program} {l : Launch} {e : Env} {s : State} {m : MethodId} {below : List Frame} {meth : Method} {c : Code} {D : va_G} {cI cZ cJ cT : ClassId} {sb L : Nat} {xs : Nat → Int32} (hst : l.stackTraces = false) (C0 : lw_At p s m meth c sb L xs) (hK : va_K D cls (tys cI cZ cJ cT) s) (hE : EX (fun q : Nat => s.heap.size ≤ q) s) (hNC : NC s) (a : Nat → Nat → Nat) (am : Nat → Nat) (b : Nat) (hDD : ∀ (U : S2) (V : S1) (g : Nat → Int64), va_D (fun q : Nat => s.heap.size ≤ q) (wW cI cZ cJ cT a am b U V g)) (r23 : Int32 → S2 → S1 → (Nat → Int64) → Option Int32) (n : Nat) (ih : ∀ (y : Int32) (U : S2) (V : S1) (g : Nat → Int64) (H : Heap) (locs : List Loc) (ls : Array Slot) (nc ns : Nat), r23 y U V g = some 1 → va_P D cls (wW cI cZ cJ cT a am b U V g) H → va_S (fun q : Nat => s.heap.size ≤ q) s.heap H locs → lv_has ls 7 [(0, .ref sb), (1, .ref (a 0 0)), (2, .ref (am 0)), (3, .ref b), (4, .int y)] → nc + 8 * n ≤ 601024 → ns + 48 * n ≤ 7293034 → nc ≤ 601024 → ns ≤ 7293034 → W p l e room_1 s m #[Value.ref sb] below meth c H locs nc ns (lw_Z below #[Value.ref sb] s) (F0 m 23 ls [])) (y : Int32) (U : S2) (V : S1) (g : Nat → Int64) (H : Heap) (locs : List Loc) (ls : Array Slot) (nc ns : Nat) (hf : law_B21 L xs r23 y U V g = some 1) (hP : va_P D cls (wW cI cZ cJ cT a am b U V g) H) (hS : va_S (fun q : Nat => s.heap.size ≤ q) s.heap H locs) (hl : lv_has ls 7 [(0, .ref sb), (1, .ref (a 0 0)), (2, .ref (am 0)), (3, .ref b), (4, .int y)]) (hc1 : nc + 8 * (n + 1) ≤ 601024) (hc2 : ns + 48 * (n + 1) ≤ 7293034) (hc3 : nc ≤ 601024) (hc4 : ns ≤ 7293034) : W p l e room_1 s m #[Value.ref sb] below meth c H locs nc ns (lw_Z below #[Value.ref sb] s) (F0 m 1092 ls []) := by
  obtain ⟨hx, hb, hr, hml, hown, hts, hX, hbl, hlocks, hgv⟩ := id C0
  have hA : ∀ q : Nat, s.heap.size ≤ q → (fun q : Nat => s.heap.size ≤ q) q := fun _ h => h
  have hbA : ¬ (fun q : Nat => s.heap.size ≤ q) sb := Nat.not_le.mpr hbl
  unfold law_B21 at hf
  refine lv_aload_n hx hb dL_law_1092 rfl (lv_at hl 1 rfl) ?_
  obtain ⟨z_104, hz_104, hf⟩ := bn_some hf
  refine cWVi (As := []) (rest := []) ⟨hx, hb, hml, hown, hts⟩ (c_X6_commit l D cI cZ cJ cT a H.size U z_104 hz_104) (cwV 0 hts (gL_in gL_law_X6_commit) rfl rfl rfl (by decide +kernel) ⟨Nat.le_of_ble_eq_true rfl, Nat.le_of_ble_eq_true rfl⟩) (fl_sub hP 0 rfl) hK (fl_subD (hDD U V g) 0 rfl) hS (fl_free (hDD U V g) hS hA 0 rfl) (va_recv hK (fl_sub (fl_sub hP 0 rfl) 0 rfl) (ci := 6) (q0 := 0) rfl rfl) rfl rfl hl.1 (Nat.le_of_ble_eq_true rfl) dL_law_1093 ⟨(by show _ ≤ 601024; omega), (by show _ ≤ 7293034; omega)⟩ (fun H1 locs hP1 hk1 hS => ?_)
  have hP : va_P D cls (wW cI cZ cJ cT a am b z_104.2 V g) H1 := fl_join hP (hDD U V g) 0 rfl hk1 hP1
  clear hP1 hk1
  generalize H1 = H at hP hS ⊢
  refine lv_pop hx hb dL_law_1096 rfl ?_
  refine lv_aload_n hx hb dL_law_1097 rfl (lv_at hl 2 rfl) ?_
  obtain ⟨z_105, hz_105, hf⟩ := bn_some hf
  refine cWVi (As := []) (rest := []) ⟨hx, hb, hml, hown, hts⟩ (c_X7_commit l D cI cZ cJ cT am H.size V z_105 hz_105) (cwV 0 hts (gL_in gL_law_X7_commit) rfl rfl rfl (by decide +kernel) ⟨Nat.le_of_ble_eq_true rfl, Nat.le_of_ble_eq_true rfl⟩) (fl_sub hP 1 rfl) hK (fl_subD (hDD z_104.2 V g) 1 rfl) hS (fl_free (hDD z_104.2 V g) hS hA 1 rfl) (va_recv hK (fl_sub hP 1 rfl) (ci := 7) (q0 := 0) rfl rfl) rfl rfl hl.1 (Nat.le_of_ble_eq_true rfl) dL_law_1098 ⟨(by show _ ≤ 601024; omega), (by show _ ≤ 7293034; omega)⟩ (fun H1 locs hP1 hk1 hS => ?_)
  have hP : va_P D cls (wW cI cZ cJ cT a am b z_104.2 z_105.2 g) H1 := fl_join hP (hDD z_104.2 V g) 1 rfl hk1 hP1
  clear hP1 hk1
  generalize H1 = H at hP hS ⊢
  refine lv_pop hx hb dL_law_1101 rfl ?_
  refine lv_goto (tgt := 1660) hx hb dL_law_1102 (by decide) ?_
  refine lv_iinc (v := y + 5) (lv' := [(4, .int (y + 5)), (0, .ref sb), (1, .ref (a 0 0)), (2, .ref (am 0)), (3, .ref b)]) hx hb dL_law_1660 hl (k := 4) rfl rfl (by decide) rfl (fun ls hl => ?_)
  refine lv_goto (tgt := 23) hx hb dL_law_1663 (by decide) ?_
  exact ih _ _ _ _ _ _ _ _ _ hf hP hS (lv_sub hl [1, 2, 3, 4, 0] rfl) (by omega) (by omega) (by omega) (by omega)
def law_B22 (L : Nat) (xs : Nat → Int32) (r23 : Int32 → S2 → S1 → (Nat → Int64) → Option Int32) (y : Int32) (U : S2) (V : S1) (g : Nat → Int64) : Option Int32 := bn (f_X6_crash U) (fun z_106 => bn (f_X7_crash V) (fun z_107 => r23 (y + 5) z_106.2 z_107.2 g))
set_option maxHeartbeats 40000000 in
set_option maxRecDepth 100000 in
theorem law_case22 {p : Program} {l : Launch} {e : Env} {s : State} {m : MethodId} {below : List Frame} {meth : Method} {c : Code} {D : va_G} {cI cZ cJ cT : ClassId} {sb L : Nat} {xs : Nat → Int32} (hst : l.stackTraces = false) (C0 : lw_At p s m meth c sb L xs) (hK : va_K D cls (tys cI cZ cJ cT) s) (hE : EX (fun q : Nat => s.heap.size ≤ q) s) (hNC : NC s) (a : Nat → Nat → Nat) (am : Nat → Nat) (b : Nat) (hDD : ∀ (U : S2) (V : S1) (g : Nat → Int64), va_D (fun q : Nat => s.heap.size ≤ q) (wW cI cZ cJ cT a am b U V g)) (r23 : Int32 → S2 → S1 → (Nat → Int64) → Option Int32) (n : Nat) (ih : ∀ (y : Int32) (U : S2) (V : S1) (g : Nat → Int64) (H : Heap) (locs : List Loc) (ls : Array Slot) (nc ns : Nat), r23 y U V g = some 1 → va_P D cls (wW cI cZ cJ cT a am b U V g) H → va_S (fun q : Nat => s.heap.size ≤ q) s.heap H locs → lv_has ls 7 [(0, .ref sb), (1, .ref (a 0 0)), (2, .ref (am 0)), (3, .ref b), (4, .int y)] → nc + 8 * n ≤ 601024 → ns + 48 * n ≤ 7293034 → nc ≤ 601024 → ns ≤ 7293034 → W p l e room_1 s m #[Value.ref sb] below meth c H locs nc ns (lw_Z below #[Value.ref sb] s) (F0 m 23 ls [])) (y : Int32) (U : S2) (V : S1) (g : Nat → Int64) (H : Heap) (locs : List Loc) (ls : Array Slot) (nc ns : Nat) (hf : law_B22 L xs r23 y U V g = some 1) (hP : va_P D cls (wW cI cZ cJ cT a am b U V g) H) (hS : va_S (fun q : Nat => s.heap.size ≤ q) s.heap H locs) (hl : lv_has ls 7 [(0, .ref sb), (1, .ref (a 0 0)), (2, .ref (am 0)), (3, .ref b), (4, .int y)]) (hc1 : nc + 8 * (n + 1) ≤ 601024) (hc2 : ns + 48 * (n + 1) ≤ 7293034) (hc3 : nc ≤ 601024) (hc4 : ns ≤ 7293034) : W p l e room_1 s m #[Value.ref sb] below meth c H locs nc ns (lw_Z below #[Value.ref sb] s) (F0 m 1105 ls []) := by
  obtain ⟨hx, hb, hr, hml, hown, hts, hX, hbl, hlocks, hgv⟩ := id C0
  have hA : ∀ q : Nat, s.heap.size ≤ q → (fun q : Nat => s.heap.size ≤ q) q := fun _ h => h
  have hbA : ¬ (fun q : Nat => s.heap.size ≤ q) sb := Nat.not_le.mpr hbl
  unfold law_B22 at hf
  refine lv_aload_n hx hb dL_law_1105 rfl (lv_at hl 1 rfl) ?_
  obtain ⟨z_106, hz_106, hf⟩ := bn_some hf
  refine cWVi (As := []) (rest := []) ⟨hx, hb, hml, hown, hts⟩ (c_X6_crash l D cI cZ cJ cT a H.size U z_106 hz_106) (cwV 0 hts (gL_in gL_law_X6_crash) rfl rfl rfl (by decide +kernel) ⟨Nat.le_of_ble_eq_true rfl, Nat.le_of_ble_eq_true rfl⟩) (fl_sub hP 0 rfl) hK (fl_subD (hDD U V g) 0 rfl) hS (fl_free (hDD U V g) hS hA 0 rfl) (va_recv hK (fl_sub (fl_sub hP 0 rfl) 0 rfl) (ci := 6) (q0 := 0) rfl rfl) rfl rfl hl.1 (Nat.le_of_ble_eq_true rfl) dL_law_1106 ⟨(by show _ ≤ 601024; omega), (by show _ ≤ 7293034; omega)⟩ (fun H1 locs hP1 hk1 hS => ?_)
  have hP : va_P D cls (wW cI cZ cJ cT a am b z_106.2 V g) H1 := fl_join hP (hDD U V g) 0 rfl hk1 hP1
  clear hP1 hk1
  generalize H1 = H at hP hS ⊢
  refine lv_pop hx hb dL_law_1109 rfl ?_
  refine lv_aload_n hx hb dL_law_1110 rfl (lv_at hl 2 rfl) ?_
  obtain ⟨z_107, hz_107, hf⟩ := bn_some hf
  refine cWVi (As := []) (rest := []) ⟨hx, hb, hml, hown, hts⟩ (c_X7_crash l D cI cZ cJ cT am H.size V z_107 hz_107) (cwV 0 hts (gL_in gL_law_X7_crash) rfl rfl rfl (by decide +kernel) ⟨Nat.le_of_ble_eq_true rfl, Nat.le_of_ble_eq_true rfl⟩) (fl_sub hP 1 rfl) hK (fl_subD (hDD z_106.2 V g) 1 rfl) hS (fl_free (hDD z_106.2 V g) hS hA 1 rfl) (va_recv hK (fl_sub hP 1 rfl) (ci := 7) (q0 := 0) rfl rfl) rfl rfl hl.1 (Nat.le_of_ble_eq_true rfl) dL_law_1111 ⟨(by show _ ≤ 601024; omega), (by show _ ≤ 7293034; omega)⟩ (fun H1 locs hP1 hk1 hS => ?_)
  have hP : va_P D cls (wW cI cZ cJ cT a am b z_106.2 z_107.2 g) H1 := fl_join hP (hDD z_106.2 V g) 1 rfl hk1 hP1
  clear hP1 hk1
  generalize H1 = H at hP hS ⊢
  refine lv_pop hx hb dL_law_1114 rfl ?_
  refine lv_goto (tgt := 1660) hx hb dL_law_1115 (by decide) ?_
  refine lv_iinc (v := y + 5) (lv' := [(4, .int (y + 5)), (0, .ref sb), (1, .ref (a 0 0)), (2, .ref (am 0)), (3, .ref b)]) hx hb dL_law_1660 hl (k := 4) rfl rfl (by decide) rfl (fun ls hl => ?_)
  refine lv_goto (tgt := 23) hx hb dL_law_1663 (by decide) ?_
  exact ih _ _ _ _ _ _ _ _ _ hf hP hS (lv_sub hl [1, 2, 3, 4, 0] rfl) (by omega) (by omega) (by omega) (by omega)
def law_B23 (L : Nat) (xs : Nat → Int32) (r23 : Int32 → S2 → S1 → (Nat → Int64) → Option Int32) (y : Int32) (U : S2) (V : S1) (g : Nat → Int64) : Option Int32 := bn (f_L_snapshot U g) (fun z_108 => bn (f_X7_snapshot V) (fun z_109 => r23 (y + 5) z_108.2.1 z_109.2 z_108.2.2))
set_option maxHeartbeats 40000000 in
set_option maxRecDepth 100000 in
theorem law_case23 {p : Program} {l : Launch} {e : Env} {s : State} {m : MethodId} {below : List Frame} {meth : Method} {c : Code} {D : va_G} {cI cZ cJ cT : ClassId} {sb L : Nat} {xs : Nat → Int32} (hst : l.stackTraces = false) (C0 : lw_At p s m meth c sb L xs) (hK : va_K D cls (tys cI cZ cJ cT) s) (hE : EX (fun q : Nat => s.heap.size ≤ q) s) (hNC : NC s) (a : Nat → Nat → Nat) (am : Nat → Nat) (b : Nat) (hDD : ∀ (U : S2) (V : S1) (g : Nat → Int64), va_D (fun q : Nat => s.heap.size ≤ q) (wW cI cZ cJ cT a am b U V g)) (r23 : Int32 → S2 → S1 → (Nat → Int64) → Option Int32) (n : Nat) (ih : ∀ (y : Int32) (U : S2) (V : S1) (g : Nat → Int64) (H : Heap) (locs : List Loc) (ls : Array Slot) (nc ns : Nat), r23 y U V g = some 1 → va_P D cls (wW cI cZ cJ cT a am b U V g) H → va_S (fun q : Nat => s.heap.size ≤ q) s.heap H locs → lv_has ls 7 [(0, .ref sb), (1, .ref (a 0 0)), (2, .ref (am 0)), (3, .ref b), (4, .int y)] → nc + 8 * n ≤ 601024 → ns + 48 * n ≤ 7293034 → nc ≤ 601024 → ns ≤ 7293034 → W p l e room_1 s m #[Value.ref sb] below meth c H locs nc ns (lw_Z below #[Value.ref sb] s) (F0 m 23 ls [])) (y : Int32) (U : S2) (V : S1) (g : Nat → Int64) (H : Heap) (locs : List Loc) (ls : Array Slot) (nc ns : Nat) (hf : law_B23 L xs r23 y U V g = some 1) (hP : va_P D cls (wW cI cZ cJ cT a am b U V g) H) (hS : va_S (fun q : Nat => s.heap.size ≤ q) s.heap H locs) (hl : lv_has ls 7 [(0, .ref sb), (1, .ref (a 0 0)), (2, .ref (am 0)), (3, .ref b), (4, .int y)]) (hc1 : nc + 8 * (n + 1) ≤ 601024) (hc2 : ns + 48 * (n + 1) ≤ 7293034) (hc3 : nc ≤ 601024) (hc4 : ns ≤ 7293034) : W p l e room_1 s m #[Value.ref sb] below meth c H locs nc ns (lw_Z below #[Value.ref sb] s) (F0 m 1118 ls []) := by
  obtain ⟨hx, hb, hr, hml, hown, hts, hX, hbl, hlocks, hgv⟩ := id C0
  have hA : ∀ q : Nat, s.heap.size ≤ q → (fun q : Nat => s.heap.size ≤ q) q := fun _ h => h
  have hbA : ¬ (fun q : Nat => s.heap.size ≤ q) sb := Nat.not_le.mpr hbl
  unfold law_B23 at hf
  refine lv_aload_n hx hb dL_law_1118 rfl (lv_at hl 1 rfl) ?_
  refine lv_aload_n hx hb dL_law_1119 rfl (lv_at hl 3 rfl) ?_
  obtain ⟨z_108, hz_108, hf⟩ := bn_some hf
  refine cLS (As := [.ref (a 0 0), .ref b]) (rest := []) ⟨hx, hb, hml, hown, hts⟩ (c_L_snapshot l hst D cI cZ cJ cT a b H.size U g z_108 hz_108) (vx_cwSW 2 hts (gM_law (gL_in gL_law_L_snapshot) gLK) rfl rfl rfl (by decide +kernel) ⟨Nat.le_of_ble_eq_true rfl, Nat.le_of_ble_eq_true rfl⟩) (fl_subM hP [0, 2] rfl) hK (fl_subDM (hDD U V g) [0, 2] rfl rfl) hE hNC hS (own_free (fl_subDM (hDD U V g) [0, 2] rfl rfl) hS hA) rfl rfl hl.1 (Nat.le_of_ble_eq_true rfl) dL_law_1120 ⟨(by show _ ≤ 601024; omega), (by show _ ≤ 7293034; omega)⟩ (fun H1 locs hP1 hk1 hS => ?_)
  have hP : va_P D cls (wW cI cZ cJ cT a am b z_108.2.1 V z_108.2.2) H1 := fl_joinM (cs' := [wI cI cZ cT a z_108.2.1, [(b, .inl (cJ, 1, .inr (.inl z_108.2.2)))]]) hP (hDD U V g) [0, 2] rfl rfl hk1 hP1
  clear hP1 hk1
  generalize H1 = H at hP hS ⊢
  refine lv_istore (lv' := [(5, .int z_108.1), (0, .ref sb), (1, .ref (a 0 0)), (2, .ref (am 0)), (3, .ref b), (4, .int y)]) hx hb dL_law_1123 hl (by decide) rfl (fun ls hl => ?_)
  refine lv_aload_n hx hb dL_law_1125 rfl (lv_at hl 3 rfl) ?_
  obtain ⟨z_109, hz_109, hf⟩ := bn_some hf
  refine cWVi (As := []) (rest := []) ⟨hx, hb, hml, hown, hts⟩ (c_X7_snapshot l D cI cZ cJ cT am H.size V z_109 hz_109) (cwV 0 hts (gL_in gL_law_X7_snapshot) rfl rfl rfl (by decide +kernel) ⟨Nat.le_of_ble_eq_true rfl, Nat.le_of_ble_eq_true rfl⟩) (fl_sub hP 1 rfl) hK (fl_subD (hDD z_108.2.1 V z_108.2.2) 1 rfl) hS (fl_free (hDD z_108.2.1 V z_108.2.2) hS hA 1 rfl) (va_recv hK (fl_sub hP 1 rfl) (ci := 7) (q0 := 0) rfl rfl) rfl rfl hl.1 (Nat.le_of_ble_eq_true rfl) dL_law_1126 ⟨(by show _ ≤ 601024; omega), (by show _ ≤ 7293034; omega)⟩ (fun H1 locs hP1 hk1 hS => ?_)
  have hP : va_P D cls (wW cI cZ cJ cT a am b z_108.2.1 z_109.2 z_108.2.2) H1 := fl_join hP (hDD z_108.2.1 V z_108.2.2) 1 rfl hk1 hP1
  clear hP1 hk1
  generalize H1 = H at hP hS ⊢
  refine lv_istore (lv' := [(6, .int z_109.1), (5, .int z_108.1), (0, .ref sb), (1, .ref (a 0 0)), (2, .ref (am 0)), (3, .ref b), (4, .int y)]) hx hb dL_law_1129 hl (by decide) rfl (fun ls hl => ?_)
  refine lv_goto (tgt := 1660) hx hb dL_law_1131 (by decide) ?_
  refine lv_iinc (v := y + 5) (lv' := [(4, .int (y + 5)), (6, .int z_109.1), (5, .int z_108.1), (0, .ref sb), (1, .ref (a 0 0)), (2, .ref (am 0)), (3, .ref b)]) hx hb dL_law_1660 hl (k := 6) rfl rfl (by decide) rfl (fun ls hl => ?_)
  refine lv_goto (tgt := 23) hx hb dL_law_1663 (by decide) ?_
  exact ih _ _ _ _ _ _ _ _ _ hf hP hS (lv_sub hl [3, 4, 5, 6, 0] rfl) (by omega) (by omega) (by omega) (by omega)
def law_B24 (L : Nat) (xs : Nat → Int32) (r23 : Int32 → S2 → S1 → (Nat → Int64) → Option Int32) (y : Int32) (U : S2) (V : S1) (g : Nat → Int64) : Option Int32 := chk (inb (y + 1) L) (bn (f_L_drop U g (xs (y + 1).toNatClampNeg)) (fun z_110 => chk (inb (y + 1) L) (bn (f_X7_drop V (xs (y + 1).toNatClampNeg)) (fun z_111 => r23 (y + 5) z_110.2.1 z_111.2 z_110.2.2))))
set_option maxHeartbeats 40000000 in
set_option maxRecDepth 100000 in
theorem law_case24 {p : Program} {l : Launch} {e : Env} {s : State} {m : MethodId} {below : List Frame} {meth : Method} {c : Code} {D : va_G} {cI cZ cJ cT : ClassId} {sb L : Nat} {xs : Nat → Int32} (hst : l.stackTraces = false) (C0 : lw_At p s m meth c sb L xs) (hK : va_K D cls (tys cI cZ cJ cT) s) (hE : EX (fun q : Nat => s.heap.size ≤ q) s) (hNC : NC s) (a : Nat → Nat → Nat) (am : Nat → Nat) (b : Nat) (hDD : ∀ (U : S2) (V : S1) (g : Nat → Int64), va_D (fun q : Nat => s.heap.size ≤ q) (wW cI cZ cJ cT a am b U V g)) (r23 : Int32 → S2 → S1 → (Nat → Int64) → Option Int32) (n : Nat) (ih : ∀ (y : Int32) (U : S2) (V : S1) (g : Nat → Int64) (H : Heap) (locs : List Loc) (ls : Array Slot) (nc ns : Nat), r23 y U V g = some 1 → va_P D cls (wW cI cZ cJ cT a am b U V g) H → va_S (fun q : Nat => s.heap.size ≤ q) s.heap H locs → lv_has ls 7 [(0, .ref sb), (1, .ref (a 0 0)), (2, .ref (am 0)), (3, .ref b), (4, .int y)] → nc + 8 * n ≤ 601024 → ns + 48 * n ≤ 7293034 → nc ≤ 601024 → ns ≤ 7293034 → W p l e room_1 s m #[Value.ref sb] below meth c H locs nc ns (lw_Z below #[Value.ref sb] s) (F0 m 23 ls [])) (y : Int32) (U : S2) (V : S1) (g : Nat → Int64) (H : Heap) (locs : List Loc) (ls : Array Slot) (nc ns : Nat) (hf : law_B24 L xs r23 y U V g = some 1) (hP : va_P D cls (wW cI cZ cJ cT a am b U V g) H) (hS : va_S (fun q : Nat => s.heap.size ≤ q) s.heap H locs) (hl : lv_has ls 7 [(0, .ref sb), (1, .ref (a 0 0)), (2, .ref (am 0)), (3, .ref b), (4, .int y)]) (hc1 : nc + 8 * (n + 1) ≤ 601024) (hc2 : ns + 48 * (n + 1) ≤ 7293034) (hc3 : nc ≤ 601024) (hc4 : ns ≤ 7293034) : W p l e room_1 s m #[Value.ref sb] below meth c H locs nc ns (lw_Z below #[Value.ref sb] s) (F0 m 1134 ls []) := by
  obtain ⟨hx, hb, hr, hml, hown, hts, hX, hbl, hlocks, hgv⟩ := id C0
  have hA : ∀ q : Nat, s.heap.size ≤ q → (fun q : Nat => s.heap.size ≤ q) q := fun _ h => h
  have hbA : ¬ (fun q : Nat => s.heap.size ≤ q) sb := Nat.not_le.mpr hbl
  unfold law_B24 at hf
  refine lv_aload_n hx hb dL_law_1134 rfl (lv_at hl 1 rfl) ?_
  refine lv_aload_n hx hb dL_law_1135 rfl (lv_at hl 0 rfl) ?_
  refine lv_iload hx hb dL_law_1136 (lv_at hl 4 rfl) ?_
  refine lv_iconst (v := 1) hx hb dL_law_1138 (by decide) ?_
  refine lv_iadd hx hb dL_law_1139 ?_
  obtain ⟨hi, hf⟩ := chk_some hf
  refine va_sld hx hb hX hbl hbA hS (inb_in hi) dL_law_1140 ?_
  refine lv_aload_n hx hb dL_law_1141 rfl (lv_at hl 3 rfl) ?_
  obtain ⟨z_110, hz_110, hf⟩ := bn_some hf
  refine cLS (As := [.ref (a 0 0), .int (xs (y + 1).toNatClampNeg), .ref b]) (rest := []) ⟨hx, hb, hml, hown, hts⟩ (c_L_drop l hst D cI cZ cJ cT a b H.size U g (xs (y + 1).toNatClampNeg) z_110 hz_110) (vx_cwSW 3 hts (gM_law (gL_in gL_law_L_drop) gLK) rfl rfl rfl (by decide +kernel) ⟨Nat.le_of_ble_eq_true rfl, Nat.le_of_ble_eq_true rfl⟩) (fl_subM hP [0, 2] rfl) hK (fl_subDM (hDD U V g) [0, 2] rfl rfl) hE hNC hS (own_free (fl_subDM (hDD U V g) [0, 2] rfl rfl) hS hA) rfl rfl hl.1 (Nat.le_of_ble_eq_true rfl) dL_law_1142 ⟨(by show _ ≤ 601024; omega), (by show _ ≤ 7293034; omega)⟩ (fun H1 locs hP1 hk1 hS => ?_)
  have hP : va_P D cls (wW cI cZ cJ cT a am b z_110.2.1 V z_110.2.2) H1 := fl_joinM (cs' := [wI cI cZ cT a z_110.2.1, [(b, .inl (cJ, 1, .inr (.inl z_110.2.2)))]]) hP (hDD U V g) [0, 2] rfl rfl hk1 hP1
  clear hP1 hk1
  generalize H1 = H at hP hS ⊢
  refine lv_istore (lv' := [(5, .int z_110.1), (0, .ref sb), (1, .ref (a 0 0)), (2, .ref (am 0)), (3, .ref b), (4, .int y)]) hx hb dL_law_1145 hl (by decide) rfl (fun ls hl => ?_)
  refine lv_aload_n hx hb dL_law_1147 rfl (lv_at hl 3 rfl) ?_
  refine lv_aload_n hx hb dL_law_1148 rfl (lv_at hl 1 rfl) ?_
  refine lv_iload hx hb dL_law_1149 (lv_at hl 5 rfl) ?_
  refine lv_iconst (v := 1) hx hb dL_law_1151 (by decide) ?_
  refine lv_iadd hx hb dL_law_1152 ?_
  obtain ⟨hi, hf⟩ := chk_some hf
  refine va_sld hx hb hX hbl hbA hS (inb_in hi) dL_law_1153 ?_
  obtain ⟨z_111, hz_111, hf⟩ := bn_some hf
  refine cWVi (As := [.int (xs (y + 1).toNatClampNeg)]) (rest := []) ⟨hx, hb, hml, hown, hts⟩ (c_X7_drop l D cI cZ cJ cT am H.size V (xs (y + 1).toNatClampNeg) z_111 hz_111) (cwV 1 hts (gL_in gL_law_X7_drop) rfl rfl rfl (by decide +kernel) ⟨Nat.le_of_ble_eq_true rfl, Nat.le_of_ble_eq_true rfl⟩) (fl_sub hP 1 rfl) hK (fl_subD (hDD z_110.2.1 V z_110.2.2) 1 rfl) hS (fl_free (hDD z_110.2.1 V z_110.2.2) hS hA 1 rfl) (va_recv hK (fl_sub hP 1 rfl) (ci := 7) (q0 := 0) rfl rfl) rfl rfl hl.1 (Nat.le_of_ble_eq_true rfl) dL_law_1154 ⟨(by show _ ≤ 601024; omega), (by show _ ≤ 7293034; omega)⟩ (fun H1 locs hP1 hk1 hS => ?_)
  have hP : va_P D cls (wW cI cZ cJ cT a am b z_110.2.1 z_111.2 z_110.2.2) H1 := fl_join hP (hDD z_110.2.1 V z_110.2.2) 1 rfl hk1 hP1
  clear hP1 hk1
  generalize H1 = H at hP hS ⊢
  refine lv_istore (lv' := [(6, .int z_111.1), (5, .int z_110.1), (0, .ref sb), (1, .ref (a 0 0)), (2, .ref (am 0)), (3, .ref b), (4, .int y)]) hx hb dL_law_1157 hl (by decide) rfl (fun ls hl => ?_)
  refine lv_goto (tgt := 1660) hx hb dL_law_1159 (by decide) ?_
  refine lv_iinc (v := y + 5) (lv' := [(4, .int (y + 5)), (6, .int z_111.1), (5, .int z_110.1), (0, .ref sb), (1, .ref (a 0 0)), (2, .ref (am 0)), (3, .ref b)]) hx hb dL_law_1660 hl (k := 6) rfl rfl (by decide) rfl (fun ls hl => ?_)
  refine lv_goto (tgt := 23) hx hb dL_law_1663 (by decide) ?_
  exact ih _ _ _ _ _ _ _ _ _ hf hP hS (lv_sub hl [3, 4, 5, 6, 0] rfl) (by omega) (by omega) (by omega) (by omega)
def law_B25 (L : Nat) (xs : Nat → Int32) (r23 : Int32 → S2 → S1 → (Nat → Int64) → Option Int32) (y : Int32) (U : S2) (V : S1) (g : Nat → Int64) : Option Int32 := chk (inb (y + 1) L) (chk (inb (y + 2) L) (chk (inb (y + 3) L) (bn (f_L_readOld U g (xs (y + 1).toNatClampNeg) (xs (y + 2).toNatClampNeg) (xs (y + 3).toNatClampNeg)) (fun z_112 => chk (inb (y + 1) L) (chk (inb (y + 2) L) (chk (inb (y + 3) L) (bn (f_X7_readOld V (xs (y + 1).toNatClampNeg) (xs (y + 2).toNatClampNeg) (xs (y + 3).toNatClampNeg)) (fun z_113 => r23 (y + 5) z_112.2.1 z_113.2 z_112.2.2))))))))
set_option maxHeartbeats 40000000 in
set_option maxRecDepth 100000 in
theorem law_case25 {p : Program} {l : Launch} {e : Env} {s : State} {m : MethodId} {below : List Frame} {meth : Method} {c : Code} {D : va_G} {cI cZ cJ cT : ClassId} {sb L : Nat} {xs : Nat → Int32} (hst : l.stackTraces = false) (C0 : lw_At p s m meth c sb L xs) (hK : va_K D cls (tys cI cZ cJ cT) s) (hE : EX (fun q : Nat => s.heap.size ≤ q) s) (hNC : NC s) (a : Nat → Nat → Nat) (am : Nat → Nat) (b : Nat) (hDD : ∀ (U : S2) (V : S1) (g : Nat → Int64), va_D (fun q : Nat => s.heap.size ≤ q) (wW cI cZ cJ cT a am b U V g)) (r23 : Int32 → S2 → S1 → (Nat → Int64) → Option Int32) (n : Nat) (ih : ∀ (y : Int32) (U : S2) (V : S1) (g : Nat → Int64) (H : Heap) (locs : List Loc) (ls : Array Slot) (nc ns : Nat), r23 y U V g = some 1 → va_P D cls (wW cI cZ cJ cT a am b U V g) H → va_S (fun q : Nat => s.heap.size ≤ q) s.heap H locs → lv_has ls 7 [(0, .ref sb), (1, .ref (a 0 0)), (2, .ref (am 0)), (3, .ref b), (4, .int y)] → nc + 8 * n ≤ 601024 → ns + 48 * n ≤ 7293034 → nc ≤ 601024 → ns ≤ 7293034 → W p l e room_1 s m #[Value.ref sb] below meth c H locs nc ns (lw_Z below #[Value.ref sb] s) (F0 m 23 ls [])) (y : Int32) (U : S2) (V : S1) (g : Nat → Int64) (H : Heap) (locs : List Loc) (ls : Array Slot) (nc ns : Nat) (hf : law_B25 L xs r23 y U V g = some 1) (hP : va_P D cls (wW cI cZ cJ cT a am b U V g) H) (hS : va_S (fun q : Nat => s.heap.size ≤ q) s.heap H locs) (hl : lv_has ls 7 [(0, .ref sb), (1, .ref (a 0 0)), (2, .ref (am 0)), (3, .ref b), (4, .int y)]) (hc1 : nc + 8 * (n + 1) ≤ 601024) (hc2 : ns + 48 * (n + 1) ≤ 7293034) (hc3 : nc ≤ 601024) (hc4 : ns ≤ 7293034) : W p l e room_1 s m #[Value.ref sb] below meth c H locs nc ns (lw_Z below #[Value.ref sb] s) (F0 m 1162 ls []) := by
  obtain ⟨hx, hb, hr, hml, hown, hts, hX, hbl, hlocks, hgv⟩ := id C0
  have hA : ∀ q : Nat, s.heap.size ≤ q → (fun q : Nat => s.heap.size ≤ q) q := fun _ h => h
  have hbA : ¬ (fun q : Nat => s.heap.size ≤ q) sb := Nat.not_le.mpr hbl
  unfold law_B25 at hf
  refine lv_aload_n hx hb dL_law_1162 rfl (lv_at hl 1 rfl) ?_
  refine lv_aload_n hx hb dL_law_1163 rfl (lv_at hl 0 rfl) ?_
  refine lv_iload hx hb dL_law_1164 (lv_at hl 4 rfl) ?_
  refine lv_iconst (v := 1) hx hb dL_law_1166 (by decide) ?_
  refine lv_iadd hx hb dL_law_1167 ?_
  obtain ⟨hi, hf⟩ := chk_some hf
  refine va_sld hx hb hX hbl hbA hS (inb_in hi) dL_law_1168 ?_
  refine lv_aload_n hx hb dL_law_1169 rfl (lv_at hl 0 rfl) ?_
  refine lv_iload hx hb dL_law_1170 (lv_at hl 4 rfl) ?_
  refine lv_iconst (v := 2) hx hb dL_law_1172 (by decide) ?_
  refine lv_iadd hx hb dL_law_1173 ?_
  obtain ⟨hi, hf⟩ := chk_some hf
  refine va_sld hx hb hX hbl hbA hS (inb_in hi) dL_law_1174 ?_
  refine lv_aload_n hx hb dL_law_1175 rfl (lv_at hl 0 rfl) ?_
  refine lv_iload hx hb dL_law_1176 (lv_at hl 4 rfl) ?_
  refine lv_iconst (v := 3) hx hb dL_law_1178 (by decide) ?_
  refine lv_iadd hx hb dL_law_1179 ?_
  obtain ⟨hi, hf⟩ := chk_some hf
  refine va_sld hx hb hX hbl hbA hS (inb_in hi) dL_law_1180 ?_
  refine lv_aload_n hx hb dL_law_1181 rfl (lv_at hl 3 rfl) ?_
  obtain ⟨z_112, hz_112, hf⟩ := bn_some hf
  refine cLS (As := [.ref (a 0 0), .int (xs (y + 1).toNatClampNeg), .int (xs (y + 2).toNatClampNeg), .int (xs (y + 3).toNatClampNeg), .ref b]) (rest := []) ⟨hx, hb, hml, hown, hts⟩ (c_L_readOld l hst D cI cZ cJ cT a b H.size U g (xs (y + 1).toNatClampNeg) (xs (y + 2).toNatClampNeg) (xs (y + 3).toNatClampNeg) z_112 hz_112) (vx_cwSW 5 hts (gM_law (gL_in gL_law_L_readOld) gLK) rfl rfl rfl (by decide +kernel) ⟨Nat.le_of_ble_eq_true rfl, Nat.le_of_ble_eq_true rfl⟩) (fl_subM hP [0, 2] rfl) hK (fl_subDM (hDD U V g) [0, 2] rfl rfl) hE hNC hS (own_free (fl_subDM (hDD U V g) [0, 2] rfl rfl) hS hA) rfl rfl hl.1 (Nat.le_of_ble_eq_true rfl) dL_law_1182 ⟨(by show _ ≤ 601024; omega), (by show _ ≤ 7293034; omega)⟩ (fun H1 locs hP1 hk1 hS => ?_)
  have hP : va_P D cls (wW cI cZ cJ cT a am b z_112.2.1 V z_112.2.2) H1 := fl_joinM (cs' := [wI cI cZ cT a z_112.2.1, [(b, .inl (cJ, 1, .inr (.inl z_112.2.2)))]]) hP (hDD U V g) [0, 2] rfl rfl hk1 hP1
  clear hP1 hk1
  generalize H1 = H at hP hS ⊢
  refine lv_istore (lv' := [(5, .int z_112.1), (0, .ref sb), (1, .ref (a 0 0)), (2, .ref (am 0)), (3, .ref b), (4, .int y)]) hx hb dL_law_1185 hl (by decide) rfl (fun ls hl => ?_)
  refine lv_aload_n hx hb dL_law_1187 rfl (lv_at hl 3 rfl) ?_
  refine lv_aload_n hx hb dL_law_1188 rfl (lv_at hl 1 rfl) ?_
  refine lv_iload hx hb dL_law_1189 (lv_at hl 5 rfl) ?_
  refine lv_iconst (v := 1) hx hb dL_law_1191 (by decide) ?_
  refine lv_iadd hx hb dL_law_1192 ?_
  obtain ⟨hi, hf⟩ := chk_some hf
  refine va_sld hx hb hX hbl hbA hS (inb_in hi) dL_law_1193 ?_
  refine lv_aload_n hx hb dL_law_1194 rfl (lv_at hl 1 rfl) ?_
  refine lv_iload hx hb dL_law_1195 (lv_at hl 5 rfl) ?_
  refine lv_iconst (v := 2) hx hb dL_law_1197 (by decide) ?_
  refine lv_iadd hx hb dL_law_1198 ?_
  obtain ⟨hi, hf⟩ := chk_some hf
  refine va_sld hx hb hX hbl hbA hS (inb_in hi) dL_law_1199 ?_
  refine lv_aload_n hx hb dL_law_1200 rfl (lv_at hl 1 rfl) ?_
  refine lv_iload hx hb dL_law_1201 (lv_at hl 5 rfl) ?_
  refine lv_iconst (v := 3) hx hb dL_law_1203 (by decide) ?_
  refine lv_iadd hx hb dL_law_1204 ?_
  obtain ⟨hi, hf⟩ := chk_some hf
  refine va_sld hx hb hX hbl hbA hS (inb_in hi) dL_law_1205 ?_
  obtain ⟨z_113, hz_113, hf⟩ := bn_some hf
  refine cWVi (As := [.int (xs (y + 1).toNatClampNeg), .int (xs (y + 2).toNatClampNeg), .int (xs (y + 3).toNatClampNeg)]) (rest := []) ⟨hx, hb, hml, hown, hts⟩ (c_X7_readOld l D cI cZ cJ cT am H.size V (xs (y + 1).toNatClampNeg) (xs (y + 2).toNatClampNeg) (xs (y + 3).toNatClampNeg) z_113 hz_113) (cwV 3 hts (gL_in gL_law_X7_readOld) rfl rfl rfl (by decide +kernel) ⟨Nat.le_of_ble_eq_true rfl, Nat.le_of_ble_eq_true rfl⟩) (fl_sub hP 1 rfl) hK (fl_subD (hDD z_112.2.1 V z_112.2.2) 1 rfl) hS (fl_free (hDD z_112.2.1 V z_112.2.2) hS hA 1 rfl) (va_recv hK (fl_sub hP 1 rfl) (ci := 7) (q0 := 0) rfl rfl) rfl rfl hl.1 (Nat.le_of_ble_eq_true rfl) dL_law_1206 ⟨(by show _ ≤ 601024; omega), (by show _ ≤ 7293034; omega)⟩ (fun H1 locs hP1 hk1 hS => ?_)
  have hP : va_P D cls (wW cI cZ cJ cT a am b z_112.2.1 z_113.2 z_112.2.2) H1 := fl_join hP (hDD z_112.2.1 V z_112.2.2) 1 rfl hk1 hP1
  clear hP1 hk1
  generalize H1 = H at hP hS ⊢
  refine lv_istore (lv' := [(6, .int z_113.1), (5, .int z_112.1), (0, .ref sb), (1, .ref (a 0 0)), (2, .ref (am 0)), (3, .ref b), (4, .int y)]) hx hb dL_law_1209 hl (by decide) rfl (fun ls hl => ?_)
  refine lv_goto (tgt := 1660) hx hb dL_law_1211 (by decide) ?_
  refine lv_iinc (v := y + 5) (lv' := [(4, .int (y + 5)), (6, .int z_113.1), (5, .int z_112.1), (0, .ref sb), (1, .ref (a 0 0)), (2, .ref (am 0)), (3, .ref b)]) hx hb dL_law_1660 hl (k := 6) rfl rfl (by decide) rfl (fun ls hl => ?_)
  refine lv_goto (tgt := 23) hx hb dL_law_1663 (by decide) ?_
  exact ih _ _ _ _ _ _ _ _ _ hf hP hS (lv_sub hl [3, 4, 5, 6, 0] rfl) (by omega) (by omega) (by omega) (by omega)
def law_B26 (L : Nat) (xs : Nat → Int32) (r23 : Int32 → S2 → S1 → (Nat → Int64) → Option Int32) (y : Int32) (U : S2) (V : S1) (g : Nat → Int64) : Option Int32 := chk (inb (y + 1) L) (chk (inb (y + 2) L) (bn (f_L_quota U g (xs (y + 1).toNatClampNeg) (xs (y + 2).toNatClampNeg)) (fun z_114 => chk (inb (y + 1) L) (chk (inb (y + 2) L) (bn (f_X7_quota V (xs (y + 1).toNatClampNeg) (xs (y + 2).toNatClampNeg)) (fun z_115 => bn (f_X7_thrown z_115.2) (fun z_116 => if z_116 = z_114.1 then if z_114.1 = 0 then if (lg_cmp (z_114.2.2 (0 : Int32).toNatClampNeg) z_115.1.toInt64) = 0 then r23 (y + 5) z_114.2.1 z_115.2 z_114.2.2 else some 0 else r23 (y + 5) z_114.2.1 z_115.2 z_114.2.2 else some 0)))))))
set_option maxHeartbeats 40000000 in
set_option maxRecDepth 100000 in
theorem law_case26 {p : Program} {l : Launch} {e : Env} {s : State} {m : MethodId} {below : List Frame} {meth : Method} {c : Code} {D : va_G} {cI cZ cJ cT : ClassId} {sb L : Nat} {xs : Nat → Int32} (hst : l.stackTraces = false) (C0 : lw_At p s m meth c sb L xs) (hK : va_K D cls (tys cI cZ cJ cT) s) (hE : EX (fun q : Nat => s.heap.size ≤ q) s) (hNC : NC s) (a : Nat → Nat → Nat) (am : Nat → Nat) (b : Nat) (hDD : ∀ (U : S2) (V : S1) (g : Nat → Int64), va_D (fun q : Nat => s.heap.size ≤ q) (wW cI cZ cJ cT a am b U V g)) (r23 : Int32 → S2 → S1 → (Nat → Int64) → Option Int32) (n : Nat) (ih : ∀ (y : Int32) (U : S2) (V : S1) (g : Nat → Int64) (H : Heap) (locs : List Loc) (ls : Array Slot) (nc ns : Nat), r23 y U V g = some 1 → va_P D cls (wW cI cZ cJ cT a am b U V g) H → va_S (fun q : Nat => s.heap.size ≤ q) s.heap H locs → lv_has ls 7 [(0, .ref sb), (1, .ref (a 0 0)), (2, .ref (am 0)), (3, .ref b), (4, .int y)] → nc + 8 * n ≤ 601024 → ns + 48 * n ≤ 7293034 → nc ≤ 601024 → ns ≤ 7293034 → W p l e room_1 s m #[Value.ref sb] below meth c H locs nc ns (lw_Z below #[Value.ref sb] s) (F0 m 23 ls [])) (y : Int32) (U : S2) (V : S1) (g : Nat → Int64) (H : Heap) (locs : List Loc) (ls : Array Slot) (nc ns : Nat) (hf : law_B26 L xs r23 y U V g = some 1) (hP : va_P D cls (wW cI cZ cJ cT a am b U V g) H) (hS : va_S (fun q : Nat => s.heap.size ≤ q) s.heap H locs) (hl : lv_has ls 7 [(0, .ref sb), (1, .ref (a 0 0)), (2, .ref (am 0)), (3, .ref b), (4, .int y)]) (hc1 : nc + 8 * (n + 1) ≤ 601024) (hc2 : ns + 48 * (n + 1) ≤ 7293034) (hc3 : nc ≤ 601024) (hc4 : ns ≤ 7293034) : W p l e room_1 s m #[Value.ref sb] below meth c H locs nc ns (lw_Z below #[Value.ref sb] s) (F0 m 1214 ls []) := by
  obtain ⟨hx, hb, hr, hml, hown, hts, hX, hbl, hlocks, hgv⟩ := id C0
  have hA : ∀ q : Nat, s.heap.size ≤ q → (fun q : Nat => s.heap.size ≤ q) q := fun _ h => h
  have hbA : ¬ (fun q : Nat => s.heap.size ≤ q) sb := Nat.not_le.mpr hbl
  unfold law_B26 at hf
  refine lv_aload_n hx hb dL_law_1214 rfl (lv_at hl 1 rfl) ?_
  refine lv_aload_n hx hb dL_law_1215 rfl (lv_at hl 0 rfl) ?_
  refine lv_iload hx hb dL_law_1216 (lv_at hl 4 rfl) ?_
  refine lv_iconst (v := 1) hx hb dL_law_1218 (by decide) ?_
  refine lv_iadd hx hb dL_law_1219 ?_
  obtain ⟨hi, hf⟩ := chk_some hf
  refine va_sld hx hb hX hbl hbA hS (inb_in hi) dL_law_1220 ?_
  refine lv_aload_n hx hb dL_law_1221 rfl (lv_at hl 0 rfl) ?_
  refine lv_iload hx hb dL_law_1222 (lv_at hl 4 rfl) ?_
  refine lv_iconst (v := 2) hx hb dL_law_1224 (by decide) ?_
  refine lv_iadd hx hb dL_law_1225 ?_
  obtain ⟨hi, hf⟩ := chk_some hf
  refine va_sld hx hb hX hbl hbA hS (inb_in hi) dL_law_1226 ?_
  refine lv_aload_n hx hb dL_law_1227 rfl (lv_at hl 3 rfl) ?_
  obtain ⟨z_114, hz_114, hf⟩ := bn_some hf
  refine cLS (As := [.ref (a 0 0), .int (xs (y + 1).toNatClampNeg), .int (xs (y + 2).toNatClampNeg), .ref b]) (rest := []) ⟨hx, hb, hml, hown, hts⟩ (c_L_quota l hst D cI cZ cJ cT a b H.size U g (xs (y + 1).toNatClampNeg) (xs (y + 2).toNatClampNeg) z_114 hz_114) (vx_cwSW 4 hts (gM_law (gL_in gL_law_L_quota) gLK) rfl rfl rfl (by decide +kernel) ⟨Nat.le_of_ble_eq_true rfl, Nat.le_of_ble_eq_true rfl⟩) (fl_subM hP [0, 2] rfl) hK (fl_subDM (hDD U V g) [0, 2] rfl rfl) hE hNC hS (own_free (fl_subDM (hDD U V g) [0, 2] rfl rfl) hS hA) rfl rfl hl.1 (Nat.le_of_ble_eq_true rfl) dL_law_1228 ⟨(by show _ ≤ 601024; omega), (by show _ ≤ 7293034; omega)⟩ (fun H1 locs hP1 hk1 hS => ?_)
  have hP : va_P D cls (wW cI cZ cJ cT a am b z_114.2.1 V z_114.2.2) H1 := fl_joinM (cs' := [wI cI cZ cT a z_114.2.1, [(b, .inl (cJ, 1, .inr (.inl z_114.2.2)))]]) hP (hDD U V g) [0, 2] rfl rfl hk1 hP1
  clear hP1 hk1
  generalize H1 = H at hP hS ⊢
  refine lv_istore (lv' := [(5, .int z_114.1), (0, .ref sb), (1, .ref (a 0 0)), (2, .ref (am 0)), (3, .ref b), (4, .int y)]) hx hb dL_law_1231 hl (by decide) rfl (fun ls hl => ?_)
  refine lv_aload_n hx hb dL_law_1233 rfl (lv_at hl 3 rfl) ?_
  refine lv_aload_n hx hb dL_law_1234 rfl (lv_at hl 1 rfl) ?_
  refine lv_iload hx hb dL_law_1235 (lv_at hl 5 rfl) ?_
  refine lv_iconst (v := 1) hx hb dL_law_1237 (by decide) ?_
  refine lv_iadd hx hb dL_law_1238 ?_
  obtain ⟨hi, hf⟩ := chk_some hf
  refine va_sld hx hb hX hbl hbA hS (inb_in hi) dL_law_1239 ?_
  refine lv_aload_n hx hb dL_law_1240 rfl (lv_at hl 1 rfl) ?_
  refine lv_iload hx hb dL_law_1241 (lv_at hl 5 rfl) ?_
  refine lv_iconst (v := 2) hx hb dL_law_1243 (by decide) ?_
  refine lv_iadd hx hb dL_law_1244 ?_
  obtain ⟨hi, hf⟩ := chk_some hf
  refine va_sld hx hb hX hbl hbA hS (inb_in hi) dL_law_1245 ?_
  obtain ⟨z_115, hz_115, hf⟩ := bn_some hf
  refine cWVi (As := [.int (xs (y + 1).toNatClampNeg), .int (xs (y + 2).toNatClampNeg)]) (rest := []) ⟨hx, hb, hml, hown, hts⟩ (c_X7_quota l D cI cZ cJ cT am H.size V (xs (y + 1).toNatClampNeg) (xs (y + 2).toNatClampNeg) z_115 hz_115) (cwV 2 hts (gL_in gL_law_X7_quota) rfl rfl rfl (by decide +kernel) ⟨Nat.le_of_ble_eq_true rfl, Nat.le_of_ble_eq_true rfl⟩) (fl_sub hP 1 rfl) hK (fl_subD (hDD z_114.2.1 V z_114.2.2) 1 rfl) hS (fl_free (hDD z_114.2.1 V z_114.2.2) hS hA 1 rfl) (va_recv hK (fl_sub hP 1 rfl) (ci := 7) (q0 := 0) rfl rfl) rfl rfl hl.1 (Nat.le_of_ble_eq_true rfl) dL_law_1246 ⟨(by show _ ≤ 601024; omega), (by show _ ≤ 7293034; omega)⟩ (fun H1 locs hP1 hk1 hS => ?_)
  have hP : va_P D cls (wW cI cZ cJ cT a am b z_114.2.1 z_115.2 z_114.2.2) H1 := fl_join hP (hDD z_114.2.1 V z_114.2.2) 1 rfl hk1 hP1
  clear hP1 hk1
  generalize H1 = H at hP hS ⊢
  refine lv_istore (lv' := [(6, .int z_115.1), (5, .int z_114.1), (0, .ref sb), (1, .ref (a 0 0)), (2, .ref (am 0)), (3, .ref b), (4, .int y)]) hx hb dL_law_1249 hl (by decide) rfl (fun ls hl => ?_)
  refine lv_aload_n hx hb dL_law_1251 rfl (lv_at hl 4 rfl) ?_
  obtain ⟨z_116, hz_116, hf⟩ := bn_some hf
  refine cRV (As := []) (rest := []) ⟨hx, hb, hml, hown, hts⟩ (c_X7_thrown l D cI cZ cJ cT am z_115.2 z_116 hz_116) (cwV 0 hts (gL_in gL_law_X7_thrown) rfl rfl rfl (by decide +kernel) ⟨Nat.le_of_ble_eq_true rfl, Nat.le_of_ble_eq_true rfl⟩) (fl_sub hP 1 rfl) hK (va_recv hK (fl_sub hP 1 rfl) (ci := 7) (q0 := 0) rfl rfl) rfl rfl hl.1 (Nat.le_of_ble_eq_true rfl) dL_law_1252 ⟨(by show _ ≤ 601024; omega), (by show _ ≤ 7293034; omega)⟩ ?_
  refine lv_iload hx hb dL_law_1255 (lv_at hl 1 rfl) ?_
  refine lv_icmp_eq (tgt := 1262) hx hb dL_law_1257 (by decide) (fun c_117 => ?_) (fun c_117 => ?_)
  · have hf := ite_t hf c_117
    refine lv_iload hx hb dL_law_1262 (lv_at hl 1 rfl) ?_
    refine lv_if_ne (tgt := 1279) hx hb dL_law_1264 (by decide) (fun c_118 => ?_) (fun c_118 => ?_)
    · have hf := ite_f hf c_118
      refine lv_goto (tgt := 1660) hx hb dL_law_1279 (by decide) ?_
      refine lv_iinc (v := y + 5) (lv' := [(4, .int (y + 5)), (6, .int z_115.1), (5, .int z_114.1), (0, .ref sb), (1, .ref (a 0 0)), (2, .ref (am 0)), (3, .ref b)]) hx hb dL_law_1660 hl (k := 6) rfl rfl (by decide) rfl (fun ls hl => ?_)
      refine lv_goto (tgt := 23) hx hb dL_law_1663 (by decide) ?_
      exact ih _ _ _ _ _ _ _ _ _ hf hP hS (lv_sub hl [3, 4, 5, 6, 0] rfl) (by omega) (by omega) (by omega) (by omega)
    · have hf := ite_t hf c_118
      refine lv_aload_n hx hb dL_law_1267 rfl (lv_at hl 5 rfl) ?_
      refine lv_iconst (v := 0) hx hb dL_law_1268 (by decide) ?_
      refine va_lald hx hb hK hP 100 2 rfl rfl (inb_in (i := 0) (n := 1) (by decide)) dL_law_1269 ?_
      refine lv_iload hx hb dL_law_1270 (lv_at hl 0 rfl) ?_
      refine lv_i2l (v := z_115.1.toInt64) hx hb dL_law_1272 rfl ?_
      refine W.lcmp hx hb dL_law_1273 ?_
      refine lv_if_eq (tgt := 1279) hx hb dL_law_1274 (by decide) (fun c_119 => ?_) (fun c_119 => ?_)
      · have hf := ite_t hf c_119
        refine lv_goto (tgt := 1660) hx hb dL_law_1279 (by decide) ?_
        refine lv_iinc (v := y + 5) (lv' := [(4, .int (y + 5)), (6, .int z_115.1), (5, .int z_114.1), (0, .ref sb), (1, .ref (a 0 0)), (2, .ref (am 0)), (3, .ref b)]) hx hb dL_law_1660 hl (k := 6) rfl rfl (by decide) rfl (fun ls hl => ?_)
        refine lv_goto (tgt := 23) hx hb dL_law_1663 (by decide) ?_
        exact ih _ _ _ _ _ _ _ _ _ hf hP hS (lv_sub hl [3, 4, 5, 6, 0] rfl) (by omega) (by omega) (by omega) (by omega)
      · have hf := ite_f hf c_119
        refine lv_iconst (v := 0) hx hb dL_law_1277 (by decide) ?_
        exact absurd (Option.some.inj hf) (by decide)
  · have hf := ite_f hf c_117
    refine lv_iconst (v := 0) hx hb dL_law_1260 (by decide) ?_
    exact absurd (Option.some.inj hf) (by decide)
def law_B27 (L : Nat) (xs : Nat → Int32) (r23 : Int32 → S2 → S1 → (Nat → Int64) → Option Int32) (y : Int32) (U : S2) (V : S1) (g : Nat → Int64) : Option Int32 := chk (inb (y + 1) L) (chk (inb (y + 2) L) (if (xs (y + 2).toNatClampNeg) = 0 then bn (f_L_bad U g (xs (y + 1).toNatClampNeg) 0) (fun z_121 => chk (inb (y + 1) L) (chk (inb (y + 2) L) (if (xs (y + 2).toNatClampNeg) = 0 then bn (f_X7_bad V (xs (y + 1).toNatClampNeg) 0) (fun z_123 => r23 (y + 5) z_121.2.1 z_123.2 z_121.2.2) else bn (f_X7_bad V (xs (y + 1).toNatClampNeg) 1) (fun z_124 => r23 (y + 5) z_121.2.1 z_124.2 z_121.2.2)))) else bn (f_L_bad U g (xs (y + 1).toNatClampNeg) 1) (fun z_125 => chk (inb (y + 1) L) (chk (inb (y + 2) L) (if (xs (y + 2).toNatClampNeg) = 0 then bn (f_X7_bad V (xs (y + 1).toNatClampNeg) 0) (fun z_127 => r23 (y + 5) z_125.2.1 z_127.2 z_125.2.2) else bn (f_X7_bad V (xs (y + 1).toNatClampNeg) 1) (fun z_128 => r23 (y + 5) z_125.2.1 z_128.2 z_125.2.2))))))
set_option maxHeartbeats 40000000 in
set_option maxRecDepth 100000 in
theorem law_case27 {p : Program} {l : Launch} {e : Env} {s : State} {m : MethodId} {below : List Frame} {meth : Method} {c : Code} {D : va_G} {cI cZ cJ cT : ClassId} {sb L : Nat} {xs : Nat → Int32} (hst : l.stackTraces = false) (C0 : lw_At p s m meth c sb L xs) (hK : va_K D cls (tys cI cZ cJ cT) s) (hE : EX (fun q : Nat => s.heap.size ≤ q) s) (hNC : NC s) (a : Nat → Nat → Nat) (am : Nat → Nat) (b : Nat) (hDD : ∀ (U : S2) (V : S1) (g : Nat → Int64), va_D (fun q : Nat => s.heap.size ≤ q) (wW cI cZ cJ cT a am b U V g)) (r23 : Int32 → S2 → S1 → (Nat → Int64) → Option Int32) (n : Nat) (ih : ∀ (y : Int32) (U : S2) (V : S1) (g : Nat → Int64) (H : Heap) (locs : List Loc) (ls : Array Slot) (nc ns : Nat), r23 y U V g = some 1 → va_P D cls (wW cI cZ cJ cT a am b U V g) H → va_S (fun q : Nat => s.heap.size ≤ q) s.heap H locs → lv_has ls 7 [(0, .ref sb), (1, .ref (a 0 0)), (2, .ref (am 0)), (3, .ref b), (4, .int y)] → nc + 8 * n ≤ 601024 → ns + 48 * n ≤ 7293034 → nc ≤ 601024 → ns ≤ 7293034 → W p l e room_1 s m #[Value.ref sb] below meth c H locs nc ns (lw_Z below #[Value.ref sb] s) (F0 m 23 ls [])) (y : Int32) (U : S2) (V : S1) (g : Nat → Int64) (H : Heap) (locs : List Loc) (ls : Array Slot) (nc ns : Nat) (hf : law_B27 L xs r23 y U V g = some 1) (hP : va_P D cls (wW cI cZ cJ cT a am b U V g) H) (hS : va_S (fun q : Nat => s.heap.size ≤ q) s.heap H locs) (hl : lv_has ls 7 [(0, .ref sb), (1, .ref (a 0 0)), (2, .ref (am 0)), (3, .ref b), (4, .int y)]) (hc1 : nc + 8 * (n + 1) ≤ 601024) (hc2 : ns + 48 * (n + 1) ≤ 7293034) (hc3 : nc ≤ 601024) (hc4 : ns ≤ 7293034) : W p l e room_1 s m #[Value.ref sb] below meth c H locs nc ns (lw_Z below #[Value.ref sb] s) (F0 m 1282 ls []) := by
  obtain ⟨hx, hb, hr, hml, hown, hts, hX, hbl, hlocks, hgv⟩ := id C0
  have hA : ∀ q : Nat, s.heap.size ≤ q → (fun q : Nat => s.heap.size ≤ q) q := fun _ h => h
  have hbA : ¬ (fun q : Nat => s.heap.size ≤ q) sb := Nat.not_le.mpr hbl
  unfold law_B27 at hf
  refine lv_aload_n hx hb dL_law_1282 rfl (lv_at hl 1 rfl) ?_
  refine lv_aload_n hx hb dL_law_1283 rfl (lv_at hl 0 rfl) ?_
  refine lv_iload hx hb dL_law_1284 (lv_at hl 4 rfl) ?_
  refine lv_iconst (v := 1) hx hb dL_law_1286 (by decide) ?_
  refine lv_iadd hx hb dL_law_1287 ?_
  obtain ⟨hi, hf⟩ := chk_some hf
  refine va_sld hx hb hX hbl hbA hS (inb_in hi) dL_law_1288 ?_
  refine lv_aload_n hx hb dL_law_1289 rfl (lv_at hl 0 rfl) ?_
  refine lv_iload hx hb dL_law_1290 (lv_at hl 4 rfl) ?_
  refine lv_iconst (v := 2) hx hb dL_law_1292 (by decide) ?_
  refine lv_iadd hx hb dL_law_1293 ?_
  obtain ⟨hi, hf⟩ := chk_some hf
  refine va_sld hx hb hX hbl hbA hS (inb_in hi) dL_law_1294 ?_
  refine lv_if_eq (tgt := 1302) hx hb dL_law_1295 (by decide) (fun c_120 => ?_) (fun c_120 => ?_)
  · have hf := ite_t hf c_120
    refine lv_iconst (v := 0) hx hb dL_law_1302 (by decide) ?_
    refine lv_aload_n hx hb dL_law_1303 rfl (lv_at hl 3 rfl) ?_
    obtain ⟨z_121, hz_121, hf⟩ := bn_some hf
    refine cLS (As := [.ref (a 0 0), .int (xs (y + 1).toNatClampNeg), .int 0, .ref b]) (rest := []) ⟨hx, hb, hml, hown, hts⟩ (c_L_bad l hst D cI cZ cJ cT a b H.size U g (xs (y + 1).toNatClampNeg) 0 z_121 hz_121) (vx_cwSW 4 hts (gM_law (gL_in gL_law_L_bad) gLK) rfl rfl rfl (by decide +kernel) ⟨Nat.le_of_ble_eq_true rfl, Nat.le_of_ble_eq_true rfl⟩) (fl_subM hP [0, 2] rfl) hK (fl_subDM (hDD U V g) [0, 2] rfl rfl) hE hNC hS (own_free (fl_subDM (hDD U V g) [0, 2] rfl rfl) hS hA) rfl rfl hl.1 (Nat.le_of_ble_eq_true rfl) dL_law_1304 ⟨(by show _ ≤ 601024; omega), (by show _ ≤ 7293034; omega)⟩ (fun H1 locs hP1 hk1 hS => ?_)
    have hP : va_P D cls (wW cI cZ cJ cT a am b z_121.2.1 V z_121.2.2) H1 := fl_joinM (cs' := [wI cI cZ cT a z_121.2.1, [(b, .inl (cJ, 1, .inr (.inl z_121.2.2)))]]) hP (hDD U V g) [0, 2] rfl rfl hk1 hP1
    clear hP1 hk1
    generalize H1 = H at hP hS ⊢
    refine lv_istore (lv' := [(5, .int z_121.1), (0, .ref sb), (1, .ref (a 0 0)), (2, .ref (am 0)), (3, .ref b), (4, .int y)]) hx hb dL_law_1307 hl (by decide) rfl (fun ls hl => ?_)
    refine lv_aload_n hx hb dL_law_1309 rfl (lv_at hl 3 rfl) ?_
    refine lv_aload_n hx hb dL_law_1310 rfl (lv_at hl 1 rfl) ?_
    refine lv_iload hx hb dL_law_1311 (lv_at hl 5 rfl) ?_
    refine lv_iconst (v := 1) hx hb dL_law_1313 (by decide) ?_
    refine lv_iadd hx hb dL_law_1314 ?_
    obtain ⟨hi, hf⟩ := chk_some hf
    refine va_sld hx hb hX hbl hbA hS (inb_in hi) dL_law_1315 ?_
    refine lv_aload_n hx hb dL_law_1316 rfl (lv_at hl 1 rfl) ?_
    refine lv_iload hx hb dL_law_1317 (lv_at hl 5 rfl) ?_
    refine lv_iconst (v := 2) hx hb dL_law_1319 (by decide) ?_
    refine lv_iadd hx hb dL_law_1320 ?_
    obtain ⟨hi, hf⟩ := chk_some hf
    refine va_sld hx hb hX hbl hbA hS (inb_in hi) dL_law_1321 ?_
    refine lv_if_eq (tgt := 1329) hx hb dL_law_1322 (by decide) (fun c_122 => ?_) (fun c_122 => ?_)
    · have hf := ite_t hf c_122
      refine lv_iconst (v := 0) hx hb dL_law_1329 (by decide) ?_
      obtain ⟨z_123, hz_123, hf⟩ := bn_some hf
      refine cWVi (As := [.int (xs (y + 1).toNatClampNeg), .int 0]) (rest := []) ⟨hx, hb, hml, hown, hts⟩ (c_X7_bad l D cI cZ cJ cT am H.size V (xs (y + 1).toNatClampNeg) 0 z_123 hz_123) (cwV 2 hts (gL_in gL_law_X7_bad) rfl rfl rfl (by decide +kernel) ⟨Nat.le_of_ble_eq_true rfl, Nat.le_of_ble_eq_true rfl⟩) (fl_sub hP 1 rfl) hK (fl_subD (hDD z_121.2.1 V z_121.2.2) 1 rfl) hS (fl_free (hDD z_121.2.1 V z_121.2.2) hS hA 1 rfl) (va_recv hK (fl_sub hP 1 rfl) (ci := 7) (q0 := 0) rfl rfl) rfl rfl hl.1 (Nat.le_of_ble_eq_true rfl) dL_law_1330 ⟨(by show _ ≤ 601024; omega), (by show _ ≤ 7293034; omega)⟩ (fun H1 locs hP1 hk1 hS => ?_)
      have hP : va_P D cls (wW cI cZ cJ cT a am b z_121.2.1 z_123.2 z_121.2.2) H1 := fl_join hP (hDD z_121.2.1 V z_121.2.2) 1 rfl hk1 hP1
      clear hP1 hk1
      generalize H1 = H at hP hS ⊢
      refine lv_istore (lv' := [(6, .int z_123.1), (5, .int z_121.1), (0, .ref sb), (1, .ref (a 0 0)), (2, .ref (am 0)), (3, .ref b), (4, .int y)]) hx hb dL_law_1333 hl (by decide) rfl (fun ls hl => ?_)
      refine lv_goto (tgt := 1660) hx hb dL_law_1335 (by decide) ?_
      refine lv_iinc (v := y + 5) (lv' := [(4, .int (y + 5)), (6, .int z_123.1), (5, .int z_121.1), (0, .ref sb), (1, .ref (a 0 0)), (2, .ref (am 0)), (3, .ref b)]) hx hb dL_law_1660 hl (k := 6) rfl rfl (by decide) rfl (fun ls hl => ?_)
      refine lv_goto (tgt := 23) hx hb dL_law_1663 (by decide) ?_
      exact ih _ _ _ _ _ _ _ _ _ hf hP hS (lv_sub hl [3, 4, 5, 6, 0] rfl) (by omega) (by omega) (by omega) (by omega)
    · have hf := ite_f hf c_122
      refine lv_iconst (v := 1) hx hb dL_law_1325 (by decide) ?_
      refine lv_goto (tgt := 1330) hx hb dL_law_1326 (by decide) ?_
      obtain ⟨z_124, hz_124, hf⟩ := bn_some hf
      refine cWVi (As := [.int (xs (y + 1).toNatClampNeg), .int 1]) (rest := []) ⟨hx, hb, hml, hown, hts⟩ (c_X7_bad l D cI cZ cJ cT am H.size V (xs (y + 1).toNatClampNeg) 1 z_124 hz_124) (cwV 2 hts (gL_in gL_law_X7_bad) rfl rfl rfl (by decide +kernel) ⟨Nat.le_of_ble_eq_true rfl, Nat.le_of_ble_eq_true rfl⟩) (fl_sub hP 1 rfl) hK (fl_subD (hDD z_121.2.1 V z_121.2.2) 1 rfl) hS (fl_free (hDD z_121.2.1 V z_121.2.2) hS hA 1 rfl) (va_recv hK (fl_sub hP 1 rfl) (ci := 7) (q0 := 0) rfl rfl) rfl rfl hl.1 (Nat.le_of_ble_eq_true rfl) dL_law_1330 ⟨(by show _ ≤ 601024; omega), (by show _ ≤ 7293034; omega)⟩ (fun H1 locs hP1 hk1 hS => ?_)
      have hP : va_P D cls (wW cI cZ cJ cT a am b z_121.2.1 z_124.2 z_121.2.2) H1 := fl_join hP (hDD z_121.2.1 V z_121.2.2) 1 rfl hk1 hP1
      clear hP1 hk1
      generalize H1 = H at hP hS ⊢
      refine lv_istore (lv' := [(6, .int z_124.1), (5, .int z_121.1), (0, .ref sb), (1, .ref (a 0 0)), (2, .ref (am 0)), (3, .ref b), (4, .int y)]) hx hb dL_law_1333 hl (by decide) rfl (fun ls hl => ?_)
      refine lv_goto (tgt := 1660) hx hb dL_law_1335 (by decide) ?_
      refine lv_iinc (v := y + 5) (lv' := [(4, .int (y + 5)), (6, .int z_124.1), (5, .int z_121.1), (0, .ref sb), (1, .ref (a 0 0)), (2, .ref (am 0)), (3, .ref b)]) hx hb dL_law_1660 hl (k := 6) rfl rfl (by decide) rfl (fun ls hl => ?_)
      refine lv_goto (tgt := 23) hx hb dL_law_1663 (by decide) ?_
      exact ih _ _ _ _ _ _ _ _ _ hf hP hS (lv_sub hl [3, 4, 5, 6, 0] rfl) (by omega) (by omega) (by omega) (by omega)
  · have hf := ite_f hf c_120
    refine lv_iconst (v := 1) hx hb dL_law_1298 (by decide) ?_
    refine lv_goto (tgt := 1303) hx hb dL_law_1299 (by decide) ?_
    refine lv_aload_n hx hb dL_law_1303 rfl (lv_at hl 3 rfl) ?_
    obtain ⟨z_125, hz_125, hf⟩ := bn_some hf
    refine cLS (As := [.ref (a 0 0), .int (xs (y + 1).toNatClampNeg), .int 1, .ref b]) (rest := []) ⟨hx, hb, hml, hown, hts⟩ (c_L_bad l hst D cI cZ cJ cT a b H.size U g (xs (y + 1).toNatClampNeg) 1 z_125 hz_125) (vx_cwSW 4 hts (gM_law (gL_in gL_law_L_bad) gLK) rfl rfl rfl (by decide +kernel) ⟨Nat.le_of_ble_eq_true rfl, Nat.le_of_ble_eq_true rfl⟩) (fl_subM hP [0, 2] rfl) hK (fl_subDM (hDD U V g) [0, 2] rfl rfl) hE hNC hS (own_free (fl_subDM (hDD U V g) [0, 2] rfl rfl) hS hA) rfl rfl hl.1 (Nat.le_of_ble_eq_true rfl) dL_law_1304 ⟨(by show _ ≤ 601024; omega), (by show _ ≤ 7293034; omega)⟩ (fun H1 locs hP1 hk1 hS => ?_)
    have hP : va_P D cls (wW cI cZ cJ cT a am b z_125.2.1 V z_125.2.2) H1 := fl_joinM (cs' := [wI cI cZ cT a z_125.2.1, [(b, .inl (cJ, 1, .inr (.inl z_125.2.2)))]]) hP (hDD U V g) [0, 2] rfl rfl hk1 hP1
    clear hP1 hk1
    generalize H1 = H at hP hS ⊢
    refine lv_istore (lv' := [(5, .int z_125.1), (0, .ref sb), (1, .ref (a 0 0)), (2, .ref (am 0)), (3, .ref b), (4, .int y)]) hx hb dL_law_1307 hl (by decide) rfl (fun ls hl => ?_)
    refine lv_aload_n hx hb dL_law_1309 rfl (lv_at hl 3 rfl) ?_
    refine lv_aload_n hx hb dL_law_1310 rfl (lv_at hl 1 rfl) ?_
    refine lv_iload hx hb dL_law_1311 (lv_at hl 5 rfl) ?_
    refine lv_iconst (v := 1) hx hb dL_law_1313 (by decide) ?_
    refine lv_iadd hx hb dL_law_1314 ?_
    obtain ⟨hi, hf⟩ := chk_some hf
    refine va_sld hx hb hX hbl hbA hS (inb_in hi) dL_law_1315 ?_
    refine lv_aload_n hx hb dL_law_1316 rfl (lv_at hl 1 rfl) ?_
    refine lv_iload hx hb dL_law_1317 (lv_at hl 5 rfl) ?_
    refine lv_iconst (v := 2) hx hb dL_law_1319 (by decide) ?_
    refine lv_iadd hx hb dL_law_1320 ?_
    obtain ⟨hi, hf⟩ := chk_some hf
    refine va_sld hx hb hX hbl hbA hS (inb_in hi) dL_law_1321 ?_
    refine lv_if_eq (tgt := 1329) hx hb dL_law_1322 (by decide) (fun c_126 => ?_) (fun c_126 => ?_)
    · have hf := ite_t hf c_126
      refine lv_iconst (v := 0) hx hb dL_law_1329 (by decide) ?_
      obtain ⟨z_127, hz_127, hf⟩ := bn_some hf
      refine cWVi (As := [.int (xs (y + 1).toNatClampNeg), .int 0]) (rest := []) ⟨hx, hb, hml, hown, hts⟩ (c_X7_bad l D cI cZ cJ cT am H.size V (xs (y + 1).toNatClampNeg) 0 z_127 hz_127) (cwV 2 hts (gL_in gL_law_X7_bad) rfl rfl rfl (by decide +kernel) ⟨Nat.le_of_ble_eq_true rfl, Nat.le_of_ble_eq_true rfl⟩) (fl_sub hP 1 rfl) hK (fl_subD (hDD z_125.2.1 V z_125.2.2) 1 rfl) hS (fl_free (hDD z_125.2.1 V z_125.2.2) hS hA 1 rfl) (va_recv hK (fl_sub hP 1 rfl) (ci := 7) (q0 := 0) rfl rfl) rfl rfl hl.1 (Nat.le_of_ble_eq_true rfl) dL_law_1330 ⟨(by show _ ≤ 601024; omega), (by show _ ≤ 7293034; omega)⟩ (fun H1 locs hP1 hk1 hS => ?_)
      have hP : va_P D cls (wW cI cZ cJ cT a am b z_125.2.1 z_127.2 z_125.2.2) H1 := fl_join hP (hDD z_125.2.1 V z_125.2.2) 1 rfl hk1 hP1
      clear hP1 hk1
      generalize H1 = H at hP hS ⊢
      refine lv_istore (lv' := [(6, .int z_127.1), (5, .int z_125.1), (0, .ref sb), (1, .ref (a 0 0)), (2, .ref (am 0)), (3, .ref b), (4, .int y)]) hx hb dL_law_1333 hl (by decide) rfl (fun ls hl => ?_)
      refine lv_goto (tgt := 1660) hx hb dL_law_1335 (by decide) ?_
      refine lv_iinc (v := y + 5) (lv' := [(4, .int (y + 5)), (6, .int z_127.1), (5, .int z_125.1), (0, .ref sb), (1, .ref (a 0 0)), (2, .ref (am 0)), (3, .ref b)]) hx hb dL_law_1660 hl (k := 6) rfl rfl (by decide) rfl (fun ls hl => ?_)
      refine lv_goto (tgt := 23) hx hb dL_law_1663 (by decide) ?_
      exact ih _ _ _ _ _ _ _ _ _ hf hP hS (lv_sub hl [3, 4, 5, 6, 0] rfl) (by omega) (by omega) (by omega) (by omega)
    · have hf := ite_f hf c_126
      refine lv_iconst (v := 1) hx hb dL_law_1325 (by decide) ?_
      refine lv_goto (tgt := 1330) hx hb dL_law_1326 (by decide) ?_
      obtain ⟨z_128, hz_128, hf⟩ := bn_some hf
      refine cWVi (As := [.int (xs (y + 1).toNatClampNeg), .int 1]) (rest := []) ⟨hx, hb, hml, hown, hts⟩ (c_X7_bad l D cI cZ cJ cT am H.size V (xs (y + 1).toNatClampNeg) 1 z_128 hz_128) (cwV 2 hts (gL_in gL_law_X7_bad) rfl rfl rfl (by decide +kernel) ⟨Nat.le_of_ble_eq_true rfl, Nat.le_of_ble_eq_true rfl⟩) (fl_sub hP 1 rfl) hK (fl_subD (hDD z_125.2.1 V z_125.2.2) 1 rfl) hS (fl_free (hDD z_125.2.1 V z_125.2.2) hS hA 1 rfl) (va_recv hK (fl_sub hP 1 rfl) (ci := 7) (q0 := 0) rfl rfl) rfl rfl hl.1 (Nat.le_of_ble_eq_true rfl) dL_law_1330 ⟨(by show _ ≤ 601024; omega), (by show _ ≤ 7293034; omega)⟩ (fun H1 locs hP1 hk1 hS => ?_)
      have hP : va_P D cls (wW cI cZ cJ cT a am b z_125.2.1 z_128.2 z_125.2.2) H1 := fl_join hP (hDD z_125.2.1 V z_125.2.2) 1 rfl hk1 hP1
      clear hP1 hk1
      generalize H1 = H at hP hS ⊢
      refine lv_istore (lv' := [(6, .int z_128.1), (5, .int z_125.1), (0, .ref sb), (1, .ref (a 0 0)), (2, .ref (am 0)), (3, .ref b), (4, .int y)]) hx hb dL_law_1333 hl (by decide) rfl (fun ls hl => ?_)
      refine lv_goto (tgt := 1660) hx hb dL_law_1335 (by decide) ?_
      refine lv_iinc (v := y + 5) (lv' := [(4, .int (y + 5)), (6, .int z_128.1), (5, .int z_125.1), (0, .ref sb), (1, .ref (a 0 0)), (2, .ref (am 0)), (3, .ref b)]) hx hb dL_law_1660 hl (k := 6) rfl rfl (by decide) rfl (fun ls hl => ?_)
      refine lv_goto (tgt := 23) hx hb dL_law_1663 (by decide) ?_
      exact ih _ _ _ _ _ _ _ _ _ hf hP hS (lv_sub hl [3, 4, 5, 6, 0] rfl) (by omega) (by omega) (by omega) (by omega)
def law_B28 (L : Nat) (xs : Nat → Int32) (r23 : Int32 → S2 → S1 → (Nat → Int64) → Option Int32) (y : Int32) (U : S2) (V : S1) (g : Nat → Int64) : Option Int32 := chk (inb (y + 1) L) (chk (inb (y + 2) L) (chk (inb (y + 3) L) (bn (f_L_damage U (xs (y + 1).toNatClampNeg) (xs (y + 2).toNatClampNeg) (xs (y + 3).toNatClampNeg)) (fun z_129 => chk (inb (y + 1) L) (chk (inb (y + 2) L) (chk (inb (y + 3) L) (bn (f_X7_damage V (xs (y + 1).toNatClampNeg) (xs (y + 2).toNatClampNeg) (xs (y + 3).toNatClampNeg)) (fun z_130 => r23 (y + 5) z_129.2 z_130 g))))))))
set_option maxHeartbeats 40000000 in
set_option maxRecDepth 100000 in
theorem law_case28 {p : Program} {l : Launch} {e : Env} {s : State} {m : MethodId} {below : List Frame} {meth : Method} {c : Code} {D : va_G} {cI cZ cJ cT : ClassId} {sb L : Nat} {xs : Nat → Int32} (hst : l.stackTraces = false) (C0 : lw_At p s m meth c sb L xs) (hK : va_K D cls (tys cI cZ cJ cT) s) (hE : EX (fun q : Nat => s.heap.size ≤ q) s) (hNC : NC s) (a : Nat → Nat → Nat) (am : Nat → Nat) (b : Nat) (hDD : ∀ (U : S2) (V : S1) (g : Nat → Int64), va_D (fun q : Nat => s.heap.size ≤ q) (wW cI cZ cJ cT a am b U V g)) (r23 : Int32 → S2 → S1 → (Nat → Int64) → Option Int32) (n : Nat) (ih : ∀ (y : Int32) (U : S2) (V : S1) (g : Nat → Int64) (H : Heap) (locs : List Loc) (ls : Array Slot) (nc ns : Nat), r23 y U V g = some 1 → va_P D cls (wW cI cZ cJ cT a am b U V g) H → va_S (fun q : Nat => s.heap.size ≤ q) s.heap H locs → lv_has ls 7 [(0, .ref sb), (1, .ref (a 0 0)), (2, .ref (am 0)), (3, .ref b), (4, .int y)] → nc + 8 * n ≤ 601024 → ns + 48 * n ≤ 7293034 → nc ≤ 601024 → ns ≤ 7293034 → W p l e room_1 s m #[Value.ref sb] below meth c H locs nc ns (lw_Z below #[Value.ref sb] s) (F0 m 23 ls [])) (y : Int32) (U : S2) (V : S1) (g : Nat → Int64) (H : Heap) (locs : List Loc) (ls : Array Slot) (nc ns : Nat) (hf : law_B28 L xs r23 y U V g = some 1) (hP : va_P D cls (wW cI cZ cJ cT a am b U V g) H) (hS : va_S (fun q : Nat => s.heap.size ≤ q) s.heap H locs) (hl : lv_has ls 7 [(0, .ref sb), (1, .ref (a 0 0)), (2, .ref (am 0)), (3, .ref b), (4, .int y)]) (hc1 : nc + 8 * (n + 1) ≤ 601024) (hc2 : ns + 48 * (n + 1) ≤ 7293034) (hc3 : nc ≤ 601024) (hc4 : ns ≤ 7293034) : W p l e room_1 s m #[Value.ref sb] below meth c H locs nc ns (lw_Z below #[Value.ref sb] s) (F0 m 1338 ls []) := by
  obtain ⟨hx, hb, hr, hml, hown, hts, hX, hbl, hlocks, hgv⟩ := id C0
  have hA : ∀ q : Nat, s.heap.size ≤ q → (fun q : Nat => s.heap.size ≤ q) q := fun _ h => h
  have hbA : ¬ (fun q : Nat => s.heap.size ≤ q) sb := Nat.not_le.mpr hbl
  unfold law_B28 at hf
  refine lv_aload_n hx hb dL_law_1338 rfl (lv_at hl 1 rfl) ?_
  refine lv_aload_n hx hb dL_law_1339 rfl (lv_at hl 0 rfl) ?_
  refine lv_iload hx hb dL_law_1340 (lv_at hl 4 rfl) ?_
  refine lv_iconst (v := 1) hx hb dL_law_1342 (by decide) ?_
  refine lv_iadd hx hb dL_law_1343 ?_
  obtain ⟨hi, hf⟩ := chk_some hf
  refine va_sld hx hb hX hbl hbA hS (inb_in hi) dL_law_1344 ?_
  refine lv_aload_n hx hb dL_law_1345 rfl (lv_at hl 0 rfl) ?_
  refine lv_iload hx hb dL_law_1346 (lv_at hl 4 rfl) ?_
  refine lv_iconst (v := 2) hx hb dL_law_1348 (by decide) ?_
  refine lv_iadd hx hb dL_law_1349 ?_
  obtain ⟨hi, hf⟩ := chk_some hf
  refine va_sld hx hb hX hbl hbA hS (inb_in hi) dL_law_1350 ?_
  refine lv_aload_n hx hb dL_law_1351 rfl (lv_at hl 0 rfl) ?_
  refine lv_iload hx hb dL_law_1352 (lv_at hl 4 rfl) ?_
  refine lv_iconst (v := 3) hx hb dL_law_1354 (by decide) ?_
  refine lv_iadd hx hb dL_law_1355 ?_
  obtain ⟨hi, hf⟩ := chk_some hf
  refine va_sld hx hb hX hbl hbA hS (inb_in hi) dL_law_1356 ?_
  obtain ⟨z_129, hz_129, hf⟩ := bn_some hf
  refine cLS (As := [.ref (a 0 0), .int (xs (y + 1).toNatClampNeg), .int (xs (y + 2).toNatClampNeg), .int (xs (y + 3).toNatClampNeg)]) (rest := []) ⟨hx, hb, hml, hown, hts⟩ (c_L_damage l hst D cI cZ cJ cT a H.size U (xs (y + 1).toNatClampNeg) (xs (y + 2).toNatClampNeg) (xs (y + 3).toNatClampNeg) z_129 hz_129) (vx_cwSW 4 hts (gM_law (gL_in gL_law_L_damage) gLK) rfl rfl rfl (by decide +kernel) ⟨Nat.le_of_ble_eq_true rfl, Nat.le_of_ble_eq_true rfl⟩) (fl_sub hP 0 rfl) hK (fl_subD (hDD U V g) 0 rfl) hE hNC hS (fl_free (hDD U V g) hS hA 0 rfl) rfl rfl hl.1 (Nat.le_of_ble_eq_true rfl) dL_law_1357 ⟨(by show _ ≤ 601024; omega), (by show _ ≤ 7293034; omega)⟩ (fun H1 locs hP1 hk1 hS => ?_)
  have hP : va_P D cls (wW cI cZ cJ cT a am b z_129.2 V g) H1 := fl_join hP (hDD U V g) 0 rfl hk1 hP1
  clear hP1 hk1
  generalize H1 = H at hP hS ⊢
  refine lv_istore (lv' := [(5, .int z_129.1), (0, .ref sb), (1, .ref (a 0 0)), (2, .ref (am 0)), (3, .ref b), (4, .int y)]) hx hb dL_law_1360 hl (by decide) rfl (fun ls hl => ?_)
  refine lv_aload_n hx hb dL_law_1362 rfl (lv_at hl 3 rfl) ?_
  refine lv_aload_n hx hb dL_law_1363 rfl (lv_at hl 1 rfl) ?_
  refine lv_iload hx hb dL_law_1364 (lv_at hl 5 rfl) ?_
  refine lv_iconst (v := 1) hx hb dL_law_1366 (by decide) ?_
  refine lv_iadd hx hb dL_law_1367 ?_
  obtain ⟨hi, hf⟩ := chk_some hf
  refine va_sld hx hb hX hbl hbA hS (inb_in hi) dL_law_1368 ?_
  refine lv_aload_n hx hb dL_law_1369 rfl (lv_at hl 1 rfl) ?_
  refine lv_iload hx hb dL_law_1370 (lv_at hl 5 rfl) ?_
  refine lv_iconst (v := 2) hx hb dL_law_1372 (by decide) ?_
  refine lv_iadd hx hb dL_law_1373 ?_
  obtain ⟨hi, hf⟩ := chk_some hf
  refine va_sld hx hb hX hbl hbA hS (inb_in hi) dL_law_1374 ?_
  refine lv_aload_n hx hb dL_law_1375 rfl (lv_at hl 1 rfl) ?_
  refine lv_iload hx hb dL_law_1376 (lv_at hl 5 rfl) ?_
  refine lv_iconst (v := 3) hx hb dL_law_1378 (by decide) ?_
  refine lv_iadd hx hb dL_law_1379 ?_
  obtain ⟨hi, hf⟩ := chk_some hf
  refine va_sld hx hb hX hbl hbA hS (inb_in hi) dL_law_1380 ?_
  obtain ⟨z_130, hz_130, hf⟩ := bn_some hf
  refine cWVv (As := [.int (xs (y + 1).toNatClampNeg), .int (xs (y + 2).toNatClampNeg), .int (xs (y + 3).toNatClampNeg)]) (rest := []) ⟨hx, hb, hml, hown, hts⟩ (c_X7_damage l D cI cZ cJ cT am H.size V (xs (y + 1).toNatClampNeg) (xs (y + 2).toNatClampNeg) (xs (y + 3).toNatClampNeg) z_130 hz_130) (cwV 3 hts (gL_in gL_law_X7_damage) rfl rfl rfl (by decide +kernel) ⟨Nat.le_of_ble_eq_true rfl, Nat.le_of_ble_eq_true rfl⟩) (fl_sub hP 1 rfl) hK (fl_subD (hDD z_129.2 V g) 1 rfl) hS (fl_free (hDD z_129.2 V g) hS hA 1 rfl) (va_recv hK (fl_sub hP 1 rfl) (ci := 7) (q0 := 0) rfl rfl) rfl rfl hl.1 (Nat.le_of_ble_eq_true rfl) dL_law_1381 ⟨(by show _ ≤ 601024; omega), (by show _ ≤ 7293034; omega)⟩ (fun H1 locs hP1 hk1 hS => ?_)
  have hP : va_P D cls (wW cI cZ cJ cT a am b z_129.2 z_130 g) H1 := fl_join hP (hDD z_129.2 V g) 1 rfl hk1 hP1
  clear hP1 hk1
  generalize H1 = H at hP hS ⊢
  refine lv_goto (tgt := 1660) hx hb dL_law_1384 (by decide) ?_
  refine lv_iinc (v := y + 5) (lv' := [(4, .int (y + 5)), (5, .int z_129.1), (0, .ref sb), (1, .ref (a 0 0)), (2, .ref (am 0)), (3, .ref b)]) hx hb dL_law_1660 hl (k := 5) rfl rfl (by decide) rfl (fun ls hl => ?_)
  refine lv_goto (tgt := 23) hx hb dL_law_1663 (by decide) ?_
  exact ih _ _ _ _ _ _ _ _ _ hf hP hS (lv_sub hl [2, 3, 4, 5, 0] rfl) (by omega) (by omega) (by omega) (by omega)
def law_B29 (L : Nat) (xs : Nat → Int32) (r23 : Int32 → S2 → S1 → (Nat → Int64) → Option Int32) (y : Int32) (U : S2) (V : S1) (g : Nat → Int64) : Option Int32 := bn (f_L_check U g) (fun z_131 => bn (f_X7_check V) (fun z_132 => r23 (y + 5) z_131.2.1 z_132.2 z_131.2.2))
set_option maxHeartbeats 40000000 in
set_option maxRecDepth 100000 in
theorem law_case29 {p : Program} {l : Launch} {e : Env} {s : State} {m : MethodId} {below : List Frame} {meth : Method} {c : Code} {D : va_G} {cI cZ cJ cT : ClassId} {sb L : Nat} {xs : Nat → Int32} (hst : l.stackTraces = false) (C0 : lw_At p s m meth c sb L xs) (hK : va_K D cls (tys cI cZ cJ cT) s) (hE : EX (fun q : Nat => s.heap.size ≤ q) s) (hNC : NC s) (a : Nat → Nat → Nat) (am : Nat → Nat) (b : Nat) (hDD : ∀ (U : S2) (V : S1) (g : Nat → Int64), va_D (fun q : Nat => s.heap.size ≤ q) (wW cI cZ cJ cT a am b U V g)) (r23 : Int32 → S2 → S1 → (Nat → Int64) → Option Int32) (n : Nat) (ih : ∀ (y : Int32) (U : S2) (V : S1) (g : Nat → Int64) (H : Heap) (locs : List Loc) (ls : Array Slot) (nc ns : Nat), r23 y U V g = some 1 → va_P D cls (wW cI cZ cJ cT a am b U V g) H → va_S (fun q : Nat => s.heap.size ≤ q) s.heap H locs → lv_has ls 7 [(0, .ref sb), (1, .ref (a 0 0)), (2, .ref (am 0)), (3, .ref b), (4, .int y)] → nc + 8 * n ≤ 601024 → ns + 48 * n ≤ 7293034 → nc ≤ 601024 → ns ≤ 7293034 → W p l e room_1 s m #[Value.ref sb] below meth c H locs nc ns (lw_Z below #[Value.ref sb] s) (F0 m 23 ls [])) (y : Int32) (U : S2) (V : S1) (g : Nat → Int64) (H : Heap) (locs : List Loc) (ls : Array Slot) (nc ns : Nat) (hf : law_B29 L xs r23 y U V g = some 1) (hP : va_P D cls (wW cI cZ cJ cT a am b U V g) H) (hS : va_S (fun q : Nat => s.heap.size ≤ q) s.heap H locs) (hl : lv_has ls 7 [(0, .ref sb), (1, .ref (a 0 0)), (2, .ref (am 0)), (3, .ref b), (4, .int y)]) (hc1 : nc + 8 * (n + 1) ≤ 601024) (hc2 : ns + 48 * (n + 1) ≤ 7293034) (hc3 : nc ≤ 601024) (hc4 : ns ≤ 7293034) : W p l e room_1 s m #[Value.ref sb] below meth c H locs nc ns (lw_Z below #[Value.ref sb] s) (F0 m 1387 ls []) := by
  obtain ⟨hx, hb, hr, hml, hown, hts, hX, hbl, hlocks, hgv⟩ := id C0
  have hA : ∀ q : Nat, s.heap.size ≤ q → (fun q : Nat => s.heap.size ≤ q) q := fun _ h => h
  have hbA : ¬ (fun q : Nat => s.heap.size ≤ q) sb := Nat.not_le.mpr hbl
  unfold law_B29 at hf
  refine lv_aload_n hx hb dL_law_1387 rfl (lv_at hl 1 rfl) ?_
  refine lv_aload_n hx hb dL_law_1388 rfl (lv_at hl 3 rfl) ?_
  obtain ⟨z_131, hz_131, hf⟩ := bn_some hf
  refine cLS (As := [.ref (a 0 0), .ref b]) (rest := []) ⟨hx, hb, hml, hown, hts⟩ (c_L_check l hst D cI cZ cJ cT a b H.size U g z_131 hz_131) (vx_cwSW 2 hts (gM_law (gL_in gL_law_L_check) gLK) rfl rfl rfl (by decide +kernel) ⟨Nat.le_of_ble_eq_true rfl, Nat.le_of_ble_eq_true rfl⟩) (fl_subM hP [0, 2] rfl) hK (fl_subDM (hDD U V g) [0, 2] rfl rfl) hE hNC hS (own_free (fl_subDM (hDD U V g) [0, 2] rfl rfl) hS hA) rfl rfl hl.1 (Nat.le_of_ble_eq_true rfl) dL_law_1389 ⟨(by show _ ≤ 601024; omega), (by show _ ≤ 7293034; omega)⟩ (fun H1 locs hP1 hk1 hS => ?_)
  have hP : va_P D cls (wW cI cZ cJ cT a am b z_131.2.1 V z_131.2.2) H1 := fl_joinM (cs' := [wI cI cZ cT a z_131.2.1, [(b, .inl (cJ, 1, .inr (.inl z_131.2.2)))]]) hP (hDD U V g) [0, 2] rfl rfl hk1 hP1
  clear hP1 hk1
  generalize H1 = H at hP hS ⊢
  refine lv_istore (lv' := [(5, .int z_131.1), (0, .ref sb), (1, .ref (a 0 0)), (2, .ref (am 0)), (3, .ref b), (4, .int y)]) hx hb dL_law_1392 hl (by decide) rfl (fun ls hl => ?_)
  refine lv_aload_n hx hb dL_law_1394 rfl (lv_at hl 3 rfl) ?_
  obtain ⟨z_132, hz_132, hf⟩ := bn_some hf
  refine cWVi (As := []) (rest := []) ⟨hx, hb, hml, hown, hts⟩ (c_X7_check l D cI cZ cJ cT am H.size V z_132 hz_132) (cwV 0 hts (gL_in gL_law_X7_check) rfl rfl rfl (by decide +kernel) ⟨Nat.le_of_ble_eq_true rfl, Nat.le_of_ble_eq_true rfl⟩) (fl_sub hP 1 rfl) hK (fl_subD (hDD z_131.2.1 V z_131.2.2) 1 rfl) hS (fl_free (hDD z_131.2.1 V z_131.2.2) hS hA 1 rfl) (va_recv hK (fl_sub hP 1 rfl) (ci := 7) (q0 := 0) rfl rfl) rfl rfl hl.1 (Nat.le_of_ble_eq_true rfl) dL_law_1395 ⟨(by show _ ≤ 601024; omega), (by show _ ≤ 7293034; omega)⟩ (fun H1 locs hP1 hk1 hS => ?_)
  have hP : va_P D cls (wW cI cZ cJ cT a am b z_131.2.1 z_132.2 z_131.2.2) H1 := fl_join hP (hDD z_131.2.1 V z_131.2.2) 1 rfl hk1 hP1
  clear hP1 hk1
  generalize H1 = H at hP hS ⊢
  refine lv_istore (lv' := [(6, .int z_132.1), (5, .int z_131.1), (0, .ref sb), (1, .ref (a 0 0)), (2, .ref (am 0)), (3, .ref b), (4, .int y)]) hx hb dL_law_1398 hl (by decide) rfl (fun ls hl => ?_)
  refine lv_goto (tgt := 1660) hx hb dL_law_1400 (by decide) ?_
  refine lv_iinc (v := y + 5) (lv' := [(4, .int (y + 5)), (6, .int z_132.1), (5, .int z_131.1), (0, .ref sb), (1, .ref (a 0 0)), (2, .ref (am 0)), (3, .ref b)]) hx hb dL_law_1660 hl (k := 6) rfl rfl (by decide) rfl (fun ls hl => ?_)
  refine lv_goto (tgt := 23) hx hb dL_law_1663 (by decide) ?_
  exact ih _ _ _ _ _ _ _ _ _ hf hP hS (lv_sub hl [3, 4, 5, 6, 0] rfl) (by omega) (by omega) (by omega) (by omega)
