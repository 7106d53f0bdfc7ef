def law_B20 (L : Nat) (xs : Nat → Int32) (r23 : Int32 → S2 → S1 → (Nat → Int64) → Option Int32) (y : Int32) (U : S2) (V : S1) (g : Nat → Int64) : Option Int32 := chk (inb (y + 1) L) (bn (f_L_sync U g (xs (y + 1).toNatClampNeg)) (fun z_102 => chk (inb (y + 1) L) (bn (f_X7_sync V (xs (y + 1).toNatClampNeg)) (fun z_103 => r23 (y + 5) z_102.2.1 z_103.2 z_102.2.2))))
set_option maxHeartbeats 40000000 in
set_option maxRecDepth 100000 in
theorem law_case20 {p : Program} {l : Launch} {e : Env} {s : State} {m : MethodId} {below : List Frame} {meth : Method} {c : Code} {D : va_G} {cI cZ cJ cT : ClassId} {sb L : Nat} {xs : Nat → Int32} (hst : l.stackTraces = false) (C0 : lw_At p s m meth c sb L xs) (hK : va_K D cls (tys cI cZ cJ cT) s) (hE : EX (fun q : Nat => s.heap.size ≤ q) s) (hNC : NC s) (a : Nat → Nat → Nat) (am : Nat → Nat) (b : Nat) (hDD : ∀ (U : S2) (V : S1) (g : Nat → Int64), va_D (fun q : Nat => s.heap.size ≤ q) (wW cI cZ cJ cT a am b U V g)) (r23 : Int32 → S2 → S1 → (Nat → Int64) → Option Int32) (n : Nat) (ih : ∀ (y : Int32) (U : S2) (V : S1) (g : Nat → Int64) (H : Heap) (locs : List Loc) (ls : Array Slot) (nc ns : Nat), r23 y U V g = some 1 → va_P D cls (wW cI cZ cJ cT a am b U V g) H → va_S (fun q : Nat => s.heap.size ≤ q) s.heap H locs → lv_has ls 7 [(0, .ref sb), (1, .ref (a 0 0)), (2, .ref (am 0)), (3, .ref b), (4, .int y)] → nc + 8 * n ≤ 601024 → ns + 48 * n ≤ 7293034 → nc ≤ 601024 → ns ≤ 7293034 → W p l e room_1 s m #[Value.ref sb] below meth c H locs nc ns (lw_Z below #[Value.ref sb] s) (F0 m 23 ls [])) (y : Int32) (U : S2) (V : S1) (g : Nat → Int64) (H : Heap) (locs : List Loc) (ls : Array Slot) (nc ns : Nat) (hf : law_B20 L xs r23 y U V g = some 1) (hP : va_P D cls (wW cI cZ cJ cT a am b U V g) H) (hS : va_S (fun q : Nat => s.heap.size ≤ q) s.heap H locs) (hl : lv_has ls 7 [(0, .ref sb), (1, .ref (a 0 0)), (2, .ref (am 0)), (3, .ref b), (4, .int y)]) (hc1 : nc + 8 * (n + 1) ≤ 601024) (hc2 : ns + 48 * (n + 1) ≤ 7293034) (hc3 : nc ≤ 601024) (hc4 : ns ≤ 7293034) : W p l e room_1 s m #[Value.ref sb] below meth c H locs nc ns (lw_Z below #[Value.ref sb] s) (F0 m 1064 ls []) := by
  obtain ⟨hx, hb, hr, hml, hown, hts, hX, hbl, hlocks, hgv⟩ := id C0
  have hA : ∀ q : Nat, s.heap.size ≤ q → (fun q : Nat => s.heap.size ≤ q) q := fun _ h => h
  have hbA : ¬ (fun q : Nat => s.heap.size ≤ q) sb := Nat.not_le.mpr hbl
  unfold law_B20 at hf
  refine lv_aload_n hx hb dL_law_1064 rfl (lv_at hl 1 rfl) ?_
  refine lv_aload_n hx hb dL_law_1065 rfl (lv_at hl 0 rfl) ?_
  refine lv_iload hx hb dL_law_1066 (lv_at hl 4 rfl) ?_
  refine lv_iconst (v := 1) hx hb dL_law_1068 (by decide) ?_
  refine lv_iadd hx hb dL_law_1069 ?_
  obtain ⟨hi, hf⟩ := chk_some hf
  refine va_sld hx hb hX hbl hbA hS (inb_in hi) dL_law_1070 ?_
  refine lv_aload_n hx hb dL_law_1071 rfl (lv_at hl 3 rfl) ?_
  obtain ⟨z_102, hz_102, hf⟩ := bn_some hf
  refine cLS (As := [.ref (a 0 0), .int (xs (y + 1).toNatClampNeg), .ref b]) (rest := []) ⟨hx, hb, hml, hown, hts⟩ (c_L_sync l hst D cI cZ cJ cT a b H.size U g (xs (y + 1).toNatClampNeg) z_102 hz_102) (vx_cwSW 3 hts (gM_law (gL_in gL_law_L_sync) gLK) rfl rfl rfl (by decide +kernel) ⟨Nat.le_of_ble_eq_true rfl, Nat.le_of_ble_eq_true rfl⟩) (fl_subM hP [0, 2] rfl) hK (fl_subDM (hDD U V g) [0, 2] rfl rfl) hE hNC hS (own_free (fl_subDM (hDD U V g) [0, 2] rfl rfl) hS hA) rfl rfl hl.1 (Nat.le_of_ble_eq_true rfl) dL_law_1072 ⟨(by show _ ≤ 601024; omega), (by show _ ≤ 7293034; omega)⟩ (fun H1 locs hP1 hk1 hS => ?_)
  have hP : va_P D cls (wW cI cZ cJ cT a am b z_102.2.1 V z_102.2.2) H1 := fl_joinM (cs' := [wI cI cZ cT a z_102.2.1, [(b, .inl (cJ, 1, .inr (.inl z_102.2.2)))]]) hP (hDD U V g) [0, 2] rfl rfl hk1 hP1
  clear hP1 hk1
  generalize H1 = H at hP hS ⊢
  refine lv_istore (lv' := [(5, .int z_102.1), (0, .ref sb), (1, .ref (a 0 0)), (2, .ref (am 0)), (3, .ref b), (4, .int y)]) hx hb dL_law_1075 hl (by decide) rfl (fun ls hl => ?_)
  refine lv_aload_n hx hb dL_law_1077 rfl (lv_at hl 3 rfl) ?_
  refine lv_aload_n hx hb dL_law_1078 rfl (lv_at hl 1 rfl) ?_
  refine lv_iload hx hb dL_law_1079 (lv_at hl 5 rfl) ?_
  refine lv_iconst (v := 1) hx hb dL_law_1081 (by decide) ?_
  refine lv_iadd hx hb dL_law_1082 ?_
  obtain ⟨hi, hf⟩ := chk_some hf
  refine va_sld hx hb hX hbl hbA hS (inb_in hi) dL_law_1083 ?_
  obtain ⟨z_103, hz_103, hf⟩ := bn_some hf
  refine cWVi (As := [.int (xs (y + 1).toNatClampNeg)]) (rest := []) ⟨hx, hb, hml, hown, hts⟩ (c_X7_sync l D cI cZ cJ cT am H.size V (xs (y + 1).toNatClampNeg) z_103 hz_103) (cwV 1 hts (gL_in gL_law_X7_sync) rfl rfl rfl (by decide +kernel) ⟨Nat.le_of_ble_eq_true rfl, Nat.le_of_ble_eq_true rfl⟩) (fl_sub hP 1 rfl) hK (fl_subD (hDD z_102.2.1 V z_102.2.2) 1 rfl) hS (fl_free (hDD z_102.2.1 V z_102.2.2) hS hA 1 rfl) (va_recv hK (fl_sub hP 1 rfl) (ci := 7) (q0 := 0) rfl rfl) rfl rfl hl.1 (Nat.le_of_ble_eq_true rfl) dL_law_1084 ⟨(by show _ ≤ 601024; omega), (by show _ ≤ 7293034; omega)⟩ (fun H1 locs hP1 hk1 hS => ?_)
  have hP : va_P D cls (wW cI cZ cJ cT a am b z_102.2.1 z_103.2 z_102.2.2) H1 := fl_join hP (hDD z_102.2.1 V z_102.2.2) 1 rfl hk1 hP1
  clear hP1 hk1
  generalize H1 = H at hP hS ⊢
  refine lv_istore (lv' := [(6, .int z_103.1), (5, .int z_102.1), (0, .ref sb), (1, .ref (a 0 0)), (2, .ref (am 0)), (3, .ref b), (4, .int y)]) hx hb dL_law_1087 hl (by decide) rfl (fun ls hl => ?_)
  refine lv_goto (tgt := 1667) hx hb dL_law_1089 (by decide) ?_
  refine lv_iinc (v := y + 5) (lv' := [(4, .int (y + 5)), (6, .int z_103.1), (5, .int z_102.1), (0, .ref sb), (1, .ref (a 0 0)), (2, .ref (am 0)), (3, .ref b)]) hx hb dL_law_1667 hl (k := 6) rfl rfl (by decide) rfl (fun ls hl => ?_)
  refine lv_goto (tgt := 23) hx hb dL_law_1670 (by decide) ?_
  exact ih _ _ _ _ _ _ _ _ _ hf hP hS (lv_sub hl [3, 4, 5, 6, 0] rfl) (by omega) (by omega) (by omega) (by omega)
def law_B21 (L : Nat) (xs : Nat → Int32) (r23 : Int32 → S2 → S1 → (Nat → Int64) → Option Int32) (y : Int32) (U : S2) (V : S1) (g : Nat → Int64) : Option Int32 := bn (f_X6_commit U) (fun z_104 => bn (f_X7_commit V) (fun z_105 => r23 (y + 5) z_104.2 z_105.2 g))
set_option maxHeartbeats 40000000 in
set_option maxRecDepth 100000 in
theorem law_case21 {p : Program} {l : Launch} {e : Env} {s : State} {m : MethodId} {below : List Frame} {meth : Method} {c : Code} {D : va_G} {cI cZ cJ cT : ClassId} {sb L : Nat} {xs : Nat → Int32} (hst : l.stackTraces = false) (C0 : lw_At p s m meth c sb L xs) (hK : va_K D cls (tys cI cZ cJ cT) s) (hE : EX (fun q : Nat => s.heap.size ≤ q) s) (hNC : NC s) (a : Nat → Nat → Nat) (am : Nat → Nat) (b : Nat) (hDD : ∀ (U : S2) (V : S1) (g : Nat → Int64), va_D (fun q : Nat => s.heap.size ≤ q) (wW cI cZ cJ cT a am b U V g)) (r23 : Int32 → S2 → S1 → (Nat → Int64) → Option Int32) (n : Nat) (ih : ∀ (y : Int32) (U : S2) (V : S1) (g : Nat → Int64) (H : Heap) (locs : List Loc) (ls : Array Slot) (nc ns : Nat), r23 y U V g = some 1 → va_P D cls (wW cI cZ cJ cT a am b U V g) H → va_S (fun q : Nat => s.heap.size ≤ q) s.heap H locs → lv_has ls 7 [(0, .ref sb), (1, .ref (a 0 0)), (2, .ref (am 0)), (3, .ref b), (4, .int y)] → nc + 8 * n ≤ 601024 → ns + 48 * n ≤ 7293034 → nc ≤ 601024 → ns ≤ 7293034 → W p l e room_1 s m #[Value.ref sb] below meth c H locs nc ns (lw_Z below #[Value.ref sb] s) (F0 m 23 ls [])) (y : Int32) (U : S2) (V : S1) (g : Nat → Int64) (H : Heap) (locs : List Loc) (ls : Array Slot) (nc ns : Nat) (hf : law_B21 L xs r23 y U V g = some 1) (hP : va_P D cls (wW cI cZ cJ cT a am b U V g) H) (hS : va_S (fun q : Nat => s.heap.size ≤ q) s.heap H locs) (hl : lv_has ls 7 [(0, .ref sb), (1, .ref (a 0 0)), (2, .ref (am 0)), (3, .ref b), (4, .int y)]) (hc1 : nc + 8 * (n + 1) ≤ 601024) (hc2 : ns + 48 * (n + 1) ≤ 7293034) (hc3 : nc ≤ 601024) (hc4 : ns ≤ 7293034) : W p l e room_1 s m #[Value.ref sb] below meth c H locs nc ns (lw_Z below #[Value.ref sb] s) (F0 m 1092 ls []) := by
  obtain ⟨hx, hb, hr, hml, hown, hts, hX, hbl, hlocks, hgv⟩ := id C0
  have hA : ∀ q : Nat, s.heap.size ≤ q → (fun q : Nat => s.heap.size ≤ q) q := fun _ h => h
  have hbA : ¬ (fun q : Nat => s.heap.size ≤ q) sb := Nat.not_le.mpr hbl
  unfold law_B21 at hf
  refine lv_aload_n hx hb dL_law_1092 rfl (lv_at hl 1 rfl) ?_
  obtain ⟨z_104, hz_104, hf⟩ := bn_some hf
  refine cWVi (As := []) (rest := []) ⟨hx, hb, hml, hown, hts⟩ (c_X6_commit l D cI cZ cJ cT a H.size U z_104 hz_104) (cwV 0 hts (gL_in gL_law_X6_commit) rfl rfl rfl (by decide +kernel) ⟨Nat.le_of_ble_eq_true rfl, Nat.le_of_ble_eq_true rfl⟩) (fl_sub hP 0 rfl) hK (fl_subD (hDD U V g) 0 rfl) hS (fl_free (hDD U V g) hS hA 0 rfl) (va_recv hK (fl_sub (fl_sub hP 0 rfl) 0 rfl) (ci := 6) (q0 := 0) rfl rfl) rfl rfl hl.1 (Nat.le_of_ble_eq_true rfl) dL_law_1093 ⟨(by show _ ≤ 601024; omega), (by show _ ≤ 7293034; omega)⟩ (fun H1 locs hP1 hk1 hS => ?_)
  have hP : va_P D cls (wW cI cZ cJ cT a am b z_104.2 V g) H1 := fl_join hP (hDD U V g) 0 rfl hk1 hP1
  clear hP1 hk1
  generalize H1 = H at hP hS ⊢
  refine lv_pop hx hb dL_law_1096 rfl ?_
  refine lv_aload_n hx hb dL_law_1097 rfl (lv_at hl 2 rfl) ?_
  obtain ⟨z_105, hz_105, hf⟩ := bn_some hf
  refine cWVi (As := []) (rest := []) ⟨hx, hb, hml, hown, hts⟩ (c_X7_commit l D cI cZ cJ cT am H.size V z_105 hz_105) (cwV 0 hts (gL_in gL_law_X7_commit) rfl rfl rfl (by decide +kernel) ⟨Nat.le_of_ble_eq_true rfl, Nat.le_of_ble_eq_true rfl⟩) (fl_sub hP 1 rfl) hK (fl_subD (hDD z_104.2 V g) 1 rfl) hS (fl_free (hDD z_104.2 V g) hS hA 1 rfl) (va_recv hK (fl_sub hP 1 rfl) (ci := 7) (q0 := 0) rfl rfl) rfl rfl hl.1 (Nat.le_of_ble_eq_true rfl) dL_law_1098 ⟨(by show _ ≤ 601024; omega), (by show _ ≤ 7293034; omega)⟩ (fun H1 locs hP1 hk1 hS => ?_)
  have hP : va_P D cls (wW cI cZ cJ cT a am b z_104.2 z_105.2 g) H1 := fl_join hP (hDD z_104.2 V g) 1 rfl hk1 hP1
  clear hP1 hk1
  generalize H1 = H at hP hS ⊢
  refine lv_pop hx hb dL_law_1101 rfl ?_
  refine lv_goto (tgt := 1667) hx hb dL_law_1102 (by decide) ?_
  refine lv_iinc (v := y + 5) (lv' := [(4, .int (y + 5)), (0, .ref sb), (1, .ref (a 0 0)), (2, .ref (am 0)), (3, .ref b)]) hx hb dL_law_1667 hl (k := 4) rfl rfl (by decide) rfl (fun ls hl => ?_)
  refine lv_goto (tgt := 23) hx hb dL_law_1670 (by decide) ?_
  exact ih _ _ _ _ _ _ _ _ _ hf hP hS (lv_sub hl [1, 2, 3, 4, 0] rfl) (by omega) (by omega) (by omega) (by omega)
def law_B22 (L : Nat) (xs : Nat → Int32) (r23 : Int32 → S2 → S1 → (Nat → Int64) → Option Int32) (y : Int32) (U : S2) (V : S1) (g : Nat → Int64) : Option Int32 := bn (f_X6_crash U) (fun z_106 => bn (f_X7_crash V) (fun z_107 => r23 (y + 5) z_106.2 z_107.2 g))
set_option maxHeartbeats 40000000 in
set_option maxRecDepth 100000 in
theorem law_case22 {p : Program} {l : Launch} {e : Env} {s : State} {m : MethodId} {below : List Frame} {meth : Method} {c : Code} {D : va_G} {cI cZ cJ cT : ClassId} {sb L : Nat} {xs : Nat → Int32} (hst : l.stackTraces = false) (C0 : lw_At p s m meth c sb L xs) (hK : va_K D cls (tys cI cZ cJ cT) s) (hE : EX (fun q : Nat => s.heap.size ≤ q) s) (hNC : NC s) (a : Nat → Nat → Nat) (am : Nat → Nat) (b : Nat) (hDD : ∀ (U : S2) (V : S1) (g : Nat → Int64), va_D (fun q : Nat => s.heap.size ≤ q) (wW cI cZ cJ cT a am b U V g)) (r23 : Int32 → S2 → S1 → (Nat → Int64) → Option Int32) (n : Nat) (ih : ∀ (y : Int32) (U : S2) (V : S1) (g : Nat → Int64) (H : Heap) (locs : List Loc) (ls : Array Slot) (nc ns : Nat), r23 y U V g = some 1 → va_P D cls (wW cI cZ cJ cT a am b U V g) H → va_S (fun q : Nat => s.heap.size ≤ q) s.heap H locs → lv_has ls 7 [(0, .ref sb), (1, .ref (a 0 0)), (2, .ref (am 0)), (3, .ref b), (4, .int y)] → nc + 8 * n ≤ 601024 → ns + 48 * n ≤ 7293034 → nc ≤ 601024 → ns ≤ 7293034 → W p l e room_1 s m #[Value.ref sb] below meth c H locs nc ns (lw_Z below #[Value.ref sb] s) (F0 m 23 ls [])) (y : Int32) (U : S2) (V : S1) (g : Nat → Int64) (H : Heap) (locs : List Loc) (ls : Array Slot) (nc ns : Nat) (hf : law_B22 L xs r23 y U V g = some 1) (hP : va_P D cls (wW cI cZ cJ cT a am b U V g) H) (hS : va_S (fun q : Nat => s.heap.size ≤ q) s.heap H locs) (hl : lv_has ls 7 [(0, .ref sb), (1, .ref (a 0 0)), (2, .ref (am 0)), (3, .ref b), (4, .int y)]) (hc1 : nc + 8 * (n + 1) ≤ 601024) (hc2 : ns + 48 * (n + 1) ≤ 7293034) (hc3 : nc ≤ 601024) (hc4 : ns ≤ 7293034) : W p l e room_1 s m #[Value.ref sb] below meth c H locs nc ns (lw_Z below #[Value.ref sb] s) (F0 m 1105 ls []) := by
  obtain ⟨hx, hb, hr, hml, hown, hts, hX, hbl, hlocks, hgv⟩ := id C0
  have hA : ∀ q : Nat, s.heap.size ≤ q → (fun q : Nat => s.heap.size ≤ q) q := fun _ h => h
  have hbA : ¬ (fun q : Nat => s.heap.size ≤ q) sb := Nat.not_le.mpr hbl
  unfold law_B22 at hf
  refine lv_aload_n hx hb dL_law_1105 rfl (lv_at hl 1 rfl) ?_
  obtain ⟨z_106, hz_106, hf⟩ := bn_some hf
  refine cWVi (As := []) (rest := []) ⟨hx, hb, hml, hown, hts⟩ (c_X6_crash l D cI cZ cJ cT a H.size U z_106 hz_106) (cwV 0 hts (gL_in gL_law_X6_crash) rfl rfl rfl (by decide +kernel) ⟨Nat.le_of_ble_eq_true rfl, Nat.le_of_ble_eq_true rfl⟩) (fl_sub hP 0 rfl) hK (fl_subD (hDD U V g) 0 rfl) hS (fl_free (hDD U V g) hS hA 0 rfl) (va_recv hK (fl_sub (fl_sub hP 0 rfl) 0 rfl) (ci := 6) (q0 := 0) rfl rfl) rfl rfl hl.1 (Nat.le_of_ble_eq_true rfl) dL_law_1106 ⟨(by show _ ≤ 601024; omega), (by show _ ≤ 7293034; omega)⟩ (fun H1 locs hP1 hk1 hS => ?_)
  have hP : va_P D cls (wW cI cZ cJ cT a am b z_106.2 V g) H1 := fl_join hP (hDD U V g) 0 rfl hk1 hP1
  clear hP1 hk1
  generalize H1 = H at hP hS ⊢
  refine lv_pop hx hb dL_law_1109 rfl ?_
  refine lv_aload_n hx hb dL_law_1110 rfl (lv_at hl 2 rfl) ?_
  obtain ⟨z_107, hz_107, hf⟩ := bn_some hf
  refine cWVi (As := []) (rest := []) ⟨hx, hb, hml, hown, hts⟩ (c_X7_crash l D cI cZ cJ cT am H.size V z_107 hz_107) (cwV 0 hts (gL_in gL_law_X7_crash) rfl rfl rfl (by decide +kernel) ⟨Nat.le_of_ble_eq_true rfl, Nat.le_of_ble_eq_true rfl⟩) (fl_sub hP 1 rfl) hK (fl_subD (hDD z_106.2 V g) 1 rfl) hS (fl_free (hDD z_106.2 V g) hS hA 1 rfl) (va_recv hK (fl_sub hP 1 rfl) (ci := 7) (q0 := 0) rfl rfl) rfl rfl hl.1 (Nat.le_of_ble_eq_true rfl) dL_law_1111 ⟨(by show _ ≤ 601024; omega), (by show _ ≤ 7293034; omega)⟩ (fun H1 locs hP1 hk1 hS => ?_)
  have hP : va_P D cls (wW cI cZ cJ cT a am b z_106.2 z_107.2 g) H1 := fl_join hP (hDD z_106.2 V g) 1 rfl hk1 hP1
  clear hP1 hk1
  generalize H1 = H at hP hS ⊢
  refine lv_pop hx hb dL_law_1114 rfl ?_
  refine lv_goto (tgt := 1667) hx hb dL_law_1115 (by decide) ?_
  refine lv_iinc (v := y + 5) (lv' := [(4, .int (y + 5)), (0, .ref sb), (1, .ref (a 0 0)), (2, .ref (am 0)), (3, .ref b)]) hx hb dL_law_1667 hl (k := 4) rfl rfl (by decide) rfl (fun ls hl => ?_)
  refine lv_goto (tgt := 23) hx hb dL_law_1670 (by decide) ?_
  exact ih _ _ _ _ _ _ _ _ _ hf hP hS (lv_sub hl [1, 2, 3, 4, 0] rfl) (by omega) (by omega) (by omega) (by omega)
def law_B23 (L : Nat) (xs : Nat → Int32) (r23 : Int32 → S2 → S1 → (Nat → Int64) → Option Int32) (y : Int32) (U : S2) (V : S1) (g : Nat → Int64) : Option Int32 := bn (f_L_snapshot U g) (fun z_108 => bn (f_X7_snapshot V) (fun z_109 => r23 (y + 5) z_108.2.1 z_109.2 z_108.2.2))
set_option maxHeartbeats 40000000 in
set_option maxRecDepth 100000 in
theorem law_case23 {p : Program} {l : Launch} {e : Env} {s : State} {m : MethodId} {below : List Frame} {meth : Method} {c : Code} {D : va_G} {cI cZ cJ cT : ClassId} {sb L : Nat} {xs : Nat → Int32} (hst : l.stackTraces = false) (C0 : lw_At p s m meth c sb L xs) (hK : va_K D cls (tys cI cZ cJ cT) s) (hE : EX (fun q : Nat => s.heap.size ≤ q) s) (hNC : NC s) (a : Nat → Nat → Nat) (am : Nat → Nat) (b : Nat) (hDD : ∀ (U : S2) (V : S1) (g : Nat → Int64), va_D (fun q : Nat => s.heap.size ≤ q) (wW cI cZ cJ cT a am b U V g)) (r23 : Int32 → S2 → S1 → (Nat → Int64) → Option Int32) (n : Nat) (ih : ∀ (y : Int32) (U : S2) (V : S1) (g : Nat → Int64) (H : Heap) (locs : List Loc) (ls : Array Slot) (nc ns : Nat), r23 y U V g = some 1 → va_P D cls (wW cI cZ cJ cT a am b U V g) H → va_S (fun q : Nat => s.heap.size ≤ q) s.heap H locs → lv_has ls 7 [(0, .ref sb), (1, .ref (a 0 0)), (2, .ref (am 0)), (3, .ref b), (4, .int y)] → nc + 8 * n ≤ 601024 → ns + 48 * n ≤ 7293034 → nc ≤ 601024 → ns ≤ 7293034 → W p l e room_1 s m #[Value.ref sb] below meth c H locs nc ns (lw_Z below #[Value.ref sb] s) (F0 m 23 ls [])) (y : Int32) (U : S2) (V : S1) (g : Nat → Int64) (H : Heap) (locs : List Loc) (ls : Array Slot) (nc ns : Nat) (hf : law_B23 L xs r23 y U V g = some 1) (hP : va_P D cls (wW cI cZ cJ cT a am b U V g) H) (hS : va_S (fun q : Nat => s.heap.size ≤ q) s.heap H locs) (hl : lv_has ls 7 [(0, .ref sb), (1, .ref (a 0 0)), (2, .ref (am 0)), (3, .ref b), (4, .int y)]) (hc1 : nc + 8 * (n + 1) ≤ 601024) (hc2 : ns + 48 * (n + 1) ≤ 7293034) (hc3 : nc ≤ 601024) (hc4 : ns ≤ 7293034) : W p l e room_1 s m #[Value.ref sb] below meth c H locs nc ns (lw_Z below #[Value.ref sb] s) (F0 m 1118 ls []) := by
  obtain ⟨hx, hb, hr, hml, hown, hts, hX, hbl, hlocks, hgv⟩ := id C0
  have hA : ∀ q : Nat, s.heap.size ≤ q → (fun q : Nat => s.heap.size ≤ q) q := fun _ h => h
  have hbA : ¬ (fun q : Nat => s.heap.size ≤ q) sb := Nat.not_le.mpr hbl
  unfold law_B23 at hf
  refine lv_aload_n hx hb dL_law_1118 rfl (lv_at hl 1 rfl) ?_
  refine lv_aload_n hx hb dL_law_1119 rfl (lv_at hl 3 rfl) ?_
  obtain ⟨z_108, hz_108, hf⟩ := bn_some hf
  refine cLS (As := [.ref (a 0 0), .ref b]) (rest := []) ⟨hx, hb, hml, hown, hts⟩ (c_L_snapshot l hst D cI cZ cJ cT a b H.size U g z_108 hz_108) (vx_cwSW 2 hts (gM_law (gL_in gL_law_L_snapshot) gLK) rfl rfl rfl (by decide +kernel) ⟨Nat.le_of_ble_eq_true rfl, Nat.le_of_ble_eq_true rfl⟩) (fl_subM hP [0, 2] rfl) hK (fl_subDM (hDD U V g) [0, 2] rfl rfl) hE hNC hS (own_free (fl_subDM (hDD U V g) [0, 2] rfl rfl) hS hA) rfl rfl hl.1 (Nat.le_of_ble_eq_true rfl) dL_law_1120 ⟨(by show _ ≤ 601024; omega), (by show _ ≤ 7293034; omega)⟩ (fun H1 locs hP1 hk1 hS => ?_)
  have hP : va_P D cls (wW cI cZ cJ cT a am b z_108.2.1 V z_108.2.2) H1 := fl_joinM (cs' := [wI cI cZ cT a z_108.2.1, [(b, .inl (cJ, 1, .inr (.inl z_108.2.2)))]]) hP (hDD U V g) [0, 2] rfl rfl hk1 hP1
  clear hP1 hk1
  generalize H1 = H at hP hS ⊢
  refine lv_istore (lv' := [(5, .int z_108.1), (0, .ref sb), (1, .ref (a 0 0)), (2, .ref (am 0)), (3, .ref b), (4, .int y)]) hx hb dL_law_1123 hl (by decide) rfl (fun ls hl => ?_)
  refine lv_aload_n hx hb dL_law_1125 rfl (lv_at hl 3 rfl) ?_
  obtain ⟨z_109, hz_109, hf⟩ := bn_some hf
  refine cWVi (As := []) (rest := []) ⟨hx, hb, hml, hown, hts⟩ (c_X7_snapshot l D cI cZ cJ cT am H.size V z_109 hz_109) (cwV 0 hts (gL_in gL_law_X7_snapshot) rfl rfl rfl (by decide +kernel) ⟨Nat.le_of_ble_eq_true rfl, Nat.le_of_ble_eq_true rfl⟩) (fl_sub hP 1 rfl) hK (fl_subD (hDD z_108.2.1 V z_108.2.2) 1 rfl) hS (fl_free (hDD z_108.2.1 V z_108.2.2) hS hA 1 rfl) (va_recv hK (fl_sub hP 1 rfl) (ci := 7) (q0 := 0) rfl rfl) rfl rfl hl.1 (Nat.le_of_ble_eq_true rfl) dL_law_1126 ⟨(by show _ ≤ 601024; omega), (by show _ ≤ 7293034; omega)⟩ (fun H1 locs hP1 hk1 hS => ?_)
  have hP : va_P D cls (wW cI cZ cJ cT a am b z_108.2.1 z_109.2 z_108.2.2) H1 := fl_join hP (hDD z_108.2.1 V z_108.2.2) 1 rfl hk1 hP1
  clear hP1 hk1
  generalize H1 = H at hP hS ⊢
  refine lv_istore (lv' := [(6, .int z_109.1), (5, .int z_108.1), (0, .ref sb), (1, .ref (a 0 0)), (2, .ref (am 0)), (3, .ref b), (4, .int y)]) hx hb dL_law_1129 hl (by decide) rfl (fun ls hl => ?_)
  refine lv_goto (tgt := 1667) hx hb dL_law_1131 (by decide) ?_
  refine lv_iinc (v := y + 5) (lv' := [(4, .int (y + 5)), (6, .int z_109.1), (5, .int z_108.1), (0, .ref sb), (1, .ref (a 0 0)), (2, .ref (am 0)), (3, .ref b)]) hx hb dL_law_1667 hl (k := 6) rfl rfl (by decide) rfl (fun ls hl => ?_)
  refine lv_goto (tgt := 23) hx hb dL_law_1670 (by decide) ?_
  exact ih _ _ _ _ _ _ _ _ _ hf hP hS (lv_sub hl [3, 4, 5, 6, 0] rfl) (by omega) (by omega) (by omega) (by omega)
def law_B24 (L : Nat) (xs : Nat → Int32) (r23 : Int32 → S2 → S1 → (Nat → Int64) → Option Int32) (y : Int32) (U : S2) (V : S1) (g : Nat → Int64) : Option Int32 := chk (inb (y + 1) L) (bn (f_L_drop U g (xs (y + 1).toNatClampNeg)) (fun z_110 => chk (inb (y + 1) L) (bn (f_X7_drop V (xs (y + 1).toNatClampNeg)) (fun z_111 => r23 (y + 5) z_110.2.1 z_111.2 z_110.2.2))))
set_option maxHeartbeats 40000000 in
set_option maxRecDepth 100000 in
theorem law_case24 {p : Program} {l : Launch} {e : Env} {s : State} {m : MethodId} {below : List Frame} {meth : Method} {c : Code} {D : va_G} {cI cZ cJ cT : ClassId} {sb L : Nat} {xs : Nat → Int32} (hst : l.stackTraces = false) (C0 : lw_At p s m meth c sb L xs) (hK : va_K D cls (tys cI cZ cJ cT) s) (hE : EX (fun q : Nat => s.heap.size ≤ q) s) (hNC : NC s) (a : Nat → Nat → Nat) (am : Nat → Nat) (b : Nat) (hDD : ∀ (U : S2) (V : S1) (g : Nat → Int64), va_D (fun q : Nat => s.heap.size ≤ q) (wW cI cZ cJ cT a am b U V g)) (r23 : Int32 → S2 → S1 → (Nat → Int64) → Option Int32) (n : Nat) (ih : ∀ (y : Int32) (U : S2) (V : S1) (g : Nat → Int64) (H : Heap) (locs : List Loc) (ls : Array Slot) (nc ns : Nat), r23 y U V g = some 1 → va_P D cls (wW cI cZ cJ cT a am b U V g) H → va_S (fun q : Nat => s.heap.size ≤ q) s.heap H locs → lv_has ls 7 [(0, .ref sb), (1, .ref (a 0 0)), (2, .ref (am 0)), (3, .ref b), (4, .int y)] → nc + 8 * n ≤ 601024 → ns + 48 * n ≤ 7293034 → nc ≤ 601024 → ns ≤ 7293034 → W p l e room_1 s m #[Value.ref sb] below meth c H locs nc ns (lw_Z below #[Value.ref sb] s) (F0 m 23 ls [])) (y : Int32) (U : S2) (V : S1) (g : Nat → Int64) (H : Heap) (locs : List Loc) (ls : Array Slot) (nc ns : Nat) (hf : law_B24 L xs r23 y U V g = some 1) (hP : va_P D cls (wW cI cZ cJ cT a am b U V g) H) (hS : va_S (fun q : Nat => s.heap.size ≤ q) s.heap H locs) (hl : lv_has ls 7 [(0, .ref sb), (1, .ref (a 0 0)), (2, .ref (am 0)), (3, .ref b), (4, .int y)]) (hc1 : nc + 8 * (n + 1) ≤ 601024) (hc2 : ns + 48 * (n + 1) ≤ 7293034) (hc3 : nc ≤ 601024) (hc4 : ns ≤ 7293034) : W p l e room_1 s m #[Value.ref sb] below meth c H locs nc ns (lw_Z below #[Value.ref sb] s) (F0 m 1134 ls []) := by
  obtain ⟨hx, hb, hr, hml, hown, hts, hX, hbl, hlocks, hgv⟩ := id C0
  have hA : ∀ q : Nat, s.heap.size ≤ q → (fun q : Nat => s.heap.size ≤ q) q := fun _ h => h
  have hbA : ¬ (fun q : Nat => s.heap.size ≤ q) sb := Nat.not_le.mpr hbl
  unfold law_B24 at hf
  refine lv_aload_n hx hb dL_law_1134 rfl (lv_at hl 1 rfl) ?_
  refine lv_aload_n hx hb dL_law_1135 rfl (lv_at hl 0 rfl) ?_
  refine lv_iload hx hb dL_law_1136 (lv_at hl 4 rfl) ?_
  refine lv_iconst (v := 1) hx hb dL_law_1138 (by decide) ?_
  refine lv_iadd hx hb dL_law_1139 ?_
  obtain ⟨hi, hf⟩ := chk_some hf
  refine va_sld hx hb hX hbl hbA hS (inb_in hi) dL_law_1140 ?_
  refine lv_aload_n hx hb dL_law_1141 rfl (lv_at hl 3 rfl) ?_
  obtain ⟨z_110, hz_110, hf⟩ := bn_some hf
  refine cLS (As := [.ref (a 0 0), .int (xs (y + 1).toNatClampNeg), .ref b]) (rest := []) ⟨hx, hb, hml, hown, hts⟩ (c_L_drop l hst D cI cZ cJ cT a b H.size U g (xs (y + 1).toNatClampNeg) z_110 hz_110) (vx_cwSW 3 hts (gM_law (gL_in gL_law_L_drop) gLK) rfl rfl rfl (by decide +kernel) ⟨Nat.le_of_ble_eq_true rfl, Nat.le_of_ble_eq_true rfl⟩) (fl_subM hP [0, 2] rfl) hK (fl_subDM (hDD U V g) [0, 2] rfl rfl) hE hNC hS (own_free (fl_subDM (hDD U V g) [0, 2] rfl rfl) hS hA) rfl rfl hl.1 (Nat.le_of_ble_eq_true rfl) dL_law_1142 ⟨(by show _ ≤ 601024; omega), (by show _ ≤ 7293034; omega)⟩ (fun H1 locs hP1 hk1 hS => ?_)
  have hP : va_P D cls (wW cI cZ cJ cT a am b z_110.2.1 V z_110.2.2) H1 := fl_joinM (cs' := [wI cI cZ cT a z_110.2.1, [(b, .inl (cJ, 1, .inr (.inl z_110.2.2)))]]) hP (hDD U V g) [0, 2] rfl rfl hk1 hP1
  clear hP1 hk1
  generalize H1 = H at hP hS ⊢
  refine lv_istore (lv' := [(5, .int z_110.1), (0, .ref sb), (1, .ref (a 0 0)), (2, .ref (am 0)), (3, .ref b), (4, .int y)]) hx hb dL_law_1145 hl (by decide) rfl (fun ls hl => ?_)
  refine lv_aload_n hx hb dL_law_1147 rfl (lv_at hl 3 rfl) ?_
  refine lv_aload_n hx hb dL_law_1148 rfl (lv_at hl 1 rfl) ?_
  refine lv_iload hx hb dL_law_1149 (lv_at hl 5 rfl) ?_
  refine lv_iconst (v := 1) hx hb dL_law_1151 (by decide) ?_
  refine lv_iadd hx hb dL_law_1152 ?_
  obtain ⟨hi, hf⟩ := chk_some hf
  refine va_sld hx hb hX hbl hbA hS (inb_in hi) dL_law_1153 ?_
  obtain ⟨z_111, hz_111, hf⟩ := bn_some hf
  refine cWVi (As := [.int (xs (y + 1).toNatClampNeg)]) (rest := []) ⟨hx, hb, hml, hown, hts⟩ (c_X7_drop l D cI cZ cJ cT am H.size V (xs (y + 1).toNatClampNeg) z_111 hz_111) (cwV 1 hts (gL_in gL_law_X7_drop) rfl rfl rfl (by decide +kernel) ⟨Nat.le_of_ble_eq_true rfl, Nat.le_of_ble_eq_true rfl⟩) (fl_sub hP 1 rfl) hK (fl_subD (hDD z_110.2.1 V z_110.2.2) 1 rfl) hS (fl_free (hDD z_110.2.1 V z_110.2.2) hS hA 1 rfl) (va_recv hK (fl_sub hP 1 rfl) (ci := 7) (q0 := 0) rfl rfl) rfl rfl hl.1 (Nat.le_of_ble_eq_true rfl) dL_law_1154 ⟨(by show _ ≤ 601024; omega), (by show _ ≤ 7293034; omega)⟩ (fun H1 locs hP1 hk1 hS => ?_)
  have hP : va_P D cls (wW cI cZ cJ cT a am b z_110.2.1 z_111.2 z_110.2.2) H1 := fl_join hP (hDD z_110.2.1 V z_110.2.2) 1 rfl hk1 hP1
  clear hP1 hk1
  generalize H1 = H at hP hS ⊢
  refine lv_istore (lv' := [(6, .int z_111.1), (5, .int z_110.1), (0, .ref sb), (1, .ref (a 0 0)), (2, .ref (am 0)), (3, .ref b), (4, .int y)]) hx hb dL_law_1157 hl (by decide) rfl (fun ls hl => ?_)
  refine lv_goto (tgt := 1667) hx hb dL_law_1159 (by decide) ?_
  refine lv_iinc (v := y + 5) (lv' := [(4, .int (y + 5)), (6, .int z_111.1), (5, .int z_110.1), (0, .ref sb), (1, .ref (a 0 0)), (2, .ref (am 0)), (3, .ref b)]) hx hb dL_law_1667 hl (k := 6) rfl rfl (by decide) rfl (fun ls hl => ?_)
  refine lv_goto (tgt := 23) hx hb dL_law_1670 (by decide) ?_
  exact ih _ _ _ _ _ _ _ _ _ hf hP hS (lv_sub hl [3, 4, 5, 6, 0] rfl) (by omega) (by omega) (by omega) (by omega)
def law_B25 (L : Nat) (xs : Nat → Int32) (r23 : Int32 → S2 → S1 → (Nat → Int64) → Option Int32) (y : Int32) (U : S2) (V : S1) (g : Nat → Int64) : Option Int32 := chk (inb (y + 1) L) (chk (inb (y + 2) L) (chk (inb (y + 3) L) (bn (f_L_readOld U g (xs (y + 1).toNatClampNeg) (xs (y + 2).toNatClampNeg) (xs (y + 3).toNatClampNeg)) (fun z_112 => chk (inb (y + 1) L) (chk (inb (y + 2) L) (chk (inb (y + 3) L) (bn (f_X7_readOld V (xs (y + 1).toNatClampNeg) (xs (y + 2).toNatClampNeg) (xs (y + 3).toNatClampNeg)) (fun z_113 => r23 (y + 5) z_112.2.1 z_113.2 z_112.2.2))))))))
set_option maxHeartbeats 40000000 in
set_option maxRecDepth 100000 in
theorem law_case25 {p : Program} {l : Launch} {e : Env} {s : State} {m : MethodId} {below : List Frame} {meth : Method} {c : Code} {D : va_G} {cI cZ cJ cT : ClassId} {sb L : Nat} {xs : Nat → Int32} (hst : l.stackTraces = false) (C0 : lw_At p s m meth c sb L xs) (hK : va_K D cls (tys cI cZ cJ cT) s) (hE : EX (fun q : Nat => s.heap.size ≤ q) s) (hNC : NC s) (a : Nat → Nat → Nat) (am : Nat → Nat) (b : Nat) (hDD : ∀ (U : S2) (V : S1) (g : Nat → Int64), va_D (fun q : Nat => s.heap.size ≤ q) (wW cI cZ cJ cT a am b U V g)) (r23 : Int32 → S2 → S1 → (Nat → Int64) → Option Int32) (n : Nat) (ih : ∀ (y : Int32) (U : S2) (V : S1) (g : Nat → Int64) (H : Heap) (locs : List Loc) (ls : Array Slot) (nc ns : Nat), r23 y U V g = some 1 → va_P D cls (wW cI cZ cJ cT a am b U V g) H → va_S (fun q : Nat => s.heap.size ≤ q) s.heap H locs → lv_has ls 7 [(0, .ref sb), (1, .ref (a 0 0)), (2, .ref (am 0)), (3, .ref b), (4, .int y)] → nc + 8 * n ≤ 601024 → ns + 48 * n ≤ 7293034 → nc ≤ 601024 → ns ≤ 7293034 → W p l e room_1 s m #[Value.ref sb] below meth c H locs nc ns (lw_Z below #[Value.ref sb] s) (F0 m 23 ls [])) (y : Int32) (U : S2) (V : S1) (g : Nat → Int64) (H : Heap) (locs : List Loc) (ls : Array Slot) (nc ns : Nat) (hf : law_B25 L xs r23 y U V g = some 1) (hP : va_P D cls (wW cI cZ cJ cT a am b U V g) H) (hS : va_S (fun q : Nat => s.heap.size ≤ q) s.heap H locs) (hl : lv_has ls 7 [(0, .ref sb), (1, .ref (a 0 0)), (2, .ref (am 0)), (3, .ref b), (4, .int y)]) (hc1 : nc + 8 * (n + 1) ≤ 601024) (hc2 : ns + 48 * (n + 1) ≤ 7293034) (hc3 : nc ≤ 601024) (hc4 : ns ≤ 7293034) : W p l e room_1 s m #[Value.ref sb] below meth c H locs nc ns (lw_Z below #[Value.ref sb] s) (F0 m 1162 ls []) := by
  obtain ⟨hx, hb, hr, hml, hown, hts, hX, hbl, hlocks, hgv⟩ := id C0
  have hA : ∀ q : Nat, s.heap.size ≤ q → (fun q : Nat => s.heap.size ≤ q) q := fun _ h => h
  have hbA : ¬ (fun q : Nat => s.heap.size ≤ q) sb := Nat.not_le.mpr hbl
  unfold law_B25 at hf
  refine lv_aload_n hx hb dL_law_1162 rfl (lv_at hl 1 rfl) ?_
  refine lv_aload_n hx hb dL_law_1163 rfl (lv_at hl 0 rfl) ?_
  refine lv_iload hx hb dL_law_1164 (lv_at hl 4 rfl) ?_
  refine lv_iconst (v := 1) hx hb dL_law_1166 (by decide) ?_
  refine lv_iadd hx hb dL_law_1167 ?_
  obtain ⟨hi, hf⟩ := chk_some hf
  refine va_sld hx hb hX hbl hbA hS (inb_in hi) dL_law_1168 ?_
  refine lv_aload_n hx hb dL_law_1169 rfl (lv_at hl 0 rfl) ?_
  refine lv_iload hx hb dL_law_1170 (lv_at hl 4 rfl) ?_
  refine lv_iconst (v := 2) hx hb dL_law_1172 (by decide) ?_
  refine lv_iadd hx hb dL_law_1173 ?_
  obtain ⟨hi, hf⟩ := chk_some hf
  refine va_sld hx hb hX hbl hbA hS (inb_in hi) dL_law_1174 ?_
  refine lv_aload_n hx hb dL_law_1175 rfl (lv_at hl 0 rfl) ?_
  refine lv_iload hx hb dL_law_1176 (lv_at hl 4 rfl) ?_
  refine lv_iconst (v := 3) hx hb dL_law_1178 (by decide) ?_
  refine lv_iadd hx hb dL_law_1179 ?_
  obtain ⟨hi, hf⟩ := chk_some hf
  refine va_sld hx hb hX hbl hbA hS (inb_in hi) dL_law_1180 ?_
  refine lv_aload_n hx hb dL_law_1181 rfl (lv_at hl 3 rfl) ?_
  obtain ⟨z_112, hz_112, hf⟩ := bn_some hf
  refine cLS (As := [.ref (a 0 0), .int (xs (y + 1).toNatClampNeg), .int (xs (y + 2).toNatClampNeg), .int (xs (y + 3).toNatClampNeg), .ref b]) (rest := []) ⟨hx, hb, hml, hown, hts⟩ (c_L_readOld l hst D cI cZ cJ cT a b H.size U g (xs (y + 1).toNatClampNeg) (xs (y + 2).toNatClampNeg) (xs (y + 3).toNatClampNeg) z_112 hz_112) (vx_cwSW 5 hts (gM_law (gL_in gL_law_L_readOld) gLK) rfl rfl rfl (by decide +kernel) ⟨Nat.le_of_ble_eq_true rfl, Nat.le_of_ble_eq_true rfl⟩) (fl_subM hP [0, 2] rfl) hK (fl_subDM (hDD U V g) [0, 2] rfl rfl) hE hNC hS (own_free (fl_subDM (hDD U V g) [0, 2] rfl rfl) hS hA) rfl rfl hl.1 (Nat.le_of_ble_eq_true rfl) dL_law_1182 ⟨(by show _ ≤ 601024; omega), (by show _ ≤ 7293034; omega)⟩ (fun H1 locs hP1 hk1 hS => ?_)
  have hP : va_P D cls (wW cI cZ cJ cT a am b z_112.2.1 V z_112.2.2) H1 := fl_joinM (cs' := [wI cI cZ cT a z_112.2.1, [(b, .inl (cJ, 1, .inr (.inl z_112.2.2)))]]) hP (hDD U V g) [0, 2] rfl rfl hk1 hP1
  clear hP1 hk1
  generalize H1 = H at hP hS ⊢
  refine lv_istore (lv' := [(5, .int z_112.1), (0, .ref sb), (1, .ref (a 0 0)), (2, .ref (am 0)), (3, .ref b), (4, .int y)]) hx hb dL_law_1185 hl (by decide) rfl (fun ls hl => ?_)
  refine lv_aload_n hx hb dL_law_1187 rfl (lv_at hl 3 rfl) ?_
  refine lv_aload_n hx hb dL_law_1188 rfl (lv_at hl 1 rfl) ?_
  refine lv_iload hx hb dL_law_1189 (lv_at hl 5 rfl) ?_
  refine lv_iconst (v := 1) hx hb dL_law_1191 (by decide) ?_
  refine lv_iadd hx hb dL_law_1192 ?_
  obtain ⟨hi, hf⟩ := chk_some hf
  refine va_sld hx hb hX hbl hbA hS (inb_in hi) dL_law_1193 ?_
  refine lv_aload_n hx hb dL_law_1194 rfl (lv_at hl 1 rfl) ?_
  refine lv_iload hx hb dL_law_1195 (lv_at hl 5 rfl) ?_
  refine lv_iconst (v := 2) hx hb dL_law_1197 (by decide) ?_
  refine lv_iadd hx hb dL_law_1198 ?_
  obtain ⟨hi, hf⟩ := chk_some hf
  refine va_sld hx hb hX hbl hbA hS (inb_in hi) dL_law_1199 ?_
  refine lv_aload_n hx hb dL_law_1200 rfl (lv_at hl 1 rfl) ?_
  refine lv_iload hx hb dL_law_1201 (lv_at hl 5 rfl) ?_
  refine lv_iconst (v := 3) hx hb dL_law_1203 (by decide) ?_
  refine lv_iadd hx hb dL_law_1204 ?_
  obtain ⟨hi, hf⟩ := chk_some hf
  refine va_sld hx hb hX hbl hbA hS (inb_in hi) dL_law_1205 ?_
  obtain ⟨z_113, hz_113, hf⟩ := bn_some hf
  refine cWVi (As := [.int (xs (y + 1).toNatClampNeg), .int (xs (y + 2).toNatClampNeg), .int (xs (y + 3).toNatClampNeg)]) (rest := []) ⟨hx, hb, hml, hown, hts⟩ (c_X7_readOld l D cI cZ cJ cT am H.size V (xs (y + 1).toNatClampNeg) (xs (y + 2).toNatClampNeg) (xs (y + 3).toNatClampNeg) z_113 hz_113) (cwV 3 hts (gL_in gL_law_X7_readOld) rfl rfl rfl (by decide +kernel) ⟨Nat.le_of_ble_eq_true rfl, Nat.le_of_ble_eq_true rfl⟩) (fl_sub hP 1 rfl) hK (fl_subD (hDD z_112.2.1 V z_112.2.2) 1 rfl) hS (fl_free (hDD z_112.2.1 V z_112.2.2) hS hA 1 rfl) (va_recv hK (fl_sub hP 1 rfl) (ci := 7) (q0 := 0) rfl rfl) rfl rfl hl.1 (Nat.le_of_ble_eq_true rfl) dL_law_1206 ⟨(by show _ ≤ 601024; omega), (by show _ ≤ 7293034; omega)⟩ (fun H1 locs hP1 hk1 hS => ?_)
  have hP : va_P D cls (wW cI cZ cJ cT a am b z_112.2.1 z_113.2 z_112.2.2) H1 := fl_join hP (hDD z_112.2.1 V z_112.2.2) 1 rfl hk1 hP1
  clear hP1 hk1
  generalize H1 = H at hP hS ⊢
  refine lv_istore (lv' := [(6, .int z_113.1), (5, .int z_112.1), (0, .ref sb), (1, .ref (a 0 0)), (2, .ref (am 0)), (3, .ref b), (4, .int y)]) hx hb dL_law_1209 hl (by decide) rfl (fun ls hl => ?_)
  refine lv_goto (tgt := 1667) hx hb dL_law_1211 (by decide) ?_
  refine lv_iinc (v := y + 5) (lv' := [(4, .int (y + 5)), (6, .int z_113.1), (5, .int z_112.1), (0, .ref sb), (1, .ref (a 0 0)), (2, .ref (am 0)), (3, .ref b)]) hx hb dL_law_1667 hl (k := 6) rfl rfl (by decide) rfl (fun ls hl => ?_)
  refine lv_goto (tgt := 23) hx hb dL_law_1670 (by decide) ?_
  exact ih _ _ _ _ _ _ _ _ _ hf hP hS (lv_sub hl [3, 4, 5, 6, 0] rfl) (by omega) (by omega) (by omega) (by omega)
def law_B26 (L : Nat) (xs : Nat → Int32) (r23 : Int32 → S2 → S1 → (Nat → Int64) → Option Int32) (y : Int32) (U : S2) (V : S1) (g : Nat → Int64) : Option Int32 := chk (inb (y + 1) L) (chk (inb (y + 2) L) (bn (f_L_quota U g (xs (y + 1).toNatClampNeg) (xs (y + 2).toNatClampNeg)) (fun z_114 => chk (inb (y + 1) L) (chk (inb (y + 2) L) (bn (f_X7_quota V (xs (y + 1).toNatClampNeg) (xs (y + 2).toNatClampNeg)) (fun z_115 => r23 (y + 5) z_114.2.1 z_115.2 z_114.2.2))))))
set_option maxHeartbeats 40000000 in
set_option maxRecDepth 100000 in
theorem law_case26 {p : Program} {l : Launch} {e : Env} {s : State} {m : MethodId} {below : List Frame} {meth : Method} {c : Code} {D : va_G} {cI cZ cJ cT : ClassId} {sb L : Nat} {xs : Nat → Int32} (hst : l.stackTraces = false) (C0 : lw_At p s m meth c sb L xs) (hK : va_K D cls (tys cI cZ cJ cT) s) (hE : EX (fun q : Nat => s.heap.size ≤ q) s) (hNC : NC s) (a : Nat → Nat → Nat) (am : Nat → Nat) (b : Nat) (hDD : ∀ (U : S2) (V : S1) (g : Nat → Int64), va_D (fun q : Nat => s.heap.size ≤ q) (wW cI cZ cJ cT a am b U V g)) (r23 : Int32 → S2 → S1 → (Nat → Int64) → Option Int32) (n : Nat) (ih : ∀ (y : Int32) (U : S2) (V : S1) (g : Nat → Int64) (H : Heap) (locs : List Loc) (ls : Array Slot) (nc ns : Nat), r23 y U V g = some 1 → va_P D cls (wW cI cZ cJ cT a am b U V g) H → va_S (fun q : Nat => s.heap.size ≤ q) s.heap H locs → lv_has ls 7 [(0, .ref sb), (1, .ref (a 0 0)), (2, .ref (am 0)), (3, .ref b), (4, .int y)] → nc + 8 * n ≤ 601024 → ns + 48 * n ≤ 7293034 → nc ≤ 601024 → ns ≤ 7293034 → W p l e room_1 s m #[Value.ref sb] below meth c H locs nc ns (lw_Z below #[Value.ref sb] s) (F0 m 23 ls [])) (y : Int32) (U : S2) (V : S1) (g : Nat → Int64) (H : Heap) (locs : List Loc) (ls : Array Slot) (nc ns : Nat) (hf : law_B26 L xs r23 y U V g = some 1) (hP : va_P D cls (wW cI cZ cJ cT a am b U V g) H) (hS : va_S (fun q : Nat => s.heap.size ≤ q) s.heap H locs) (hl : lv_has ls 7 [(0, .ref sb), (1, .ref (a 0 0)), (2, .ref (am 0)), (3, .ref b), (4, .int y)]) (hc1 : nc + 8 * (n + 1) ≤ 601024) (hc2 : ns + 48 * (n + 1) ≤ 7293034) (hc3 : nc ≤ 601024) (hc4 : ns ≤ 7293034) : W p l e room_1 s m #[Value.ref sb] below meth c H locs nc ns (lw_Z below #[Value.ref sb] s) (F0 m 1214 ls []) := by
  obtain ⟨hx, hb, hr, hml, hown, hts, hX, hbl, hlocks, hgv⟩ := id C0
  have hA : ∀ q : Nat, s.heap.size ≤ q → (fun q : Nat => s.heap.size ≤ q) q := fun _ h => h
  have hbA : ¬ (fun q : Nat => s.heap.size ≤ q) sb := Nat.not_le.mpr hbl
  unfold law_B26 at hf
  refine lv_aload_n hx hb dL_law_1214 rfl (lv_at hl 1 rfl) ?_
  refine lv_aload_n hx hb dL_law_1215 rfl (lv_at hl 0 rfl) ?_
  refine lv_iload hx hb dL_law_1216 (lv_at hl 4 rfl) ?_
  refine lv_iconst (v := 1) hx hb dL_law_1218 (by decide) ?_
  refine lv_iadd hx hb dL_law_1219 ?_
  obtain ⟨hi, hf⟩ := chk_some hf
  refine va_sld hx hb hX hbl hbA hS (inb_in hi) dL_law_1220 ?_
  refine lv_aload_n hx hb dL_law_1221 rfl (lv_at hl 0 rfl) ?_
  refine lv_iload hx hb dL_law_1222 (lv_at hl 4 rfl) ?_
  refine lv_iconst (v := 2) hx hb dL_law_1224 (by decide) ?_
  refine lv_iadd hx hb dL_law_1225 ?_
  obtain ⟨hi, hf⟩ := chk_some hf
  refine va_sld hx hb hX hbl hbA hS (inb_in hi) dL_law_1226 ?_
  refine lv_aload_n hx hb dL_law_1227 rfl (lv_at hl 3 rfl) ?_
  obtain ⟨z_114, hz_114, hf⟩ := bn_some hf
  refine cLS (As := [.ref (a 0 0), .int (xs (y + 1).toNatClampNeg), .int (xs (y + 2).toNatClampNeg), .ref b]) (rest := []) ⟨hx, hb, hml, hown, hts⟩ (c_L_quota l hst D cI cZ cJ cT a b H.size U g (xs (y + 1).toNatClampNeg) (xs (y + 2).toNatClampNeg) z_114 hz_114) (vx_cwSW 4 hts (gM_law (gL_in gL_law_L_quota) gLK) rfl rfl rfl (by decide +kernel) ⟨Nat.le_of_ble_eq_true rfl, Nat.le_of_ble_eq_true rfl⟩) (fl_subM hP [0, 2] rfl) hK (fl_subDM (hDD U V g) [0, 2] rfl rfl) hE hNC hS (own_free (fl_subDM (hDD U V g) [0, 2] rfl rfl) hS hA) rfl rfl hl.1 (Nat.le_of_ble_eq_true rfl) dL_law_1228 ⟨(by show _ ≤ 601024; omega), (by show _ ≤ 7293034; omega)⟩ (fun H1 locs hP1 hk1 hS => ?_)
  have hP : va_P D cls (wW cI cZ cJ cT a am b z_114.2.1 V z_114.2.2) H1 := fl_joinM (cs' := [wI cI cZ cT a z_114.2.1, [(b, .inl (cJ, 1, .inr (.inl z_114.2.2)))]]) hP (hDD U V g) [0, 2] rfl rfl hk1 hP1
  clear hP1 hk1
  generalize H1 = H at hP hS ⊢
  refine lv_istore (lv' := [(5, .int z_114.1), (0, .ref sb), (1, .ref (a 0 0)), (2, .ref (am 0)), (3, .ref b), (4, .int y)]) hx hb dL_law_1231 hl (by decide) rfl (fun ls hl => ?_)
  refine lv_aload_n hx hb dL_law_1233 rfl (lv_at hl 3 rfl) ?_
  refine lv_aload_n hx hb dL_law_1234 rfl (lv_at hl 1 rfl) ?_
  refine lv_iload hx hb dL_law_1235 (lv_at hl 5 rfl) ?_
  refine lv_iconst (v := 1) hx hb dL_law_1237 (by decide) ?_
  refine lv_iadd hx hb dL_law_1238 ?_
  obtain ⟨hi, hf⟩ := chk_some hf
  refine va_sld hx hb hX hbl hbA hS (inb_in hi) dL_law_1239 ?_
  refine lv_aload_n hx hb dL_law_1240 rfl (lv_at hl 1 rfl) ?_
  refine lv_iload hx hb dL_law_1241 (lv_at hl 5 rfl) ?_
  refine lv_iconst (v := 2) hx hb dL_law_1243 (by decide) ?_
  refine lv_iadd hx hb dL_law_1244 ?_
  obtain ⟨hi, hf⟩ := chk_some hf
  refine va_sld hx hb hX hbl hbA hS (inb_in hi) dL_law_1245 ?_
  obtain ⟨z_115, hz_115, hf⟩ := bn_some hf
  refine cWVi (As := [.int (xs (y + 1).toNatClampNeg), .int (xs (y + 2).toNatClampNeg)]) (rest := []) ⟨hx, hb, hml, hown, hts⟩ (c_X7_quota l D cI cZ cJ cT am H.size V (xs (y + 1).toNatClampNeg) (xs (y + 2).toNatClampNeg) z_115 hz_115) (cwV 2 hts (gL_in gL_law_X7_quota) rfl rfl rfl (by decide +kernel) ⟨Nat.le_of_ble_eq_true rfl, Nat.le_of_ble_eq_true rfl⟩) (fl_sub hP 1 rfl) hK (fl_subD (hDD z_114.2.1 V z_114.2.2) 1 rfl) hS (fl_free (hDD z_114.2.1 V z_114.2.2) hS hA 1 rfl) (va_recv hK (fl_sub hP 1 rfl) (ci := 7) (q0 := 0) rfl rfl) rfl rfl hl.1 (Nat.le_of_ble_eq_true rfl) dL_law_1246 ⟨(by show _ ≤ 601024; omega), (by show _ ≤ 7293034; omega)⟩ (fun H1 locs hP1 hk1 hS => ?_)
  have hP : va_P D cls (wW cI cZ cJ cT a am b z_114.2.1 z_115.2 z_114.2.2) H1 := fl_join hP (hDD z_114.2.1 V z_114.2.2) 1 rfl hk1 hP1
  clear hP1 hk1
  generalize H1 = H at hP hS ⊢
  refine lv_istore (lv' := [(6, .int z_115.1), (5, .int z_114.1), (0, .ref sb), (1, .ref (a 0 0)), (2, .ref (am 0)), (3, .ref b), (4, .int y)]) hx hb dL_law_1249 hl (by decide) rfl (fun ls hl => ?_)
  refine lv_goto (tgt := 1667) hx hb dL_law_1251 (by decide) ?_
  refine lv_iinc (v := y + 5) (lv' := [(4, .int (y + 5)), (6, .int z_115.1), (5, .int z_114.1), (0, .ref sb), (1, .ref (a 0 0)), (2, .ref (am 0)), (3, .ref b)]) hx hb dL_law_1667 hl (k := 6) rfl rfl (by decide) rfl (fun ls hl => ?_)
  refine lv_goto (tgt := 23) hx hb dL_law_1670 (by decide) ?_
  exact ih _ _ _ _ _ _ _ _ _ hf hP hS (lv_sub hl [3, 4, 5, 6, 0] rfl) (by omega) (by omega) (by omega) (by omega)
def law_B27 (L : Nat) (xs : Nat → Int32) (r23 : Int32 → S2 → S1 → (Nat → Int64) → Option Int32) (y : Int32) (U : S2) (V : S1) (g : Nat → Int64) : Option Int32 := chk (inb (y + 1) L) (chk (inb (y + 2) L) (if (xs (y + 2).toNatClampNeg) = 0 then bn (f_L_bad U g (xs (y + 1).toNatClampNeg) 0) (fun z_117 => chk (inb (y + 1) L) (chk (inb (y + 2) L) (if (xs (y + 2).toNatClampNeg) = 0 then bn (f_X7_bad V (xs (y + 1).toNatClampNeg) 0) (fun z_119 => bn (f_X7_thrown z_119.2) (fun z_120 => if z_120 = z_117.1 then if z_117.1 = 0 then if z_119.1 = 0 then if (lg_cmp (z_117.2.2 (0 : Int32).toNatClampNeg) 0) = 0 then r23 (y + 5) z_117.2.1 z_119.2 z_117.2.2 else some 0 else if (lg_cmp (z_117.2.2 (0 : Int32).toNatClampNeg) 1) = 0 then r23 (y + 5) z_117.2.1 z_119.2 z_117.2.2 else some 0 else r23 (y + 5) z_117.2.1 z_119.2 z_117.2.2 else some 0)) else bn (f_X7_bad V (xs (y + 1).toNatClampNeg) 1) (fun z_126 => bn (f_X7_thrown z_126.2) (fun z_127 => if z_127 = z_117.1 then if z_117.1 = 0 then if z_126.1 = 0 then if (lg_cmp (z_117.2.2 (0 : Int32).toNatClampNeg) 0) = 0 then r23 (y + 5) z_117.2.1 z_126.2 z_117.2.2 else some 0 else if (lg_cmp (z_117.2.2 (0 : Int32).toNatClampNeg) 1) = 0 then r23 (y + 5) z_117.2.1 z_126.2 z_117.2.2 else some 0 else r23 (y + 5) z_117.2.1 z_126.2 z_117.2.2 else some 0))))) else bn (f_L_bad U g (xs (y + 1).toNatClampNeg) 1) (fun z_133 => chk (inb (y + 1) L) (chk (inb (y + 2) L) (if (xs (y + 2).toNatClampNeg) = 0 then bn (f_X7_bad V (xs (y + 1).toNatClampNeg) 0) (fun z_135 => bn (f_X7_thrown z_135.2) (fun z_136 => if z_136 = z_133.1 then if z_133.1 = 0 then if z_135.1 = 0 then if (lg_cmp (z_133.2.2 (0 : Int32).toNatClampNeg) 0) = 0 then r23 (y + 5) z_133.2.1 z_135.2 z_133.2.2 else some 0 else if (lg_cmp (z_133.2.2 (0 : Int32).toNatClampNeg) 1) = 0 then r23 (y + 5) z_133.2.1 z_135.2 z_133.2.2 else some 0 else r23 (y + 5) z_133.2.1 z_135.2 z_133.2.2 else some 0)) else bn (f_X7_bad V (xs (y + 1).toNatClampNeg) 1) (fun z_142 => bn (f_X7_thrown z_142.2) (fun z_143 => if z_143 = z_133.1 then if z_133.1 = 0 then if z_142.1 = 0 then if (lg_cmp (z_133.2.2 (0 : Int32).toNatClampNeg) 0) = 0 then r23 (y + 5) z_133.2.1 z_142.2 z_133.2.2 else some 0 else if (lg_cmp (z_133.2.2 (0 : Int32).toNatClampNeg) 1) = 0 then r23 (y + 5) z_133.2.1 z_142.2 z_133.2.2 else some 0 else r23 (y + 5) z_133.2.1 z_142.2 z_133.2.2 else some 0)))))))
set_option maxHeartbeats 40000000 in
set_option maxRecDepth 100000 in
theorem law_case27 {p : Program} {l : Launch} {e : Env} {s : State} {m : MethodId} {below : List Frame} {meth : Method} {c : Code} {D : va_G} {cI cZ cJ cT : ClassId} {sb L : Nat} {xs : Nat → Int32} (hst : l.stackTraces = false) (C0 : lw_At p s m meth c sb L xs) (hK : va_K D cls (tys cI cZ cJ cT) s) (hE : EX (fun q : Nat => s.heap.size ≤ q) s) (hNC : NC s) (a : Nat → Nat → Nat) (am : Nat → Nat) (b : Nat) (hDD : ∀ (U : S2) (V : S1) (g : Nat → Int64), va_D (fun q : Nat => s.heap.size ≤ q) (wW cI cZ cJ cT a am b U V g)) (r23 : Int32 → S2 → S1 → (Nat → Int64) → Option Int32) (n : Nat) (ih : ∀ (y : Int32) (U : S2) (V : S1) (g : Nat → Int64) (H : Heap) (locs : List Loc) (ls : Array Slot) (nc ns : Nat), r23 y U V g = some 1 → va_P D cls (wW cI cZ cJ cT a am b U V g) H → va_S (fun q : Nat => s.heap.size ≤ q) s.heap H locs → lv_has ls 7 [(0, .ref sb), (1, .ref (a 0 0)), (2, .ref (am 0)), (3, .ref b), (4, .int y)] → nc + 8 * n ≤ 601024 → ns + 48 * n ≤ 7293034 → nc ≤ 601024 → ns ≤ 7293034 → W p l e room_1 s m #[Value.ref sb] below meth c H locs nc ns (lw_Z below #[Value.ref sb] s) (F0 m 23 ls [])) (y : Int32) (U : S2) (V : S1) (g : Nat → Int64) (H : Heap) (locs : List Loc) (ls : Array Slot) (nc ns : Nat) (hf : law_B27 L xs r23 y U V g = some 1) (hP : va_P D cls (wW cI cZ cJ cT a am b U V g) H) (hS : va_S (fun q : Nat => s.heap.size ≤ q) s.heap H locs) (hl : lv_has ls 7 [(0, .ref sb), (1, .ref (a 0 0)), (2, .ref (am 0)), (3, .ref b), (4, .int y)]) (hc1 : nc + 8 * (n + 1) ≤ 601024) (hc2 : ns + 48 * (n + 1) ≤ 7293034) (hc3 : nc ≤ 601024) (hc4 : ns ≤ 7293034) : W p l e room_1 s m #[Value.ref sb] below meth c H locs nc ns (lw_Z below #[Value.ref sb] s) (F0 m 1254 ls []) := by
  obtain ⟨hx, hb, hr, hml, hown, hts, hX, hbl, hlocks, hgv⟩ := id C0
  have hA : ∀ q : Nat, s.heap.size ≤ q → (fun q : Nat => s.heap.size ≤ q) q := fun _ h => h
  have hbA : ¬ (fun q : Nat => s.heap.size ≤ q) sb := Nat.not_le.mpr hbl
  unfold law_B27 at hf
  refine lv_aload_n hx hb dL_law_1254 rfl (lv_at hl 1 rfl) ?_
  refine lv_aload_n hx hb dL_law_1255 rfl (lv_at hl 0 rfl) ?_
  refine lv_iload hx hb dL_law_1256 (lv_at hl 4 rfl) ?_
  refine lv_iconst (v := 1) hx hb dL_law_1258 (by decide) ?_
  refine lv_iadd hx hb dL_law_1259 ?_
  obtain ⟨hi, hf⟩ := chk_some hf
  refine va_sld hx hb hX hbl hbA hS (inb_in hi) dL_law_1260 ?_
  refine lv_aload_n hx hb dL_law_1261 rfl (lv_at hl 0 rfl) ?_
  refine lv_iload hx hb dL_law_1262 (lv_at hl 4 rfl) ?_
  refine lv_iconst (v := 2) hx hb dL_law_1264 (by decide) ?_
  refine lv_iadd hx hb dL_law_1265 ?_
  obtain ⟨hi, hf⟩ := chk_some hf
  refine va_sld hx hb hX hbl hbA hS (inb_in hi) dL_law_1266 ?_
  refine lv_if_eq (tgt := 1274) hx hb dL_law_1267 (by decide) (fun c_116 => ?_) (fun c_116 => ?_)
  · have hf := ite_t hf c_116
    refine lv_iconst (v := 0) hx hb dL_law_1274 (by decide) ?_
    refine lv_aload_n hx hb dL_law_1275 rfl (lv_at hl 3 rfl) ?_
    obtain ⟨z_117, hz_117, hf⟩ := bn_some hf
    refine cLS (As := [.ref (a 0 0), .int (xs (y + 1).toNatClampNeg), .int 0, .ref b]) (rest := []) ⟨hx, hb, hml, hown, hts⟩ (c_L_bad l hst D cI cZ cJ cT a b H.size U g (xs (y + 1).toNatClampNeg) 0 z_117 hz_117) (vx_cwSW 4 hts (gM_law (gL_in gL_law_L_bad) gLK) rfl rfl rfl (by decide +kernel) ⟨Nat.le_of_ble_eq_true rfl, Nat.le_of_ble_eq_true rfl⟩) (fl_subM hP [0, 2] rfl) hK (fl_subDM (hDD U V g) [0, 2] rfl rfl) hE hNC hS (own_free (fl_subDM (hDD U V g) [0, 2] rfl rfl) hS hA) rfl rfl hl.1 (Nat.le_of_ble_eq_true rfl) dL_law_1276 ⟨(by show _ ≤ 601024; omega), (by show _ ≤ 7293034; omega)⟩ (fun H1 locs hP1 hk1 hS => ?_)
    have hP : va_P D cls (wW cI cZ cJ cT a am b z_117.2.1 V z_117.2.2) H1 := fl_joinM (cs' := [wI cI cZ cT a z_117.2.1, [(b, .inl (cJ, 1, .inr (.inl z_117.2.2)))]]) hP (hDD U V g) [0, 2] rfl rfl hk1 hP1
    clear hP1 hk1
    generalize H1 = H at hP hS ⊢
    refine lv_istore (lv' := [(5, .int z_117.1), (0, .ref sb), (1, .ref (a 0 0)), (2, .ref (am 0)), (3, .ref b), (4, .int y)]) hx hb dL_law_1279 hl (by decide) rfl (fun ls hl => ?_)
    refine lv_aload_n hx hb dL_law_1281 rfl (lv_at hl 3 rfl) ?_
    refine lv_aload_n hx hb dL_law_1282 rfl (lv_at hl 1 rfl) ?_
    refine lv_iload hx hb dL_law_1283 (lv_at hl 5 rfl) ?_
    refine lv_iconst (v := 1) hx hb dL_law_1285 (by decide) ?_
    refine lv_iadd hx hb dL_law_1286 ?_
    obtain ⟨hi, hf⟩ := chk_some hf
    refine va_sld hx hb hX hbl hbA hS (inb_in hi) dL_law_1287 ?_
    refine lv_aload_n hx hb dL_law_1288 rfl (lv_at hl 1 rfl) ?_
    refine lv_iload hx hb dL_law_1289 (lv_at hl 5 rfl) ?_
    refine lv_iconst (v := 2) hx hb dL_law_1291 (by decide) ?_
    refine lv_iadd hx hb dL_law_1292 ?_
    obtain ⟨hi, hf⟩ := chk_some hf
    refine va_sld hx hb hX hbl hbA hS (inb_in hi) dL_law_1293 ?_
    refine lv_if_eq (tgt := 1301) hx hb dL_law_1294 (by decide) (fun c_118 => ?_) (fun c_118 => ?_)
    · have hf := ite_t hf c_118
      refine lv_iconst (v := 0) hx hb dL_law_1301 (by decide) ?_
      obtain ⟨z_119, hz_119, hf⟩ := bn_some hf
      refine cWVi (As := [.int (xs (y + 1).toNatClampNeg), .int 0]) (rest := []) ⟨hx, hb, hml, hown, hts⟩ (c_X7_bad l D cI cZ cJ cT am H.size V (xs (y + 1).toNatClampNeg) 0 z_119 hz_119) (cwV 2 hts (gL_in gL_law_X7_bad) rfl rfl rfl (by decide +kernel) ⟨Nat.le_of_ble_eq_true rfl, Nat.le_of_ble_eq_true rfl⟩) (fl_sub hP 1 rfl) hK (fl_subD (hDD z_117.2.1 V z_117.2.2) 1 rfl) hS (fl_free (hDD z_117.2.1 V z_117.2.2) hS hA 1 rfl) (va_recv hK (fl_sub hP 1 rfl) (ci := 7) (q0 := 0) rfl rfl) rfl rfl hl.1 (Nat.le_of_ble_eq_true rfl) dL_law_1302 ⟨(by show _ ≤ 601024; omega), (by show _ ≤ 7293034; omega)⟩ (fun H1 locs hP1 hk1 hS => ?_)
      have hP : va_P D cls (wW cI cZ cJ cT a am b z_117.2.1 z_119.2 z_117.2.2) H1 := fl_join hP (hDD z_117.2.1 V z_117.2.2) 1 rfl hk1 hP1
      clear hP1 hk1
      generalize H1 = H at hP hS ⊢
      refine lv_istore (lv' := [(6, .int z_119.1), (5, .int z_117.1), (0, .ref sb), (1, .ref (a 0 0)), (2, .ref (am 0)), (3, .ref b), (4, .int y)]) hx hb dL_law_1305 hl (by decide) rfl (fun ls hl => ?_)
      refine lv_aload_n hx hb dL_law_1307 rfl (lv_at hl 4 rfl) ?_
      obtain ⟨z_120, hz_120, hf⟩ := bn_some hf
      refine cRV (As := []) (rest := []) ⟨hx, hb, hml, hown, hts⟩ (c_X7_thrown l D cI cZ cJ cT am z_119.2 z_120 hz_120) (cwV 0 hts (gL_in gL_law_X7_thrown) rfl rfl rfl (by decide +kernel) ⟨Nat.le_of_ble_eq_true rfl, Nat.le_of_ble_eq_true rfl⟩) (fl_sub hP 1 rfl) hK (va_recv hK (fl_sub hP 1 rfl) (ci := 7) (q0 := 0) rfl rfl) rfl rfl hl.1 (Nat.le_of_ble_eq_true rfl) dL_law_1308 ⟨(by show _ ≤ 601024; omega), (by show _ ≤ 7293034; omega)⟩ ?_
      refine lv_iload hx hb dL_law_1311 (lv_at hl 1 rfl) ?_
      refine lv_icmp_eq (tgt := 1318) hx hb dL_law_1313 (by decide) (fun c_121 => ?_) (fun c_121 => ?_)
      · have hf := ite_t hf c_121
        refine lv_iload hx hb dL_law_1318 (lv_at hl 1 rfl) ?_
        refine lv_if_ne (tgt := 1342) hx hb dL_law_1320 (by decide) (fun c_122 => ?_) (fun c_122 => ?_)
        · have hf := ite_f hf c_122
          refine lv_goto (tgt := 1667) hx hb dL_law_1342 (by decide) ?_
          refine lv_iinc (v := y + 5) (lv' := [(4, .int (y + 5)), (6, .int z_119.1), (5, .int z_117.1), (0, .ref sb), (1, .ref (a 0 0)), (2, .ref (am 0)), (3, .ref b)]) hx hb dL_law_1667 hl (k := 6) rfl rfl (by decide) rfl (fun ls hl => ?_)
          refine lv_goto (tgt := 23) hx hb dL_law_1670 (by decide) ?_
          exact ih _ _ _ _ _ _ _ _ _ hf hP hS (lv_sub hl [3, 4, 5, 6, 0] rfl) (by omega) (by omega) (by omega) (by omega)
        · have hf := ite_t hf c_122
          refine lv_aload_n hx hb dL_law_1323 rfl (lv_at hl 5 rfl) ?_
          refine lv_iconst (v := 0) hx hb dL_law_1324 (by decide) ?_
          refine va_lald hx hb hK hP 100 2 rfl rfl (inb_in (i := 0) (n := 1) (by decide)) dL_law_1325 ?_
          refine lv_iload hx hb dL_law_1326 (lv_at hl 0 rfl) ?_
          refine lv_if_eq (tgt := 1335) hx hb dL_law_1328 (by decide) (fun c_123 => ?_) (fun c_123 => ?_)
          · have hf := ite_t hf c_123
            refine lv_lconst (v := 0) hx hb dL_law_1335 (by decide) ?_
            refine W.lcmp hx hb dL_law_1336 ?_
            refine lv_if_eq (tgt := 1342) hx hb dL_law_1337 (by decide) (fun c_124 => ?_) (fun c_124 => ?_)
            · have hf := ite_t hf c_124
              refine lv_goto (tgt := 1667) hx hb dL_law_1342 (by decide) ?_
              refine lv_iinc (v := y + 5) (lv' := [(4, .int (y + 5)), (6, .int z_119.1), (5, .int z_117.1), (0, .ref sb), (1, .ref (a 0 0)), (2, .ref (am 0)), (3, .ref b)]) hx hb dL_law_1667 hl (k := 6) rfl rfl (by decide) rfl (fun ls hl => ?_)
              refine lv_goto (tgt := 23) hx hb dL_law_1670 (by decide) ?_
              exact ih _ _ _ _ _ _ _ _ _ hf hP hS (lv_sub hl [3, 4, 5, 6, 0] rfl) (by omega) (by omega) (by omega) (by omega)
            · have hf := ite_f hf c_124
              refine lv_iconst (v := 0) hx hb dL_law_1340 (by decide) ?_
              exact absurd (Option.some.inj hf) (by decide)
          · have hf := ite_f hf c_123
            refine lv_lconst (v := 1) hx hb dL_law_1331 (by decide) ?_
            refine lv_goto (tgt := 1336) hx hb dL_law_1332 (by decide) ?_
            refine W.lcmp hx hb dL_law_1336 ?_
            refine lv_if_eq (tgt := 1342) hx hb dL_law_1337 (by decide) (fun c_125 => ?_) (fun c_125 => ?_)
            · have hf := ite_t hf c_125
              refine lv_goto (tgt := 1667) hx hb dL_law_1342 (by decide) ?_
              refine lv_iinc (v := y + 5) (lv' := [(4, .int (y + 5)), (6, .int z_119.1), (5, .int z_117.1), (0, .ref sb), (1, .ref (a 0 0)), (2, .ref (am 0)), (3, .ref b)]) hx hb dL_law_1667 hl (k := 6) rfl rfl (by decide) rfl (fun ls hl => ?_)
              refine lv_goto (tgt := 23) hx hb dL_law_1670 (by decide) ?_
              exact ih _ _ _ _ _ _ _ _ _ hf hP hS (lv_sub hl [3, 4, 5, 6, 0] rfl) (by omega) (by omega) (by omega) (by omega)
            · have hf := ite_f hf c_125
              refine lv_iconst (v := 0) hx hb dL_law_1340 (by decide) ?_
              exact absurd (Option.some.inj hf) (by decide)
      · have hf := ite_f hf c_121
        refine lv_iconst (v := 0) hx hb dL_law_1316 (by decide) ?_
        exact absurd (Option.some.inj hf) (by decide)
    · have hf := ite_f hf c_118
      refine lv_iconst (v := 1) hx hb dL_law_1297 (by decide) ?_
      refine lv_goto (tgt := 1302) hx hb dL_law_1298 (by decide) ?_
      obtain ⟨z_126, hz_126, hf⟩ := bn_some hf
      refine cWVi (As := [.int (xs (y + 1).toNatClampNeg), .int 1]) (rest := []) ⟨hx, hb, hml, hown, hts⟩ (c_X7_bad l D cI cZ cJ cT am H.size V (xs (y + 1).toNatClampNeg) 1 z_126 hz_126) (cwV 2 hts (gL_in gL_law_X7_bad) rfl rfl rfl (by decide +kernel) ⟨Nat.le_of_ble_eq_true rfl, Nat.le_of_ble_eq_true rfl⟩) (fl_sub hP 1 rfl) hK (fl_subD (hDD z_117.2.1 V z_117.2.2) 1 rfl) hS (fl_free (hDD z_117.2.1 V z_117.2.2) hS hA 1 rfl) (va_recv hK (fl_sub hP 1 rfl) (ci := 7) (q0 := 0) rfl rfl) rfl rfl hl.1 (Nat.le_of_ble_eq_true rfl) dL_law_1302 ⟨(by show _ ≤ 601024; omega), (by show _ ≤ 7293034; omega)⟩ (fun H1 locs hP1 hk1 hS => ?_)
      have hP : va_P D cls (wW cI cZ cJ cT a am b z_117.2.1 z_126.2 z_117.2.2) H1 := fl_join hP (hDD z_117.2.1 V z_117.2.2) 1 rfl hk1 hP1
      clear hP1 hk1
      generalize H1 = H at hP hS ⊢
      refine lv_istore (lv' := [(6, .int z_126.1), (5, .int z_117.1), (0, .ref sb), (1, .ref (a 0 0)), (2, .ref (am 0)), (3, .ref b), (4, .int y)]) hx hb dL_law_1305 hl (by decide) rfl (fun ls hl => ?_)
      refine lv_aload_n hx hb dL_law_1307 rfl (lv_at hl 4 rfl) ?_
      obtain ⟨z_127, hz_127, hf⟩ := bn_some hf
      refine cRV (As := []) (rest := []) ⟨hx, hb, hml, hown, hts⟩ (c_X7_thrown l D cI cZ cJ cT am z_126.2 z_127 hz_127) (cwV 0 hts (gL_in gL_law_X7_thrown) rfl rfl rfl (by decide +kernel) ⟨Nat.le_of_ble_eq_true rfl, Nat.le_of_ble_eq_true rfl⟩) (fl_sub hP 1 rfl) hK (va_recv hK (fl_sub hP 1 rfl) (ci := 7) (q0 := 0) rfl rfl) rfl rfl hl.1 (Nat.le_of_ble_eq_true rfl) dL_law_1308 ⟨(by show _ ≤ 601024; omega), (by show _ ≤ 7293034; omega)⟩ ?_
      refine lv_iload hx hb dL_law_1311 (lv_at hl 1 rfl) ?_
      refine lv_icmp_eq (tgt := 1318) hx hb dL_law_1313 (by decide) (fun c_128 => ?_) (fun c_128 => ?_)
      · have hf := ite_t hf c_128
        refine lv_iload hx hb dL_law_1318 (lv_at hl 1 rfl) ?_
        refine lv_if_ne (tgt := 1342) hx hb dL_law_1320 (by decide) (fun c_129 => ?_) (fun c_129 => ?_)
        · have hf := ite_f hf c_129
          refine lv_goto (tgt := 1667) hx hb dL_law_1342 (by decide) ?_
          refine lv_iinc (v := y + 5) (lv' := [(4, .int (y + 5)), (6, .int z_126.1), (5, .int z_117.1), (0, .ref sb), (1, .ref (a 0 0)), (2, .ref (am 0)), (3, .ref b)]) hx hb dL_law_1667 hl (k := 6) rfl rfl (by decide) rfl (fun ls hl => ?_)
          refine lv_goto (tgt := 23) hx hb dL_law_1670 (by decide) ?_
          exact ih _ _ _ _ _ _ _ _ _ hf hP hS (lv_sub hl [3, 4, 5, 6, 0] rfl) (by omega) (by omega) (by omega) (by omega)
        · have hf := ite_t hf c_129
          refine lv_aload_n hx hb dL_law_1323 rfl (lv_at hl 5 rfl) ?_
          refine lv_iconst (v := 0) hx hb dL_law_1324 (by decide) ?_
          refine va_lald hx hb hK hP 100 2 rfl rfl (inb_in (i := 0) (n := 1) (by decide)) dL_law_1325 ?_
          refine lv_iload hx hb dL_law_1326 (lv_at hl 0 rfl) ?_
          refine lv_if_eq (tgt := 1335) hx hb dL_law_1328 (by decide) (fun c_130 => ?_) (fun c_130 => ?_)
          · have hf := ite_t hf c_130
            refine lv_lconst (v := 0) hx hb dL_law_1335 (by decide) ?_
            refine W.lcmp hx hb dL_law_1336 ?_
            refine lv_if_eq (tgt := 1342) hx hb dL_law_1337 (by decide) (fun c_131 => ?_) (fun c_131 => ?_)
            · have hf := ite_t hf c_131
              refine lv_goto (tgt := 1667) hx hb dL_law_1342 (by decide) ?_
              refine lv_iinc (v := y + 5) (lv' := [(4, .int (y + 5)), (6, .int z_126.1), (5, .int z_117.1), (0, .ref sb), (1, .ref (a 0 0)), (2, .ref (am 0)), (3, .ref b)]) hx hb dL_law_1667 hl (k := 6) rfl rfl (by decide) rfl (fun ls hl => ?_)
              refine lv_goto (tgt := 23) hx hb dL_law_1670 (by decide) ?_
              exact ih _ _ _ _ _ _ _ _ _ hf hP hS (lv_sub hl [3, 4, 5, 6, 0] rfl) (by omega) (by omega) (by omega) (by omega)
            · have hf := ite_f hf c_131
              refine lv_iconst (v := 0) hx hb dL_law_1340 (by decide) ?_
              exact absurd (Option.some.inj hf) (by decide)
          · have hf := ite_f hf c_130
            refine lv_lconst (v := 1) hx hb dL_law_1331 (by decide) ?_
            refine lv_goto (tgt := 1336) hx hb dL_law_1332 (by decide) ?_
            refine W.lcmp hx hb dL_law_1336 ?_
            refine lv_if_eq (tgt := 1342) hx hb dL_law_1337 (by decide) (fun c_132 => ?_) (fun c_132 => ?_)
            · have hf := ite_t hf c_132
              refine lv_goto (tgt := 1667) hx hb dL_law_1342 (by decide) ?_
              refine lv_iinc (v := y + 5) (lv' := [(4, .int (y + 5)), (6, .int z_126.1), (5, .int z_117.1), (0, .ref sb), (1, .ref (a 0 0)), (2, .ref (am 0)), (3, .ref b)]) hx hb dL_law_1667 hl (k := 6) rfl rfl (by decide) rfl (fun ls hl => ?_)
              refine lv_goto (tgt := 23) hx hb dL_law_1670 (by decide) ?_
              exact ih _ _ _ _ _ _ _ _ _ hf hP hS (lv_sub hl [3, 4, 5, 6, 0] rfl) (by omega) (by omega) (by omega) (by omega)
            · have hf := ite_f hf c_132
              refine lv_iconst (v := 0) hx hb dL_law_1340 (by decide) ?_
              exact absurd (Option.some.inj hf) (by decide)
      · have hf := ite_f hf c_128
        refine lv_iconst (v := 0) hx hb dL_law_1316 (by decide) ?_
        exact absurd (Option.some.inj hf) (by decide)
  · have hf := ite_f hf c_116
    refine lv_iconst (v := 1) hx hb dL_law_1270 (by decide) ?_
    refine lv_goto (tgt := 1275) hx hb dL_law_1271 (by decide) ?_
    refine lv_aload_n hx hb dL_law_1275 rfl (lv_at hl 3 rfl) ?_
    obtain ⟨z_133, hz_133, hf⟩ := bn_some hf
    refine cLS (As := [.ref (a 0 0), .int (xs (y + 1).toNatClampNeg), .int 1, .ref b]) (rest := []) ⟨hx, hb, hml, hown, hts⟩ (c_L_bad l hst D cI cZ cJ cT a b H.size U g (xs (y + 1).toNatClampNeg) 1 z_133 hz_133) (vx_cwSW 4 hts (gM_law (gL_in gL_law_L_bad) gLK) rfl rfl rfl (by decide +kernel) ⟨Nat.le_of_ble_eq_true rfl, Nat.le_of_ble_eq_true rfl⟩) (fl_subM hP [0, 2] rfl) hK (fl_subDM (hDD U V g) [0, 2] rfl rfl) hE hNC hS (own_free (fl_subDM (hDD U V g) [0, 2] rfl rfl) hS hA) rfl rfl hl.1 (Nat.le_of_ble_eq_true rfl) dL_law_1276 ⟨(by show _ ≤ 601024; omega), (by show _ ≤ 7293034; omega)⟩ (fun H1 locs hP1 hk1 hS => ?_)
    have hP : va_P D cls (wW cI cZ cJ cT a am b z_133.2.1 V z_133.2.2) H1 := fl_joinM (cs' := [wI cI cZ cT a z_133.2.1, [(b, .inl (cJ, 1, .inr (.inl z_133.2.2)))]]) hP (hDD U V g) [0, 2] rfl rfl hk1 hP1
    clear hP1 hk1
    generalize H1 = H at hP hS ⊢
    refine lv_istore (lv' := [(5, .int z_133.1), (0, .ref sb), (1, .ref (a 0 0)), (2, .ref (am 0)), (3, .ref b), (4, .int y)]) hx hb dL_law_1279 hl (by decide) rfl (fun ls hl => ?_)
    refine lv_aload_n hx hb dL_law_1281 rfl (lv_at hl 3 rfl) ?_
    refine lv_aload_n hx hb dL_law_1282 rfl (lv_at hl 1 rfl) ?_
    refine lv_iload hx hb dL_law_1283 (lv_at hl 5 rfl) ?_
    refine lv_iconst (v := 1) hx hb dL_law_1285 (by decide) ?_
    refine lv_iadd hx hb dL_law_1286 ?_
    obtain ⟨hi, hf⟩ := chk_some hf
    refine va_sld hx hb hX hbl hbA hS (inb_in hi) dL_law_1287 ?_
    refine lv_aload_n hx hb dL_law_1288 rfl (lv_at hl 1 rfl) ?_
    refine lv_iload hx hb dL_law_1289 (lv_at hl 5 rfl) ?_
    refine lv_iconst (v := 2) hx hb dL_law_1291 (by decide) ?_
    refine lv_iadd hx hb dL_law_1292 ?_
    obtain ⟨hi, hf⟩ := chk_some hf
    refine va_sld hx hb hX hbl hbA hS (inb_in hi) dL_law_1293 ?_
    refine lv_if_eq (tgt := 1301) hx hb dL_law_1294 (by decide) (fun c_134 => ?_) (fun c_134 => ?_)
    · have hf := ite_t hf c_134
      refine lv_iconst (v := 0) hx hb dL_law_1301 (by decide) ?_
      obtain ⟨z_135, hz_135, hf⟩ := bn_some hf
      refine cWVi (As := [.int (xs (y + 1).toNatClampNeg), .int 0]) (rest := []) ⟨hx, hb, hml, hown, hts⟩ (c_X7_bad l D cI cZ cJ cT am H.size V (xs (y + 1).toNatClampNeg) 0 z_135 hz_135) (cwV 2 hts (gL_in gL_law_X7_bad) rfl rfl rfl (by decide +kernel) ⟨Nat.le_of_ble_eq_true rfl, Nat.le_of_ble_eq_true rfl⟩) (fl_sub hP 1 rfl) hK (fl_subD (hDD z_133.2.1 V z_133.2.2) 1 rfl) hS (fl_free (hDD z_133.2.1 V z_133.2.2) hS hA 1 rfl) (va_recv hK (fl_sub hP 1 rfl) (ci := 7) (q0 := 0) rfl rfl) rfl rfl hl.1 (Nat.le_of_ble_eq_true rfl) dL_law_1302 ⟨(by show _ ≤ 601024; omega), (by show _ ≤ 7293034; omega)⟩ (fun H1 locs hP1 hk1 hS => ?_)
      have hP : va_P D cls (wW cI cZ cJ cT a am b z_133.2.1 z_135.2 z_133.2.2) H1 := fl_join hP (hDD z_133.2.1 V z_133.2.2) 1 rfl hk1 hP1
      clear hP1 hk1
      generalize H1 = H at hP hS ⊢
      refine lv_istore (lv' := [(6, .int z_135.1), (5, .int z_133.1), (0, .ref sb), (1, .ref (a 0 0)), (2, .ref (am 0)), (3, .ref b), (4, .int y)]) hx hb dL_law_1305 hl (by decide) rfl (fun ls hl => ?_)
      refine lv_aload_n hx hb dL_law_1307 rfl (lv_at hl 4 rfl) ?_
      obtain ⟨z_136, hz_136, hf⟩ := bn_some hf
      refine cRV (As := []) (rest := []) ⟨hx, hb, hml, hown, hts⟩ (c_X7_thrown l D cI cZ cJ cT am z_135.2 z_136 hz_136) (cwV 0 hts (gL_in gL_law_X7_thrown) rfl rfl rfl (by decide +kernel) ⟨Nat.le_of_ble_eq_true rfl, Nat.le_of_ble_eq_true rfl⟩) (fl_sub hP 1 rfl) hK (va_recv hK (fl_sub hP 1 rfl) (ci := 7) (q0 := 0) rfl rfl) rfl rfl hl.1 (Nat.le_of_ble_eq_true rfl) dL_law_1308 ⟨(by show _ ≤ 601024; omega), (by show _ ≤ 7293034; omega)⟩ ?_
      refine lv_iload hx hb dL_law_1311 (lv_at hl 1 rfl) ?_
      refine lv_icmp_eq (tgt := 1318) hx hb dL_law_1313 (by decide) (fun c_137 => ?_) (fun c_137 => ?_)
      · have hf := ite_t hf c_137
        refine lv_iload hx hb dL_law_1318 (lv_at hl 1 rfl) ?_
        refine lv_if_ne (tgt := 1342) hx hb dL_law_1320 (by decide) (fun c_138 => ?_) (fun c_138 => ?_)
        · have hf := ite_f hf c_138
          refine lv_goto (tgt := 1667) hx hb dL_law_1342 (by decide) ?_
          refine lv_iinc (v := y + 5) (lv' := [(4, .int (y + 5)), (6, .int z_135.1), (5, .int z_133.1), (0, .ref sb), (1, .ref (a 0 0)), (2, .ref (am 0)), (3, .ref b)]) hx hb dL_law_1667 hl (k := 6) rfl rfl (by decide) rfl (fun ls hl => ?_)
          refine lv_goto (tgt := 23) hx hb dL_law_1670 (by decide) ?_
          exact ih _ _ _ _ _ _ _ _ _ hf hP hS (lv_sub hl [3, 4, 5, 6, 0] rfl) (by omega) (by omega) (by omega) (by omega)
        · have hf := ite_t hf c_138
          refine lv_aload_n hx hb dL_law_1323 rfl (lv_at hl 5 rfl) ?_
          refine lv_iconst (v := 0) hx hb dL_law_1324 (by decide) ?_
          refine va_lald hx hb hK hP 100 2 rfl rfl (inb_in (i := 0) (n := 1) (by decide)) dL_law_1325 ?_
          refine lv_iload hx hb dL_law_1326 (lv_at hl 0 rfl) ?_
          refine lv_if_eq (tgt := 1335) hx hb dL_law_1328 (by decide) (fun c_139 => ?_) (fun c_139 => ?_)
          · have hf := ite_t hf c_139
            refine lv_lconst (v := 0) hx hb dL_law_1335 (by decide) ?_
            refine W.lcmp hx hb dL_law_1336 ?_
            refine lv_if_eq (tgt := 1342) hx hb dL_law_1337 (by decide) (fun c_140 => ?_) (fun c_140 => ?_)
            · have hf := ite_t hf c_140
              refine lv_goto (tgt := 1667) hx hb dL_law_1342 (by decide) ?_
              refine lv_iinc (v := y + 5) (lv' := [(4, .int (y + 5)), (6, .int z_135.1), (5, .int z_133.1), (0, .ref sb), (1, .ref (a 0 0)), (2, .ref (am 0)), (3, .ref b)]) hx hb dL_law_1667 hl (k := 6) rfl rfl (by decide) rfl (fun ls hl => ?_)
              refine lv_goto (tgt := 23) hx hb dL_law_1670 (by decide) ?_
              exact ih _ _ _ _ _ _ _ _ _ hf hP hS (lv_sub hl [3, 4, 5, 6, 0] rfl) (by omega) (by omega) (by omega) (by omega)
            · have hf := ite_f hf c_140
              refine lv_iconst (v := 0) hx hb dL_law_1340 (by decide) ?_
              exact absurd (Option.some.inj hf) (by decide)
          · have hf := ite_f hf c_139
            refine lv_lconst (v := 1) hx hb dL_law_1331 (by decide) ?_
            refine lv_goto (tgt := 1336) hx hb dL_law_1332 (by decide) ?_
            refine W.lcmp hx hb dL_law_1336 ?_
            refine lv_if_eq (tgt := 1342) hx hb dL_law_1337 (by decide) (fun c_141 => ?_) (fun c_141 => ?_)
            · have hf := ite_t hf c_141
              refine lv_goto (tgt := 1667) hx hb dL_law_1342 (by decide) ?_
              refine lv_iinc (v := y + 5) (lv' := [(4, .int (y + 5)), (6, .int z_135.1), (5, .int z_133.1), (0, .ref sb), (1, .ref (a 0 0)), (2, .ref (am 0)), (3, .ref b)]) hx hb dL_law_1667 hl (k := 6) rfl rfl (by decide) rfl (fun ls hl => ?_)
              refine lv_goto (tgt := 23) hx hb dL_law_1670 (by decide) ?_
              exact ih _ _ _ _ _ _ _ _ _ hf hP hS (lv_sub hl [3, 4, 5, 6, 0] rfl) (by omega) (by omega) (by omega) (by omega)
            · have hf := ite_f hf c_141
              refine lv_iconst (v := 0) hx hb dL_law_1340 (by decide) ?_
              exact absurd (Option.some.inj hf) (by decide)
      · have hf := ite_f hf c_137
        refine lv_iconst (v := 0) hx hb dL_law_1316 (by decide) ?_
        exact absurd (Option.some.inj hf) (by decide)
    · have hf := ite_f hf c_134
      refine lv_iconst (v := 1) hx hb dL_law_1297 (by decide) ?_
      refine lv_goto (tgt := 1302) hx hb dL_law_1298 (by decide) ?_
      obtain ⟨z_142, hz_142, hf⟩ := bn_some hf
      refine cWVi (As := [.int (xs (y + 1).toNatClampNeg), .int 1]) (rest := []) ⟨hx, hb, hml, hown, hts⟩ (c_X7_bad l D cI cZ cJ cT am H.size V (xs (y + 1).toNatClampNeg) 1 z_142 hz_142) (cwV 2 hts (gL_in gL_law_X7_bad) rfl rfl rfl (by decide +kernel) ⟨Nat.le_of_ble_eq_true rfl, Nat.le_of_ble_eq_true rfl⟩) (fl_sub hP 1 rfl) hK (fl_subD (hDD z_133.2.1 V z_133.2.2) 1 rfl) hS (fl_free (hDD z_133.2.1 V z_133.2.2) hS hA 1 rfl) (va_recv hK (fl_sub hP 1 rfl) (ci := 7) (q0 := 0) rfl rfl) rfl rfl hl.1 (Nat.le_of_ble_eq_true rfl) dL_law_1302 ⟨(by show _ ≤ 601024; omega), (by show _ ≤ 7293034; omega)⟩ (fun H1 locs hP1 hk1 hS => ?_)
      have hP : va_P D cls (wW cI cZ cJ cT a am b z_133.2.1 z_142.2 z_133.2.2) H1 := fl_join hP (hDD z_133.2.1 V z_133.2.2) 1 rfl hk1 hP1
      clear hP1 hk1
      generalize H1 = H at hP hS ⊢
      refine lv_istore (lv' := [(6, .int z_142.1), (5, .int z_133.1), (0, .ref sb), (1, .ref (a 0 0)), (2, .ref (am 0)), (3, .ref b), (4, .int y)]) hx hb dL_law_1305 hl (by decide) rfl (fun ls hl => ?_)
      refine lv_aload_n hx hb dL_law_1307 rfl (lv_at hl 4 rfl) ?_
      obtain ⟨z_143, hz_143, hf⟩ := bn_some hf
      refine cRV (As := []) (rest := []) ⟨hx, hb, hml, hown, hts⟩ (c_X7_thrown l D cI cZ cJ cT am z_142.2 z_143 hz_143) (cwV 0 hts (gL_in gL_law_X7_thrown) rfl rfl rfl (by decide +kernel) ⟨Nat.le_of_ble_eq_true rfl, Nat.le_of_ble_eq_true rfl⟩) (fl_sub hP 1 rfl) hK (va_recv hK (fl_sub hP 1 rfl) (ci := 7) (q0 := 0) rfl rfl) rfl rfl hl.1 (Nat.le_of_ble_eq_true rfl) dL_law_1308 ⟨(by show _ ≤ 601024; omega), (by show _ ≤ 7293034; omega)⟩ ?_
      refine lv_iload hx hb dL_law_1311 (lv_at hl 1 rfl) ?_
      refine lv_icmp_eq (tgt := 1318) hx hb dL_law_1313 (by decide) (fun c_144 => ?_) (fun c_144 => ?_)
      · have hf := ite_t hf c_144
        refine lv_iload hx hb dL_law_1318 (lv_at hl 1 rfl) ?_
        refine lv_if_ne (tgt := 1342) hx hb dL_law_1320 (by decide) (fun c_145 => ?_) (fun c_145 => ?_)
        · have hf := ite_f hf c_145
          refine lv_goto (tgt := 1667) hx hb dL_law_1342 (by decide) ?_
          refine lv_iinc (v := y + 5) (lv' := [(4, .int (y + 5)), (6, .int z_142.1), (5, .int z_133.1), (0, .ref sb), (1, .ref (a 0 0)), (2, .ref (am 0)), (3, .ref b)]) hx hb dL_law_1667 hl (k := 6) rfl rfl (by decide) rfl (fun ls hl => ?_)
          refine lv_goto (tgt := 23) hx hb dL_law_1670 (by decide) ?_
          exact ih _ _ _ _ _ _ _ _ _ hf hP hS (lv_sub hl [3, 4, 5, 6, 0] rfl) (by omega) (by omega) (by omega) (by omega)
        · have hf := ite_t hf c_145
          refine lv_aload_n hx hb dL_law_1323 rfl (lv_at hl 5 rfl) ?_
          refine lv_iconst (v := 0) hx hb dL_law_1324 (by decide) ?_
          refine va_lald hx hb hK hP 100 2 rfl rfl (inb_in (i := 0) (n := 1) (by decide)) dL_law_1325 ?_
          refine lv_iload hx hb dL_law_1326 (lv_at hl 0 rfl) ?_
          refine lv_if_eq (tgt := 1335) hx hb dL_law_1328 (by decide) (fun c_146 => ?_) (fun c_146 => ?_)
          · have hf := ite_t hf c_146
            refine lv_lconst (v := 0) hx hb dL_law_1335 (by decide) ?_
            refine W.lcmp hx hb dL_law_1336 ?_
            refine lv_if_eq (tgt := 1342) hx hb dL_law_1337 (by decide) (fun c_147 => ?_) (fun c_147 => ?_)
            · have hf := ite_t hf c_147
              refine lv_goto (tgt := 1667) hx hb dL_law_1342 (by decide) ?_
              refine lv_iinc (v := y + 5) (lv' := [(4, .int (y + 5)), (6, .int z_142.1), (5, .int z_133.1), (0, .ref sb), (1, .ref (a 0 0)), (2, .ref (am 0)), (3, .ref b)]) hx hb dL_law_1667 hl (k := 6) rfl rfl (by decide) rfl (fun ls hl => ?_)
              refine lv_goto (tgt := 23) hx hb dL_law_1670 (by decide) ?_
              exact ih _ _ _ _ _ _ _ _ _ hf hP hS (lv_sub hl [3, 4, 5, 6, 0] rfl) (by omega) (by omega) (by omega) (by omega)
            · have hf := ite_f hf c_147
              refine lv_iconst (v := 0) hx hb dL_law_1340 (by decide) ?_
              exact absurd (Option.some.inj hf) (by decide)
          · have hf := ite_f hf c_146
            refine lv_lconst (v := 1) hx hb dL_law_1331 (by decide) ?_
            refine lv_goto (tgt := 1336) hx hb dL_law_1332 (by decide) ?_
            refine W.lcmp hx hb dL_law_1336 ?_
            refine lv_if_eq (tgt := 1342) hx hb dL_law_1337 (by decide) (fun c_148 => ?_) (fun c_148 => ?_)
            · have hf := ite_t hf c_148
              refine lv_goto (tgt := 1667) hx hb dL_law_1342 (by decide) ?_
              refine lv_iinc (v := y + 5) (lv' := [(4, .int (y + 5)), (6, .int z_142.1), (5, .int z_133.1), (0, .ref sb), (1, .ref (a 0 0)), (2, .ref (am 0)), (3, .ref b)]) hx hb dL_law_1667 hl (k := 6) rfl rfl (by decide) rfl (fun ls hl => ?_)
              refine lv_goto (tgt := 23) hx hb dL_law_1670 (by decide) ?_
              exact ih _ _ _ _ _ _ _ _ _ hf hP hS (lv_sub hl [3, 4, 5, 6, 0] rfl) (by omega) (by omega) (by omega) (by omega)
            · have hf := ite_f hf c_148
              refine lv_iconst (v := 0) hx hb dL_law_1340 (by decide) ?_
              exact absurd (Option.some.inj hf) (by decide)
      · have hf := ite_f hf c_144
        refine lv_iconst (v := 0) hx hb dL_law_1316 (by decide) ?_
        exact absurd (Option.some.inj hf) (by decide)
def law_B28 (L : Nat) (xs : Nat → Int32) (r23 : Int32 → S2 → S1 → (Nat → Int64) → Option Int32) (y : Int32) (U : S2) (V : S1) (g : Nat → Int64) : Option Int32 := chk (inb (y + 1) L) (chk (inb (y + 2) L) (chk (inb (y + 3) L) (bn (f_L_damage U (xs (y + 1).toNatClampNeg) (xs (y + 2).toNatClampNeg) (xs (y + 3).toNatClampNeg)) (fun z_149 => chk (inb (y + 1) L) (chk (inb (y + 2) L) (chk (inb (y + 3) L) (bn (f_X7_damage V (xs (y + 1).toNatClampNeg) (xs (y + 2).toNatClampNeg) (xs (y + 3).toNatClampNeg)) (fun z_150 => r23 (y + 5) z_149.2 z_150 g))))))))
set_option maxHeartbeats 40000000 in
set_option maxRecDepth 100000 in
theorem law_case28 {p : Program} {l : Launch} {e : Env} {s : State} {m : MethodId} {below : List Frame} {meth : Method} {c : Code} {D : va_G} {cI cZ cJ cT : ClassId} {sb L : Nat} {xs : Nat → Int32} (hst : l.stackTraces = false) (C0 : lw_At p s m meth c sb L xs) (hK : va_K D cls (tys cI cZ cJ cT) s) (hE : EX (fun q : Nat => s.heap.size ≤ q) s) (hNC : NC s) (a : Nat → Nat → Nat) (am : Nat → Nat) (b : Nat) (hDD : ∀ (U : S2) (V : S1) (g : Nat → Int64), va_D (fun q : Nat => s.heap.size ≤ q) (wW cI cZ cJ cT a am b U V g)) (r23 : Int32 → S2 → S1 → (Nat → Int64) → Option Int32) (n : Nat) (ih : ∀ (y : Int32) (U : S2) (V : S1) (g : Nat → Int64) (H : Heap) (locs : List Loc) (ls : Array Slot) (nc ns : Nat), r23 y U V g = some 1 → va_P D cls (wW cI cZ cJ cT a am b U V g) H → va_S (fun q : Nat => s.heap.size ≤ q) s.heap H locs → lv_has ls 7 [(0, .ref sb), (1, .ref (a 0 0)), (2, .ref (am 0)), (3, .ref b), (4, .int y)] → nc + 8 * n ≤ 601024 → ns + 48 * n ≤ 7293034 → nc ≤ 601024 → ns ≤ 7293034 → W p l e room_1 s m #[Value.ref sb] below meth c H locs nc ns (lw_Z below #[Value.ref sb] s) (F0 m 23 ls [])) (y : Int32) (U : S2) (V : S1) (g : Nat → Int64) (H : Heap) (locs : List Loc) (ls : Array Slot) (nc ns : Nat) (hf : law_B28 L xs r23 y U V g = some 1) (hP : va_P D cls (wW cI cZ cJ cT a am b U V g) H) (hS : va_S (fun q : Nat => s.heap.size ≤ q) s.heap H locs) (hl : lv_has ls 7 [(0, .ref sb), (1, .ref (a 0 0)), (2, .ref (am 0)), (3, .ref b), (4, .int y)]) (hc1 : nc + 8 * (n + 1) ≤ 601024) (hc2 : ns + 48 * (n + 1) ≤ 7293034) (hc3 : nc ≤ 601024) (hc4 : ns ≤ 7293034) : W p l e room_1 s m #[Value.ref sb] below meth c H locs nc ns (lw_Z below #[Value.ref sb] s) (F0 m 1345 ls []) := by
  obtain ⟨hx, hb, hr, hml, hown, hts, hX, hbl, hlocks, hgv⟩ := id C0
  have hA : ∀ q : Nat, s.heap.size ≤ q → (fun q : Nat => s.heap.size ≤ q) q := fun _ h => h
  have hbA : ¬ (fun q : Nat => s.heap.size ≤ q) sb := Nat.not_le.mpr hbl
  unfold law_B28 at hf
  refine lv_aload_n hx hb dL_law_1345 rfl (lv_at hl 1 rfl) ?_
  refine lv_aload_n hx hb dL_law_1346 rfl (lv_at hl 0 rfl) ?_
  refine lv_iload hx hb dL_law_1347 (lv_at hl 4 rfl) ?_
  refine lv_iconst (v := 1) hx hb dL_law_1349 (by decide) ?_
  refine lv_iadd hx hb dL_law_1350 ?_
  obtain ⟨hi, hf⟩ := chk_some hf
  refine va_sld hx hb hX hbl hbA hS (inb_in hi) dL_law_1351 ?_
  refine lv_aload_n hx hb dL_law_1352 rfl (lv_at hl 0 rfl) ?_
  refine lv_iload hx hb dL_law_1353 (lv_at hl 4 rfl) ?_
  refine lv_iconst (v := 2) hx hb dL_law_1355 (by decide) ?_
  refine lv_iadd hx hb dL_law_1356 ?_
  obtain ⟨hi, hf⟩ := chk_some hf
  refine va_sld hx hb hX hbl hbA hS (inb_in hi) dL_law_1357 ?_
  refine lv_aload_n hx hb dL_law_1358 rfl (lv_at hl 0 rfl) ?_
  refine lv_iload hx hb dL_law_1359 (lv_at hl 4 rfl) ?_
  refine lv_iconst (v := 3) hx hb dL_law_1361 (by decide) ?_
  refine lv_iadd hx hb dL_law_1362 ?_
  obtain ⟨hi, hf⟩ := chk_some hf
  refine va_sld hx hb hX hbl hbA hS (inb_in hi) dL_law_1363 ?_
  obtain ⟨z_149, hz_149, hf⟩ := bn_some hf
  refine cLS (As := [.ref (a 0 0), .int (xs (y + 1).toNatClampNeg), .int (xs (y + 2).toNatClampNeg), .int (xs (y + 3).toNatClampNeg)]) (rest := []) ⟨hx, hb, hml, hown, hts⟩ (c_L_damage l hst D cI cZ cJ cT a H.size U (xs (y + 1).toNatClampNeg) (xs (y + 2).toNatClampNeg) (xs (y + 3).toNatClampNeg) z_149 hz_149) (vx_cwSW 4 hts (gM_law (gL_in gL_law_L_damage) gLK) rfl rfl rfl (by decide +kernel) ⟨Nat.le_of_ble_eq_true rfl, Nat.le_of_ble_eq_true rfl⟩) (fl_sub hP 0 rfl) hK (fl_subD (hDD U V g) 0 rfl) hE hNC hS (fl_free (hDD U V g) hS hA 0 rfl) rfl rfl hl.1 (Nat.le_of_ble_eq_true rfl) dL_law_1364 ⟨(by show _ ≤ 601024; omega), (by show _ ≤ 7293034; omega)⟩ (fun H1 locs hP1 hk1 hS => ?_)
  have hP : va_P D cls (wW cI cZ cJ cT a am b z_149.2 V g) H1 := fl_join hP (hDD U V g) 0 rfl hk1 hP1
  clear hP1 hk1
  generalize H1 = H at hP hS ⊢
  refine lv_istore (lv' := [(5, .int z_149.1), (0, .ref sb), (1, .ref (a 0 0)), (2, .ref (am 0)), (3, .ref b), (4, .int y)]) hx hb dL_law_1367 hl (by decide) rfl (fun ls hl => ?_)
  refine lv_aload_n hx hb dL_law_1369 rfl (lv_at hl 3 rfl) ?_
  refine lv_aload_n hx hb dL_law_1370 rfl (lv_at hl 1 rfl) ?_
  refine lv_iload hx hb dL_law_1371 (lv_at hl 5 rfl) ?_
  refine lv_iconst (v := 1) hx hb dL_law_1373 (by decide) ?_
  refine lv_iadd hx hb dL_law_1374 ?_
  obtain ⟨hi, hf⟩ := chk_some hf
  refine va_sld hx hb hX hbl hbA hS (inb_in hi) dL_law_1375 ?_
  refine lv_aload_n hx hb dL_law_1376 rfl (lv_at hl 1 rfl) ?_
  refine lv_iload hx hb dL_law_1377 (lv_at hl 5 rfl) ?_
  refine lv_iconst (v := 2) hx hb dL_law_1379 (by decide) ?_
  refine lv_iadd hx hb dL_law_1380 ?_
  obtain ⟨hi, hf⟩ := chk_some hf
  refine va_sld hx hb hX hbl hbA hS (inb_in hi) dL_law_1381 ?_
  refine lv_aload_n hx hb dL_law_1382 rfl (lv_at hl 1 rfl) ?_
  refine lv_iload hx hb dL_law_1383 (lv_at hl 5 rfl) ?_
  refine lv_iconst (v := 3) hx hb dL_law_1385 (by decide) ?_
  refine lv_iadd hx hb dL_law_1386 ?_
  obtain ⟨hi, hf⟩ := chk_some hf
  refine va_sld hx hb hX hbl hbA hS (inb_in hi) dL_law_1387 ?_
  obtain ⟨z_150, hz_150, hf⟩ := bn_some hf
  refine cWVv (As := [.int (xs (y + 1).toNatClampNeg), .int (xs (y + 2).toNatClampNeg), .int (xs (y + 3).toNatClampNeg)]) (rest := []) ⟨hx, hb, hml, hown, hts⟩ (c_X7_damage l D cI cZ cJ cT am H.size V (xs (y + 1).toNatClampNeg) (xs (y + 2).toNatClampNeg) (xs (y + 3).toNatClampNeg) z_150 hz_150) (cwV 3 hts (gL_in gL_law_X7_damage) rfl rfl rfl (by decide +kernel) ⟨Nat.le_of_ble_eq_true rfl, Nat.le_of_ble_eq_true rfl⟩) (fl_sub hP 1 rfl) hK (fl_subD (hDD z_149.2 V g) 1 rfl) hS (fl_free (hDD z_149.2 V g) hS hA 1 rfl) (va_recv hK (fl_sub hP 1 rfl) (ci := 7) (q0 := 0) rfl rfl) rfl rfl hl.1 (Nat.le_of_ble_eq_true rfl) dL_law_1388 ⟨(by show _ ≤ 601024; omega), (by show _ ≤ 7293034; omega)⟩ (fun H1 locs hP1 hk1 hS => ?_)
  have hP : va_P D cls (wW cI cZ cJ cT a am b z_149.2 z_150 g) H1 := fl_join hP (hDD z_149.2 V g) 1 rfl hk1 hP1
  clear hP1 hk1
  generalize H1 = H at hP hS ⊢
  refine lv_goto (tgt := 1667) hx hb dL_law_1391 (by decide) ?_
  refine lv_iinc (v := y + 5) (lv' := [(4, .int (y + 5)), (5, .int z_149.1), (0, .ref sb), (1, .ref (a 0 0)), (2, .ref (am 0)), (3, .ref b)]) hx hb dL_law_1667 hl (k := 5) rfl rfl (by decide) rfl (fun ls hl => ?_)
  refine lv_goto (tgt := 23) hx hb dL_law_1670 (by decide) ?_
  exact ih _ _ _ _ _ _ _ _ _ hf hP hS (lv_sub hl [2, 3, 4, 5, 0] rfl) (by omega) (by omega) (by omega) (by omega)
def law_B29 (L : Nat) (xs : Nat → Int32) (r23 : Int32 → S2 → S1 → (Nat → Int64) → Option Int32) (y : Int32) (U : S2) (V : S1) (g : Nat → Int64) : Option Int32 := bn (f_L_check U g) (fun z_151 => bn (f_X7_check V) (fun z_152 => r23 (y + 5) z_151.2.1 z_152.2 z_151.2.2))
set_option maxHeartbeats 40000000 in
set_option maxRecDepth 100000 in
theorem law_case29 {p : Program} {l : Launch} {e : Env} {s : State} {m : MethodId} {below : List Frame} {meth : Method} {c : Code} {D : va_G} {cI cZ cJ cT : ClassId} {sb L : Nat} {xs : Nat → Int32} (hst : l.stackTraces = false) (C0 : lw_At p s m meth c sb L xs) (hK : va_K D cls (tys cI cZ cJ cT) s) (hE : EX (fun q : Nat => s.heap.size ≤ q) s) (hNC : NC s) (a : Nat → Nat → Nat) (am : Nat → Nat) (b : Nat) (hDD : ∀ (U : S2) (V : S1) (g : Nat → Int64), va_D (fun q : Nat => s.heap.size ≤ q) (wW cI cZ cJ cT a am b U V g)) (r23 : Int32 → S2 → S1 → (Nat → Int64) → Option Int32) (n : Nat) (ih : ∀ (y : Int32) (U : S2) (V : S1) (g : Nat → Int64) (H : Heap) (locs : List Loc) (ls : Array Slot) (nc ns : Nat), r23 y U V g = some 1 → va_P D cls (wW cI cZ cJ cT a am b U V g) H → va_S (fun q : Nat => s.heap.size ≤ q) s.heap H locs → lv_has ls 7 [(0, .ref sb), (1, .ref (a 0 0)), (2, .ref (am 0)), (3, .ref b), (4, .int y)] → nc + 8 * n ≤ 601024 → ns + 48 * n ≤ 7293034 → nc ≤ 601024 → ns ≤ 7293034 → W p l e room_1 s m #[Value.ref sb] below meth c H locs nc ns (lw_Z below #[Value.ref sb] s) (F0 m 23 ls [])) (y : Int32) (U : S2) (V : S1) (g : Nat → Int64) (H : Heap) (locs : List Loc) (ls : Array Slot) (nc ns : Nat) (hf : law_B29 L xs r23 y U V g = some 1) (hP : va_P D cls (wW cI cZ cJ cT a am b U V g) H) (hS : va_S (fun q : Nat => s.heap.size ≤ q) s.heap H locs) (hl : lv_has ls 7 [(0, .ref sb), (1, .ref (a 0 0)), (2, .ref (am 0)), (3, .ref b), (4, .int y)]) (hc1 : nc + 8 * (n + 1) ≤ 601024) (hc2 : ns + 48 * (n + 1) ≤ 7293034) (hc3 : nc ≤ 601024) (hc4 : ns ≤ 7293034) : W p l e room_1 s m #[Value.ref sb] below meth c H locs nc ns (lw_Z below #[Value.ref sb] s) (F0 m 1394 ls []) := by
  obtain ⟨hx, hb, hr, hml, hown, hts, hX, hbl, hlocks, hgv⟩ := id C0
  have hA : ∀ q : Nat, s.heap.size ≤ q → (fun q : Nat => s.heap.size ≤ q) q := fun _ h => h
  have hbA : ¬ (fun q : Nat => s.heap.size ≤ q) sb := Nat.not_le.mpr hbl
  unfold law_B29 at hf
  refine lv_aload_n hx hb dL_law_1394 rfl (lv_at hl 1 rfl) ?_
  refine lv_aload_n hx hb dL_law_1395 rfl (lv_at hl 3 rfl) ?_
  obtain ⟨z_151, hz_151, hf⟩ := bn_some hf
  refine cLS (As := [.ref (a 0 0), .ref b]) (rest := []) ⟨hx, hb, hml, hown, hts⟩ (c_L_check l hst D cI cZ cJ cT a b H.size U g z_151 hz_151) (vx_cwSW 2 hts (gM_law (gL_in gL_law_L_check) gLK) rfl rfl rfl (by decide +kernel) ⟨Nat.le_of_ble_eq_true rfl, Nat.le_of_ble_eq_true rfl⟩) (fl_subM hP [0, 2] rfl) hK (fl_subDM (hDD U V g) [0, 2] rfl rfl) hE hNC hS (own_free (fl_subDM (hDD U V g) [0, 2] rfl rfl) hS hA) rfl rfl hl.1 (Nat.le_of_ble_eq_true rfl) dL_law_1396 ⟨(by show _ ≤ 601024; omega), (by show _ ≤ 7293034; omega)⟩ (fun H1 locs hP1 hk1 hS => ?_)
  have hP : va_P D cls (wW cI cZ cJ cT a am b z_151.2.1 V z_151.2.2) H1 := fl_joinM (cs' := [wI cI cZ cT a z_151.2.1, [(b, .inl (cJ, 1, .inr (.inl z_151.2.2)))]]) hP (hDD U V g) [0, 2] rfl rfl hk1 hP1
  clear hP1 hk1
  generalize H1 = H at hP hS ⊢
  refine lv_istore (lv' := [(5, .int z_151.1), (0, .ref sb), (1, .ref (a 0 0)), (2, .ref (am 0)), (3, .ref b), (4, .int y)]) hx hb dL_law_1399 hl (by decide) rfl (fun ls hl => ?_)
  refine lv_aload_n hx hb dL_law_1401 rfl (lv_at hl 3 rfl) ?_
  obtain ⟨z_152, hz_152, hf⟩ := bn_some hf
  refine cWVi (As := []) (rest := []) ⟨hx, hb, hml, hown, hts⟩ (c_X7_check l D cI cZ cJ cT am H.size V z_152 hz_152) (cwV 0 hts (gL_in gL_law_X7_check) rfl rfl rfl (by decide +kernel) ⟨Nat.le_of_ble_eq_true rfl, Nat.le_of_ble_eq_true rfl⟩) (fl_sub hP 1 rfl) hK (fl_subD (hDD z_151.2.1 V z_151.2.2) 1 rfl) hS (fl_free (hDD z_151.2.1 V z_151.2.2) hS hA 1 rfl) (va_recv hK (fl_sub hP 1 rfl) (ci := 7) (q0 := 0) rfl rfl) rfl rfl hl.1 (Nat.le_of_ble_eq_true rfl) dL_law_1402 ⟨(by show _ ≤ 601024; omega), (by show _ ≤ 7293034; omega)⟩ (fun H1 locs hP1 hk1 hS => ?_)
  have hP : va_P D cls (wW cI cZ cJ cT a am b z_151.2.1 z_152.2 z_151.2.2) H1 := fl_join hP (hDD z_151.2.1 V z_151.2.2) 1 rfl hk1 hP1
  clear hP1 hk1
  generalize H1 = H at hP hS ⊢
  refine lv_istore (lv' := [(6, .int z_152.1), (5, .int z_151.1), (0, .ref sb), (1, .ref (a 0 0)), (2, .ref (am 0)), (3, .ref b), (4, .int y)]) hx hb dL_law_1405 hl (by decide) rfl (fun ls hl => ?_)
  refine lv_goto (tgt := 1667) hx hb dL_law_1407 (by decide) ?_
  refine lv_iinc (v := y + 5) (lv' := [(4, .int (y + 5)), (6, .int z_152.1), (5, .int z_151.1), (0, .ref sb), (1, .ref (a 0 0)), (2, .ref (am 0)), (3, .ref b)]) hx hb dL_law_1667 hl (k := 6) rfl rfl (by decide) rfl (fun ls hl => ?_)
  refine lv_goto (tgt := 23) hx hb dL_law_1670 (by decide) ?_
  exact ih _ _ _ _ _ _ _ _ _ hf hP hS (lv_sub hl [3, 4, 5, 6, 0] rfl) (by omega) (by omega) (by omega) (by omega)
