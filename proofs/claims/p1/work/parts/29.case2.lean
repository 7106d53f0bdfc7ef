def law_B20 (L : Nat) (xs : Nat → Int32) (r23 : Int32 → S2 → S1 → (Nat → Int64) → Option Int32) (y : Int32) (U : S2) (V : S1) (g : Nat → Int64) : Option Int32 := chk (inb (y + 1) L) (bn (f_L_sync U g (xs (y + 1).toNatClampNeg)) (fun z_222 => chk (inb (y + 1) L) (bn (f_X7_sync V (xs (y + 1).toNatClampNeg)) (fun z_223 => bn (f_X7_thrown z_223.2) (fun z_224 => if z_224 = z_222.1 then if z_222.1 = 0 then if z_223.1 = 0 then if (lg_cmp (z_222.2.2 (0 : Int32).toNatClampNeg) 0) = 0 then r23 (y + 5) z_222.2.1 z_223.2 z_222.2.2 else some 0 else if (lg_cmp (z_222.2.2 (0 : Int32).toNatClampNeg) 1) = 0 then r23 (y + 5) z_222.2.1 z_223.2 z_222.2.2 else some 0 else r23 (y + 5) z_222.2.1 z_223.2 z_222.2.2 else some 0)))))
set_option maxHeartbeats 40000000 in
set_option maxRecDepth 100000 in
theorem law_case20 {p : Program} {l : Launch} {e : Env} {s : State} {m : MethodId} {below : List Frame} {meth : Method} {c : Code} {D : va_G} {cI cZ cJ cT : ClassId} {sb L : Nat} {xs : Nat → Int32} (hst : l.stackTraces = false) (C0 : lw_At p s m meth c sb L xs) (hK : va_K D cls (tys cI cZ cJ cT) s) (hE : EX (fun q : Nat => s.heap.size ≤ q) s) (hNC : NC s) (a : Nat → Nat → Nat) (am : Nat → Nat) (b : Nat) (hDD : ∀ (U : S2) (V : S1) (g : Nat → Int64), va_D (fun q : Nat => s.heap.size ≤ q) (wW cI cZ cJ cT a am b U V g)) (r23 : Int32 → S2 → S1 → (Nat → Int64) → Option Int32) (n : Nat) (ih : ∀ (y : Int32) (U : S2) (V : S1) (g : Nat → Int64) (H : Heap) (locs : List Loc) (ls : Array Slot) (nc ns : Nat), r23 y U V g = some 1 → va_P D cls (wW cI cZ cJ cT a am b U V g) H → va_S (fun q : Nat => s.heap.size ≤ q) s.heap H locs → lv_has ls 7 [(0, .ref sb), (1, .ref (a 0 0)), (2, .ref (am 0)), (3, .ref b), (4, .int y)] → nc + 8 * n ≤ 600002 → ns + 48 * n ≤ 7302232 → nc ≤ 600002 → ns ≤ 7302232 → W p l e room_1 s m #[Value.ref sb] below meth c H locs nc ns (lw_Z below #[Value.ref sb] s) (F0 m 23 ls [])) (y : Int32) (U : S2) (V : S1) (g : Nat → Int64) (H : Heap) (locs : List Loc) (ls : Array Slot) (nc ns : Nat) (hf : law_B20 L xs r23 y U V g = some 1) (hP : va_P D cls (wW cI cZ cJ cT a am b U V g) H) (hS : va_S (fun q : Nat => s.heap.size ≤ q) s.heap H locs) (hl : lv_has ls 7 [(0, .ref sb), (1, .ref (a 0 0)), (2, .ref (am 0)), (3, .ref b), (4, .int y)]) (hc1 : nc + 8 * (n + 1) ≤ 600002) (hc2 : ns + 48 * (n + 1) ≤ 7302232) (hc3 : nc ≤ 600002) (hc4 : ns ≤ 7302232) : W p l e room_1 s m #[Value.ref sb] below meth c H locs nc ns (lw_Z below #[Value.ref sb] s) (F0 m 1638 ls []) := by
  obtain ⟨hx, hb, hr, hml, hown, hts, hX, hbl, hlocks, hgv⟩ := id C0
  have hA : ∀ q : Nat, s.heap.size ≤ q → (fun q : Nat => s.heap.size ≤ q) q := fun _ h => h
  have hbA : ¬ (fun q : Nat => s.heap.size ≤ q) sb := Nat.not_le.mpr hbl
  unfold law_B20 at hf
  refine lv_aload_n hx hb dL_law_1638 rfl (lv_at hl 1 rfl) ?_
  refine lv_aload_n hx hb dL_law_1639 rfl (lv_at hl 0 rfl) ?_
  refine lv_iload hx hb dL_law_1640 (lv_at hl 4 rfl) ?_
  refine lv_iconst (v := 1) hx hb dL_law_1642 (by decide) ?_
  refine lv_iadd hx hb dL_law_1643 ?_
  obtain ⟨hi, hf⟩ := chk_some hf
  refine va_sld hx hb hX hbl hbA hS (inb_in hi) dL_law_1644 ?_
  refine lv_aload_n hx hb dL_law_1645 rfl (lv_at hl 3 rfl) ?_
  obtain ⟨z_222, hz_222, hf⟩ := bn_some hf
  refine cLS (As := [.ref (a 0 0), .int (xs (y + 1).toNatClampNeg), .ref b]) (rest := []) ⟨hx, hb, hml, hown, hts⟩ (c_L_sync l hst D cI cZ cJ cT a b H.size U g (xs (y + 1).toNatClampNeg) z_222 hz_222) (vx_cwSW 3 hts (gM_law (gL_in gL_law_L_sync) gLK) rfl rfl rfl (by decide +kernel) ⟨Nat.le_of_ble_eq_true rfl, Nat.le_of_ble_eq_true rfl⟩) (fl_subM hP [0, 2] rfl) hK (fl_subDM (hDD U V g) [0, 2] rfl rfl) hE hNC hS (own_free (fl_subDM (hDD U V g) [0, 2] rfl rfl) hS hA) rfl rfl hl.1 (Nat.le_of_ble_eq_true rfl) dL_law_1646 ⟨(by show _ ≤ 600002; omega), (by show _ ≤ 7302232; omega)⟩ (fun H1 locs hP1 hk1 hS => ?_)
  have hP : va_P D cls (wW cI cZ cJ cT a am b z_222.2.1 V z_222.2.2) H1 := fl_joinM (cs' := [wI cI cZ cT a z_222.2.1, [(b, .inl (cJ, 1, .inr (.inl z_222.2.2)))]]) hP (hDD U V g) [0, 2] rfl rfl hk1 hP1
  clear hP1 hk1
  generalize H1 = H at hP hS ⊢
  refine lv_istore (lv' := [(5, .int z_222.1), (0, .ref sb), (1, .ref (a 0 0)), (2, .ref (am 0)), (3, .ref b), (4, .int y)]) hx hb dL_law_1649 hl (by decide) rfl (fun ls hl => ?_)
  refine lv_aload_n hx hb dL_law_1651 rfl (lv_at hl 3 rfl) ?_
  refine lv_aload_n hx hb dL_law_1652 rfl (lv_at hl 1 rfl) ?_
  refine lv_iload hx hb dL_law_1653 (lv_at hl 5 rfl) ?_
  refine lv_iconst (v := 1) hx hb dL_law_1655 (by decide) ?_
  refine lv_iadd hx hb dL_law_1656 ?_
  obtain ⟨hi, hf⟩ := chk_some hf
  refine va_sld hx hb hX hbl hbA hS (inb_in hi) dL_law_1657 ?_
  obtain ⟨z_223, hz_223, hf⟩ := bn_some hf
  refine cWVi (As := [.int (xs (y + 1).toNatClampNeg)]) (rest := []) ⟨hx, hb, hml, hown, hts⟩ (c_X7_sync l D cI cZ cJ cT am H.size V (xs (y + 1).toNatClampNeg) z_223 hz_223) (cwV 1 hts (gL_in gL_law_X7_sync) rfl rfl rfl (by decide +kernel) ⟨Nat.le_of_ble_eq_true rfl, Nat.le_of_ble_eq_true rfl⟩) (fl_sub hP 1 rfl) hK (fl_subD (hDD z_222.2.1 V z_222.2.2) 1 rfl) hS (fl_free (hDD z_222.2.1 V z_222.2.2) hS hA 1 rfl) (va_recv hK (fl_sub hP 1 rfl) (ci := 7) (q0 := 0) rfl rfl) rfl rfl hl.1 (Nat.le_of_ble_eq_true rfl) dL_law_1658 ⟨(by show _ ≤ 600002; omega), (by show _ ≤ 7302232; omega)⟩ (fun H1 locs hP1 hk1 hS => ?_)
  have hP : va_P D cls (wW cI cZ cJ cT a am b z_222.2.1 z_223.2 z_222.2.2) H1 := fl_join hP (hDD z_222.2.1 V z_222.2.2) 1 rfl hk1 hP1
  clear hP1 hk1
  generalize H1 = H at hP hS ⊢
  refine lv_istore (lv' := [(6, .int z_223.1), (5, .int z_222.1), (0, .ref sb), (1, .ref (a 0 0)), (2, .ref (am 0)), (3, .ref b), (4, .int y)]) hx hb dL_law_1661 hl (by decide) rfl (fun ls hl => ?_)
  refine lv_aload_n hx hb dL_law_1663 rfl (lv_at hl 4 rfl) ?_
  obtain ⟨z_224, hz_224, hf⟩ := bn_some hf
  refine cRV (As := []) (rest := []) ⟨hx, hb, hml, hown, hts⟩ (c_X7_thrown l D cI cZ cJ cT am z_223.2 z_224 hz_224) (cwV 0 hts (gL_in gL_law_X7_thrown) rfl rfl rfl (by decide +kernel) ⟨Nat.le_of_ble_eq_true rfl, Nat.le_of_ble_eq_true rfl⟩) (fl_sub hP 1 rfl) hK (va_recv hK (fl_sub hP 1 rfl) (ci := 7) (q0 := 0) rfl rfl) rfl rfl hl.1 (Nat.le_of_ble_eq_true rfl) dL_law_1664 ⟨(by show _ ≤ 600002; omega), (by show _ ≤ 7302232; omega)⟩ ?_
  refine lv_iload hx hb dL_law_1667 (lv_at hl 1 rfl) ?_
  refine lv_icmp_eq (tgt := 1674) hx hb dL_law_1669 (by decide) (fun c_225 => ?_) (fun c_225 => ?_)
  · have hf := ite_t hf c_225
    refine lv_iload hx hb dL_law_1674 (lv_at hl 1 rfl) ?_
    refine lv_if_ne (tgt := 1698) hx hb dL_law_1676 (by decide) (fun c_226 => ?_) (fun c_226 => ?_)
    · have hf := ite_f hf c_226
      refine lv_goto (tgt := 2630) hx hb dL_law_1698 (by decide) ?_
      refine lv_iinc (v := y + 5) (lv' := [(4, .int (y + 5)), (6, .int z_223.1), (5, .int z_222.1), (0, .ref sb), (1, .ref (a 0 0)), (2, .ref (am 0)), (3, .ref b)]) hx hb dL_law_2630 hl (k := 6) rfl rfl (by decide) rfl (fun ls hl => ?_)
      refine lv_goto (tgt := 23) hx hb dL_law_2633 (by decide) ?_
      exact ih _ _ _ _ _ _ _ _ _ hf hP hS (lv_sub hl [3, 4, 5, 6, 0] rfl) (by omega) (by omega) (by omega) (by omega)
    · have hf := ite_t hf c_226
      refine lv_aload_n hx hb dL_law_1679 rfl (lv_at hl 5 rfl) ?_
      refine lv_iconst (v := 0) hx hb dL_law_1680 (by decide) ?_
      refine va_lald hx hb hK hP 100 2 rfl rfl (inb_in (i := 0) (n := 1) (by decide)) dL_law_1681 ?_
      refine lv_iload hx hb dL_law_1682 (lv_at hl 0 rfl) ?_
      refine lv_if_eq (tgt := 1691) hx hb dL_law_1684 (by decide) (fun c_227 => ?_) (fun c_227 => ?_)
      · have hf := ite_t hf c_227
        refine lv_lconst (v := 0) hx hb dL_law_1691 (by decide) ?_
        refine W.lcmp hx hb dL_law_1692 ?_
        refine lv_if_eq (tgt := 1698) hx hb dL_law_1693 (by decide) (fun c_228 => ?_) (fun c_228 => ?_)
        · have hf := ite_t hf c_228
          refine lv_goto (tgt := 2630) hx hb dL_law_1698 (by decide) ?_
          refine lv_iinc (v := y + 5) (lv' := [(4, .int (y + 5)), (6, .int z_223.1), (5, .int z_222.1), (0, .ref sb), (1, .ref (a 0 0)), (2, .ref (am 0)), (3, .ref b)]) hx hb dL_law_2630 hl (k := 6) rfl rfl (by decide) rfl (fun ls hl => ?_)
          refine lv_goto (tgt := 23) hx hb dL_law_2633 (by decide) ?_
          exact ih _ _ _ _ _ _ _ _ _ hf hP hS (lv_sub hl [3, 4, 5, 6, 0] rfl) (by omega) (by omega) (by omega) (by omega)
        · have hf := ite_f hf c_228
          refine lv_iconst (v := 0) hx hb dL_law_1696 (by decide) ?_
          exact absurd (Option.some.inj hf) (by decide)
      · have hf := ite_f hf c_227
        refine lv_lconst (v := 1) hx hb dL_law_1687 (by decide) ?_
        refine lv_goto (tgt := 1692) hx hb dL_law_1688 (by decide) ?_
        refine W.lcmp hx hb dL_law_1692 ?_
        refine lv_if_eq (tgt := 1698) hx hb dL_law_1693 (by decide) (fun c_229 => ?_) (fun c_229 => ?_)
        · have hf := ite_t hf c_229
          refine lv_goto (tgt := 2630) hx hb dL_law_1698 (by decide) ?_
          refine lv_iinc (v := y + 5) (lv' := [(4, .int (y + 5)), (6, .int z_223.1), (5, .int z_222.1), (0, .ref sb), (1, .ref (a 0 0)), (2, .ref (am 0)), (3, .ref b)]) hx hb dL_law_2630 hl (k := 6) rfl rfl (by decide) rfl (fun ls hl => ?_)
          refine lv_goto (tgt := 23) hx hb dL_law_2633 (by decide) ?_
          exact ih _ _ _ _ _ _ _ _ _ hf hP hS (lv_sub hl [3, 4, 5, 6, 0] rfl) (by omega) (by omega) (by omega) (by omega)
        · have hf := ite_f hf c_229
          refine lv_iconst (v := 0) hx hb dL_law_1696 (by decide) ?_
          exact absurd (Option.some.inj hf) (by decide)
  · have hf := ite_f hf c_225
    refine lv_iconst (v := 0) hx hb dL_law_1672 (by decide) ?_
    exact absurd (Option.some.inj hf) (by decide)
def law_B21 (L : Nat) (xs : Nat → Int32) (r23 : Int32 → S2 → S1 → (Nat → Int64) → Option Int32) (y : Int32) (U : S2) (V : S1) (g : Nat → Int64) : Option Int32 := bn (f_X6_commit U) (fun z_230 => bn (f_X7_commit V) (fun z_231 => if z_230.1 = z_231.1 then r23 (y + 5) z_230.2 z_231.2 g else some 0))
set_option maxHeartbeats 40000000 in
set_option maxRecDepth 100000 in
theorem law_case21 {p : Program} {l : Launch} {e : Env} {s : State} {m : MethodId} {below : List Frame} {meth : Method} {c : Code} {D : va_G} {cI cZ cJ cT : ClassId} {sb L : Nat} {xs : Nat → Int32} (hst : l.stackTraces = false) (C0 : lw_At p s m meth c sb L xs) (hK : va_K D cls (tys cI cZ cJ cT) s) (hE : EX (fun q : Nat => s.heap.size ≤ q) s) (hNC : NC s) (a : Nat → Nat → Nat) (am : Nat → Nat) (b : Nat) (hDD : ∀ (U : S2) (V : S1) (g : Nat → Int64), va_D (fun q : Nat => s.heap.size ≤ q) (wW cI cZ cJ cT a am b U V g)) (r23 : Int32 → S2 → S1 → (Nat → Int64) → Option Int32) (n : Nat) (ih : ∀ (y : Int32) (U : S2) (V : S1) (g : Nat → Int64) (H : Heap) (locs : List Loc) (ls : Array Slot) (nc ns : Nat), r23 y U V g = some 1 → va_P D cls (wW cI cZ cJ cT a am b U V g) H → va_S (fun q : Nat => s.heap.size ≤ q) s.heap H locs → lv_has ls 7 [(0, .ref sb), (1, .ref (a 0 0)), (2, .ref (am 0)), (3, .ref b), (4, .int y)] → nc + 8 * n ≤ 600002 → ns + 48 * n ≤ 7302232 → nc ≤ 600002 → ns ≤ 7302232 → W p l e room_1 s m #[Value.ref sb] below meth c H locs nc ns (lw_Z below #[Value.ref sb] s) (F0 m 23 ls [])) (y : Int32) (U : S2) (V : S1) (g : Nat → Int64) (H : Heap) (locs : List Loc) (ls : Array Slot) (nc ns : Nat) (hf : law_B21 L xs r23 y U V g = some 1) (hP : va_P D cls (wW cI cZ cJ cT a am b U V g) H) (hS : va_S (fun q : Nat => s.heap.size ≤ q) s.heap H locs) (hl : lv_has ls 7 [(0, .ref sb), (1, .ref (a 0 0)), (2, .ref (am 0)), (3, .ref b), (4, .int y)]) (hc1 : nc + 8 * (n + 1) ≤ 600002) (hc2 : ns + 48 * (n + 1) ≤ 7302232) (hc3 : nc ≤ 600002) (hc4 : ns ≤ 7302232) : W p l e room_1 s m #[Value.ref sb] below meth c H locs nc ns (lw_Z below #[Value.ref sb] s) (F0 m 1701 ls []) := by
  obtain ⟨hx, hb, hr, hml, hown, hts, hX, hbl, hlocks, hgv⟩ := id C0
  have hA : ∀ q : Nat, s.heap.size ≤ q → (fun q : Nat => s.heap.size ≤ q) q := fun _ h => h
  have hbA : ¬ (fun q : Nat => s.heap.size ≤ q) sb := Nat.not_le.mpr hbl
  unfold law_B21 at hf
  refine lv_aload_n hx hb dL_law_1701 rfl (lv_at hl 1 rfl) ?_
  obtain ⟨z_230, hz_230, hf⟩ := bn_some hf
  refine cWVi (As := []) (rest := []) ⟨hx, hb, hml, hown, hts⟩ (c_X6_commit l D cI cZ cJ cT a H.size U z_230 hz_230) (cwV 0 hts (gL_in gL_law_X6_commit) rfl rfl rfl (by decide +kernel) ⟨Nat.le_of_ble_eq_true rfl, Nat.le_of_ble_eq_true rfl⟩) (fl_sub hP 0 rfl) hK (fl_subD (hDD U V g) 0 rfl) hS (fl_free (hDD U V g) hS hA 0 rfl) (va_recv hK (fl_sub (fl_sub hP 0 rfl) 0 rfl) (ci := 6) (q0 := 0) rfl rfl) rfl rfl hl.1 (Nat.le_of_ble_eq_true rfl) dL_law_1702 ⟨(by show _ ≤ 600002; omega), (by show _ ≤ 7302232; omega)⟩ (fun H1 locs hP1 hk1 hS => ?_)
  have hP : va_P D cls (wW cI cZ cJ cT a am b z_230.2 V g) H1 := fl_join hP (hDD U V g) 0 rfl hk1 hP1
  clear hP1 hk1
  generalize H1 = H at hP hS ⊢
  refine lv_aload_n hx hb dL_law_1705 rfl (lv_at hl 2 rfl) ?_
  obtain ⟨z_231, hz_231, hf⟩ := bn_some hf
  refine cWVi (As := []) (rest := [.int z_230.1]) ⟨hx, hb, hml, hown, hts⟩ (c_X7_commit l D cI cZ cJ cT am H.size V z_231 hz_231) (cwV 0 hts (gL_in gL_law_X7_commit) rfl rfl rfl (by decide +kernel) ⟨Nat.le_of_ble_eq_true rfl, Nat.le_of_ble_eq_true rfl⟩) (fl_sub hP 1 rfl) hK (fl_subD (hDD z_230.2 V g) 1 rfl) hS (fl_free (hDD z_230.2 V g) hS hA 1 rfl) (va_recv hK (fl_sub hP 1 rfl) (ci := 7) (q0 := 0) rfl rfl) rfl rfl hl.1 (Nat.le_of_ble_eq_true rfl) dL_law_1706 ⟨(by show _ ≤ 600002; omega), (by show _ ≤ 7302232; omega)⟩ (fun H1 locs hP1 hk1 hS => ?_)
  have hP : va_P D cls (wW cI cZ cJ cT a am b z_230.2 z_231.2 g) H1 := fl_join hP (hDD z_230.2 V g) 1 rfl hk1 hP1
  clear hP1 hk1
  generalize H1 = H at hP hS ⊢
  refine lv_icmp_eq (tgt := 2630) hx hb dL_law_1709 (by decide) (fun c_232 => ?_) (fun c_232 => ?_)
  · have hf := ite_t hf c_232
    refine lv_iinc (v := y + 5) (lv' := [(4, .int (y + 5)), (0, .ref sb), (1, .ref (a 0 0)), (2, .ref (am 0)), (3, .ref b)]) hx hb dL_law_2630 hl (k := 4) rfl rfl (by decide) rfl (fun ls hl => ?_)
    refine lv_goto (tgt := 23) hx hb dL_law_2633 (by decide) ?_
    exact ih _ _ _ _ _ _ _ _ _ hf hP hS (lv_sub hl [1, 2, 3, 4, 0] rfl) (by omega) (by omega) (by omega) (by omega)
  · have hf := ite_f hf c_232
    refine lv_iconst (v := 0) hx hb dL_law_1712 (by decide) ?_
    exact absurd (Option.some.inj hf) (by decide)
def law_B22 (L : Nat) (xs : Nat → Int32) (r23 : Int32 → S2 → S1 → (Nat → Int64) → Option Int32) (y : Int32) (U : S2) (V : S1) (g : Nat → Int64) : Option Int32 := bn (f_X6_crash U) (fun z_233 => bn (f_X7_crash V) (fun z_234 => if z_233.1 = z_234.1 then r23 (y + 5) z_233.2 z_234.2 g else some 0))
set_option maxHeartbeats 40000000 in
set_option maxRecDepth 100000 in
theorem law_case22 {p : Program} {l : Launch} {e : Env} {s : State} {m : MethodId} {below : List Frame} {meth : Method} {c : Code} {D : va_G} {cI cZ cJ cT : ClassId} {sb L : Nat} {xs : Nat → Int32} (hst : l.stackTraces = false) (C0 : lw_At p s m meth c sb L xs) (hK : va_K D cls (tys cI cZ cJ cT) s) (hE : EX (fun q : Nat => s.heap.size ≤ q) s) (hNC : NC s) (a : Nat → Nat → Nat) (am : Nat → Nat) (b : Nat) (hDD : ∀ (U : S2) (V : S1) (g : Nat → Int64), va_D (fun q : Nat => s.heap.size ≤ q) (wW cI cZ cJ cT a am b U V g)) (r23 : Int32 → S2 → S1 → (Nat → Int64) → Option Int32) (n : Nat) (ih : ∀ (y : Int32) (U : S2) (V : S1) (g : Nat → Int64) (H : Heap) (locs : List Loc) (ls : Array Slot) (nc ns : Nat), r23 y U V g = some 1 → va_P D cls (wW cI cZ cJ cT a am b U V g) H → va_S (fun q : Nat => s.heap.size ≤ q) s.heap H locs → lv_has ls 7 [(0, .ref sb), (1, .ref (a 0 0)), (2, .ref (am 0)), (3, .ref b), (4, .int y)] → nc + 8 * n ≤ 600002 → ns + 48 * n ≤ 7302232 → nc ≤ 600002 → ns ≤ 7302232 → W p l e room_1 s m #[Value.ref sb] below meth c H locs nc ns (lw_Z below #[Value.ref sb] s) (F0 m 23 ls [])) (y : Int32) (U : S2) (V : S1) (g : Nat → Int64) (H : Heap) (locs : List Loc) (ls : Array Slot) (nc ns : Nat) (hf : law_B22 L xs r23 y U V g = some 1) (hP : va_P D cls (wW cI cZ cJ cT a am b U V g) H) (hS : va_S (fun q : Nat => s.heap.size ≤ q) s.heap H locs) (hl : lv_has ls 7 [(0, .ref sb), (1, .ref (a 0 0)), (2, .ref (am 0)), (3, .ref b), (4, .int y)]) (hc1 : nc + 8 * (n + 1) ≤ 600002) (hc2 : ns + 48 * (n + 1) ≤ 7302232) (hc3 : nc ≤ 600002) (hc4 : ns ≤ 7302232) : W p l e room_1 s m #[Value.ref sb] below meth c H locs nc ns (lw_Z below #[Value.ref sb] s) (F0 m 1714 ls []) := by
  obtain ⟨hx, hb, hr, hml, hown, hts, hX, hbl, hlocks, hgv⟩ := id C0
  have hA : ∀ q : Nat, s.heap.size ≤ q → (fun q : Nat => s.heap.size ≤ q) q := fun _ h => h
  have hbA : ¬ (fun q : Nat => s.heap.size ≤ q) sb := Nat.not_le.mpr hbl
  unfold law_B22 at hf
  refine lv_aload_n hx hb dL_law_1714 rfl (lv_at hl 1 rfl) ?_
  obtain ⟨z_233, hz_233, hf⟩ := bn_some hf
  refine cWVi (As := []) (rest := []) ⟨hx, hb, hml, hown, hts⟩ (c_X6_crash l D cI cZ cJ cT a H.size U z_233 hz_233) (cwV 0 hts (gL_in gL_law_X6_crash) rfl rfl rfl (by decide +kernel) ⟨Nat.le_of_ble_eq_true rfl, Nat.le_of_ble_eq_true rfl⟩) (fl_sub hP 0 rfl) hK (fl_subD (hDD U V g) 0 rfl) hS (fl_free (hDD U V g) hS hA 0 rfl) (va_recv hK (fl_sub (fl_sub hP 0 rfl) 0 rfl) (ci := 6) (q0 := 0) rfl rfl) rfl rfl hl.1 (Nat.le_of_ble_eq_true rfl) dL_law_1715 ⟨(by show _ ≤ 600002; omega), (by show _ ≤ 7302232; omega)⟩ (fun H1 locs hP1 hk1 hS => ?_)
  have hP : va_P D cls (wW cI cZ cJ cT a am b z_233.2 V g) H1 := fl_join hP (hDD U V g) 0 rfl hk1 hP1
  clear hP1 hk1
  generalize H1 = H at hP hS ⊢
  refine lv_aload_n hx hb dL_law_1718 rfl (lv_at hl 2 rfl) ?_
  obtain ⟨z_234, hz_234, hf⟩ := bn_some hf
  refine cWVi (As := []) (rest := [.int z_233.1]) ⟨hx, hb, hml, hown, hts⟩ (c_X7_crash l D cI cZ cJ cT am H.size V z_234 hz_234) (cwV 0 hts (gL_in gL_law_X7_crash) rfl rfl rfl (by decide +kernel) ⟨Nat.le_of_ble_eq_true rfl, Nat.le_of_ble_eq_true rfl⟩) (fl_sub hP 1 rfl) hK (fl_subD (hDD z_233.2 V g) 1 rfl) hS (fl_free (hDD z_233.2 V g) hS hA 1 rfl) (va_recv hK (fl_sub hP 1 rfl) (ci := 7) (q0 := 0) rfl rfl) rfl rfl hl.1 (Nat.le_of_ble_eq_true rfl) dL_law_1719 ⟨(by show _ ≤ 600002; omega), (by show _ ≤ 7302232; omega)⟩ (fun H1 locs hP1 hk1 hS => ?_)
  have hP : va_P D cls (wW cI cZ cJ cT a am b z_233.2 z_234.2 g) H1 := fl_join hP (hDD z_233.2 V g) 1 rfl hk1 hP1
  clear hP1 hk1
  generalize H1 = H at hP hS ⊢
  refine lv_icmp_eq (tgt := 2630) hx hb dL_law_1722 (by decide) (fun c_235 => ?_) (fun c_235 => ?_)
  · have hf := ite_t hf c_235
    refine lv_iinc (v := y + 5) (lv' := [(4, .int (y + 5)), (0, .ref sb), (1, .ref (a 0 0)), (2, .ref (am 0)), (3, .ref b)]) hx hb dL_law_2630 hl (k := 4) rfl rfl (by decide) rfl (fun ls hl => ?_)
    refine lv_goto (tgt := 23) hx hb dL_law_2633 (by decide) ?_
    exact ih _ _ _ _ _ _ _ _ _ hf hP hS (lv_sub hl [1, 2, 3, 4, 0] rfl) (by omega) (by omega) (by omega) (by omega)
  · have hf := ite_f hf c_235
    refine lv_iconst (v := 0) hx hb dL_law_1725 (by decide) ?_
    exact absurd (Option.some.inj hf) (by decide)
def law_B23 (L : Nat) (xs : Nat → Int32) (r23 : Int32 → S2 → S1 → (Nat → Int64) → Option Int32) (y : Int32) (U : S2) (V : S1) (g : Nat → Int64) : Option Int32 := bn (f_L_snapshot U g) (fun z_236 => bn (f_X7_snapshot V) (fun z_237 => bn (f_X7_thrown z_237.2) (fun z_238 => if z_238 = z_236.1 then if z_236.1 = 0 then if (lg_cmp (z_236.2.2 (0 : Int32).toNatClampNeg) z_237.1.toInt64) = 0 then r23 (y + 5) z_236.2.1 z_237.2 z_236.2.2 else some 0 else r23 (y + 5) z_236.2.1 z_237.2 z_236.2.2 else some 0)))
set_option maxHeartbeats 40000000 in
set_option maxRecDepth 100000 in
theorem law_case23 {p : Program} {l : Launch} {e : Env} {s : State} {m : MethodId} {below : List Frame} {meth : Method} {c : Code} {D : va_G} {cI cZ cJ cT : ClassId} {sb L : Nat} {xs : Nat → Int32} (hst : l.stackTraces = false) (C0 : lw_At p s m meth c sb L xs) (hK : va_K D cls (tys cI cZ cJ cT) s) (hE : EX (fun q : Nat => s.heap.size ≤ q) s) (hNC : NC s) (a : Nat → Nat → Nat) (am : Nat → Nat) (b : Nat) (hDD : ∀ (U : S2) (V : S1) (g : Nat → Int64), va_D (fun q : Nat => s.heap.size ≤ q) (wW cI cZ cJ cT a am b U V g)) (r23 : Int32 → S2 → S1 → (Nat → Int64) → Option Int32) (n : Nat) (ih : ∀ (y : Int32) (U : S2) (V : S1) (g : Nat → Int64) (H : Heap) (locs : List Loc) (ls : Array Slot) (nc ns : Nat), r23 y U V g = some 1 → va_P D cls (wW cI cZ cJ cT a am b U V g) H → va_S (fun q : Nat => s.heap.size ≤ q) s.heap H locs → lv_has ls 7 [(0, .ref sb), (1, .ref (a 0 0)), (2, .ref (am 0)), (3, .ref b), (4, .int y)] → nc + 8 * n ≤ 600002 → ns + 48 * n ≤ 7302232 → nc ≤ 600002 → ns ≤ 7302232 → W p l e room_1 s m #[Value.ref sb] below meth c H locs nc ns (lw_Z below #[Value.ref sb] s) (F0 m 23 ls [])) (y : Int32) (U : S2) (V : S1) (g : Nat → Int64) (H : Heap) (locs : List Loc) (ls : Array Slot) (nc ns : Nat) (hf : law_B23 L xs r23 y U V g = some 1) (hP : va_P D cls (wW cI cZ cJ cT a am b U V g) H) (hS : va_S (fun q : Nat => s.heap.size ≤ q) s.heap H locs) (hl : lv_has ls 7 [(0, .ref sb), (1, .ref (a 0 0)), (2, .ref (am 0)), (3, .ref b), (4, .int y)]) (hc1 : nc + 8 * (n + 1) ≤ 600002) (hc2 : ns + 48 * (n + 1) ≤ 7302232) (hc3 : nc ≤ 600002) (hc4 : ns ≤ 7302232) : W p l e room_1 s m #[Value.ref sb] below meth c H locs nc ns (lw_Z below #[Value.ref sb] s) (F0 m 1727 ls []) := by
  obtain ⟨hx, hb, hr, hml, hown, hts, hX, hbl, hlocks, hgv⟩ := id C0
  have hA : ∀ q : Nat, s.heap.size ≤ q → (fun q : Nat => s.heap.size ≤ q) q := fun _ h => h
  have hbA : ¬ (fun q : Nat => s.heap.size ≤ q) sb := Nat.not_le.mpr hbl
  unfold law_B23 at hf
  refine lv_aload_n hx hb dL_law_1727 rfl (lv_at hl 1 rfl) ?_
  refine lv_aload_n hx hb dL_law_1728 rfl (lv_at hl 3 rfl) ?_
  obtain ⟨z_236, hz_236, hf⟩ := bn_some hf
  refine cLS (As := [.ref (a 0 0), .ref b]) (rest := []) ⟨hx, hb, hml, hown, hts⟩ (c_L_snapshot l hst D cI cZ cJ cT a b H.size U g z_236 hz_236) (vx_cwSW 2 hts (gM_law (gL_in gL_law_L_snapshot) gLK) rfl rfl rfl (by decide +kernel) ⟨Nat.le_of_ble_eq_true rfl, Nat.le_of_ble_eq_true rfl⟩) (fl_subM hP [0, 2] rfl) hK (fl_subDM (hDD U V g) [0, 2] rfl rfl) hE hNC hS (own_free (fl_subDM (hDD U V g) [0, 2] rfl rfl) hS hA) rfl rfl hl.1 (Nat.le_of_ble_eq_true rfl) dL_law_1729 ⟨(by show _ ≤ 600002; omega), (by show _ ≤ 7302232; omega)⟩ (fun H1 locs hP1 hk1 hS => ?_)
  have hP : va_P D cls (wW cI cZ cJ cT a am b z_236.2.1 V z_236.2.2) H1 := fl_joinM (cs' := [wI cI cZ cT a z_236.2.1, [(b, .inl (cJ, 1, .inr (.inl z_236.2.2)))]]) hP (hDD U V g) [0, 2] rfl rfl hk1 hP1
  clear hP1 hk1
  generalize H1 = H at hP hS ⊢
  refine lv_istore (lv' := [(5, .int z_236.1), (0, .ref sb), (1, .ref (a 0 0)), (2, .ref (am 0)), (3, .ref b), (4, .int y)]) hx hb dL_law_1732 hl (by decide) rfl (fun ls hl => ?_)
  refine lv_aload_n hx hb dL_law_1734 rfl (lv_at hl 3 rfl) ?_
  obtain ⟨z_237, hz_237, hf⟩ := bn_some hf
  refine cWVi (As := []) (rest := []) ⟨hx, hb, hml, hown, hts⟩ (c_X7_snapshot l D cI cZ cJ cT am H.size V z_237 hz_237) (cwV 0 hts (gL_in gL_law_X7_snapshot) rfl rfl rfl (by decide +kernel) ⟨Nat.le_of_ble_eq_true rfl, Nat.le_of_ble_eq_true rfl⟩) (fl_sub hP 1 rfl) hK (fl_subD (hDD z_236.2.1 V z_236.2.2) 1 rfl) hS (fl_free (hDD z_236.2.1 V z_236.2.2) hS hA 1 rfl) (va_recv hK (fl_sub hP 1 rfl) (ci := 7) (q0 := 0) rfl rfl) rfl rfl hl.1 (Nat.le_of_ble_eq_true rfl) dL_law_1735 ⟨(by show _ ≤ 600002; omega), (by show _ ≤ 7302232; omega)⟩ (fun H1 locs hP1 hk1 hS => ?_)
  have hP : va_P D cls (wW cI cZ cJ cT a am b z_236.2.1 z_237.2 z_236.2.2) H1 := fl_join hP (hDD z_236.2.1 V z_236.2.2) 1 rfl hk1 hP1
  clear hP1 hk1
  generalize H1 = H at hP hS ⊢
  refine lv_istore (lv' := [(6, .int z_237.1), (5, .int z_236.1), (0, .ref sb), (1, .ref (a 0 0)), (2, .ref (am 0)), (3, .ref b), (4, .int y)]) hx hb dL_law_1738 hl (by decide) rfl (fun ls hl => ?_)
  refine lv_aload_n hx hb dL_law_1740 rfl (lv_at hl 4 rfl) ?_
  obtain ⟨z_238, hz_238, hf⟩ := bn_some hf
  refine cRV (As := []) (rest := []) ⟨hx, hb, hml, hown, hts⟩ (c_X7_thrown l D cI cZ cJ cT am z_237.2 z_238 hz_238) (cwV 0 hts (gL_in gL_law_X7_thrown) rfl rfl rfl (by decide +kernel) ⟨Nat.le_of_ble_eq_true rfl, Nat.le_of_ble_eq_true rfl⟩) (fl_sub hP 1 rfl) hK (va_recv hK (fl_sub hP 1 rfl) (ci := 7) (q0 := 0) rfl rfl) rfl rfl hl.1 (Nat.le_of_ble_eq_true rfl) dL_law_1741 ⟨(by show _ ≤ 600002; omega), (by show _ ≤ 7302232; omega)⟩ ?_
  refine lv_iload hx hb dL_law_1744 (lv_at hl 1 rfl) ?_
  refine lv_icmp_eq (tgt := 1751) hx hb dL_law_1746 (by decide) (fun c_239 => ?_) (fun c_239 => ?_)
  · have hf := ite_t hf c_239
    refine lv_iload hx hb dL_law_1751 (lv_at hl 1 rfl) ?_
    refine lv_if_ne (tgt := 1768) hx hb dL_law_1753 (by decide) (fun c_240 => ?_) (fun c_240 => ?_)
    · have hf := ite_f hf c_240
      refine lv_goto (tgt := 2630) hx hb dL_law_1768 (by decide) ?_
      refine lv_iinc (v := y + 5) (lv' := [(4, .int (y + 5)), (6, .int z_237.1), (5, .int z_236.1), (0, .ref sb), (1, .ref (a 0 0)), (2, .ref (am 0)), (3, .ref b)]) hx hb dL_law_2630 hl (k := 6) rfl rfl (by decide) rfl (fun ls hl => ?_)
      refine lv_goto (tgt := 23) hx hb dL_law_2633 (by decide) ?_
      exact ih _ _ _ _ _ _ _ _ _ hf hP hS (lv_sub hl [3, 4, 5, 6, 0] rfl) (by omega) (by omega) (by omega) (by omega)
    · have hf := ite_t hf c_240
      refine lv_aload_n hx hb dL_law_1756 rfl (lv_at hl 5 rfl) ?_
      refine lv_iconst (v := 0) hx hb dL_law_1757 (by decide) ?_
      refine va_lald hx hb hK hP 100 2 rfl rfl (inb_in (i := 0) (n := 1) (by decide)) dL_law_1758 ?_
      refine lv_iload hx hb dL_law_1759 (lv_at hl 0 rfl) ?_
      refine lv_i2l (v := z_237.1.toInt64) hx hb dL_law_1761 rfl ?_
      refine W.lcmp hx hb dL_law_1762 ?_
      refine lv_if_eq (tgt := 1768) hx hb dL_law_1763 (by decide) (fun c_241 => ?_) (fun c_241 => ?_)
      · have hf := ite_t hf c_241
        refine lv_goto (tgt := 2630) hx hb dL_law_1768 (by decide) ?_
        refine lv_iinc (v := y + 5) (lv' := [(4, .int (y + 5)), (6, .int z_237.1), (5, .int z_236.1), (0, .ref sb), (1, .ref (a 0 0)), (2, .ref (am 0)), (3, .ref b)]) hx hb dL_law_2630 hl (k := 6) rfl rfl (by decide) rfl (fun ls hl => ?_)
        refine lv_goto (tgt := 23) hx hb dL_law_2633 (by decide) ?_
        exact ih _ _ _ _ _ _ _ _ _ hf hP hS (lv_sub hl [3, 4, 5, 6, 0] rfl) (by omega) (by omega) (by omega) (by omega)
      · have hf := ite_f hf c_241
        refine lv_iconst (v := 0) hx hb dL_law_1766 (by decide) ?_
        exact absurd (Option.some.inj hf) (by decide)
  · have hf := ite_f hf c_239
    refine lv_iconst (v := 0) hx hb dL_law_1749 (by decide) ?_
    exact absurd (Option.some.inj hf) (by decide)
def law_B24 (L : Nat) (xs : Nat → Int32) (r23 : Int32 → S2 → S1 → (Nat → Int64) → Option Int32) (y : Int32) (U : S2) (V : S1) (g : Nat → Int64) : Option Int32 := chk (inb (y + 1) L) (bn (f_L_drop U g (xs (y + 1).toNatClampNeg)) (fun z_242 => chk (inb (y + 1) L) (bn (f_X7_drop V (xs (y + 1).toNatClampNeg)) (fun z_243 => bn (f_X7_thrown z_243.2) (fun z_244 => if z_244 = z_242.1 then if z_242.1 = 0 then if (lg_cmp (z_242.2.2 (0 : Int32).toNatClampNeg) z_243.1.toInt64) = 0 then r23 (y + 5) z_242.2.1 z_243.2 z_242.2.2 else some 0 else r23 (y + 5) z_242.2.1 z_243.2 z_242.2.2 else some 0)))))
set_option maxHeartbeats 40000000 in
set_option maxRecDepth 100000 in
theorem law_case24 {p : Program} {l : Launch} {e : Env} {s : State} {m : MethodId} {below : List Frame} {meth : Method} {c : Code} {D : va_G} {cI cZ cJ cT : ClassId} {sb L : Nat} {xs : Nat → Int32} (hst : l.stackTraces = false) (C0 : lw_At p s m meth c sb L xs) (hK : va_K D cls (tys cI cZ cJ cT) s) (hE : EX (fun q : Nat => s.heap.size ≤ q) s) (hNC : NC s) (a : Nat → Nat → Nat) (am : Nat → Nat) (b : Nat) (hDD : ∀ (U : S2) (V : S1) (g : Nat → Int64), va_D (fun q : Nat => s.heap.size ≤ q) (wW cI cZ cJ cT a am b U V g)) (r23 : Int32 → S2 → S1 → (Nat → Int64) → Option Int32) (n : Nat) (ih : ∀ (y : Int32) (U : S2) (V : S1) (g : Nat → Int64) (H : Heap) (locs : List Loc) (ls : Array Slot) (nc ns : Nat), r23 y U V g = some 1 → va_P D cls (wW cI cZ cJ cT a am b U V g) H → va_S (fun q : Nat => s.heap.size ≤ q) s.heap H locs → lv_has ls 7 [(0, .ref sb), (1, .ref (a 0 0)), (2, .ref (am 0)), (3, .ref b), (4, .int y)] → nc + 8 * n ≤ 600002 → ns + 48 * n ≤ 7302232 → nc ≤ 600002 → ns ≤ 7302232 → W p l e room_1 s m #[Value.ref sb] below meth c H locs nc ns (lw_Z below #[Value.ref sb] s) (F0 m 23 ls [])) (y : Int32) (U : S2) (V : S1) (g : Nat → Int64) (H : Heap) (locs : List Loc) (ls : Array Slot) (nc ns : Nat) (hf : law_B24 L xs r23 y U V g = some 1) (hP : va_P D cls (wW cI cZ cJ cT a am b U V g) H) (hS : va_S (fun q : Nat => s.heap.size ≤ q) s.heap H locs) (hl : lv_has ls 7 [(0, .ref sb), (1, .ref (a 0 0)), (2, .ref (am 0)), (3, .ref b), (4, .int y)]) (hc1 : nc + 8 * (n + 1) ≤ 600002) (hc2 : ns + 48 * (n + 1) ≤ 7302232) (hc3 : nc ≤ 600002) (hc4 : ns ≤ 7302232) : W p l e room_1 s m #[Value.ref sb] below meth c H locs nc ns (lw_Z below #[Value.ref sb] s) (F0 m 1771 ls []) := by
  obtain ⟨hx, hb, hr, hml, hown, hts, hX, hbl, hlocks, hgv⟩ := id C0
  have hA : ∀ q : Nat, s.heap.size ≤ q → (fun q : Nat => s.heap.size ≤ q) q := fun _ h => h
  have hbA : ¬ (fun q : Nat => s.heap.size ≤ q) sb := Nat.not_le.mpr hbl
  unfold law_B24 at hf
  refine lv_aload_n hx hb dL_law_1771 rfl (lv_at hl 1 rfl) ?_
  refine lv_aload_n hx hb dL_law_1772 rfl (lv_at hl 0 rfl) ?_
  refine lv_iload hx hb dL_law_1773 (lv_at hl 4 rfl) ?_
  refine lv_iconst (v := 1) hx hb dL_law_1775 (by decide) ?_
  refine lv_iadd hx hb dL_law_1776 ?_
  obtain ⟨hi, hf⟩ := chk_some hf
  refine va_sld hx hb hX hbl hbA hS (inb_in hi) dL_law_1777 ?_
  refine lv_aload_n hx hb dL_law_1778 rfl (lv_at hl 3 rfl) ?_
  obtain ⟨z_242, hz_242, hf⟩ := bn_some hf
  refine cLS (As := [.ref (a 0 0), .int (xs (y + 1).toNatClampNeg), .ref b]) (rest := []) ⟨hx, hb, hml, hown, hts⟩ (c_L_drop l hst D cI cZ cJ cT a b H.size U g (xs (y + 1).toNatClampNeg) z_242 hz_242) (vx_cwSW 3 hts (gM_law (gL_in gL_law_L_drop) gLK) rfl rfl rfl (by decide +kernel) ⟨Nat.le_of_ble_eq_true rfl, Nat.le_of_ble_eq_true rfl⟩) (fl_subM hP [0, 2] rfl) hK (fl_subDM (hDD U V g) [0, 2] rfl rfl) hE hNC hS (own_free (fl_subDM (hDD U V g) [0, 2] rfl rfl) hS hA) rfl rfl hl.1 (Nat.le_of_ble_eq_true rfl) dL_law_1779 ⟨(by show _ ≤ 600002; omega), (by show _ ≤ 7302232; omega)⟩ (fun H1 locs hP1 hk1 hS => ?_)
  have hP : va_P D cls (wW cI cZ cJ cT a am b z_242.2.1 V z_242.2.2) H1 := fl_joinM (cs' := [wI cI cZ cT a z_242.2.1, [(b, .inl (cJ, 1, .inr (.inl z_242.2.2)))]]) hP (hDD U V g) [0, 2] rfl rfl hk1 hP1
  clear hP1 hk1
  generalize H1 = H at hP hS ⊢
  refine lv_istore (lv' := [(5, .int z_242.1), (0, .ref sb), (1, .ref (a 0 0)), (2, .ref (am 0)), (3, .ref b), (4, .int y)]) hx hb dL_law_1782 hl (by decide) rfl (fun ls hl => ?_)
  refine lv_aload_n hx hb dL_law_1784 rfl (lv_at hl 3 rfl) ?_
  refine lv_aload_n hx hb dL_law_1785 rfl (lv_at hl 1 rfl) ?_
  refine lv_iload hx hb dL_law_1786 (lv_at hl 5 rfl) ?_
  refine lv_iconst (v := 1) hx hb dL_law_1788 (by decide) ?_
  refine lv_iadd hx hb dL_law_1789 ?_
  obtain ⟨hi, hf⟩ := chk_some hf
  refine va_sld hx hb hX hbl hbA hS (inb_in hi) dL_law_1790 ?_
  obtain ⟨z_243, hz_243, hf⟩ := bn_some hf
  refine cWVi (As := [.int (xs (y + 1).toNatClampNeg)]) (rest := []) ⟨hx, hb, hml, hown, hts⟩ (c_X7_drop l D cI cZ cJ cT am H.size V (xs (y + 1).toNatClampNeg) z_243 hz_243) (cwV 1 hts (gL_in gL_law_X7_drop) rfl rfl rfl (by decide +kernel) ⟨Nat.le_of_ble_eq_true rfl, Nat.le_of_ble_eq_true rfl⟩) (fl_sub hP 1 rfl) hK (fl_subD (hDD z_242.2.1 V z_242.2.2) 1 rfl) hS (fl_free (hDD z_242.2.1 V z_242.2.2) hS hA 1 rfl) (va_recv hK (fl_sub hP 1 rfl) (ci := 7) (q0 := 0) rfl rfl) rfl rfl hl.1 (Nat.le_of_ble_eq_true rfl) dL_law_1791 ⟨(by show _ ≤ 600002; omega), (by show _ ≤ 7302232; omega)⟩ (fun H1 locs hP1 hk1 hS => ?_)
  have hP : va_P D cls (wW cI cZ cJ cT a am b z_242.2.1 z_243.2 z_242.2.2) H1 := fl_join hP (hDD z_242.2.1 V z_242.2.2) 1 rfl hk1 hP1
  clear hP1 hk1
  generalize H1 = H at hP hS ⊢
  refine lv_istore (lv' := [(6, .int z_243.1), (5, .int z_242.1), (0, .ref sb), (1, .ref (a 0 0)), (2, .ref (am 0)), (3, .ref b), (4, .int y)]) hx hb dL_law_1794 hl (by decide) rfl (fun ls hl => ?_)
  refine lv_aload_n hx hb dL_law_1796 rfl (lv_at hl 4 rfl) ?_
  obtain ⟨z_244, hz_244, hf⟩ := bn_some hf
  refine cRV (As := []) (rest := []) ⟨hx, hb, hml, hown, hts⟩ (c_X7_thrown l D cI cZ cJ cT am z_243.2 z_244 hz_244) (cwV 0 hts (gL_in gL_law_X7_thrown) rfl rfl rfl (by decide +kernel) ⟨Nat.le_of_ble_eq_true rfl, Nat.le_of_ble_eq_true rfl⟩) (fl_sub hP 1 rfl) hK (va_recv hK (fl_sub hP 1 rfl) (ci := 7) (q0 := 0) rfl rfl) rfl rfl hl.1 (Nat.le_of_ble_eq_true rfl) dL_law_1797 ⟨(by show _ ≤ 600002; omega), (by show _ ≤ 7302232; omega)⟩ ?_
  refine lv_iload hx hb dL_law_1800 (lv_at hl 1 rfl) ?_
  refine lv_icmp_eq (tgt := 1807) hx hb dL_law_1802 (by decide) (fun c_245 => ?_) (fun c_245 => ?_)
  · have hf := ite_t hf c_245
    refine lv_iload hx hb dL_law_1807 (lv_at hl 1 rfl) ?_
    refine lv_if_ne (tgt := 1824) hx hb dL_law_1809 (by decide) (fun c_246 => ?_) (fun c_246 => ?_)
    · have hf := ite_f hf c_246
      refine lv_goto (tgt := 2630) hx hb dL_law_1824 (by decide) ?_
      refine lv_iinc (v := y + 5) (lv' := [(4, .int (y + 5)), (6, .int z_243.1), (5, .int z_242.1), (0, .ref sb), (1, .ref (a 0 0)), (2, .ref (am 0)), (3, .ref b)]) hx hb dL_law_2630 hl (k := 6) rfl rfl (by decide) rfl (fun ls hl => ?_)
      refine lv_goto (tgt := 23) hx hb dL_law_2633 (by decide) ?_
      exact ih _ _ _ _ _ _ _ _ _ hf hP hS (lv_sub hl [3, 4, 5, 6, 0] rfl) (by omega) (by omega) (by omega) (by omega)
    · have hf := ite_t hf c_246
      refine lv_aload_n hx hb dL_law_1812 rfl (lv_at hl 5 rfl) ?_
      refine lv_iconst (v := 0) hx hb dL_law_1813 (by decide) ?_
      refine va_lald hx hb hK hP 100 2 rfl rfl (inb_in (i := 0) (n := 1) (by decide)) dL_law_1814 ?_
      refine lv_iload hx hb dL_law_1815 (lv_at hl 0 rfl) ?_
      refine lv_i2l (v := z_243.1.toInt64) hx hb dL_law_1817 rfl ?_
      refine W.lcmp hx hb dL_law_1818 ?_
      refine lv_if_eq (tgt := 1824) hx hb dL_law_1819 (by decide) (fun c_247 => ?_) (fun c_247 => ?_)
      · have hf := ite_t hf c_247
        refine lv_goto (tgt := 2630) hx hb dL_law_1824 (by decide) ?_
        refine lv_iinc (v := y + 5) (lv' := [(4, .int (y + 5)), (6, .int z_243.1), (5, .int z_242.1), (0, .ref sb), (1, .ref (a 0 0)), (2, .ref (am 0)), (3, .ref b)]) hx hb dL_law_2630 hl (k := 6) rfl rfl (by decide) rfl (fun ls hl => ?_)
        refine lv_goto (tgt := 23) hx hb dL_law_2633 (by decide) ?_
        exact ih _ _ _ _ _ _ _ _ _ hf hP hS (lv_sub hl [3, 4, 5, 6, 0] rfl) (by omega) (by omega) (by omega) (by omega)
      · have hf := ite_f hf c_247
        refine lv_iconst (v := 0) hx hb dL_law_1822 (by decide) ?_
        exact absurd (Option.some.inj hf) (by decide)
  · have hf := ite_f hf c_245
    refine lv_iconst (v := 0) hx hb dL_law_1805 (by decide) ?_
    exact absurd (Option.some.inj hf) (by decide)
def law_B25 (L : Nat) (xs : Nat → Int32) (r23 : Int32 → S2 → S1 → (Nat → Int64) → Option Int32) (y : Int32) (U : S2) (V : S1) (g : Nat → Int64) : Option Int32 := chk (inb (y + 1) L) (chk (inb (y + 2) L) (chk (inb (y + 3) L) (bn (f_L_readOld U g (xs (y + 1).toNatClampNeg) (xs (y + 2).toNatClampNeg) (xs (y + 3).toNatClampNeg)) (fun z_248 => chk (inb (y + 1) L) (chk (inb (y + 2) L) (chk (inb (y + 3) L) (bn (f_X7_readOld V (xs (y + 1).toNatClampNeg) (xs (y + 2).toNatClampNeg) (xs (y + 3).toNatClampNeg)) (fun z_249 => bn (f_X7_thrown z_249.2) (fun z_250 => if z_250 = z_248.1 then if z_248.1 = 0 then if (lg_cmp (z_248.2.2 (0 : Int32).toNatClampNeg) z_249.1.toInt64) = 0 then r23 (y + 5) z_248.2.1 z_249.2 z_248.2.2 else some 0 else r23 (y + 5) z_248.2.1 z_249.2 z_248.2.2 else some 0)))))))))
set_option maxHeartbeats 40000000 in
set_option maxRecDepth 100000 in
theorem law_case25 {p : Program} {l : Launch} {e : Env} {s : State} {m : MethodId} {below : List Frame} {meth : Method} {c : Code} {D : va_G} {cI cZ cJ cT : ClassId} {sb L : Nat} {xs : Nat → Int32} (hst : l.stackTraces = false) (C0 : lw_At p s m meth c sb L xs) (hK : va_K D cls (tys cI cZ cJ cT) s) (hE : EX (fun q : Nat => s.heap.size ≤ q) s) (hNC : NC s) (a : Nat → Nat → Nat) (am : Nat → Nat) (b : Nat) (hDD : ∀ (U : S2) (V : S1) (g : Nat → Int64), va_D (fun q : Nat => s.heap.size ≤ q) (wW cI cZ cJ cT a am b U V g)) (r23 : Int32 → S2 → S1 → (Nat → Int64) → Option Int32) (n : Nat) (ih : ∀ (y : Int32) (U : S2) (V : S1) (g : Nat → Int64) (H : Heap) (locs : List Loc) (ls : Array Slot) (nc ns : Nat), r23 y U V g = some 1 → va_P D cls (wW cI cZ cJ cT a am b U V g) H → va_S (fun q : Nat => s.heap.size ≤ q) s.heap H locs → lv_has ls 7 [(0, .ref sb), (1, .ref (a 0 0)), (2, .ref (am 0)), (3, .ref b), (4, .int y)] → nc + 8 * n ≤ 600002 → ns + 48 * n ≤ 7302232 → nc ≤ 600002 → ns ≤ 7302232 → W p l e room_1 s m #[Value.ref sb] below meth c H locs nc ns (lw_Z below #[Value.ref sb] s) (F0 m 23 ls [])) (y : Int32) (U : S2) (V : S1) (g : Nat → Int64) (H : Heap) (locs : List Loc) (ls : Array Slot) (nc ns : Nat) (hf : law_B25 L xs r23 y U V g = some 1) (hP : va_P D cls (wW cI cZ cJ cT a am b U V g) H) (hS : va_S (fun q : Nat => s.heap.size ≤ q) s.heap H locs) (hl : lv_has ls 7 [(0, .ref sb), (1, .ref (a 0 0)), (2, .ref (am 0)), (3, .ref b), (4, .int y)]) (hc1 : nc + 8 * (n + 1) ≤ 600002) (hc2 : ns + 48 * (n + 1) ≤ 7302232) (hc3 : nc ≤ 600002) (hc4 : ns ≤ 7302232) : W p l e room_1 s m #[Value.ref sb] below meth c H locs nc ns (lw_Z below #[Value.ref sb] s) (F0 m 1827 ls []) := by
  obtain ⟨hx, hb, hr, hml, hown, hts, hX, hbl, hlocks, hgv⟩ := id C0
  have hA : ∀ q : Nat, s.heap.size ≤ q → (fun q : Nat => s.heap.size ≤ q) q := fun _ h => h
  have hbA : ¬ (fun q : Nat => s.heap.size ≤ q) sb := Nat.not_le.mpr hbl
  unfold law_B25 at hf
  refine lv_aload_n hx hb dL_law_1827 rfl (lv_at hl 1 rfl) ?_
  refine lv_aload_n hx hb dL_law_1828 rfl (lv_at hl 0 rfl) ?_
  refine lv_iload hx hb dL_law_1829 (lv_at hl 4 rfl) ?_
  refine lv_iconst (v := 1) hx hb dL_law_1831 (by decide) ?_
  refine lv_iadd hx hb dL_law_1832 ?_
  obtain ⟨hi, hf⟩ := chk_some hf
  refine va_sld hx hb hX hbl hbA hS (inb_in hi) dL_law_1833 ?_
  refine lv_aload_n hx hb dL_law_1834 rfl (lv_at hl 0 rfl) ?_
  refine lv_iload hx hb dL_law_1835 (lv_at hl 4 rfl) ?_
  refine lv_iconst (v := 2) hx hb dL_law_1837 (by decide) ?_
  refine lv_iadd hx hb dL_law_1838 ?_
  obtain ⟨hi, hf⟩ := chk_some hf
  refine va_sld hx hb hX hbl hbA hS (inb_in hi) dL_law_1839 ?_
  refine lv_aload_n hx hb dL_law_1840 rfl (lv_at hl 0 rfl) ?_
  refine lv_iload hx hb dL_law_1841 (lv_at hl 4 rfl) ?_
  refine lv_iconst (v := 3) hx hb dL_law_1843 (by decide) ?_
  refine lv_iadd hx hb dL_law_1844 ?_
  obtain ⟨hi, hf⟩ := chk_some hf
  refine va_sld hx hb hX hbl hbA hS (inb_in hi) dL_law_1845 ?_
  refine lv_aload_n hx hb dL_law_1846 rfl (lv_at hl 3 rfl) ?_
  obtain ⟨z_248, hz_248, hf⟩ := bn_some hf
  refine cLS (As := [.ref (a 0 0), .int (xs (y + 1).toNatClampNeg), .int (xs (y + 2).toNatClampNeg), .int (xs (y + 3).toNatClampNeg), .ref b]) (rest := []) ⟨hx, hb, hml, hown, hts⟩ (c_L_readOld l hst D cI cZ cJ cT a b H.size U g (xs (y + 1).toNatClampNeg) (xs (y + 2).toNatClampNeg) (xs (y + 3).toNatClampNeg) z_248 hz_248) (vx_cwSW 5 hts (gM_law (gL_in gL_law_L_readOld) gLK) rfl rfl rfl (by decide +kernel) ⟨Nat.le_of_ble_eq_true rfl, Nat.le_of_ble_eq_true rfl⟩) (fl_subM hP [0, 2] rfl) hK (fl_subDM (hDD U V g) [0, 2] rfl rfl) hE hNC hS (own_free (fl_subDM (hDD U V g) [0, 2] rfl rfl) hS hA) rfl rfl hl.1 (Nat.le_of_ble_eq_true rfl) dL_law_1847 ⟨(by show _ ≤ 600002; omega), (by show _ ≤ 7302232; omega)⟩ (fun H1 locs hP1 hk1 hS => ?_)
  have hP : va_P D cls (wW cI cZ cJ cT a am b z_248.2.1 V z_248.2.2) H1 := fl_joinM (cs' := [wI cI cZ cT a z_248.2.1, [(b, .inl (cJ, 1, .inr (.inl z_248.2.2)))]]) hP (hDD U V g) [0, 2] rfl rfl hk1 hP1
  clear hP1 hk1
  generalize H1 = H at hP hS ⊢
  refine lv_istore (lv' := [(5, .int z_248.1), (0, .ref sb), (1, .ref (a 0 0)), (2, .ref (am 0)), (3, .ref b), (4, .int y)]) hx hb dL_law_1850 hl (by decide) rfl (fun ls hl => ?_)
  refine lv_aload_n hx hb dL_law_1852 rfl (lv_at hl 3 rfl) ?_
  refine lv_aload_n hx hb dL_law_1853 rfl (lv_at hl 1 rfl) ?_
  refine lv_iload hx hb dL_law_1854 (lv_at hl 5 rfl) ?_
  refine lv_iconst (v := 1) hx hb dL_law_1856 (by decide) ?_
  refine lv_iadd hx hb dL_law_1857 ?_
  obtain ⟨hi, hf⟩ := chk_some hf
  refine va_sld hx hb hX hbl hbA hS (inb_in hi) dL_law_1858 ?_
  refine lv_aload_n hx hb dL_law_1859 rfl (lv_at hl 1 rfl) ?_
  refine lv_iload hx hb dL_law_1860 (lv_at hl 5 rfl) ?_
  refine lv_iconst (v := 2) hx hb dL_law_1862 (by decide) ?_
  refine lv_iadd hx hb dL_law_1863 ?_
  obtain ⟨hi, hf⟩ := chk_some hf
  refine va_sld hx hb hX hbl hbA hS (inb_in hi) dL_law_1864 ?_
  refine lv_aload_n hx hb dL_law_1865 rfl (lv_at hl 1 rfl) ?_
  refine lv_iload hx hb dL_law_1866 (lv_at hl 5 rfl) ?_
  refine lv_iconst (v := 3) hx hb dL_law_1868 (by decide) ?_
  refine lv_iadd hx hb dL_law_1869 ?_
  obtain ⟨hi, hf⟩ := chk_some hf
  refine va_sld hx hb hX hbl hbA hS (inb_in hi) dL_law_1870 ?_
  obtain ⟨z_249, hz_249, hf⟩ := bn_some hf
  refine cWVi (As := [.int (xs (y + 1).toNatClampNeg), .int (xs (y + 2).toNatClampNeg), .int (xs (y + 3).toNatClampNeg)]) (rest := []) ⟨hx, hb, hml, hown, hts⟩ (c_X7_readOld l D cI cZ cJ cT am H.size V (xs (y + 1).toNatClampNeg) (xs (y + 2).toNatClampNeg) (xs (y + 3).toNatClampNeg) z_249 hz_249) (cwV 3 hts (gL_in gL_law_X7_readOld) rfl rfl rfl (by decide +kernel) ⟨Nat.le_of_ble_eq_true rfl, Nat.le_of_ble_eq_true rfl⟩) (fl_sub hP 1 rfl) hK (fl_subD (hDD z_248.2.1 V z_248.2.2) 1 rfl) hS (fl_free (hDD z_248.2.1 V z_248.2.2) hS hA 1 rfl) (va_recv hK (fl_sub hP 1 rfl) (ci := 7) (q0 := 0) rfl rfl) rfl rfl hl.1 (Nat.le_of_ble_eq_true rfl) dL_law_1871 ⟨(by show _ ≤ 600002; omega), (by show _ ≤ 7302232; omega)⟩ (fun H1 locs hP1 hk1 hS => ?_)
  have hP : va_P D cls (wW cI cZ cJ cT a am b z_248.2.1 z_249.2 z_248.2.2) H1 := fl_join hP (hDD z_248.2.1 V z_248.2.2) 1 rfl hk1 hP1
  clear hP1 hk1
  generalize H1 = H at hP hS ⊢
  refine lv_istore (lv' := [(6, .int z_249.1), (5, .int z_248.1), (0, .ref sb), (1, .ref (a 0 0)), (2, .ref (am 0)), (3, .ref b), (4, .int y)]) hx hb dL_law_1874 hl (by decide) rfl (fun ls hl => ?_)
  refine lv_aload_n hx hb dL_law_1876 rfl (lv_at hl 4 rfl) ?_
  obtain ⟨z_250, hz_250, hf⟩ := bn_some hf
  refine cRV (As := []) (rest := []) ⟨hx, hb, hml, hown, hts⟩ (c_X7_thrown l D cI cZ cJ cT am z_249.2 z_250 hz_250) (cwV 0 hts (gL_in gL_law_X7_thrown) rfl rfl rfl (by decide +kernel) ⟨Nat.le_of_ble_eq_true rfl, Nat.le_of_ble_eq_true rfl⟩) (fl_sub hP 1 rfl) hK (va_recv hK (fl_sub hP 1 rfl) (ci := 7) (q0 := 0) rfl rfl) rfl rfl hl.1 (Nat.le_of_ble_eq_true rfl) dL_law_1877 ⟨(by show _ ≤ 600002; omega), (by show _ ≤ 7302232; omega)⟩ ?_
  refine lv_iload hx hb dL_law_1880 (lv_at hl 1 rfl) ?_
  refine lv_icmp_eq (tgt := 1887) hx hb dL_law_1882 (by decide) (fun c_251 => ?_) (fun c_251 => ?_)
  · have hf := ite_t hf c_251
    refine lv_iload hx hb dL_law_1887 (lv_at hl 1 rfl) ?_
    refine lv_if_ne (tgt := 1904) hx hb dL_law_1889 (by decide) (fun c_252 => ?_) (fun c_252 => ?_)
    · have hf := ite_f hf c_252
      refine lv_goto (tgt := 2630) hx hb dL_law_1904 (by decide) ?_
      refine lv_iinc (v := y + 5) (lv' := [(4, .int (y + 5)), (6, .int z_249.1), (5, .int z_248.1), (0, .ref sb), (1, .ref (a 0 0)), (2, .ref (am 0)), (3, .ref b)]) hx hb dL_law_2630 hl (k := 6) rfl rfl (by decide) rfl (fun ls hl => ?_)
      refine lv_goto (tgt := 23) hx hb dL_law_2633 (by decide) ?_
      exact ih _ _ _ _ _ _ _ _ _ hf hP hS (lv_sub hl [3, 4, 5, 6, 0] rfl) (by omega) (by omega) (by omega) (by omega)
    · have hf := ite_t hf c_252
      refine lv_aload_n hx hb dL_law_1892 rfl (lv_at hl 5 rfl) ?_
      refine lv_iconst (v := 0) hx hb dL_law_1893 (by decide) ?_
      refine va_lald hx hb hK hP 100 2 rfl rfl (inb_in (i := 0) (n := 1) (by decide)) dL_law_1894 ?_
      refine lv_iload hx hb dL_law_1895 (lv_at hl 0 rfl) ?_
      refine lv_i2l (v := z_249.1.toInt64) hx hb dL_law_1897 rfl ?_
      refine W.lcmp hx hb dL_law_1898 ?_
      refine lv_if_eq (tgt := 1904) hx hb dL_law_1899 (by decide) (fun c_253 => ?_) (fun c_253 => ?_)
      · have hf := ite_t hf c_253
        refine lv_goto (tgt := 2630) hx hb dL_law_1904 (by decide) ?_
        refine lv_iinc (v := y + 5) (lv' := [(4, .int (y + 5)), (6, .int z_249.1), (5, .int z_248.1), (0, .ref sb), (1, .ref (a 0 0)), (2, .ref (am 0)), (3, .ref b)]) hx hb dL_law_2630 hl (k := 6) rfl rfl (by decide) rfl (fun ls hl => ?_)
        refine lv_goto (tgt := 23) hx hb dL_law_2633 (by decide) ?_
        exact ih _ _ _ _ _ _ _ _ _ hf hP hS (lv_sub hl [3, 4, 5, 6, 0] rfl) (by omega) (by omega) (by omega) (by omega)
      · have hf := ite_f hf c_253
        refine lv_iconst (v := 0) hx hb dL_law_1902 (by decide) ?_
        exact absurd (Option.some.inj hf) (by decide)
  · have hf := ite_f hf c_251
    refine lv_iconst (v := 0) hx hb dL_law_1885 (by decide) ?_
    exact absurd (Option.some.inj hf) (by decide)
def law_B26 (L : Nat) (xs : Nat → Int32) (r23 : Int32 → S2 → S1 → (Nat → Int64) → Option Int32) (y : Int32) (U : S2) (V : S1) (g : Nat → Int64) : Option Int32 := chk (inb (y + 1) L) (chk (inb (y + 2) L) (bn (f_L_quota U g (xs (y + 1).toNatClampNeg) (xs (y + 2).toNatClampNeg)) (fun z_254 => chk (inb (y + 1) L) (chk (inb (y + 2) L) (bn (f_X7_quota V (xs (y + 1).toNatClampNeg) (xs (y + 2).toNatClampNeg)) (fun z_255 => bn (f_X7_thrown z_255.2) (fun z_256 => if z_256 = z_254.1 then if z_254.1 = 0 then if (lg_cmp (z_254.2.2 (0 : Int32).toNatClampNeg) z_255.1.toInt64) = 0 then r23 (y + 5) z_254.2.1 z_255.2 z_254.2.2 else some 0 else r23 (y + 5) z_254.2.1 z_255.2 z_254.2.2 else some 0)))))))
set_option maxHeartbeats 40000000 in
set_option maxRecDepth 100000 in
theorem law_case26 {p : Program} {l : Launch} {e : Env} {s : State} {m : MethodId} {below : List Frame} {meth : Method} {c : Code} {D : va_G} {cI cZ cJ cT : ClassId} {sb L : Nat} {xs : Nat → Int32} (hst : l.stackTraces = false) (C0 : lw_At p s m meth c sb L xs) (hK : va_K D cls (tys cI cZ cJ cT) s) (hE : EX (fun q : Nat => s.heap.size ≤ q) s) (hNC : NC s) (a : Nat → Nat → Nat) (am : Nat → Nat) (b : Nat) (hDD : ∀ (U : S2) (V : S1) (g : Nat → Int64), va_D (fun q : Nat => s.heap.size ≤ q) (wW cI cZ cJ cT a am b U V g)) (r23 : Int32 → S2 → S1 → (Nat → Int64) → Option Int32) (n : Nat) (ih : ∀ (y : Int32) (U : S2) (V : S1) (g : Nat → Int64) (H : Heap) (locs : List Loc) (ls : Array Slot) (nc ns : Nat), r23 y U V g = some 1 → va_P D cls (wW cI cZ cJ cT a am b U V g) H → va_S (fun q : Nat => s.heap.size ≤ q) s.heap H locs → lv_has ls 7 [(0, .ref sb), (1, .ref (a 0 0)), (2, .ref (am 0)), (3, .ref b), (4, .int y)] → nc + 8 * n ≤ 600002 → ns + 48 * n ≤ 7302232 → nc ≤ 600002 → ns ≤ 7302232 → W p l e room_1 s m #[Value.ref sb] below meth c H locs nc ns (lw_Z below #[Value.ref sb] s) (F0 m 23 ls [])) (y : Int32) (U : S2) (V : S1) (g : Nat → Int64) (H : Heap) (locs : List Loc) (ls : Array Slot) (nc ns : Nat) (hf : law_B26 L xs r23 y U V g = some 1) (hP : va_P D cls (wW cI cZ cJ cT a am b U V g) H) (hS : va_S (fun q : Nat => s.heap.size ≤ q) s.heap H locs) (hl : lv_has ls 7 [(0, .ref sb), (1, .ref (a 0 0)), (2, .ref (am 0)), (3, .ref b), (4, .int y)]) (hc1 : nc + 8 * (n + 1) ≤ 600002) (hc2 : ns + 48 * (n + 1) ≤ 7302232) (hc3 : nc ≤ 600002) (hc4 : ns ≤ 7302232) : W p l e room_1 s m #[Value.ref sb] below meth c H locs nc ns (lw_Z below #[Value.ref sb] s) (F0 m 1907 ls []) := by
  obtain ⟨hx, hb, hr, hml, hown, hts, hX, hbl, hlocks, hgv⟩ := id C0
  have hA : ∀ q : Nat, s.heap.size ≤ q → (fun q : Nat => s.heap.size ≤ q) q := fun _ h => h
  have hbA : ¬ (fun q : Nat => s.heap.size ≤ q) sb := Nat.not_le.mpr hbl
  unfold law_B26 at hf
  refine lv_aload_n hx hb dL_law_1907 rfl (lv_at hl 1 rfl) ?_
  refine lv_aload_n hx hb dL_law_1908 rfl (lv_at hl 0 rfl) ?_
  refine lv_iload hx hb dL_law_1909 (lv_at hl 4 rfl) ?_
  refine lv_iconst (v := 1) hx hb dL_law_1911 (by decide) ?_
  refine lv_iadd hx hb dL_law_1912 ?_
  obtain ⟨hi, hf⟩ := chk_some hf
  refine va_sld hx hb hX hbl hbA hS (inb_in hi) dL_law_1913 ?_
  refine lv_aload_n hx hb dL_law_1914 rfl (lv_at hl 0 rfl) ?_
  refine lv_iload hx hb dL_law_1915 (lv_at hl 4 rfl) ?_
  refine lv_iconst (v := 2) hx hb dL_law_1917 (by decide) ?_
  refine lv_iadd hx hb dL_law_1918 ?_
  obtain ⟨hi, hf⟩ := chk_some hf
  refine va_sld hx hb hX hbl hbA hS (inb_in hi) dL_law_1919 ?_
  refine lv_aload_n hx hb dL_law_1920 rfl (lv_at hl 3 rfl) ?_
  obtain ⟨z_254, hz_254, hf⟩ := bn_some hf
  refine cLS (As := [.ref (a 0 0), .int (xs (y + 1).toNatClampNeg), .int (xs (y + 2).toNatClampNeg), .ref b]) (rest := []) ⟨hx, hb, hml, hown, hts⟩ (c_L_quota l hst D cI cZ cJ cT a b H.size U g (xs (y + 1).toNatClampNeg) (xs (y + 2).toNatClampNeg) z_254 hz_254) (vx_cwSW 4 hts (gM_law (gL_in gL_law_L_quota) gLK) rfl rfl rfl (by decide +kernel) ⟨Nat.le_of_ble_eq_true rfl, Nat.le_of_ble_eq_true rfl⟩) (fl_subM hP [0, 2] rfl) hK (fl_subDM (hDD U V g) [0, 2] rfl rfl) hE hNC hS (own_free (fl_subDM (hDD U V g) [0, 2] rfl rfl) hS hA) rfl rfl hl.1 (Nat.le_of_ble_eq_true rfl) dL_law_1921 ⟨(by show _ ≤ 600002; omega), (by show _ ≤ 7302232; omega)⟩ (fun H1 locs hP1 hk1 hS => ?_)
  have hP : va_P D cls (wW cI cZ cJ cT a am b z_254.2.1 V z_254.2.2) H1 := fl_joinM (cs' := [wI cI cZ cT a z_254.2.1, [(b, .inl (cJ, 1, .inr (.inl z_254.2.2)))]]) hP (hDD U V g) [0, 2] rfl rfl hk1 hP1
  clear hP1 hk1
  generalize H1 = H at hP hS ⊢
  refine lv_istore (lv' := [(5, .int z_254.1), (0, .ref sb), (1, .ref (a 0 0)), (2, .ref (am 0)), (3, .ref b), (4, .int y)]) hx hb dL_law_1924 hl (by decide) rfl (fun ls hl => ?_)
  refine lv_aload_n hx hb dL_law_1926 rfl (lv_at hl 3 rfl) ?_
  refine lv_aload_n hx hb dL_law_1927 rfl (lv_at hl 1 rfl) ?_
  refine lv_iload hx hb dL_law_1928 (lv_at hl 5 rfl) ?_
  refine lv_iconst (v := 1) hx hb dL_law_1930 (by decide) ?_
  refine lv_iadd hx hb dL_law_1931 ?_
  obtain ⟨hi, hf⟩ := chk_some hf
  refine va_sld hx hb hX hbl hbA hS (inb_in hi) dL_law_1932 ?_
  refine lv_aload_n hx hb dL_law_1933 rfl (lv_at hl 1 rfl) ?_
  refine lv_iload hx hb dL_law_1934 (lv_at hl 5 rfl) ?_
  refine lv_iconst (v := 2) hx hb dL_law_1936 (by decide) ?_
  refine lv_iadd hx hb dL_law_1937 ?_
  obtain ⟨hi, hf⟩ := chk_some hf
  refine va_sld hx hb hX hbl hbA hS (inb_in hi) dL_law_1938 ?_
  obtain ⟨z_255, hz_255, hf⟩ := bn_some hf
  refine cWVi (As := [.int (xs (y + 1).toNatClampNeg), .int (xs (y + 2).toNatClampNeg)]) (rest := []) ⟨hx, hb, hml, hown, hts⟩ (c_X7_quota l D cI cZ cJ cT am H.size V (xs (y + 1).toNatClampNeg) (xs (y + 2).toNatClampNeg) z_255 hz_255) (cwV 2 hts (gL_in gL_law_X7_quota) rfl rfl rfl (by decide +kernel) ⟨Nat.le_of_ble_eq_true rfl, Nat.le_of_ble_eq_true rfl⟩) (fl_sub hP 1 rfl) hK (fl_subD (hDD z_254.2.1 V z_254.2.2) 1 rfl) hS (fl_free (hDD z_254.2.1 V z_254.2.2) hS hA 1 rfl) (va_recv hK (fl_sub hP 1 rfl) (ci := 7) (q0 := 0) rfl rfl) rfl rfl hl.1 (Nat.le_of_ble_eq_true rfl) dL_law_1939 ⟨(by show _ ≤ 600002; omega), (by show _ ≤ 7302232; omega)⟩ (fun H1 locs hP1 hk1 hS => ?_)
  have hP : va_P D cls (wW cI cZ cJ cT a am b z_254.2.1 z_255.2 z_254.2.2) H1 := fl_join hP (hDD z_254.2.1 V z_254.2.2) 1 rfl hk1 hP1
  clear hP1 hk1
  generalize H1 = H at hP hS ⊢
  refine lv_istore (lv' := [(6, .int z_255.1), (5, .int z_254.1), (0, .ref sb), (1, .ref (a 0 0)), (2, .ref (am 0)), (3, .ref b), (4, .int y)]) hx hb dL_law_1942 hl (by decide) rfl (fun ls hl => ?_)
  refine lv_aload_n hx hb dL_law_1944 rfl (lv_at hl 4 rfl) ?_
  obtain ⟨z_256, hz_256, hf⟩ := bn_some hf
  refine cRV (As := []) (rest := []) ⟨hx, hb, hml, hown, hts⟩ (c_X7_thrown l D cI cZ cJ cT am z_255.2 z_256 hz_256) (cwV 0 hts (gL_in gL_law_X7_thrown) rfl rfl rfl (by decide +kernel) ⟨Nat.le_of_ble_eq_true rfl, Nat.le_of_ble_eq_true rfl⟩) (fl_sub hP 1 rfl) hK (va_recv hK (fl_sub hP 1 rfl) (ci := 7) (q0 := 0) rfl rfl) rfl rfl hl.1 (Nat.le_of_ble_eq_true rfl) dL_law_1945 ⟨(by show _ ≤ 600002; omega), (by show _ ≤ 7302232; omega)⟩ ?_
  refine lv_iload hx hb dL_law_1948 (lv_at hl 1 rfl) ?_
  refine lv_icmp_eq (tgt := 1955) hx hb dL_law_1950 (by decide) (fun c_257 => ?_) (fun c_257 => ?_)
  · have hf := ite_t hf c_257
    refine lv_iload hx hb dL_law_1955 (lv_at hl 1 rfl) ?_
    refine lv_if_ne (tgt := 1972) hx hb dL_law_1957 (by decide) (fun c_258 => ?_) (fun c_258 => ?_)
    · have hf := ite_f hf c_258
      refine lv_goto (tgt := 2630) hx hb dL_law_1972 (by decide) ?_
      refine lv_iinc (v := y + 5) (lv' := [(4, .int (y + 5)), (6, .int z_255.1), (5, .int z_254.1), (0, .ref sb), (1, .ref (a 0 0)), (2, .ref (am 0)), (3, .ref b)]) hx hb dL_law_2630 hl (k := 6) rfl rfl (by decide) rfl (fun ls hl => ?_)
      refine lv_goto (tgt := 23) hx hb dL_law_2633 (by decide) ?_
      exact ih _ _ _ _ _ _ _ _ _ hf hP hS (lv_sub hl [3, 4, 5, 6, 0] rfl) (by omega) (by omega) (by omega) (by omega)
    · have hf := ite_t hf c_258
      refine lv_aload_n hx hb dL_law_1960 rfl (lv_at hl 5 rfl) ?_
      refine lv_iconst (v := 0) hx hb dL_law_1961 (by decide) ?_
      refine va_lald hx hb hK hP 100 2 rfl rfl (inb_in (i := 0) (n := 1) (by decide)) dL_law_1962 ?_
      refine lv_iload hx hb dL_law_1963 (lv_at hl 0 rfl) ?_
      refine lv_i2l (v := z_255.1.toInt64) hx hb dL_law_1965 rfl ?_
      refine W.lcmp hx hb dL_law_1966 ?_
      refine lv_if_eq (tgt := 1972) hx hb dL_law_1967 (by decide) (fun c_259 => ?_) (fun c_259 => ?_)
      · have hf := ite_t hf c_259
        refine lv_goto (tgt := 2630) hx hb dL_law_1972 (by decide) ?_
        refine lv_iinc (v := y + 5) (lv' := [(4, .int (y + 5)), (6, .int z_255.1), (5, .int z_254.1), (0, .ref sb), (1, .ref (a 0 0)), (2, .ref (am 0)), (3, .ref b)]) hx hb dL_law_2630 hl (k := 6) rfl rfl (by decide) rfl (fun ls hl => ?_)
        refine lv_goto (tgt := 23) hx hb dL_law_2633 (by decide) ?_
        exact ih _ _ _ _ _ _ _ _ _ hf hP hS (lv_sub hl [3, 4, 5, 6, 0] rfl) (by omega) (by omega) (by omega) (by omega)
      · have hf := ite_f hf c_259
        refine lv_iconst (v := 0) hx hb dL_law_1970 (by decide) ?_
        exact absurd (Option.some.inj hf) (by decide)
  · have hf := ite_f hf c_257
    refine lv_iconst (v := 0) hx hb dL_law_1953 (by decide) ?_
    exact absurd (Option.some.inj hf) (by decide)
def law_B27 (L : Nat) (xs : Nat → Int32) (r23 : Int32 → S2 → S1 → (Nat → Int64) → Option Int32) (y : Int32) (U : S2) (V : S1) (g : Nat → Int64) : Option Int32 := chk (inb (y + 1) L) (chk (inb (y + 2) L) (if (xs (y + 2).toNatClampNeg) = 0 then bn (f_L_bad U g (xs (y + 1).toNatClampNeg) 0) (fun z_261 => chk (inb (y + 1) L) (chk (inb (y + 2) L) (if (xs (y + 2).toNatClampNeg) = 0 then bn (f_X7_bad V (xs (y + 1).toNatClampNeg) 0) (fun z_263 => bn (f_X7_thrown z_263.2) (fun z_264 => if z_264 = z_261.1 then if z_261.1 = 0 then if z_263.1 = 0 then if (lg_cmp (z_261.2.2 (0 : Int32).toNatClampNeg) 0) = 0 then r23 (y + 5) z_261.2.1 z_263.2 z_261.2.2 else some 0 else if (lg_cmp (z_261.2.2 (0 : Int32).toNatClampNeg) 1) = 0 then r23 (y + 5) z_261.2.1 z_263.2 z_261.2.2 else some 0 else r23 (y + 5) z_261.2.1 z_263.2 z_261.2.2 else some 0)) else bn (f_X7_bad V (xs (y + 1).toNatClampNeg) 1) (fun z_270 => bn (f_X7_thrown z_270.2) (fun z_271 => if z_271 = z_261.1 then if z_261.1 = 0 then if z_270.1 = 0 then if (lg_cmp (z_261.2.2 (0 : Int32).toNatClampNeg) 0) = 0 then r23 (y + 5) z_261.2.1 z_270.2 z_261.2.2 else some 0 else if (lg_cmp (z_261.2.2 (0 : Int32).toNatClampNeg) 1) = 0 then r23 (y + 5) z_261.2.1 z_270.2 z_261.2.2 else some 0 else r23 (y + 5) z_261.2.1 z_270.2 z_261.2.2 else some 0))))) else bn (f_L_bad U g (xs (y + 1).toNatClampNeg) 1) (fun z_277 => chk (inb (y + 1) L) (chk (inb (y + 2) L) (if (xs (y + 2).toNatClampNeg) = 0 then bn (f_X7_bad V (xs (y + 1).toNatClampNeg) 0) (fun z_279 => bn (f_X7_thrown z_279.2) (fun z_280 => if z_280 = z_277.1 then if z_277.1 = 0 then if z_279.1 = 0 then if (lg_cmp (z_277.2.2 (0 : Int32).toNatClampNeg) 0) = 0 then r23 (y + 5) z_277.2.1 z_279.2 z_277.2.2 else some 0 else if (lg_cmp (z_277.2.2 (0 : Int32).toNatClampNeg) 1) = 0 then r23 (y + 5) z_277.2.1 z_279.2 z_277.2.2 else some 0 else r23 (y + 5) z_277.2.1 z_279.2 z_277.2.2 else some 0)) else bn (f_X7_bad V (xs (y + 1).toNatClampNeg) 1) (fun z_286 => bn (f_X7_thrown z_286.2) (fun z_287 => if z_287 = z_277.1 then if z_277.1 = 0 then if z_286.1 = 0 then if (lg_cmp (z_277.2.2 (0 : Int32).toNatClampNeg) 0) = 0 then r23 (y + 5) z_277.2.1 z_286.2 z_277.2.2 else some 0 else if (lg_cmp (z_277.2.2 (0 : Int32).toNatClampNeg) 1) = 0 then r23 (y + 5) z_277.2.1 z_286.2 z_277.2.2 else some 0 else r23 (y + 5) z_277.2.1 z_286.2 z_277.2.2 else some 0)))))))
set_option maxHeartbeats 40000000 in
set_option maxRecDepth 100000 in
theorem law_case27 {p : Program} {l : Launch} {e : Env} {s : State} {m : MethodId} {below : List Frame} {meth : Method} {c : Code} {D : va_G} {cI cZ cJ cT : ClassId} {sb L : Nat} {xs : Nat → Int32} (hst : l.stackTraces = false) (C0 : lw_At p s m meth c sb L xs) (hK : va_K D cls (tys cI cZ cJ cT) s) (hE : EX (fun q : Nat => s.heap.size ≤ q) s) (hNC : NC s) (a : Nat → Nat → Nat) (am : Nat → Nat) (b : Nat) (hDD : ∀ (U : S2) (V : S1) (g : Nat → Int64), va_D (fun q : Nat => s.heap.size ≤ q) (wW cI cZ cJ cT a am b U V g)) (r23 : Int32 → S2 → S1 → (Nat → Int64) → Option Int32) (n : Nat) (ih : ∀ (y : Int32) (U : S2) (V : S1) (g : Nat → Int64) (H : Heap) (locs : List Loc) (ls : Array Slot) (nc ns : Nat), r23 y U V g = some 1 → va_P D cls (wW cI cZ cJ cT a am b U V g) H → va_S (fun q : Nat => s.heap.size ≤ q) s.heap H locs → lv_has ls 7 [(0, .ref sb), (1, .ref (a 0 0)), (2, .ref (am 0)), (3, .ref b), (4, .int y)] → nc + 8 * n ≤ 600002 → ns + 48 * n ≤ 7302232 → nc ≤ 600002 → ns ≤ 7302232 → W p l e room_1 s m #[Value.ref sb] below meth c H locs nc ns (lw_Z below #[Value.ref sb] s) (F0 m 23 ls [])) (y : Int32) (U : S2) (V : S1) (g : Nat → Int64) (H : Heap) (locs : List Loc) (ls : Array Slot) (nc ns : Nat) (hf : law_B27 L xs r23 y U V g = some 1) (hP : va_P D cls (wW cI cZ cJ cT a am b U V g) H) (hS : va_S (fun q : Nat => s.heap.size ≤ q) s.heap H locs) (hl : lv_has ls 7 [(0, .ref sb), (1, .ref (a 0 0)), (2, .ref (am 0)), (3, .ref b), (4, .int y)]) (hc1 : nc + 8 * (n + 1) ≤ 600002) (hc2 : ns + 48 * (n + 1) ≤ 7302232) (hc3 : nc ≤ 600002) (hc4 : ns ≤ 7302232) : W p l e room_1 s m #[Value.ref sb] below meth c H locs nc ns (lw_Z below #[Value.ref sb] s) (F0 m 1975 ls []) := by
  obtain ⟨hx, hb, hr, hml, hown, hts, hX, hbl, hlocks, hgv⟩ := id C0
  have hA : ∀ q : Nat, s.heap.size ≤ q → (fun q : Nat => s.heap.size ≤ q) q := fun _ h => h
  have hbA : ¬ (fun q : Nat => s.heap.size ≤ q) sb := Nat.not_le.mpr hbl
  unfold law_B27 at hf
  refine lv_aload_n hx hb dL_law_1975 rfl (lv_at hl 1 rfl) ?_
  refine lv_aload_n hx hb dL_law_1976 rfl (lv_at hl 0 rfl) ?_
  refine lv_iload hx hb dL_law_1977 (lv_at hl 4 rfl) ?_
  refine lv_iconst (v := 1) hx hb dL_law_1979 (by decide) ?_
  refine lv_iadd hx hb dL_law_1980 ?_
  obtain ⟨hi, hf⟩ := chk_some hf
  refine va_sld hx hb hX hbl hbA hS (inb_in hi) dL_law_1981 ?_
  refine lv_aload_n hx hb dL_law_1982 rfl (lv_at hl 0 rfl) ?_
  refine lv_iload hx hb dL_law_1983 (lv_at hl 4 rfl) ?_
  refine lv_iconst (v := 2) hx hb dL_law_1985 (by decide) ?_
  refine lv_iadd hx hb dL_law_1986 ?_
  obtain ⟨hi, hf⟩ := chk_some hf
  refine va_sld hx hb hX hbl hbA hS (inb_in hi) dL_law_1987 ?_
  refine lv_if_eq (tgt := 1995) hx hb dL_law_1988 (by decide) (fun c_260 => ?_) (fun c_260 => ?_)
  · have hf := ite_t hf c_260
    refine lv_iconst (v := 0) hx hb dL_law_1995 (by decide) ?_
    refine lv_aload_n hx hb dL_law_1996 rfl (lv_at hl 3 rfl) ?_
    obtain ⟨z_261, hz_261, hf⟩ := bn_some hf
    refine cLS (As := [.ref (a 0 0), .int (xs (y + 1).toNatClampNeg), .int 0, .ref b]) (rest := []) ⟨hx, hb, hml, hown, hts⟩ (c_L_bad l hst D cI cZ cJ cT a b H.size U g (xs (y + 1).toNatClampNeg) 0 z_261 hz_261) (vx_cwSW 4 hts (gM_law (gL_in gL_law_L_bad) gLK) rfl rfl rfl (by decide +kernel) ⟨Nat.le_of_ble_eq_true rfl, Nat.le_of_ble_eq_true rfl⟩) (fl_subM hP [0, 2] rfl) hK (fl_subDM (hDD U V g) [0, 2] rfl rfl) hE hNC hS (own_free (fl_subDM (hDD U V g) [0, 2] rfl rfl) hS hA) rfl rfl hl.1 (Nat.le_of_ble_eq_true rfl) dL_law_1997 ⟨(by show _ ≤ 600002; omega), (by show _ ≤ 7302232; omega)⟩ (fun H1 locs hP1 hk1 hS => ?_)
    have hP : va_P D cls (wW cI cZ cJ cT a am b z_261.2.1 V z_261.2.2) H1 := fl_joinM (cs' := [wI cI cZ cT a z_261.2.1, [(b, .inl (cJ, 1, .inr (.inl z_261.2.2)))]]) hP (hDD U V g) [0, 2] rfl rfl hk1 hP1
    clear hP1 hk1
    generalize H1 = H at hP hS ⊢
    refine lv_istore (lv' := [(5, .int z_261.1), (0, .ref sb), (1, .ref (a 0 0)), (2, .ref (am 0)), (3, .ref b), (4, .int y)]) hx hb dL_law_2000 hl (by decide) rfl (fun ls hl => ?_)
    refine lv_aload_n hx hb dL_law_2002 rfl (lv_at hl 3 rfl) ?_
    refine lv_aload_n hx hb dL_law_2003 rfl (lv_at hl 1 rfl) ?_
    refine lv_iload hx hb dL_law_2004 (lv_at hl 5 rfl) ?_
    refine lv_iconst (v := 1) hx hb dL_law_2006 (by decide) ?_
    refine lv_iadd hx hb dL_law_2007 ?_
    obtain ⟨hi, hf⟩ := chk_some hf
    refine va_sld hx hb hX hbl hbA hS (inb_in hi) dL_law_2008 ?_
    refine lv_aload_n hx hb dL_law_2009 rfl (lv_at hl 1 rfl) ?_
    refine lv_iload hx hb dL_law_2010 (lv_at hl 5 rfl) ?_
    refine lv_iconst (v := 2) hx hb dL_law_2012 (by decide) ?_
    refine lv_iadd hx hb dL_law_2013 ?_
    obtain ⟨hi, hf⟩ := chk_some hf
    refine va_sld hx hb hX hbl hbA hS (inb_in hi) dL_law_2014 ?_
    refine lv_if_eq (tgt := 2022) hx hb dL_law_2015 (by decide) (fun c_262 => ?_) (fun c_262 => ?_)
    · have hf := ite_t hf c_262
      refine lv_iconst (v := 0) hx hb dL_law_2022 (by decide) ?_
      obtain ⟨z_263, hz_263, hf⟩ := bn_some hf
      refine cWVi (As := [.int (xs (y + 1).toNatClampNeg), .int 0]) (rest := []) ⟨hx, hb, hml, hown, hts⟩ (c_X7_bad l D cI cZ cJ cT am H.size V (xs (y + 1).toNatClampNeg) 0 z_263 hz_263) (cwV 2 hts (gL_in gL_law_X7_bad) rfl rfl rfl (by decide +kernel) ⟨Nat.le_of_ble_eq_true rfl, Nat.le_of_ble_eq_true rfl⟩) (fl_sub hP 1 rfl) hK (fl_subD (hDD z_261.2.1 V z_261.2.2) 1 rfl) hS (fl_free (hDD z_261.2.1 V z_261.2.2) hS hA 1 rfl) (va_recv hK (fl_sub hP 1 rfl) (ci := 7) (q0 := 0) rfl rfl) rfl rfl hl.1 (Nat.le_of_ble_eq_true rfl) dL_law_2023 ⟨(by show _ ≤ 600002; omega), (by show _ ≤ 7302232; omega)⟩ (fun H1 locs hP1 hk1 hS => ?_)
      have hP : va_P D cls (wW cI cZ cJ cT a am b z_261.2.1 z_263.2 z_261.2.2) H1 := fl_join hP (hDD z_261.2.1 V z_261.2.2) 1 rfl hk1 hP1
      clear hP1 hk1
      generalize H1 = H at hP hS ⊢
      refine lv_istore (lv' := [(6, .int z_263.1), (5, .int z_261.1), (0, .ref sb), (1, .ref (a 0 0)), (2, .ref (am 0)), (3, .ref b), (4, .int y)]) hx hb dL_law_2026 hl (by decide) rfl (fun ls hl => ?_)
      refine lv_aload_n hx hb dL_law_2028 rfl (lv_at hl 4 rfl) ?_
      obtain ⟨z_264, hz_264, hf⟩ := bn_some hf
      refine cRV (As := []) (rest := []) ⟨hx, hb, hml, hown, hts⟩ (c_X7_thrown l D cI cZ cJ cT am z_263.2 z_264 hz_264) (cwV 0 hts (gL_in gL_law_X7_thrown) rfl rfl rfl (by decide +kernel) ⟨Nat.le_of_ble_eq_true rfl, Nat.le_of_ble_eq_true rfl⟩) (fl_sub hP 1 rfl) hK (va_recv hK (fl_sub hP 1 rfl) (ci := 7) (q0 := 0) rfl rfl) rfl rfl hl.1 (Nat.le_of_ble_eq_true rfl) dL_law_2029 ⟨(by show _ ≤ 600002; omega), (by show _ ≤ 7302232; omega)⟩ ?_
      refine lv_iload hx hb dL_law_2032 (lv_at hl 1 rfl) ?_
      refine lv_icmp_eq (tgt := 2039) hx hb dL_law_2034 (by decide) (fun c_265 => ?_) (fun c_265 => ?_)
      · have hf := ite_t hf c_265
        refine lv_iload hx hb dL_law_2039 (lv_at hl 1 rfl) ?_
        refine lv_if_ne (tgt := 2063) hx hb dL_law_2041 (by decide) (fun c_266 => ?_) (fun c_266 => ?_)
        · have hf := ite_f hf c_266
          refine lv_goto (tgt := 2630) hx hb dL_law_2063 (by decide) ?_
          refine lv_iinc (v := y + 5) (lv' := [(4, .int (y + 5)), (6, .int z_263.1), (5, .int z_261.1), (0, .ref sb), (1, .ref (a 0 0)), (2, .ref (am 0)), (3, .ref b)]) hx hb dL_law_2630 hl (k := 6) rfl rfl (by decide) rfl (fun ls hl => ?_)
          refine lv_goto (tgt := 23) hx hb dL_law_2633 (by decide) ?_
          exact ih _ _ _ _ _ _ _ _ _ hf hP hS (lv_sub hl [3, 4, 5, 6, 0] rfl) (by omega) (by omega) (by omega) (by omega)
        · have hf := ite_t hf c_266
          refine lv_aload_n hx hb dL_law_2044 rfl (lv_at hl 5 rfl) ?_
          refine lv_iconst (v := 0) hx hb dL_law_2045 (by decide) ?_
          refine va_lald hx hb hK hP 100 2 rfl rfl (inb_in (i := 0) (n := 1) (by decide)) dL_law_2046 ?_
          refine lv_iload hx hb dL_law_2047 (lv_at hl 0 rfl) ?_
          refine lv_if_eq (tgt := 2056) hx hb dL_law_2049 (by decide) (fun c_267 => ?_) (fun c_267 => ?_)
          · have hf := ite_t hf c_267
            refine lv_lconst (v := 0) hx hb dL_law_2056 (by decide) ?_
            refine W.lcmp hx hb dL_law_2057 ?_
            refine lv_if_eq (tgt := 2063) hx hb dL_law_2058 (by decide) (fun c_268 => ?_) (fun c_268 => ?_)
            · have hf := ite_t hf c_268
              refine lv_goto (tgt := 2630) hx hb dL_law_2063 (by decide) ?_
              refine lv_iinc (v := y + 5) (lv' := [(4, .int (y + 5)), (6, .int z_263.1), (5, .int z_261.1), (0, .ref sb), (1, .ref (a 0 0)), (2, .ref (am 0)), (3, .ref b)]) hx hb dL_law_2630 hl (k := 6) rfl rfl (by decide) rfl (fun ls hl => ?_)
              refine lv_goto (tgt := 23) hx hb dL_law_2633 (by decide) ?_
              exact ih _ _ _ _ _ _ _ _ _ hf hP hS (lv_sub hl [3, 4, 5, 6, 0] rfl) (by omega) (by omega) (by omega) (by omega)
            · have hf := ite_f hf c_268
              refine lv_iconst (v := 0) hx hb dL_law_2061 (by decide) ?_
              exact absurd (Option.some.inj hf) (by decide)
          · have hf := ite_f hf c_267
            refine lv_lconst (v := 1) hx hb dL_law_2052 (by decide) ?_
            refine lv_goto (tgt := 2057) hx hb dL_law_2053 (by decide) ?_
            refine W.lcmp hx hb dL_law_2057 ?_
            refine lv_if_eq (tgt := 2063) hx hb dL_law_2058 (by decide) (fun c_269 => ?_) (fun c_269 => ?_)
            · have hf := ite_t hf c_269
              refine lv_goto (tgt := 2630) hx hb dL_law_2063 (by decide) ?_
              refine lv_iinc (v := y + 5) (lv' := [(4, .int (y + 5)), (6, .int z_263.1), (5, .int z_261.1), (0, .ref sb), (1, .ref (a 0 0)), (2, .ref (am 0)), (3, .ref b)]) hx hb dL_law_2630 hl (k := 6) rfl rfl (by decide) rfl (fun ls hl => ?_)
              refine lv_goto (tgt := 23) hx hb dL_law_2633 (by decide) ?_
              exact ih _ _ _ _ _ _ _ _ _ hf hP hS (lv_sub hl [3, 4, 5, 6, 0] rfl) (by omega) (by omega) (by omega) (by omega)
            · have hf := ite_f hf c_269
              refine lv_iconst (v := 0) hx hb dL_law_2061 (by decide) ?_
              exact absurd (Option.some.inj hf) (by decide)
      · have hf := ite_f hf c_265
        refine lv_iconst (v := 0) hx hb dL_law_2037 (by decide) ?_
        exact absurd (Option.some.inj hf) (by decide)
    · have hf := ite_f hf c_262
      refine lv_iconst (v := 1) hx hb dL_law_2018 (by decide) ?_
      refine lv_goto (tgt := 2023) hx hb dL_law_2019 (by decide) ?_
      obtain ⟨z_270, hz_270, hf⟩ := bn_some hf
      refine cWVi (As := [.int (xs (y + 1).toNatClampNeg), .int 1]) (rest := []) ⟨hx, hb, hml, hown, hts⟩ (c_X7_bad l D cI cZ cJ cT am H.size V (xs (y + 1).toNatClampNeg) 1 z_270 hz_270) (cwV 2 hts (gL_in gL_law_X7_bad) rfl rfl rfl (by decide +kernel) ⟨Nat.le_of_ble_eq_true rfl, Nat.le_of_ble_eq_true rfl⟩) (fl_sub hP 1 rfl) hK (fl_subD (hDD z_261.2.1 V z_261.2.2) 1 rfl) hS (fl_free (hDD z_261.2.1 V z_261.2.2) hS hA 1 rfl) (va_recv hK (fl_sub hP 1 rfl) (ci := 7) (q0 := 0) rfl rfl) rfl rfl hl.1 (Nat.le_of_ble_eq_true rfl) dL_law_2023 ⟨(by show _ ≤ 600002; omega), (by show _ ≤ 7302232; omega)⟩ (fun H1 locs hP1 hk1 hS => ?_)
      have hP : va_P D cls (wW cI cZ cJ cT a am b z_261.2.1 z_270.2 z_261.2.2) H1 := fl_join hP (hDD z_261.2.1 V z_261.2.2) 1 rfl hk1 hP1
      clear hP1 hk1
      generalize H1 = H at hP hS ⊢
      refine lv_istore (lv' := [(6, .int z_270.1), (5, .int z_261.1), (0, .ref sb), (1, .ref (a 0 0)), (2, .ref (am 0)), (3, .ref b), (4, .int y)]) hx hb dL_law_2026 hl (by decide) rfl (fun ls hl => ?_)
      refine lv_aload_n hx hb dL_law_2028 rfl (lv_at hl 4 rfl) ?_
      obtain ⟨z_271, hz_271, hf⟩ := bn_some hf
      refine cRV (As := []) (rest := []) ⟨hx, hb, hml, hown, hts⟩ (c_X7_thrown l D cI cZ cJ cT am z_270.2 z_271 hz_271) (cwV 0 hts (gL_in gL_law_X7_thrown) rfl rfl rfl (by decide +kernel) ⟨Nat.le_of_ble_eq_true rfl, Nat.le_of_ble_eq_true rfl⟩) (fl_sub hP 1 rfl) hK (va_recv hK (fl_sub hP 1 rfl) (ci := 7) (q0 := 0) rfl rfl) rfl rfl hl.1 (Nat.le_of_ble_eq_true rfl) dL_law_2029 ⟨(by show _ ≤ 600002; omega), (by show _ ≤ 7302232; omega)⟩ ?_
      refine lv_iload hx hb dL_law_2032 (lv_at hl 1 rfl) ?_
      refine lv_icmp_eq (tgt := 2039) hx hb dL_law_2034 (by decide) (fun c_272 => ?_) (fun c_272 => ?_)
      · have hf := ite_t hf c_272
        refine lv_iload hx hb dL_law_2039 (lv_at hl 1 rfl) ?_
        refine lv_if_ne (tgt := 2063) hx hb dL_law_2041 (by decide) (fun c_273 => ?_) (fun c_273 => ?_)
        · have hf := ite_f hf c_273
          refine lv_goto (tgt := 2630) hx hb dL_law_2063 (by decide) ?_
          refine lv_iinc (v := y + 5) (lv' := [(4, .int (y + 5)), (6, .int z_270.1), (5, .int z_261.1), (0, .ref sb), (1, .ref (a 0 0)), (2, .ref (am 0)), (3, .ref b)]) hx hb dL_law_2630 hl (k := 6) rfl rfl (by decide) rfl (fun ls hl => ?_)
          refine lv_goto (tgt := 23) hx hb dL_law_2633 (by decide) ?_
          exact ih _ _ _ _ _ _ _ _ _ hf hP hS (lv_sub hl [3, 4, 5, 6, 0] rfl) (by omega) (by omega) (by omega) (by omega)
        · have hf := ite_t hf c_273
          refine lv_aload_n hx hb dL_law_2044 rfl (lv_at hl 5 rfl) ?_
          refine lv_iconst (v := 0) hx hb dL_law_2045 (by decide) ?_
          refine va_lald hx hb hK hP 100 2 rfl rfl (inb_in (i := 0) (n := 1) (by decide)) dL_law_2046 ?_
          refine lv_iload hx hb dL_law_2047 (lv_at hl 0 rfl) ?_
          refine lv_if_eq (tgt := 2056) hx hb dL_law_2049 (by decide) (fun c_274 => ?_) (fun c_274 => ?_)
          · have hf := ite_t hf c_274
            refine lv_lconst (v := 0) hx hb dL_law_2056 (by decide) ?_
            refine W.lcmp hx hb dL_law_2057 ?_
            refine lv_if_eq (tgt := 2063) hx hb dL_law_2058 (by decide) (fun c_275 => ?_) (fun c_275 => ?_)
            · have hf := ite_t hf c_275
              refine lv_goto (tgt := 2630) hx hb dL_law_2063 (by decide) ?_
              refine lv_iinc (v := y + 5) (lv' := [(4, .int (y + 5)), (6, .int z_270.1), (5, .int z_261.1), (0, .ref sb), (1, .ref (a 0 0)), (2, .ref (am 0)), (3, .ref b)]) hx hb dL_law_2630 hl (k := 6) rfl rfl (by decide) rfl (fun ls hl => ?_)
              refine lv_goto (tgt := 23) hx hb dL_law_2633 (by decide) ?_
              exact ih _ _ _ _ _ _ _ _ _ hf hP hS (lv_sub hl [3, 4, 5, 6, 0] rfl) (by omega) (by omega) (by omega) (by omega)
            · have hf := ite_f hf c_275
              refine lv_iconst (v := 0) hx hb dL_law_2061 (by decide) ?_
              exact absurd (Option.some.inj hf) (by decide)
          · have hf := ite_f hf c_274
            refine lv_lconst (v := 1) hx hb dL_law_2052 (by decide) ?_
            refine lv_goto (tgt := 2057) hx hb dL_law_2053 (by decide) ?_
            refine W.lcmp hx hb dL_law_2057 ?_
            refine lv_if_eq (tgt := 2063) hx hb dL_law_2058 (by decide) (fun c_276 => ?_) (fun c_276 => ?_)
            · have hf := ite_t hf c_276
              refine lv_goto (tgt := 2630) hx hb dL_law_2063 (by decide) ?_
              refine lv_iinc (v := y + 5) (lv' := [(4, .int (y + 5)), (6, .int z_270.1), (5, .int z_261.1), (0, .ref sb), (1, .ref (a 0 0)), (2, .ref (am 0)), (3, .ref b)]) hx hb dL_law_2630 hl (k := 6) rfl rfl (by decide) rfl (fun ls hl => ?_)
              refine lv_goto (tgt := 23) hx hb dL_law_2633 (by decide) ?_
              exact ih _ _ _ _ _ _ _ _ _ hf hP hS (lv_sub hl [3, 4, 5, 6, 0] rfl) (by omega) (by omega) (by omega) (by omega)
            · have hf := ite_f hf c_276
              refine lv_iconst (v := 0) hx hb dL_law_2061 (by decide) ?_
              exact absurd (Option.some.inj hf) (by decide)
      · have hf := ite_f hf c_272
        refine lv_iconst (v := 0) hx hb dL_law_2037 (by decide) ?_
        exact absurd (Option.some.inj hf) (by decide)
  · have hf := ite_f hf c_260
    refine lv_iconst (v := 1) hx hb dL_law_1991 (by decide) ?_
    refine lv_goto (tgt := 1996) hx hb dL_law_1992 (by decide) ?_
    refine lv_aload_n hx hb dL_law_1996 rfl (lv_at hl 3 rfl) ?_
    obtain ⟨z_277, hz_277, hf⟩ := bn_some hf
    refine cLS (As := [.ref (a 0 0), .int (xs (y + 1).toNatClampNeg), .int 1, .ref b]) (rest := []) ⟨hx, hb, hml, hown, hts⟩ (c_L_bad l hst D cI cZ cJ cT a b H.size U g (xs (y + 1).toNatClampNeg) 1 z_277 hz_277) (vx_cwSW 4 hts (gM_law (gL_in gL_law_L_bad) gLK) rfl rfl rfl (by decide +kernel) ⟨Nat.le_of_ble_eq_true rfl, Nat.le_of_ble_eq_true rfl⟩) (fl_subM hP [0, 2] rfl) hK (fl_subDM (hDD U V g) [0, 2] rfl rfl) hE hNC hS (own_free (fl_subDM (hDD U V g) [0, 2] rfl rfl) hS hA) rfl rfl hl.1 (Nat.le_of_ble_eq_true rfl) dL_law_1997 ⟨(by show _ ≤ 600002; omega), (by show _ ≤ 7302232; omega)⟩ (fun H1 locs hP1 hk1 hS => ?_)
    have hP : va_P D cls (wW cI cZ cJ cT a am b z_277.2.1 V z_277.2.2) H1 := fl_joinM (cs' := [wI cI cZ cT a z_277.2.1, [(b, .inl (cJ, 1, .inr (.inl z_277.2.2)))]]) hP (hDD U V g) [0, 2] rfl rfl hk1 hP1
    clear hP1 hk1
    generalize H1 = H at hP hS ⊢
    refine lv_istore (lv' := [(5, .int z_277.1), (0, .ref sb), (1, .ref (a 0 0)), (2, .ref (am 0)), (3, .ref b), (4, .int y)]) hx hb dL_law_2000 hl (by decide) rfl (fun ls hl => ?_)
    refine lv_aload_n hx hb dL_law_2002 rfl (lv_at hl 3 rfl) ?_
    refine lv_aload_n hx hb dL_law_2003 rfl (lv_at hl 1 rfl) ?_
    refine lv_iload hx hb dL_law_2004 (lv_at hl 5 rfl) ?_
    refine lv_iconst (v := 1) hx hb dL_law_2006 (by decide) ?_
    refine lv_iadd hx hb dL_law_2007 ?_
    obtain ⟨hi, hf⟩ := chk_some hf
    refine va_sld hx hb hX hbl hbA hS (inb_in hi) dL_law_2008 ?_
    refine lv_aload_n hx hb dL_law_2009 rfl (lv_at hl 1 rfl) ?_
    refine lv_iload hx hb dL_law_2010 (lv_at hl 5 rfl) ?_
    refine lv_iconst (v := 2) hx hb dL_law_2012 (by decide) ?_
    refine lv_iadd hx hb dL_law_2013 ?_
    obtain ⟨hi, hf⟩ := chk_some hf
    refine va_sld hx hb hX hbl hbA hS (inb_in hi) dL_law_2014 ?_
    refine lv_if_eq (tgt := 2022) hx hb dL_law_2015 (by decide) (fun c_278 => ?_) (fun c_278 => ?_)
    · have hf := ite_t hf c_278
      refine lv_iconst (v := 0) hx hb dL_law_2022 (by decide) ?_
      obtain ⟨z_279, hz_279, hf⟩ := bn_some hf
      refine cWVi (As := [.int (xs (y + 1).toNatClampNeg), .int 0]) (rest := []) ⟨hx, hb, hml, hown, hts⟩ (c_X7_bad l D cI cZ cJ cT am H.size V (xs (y + 1).toNatClampNeg) 0 z_279 hz_279) (cwV 2 hts (gL_in gL_law_X7_bad) rfl rfl rfl (by decide +kernel) ⟨Nat.le_of_ble_eq_true rfl, Nat.le_of_ble_eq_true rfl⟩) (fl_sub hP 1 rfl) hK (fl_subD (hDD z_277.2.1 V z_277.2.2) 1 rfl) hS (fl_free (hDD z_277.2.1 V z_277.2.2) hS hA 1 rfl) (va_recv hK (fl_sub hP 1 rfl) (ci := 7) (q0 := 0) rfl rfl) rfl rfl hl.1 (Nat.le_of_ble_eq_true rfl) dL_law_2023 ⟨(by show _ ≤ 600002; omega), (by show _ ≤ 7302232; omega)⟩ (fun H1 locs hP1 hk1 hS => ?_)
      have hP : va_P D cls (wW cI cZ cJ cT a am b z_277.2.1 z_279.2 z_277.2.2) H1 := fl_join hP (hDD z_277.2.1 V z_277.2.2) 1 rfl hk1 hP1
      clear hP1 hk1
      generalize H1 = H at hP hS ⊢
      refine lv_istore (lv' := [(6, .int z_279.1), (5, .int z_277.1), (0, .ref sb), (1, .ref (a 0 0)), (2, .ref (am 0)), (3, .ref b), (4, .int y)]) hx hb dL_law_2026 hl (by decide) rfl (fun ls hl => ?_)
      refine lv_aload_n hx hb dL_law_2028 rfl (lv_at hl 4 rfl) ?_
      obtain ⟨z_280, hz_280, hf⟩ := bn_some hf
      refine cRV (As := []) (rest := []) ⟨hx, hb, hml, hown, hts⟩ (c_X7_thrown l D cI cZ cJ cT am z_279.2 z_280 hz_280) (cwV 0 hts (gL_in gL_law_X7_thrown) rfl rfl rfl (by decide +kernel) ⟨Nat.le_of_ble_eq_true rfl, Nat.le_of_ble_eq_true rfl⟩) (fl_sub hP 1 rfl) hK (va_recv hK (fl_sub hP 1 rfl) (ci := 7) (q0 := 0) rfl rfl) rfl rfl hl.1 (Nat.le_of_ble_eq_true rfl) dL_law_2029 ⟨(by show _ ≤ 600002; omega), (by show _ ≤ 7302232; omega)⟩ ?_
      refine lv_iload hx hb dL_law_2032 (lv_at hl 1 rfl) ?_
      refine lv_icmp_eq (tgt := 2039) hx hb dL_law_2034 (by decide) (fun c_281 => ?_) (fun c_281 => ?_)
      · have hf := ite_t hf c_281
        refine lv_iload hx hb dL_law_2039 (lv_at hl 1 rfl) ?_
        refine lv_if_ne (tgt := 2063) hx hb dL_law_2041 (by decide) (fun c_282 => ?_) (fun c_282 => ?_)
        · have hf := ite_f hf c_282
          refine lv_goto (tgt := 2630) hx hb dL_law_2063 (by decide) ?_
          refine lv_iinc (v := y + 5) (lv' := [(4, .int (y + 5)), (6, .int z_279.1), (5, .int z_277.1), (0, .ref sb), (1, .ref (a 0 0)), (2, .ref (am 0)), (3, .ref b)]) hx hb dL_law_2630 hl (k := 6) rfl rfl (by decide) rfl (fun ls hl => ?_)
          refine lv_goto (tgt := 23) hx hb dL_law_2633 (by decide) ?_
          exact ih _ _ _ _ _ _ _ _ _ hf hP hS (lv_sub hl [3, 4, 5, 6, 0] rfl) (by omega) (by omega) (by omega) (by omega)
        · have hf := ite_t hf c_282
          refine lv_aload_n hx hb dL_law_2044 rfl (lv_at hl 5 rfl) ?_
          refine lv_iconst (v := 0) hx hb dL_law_2045 (by decide) ?_
          refine va_lald hx hb hK hP 100 2 rfl rfl (inb_in (i := 0) (n := 1) (by decide)) dL_law_2046 ?_
          refine lv_iload hx hb dL_law_2047 (lv_at hl 0 rfl) ?_
          refine lv_if_eq (tgt := 2056) hx hb dL_law_2049 (by decide) (fun c_283 => ?_) (fun c_283 => ?_)
          · have hf := ite_t hf c_283
            refine lv_lconst (v := 0) hx hb dL_law_2056 (by decide) ?_
            refine W.lcmp hx hb dL_law_2057 ?_
            refine lv_if_eq (tgt := 2063) hx hb dL_law_2058 (by decide) (fun c_284 => ?_) (fun c_284 => ?_)
            · have hf := ite_t hf c_284
              refine lv_goto (tgt := 2630) hx hb dL_law_2063 (by decide) ?_
              refine lv_iinc (v := y + 5) (lv' := [(4, .int (y + 5)), (6, .int z_279.1), (5, .int z_277.1), (0, .ref sb), (1, .ref (a 0 0)), (2, .ref (am 0)), (3, .ref b)]) hx hb dL_law_2630 hl (k := 6) rfl rfl (by decide) rfl (fun ls hl => ?_)
              refine lv_goto (tgt := 23) hx hb dL_law_2633 (by decide) ?_
              exact ih _ _ _ _ _ _ _ _ _ hf hP hS (lv_sub hl [3, 4, 5, 6, 0] rfl) (by omega) (by omega) (by omega) (by omega)
            · have hf := ite_f hf c_284
              refine lv_iconst (v := 0) hx hb dL_law_2061 (by decide) ?_
              exact absurd (Option.some.inj hf) (by decide)
          · have hf := ite_f hf c_283
            refine lv_lconst (v := 1) hx hb dL_law_2052 (by decide) ?_
            refine lv_goto (tgt := 2057) hx hb dL_law_2053 (by decide) ?_
            refine W.lcmp hx hb dL_law_2057 ?_
            refine lv_if_eq (tgt := 2063) hx hb dL_law_2058 (by decide) (fun c_285 => ?_) (fun c_285 => ?_)
            · have hf := ite_t hf c_285
              refine lv_goto (tgt := 2630) hx hb dL_law_2063 (by decide) ?_
              refine lv_iinc (v := y + 5) (lv' := [(4, .int (y + 5)), (6, .int z_279.1), (5, .int z_277.1), (0, .ref sb), (1, .ref (a 0 0)), (2, .ref (am 0)), (3, .ref b)]) hx hb dL_law_2630 hl (k := 6) rfl rfl (by decide) rfl (fun ls hl => ?_)
              refine lv_goto (tgt := 23) hx hb dL_law_2633 (by decide) ?_
              exact ih _ _ _ _ _ _ _ _ _ hf hP hS (lv_sub hl [3, 4, 5, 6, 0] rfl) (by omega) (by omega) (by omega) (by omega)
            · have hf := ite_f hf c_285
              refine lv_iconst (v := 0) hx hb dL_law_2061 (by decide) ?_
              exact absurd (Option.some.inj hf) (by decide)
      · have hf := ite_f hf c_281
        refine lv_iconst (v := 0) hx hb dL_law_2037 (by decide) ?_
        exact absurd (Option.some.inj hf) (by decide)
    · have hf := ite_f hf c_278
      refine lv_iconst (v := 1) hx hb dL_law_2018 (by decide) ?_
      refine lv_goto (tgt := 2023) hx hb dL_law_2019 (by decide) ?_
      obtain ⟨z_286, hz_286, hf⟩ := bn_some hf
      refine cWVi (As := [.int (xs (y + 1).toNatClampNeg), .int 1]) (rest := []) ⟨hx, hb, hml, hown, hts⟩ (c_X7_bad l D cI cZ cJ cT am H.size V (xs (y + 1).toNatClampNeg) 1 z_286 hz_286) (cwV 2 hts (gL_in gL_law_X7_bad) rfl rfl rfl (by decide +kernel) ⟨Nat.le_of_ble_eq_true rfl, Nat.le_of_ble_eq_true rfl⟩) (fl_sub hP 1 rfl) hK (fl_subD (hDD z_277.2.1 V z_277.2.2) 1 rfl) hS (fl_free (hDD z_277.2.1 V z_277.2.2) hS hA 1 rfl) (va_recv hK (fl_sub hP 1 rfl) (ci := 7) (q0 := 0) rfl rfl) rfl rfl hl.1 (Nat.le_of_ble_eq_true rfl) dL_law_2023 ⟨(by show _ ≤ 600002; omega), (by show _ ≤ 7302232; omega)⟩ (fun H1 locs hP1 hk1 hS => ?_)
      have hP : va_P D cls (wW cI cZ cJ cT a am b z_277.2.1 z_286.2 z_277.2.2) H1 := fl_join hP (hDD z_277.2.1 V z_277.2.2) 1 rfl hk1 hP1
      clear hP1 hk1
      generalize H1 = H at hP hS ⊢
      refine lv_istore (lv' := [(6, .int z_286.1), (5, .int z_277.1), (0, .ref sb), (1, .ref (a 0 0)), (2, .ref (am 0)), (3, .ref b), (4, .int y)]) hx hb dL_law_2026 hl (by decide) rfl (fun ls hl => ?_)
      refine lv_aload_n hx hb dL_law_2028 rfl (lv_at hl 4 rfl) ?_
      obtain ⟨z_287, hz_287, hf⟩ := bn_some hf
      refine cRV (As := []) (rest := []) ⟨hx, hb, hml, hown, hts⟩ (c_X7_thrown l D cI cZ cJ cT am z_286.2 z_287 hz_287) (cwV 0 hts (gL_in gL_law_X7_thrown) rfl rfl rfl (by decide +kernel) ⟨Nat.le_of_ble_eq_true rfl, Nat.le_of_ble_eq_true rfl⟩) (fl_sub hP 1 rfl) hK (va_recv hK (fl_sub hP 1 rfl) (ci := 7) (q0 := 0) rfl rfl) rfl rfl hl.1 (Nat.le_of_ble_eq_true rfl) dL_law_2029 ⟨(by show _ ≤ 600002; omega), (by show _ ≤ 7302232; omega)⟩ ?_
      refine lv_iload hx hb dL_law_2032 (lv_at hl 1 rfl) ?_
      refine lv_icmp_eq (tgt := 2039) hx hb dL_law_2034 (by decide) (fun c_288 => ?_) (fun c_288 => ?_)
      · have hf := ite_t hf c_288
        refine lv_iload hx hb dL_law_2039 (lv_at hl 1 rfl) ?_
        refine lv_if_ne (tgt := 2063) hx hb dL_law_2041 (by decide) (fun c_289 => ?_) (fun c_289 => ?_)
        · have hf := ite_f hf c_289
          refine lv_goto (tgt := 2630) hx hb dL_law_2063 (by decide) ?_
          refine lv_iinc (v := y + 5) (lv' := [(4, .int (y + 5)), (6, .int z_286.1), (5, .int z_277.1), (0, .ref sb), (1, .ref (a 0 0)), (2, .ref (am 0)), (3, .ref b)]) hx hb dL_law_2630 hl (k := 6) rfl rfl (by decide) rfl (fun ls hl => ?_)
          refine lv_goto (tgt := 23) hx hb dL_law_2633 (by decide) ?_
          exact ih _ _ _ _ _ _ _ _ _ hf hP hS (lv_sub hl [3, 4, 5, 6, 0] rfl) (by omega) (by omega) (by omega) (by omega)
        · have hf := ite_t hf c_289
          refine lv_aload_n hx hb dL_law_2044 rfl (lv_at hl 5 rfl) ?_
          refine lv_iconst (v := 0) hx hb dL_law_2045 (by decide) ?_
          refine va_lald hx hb hK hP 100 2 rfl rfl (inb_in (i := 0) (n := 1) (by decide)) dL_law_2046 ?_
          refine lv_iload hx hb dL_law_2047 (lv_at hl 0 rfl) ?_
          refine lv_if_eq (tgt := 2056) hx hb dL_law_2049 (by decide) (fun c_290 => ?_) (fun c_290 => ?_)
          · have hf := ite_t hf c_290
            refine lv_lconst (v := 0) hx hb dL_law_2056 (by decide) ?_
            refine W.lcmp hx hb dL_law_2057 ?_
            refine lv_if_eq (tgt := 2063) hx hb dL_law_2058 (by decide) (fun c_291 => ?_) (fun c_291 => ?_)
            · have hf := ite_t hf c_291
              refine lv_goto (tgt := 2630) hx hb dL_law_2063 (by decide) ?_
              refine lv_iinc (v := y + 5) (lv' := [(4, .int (y + 5)), (6, .int z_286.1), (5, .int z_277.1), (0, .ref sb), (1, .ref (a 0 0)), (2, .ref (am 0)), (3, .ref b)]) hx hb dL_law_2630 hl (k := 6) rfl rfl (by decide) rfl (fun ls hl => ?_)
              refine lv_goto (tgt := 23) hx hb dL_law_2633 (by decide) ?_
              exact ih _ _ _ _ _ _ _ _ _ hf hP hS (lv_sub hl [3, 4, 5, 6, 0] rfl) (by omega) (by omega) (by omega) (by omega)
            · have hf := ite_f hf c_291
              refine lv_iconst (v := 0) hx hb dL_law_2061 (by decide) ?_
              exact absurd (Option.some.inj hf) (by decide)
          · have hf := ite_f hf c_290
            refine lv_lconst (v := 1) hx hb dL_law_2052 (by decide) ?_
            refine lv_goto (tgt := 2057) hx hb dL_law_2053 (by decide) ?_
            refine W.lcmp hx hb dL_law_2057 ?_
            refine lv_if_eq (tgt := 2063) hx hb dL_law_2058 (by decide) (fun c_292 => ?_) (fun c_292 => ?_)
            · have hf := ite_t hf c_292
              refine lv_goto (tgt := 2630) hx hb dL_law_2063 (by decide) ?_
              refine lv_iinc (v := y + 5) (lv' := [(4, .int (y + 5)), (6, .int z_286.1), (5, .int z_277.1), (0, .ref sb), (1, .ref (a 0 0)), (2, .ref (am 0)), (3, .ref b)]) hx hb dL_law_2630 hl (k := 6) rfl rfl (by decide) rfl (fun ls hl => ?_)
              refine lv_goto (tgt := 23) hx hb dL_law_2633 (by decide) ?_
              exact ih _ _ _ _ _ _ _ _ _ hf hP hS (lv_sub hl [3, 4, 5, 6, 0] rfl) (by omega) (by omega) (by omega) (by omega)
            · have hf := ite_f hf c_292
              refine lv_iconst (v := 0) hx hb dL_law_2061 (by decide) ?_
              exact absurd (Option.some.inj hf) (by decide)
      · have hf := ite_f hf c_288
        refine lv_iconst (v := 0) hx hb dL_law_2037 (by decide) ?_
        exact absurd (Option.some.inj hf) (by decide)
def law_B28 (L : Nat) (xs : Nat → Int32) (r23 : Int32 → S2 → S1 → (Nat → Int64) → Option Int32) (y : Int32) (U : S2) (V : S1) (g : Nat → Int64) : Option Int32 := chk (inb (y + 1) L) (chk (inb (y + 2) L) (chk (inb (y + 3) L) (bn (f_L_damage U (xs (y + 1).toNatClampNeg) (xs (y + 2).toNatClampNeg) (xs (y + 3).toNatClampNeg)) (fun z_293 => chk (inb (y + 1) L) (chk (inb (y + 2) L) (chk (inb (y + 3) L) (bn (f_X7_damage V (xs (y + 1).toNatClampNeg) (xs (y + 2).toNatClampNeg) (xs (y + 3).toNatClampNeg)) (fun z_294 => bn (f_X7_thrown z_294) (fun z_295 => if z_295 = z_293.1 then r23 (y + 5) z_293.2 z_294 g else some 0)))))))))
set_option maxHeartbeats 40000000 in
set_option maxRecDepth 100000 in
theorem law_case28 {p : Program} {l : Launch} {e : Env} {s : State} {m : MethodId} {below : List Frame} {meth : Method} {c : Code} {D : va_G} {cI cZ cJ cT : ClassId} {sb L : Nat} {xs : Nat → Int32} (hst : l.stackTraces = false) (C0 : lw_At p s m meth c sb L xs) (hK : va_K D cls (tys cI cZ cJ cT) s) (hE : EX (fun q : Nat => s.heap.size ≤ q) s) (hNC : NC s) (a : Nat → Nat → Nat) (am : Nat → Nat) (b : Nat) (hDD : ∀ (U : S2) (V : S1) (g : Nat → Int64), va_D (fun q : Nat => s.heap.size ≤ q) (wW cI cZ cJ cT a am b U V g)) (r23 : Int32 → S2 → S1 → (Nat → Int64) → Option Int32) (n : Nat) (ih : ∀ (y : Int32) (U : S2) (V : S1) (g : Nat → Int64) (H : Heap) (locs : List Loc) (ls : Array Slot) (nc ns : Nat), r23 y U V g = some 1 → va_P D cls (wW cI cZ cJ cT a am b U V g) H → va_S (fun q : Nat => s.heap.size ≤ q) s.heap H locs → lv_has ls 7 [(0, .ref sb), (1, .ref (a 0 0)), (2, .ref (am 0)), (3, .ref b), (4, .int y)] → nc + 8 * n ≤ 600002 → ns + 48 * n ≤ 7302232 → nc ≤ 600002 → ns ≤ 7302232 → W p l e room_1 s m #[Value.ref sb] below meth c H locs nc ns (lw_Z below #[Value.ref sb] s) (F0 m 23 ls [])) (y : Int32) (U : S2) (V : S1) (g : Nat → Int64) (H : Heap) (locs : List Loc) (ls : Array Slot) (nc ns : Nat) (hf : law_B28 L xs r23 y U V g = some 1) (hP : va_P D cls (wW cI cZ cJ cT a am b U V g) H) (hS : va_S (fun q : Nat => s.heap.size ≤ q) s.heap H locs) (hl : lv_has ls 7 [(0, .ref sb), (1, .ref (a 0 0)), (2, .ref (am 0)), (3, .ref b), (4, .int y)]) (hc1 : nc + 8 * (n + 1) ≤ 600002) (hc2 : ns + 48 * (n + 1) ≤ 7302232) (hc3 : nc ≤ 600002) (hc4 : ns ≤ 7302232) : W p l e room_1 s m #[Value.ref sb] below meth c H locs nc ns (lw_Z below #[Value.ref sb] s) (F0 m 2066 ls []) := by
  obtain ⟨hx, hb, hr, hml, hown, hts, hX, hbl, hlocks, hgv⟩ := id C0
  have hA : ∀ q : Nat, s.heap.size ≤ q → (fun q : Nat => s.heap.size ≤ q) q := fun _ h => h
  have hbA : ¬ (fun q : Nat => s.heap.size ≤ q) sb := Nat.not_le.mpr hbl
  unfold law_B28 at hf
  refine lv_aload_n hx hb dL_law_2066 rfl (lv_at hl 1 rfl) ?_
  refine lv_aload_n hx hb dL_law_2067 rfl (lv_at hl 0 rfl) ?_
  refine lv_iload hx hb dL_law_2068 (lv_at hl 4 rfl) ?_
  refine lv_iconst (v := 1) hx hb dL_law_2070 (by decide) ?_
  refine lv_iadd hx hb dL_law_2071 ?_
  obtain ⟨hi, hf⟩ := chk_some hf
  refine va_sld hx hb hX hbl hbA hS (inb_in hi) dL_law_2072 ?_
  refine lv_aload_n hx hb dL_law_2073 rfl (lv_at hl 0 rfl) ?_
  refine lv_iload hx hb dL_law_2074 (lv_at hl 4 rfl) ?_
  refine lv_iconst (v := 2) hx hb dL_law_2076 (by decide) ?_
  refine lv_iadd hx hb dL_law_2077 ?_
  obtain ⟨hi, hf⟩ := chk_some hf
  refine va_sld hx hb hX hbl hbA hS (inb_in hi) dL_law_2078 ?_
  refine lv_aload_n hx hb dL_law_2079 rfl (lv_at hl 0 rfl) ?_
  refine lv_iload hx hb dL_law_2080 (lv_at hl 4 rfl) ?_
  refine lv_iconst (v := 3) hx hb dL_law_2082 (by decide) ?_
  refine lv_iadd hx hb dL_law_2083 ?_
  obtain ⟨hi, hf⟩ := chk_some hf
  refine va_sld hx hb hX hbl hbA hS (inb_in hi) dL_law_2084 ?_
  obtain ⟨z_293, hz_293, hf⟩ := bn_some hf
  refine cLS (As := [.ref (a 0 0), .int (xs (y + 1).toNatClampNeg), .int (xs (y + 2).toNatClampNeg), .int (xs (y + 3).toNatClampNeg)]) (rest := []) ⟨hx, hb, hml, hown, hts⟩ (c_L_damage l hst D cI cZ cJ cT a H.size U (xs (y + 1).toNatClampNeg) (xs (y + 2).toNatClampNeg) (xs (y + 3).toNatClampNeg) z_293 hz_293) (vx_cwSW 4 hts (gM_law (gL_in gL_law_L_damage) gLK) rfl rfl rfl (by decide +kernel) ⟨Nat.le_of_ble_eq_true rfl, Nat.le_of_ble_eq_true rfl⟩) (fl_sub hP 0 rfl) hK (fl_subD (hDD U V g) 0 rfl) hE hNC hS (fl_free (hDD U V g) hS hA 0 rfl) rfl rfl hl.1 (Nat.le_of_ble_eq_true rfl) dL_law_2085 ⟨(by show _ ≤ 600002; omega), (by show _ ≤ 7302232; omega)⟩ (fun H1 locs hP1 hk1 hS => ?_)
  have hP : va_P D cls (wW cI cZ cJ cT a am b z_293.2 V g) H1 := fl_join hP (hDD U V g) 0 rfl hk1 hP1
  clear hP1 hk1
  generalize H1 = H at hP hS ⊢
  refine lv_istore (lv' := [(5, .int z_293.1), (0, .ref sb), (1, .ref (a 0 0)), (2, .ref (am 0)), (3, .ref b), (4, .int y)]) hx hb dL_law_2088 hl (by decide) rfl (fun ls hl => ?_)
  refine lv_aload_n hx hb dL_law_2090 rfl (lv_at hl 3 rfl) ?_
  refine lv_aload_n hx hb dL_law_2091 rfl (lv_at hl 1 rfl) ?_
  refine lv_iload hx hb dL_law_2092 (lv_at hl 5 rfl) ?_
  refine lv_iconst (v := 1) hx hb dL_law_2094 (by decide) ?_
  refine lv_iadd hx hb dL_law_2095 ?_
  obtain ⟨hi, hf⟩ := chk_some hf
  refine va_sld hx hb hX hbl hbA hS (inb_in hi) dL_law_2096 ?_
  refine lv_aload_n hx hb dL_law_2097 rfl (lv_at hl 1 rfl) ?_
  refine lv_iload hx hb dL_law_2098 (lv_at hl 5 rfl) ?_
  refine lv_iconst (v := 2) hx hb dL_law_2100 (by decide) ?_
  refine lv_iadd hx hb dL_law_2101 ?_
  obtain ⟨hi, hf⟩ := chk_some hf
  refine va_sld hx hb hX hbl hbA hS (inb_in hi) dL_law_2102 ?_
  refine lv_aload_n hx hb dL_law_2103 rfl (lv_at hl 1 rfl) ?_
  refine lv_iload hx hb dL_law_2104 (lv_at hl 5 rfl) ?_
  refine lv_iconst (v := 3) hx hb dL_law_2106 (by decide) ?_
  refine lv_iadd hx hb dL_law_2107 ?_
  obtain ⟨hi, hf⟩ := chk_some hf
  refine va_sld hx hb hX hbl hbA hS (inb_in hi) dL_law_2108 ?_
  obtain ⟨z_294, hz_294, hf⟩ := bn_some hf
  refine cWVv (As := [.int (xs (y + 1).toNatClampNeg), .int (xs (y + 2).toNatClampNeg), .int (xs (y + 3).toNatClampNeg)]) (rest := []) ⟨hx, hb, hml, hown, hts⟩ (c_X7_damage l D cI cZ cJ cT am H.size V (xs (y + 1).toNatClampNeg) (xs (y + 2).toNatClampNeg) (xs (y + 3).toNatClampNeg) z_294 hz_294) (cwV 3 hts (gL_in gL_law_X7_damage) rfl rfl rfl (by decide +kernel) ⟨Nat.le_of_ble_eq_true rfl, Nat.le_of_ble_eq_true rfl⟩) (fl_sub hP 1 rfl) hK (fl_subD (hDD z_293.2 V g) 1 rfl) hS (fl_free (hDD z_293.2 V g) hS hA 1 rfl) (va_recv hK (fl_sub hP 1 rfl) (ci := 7) (q0 := 0) rfl rfl) rfl rfl hl.1 (Nat.le_of_ble_eq_true rfl) dL_law_2109 ⟨(by show _ ≤ 600002; omega), (by show _ ≤ 7302232; omega)⟩ (fun H1 locs hP1 hk1 hS => ?_)
  have hP : va_P D cls (wW cI cZ cJ cT a am b z_293.2 z_294 g) H1 := fl_join hP (hDD z_293.2 V g) 1 rfl hk1 hP1
  clear hP1 hk1
  generalize H1 = H at hP hS ⊢
  refine lv_aload_n hx hb dL_law_2112 rfl (lv_at hl 3 rfl) ?_
  obtain ⟨z_295, hz_295, hf⟩ := bn_some hf
  refine cRV (As := []) (rest := []) ⟨hx, hb, hml, hown, hts⟩ (c_X7_thrown l D cI cZ cJ cT am z_294 z_295 hz_295) (cwV 0 hts (gL_in gL_law_X7_thrown) rfl rfl rfl (by decide +kernel) ⟨Nat.le_of_ble_eq_true rfl, Nat.le_of_ble_eq_true rfl⟩) (fl_sub hP 1 rfl) hK (va_recv hK (fl_sub hP 1 rfl) (ci := 7) (q0 := 0) rfl rfl) rfl rfl hl.1 (Nat.le_of_ble_eq_true rfl) dL_law_2113 ⟨(by show _ ≤ 600002; omega), (by show _ ≤ 7302232; omega)⟩ ?_
  refine lv_iload hx hb dL_law_2116 (lv_at hl 0 rfl) ?_
  refine lv_icmp_eq (tgt := 2123) hx hb dL_law_2118 (by decide) (fun c_296 => ?_) (fun c_296 => ?_)
  · have hf := ite_t hf c_296
    refine lv_goto (tgt := 2630) hx hb dL_law_2123 (by decide) ?_
    refine lv_iinc (v := y + 5) (lv' := [(4, .int (y + 5)), (5, .int z_293.1), (0, .ref sb), (1, .ref (a 0 0)), (2, .ref (am 0)), (3, .ref b)]) hx hb dL_law_2630 hl (k := 5) rfl rfl (by decide) rfl (fun ls hl => ?_)
    refine lv_goto (tgt := 23) hx hb dL_law_2633 (by decide) ?_
    exact ih _ _ _ _ _ _ _ _ _ hf hP hS (lv_sub hl [2, 3, 4, 5, 0] rfl) (by omega) (by omega) (by omega) (by omega)
  · have hf := ite_f hf c_296
    refine lv_iconst (v := 0) hx hb dL_law_2121 (by decide) ?_
    exact absurd (Option.some.inj hf) (by decide)
def law_B29 (L : Nat) (xs : Nat → Int32) (r23 : Int32 → S2 → S1 → (Nat → Int64) → Option Int32) (y : Int32) (U : S2) (V : S1) (g : Nat → Int64) : Option Int32 := bn (f_L_check U g) (fun z_297 => bn (f_X7_check V) (fun z_298 => bn (f_X7_thrown z_298.2) (fun z_299 => if z_299 = z_297.1 then if z_297.1 = 0 then if (lg_cmp (z_297.2.2 (0 : Int32).toNatClampNeg) z_298.1.toInt64) = 0 then r23 (y + 5) z_297.2.1 z_298.2 z_297.2.2 else some 0 else r23 (y + 5) z_297.2.1 z_298.2 z_297.2.2 else some 0)))
set_option maxHeartbeats 40000000 in
set_option maxRecDepth 100000 in
theorem law_case29 {p : Program} {l : Launch} {e : Env} {s : State} {m : MethodId} {below : List Frame} {meth : Method} {c : Code} {D : va_G} {cI cZ cJ cT : ClassId} {sb L : Nat} {xs : Nat → Int32} (hst : l.stackTraces = false) (C0 : lw_At p s m meth c sb L xs) (hK : va_K D cls (tys cI cZ cJ cT) s) (hE : EX (fun q : Nat => s.heap.size ≤ q) s) (hNC : NC s) (a : Nat → Nat → Nat) (am : Nat → Nat) (b : Nat) (hDD : ∀ (U : S2) (V : S1) (g : Nat → Int64), va_D (fun q : Nat => s.heap.size ≤ q) (wW cI cZ cJ cT a am b U V g)) (r23 : Int32 → S2 → S1 → (Nat → Int64) → Option Int32) (n : Nat) (ih : ∀ (y : Int32) (U : S2) (V : S1) (g : Nat → Int64) (H : Heap) (locs : List Loc) (ls : Array Slot) (nc ns : Nat), r23 y U V g = some 1 → va_P D cls (wW cI cZ cJ cT a am b U V g) H → va_S (fun q : Nat => s.heap.size ≤ q) s.heap H locs → lv_has ls 7 [(0, .ref sb), (1, .ref (a 0 0)), (2, .ref (am 0)), (3, .ref b), (4, .int y)] → nc + 8 * n ≤ 600002 → ns + 48 * n ≤ 7302232 → nc ≤ 600002 → ns ≤ 7302232 → W p l e room_1 s m #[Value.ref sb] below meth c H locs nc ns (lw_Z below #[Value.ref sb] s) (F0 m 23 ls [])) (y : Int32) (U : S2) (V : S1) (g : Nat → Int64) (H : Heap) (locs : List Loc) (ls : Array Slot) (nc ns : Nat) (hf : law_B29 L xs r23 y U V g = some 1) (hP : va_P D cls (wW cI cZ cJ cT a am b U V g) H) (hS : va_S (fun q : Nat => s.heap.size ≤ q) s.heap H locs) (hl : lv_has ls 7 [(0, .ref sb), (1, .ref (a 0 0)), (2, .ref (am 0)), (3, .ref b), (4, .int y)]) (hc1 : nc + 8 * (n + 1) ≤ 600002) (hc2 : ns + 48 * (n + 1) ≤ 7302232) (hc3 : nc ≤ 600002) (hc4 : ns ≤ 7302232) : W p l e room_1 s m #[Value.ref sb] below meth c H locs nc ns (lw_Z below #[Value.ref sb] s) (F0 m 2126 ls []) := by
  obtain ⟨hx, hb, hr, hml, hown, hts, hX, hbl, hlocks, hgv⟩ := id C0
  have hA : ∀ q : Nat, s.heap.size ≤ q → (fun q : Nat => s.heap.size ≤ q) q := fun _ h => h
  have hbA : ¬ (fun q : Nat => s.heap.size ≤ q) sb := Nat.not_le.mpr hbl
  unfold law_B29 at hf
  refine lv_aload_n hx hb dL_law_2126 rfl (lv_at hl 1 rfl) ?_
  refine lv_aload_n hx hb dL_law_2127 rfl (lv_at hl 3 rfl) ?_
  obtain ⟨z_297, hz_297, hf⟩ := bn_some hf
  refine cLS (As := [.ref (a 0 0), .ref b]) (rest := []) ⟨hx, hb, hml, hown, hts⟩ (c_L_check l hst D cI cZ cJ cT a b H.size U g z_297 hz_297) (vx_cwSW 2 hts (gM_law (gL_in gL_law_L_check) gLK) rfl rfl rfl (by decide +kernel) ⟨Nat.le_of_ble_eq_true rfl, Nat.le_of_ble_eq_true rfl⟩) (fl_subM hP [0, 2] rfl) hK (fl_subDM (hDD U V g) [0, 2] rfl rfl) hE hNC hS (own_free (fl_subDM (hDD U V g) [0, 2] rfl rfl) hS hA) rfl rfl hl.1 (Nat.le_of_ble_eq_true rfl) dL_law_2128 ⟨(by show _ ≤ 600002; omega), (by show _ ≤ 7302232; omega)⟩ (fun H1 locs hP1 hk1 hS => ?_)
  have hP : va_P D cls (wW cI cZ cJ cT a am b z_297.2.1 V z_297.2.2) H1 := fl_joinM (cs' := [wI cI cZ cT a z_297.2.1, [(b, .inl (cJ, 1, .inr (.inl z_297.2.2)))]]) hP (hDD U V g) [0, 2] rfl rfl hk1 hP1
  clear hP1 hk1
  generalize H1 = H at hP hS ⊢
  refine lv_istore (lv' := [(5, .int z_297.1), (0, .ref sb), (1, .ref (a 0 0)), (2, .ref (am 0)), (3, .ref b), (4, .int y)]) hx hb dL_law_2131 hl (by decide) rfl (fun ls hl => ?_)
  refine lv_aload_n hx hb dL_law_2133 rfl (lv_at hl 3 rfl) ?_
  obtain ⟨z_298, hz_298, hf⟩ := bn_some hf
  refine cWVi (As := []) (rest := []) ⟨hx, hb, hml, hown, hts⟩ (c_X7_check l D cI cZ cJ cT am H.size V z_298 hz_298) (cwV 0 hts (gL_in gL_law_X7_check) rfl rfl rfl (by decide +kernel) ⟨Nat.le_of_ble_eq_true rfl, Nat.le_of_ble_eq_true rfl⟩) (fl_sub hP 1 rfl) hK (fl_subD (hDD z_297.2.1 V z_297.2.2) 1 rfl) hS (fl_free (hDD z_297.2.1 V z_297.2.2) hS hA 1 rfl) (va_recv hK (fl_sub hP 1 rfl) (ci := 7) (q0 := 0) rfl rfl) rfl rfl hl.1 (Nat.le_of_ble_eq_true rfl) dL_law_2134 ⟨(by show _ ≤ 600002; omega), (by show _ ≤ 7302232; omega)⟩ (fun H1 locs hP1 hk1 hS => ?_)
  have hP : va_P D cls (wW cI cZ cJ cT a am b z_297.2.1 z_298.2 z_297.2.2) H1 := fl_join hP (hDD z_297.2.1 V z_297.2.2) 1 rfl hk1 hP1
  clear hP1 hk1
  generalize H1 = H at hP hS ⊢
  refine lv_istore (lv' := [(6, .int z_298.1), (5, .int z_297.1), (0, .ref sb), (1, .ref (a 0 0)), (2, .ref (am 0)), (3, .ref b), (4, .int y)]) hx hb dL_law_2137 hl (by decide) rfl (fun ls hl => ?_)
  refine lv_aload_n hx hb dL_law_2139 rfl (lv_at hl 4 rfl) ?_
  obtain ⟨z_299, hz_299, hf⟩ := bn_some hf
  refine cRV (As := []) (rest := []) ⟨hx, hb, hml, hown, hts⟩ (c_X7_thrown l D cI cZ cJ cT am z_298.2 z_299 hz_299) (cwV 0 hts (gL_in gL_law_X7_thrown) rfl rfl rfl (by decide +kernel) ⟨Nat.le_of_ble_eq_true rfl, Nat.le_of_ble_eq_true rfl⟩) (fl_sub hP 1 rfl) hK (va_recv hK (fl_sub hP 1 rfl) (ci := 7) (q0 := 0) rfl rfl) rfl rfl hl.1 (Nat.le_of_ble_eq_true rfl) dL_law_2140 ⟨(by show _ ≤ 600002; omega), (by show _ ≤ 7302232; omega)⟩ ?_
  refine lv_iload hx hb dL_law_2143 (lv_at hl 1 rfl) ?_
  refine lv_icmp_eq (tgt := 2150) hx hb dL_law_2145 (by decide) (fun c_300 => ?_) (fun c_300 => ?_)
  · have hf := ite_t hf c_300
    refine lv_iload hx hb dL_law_2150 (lv_at hl 1 rfl) ?_
    refine lv_if_ne (tgt := 2167) hx hb dL_law_2152 (by decide) (fun c_301 => ?_) (fun c_301 => ?_)
    · have hf := ite_f hf c_301
      refine lv_goto (tgt := 2630) hx hb dL_law_2167 (by decide) ?_
      refine lv_iinc (v := y + 5) (lv' := [(4, .int (y + 5)), (6, .int z_298.1), (5, .int z_297.1), (0, .ref sb), (1, .ref (a 0 0)), (2, .ref (am 0)), (3, .ref b)]) hx hb dL_law_2630 hl (k := 6) rfl rfl (by decide) rfl (fun ls hl => ?_)
      refine lv_goto (tgt := 23) hx hb dL_law_2633 (by decide) ?_
      exact ih _ _ _ _ _ _ _ _ _ hf hP hS (lv_sub hl [3, 4, 5, 6, 0] rfl) (by omega) (by omega) (by omega) (by omega)
    · have hf := ite_t hf c_301
      refine lv_aload_n hx hb dL_law_2155 rfl (lv_at hl 5 rfl) ?_
      refine lv_iconst (v := 0) hx hb dL_law_2156 (by decide) ?_
      refine va_lald hx hb hK hP 100 2 rfl rfl (inb_in (i := 0) (n := 1) (by decide)) dL_law_2157 ?_
      refine lv_iload hx hb dL_law_2158 (lv_at hl 0 rfl) ?_
      refine lv_i2l (v := z_298.1.toInt64) hx hb dL_law_2160 rfl ?_
      refine W.lcmp hx hb dL_law_2161 ?_
      refine lv_if_eq (tgt := 2167) hx hb dL_law_2162 (by decide) (fun c_302 => ?_) (fun c_302 => ?_)
      · have hf := ite_t hf c_302
        refine lv_goto (tgt := 2630) hx hb dL_law_2167 (by decide) ?_
        refine lv_iinc (v := y + 5) (lv' := [(4, .int (y + 5)), (6, .int z_298.1), (5, .int z_297.1), (0, .ref sb), (1, .ref (a 0 0)), (2, .ref (am 0)), (3, .ref b)]) hx hb dL_law_2630 hl (k := 6) rfl rfl (by decide) rfl (fun ls hl => ?_)
        refine lv_goto (tgt := 23) hx hb dL_law_2633 (by decide) ?_
        exact ih _ _ _ _ _ _ _ _ _ hf hP hS (lv_sub hl [3, 4, 5, 6, 0] rfl) (by omega) (by omega) (by omega) (by omega)
      · have hf := ite_f hf c_302
        refine lv_iconst (v := 0) hx hb dL_law_2165 (by decide) ?_
        exact absurd (Option.some.inj hf) (by decide)
  · have hf := ite_f hf c_300
    refine lv_iconst (v := 0) hx hb dL_law_2148 (by decide) ?_
    exact absurd (Option.some.inj hf) (by decide)
