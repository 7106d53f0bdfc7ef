def law_B0 (L : Nat) (xs : Nat → Int32) (r23 : Int32 → S2 → S1 → (Nat → Int64) → Option Int32) (y : Int32) (U : S2) (V : S1) (g : Nat → Int64) : Option Int32 := chk (inb (y + 1) L) (bn (f_L_user U g (xs (y + 1).toNatClampNeg)) (fun z_41 => chk (inb (y + 1) L) (bn (f_X7_user V (xs (y + 1).toNatClampNeg)) (fun z_42 => bn (f_X7_thrown z_42.2) (fun z_43 => if z_43 = z_41.1 then if z_41.1 = 0 then if (lg_cmp (z_41.2.2 (0 : Int32).toNatClampNeg) z_42.1.toInt64) = 0 then r23 (y + 5) z_41.2.1 z_42.2 z_41.2.2 else some 0 else r23 (y + 5) z_41.2.1 z_42.2 z_41.2.2 else some 0)))))
set_option maxHeartbeats 40000000 in
set_option maxRecDepth 100000 in
theorem law_case0 {p : Program} {l : Launch} {e : Env} {s : State} {m : MethodId} {below : List Frame} {meth : Method} {c : Code} {D : va_G} {cI cZ cJ cT : ClassId} {sb L : Nat} {xs : Nat → Int32} (hst : l.stackTraces = false) (C0 : lw_At p s m meth c sb L xs) (hK : va_K D cls (tys cI cZ cJ cT) s) (hE : EX (fun q : Nat => s.heap.size ≤ q) s) (hNC : NC s) (a : Nat → Nat → Nat) (am : Nat → Nat) (b : Nat) (hDD : ∀ (U : S2) (V : S1) (g : Nat → Int64), va_D (fun q : Nat => s.heap.size ≤ q) (wW cI cZ cJ cT a am b U V g)) (r23 : Int32 → S2 → S1 → (Nat → Int64) → Option Int32) (n : Nat) (ih : ∀ (y : Int32) (U : S2) (V : S1) (g : Nat → Int64) (H : Heap) (locs : List Loc) (ls : Array Slot) (nc ns : Nat), r23 y U V g = some 1 → va_P D cls (wW cI cZ cJ cT a am b U V g) H → va_S (fun q : Nat => s.heap.size ≤ q) s.heap H locs → lv_has ls 7 [(0, .ref sb), (1, .ref (a 0 0)), (2, .ref (am 0)), (3, .ref b), (4, .int y)] → nc + 8 * n ≤ 600002 → ns + 48 * n ≤ 7302232 → nc ≤ 600002 → ns ≤ 7302232 → W p l e room_1 s m #[Value.ref sb] below meth c H locs nc ns (lw_Z below #[Value.ref sb] s) (F0 m 23 ls [])) (y : Int32) (U : S2) (V : S1) (g : Nat → Int64) (H : Heap) (locs : List Loc) (ls : Array Slot) (nc ns : Nat) (hf : law_B0 L xs r23 y U V g = some 1) (hP : va_P D cls (wW cI cZ cJ cT a am b U V g) H) (hS : va_S (fun q : Nat => s.heap.size ≤ q) s.heap H locs) (hl : lv_has ls 7 [(0, .ref sb), (1, .ref (a 0 0)), (2, .ref (am 0)), (3, .ref b), (4, .int y)]) (hc1 : nc + 8 * (n + 1) ≤ 600002) (hc2 : ns + 48 * (n + 1) ≤ 7302232) (hc3 : nc ≤ 600002) (hc4 : ns ≤ 7302232) : W p l e room_1 s m #[Value.ref sb] below meth c H locs nc ns (lw_Z below #[Value.ref sb] s) (F0 m 204 ls []) := by
  obtain ⟨hx, hb, hr, hml, hown, hts, hX, hbl, hlocks, hgv⟩ := id C0
  have hA : ∀ q : Nat, s.heap.size ≤ q → (fun q : Nat => s.heap.size ≤ q) q := fun _ h => h
  have hbA : ¬ (fun q : Nat => s.heap.size ≤ q) sb := Nat.not_le.mpr hbl
  unfold law_B0 at hf
  refine lv_aload_n hx hb dL_law_204 rfl (lv_at hl 1 rfl) ?_
  refine lv_aload_n hx hb dL_law_205 rfl (lv_at hl 0 rfl) ?_
  refine lv_iload hx hb dL_law_206 (lv_at hl 4 rfl) ?_
  refine lv_iconst (v := 1) hx hb dL_law_208 (by decide) ?_
  refine lv_iadd hx hb dL_law_209 ?_
  obtain ⟨hi, hf⟩ := chk_some hf
  refine va_sld hx hb hX hbl hbA hS (inb_in hi) dL_law_210 ?_
  refine lv_aload_n hx hb dL_law_211 rfl (lv_at hl 3 rfl) ?_
  obtain ⟨z_41, hz_41, hf⟩ := bn_some hf
  refine cLS (As := [.ref (a 0 0), .int (xs (y + 1).toNatClampNeg), .ref b]) (rest := []) ⟨hx, hb, hml, hown, hts⟩ (c_L_user l hst D cI cZ cJ cT a b H.size U g (xs (y + 1).toNatClampNeg) z_41 hz_41) (vx_cwSW 3 hts (gM_law (gL_in gL_law_L_user) gLK) rfl rfl rfl (by decide +kernel) ⟨Nat.le_of_ble_eq_true rfl, Nat.le_of_ble_eq_true rfl⟩) (fl_subM hP [0, 2] rfl) hK (fl_subDM (hDD U V g) [0, 2] rfl rfl) hE hNC hS (own_free (fl_subDM (hDD U V g) [0, 2] rfl rfl) hS hA) rfl rfl hl.1 (Nat.le_of_ble_eq_true rfl) dL_law_212 ⟨(by show _ ≤ 600002; omega), (by show _ ≤ 7302232; omega)⟩ (fun H1 locs hP1 hk1 hS => ?_)
  have hP : va_P D cls (wW cI cZ cJ cT a am b z_41.2.1 V z_41.2.2) H1 := fl_joinM (cs' := [wI cI cZ cT a z_41.2.1, [(b, .inl (cJ, 1, .inr (.inl z_41.2.2)))]]) hP (hDD U V g) [0, 2] rfl rfl hk1 hP1
  clear hP1 hk1
  generalize H1 = H at hP hS ⊢
  refine lv_istore (lv' := [(5, .int z_41.1), (0, .ref sb), (1, .ref (a 0 0)), (2, .ref (am 0)), (3, .ref b), (4, .int y)]) hx hb dL_law_215 hl (by decide) rfl (fun ls hl => ?_)
  refine lv_aload_n hx hb dL_law_217 rfl (lv_at hl 3 rfl) ?_
  refine lv_aload_n hx hb dL_law_218 rfl (lv_at hl 1 rfl) ?_
  refine lv_iload hx hb dL_law_219 (lv_at hl 5 rfl) ?_
  refine lv_iconst (v := 1) hx hb dL_law_221 (by decide) ?_
  refine lv_iadd hx hb dL_law_222 ?_
  obtain ⟨hi, hf⟩ := chk_some hf
  refine va_sld hx hb hX hbl hbA hS (inb_in hi) dL_law_223 ?_
  obtain ⟨z_42, hz_42, hf⟩ := bn_some hf
  refine cWVi (As := [.int (xs (y + 1).toNatClampNeg)]) (rest := []) ⟨hx, hb, hml, hown, hts⟩ (c_X7_user l D cI cZ cJ cT am H.size V (xs (y + 1).toNatClampNeg) z_42 hz_42) (cwV 1 hts (gL_in gL_law_X7_user) rfl rfl rfl (by decide +kernel) ⟨Nat.le_of_ble_eq_true rfl, Nat.le_of_ble_eq_true rfl⟩) (fl_sub hP 1 rfl) hK (fl_subD (hDD z_41.2.1 V z_41.2.2) 1 rfl) hS (fl_free (hDD z_41.2.1 V z_41.2.2) hS hA 1 rfl) (va_recv hK (fl_sub hP 1 rfl) (ci := 7) (q0 := 0) rfl rfl) rfl rfl hl.1 (Nat.le_of_ble_eq_true rfl) dL_law_224 ⟨(by show _ ≤ 600002; omega), (by show _ ≤ 7302232; omega)⟩ (fun H1 locs hP1 hk1 hS => ?_)
  have hP : va_P D cls (wW cI cZ cJ cT a am b z_41.2.1 z_42.2 z_41.2.2) H1 := fl_join hP (hDD z_41.2.1 V z_41.2.2) 1 rfl hk1 hP1
  clear hP1 hk1
  generalize H1 = H at hP hS ⊢
  refine lv_istore (lv' := [(6, .int z_42.1), (5, .int z_41.1), (0, .ref sb), (1, .ref (a 0 0)), (2, .ref (am 0)), (3, .ref b), (4, .int y)]) hx hb dL_law_227 hl (by decide) rfl (fun ls hl => ?_)
  refine lv_aload_n hx hb dL_law_229 rfl (lv_at hl 4 rfl) ?_
  obtain ⟨z_43, hz_43, hf⟩ := bn_some hf
  refine cRV (As := []) (rest := []) ⟨hx, hb, hml, hown, hts⟩ (c_X7_thrown l D cI cZ cJ cT am z_42.2 z_43 hz_43) (cwV 0 hts (gL_in gL_law_X7_thrown) rfl rfl rfl (by decide +kernel) ⟨Nat.le_of_ble_eq_true rfl, Nat.le_of_ble_eq_true rfl⟩) (fl_sub hP 1 rfl) hK (va_recv hK (fl_sub hP 1 rfl) (ci := 7) (q0 := 0) rfl rfl) rfl rfl hl.1 (Nat.le_of_ble_eq_true rfl) dL_law_230 ⟨(by show _ ≤ 600002; omega), (by show _ ≤ 7302232; omega)⟩ ?_
  refine lv_iload hx hb dL_law_233 (lv_at hl 1 rfl) ?_
  refine lv_icmp_eq (tgt := 240) hx hb dL_law_235 (by decide) (fun c_44 => ?_) (fun c_44 => ?_)
  · have hf := ite_t hf c_44
    refine lv_iload hx hb dL_law_240 (lv_at hl 1 rfl) ?_
    refine lv_if_ne (tgt := 257) hx hb dL_law_242 (by decide) (fun c_45 => ?_) (fun c_45 => ?_)
    · have hf := ite_f hf c_45
      refine lv_goto (tgt := 2630) hx hb dL_law_257 (by decide) ?_
      refine lv_iinc (v := y + 5) (lv' := [(4, .int (y + 5)), (6, .int z_42.1), (5, .int z_41.1), (0, .ref sb), (1, .ref (a 0 0)), (2, .ref (am 0)), (3, .ref b)]) hx hb dL_law_2630 hl (k := 6) rfl rfl (by decide) rfl (fun ls hl => ?_)
      refine lv_goto (tgt := 23) hx hb dL_law_2633 (by decide) ?_
      exact ih _ _ _ _ _ _ _ _ _ hf hP hS (lv_sub hl [3, 4, 5, 6, 0] rfl) (by omega) (by omega) (by omega) (by omega)
    · have hf := ite_t hf c_45
      refine lv_aload_n hx hb dL_law_245 rfl (lv_at hl 5 rfl) ?_
      refine lv_iconst (v := 0) hx hb dL_law_246 (by decide) ?_
      refine va_lald hx hb hK hP 100 2 rfl rfl (inb_in (i := 0) (n := 1) (by decide)) dL_law_247 ?_
      refine lv_iload hx hb dL_law_248 (lv_at hl 0 rfl) ?_
      refine lv_i2l (v := z_42.1.toInt64) hx hb dL_law_250 rfl ?_
      refine W.lcmp hx hb dL_law_251 ?_
      refine lv_if_eq (tgt := 257) hx hb dL_law_252 (by decide) (fun c_46 => ?_) (fun c_46 => ?_)
      · have hf := ite_t hf c_46
        refine lv_goto (tgt := 2630) hx hb dL_law_257 (by decide) ?_
        refine lv_iinc (v := y + 5) (lv' := [(4, .int (y + 5)), (6, .int z_42.1), (5, .int z_41.1), (0, .ref sb), (1, .ref (a 0 0)), (2, .ref (am 0)), (3, .ref b)]) hx hb dL_law_2630 hl (k := 6) rfl rfl (by decide) rfl (fun ls hl => ?_)
        refine lv_goto (tgt := 23) hx hb dL_law_2633 (by decide) ?_
        exact ih _ _ _ _ _ _ _ _ _ hf hP hS (lv_sub hl [3, 4, 5, 6, 0] rfl) (by omega) (by omega) (by omega) (by omega)
      · have hf := ite_f hf c_46
        refine lv_iconst (v := 0) hx hb dL_law_255 (by decide) ?_
        exact absurd (Option.some.inj hf) (by decide)
  · have hf := ite_f hf c_44
    refine lv_iconst (v := 0) hx hb dL_law_238 (by decide) ?_
    exact absurd (Option.some.inj hf) (by decide)
def law_B1 (L : Nat) (xs : Nat → Int32) (r23 : Int32 → S2 → S1 → (Nat → Int64) → Option Int32) (y : Int32) (U : S2) (V : S1) (g : Nat → Int64) : Option Int32 := chk (inb (y + 1) L) (chk (inb (y + 2) L) (bn (f_L_file U g (xs (y + 1).toNatClampNeg) (xs (y + 2).toNatClampNeg)) (fun z_47 => chk (inb (y + 1) L) (chk (inb (y + 2) L) (bn (f_X7_file V (xs (y + 1).toNatClampNeg) (xs (y + 2).toNatClampNeg)) (fun z_48 => bn (f_X7_thrown z_48.2) (fun z_49 => if z_49 = z_47.1 then if z_47.1 = 0 then if (lg_cmp (z_47.2.2 (0 : Int32).toNatClampNeg) z_48.1.toInt64) = 0 then r23 (y + 5) z_47.2.1 z_48.2 z_47.2.2 else some 0 else r23 (y + 5) z_47.2.1 z_48.2 z_47.2.2 else some 0)))))))
set_option maxHeartbeats 40000000 in
set_option maxRecDepth 100000 in
theorem law_case1 {p : Program} {l : Launch} {e : Env} {s : State} {m : MethodId} {below : List Frame} {meth : Method} {c : Code} {D : va_G} {cI cZ cJ cT : ClassId} {sb L : Nat} {xs : Nat → Int32} (hst : l.stackTraces = false) (C0 : lw_At p s m meth c sb L xs) (hK : va_K D cls (tys cI cZ cJ cT) s) (hE : EX (fun q : Nat => s.heap.size ≤ q) s) (hNC : NC s) (a : Nat → Nat → Nat) (am : Nat → Nat) (b : Nat) (hDD : ∀ (U : S2) (V : S1) (g : Nat → Int64), va_D (fun q : Nat => s.heap.size ≤ q) (wW cI cZ cJ cT a am b U V g)) (r23 : Int32 → S2 → S1 → (Nat → Int64) → Option Int32) (n : Nat) (ih : ∀ (y : Int32) (U : S2) (V : S1) (g : Nat → Int64) (H : Heap) (locs : List Loc) (ls : Array Slot) (nc ns : Nat), r23 y U V g = some 1 → va_P D cls (wW cI cZ cJ cT a am b U V g) H → va_S (fun q : Nat => s.heap.size ≤ q) s.heap H locs → lv_has ls 7 [(0, .ref sb), (1, .ref (a 0 0)), (2, .ref (am 0)), (3, .ref b), (4, .int y)] → nc + 8 * n ≤ 600002 → ns + 48 * n ≤ 7302232 → nc ≤ 600002 → ns ≤ 7302232 → W p l e room_1 s m #[Value.ref sb] below meth c H locs nc ns (lw_Z below #[Value.ref sb] s) (F0 m 23 ls [])) (y : Int32) (U : S2) (V : S1) (g : Nat → Int64) (H : Heap) (locs : List Loc) (ls : Array Slot) (nc ns : Nat) (hf : law_B1 L xs r23 y U V g = some 1) (hP : va_P D cls (wW cI cZ cJ cT a am b U V g) H) (hS : va_S (fun q : Nat => s.heap.size ≤ q) s.heap H locs) (hl : lv_has ls 7 [(0, .ref sb), (1, .ref (a 0 0)), (2, .ref (am 0)), (3, .ref b), (4, .int y)]) (hc1 : nc + 8 * (n + 1) ≤ 600002) (hc2 : ns + 48 * (n + 1) ≤ 7302232) (hc3 : nc ≤ 600002) (hc4 : ns ≤ 7302232) : W p l e room_1 s m #[Value.ref sb] below meth c H locs nc ns (lw_Z below #[Value.ref sb] s) (F0 m 260 ls []) := by
  obtain ⟨hx, hb, hr, hml, hown, hts, hX, hbl, hlocks, hgv⟩ := id C0
  have hA : ∀ q : Nat, s.heap.size ≤ q → (fun q : Nat => s.heap.size ≤ q) q := fun _ h => h
  have hbA : ¬ (fun q : Nat => s.heap.size ≤ q) sb := Nat.not_le.mpr hbl
  unfold law_B1 at hf
  refine lv_aload_n hx hb dL_law_260 rfl (lv_at hl 1 rfl) ?_
  refine lv_aload_n hx hb dL_law_261 rfl (lv_at hl 0 rfl) ?_
  refine lv_iload hx hb dL_law_262 (lv_at hl 4 rfl) ?_
  refine lv_iconst (v := 1) hx hb dL_law_264 (by decide) ?_
  refine lv_iadd hx hb dL_law_265 ?_
  obtain ⟨hi, hf⟩ := chk_some hf
  refine va_sld hx hb hX hbl hbA hS (inb_in hi) dL_law_266 ?_
  refine lv_aload_n hx hb dL_law_267 rfl (lv_at hl 0 rfl) ?_
  refine lv_iload hx hb dL_law_268 (lv_at hl 4 rfl) ?_
  refine lv_iconst (v := 2) hx hb dL_law_270 (by decide) ?_
  refine lv_iadd hx hb dL_law_271 ?_
  obtain ⟨hi, hf⟩ := chk_some hf
  refine va_sld hx hb hX hbl hbA hS (inb_in hi) dL_law_272 ?_
  refine lv_aload_n hx hb dL_law_273 rfl (lv_at hl 3 rfl) ?_
  obtain ⟨z_47, hz_47, hf⟩ := bn_some hf
  refine cLS (As := [.ref (a 0 0), .int (xs (y + 1).toNatClampNeg), .int (xs (y + 2).toNatClampNeg), .ref b]) (rest := []) ⟨hx, hb, hml, hown, hts⟩ (c_L_file l hst D cI cZ cJ cT a b H.size U g (xs (y + 1).toNatClampNeg) (xs (y + 2).toNatClampNeg) z_47 hz_47) (vx_cwSW 4 hts (gM_law (gL_in gL_law_L_file) gLK) rfl rfl rfl (by decide +kernel) ⟨Nat.le_of_ble_eq_true rfl, Nat.le_of_ble_eq_true rfl⟩) (fl_subM hP [0, 2] rfl) hK (fl_subDM (hDD U V g) [0, 2] rfl rfl) hE hNC hS (own_free (fl_subDM (hDD U V g) [0, 2] rfl rfl) hS hA) rfl rfl hl.1 (Nat.le_of_ble_eq_true rfl) dL_law_274 ⟨(by show _ ≤ 600002; omega), (by show _ ≤ 7302232; omega)⟩ (fun H1 locs hP1 hk1 hS => ?_)
  have hP : va_P D cls (wW cI cZ cJ cT a am b z_47.2.1 V z_47.2.2) H1 := fl_joinM (cs' := [wI cI cZ cT a z_47.2.1, [(b, .inl (cJ, 1, .inr (.inl z_47.2.2)))]]) hP (hDD U V g) [0, 2] rfl rfl hk1 hP1
  clear hP1 hk1
  generalize H1 = H at hP hS ⊢
  refine lv_istore (lv' := [(5, .int z_47.1), (0, .ref sb), (1, .ref (a 0 0)), (2, .ref (am 0)), (3, .ref b), (4, .int y)]) hx hb dL_law_277 hl (by decide) rfl (fun ls hl => ?_)
  refine lv_aload_n hx hb dL_law_279 rfl (lv_at hl 3 rfl) ?_
  refine lv_aload_n hx hb dL_law_280 rfl (lv_at hl 1 rfl) ?_
  refine lv_iload hx hb dL_law_281 (lv_at hl 5 rfl) ?_
  refine lv_iconst (v := 1) hx hb dL_law_283 (by decide) ?_
  refine lv_iadd hx hb dL_law_284 ?_
  obtain ⟨hi, hf⟩ := chk_some hf
  refine va_sld hx hb hX hbl hbA hS (inb_in hi) dL_law_285 ?_
  refine lv_aload_n hx hb dL_law_286 rfl (lv_at hl 1 rfl) ?_
  refine lv_iload hx hb dL_law_287 (lv_at hl 5 rfl) ?_
  refine lv_iconst (v := 2) hx hb dL_law_289 (by decide) ?_
  refine lv_iadd hx hb dL_law_290 ?_
  obtain ⟨hi, hf⟩ := chk_some hf
  refine va_sld hx hb hX hbl hbA hS (inb_in hi) dL_law_291 ?_
  obtain ⟨z_48, hz_48, hf⟩ := bn_some hf
  refine cWVi (As := [.int (xs (y + 1).toNatClampNeg), .int (xs (y + 2).toNatClampNeg)]) (rest := []) ⟨hx, hb, hml, hown, hts⟩ (c_X7_file l D cI cZ cJ cT am H.size V (xs (y + 1).toNatClampNeg) (xs (y + 2).toNatClampNeg) z_48 hz_48) (cwV 2 hts (gL_in gL_law_X7_file) rfl rfl rfl (by decide +kernel) ⟨Nat.le_of_ble_eq_true rfl, Nat.le_of_ble_eq_true rfl⟩) (fl_sub hP 1 rfl) hK (fl_subD (hDD z_47.2.1 V z_47.2.2) 1 rfl) hS (fl_free (hDD z_47.2.1 V z_47.2.2) hS hA 1 rfl) (va_recv hK (fl_sub hP 1 rfl) (ci := 7) (q0 := 0) rfl rfl) rfl rfl hl.1 (Nat.le_of_ble_eq_true rfl) dL_law_292 ⟨(by show _ ≤ 600002; omega), (by show _ ≤ 7302232; omega)⟩ (fun H1 locs hP1 hk1 hS => ?_)
  have hP : va_P D cls (wW cI cZ cJ cT a am b z_47.2.1 z_48.2 z_47.2.2) H1 := fl_join hP (hDD z_47.2.1 V z_47.2.2) 1 rfl hk1 hP1
  clear hP1 hk1
  generalize H1 = H at hP hS ⊢
  refine lv_istore (lv' := [(6, .int z_48.1), (5, .int z_47.1), (0, .ref sb), (1, .ref (a 0 0)), (2, .ref (am 0)), (3, .ref b), (4, .int y)]) hx hb dL_law_295 hl (by decide) rfl (fun ls hl => ?_)
  refine lv_aload_n hx hb dL_law_297 rfl (lv_at hl 4 rfl) ?_
  obtain ⟨z_49, hz_49, hf⟩ := bn_some hf
  refine cRV (As := []) (rest := []) ⟨hx, hb, hml, hown, hts⟩ (c_X7_thrown l D cI cZ cJ cT am z_48.2 z_49 hz_49) (cwV 0 hts (gL_in gL_law_X7_thrown) rfl rfl rfl (by decide +kernel) ⟨Nat.le_of_ble_eq_true rfl, Nat.le_of_ble_eq_true rfl⟩) (fl_sub hP 1 rfl) hK (va_recv hK (fl_sub hP 1 rfl) (ci := 7) (q0 := 0) rfl rfl) rfl rfl hl.1 (Nat.le_of_ble_eq_true rfl) dL_law_298 ⟨(by show _ ≤ 600002; omega), (by show _ ≤ 7302232; omega)⟩ ?_
  refine lv_iload hx hb dL_law_301 (lv_at hl 1 rfl) ?_
  refine lv_icmp_eq (tgt := 308) hx hb dL_law_303 (by decide) (fun c_50 => ?_) (fun c_50 => ?_)
  · have hf := ite_t hf c_50
    refine lv_iload hx hb dL_law_308 (lv_at hl 1 rfl) ?_
    refine lv_if_ne (tgt := 325) hx hb dL_law_310 (by decide) (fun c_51 => ?_) (fun c_51 => ?_)
    · have hf := ite_f hf c_51
      refine lv_goto (tgt := 2630) hx hb dL_law_325 (by decide) ?_
      refine lv_iinc (v := y + 5) (lv' := [(4, .int (y + 5)), (6, .int z_48.1), (5, .int z_47.1), (0, .ref sb), (1, .ref (a 0 0)), (2, .ref (am 0)), (3, .ref b)]) hx hb dL_law_2630 hl (k := 6) rfl rfl (by decide) rfl (fun ls hl => ?_)
      refine lv_goto (tgt := 23) hx hb dL_law_2633 (by decide) ?_
      exact ih _ _ _ _ _ _ _ _ _ hf hP hS (lv_sub hl [3, 4, 5, 6, 0] rfl) (by omega) (by omega) (by omega) (by omega)
    · have hf := ite_t hf c_51
      refine lv_aload_n hx hb dL_law_313 rfl (lv_at hl 5 rfl) ?_
      refine lv_iconst (v := 0) hx hb dL_law_314 (by decide) ?_
      refine va_lald hx hb hK hP 100 2 rfl rfl (inb_in (i := 0) (n := 1) (by decide)) dL_law_315 ?_
      refine lv_iload hx hb dL_law_316 (lv_at hl 0 rfl) ?_
      refine lv_i2l (v := z_48.1.toInt64) hx hb dL_law_318 rfl ?_
      refine W.lcmp hx hb dL_law_319 ?_
      refine lv_if_eq (tgt := 325) hx hb dL_law_320 (by decide) (fun c_52 => ?_) (fun c_52 => ?_)
      · have hf := ite_t hf c_52
        refine lv_goto (tgt := 2630) hx hb dL_law_325 (by decide) ?_
        refine lv_iinc (v := y + 5) (lv' := [(4, .int (y + 5)), (6, .int z_48.1), (5, .int z_47.1), (0, .ref sb), (1, .ref (a 0 0)), (2, .ref (am 0)), (3, .ref b)]) hx hb dL_law_2630 hl (k := 6) rfl rfl (by decide) rfl (fun ls hl => ?_)
        refine lv_goto (tgt := 23) hx hb dL_law_2633 (by decide) ?_
        exact ih _ _ _ _ _ _ _ _ _ hf hP hS (lv_sub hl [3, 4, 5, 6, 0] rfl) (by omega) (by omega) (by omega) (by omega)
      · have hf := ite_f hf c_52
        refine lv_iconst (v := 0) hx hb dL_law_323 (by decide) ?_
        exact absurd (Option.some.inj hf) (by decide)
  · have hf := ite_f hf c_50
    refine lv_iconst (v := 0) hx hb dL_law_306 (by decide) ?_
    exact absurd (Option.some.inj hf) (by decide)
def law_B2 (L : Nat) (xs : Nat → Int32) (r23 : Int32 → S2 → S1 → (Nat → Int64) → Option Int32) (y : Int32) (U : S2) (V : S1) (g : Nat → Int64) : Option Int32 := chk (inb (y + 1) L) (chk (inb (y + 2) L) (bn (f_L_folder U g (xs (y + 1).toNatClampNeg) (xs (y + 2).toNatClampNeg)) (fun z_53 => chk (inb (y + 1) L) (chk (inb (y + 2) L) (bn (f_X7_folder V (xs (y + 1).toNatClampNeg) (xs (y + 2).toNatClampNeg)) (fun z_54 => bn (f_X7_thrown z_54.2) (fun z_55 => if z_55 = z_53.1 then if z_53.1 = 0 then if (lg_cmp (z_53.2.2 (0 : Int32).toNatClampNeg) z_54.1.toInt64) = 0 then r23 (y + 5) z_53.2.1 z_54.2 z_53.2.2 else some 0 else r23 (y + 5) z_53.2.1 z_54.2 z_53.2.2 else some 0)))))))
set_option maxHeartbeats 40000000 in
set_option maxRecDepth 100000 in
theorem law_case2 {p : Program} {l : Launch} {e : Env} {s : State} {m : MethodId} {below : List Frame} {meth : Method} {c : Code} {D : va_G} {cI cZ cJ cT : ClassId} {sb L : Nat} {xs : Nat → Int32} (hst : l.stackTraces = false) (C0 : lw_At p s m meth c sb L xs) (hK : va_K D cls (tys cI cZ cJ cT) s) (hE : EX (fun q : Nat => s.heap.size ≤ q) s) (hNC : NC s) (a : Nat → Nat → Nat) (am : Nat → Nat) (b : Nat) (hDD : ∀ (U : S2) (V : S1) (g : Nat → Int64), va_D (fun q : Nat => s.heap.size ≤ q) (wW cI cZ cJ cT a am b U V g)) (r23 : Int32 → S2 → S1 → (Nat → Int64) → Option Int32) (n : Nat) (ih : ∀ (y : Int32) (U : S2) (V : S1) (g : Nat → Int64) (H : Heap) (locs : List Loc) (ls : Array Slot) (nc ns : Nat), r23 y U V g = some 1 → va_P D cls (wW cI cZ cJ cT a am b U V g) H → va_S (fun q : Nat => s.heap.size ≤ q) s.heap H locs → lv_has ls 7 [(0, .ref sb), (1, .ref (a 0 0)), (2, .ref (am 0)), (3, .ref b), (4, .int y)] → nc + 8 * n ≤ 600002 → ns + 48 * n ≤ 7302232 → nc ≤ 600002 → ns ≤ 7302232 → W p l e room_1 s m #[Value.ref sb] below meth c H locs nc ns (lw_Z below #[Value.ref sb] s) (F0 m 23 ls [])) (y : Int32) (U : S2) (V : S1) (g : Nat → Int64) (H : Heap) (locs : List Loc) (ls : Array Slot) (nc ns : Nat) (hf : law_B2 L xs r23 y U V g = some 1) (hP : va_P D cls (wW cI cZ cJ cT a am b U V g) H) (hS : va_S (fun q : Nat => s.heap.size ≤ q) s.heap H locs) (hl : lv_has ls 7 [(0, .ref sb), (1, .ref (a 0 0)), (2, .ref (am 0)), (3, .ref b), (4, .int y)]) (hc1 : nc + 8 * (n + 1) ≤ 600002) (hc2 : ns + 48 * (n + 1) ≤ 7302232) (hc3 : nc ≤ 600002) (hc4 : ns ≤ 7302232) : W p l e room_1 s m #[Value.ref sb] below meth c H locs nc ns (lw_Z below #[Value.ref sb] s) (F0 m 328 ls []) := by
  obtain ⟨hx, hb, hr, hml, hown, hts, hX, hbl, hlocks, hgv⟩ := id C0
  have hA : ∀ q : Nat, s.heap.size ≤ q → (fun q : Nat => s.heap.size ≤ q) q := fun _ h => h
  have hbA : ¬ (fun q : Nat => s.heap.size ≤ q) sb := Nat.not_le.mpr hbl
  unfold law_B2 at hf
  refine lv_aload_n hx hb dL_law_328 rfl (lv_at hl 1 rfl) ?_
  refine lv_aload_n hx hb dL_law_329 rfl (lv_at hl 0 rfl) ?_
  refine lv_iload hx hb dL_law_330 (lv_at hl 4 rfl) ?_
  refine lv_iconst (v := 1) hx hb dL_law_332 (by decide) ?_
  refine lv_iadd hx hb dL_law_333 ?_
  obtain ⟨hi, hf⟩ := chk_some hf
  refine va_sld hx hb hX hbl hbA hS (inb_in hi) dL_law_334 ?_
  refine lv_aload_n hx hb dL_law_335 rfl (lv_at hl 0 rfl) ?_
  refine lv_iload hx hb dL_law_336 (lv_at hl 4 rfl) ?_
  refine lv_iconst (v := 2) hx hb dL_law_338 (by decide) ?_
  refine lv_iadd hx hb dL_law_339 ?_
  obtain ⟨hi, hf⟩ := chk_some hf
  refine va_sld hx hb hX hbl hbA hS (inb_in hi) dL_law_340 ?_
  refine lv_aload_n hx hb dL_law_341 rfl (lv_at hl 3 rfl) ?_
  obtain ⟨z_53, hz_53, hf⟩ := bn_some hf
  refine cLS (As := [.ref (a 0 0), .int (xs (y + 1).toNatClampNeg), .int (xs (y + 2).toNatClampNeg), .ref b]) (rest := []) ⟨hx, hb, hml, hown, hts⟩ (c_L_folder l hst D cI cZ cJ cT a b H.size U g (xs (y + 1).toNatClampNeg) (xs (y + 2).toNatClampNeg) z_53 hz_53) (vx_cwSW 4 hts (gM_law (gL_in gL_law_L_folder) gLK) rfl rfl rfl (by decide +kernel) ⟨Nat.le_of_ble_eq_true rfl, Nat.le_of_ble_eq_true rfl⟩) (fl_subM hP [0, 2] rfl) hK (fl_subDM (hDD U V g) [0, 2] rfl rfl) hE hNC hS (own_free (fl_subDM (hDD U V g) [0, 2] rfl rfl) hS hA) rfl rfl hl.1 (Nat.le_of_ble_eq_true rfl) dL_law_342 ⟨(by show _ ≤ 600002; omega), (by show _ ≤ 7302232; omega)⟩ (fun H1 locs hP1 hk1 hS => ?_)
  have hP : va_P D cls (wW cI cZ cJ cT a am b z_53.2.1 V z_53.2.2) H1 := fl_joinM (cs' := [wI cI cZ cT a z_53.2.1, [(b, .inl (cJ, 1, .inr (.inl z_53.2.2)))]]) hP (hDD U V g) [0, 2] rfl rfl hk1 hP1
  clear hP1 hk1
  generalize H1 = H at hP hS ⊢
  refine lv_istore (lv' := [(5, .int z_53.1), (0, .ref sb), (1, .ref (a 0 0)), (2, .ref (am 0)), (3, .ref b), (4, .int y)]) hx hb dL_law_345 hl (by decide) rfl (fun ls hl => ?_)
  refine lv_aload_n hx hb dL_law_347 rfl (lv_at hl 3 rfl) ?_
  refine lv_aload_n hx hb dL_law_348 rfl (lv_at hl 1 rfl) ?_
  refine lv_iload hx hb dL_law_349 (lv_at hl 5 rfl) ?_
  refine lv_iconst (v := 1) hx hb dL_law_351 (by decide) ?_
  refine lv_iadd hx hb dL_law_352 ?_
  obtain ⟨hi, hf⟩ := chk_some hf
  refine va_sld hx hb hX hbl hbA hS (inb_in hi) dL_law_353 ?_
  refine lv_aload_n hx hb dL_law_354 rfl (lv_at hl 1 rfl) ?_
  refine lv_iload hx hb dL_law_355 (lv_at hl 5 rfl) ?_
  refine lv_iconst (v := 2) hx hb dL_law_357 (by decide) ?_
  refine lv_iadd hx hb dL_law_358 ?_
  obtain ⟨hi, hf⟩ := chk_some hf
  refine va_sld hx hb hX hbl hbA hS (inb_in hi) dL_law_359 ?_
  obtain ⟨z_54, hz_54, hf⟩ := bn_some hf
  refine cWVi (As := [.int (xs (y + 1).toNatClampNeg), .int (xs (y + 2).toNatClampNeg)]) (rest := []) ⟨hx, hb, hml, hown, hts⟩ (c_X7_folder l D cI cZ cJ cT am H.size V (xs (y + 1).toNatClampNeg) (xs (y + 2).toNatClampNeg) z_54 hz_54) (cwV 2 hts (gL_in gL_law_X7_folder) rfl rfl rfl (by decide +kernel) ⟨Nat.le_of_ble_eq_true rfl, Nat.le_of_ble_eq_true rfl⟩) (fl_sub hP 1 rfl) hK (fl_subD (hDD z_53.2.1 V z_53.2.2) 1 rfl) hS (fl_free (hDD z_53.2.1 V z_53.2.2) hS hA 1 rfl) (va_recv hK (fl_sub hP 1 rfl) (ci := 7) (q0 := 0) rfl rfl) rfl rfl hl.1 (Nat.le_of_ble_eq_true rfl) dL_law_360 ⟨(by show _ ≤ 600002; omega), (by show _ ≤ 7302232; omega)⟩ (fun H1 locs hP1 hk1 hS => ?_)
  have hP : va_P D cls (wW cI cZ cJ cT a am b z_53.2.1 z_54.2 z_53.2.2) H1 := fl_join hP (hDD z_53.2.1 V z_53.2.2) 1 rfl hk1 hP1
  clear hP1 hk1
  generalize H1 = H at hP hS ⊢
  refine lv_istore (lv' := [(6, .int z_54.1), (5, .int z_53.1), (0, .ref sb), (1, .ref (a 0 0)), (2, .ref (am 0)), (3, .ref b), (4, .int y)]) hx hb dL_law_363 hl (by decide) rfl (fun ls hl => ?_)
  refine lv_aload_n hx hb dL_law_365 rfl (lv_at hl 4 rfl) ?_
  obtain ⟨z_55, hz_55, hf⟩ := bn_some hf
  refine cRV (As := []) (rest := []) ⟨hx, hb, hml, hown, hts⟩ (c_X7_thrown l D cI cZ cJ cT am z_54.2 z_55 hz_55) (cwV 0 hts (gL_in gL_law_X7_thrown) rfl rfl rfl (by decide +kernel) ⟨Nat.le_of_ble_eq_true rfl, Nat.le_of_ble_eq_true rfl⟩) (fl_sub hP 1 rfl) hK (va_recv hK (fl_sub hP 1 rfl) (ci := 7) (q0 := 0) rfl rfl) rfl rfl hl.1 (Nat.le_of_ble_eq_true rfl) dL_law_366 ⟨(by show _ ≤ 600002; omega), (by show _ ≤ 7302232; omega)⟩ ?_
  refine lv_iload hx hb dL_law_369 (lv_at hl 1 rfl) ?_
  refine lv_icmp_eq (tgt := 376) hx hb dL_law_371 (by decide) (fun c_56 => ?_) (fun c_56 => ?_)
  · have hf := ite_t hf c_56
    refine lv_iload hx hb dL_law_376 (lv_at hl 1 rfl) ?_
    refine lv_if_ne (tgt := 393) hx hb dL_law_378 (by decide) (fun c_57 => ?_) (fun c_57 => ?_)
    · have hf := ite_f hf c_57
      refine lv_goto (tgt := 2630) hx hb dL_law_393 (by decide) ?_
      refine lv_iinc (v := y + 5) (lv' := [(4, .int (y + 5)), (6, .int z_54.1), (5, .int z_53.1), (0, .ref sb), (1, .ref (a 0 0)), (2, .ref (am 0)), (3, .ref b)]) hx hb dL_law_2630 hl (k := 6) rfl rfl (by decide) rfl (fun ls hl => ?_)
      refine lv_goto (tgt := 23) hx hb dL_law_2633 (by decide) ?_
      exact ih _ _ _ _ _ _ _ _ _ hf hP hS (lv_sub hl [3, 4, 5, 6, 0] rfl) (by omega) (by omega) (by omega) (by omega)
    · have hf := ite_t hf c_57
      refine lv_aload_n hx hb dL_law_381 rfl (lv_at hl 5 rfl) ?_
      refine lv_iconst (v := 0) hx hb dL_law_382 (by decide) ?_
      refine va_lald hx hb hK hP 100 2 rfl rfl (inb_in (i := 0) (n := 1) (by decide)) dL_law_383 ?_
      refine lv_iload hx hb dL_law_384 (lv_at hl 0 rfl) ?_
      refine lv_i2l (v := z_54.1.toInt64) hx hb dL_law_386 rfl ?_
      refine W.lcmp hx hb dL_law_387 ?_
      refine lv_if_eq (tgt := 393) hx hb dL_law_388 (by decide) (fun c_58 => ?_) (fun c_58 => ?_)
      · have hf := ite_t hf c_58
        refine lv_goto (tgt := 2630) hx hb dL_law_393 (by decide) ?_
        refine lv_iinc (v := y + 5) (lv' := [(4, .int (y + 5)), (6, .int z_54.1), (5, .int z_53.1), (0, .ref sb), (1, .ref (a 0 0)), (2, .ref (am 0)), (3, .ref b)]) hx hb dL_law_2630 hl (k := 6) rfl rfl (by decide) rfl (fun ls hl => ?_)
        refine lv_goto (tgt := 23) hx hb dL_law_2633 (by decide) ?_
        exact ih _ _ _ _ _ _ _ _ _ hf hP hS (lv_sub hl [3, 4, 5, 6, 0] rfl) (by omega) (by omega) (by omega) (by omega)
      · have hf := ite_f hf c_58
        refine lv_iconst (v := 0) hx hb dL_law_391 (by decide) ?_
        exact absurd (Option.some.inj hf) (by decide)
  · have hf := ite_f hf c_56
    refine lv_iconst (v := 0) hx hb dL_law_374 (by decide) ?_
    exact absurd (Option.some.inj hf) (by decide)
def law_B3 (L : Nat) (xs : Nat → Int32) (r23 : Int32 → S2 → S1 → (Nat → Int64) → Option Int32) (y : Int32) (U : S2) (V : S1) (g : Nat → Int64) : Option Int32 := chk (inb (y + 1) L) (chk (inb (y + 2) L) (bn (f_L_link U g (xs (y + 1).toNatClampNeg) (xs (y + 2).toNatClampNeg)) (fun z_59 => chk (inb (y + 1) L) (chk (inb (y + 2) L) (bn (f_X7_link V (xs (y + 1).toNatClampNeg) (xs (y + 2).toNatClampNeg)) (fun z_60 => bn (f_X7_thrown z_60.2) (fun z_61 => if z_61 = z_59.1 then if z_59.1 = 0 then if (lg_cmp (z_59.2.2 (0 : Int32).toNatClampNeg) z_60.1.toInt64) = 0 then r23 (y + 5) z_59.2.1 z_60.2 z_59.2.2 else some 0 else r23 (y + 5) z_59.2.1 z_60.2 z_59.2.2 else some 0)))))))
set_option maxHeartbeats 40000000 in
set_option maxRecDepth 100000 in
theorem law_case3 {p : Program} {l : Launch} {e : Env} {s : State} {m : MethodId} {below : List Frame} {meth : Method} {c : Code} {D : va_G} {cI cZ cJ cT : ClassId} {sb L : Nat} {xs : Nat → Int32} (hst : l.stackTraces = false) (C0 : lw_At p s m meth c sb L xs) (hK : va_K D cls (tys cI cZ cJ cT) s) (hE : EX (fun q : Nat => s.heap.size ≤ q) s) (hNC : NC s) (a : Nat → Nat → Nat) (am : Nat → Nat) (b : Nat) (hDD : ∀ (U : S2) (V : S1) (g : Nat → Int64), va_D (fun q : Nat => s.heap.size ≤ q) (wW cI cZ cJ cT a am b U V g)) (r23 : Int32 → S2 → S1 → (Nat → Int64) → Option Int32) (n : Nat) (ih : ∀ (y : Int32) (U : S2) (V : S1) (g : Nat → Int64) (H : Heap) (locs : List Loc) (ls : Array Slot) (nc ns : Nat), r23 y U V g = some 1 → va_P D cls (wW cI cZ cJ cT a am b U V g) H → va_S (fun q : Nat => s.heap.size ≤ q) s.heap H locs → lv_has ls 7 [(0, .ref sb), (1, .ref (a 0 0)), (2, .ref (am 0)), (3, .ref b), (4, .int y)] → nc + 8 * n ≤ 600002 → ns + 48 * n ≤ 7302232 → nc ≤ 600002 → ns ≤ 7302232 → W p l e room_1 s m #[Value.ref sb] below meth c H locs nc ns (lw_Z below #[Value.ref sb] s) (F0 m 23 ls [])) (y : Int32) (U : S2) (V : S1) (g : Nat → Int64) (H : Heap) (locs : List Loc) (ls : Array Slot) (nc ns : Nat) (hf : law_B3 L xs r23 y U V g = some 1) (hP : va_P D cls (wW cI cZ cJ cT a am b U V g) H) (hS : va_S (fun q : Nat => s.heap.size ≤ q) s.heap H locs) (hl : lv_has ls 7 [(0, .ref sb), (1, .ref (a 0 0)), (2, .ref (am 0)), (3, .ref b), (4, .int y)]) (hc1 : nc + 8 * (n + 1) ≤ 600002) (hc2 : ns + 48 * (n + 1) ≤ 7302232) (hc3 : nc ≤ 600002) (hc4 : ns ≤ 7302232) : W p l e room_1 s m #[Value.ref sb] below meth c H locs nc ns (lw_Z below #[Value.ref sb] s) (F0 m 396 ls []) := by
  obtain ⟨hx, hb, hr, hml, hown, hts, hX, hbl, hlocks, hgv⟩ := id C0
  have hA : ∀ q : Nat, s.heap.size ≤ q → (fun q : Nat => s.heap.size ≤ q) q := fun _ h => h
  have hbA : ¬ (fun q : Nat => s.heap.size ≤ q) sb := Nat.not_le.mpr hbl
  unfold law_B3 at hf
  refine lv_aload_n hx hb dL_law_396 rfl (lv_at hl 1 rfl) ?_
  refine lv_aload_n hx hb dL_law_397 rfl (lv_at hl 0 rfl) ?_
  refine lv_iload hx hb dL_law_398 (lv_at hl 4 rfl) ?_
  refine lv_iconst (v := 1) hx hb dL_law_400 (by decide) ?_
  refine lv_iadd hx hb dL_law_401 ?_
  obtain ⟨hi, hf⟩ := chk_some hf
  refine va_sld hx hb hX hbl hbA hS (inb_in hi) dL_law_402 ?_
  refine lv_aload_n hx hb dL_law_403 rfl (lv_at hl 0 rfl) ?_
  refine lv_iload hx hb dL_law_404 (lv_at hl 4 rfl) ?_
  refine lv_iconst (v := 2) hx hb dL_law_406 (by decide) ?_
  refine lv_iadd hx hb dL_law_407 ?_
  obtain ⟨hi, hf⟩ := chk_some hf
  refine va_sld hx hb hX hbl hbA hS (inb_in hi) dL_law_408 ?_
  refine lv_aload_n hx hb dL_law_409 rfl (lv_at hl 3 rfl) ?_
  obtain ⟨z_59, hz_59, hf⟩ := bn_some hf
  refine cLS (As := [.ref (a 0 0), .int (xs (y + 1).toNatClampNeg), .int (xs (y + 2).toNatClampNeg), .ref b]) (rest := []) ⟨hx, hb, hml, hown, hts⟩ (c_L_link l hst D cI cZ cJ cT a b H.size U g (xs (y + 1).toNatClampNeg) (xs (y + 2).toNatClampNeg) z_59 hz_59) (vx_cwSW 4 hts (gM_law (gL_in gL_law_L_link) gLK) rfl rfl rfl (by decide +kernel) ⟨Nat.le_of_ble_eq_true rfl, Nat.le_of_ble_eq_true rfl⟩) (fl_subM hP [0, 2] rfl) hK (fl_subDM (hDD U V g) [0, 2] rfl rfl) hE hNC hS (own_free (fl_subDM (hDD U V g) [0, 2] rfl rfl) hS hA) rfl rfl hl.1 (Nat.le_of_ble_eq_true rfl) dL_law_410 ⟨(by show _ ≤ 600002; omega), (by show _ ≤ 7302232; omega)⟩ (fun H1 locs hP1 hk1 hS => ?_)
  have hP : va_P D cls (wW cI cZ cJ cT a am b z_59.2.1 V z_59.2.2) H1 := fl_joinM (cs' := [wI cI cZ cT a z_59.2.1, [(b, .inl (cJ, 1, .inr (.inl z_59.2.2)))]]) hP (hDD U V g) [0, 2] rfl rfl hk1 hP1
  clear hP1 hk1
  generalize H1 = H at hP hS ⊢
  refine lv_istore (lv' := [(5, .int z_59.1), (0, .ref sb), (1, .ref (a 0 0)), (2, .ref (am 0)), (3, .ref b), (4, .int y)]) hx hb dL_law_413 hl (by decide) rfl (fun ls hl => ?_)
  refine lv_aload_n hx hb dL_law_415 rfl (lv_at hl 3 rfl) ?_
  refine lv_aload_n hx hb dL_law_416 rfl (lv_at hl 1 rfl) ?_
  refine lv_iload hx hb dL_law_417 (lv_at hl 5 rfl) ?_
  refine lv_iconst (v := 1) hx hb dL_law_419 (by decide) ?_
  refine lv_iadd hx hb dL_law_420 ?_
  obtain ⟨hi, hf⟩ := chk_some hf
  refine va_sld hx hb hX hbl hbA hS (inb_in hi) dL_law_421 ?_
  refine lv_aload_n hx hb dL_law_422 rfl (lv_at hl 1 rfl) ?_
  refine lv_iload hx hb dL_law_423 (lv_at hl 5 rfl) ?_
  refine lv_iconst (v := 2) hx hb dL_law_425 (by decide) ?_
  refine lv_iadd hx hb dL_law_426 ?_
  obtain ⟨hi, hf⟩ := chk_some hf
  refine va_sld hx hb hX hbl hbA hS (inb_in hi) dL_law_427 ?_
  obtain ⟨z_60, hz_60, hf⟩ := bn_some hf
  refine cWVi (As := [.int (xs (y + 1).toNatClampNeg), .int (xs (y + 2).toNatClampNeg)]) (rest := []) ⟨hx, hb, hml, hown, hts⟩ (c_X7_link l D cI cZ cJ cT am H.size V (xs (y + 1).toNatClampNeg) (xs (y + 2).toNatClampNeg) z_60 hz_60) (cwV 2 hts (gL_in gL_law_X7_link) rfl rfl rfl (by decide +kernel) ⟨Nat.le_of_ble_eq_true rfl, Nat.le_of_ble_eq_true rfl⟩) (fl_sub hP 1 rfl) hK (fl_subD (hDD z_59.2.1 V z_59.2.2) 1 rfl) hS (fl_free (hDD z_59.2.1 V z_59.2.2) hS hA 1 rfl) (va_recv hK (fl_sub hP 1 rfl) (ci := 7) (q0 := 0) rfl rfl) rfl rfl hl.1 (Nat.le_of_ble_eq_true rfl) dL_law_428 ⟨(by show _ ≤ 600002; omega), (by show _ ≤ 7302232; omega)⟩ (fun H1 locs hP1 hk1 hS => ?_)
  have hP : va_P D cls (wW cI cZ cJ cT a am b z_59.2.1 z_60.2 z_59.2.2) H1 := fl_join hP (hDD z_59.2.1 V z_59.2.2) 1 rfl hk1 hP1
  clear hP1 hk1
  generalize H1 = H at hP hS ⊢
  refine lv_istore (lv' := [(6, .int z_60.1), (5, .int z_59.1), (0, .ref sb), (1, .ref (a 0 0)), (2, .ref (am 0)), (3, .ref b), (4, .int y)]) hx hb dL_law_431 hl (by decide) rfl (fun ls hl => ?_)
  refine lv_aload_n hx hb dL_law_433 rfl (lv_at hl 4 rfl) ?_
  obtain ⟨z_61, hz_61, hf⟩ := bn_some hf
  refine cRV (As := []) (rest := []) ⟨hx, hb, hml, hown, hts⟩ (c_X7_thrown l D cI cZ cJ cT am z_60.2 z_61 hz_61) (cwV 0 hts (gL_in gL_law_X7_thrown) rfl rfl rfl (by decide +kernel) ⟨Nat.le_of_ble_eq_true rfl, Nat.le_of_ble_eq_true rfl⟩) (fl_sub hP 1 rfl) hK (va_recv hK (fl_sub hP 1 rfl) (ci := 7) (q0 := 0) rfl rfl) rfl rfl hl.1 (Nat.le_of_ble_eq_true rfl) dL_law_434 ⟨(by show _ ≤ 600002; omega), (by show _ ≤ 7302232; omega)⟩ ?_
  refine lv_iload hx hb dL_law_437 (lv_at hl 1 rfl) ?_
  refine lv_icmp_eq (tgt := 444) hx hb dL_law_439 (by decide) (fun c_62 => ?_) (fun c_62 => ?_)
  · have hf := ite_t hf c_62
    refine lv_iload hx hb dL_law_444 (lv_at hl 1 rfl) ?_
    refine lv_if_ne (tgt := 461) hx hb dL_law_446 (by decide) (fun c_63 => ?_) (fun c_63 => ?_)
    · have hf := ite_f hf c_63
      refine lv_goto (tgt := 2630) hx hb dL_law_461 (by decide) ?_
      refine lv_iinc (v := y + 5) (lv' := [(4, .int (y + 5)), (6, .int z_60.1), (5, .int z_59.1), (0, .ref sb), (1, .ref (a 0 0)), (2, .ref (am 0)), (3, .ref b)]) hx hb dL_law_2630 hl (k := 6) rfl rfl (by decide) rfl (fun ls hl => ?_)
      refine lv_goto (tgt := 23) hx hb dL_law_2633 (by decide) ?_
      exact ih _ _ _ _ _ _ _ _ _ hf hP hS (lv_sub hl [3, 4, 5, 6, 0] rfl) (by omega) (by omega) (by omega) (by omega)
    · have hf := ite_t hf c_63
      refine lv_aload_n hx hb dL_law_449 rfl (lv_at hl 5 rfl) ?_
      refine lv_iconst (v := 0) hx hb dL_law_450 (by decide) ?_
      refine va_lald hx hb hK hP 100 2 rfl rfl (inb_in (i := 0) (n := 1) (by decide)) dL_law_451 ?_
      refine lv_iload hx hb dL_law_452 (lv_at hl 0 rfl) ?_
      refine lv_i2l (v := z_60.1.toInt64) hx hb dL_law_454 rfl ?_
      refine W.lcmp hx hb dL_law_455 ?_
      refine lv_if_eq (tgt := 461) hx hb dL_law_456 (by decide) (fun c_64 => ?_) (fun c_64 => ?_)
      · have hf := ite_t hf c_64
        refine lv_goto (tgt := 2630) hx hb dL_law_461 (by decide) ?_
        refine lv_iinc (v := y + 5) (lv' := [(4, .int (y + 5)), (6, .int z_60.1), (5, .int z_59.1), (0, .ref sb), (1, .ref (a 0 0)), (2, .ref (am 0)), (3, .ref b)]) hx hb dL_law_2630 hl (k := 6) rfl rfl (by decide) rfl (fun ls hl => ?_)
        refine lv_goto (tgt := 23) hx hb dL_law_2633 (by decide) ?_
        exact ih _ _ _ _ _ _ _ _ _ hf hP hS (lv_sub hl [3, 4, 5, 6, 0] rfl) (by omega) (by omega) (by omega) (by omega)
      · have hf := ite_f hf c_64
        refine lv_iconst (v := 0) hx hb dL_law_459 (by decide) ?_
        exact absurd (Option.some.inj hf) (by decide)
  · have hf := ite_f hf c_62
    refine lv_iconst (v := 0) hx hb dL_law_442 (by decide) ?_
    exact absurd (Option.some.inj hf) (by decide)
def law_B4 (L : Nat) (xs : Nat → Int32) (r23 : Int32 → S2 → S1 → (Nat → Int64) → Option Int32) (y : Int32) (U : S2) (V : S1) (g : Nat → Int64) : Option Int32 := chk (inb (y + 1) L) (chk (inb (y + 2) L) (bn (f_L_hard U g (xs (y + 1).toNatClampNeg) (xs (y + 2).toNatClampNeg)) (fun z_65 => chk (inb (y + 1) L) (chk (inb (y + 2) L) (bn (f_X7_hard V (xs (y + 1).toNatClampNeg) (xs (y + 2).toNatClampNeg)) (fun z_66 => bn (f_X7_thrown z_66.2) (fun z_67 => if z_67 = z_65.1 then if z_65.1 = 0 then if (lg_cmp (z_65.2.2 (0 : Int32).toNatClampNeg) z_66.1.toInt64) = 0 then r23 (y + 5) z_65.2.1 z_66.2 z_65.2.2 else some 0 else r23 (y + 5) z_65.2.1 z_66.2 z_65.2.2 else some 0)))))))
set_option maxHeartbeats 40000000 in
set_option maxRecDepth 100000 in
theorem law_case4 {p : Program} {l : Launch} {e : Env} {s : State} {m : MethodId} {below : List Frame} {meth : Method} {c : Code} {D : va_G} {cI cZ cJ cT : ClassId} {sb L : Nat} {xs : Nat → Int32} (hst : l.stackTraces = false) (C0 : lw_At p s m meth c sb L xs) (hK : va_K D cls (tys cI cZ cJ cT) s) (hE : EX (fun q : Nat => s.heap.size ≤ q) s) (hNC : NC s) (a : Nat → Nat → Nat) (am : Nat → Nat) (b : Nat) (hDD : ∀ (U : S2) (V : S1) (g : Nat → Int64), va_D (fun q : Nat => s.heap.size ≤ q) (wW cI cZ cJ cT a am b U V g)) (r23 : Int32 → S2 → S1 → (Nat → Int64) → Option Int32) (n : Nat) (ih : ∀ (y : Int32) (U : S2) (V : S1) (g : Nat → Int64) (H : Heap) (locs : List Loc) (ls : Array Slot) (nc ns : Nat), r23 y U V g = some 1 → va_P D cls (wW cI cZ cJ cT a am b U V g) H → va_S (fun q : Nat => s.heap.size ≤ q) s.heap H locs → lv_has ls 7 [(0, .ref sb), (1, .ref (a 0 0)), (2, .ref (am 0)), (3, .ref b), (4, .int y)] → nc + 8 * n ≤ 600002 → ns + 48 * n ≤ 7302232 → nc ≤ 600002 → ns ≤ 7302232 → W p l e room_1 s m #[Value.ref sb] below meth c H locs nc ns (lw_Z below #[Value.ref sb] s) (F0 m 23 ls [])) (y : Int32) (U : S2) (V : S1) (g : Nat → Int64) (H : Heap) (locs : List Loc) (ls : Array Slot) (nc ns : Nat) (hf : law_B4 L xs r23 y U V g = some 1) (hP : va_P D cls (wW cI cZ cJ cT a am b U V g) H) (hS : va_S (fun q : Nat => s.heap.size ≤ q) s.heap H locs) (hl : lv_has ls 7 [(0, .ref sb), (1, .ref (a 0 0)), (2, .ref (am 0)), (3, .ref b), (4, .int y)]) (hc1 : nc + 8 * (n + 1) ≤ 600002) (hc2 : ns + 48 * (n + 1) ≤ 7302232) (hc3 : nc ≤ 600002) (hc4 : ns ≤ 7302232) : W p l e room_1 s m #[Value.ref sb] below meth c H locs nc ns (lw_Z below #[Value.ref sb] s) (F0 m 464 ls []) := by
  obtain ⟨hx, hb, hr, hml, hown, hts, hX, hbl, hlocks, hgv⟩ := id C0
  have hA : ∀ q : Nat, s.heap.size ≤ q → (fun q : Nat => s.heap.size ≤ q) q := fun _ h => h
  have hbA : ¬ (fun q : Nat => s.heap.size ≤ q) sb := Nat.not_le.mpr hbl
  unfold law_B4 at hf
  refine lv_aload_n hx hb dL_law_464 rfl (lv_at hl 1 rfl) ?_
  refine lv_aload_n hx hb dL_law_465 rfl (lv_at hl 0 rfl) ?_
  refine lv_iload hx hb dL_law_466 (lv_at hl 4 rfl) ?_
  refine lv_iconst (v := 1) hx hb dL_law_468 (by decide) ?_
  refine lv_iadd hx hb dL_law_469 ?_
  obtain ⟨hi, hf⟩ := chk_some hf
  refine va_sld hx hb hX hbl hbA hS (inb_in hi) dL_law_470 ?_
  refine lv_aload_n hx hb dL_law_471 rfl (lv_at hl 0 rfl) ?_
  refine lv_iload hx hb dL_law_472 (lv_at hl 4 rfl) ?_
  refine lv_iconst (v := 2) hx hb dL_law_474 (by decide) ?_
  refine lv_iadd hx hb dL_law_475 ?_
  obtain ⟨hi, hf⟩ := chk_some hf
  refine va_sld hx hb hX hbl hbA hS (inb_in hi) dL_law_476 ?_
  refine lv_aload_n hx hb dL_law_477 rfl (lv_at hl 3 rfl) ?_
  obtain ⟨z_65, hz_65, hf⟩ := bn_some hf
  refine cLS (As := [.ref (a 0 0), .int (xs (y + 1).toNatClampNeg), .int (xs (y + 2).toNatClampNeg), .ref b]) (rest := []) ⟨hx, hb, hml, hown, hts⟩ (c_L_hard l hst D cI cZ cJ cT a b H.size U g (xs (y + 1).toNatClampNeg) (xs (y + 2).toNatClampNeg) z_65 hz_65) (vx_cwSW 4 hts (gM_law (gL_in gL_law_L_hard) gLK) rfl rfl rfl (by decide +kernel) ⟨Nat.le_of_ble_eq_true rfl, Nat.le_of_ble_eq_true rfl⟩) (fl_subM hP [0, 2] rfl) hK (fl_subDM (hDD U V g) [0, 2] rfl rfl) hE hNC hS (own_free (fl_subDM (hDD U V g) [0, 2] rfl rfl) hS hA) rfl rfl hl.1 (Nat.le_of_ble_eq_true rfl) dL_law_478 ⟨(by show _ ≤ 600002; omega), (by show _ ≤ 7302232; omega)⟩ (fun H1 locs hP1 hk1 hS => ?_)
  have hP : va_P D cls (wW cI cZ cJ cT a am b z_65.2.1 V z_65.2.2) H1 := fl_joinM (cs' := [wI cI cZ cT a z_65.2.1, [(b, .inl (cJ, 1, .inr (.inl z_65.2.2)))]]) hP (hDD U V g) [0, 2] rfl rfl hk1 hP1
  clear hP1 hk1
  generalize H1 = H at hP hS ⊢
  refine lv_istore (lv' := [(5, .int z_65.1), (0, .ref sb), (1, .ref (a 0 0)), (2, .ref (am 0)), (3, .ref b), (4, .int y)]) hx hb dL_law_481 hl (by decide) rfl (fun ls hl => ?_)
  refine lv_aload_n hx hb dL_law_483 rfl (lv_at hl 3 rfl) ?_
  refine lv_aload_n hx hb dL_law_484 rfl (lv_at hl 1 rfl) ?_
  refine lv_iload hx hb dL_law_485 (lv_at hl 5 rfl) ?_
  refine lv_iconst (v := 1) hx hb dL_law_487 (by decide) ?_
  refine lv_iadd hx hb dL_law_488 ?_
  obtain ⟨hi, hf⟩ := chk_some hf
  refine va_sld hx hb hX hbl hbA hS (inb_in hi) dL_law_489 ?_
  refine lv_aload_n hx hb dL_law_490 rfl (lv_at hl 1 rfl) ?_
  refine lv_iload hx hb dL_law_491 (lv_at hl 5 rfl) ?_
  refine lv_iconst (v := 2) hx hb dL_law_493 (by decide) ?_
  refine lv_iadd hx hb dL_law_494 ?_
  obtain ⟨hi, hf⟩ := chk_some hf
  refine va_sld hx hb hX hbl hbA hS (inb_in hi) dL_law_495 ?_
  obtain ⟨z_66, hz_66, hf⟩ := bn_some hf
  refine cWVi (As := [.int (xs (y + 1).toNatClampNeg), .int (xs (y + 2).toNatClampNeg)]) (rest := []) ⟨hx, hb, hml, hown, hts⟩ (c_X7_hard l D cI cZ cJ cT am H.size V (xs (y + 1).toNatClampNeg) (xs (y + 2).toNatClampNeg) z_66 hz_66) (cwV 2 hts (gL_in gL_law_X7_hard) rfl rfl rfl (by decide +kernel) ⟨Nat.le_of_ble_eq_true rfl, Nat.le_of_ble_eq_true rfl⟩) (fl_sub hP 1 rfl) hK (fl_subD (hDD z_65.2.1 V z_65.2.2) 1 rfl) hS (fl_free (hDD z_65.2.1 V z_65.2.2) hS hA 1 rfl) (va_recv hK (fl_sub hP 1 rfl) (ci := 7) (q0 := 0) rfl rfl) rfl rfl hl.1 (Nat.le_of_ble_eq_true rfl) dL_law_496 ⟨(by show _ ≤ 600002; omega), (by show _ ≤ 7302232; omega)⟩ (fun H1 locs hP1 hk1 hS => ?_)
  have hP : va_P D cls (wW cI cZ cJ cT a am b z_65.2.1 z_66.2 z_65.2.2) H1 := fl_join hP (hDD z_65.2.1 V z_65.2.2) 1 rfl hk1 hP1
  clear hP1 hk1
  generalize H1 = H at hP hS ⊢
  refine lv_istore (lv' := [(6, .int z_66.1), (5, .int z_65.1), (0, .ref sb), (1, .ref (a 0 0)), (2, .ref (am 0)), (3, .ref b), (4, .int y)]) hx hb dL_law_499 hl (by decide) rfl (fun ls hl => ?_)
  refine lv_aload_n hx hb dL_law_501 rfl (lv_at hl 4 rfl) ?_
  obtain ⟨z_67, hz_67, hf⟩ := bn_some hf
  refine cRV (As := []) (rest := []) ⟨hx, hb, hml, hown, hts⟩ (c_X7_thrown l D cI cZ cJ cT am z_66.2 z_67 hz_67) (cwV 0 hts (gL_in gL_law_X7_thrown) rfl rfl rfl (by decide +kernel) ⟨Nat.le_of_ble_eq_true rfl, Nat.le_of_ble_eq_true rfl⟩) (fl_sub hP 1 rfl) hK (va_recv hK (fl_sub hP 1 rfl) (ci := 7) (q0 := 0) rfl rfl) rfl rfl hl.1 (Nat.le_of_ble_eq_true rfl) dL_law_502 ⟨(by show _ ≤ 600002; omega), (by show _ ≤ 7302232; omega)⟩ ?_
  refine lv_iload hx hb dL_law_505 (lv_at hl 1 rfl) ?_
  refine lv_icmp_eq (tgt := 512) hx hb dL_law_507 (by decide) (fun c_68 => ?_) (fun c_68 => ?_)
  · have hf := ite_t hf c_68
    refine lv_iload hx hb dL_law_512 (lv_at hl 1 rfl) ?_
    refine lv_if_ne (tgt := 529) hx hb dL_law_514 (by decide) (fun c_69 => ?_) (fun c_69 => ?_)
    · have hf := ite_f hf c_69
      refine lv_goto (tgt := 2630) hx hb dL_law_529 (by decide) ?_
      refine lv_iinc (v := y + 5) (lv' := [(4, .int (y + 5)), (6, .int z_66.1), (5, .int z_65.1), (0, .ref sb), (1, .ref (a 0 0)), (2, .ref (am 0)), (3, .ref b)]) hx hb dL_law_2630 hl (k := 6) rfl rfl (by decide) rfl (fun ls hl => ?_)
      refine lv_goto (tgt := 23) hx hb dL_law_2633 (by decide) ?_
      exact ih _ _ _ _ _ _ _ _ _ hf hP hS (lv_sub hl [3, 4, 5, 6, 0] rfl) (by omega) (by omega) (by omega) (by omega)
    · have hf := ite_t hf c_69
      refine lv_aload_n hx hb dL_law_517 rfl (lv_at hl 5 rfl) ?_
      refine lv_iconst (v := 0) hx hb dL_law_518 (by decide) ?_
      refine va_lald hx hb hK hP 100 2 rfl rfl (inb_in (i := 0) (n := 1) (by decide)) dL_law_519 ?_
      refine lv_iload hx hb dL_law_520 (lv_at hl 0 rfl) ?_
      refine lv_i2l (v := z_66.1.toInt64) hx hb dL_law_522 rfl ?_
      refine W.lcmp hx hb dL_law_523 ?_
      refine lv_if_eq (tgt := 529) hx hb dL_law_524 (by decide) (fun c_70 => ?_) (fun c_70 => ?_)
      · have hf := ite_t hf c_70
        refine lv_goto (tgt := 2630) hx hb dL_law_529 (by decide) ?_
        refine lv_iinc (v := y + 5) (lv' := [(4, .int (y + 5)), (6, .int z_66.1), (5, .int z_65.1), (0, .ref sb), (1, .ref (a 0 0)), (2, .ref (am 0)), (3, .ref b)]) hx hb dL_law_2630 hl (k := 6) rfl rfl (by decide) rfl (fun ls hl => ?_)
        refine lv_goto (tgt := 23) hx hb dL_law_2633 (by decide) ?_
        exact ih _ _ _ _ _ _ _ _ _ hf hP hS (lv_sub hl [3, 4, 5, 6, 0] rfl) (by omega) (by omega) (by omega) (by omega)
      · have hf := ite_f hf c_70
        refine lv_iconst (v := 0) hx hb dL_law_527 (by decide) ?_
        exact absurd (Option.some.inj hf) (by decide)
  · have hf := ite_f hf c_68
    refine lv_iconst (v := 0) hx hb dL_law_510 (by decide) ?_
    exact absurd (Option.some.inj hf) (by decide)
def law_B5 (L : Nat) (xs : Nat → Int32) (r23 : Int32 → S2 → S1 → (Nat → Int64) → Option Int32) (y : Int32) (U : S2) (V : S1) (g : Nat → Int64) : Option Int32 := chk (inb (y + 1) L) (chk (inb (y + 2) L) (bn (f_L_rename U g (xs (y + 1).toNatClampNeg) (xs (y + 2).toNatClampNeg)) (fun z_71 => chk (inb (y + 1) L) (chk (inb (y + 2) L) (bn (f_X7_rename V (xs (y + 1).toNatClampNeg) (xs (y + 2).toNatClampNeg)) (fun z_72 => bn (f_X7_thrown z_72.2) (fun z_73 => if z_73 = z_71.1 then if z_71.1 = 0 then if (lg_cmp (z_71.2.2 (0 : Int32).toNatClampNeg) z_72.1.toInt64) = 0 then r23 (y + 5) z_71.2.1 z_72.2 z_71.2.2 else some 0 else r23 (y + 5) z_71.2.1 z_72.2 z_71.2.2 else some 0)))))))
set_option maxHeartbeats 40000000 in
set_option maxRecDepth 100000 in
theorem law_case5 {p : Program} {l : Launch} {e : Env} {s : State} {m : MethodId} {below : List Frame} {meth : Method} {c : Code} {D : va_G} {cI cZ cJ cT : ClassId} {sb L : Nat} {xs : Nat → Int32} (hst : l.stackTraces = false) (C0 : lw_At p s m meth c sb L xs) (hK : va_K D cls (tys cI cZ cJ cT) s) (hE : EX (fun q : Nat => s.heap.size ≤ q) s) (hNC : NC s) (a : Nat → Nat → Nat) (am : Nat → Nat) (b : Nat) (hDD : ∀ (U : S2) (V : S1) (g : Nat → Int64), va_D (fun q : Nat => s.heap.size ≤ q) (wW cI cZ cJ cT a am b U V g)) (r23 : Int32 → S2 → S1 → (Nat → Int64) → Option Int32) (n : Nat) (ih : ∀ (y : Int32) (U : S2) (V : S1) (g : Nat → Int64) (H : Heap) (locs : List Loc) (ls : Array Slot) (nc ns : Nat), r23 y U V g = some 1 → va_P D cls (wW cI cZ cJ cT a am b U V g) H → va_S (fun q : Nat => s.heap.size ≤ q) s.heap H locs → lv_has ls 7 [(0, .ref sb), (1, .ref (a 0 0)), (2, .ref (am 0)), (3, .ref b), (4, .int y)] → nc + 8 * n ≤ 600002 → ns + 48 * n ≤ 7302232 → nc ≤ 600002 → ns ≤ 7302232 → W p l e room_1 s m #[Value.ref sb] below meth c H locs nc ns (lw_Z below #[Value.ref sb] s) (F0 m 23 ls [])) (y : Int32) (U : S2) (V : S1) (g : Nat → Int64) (H : Heap) (locs : List Loc) (ls : Array Slot) (nc ns : Nat) (hf : law_B5 L xs r23 y U V g = some 1) (hP : va_P D cls (wW cI cZ cJ cT a am b U V g) H) (hS : va_S (fun q : Nat => s.heap.size ≤ q) s.heap H locs) (hl : lv_has ls 7 [(0, .ref sb), (1, .ref (a 0 0)), (2, .ref (am 0)), (3, .ref b), (4, .int y)]) (hc1 : nc + 8 * (n + 1) ≤ 600002) (hc2 : ns + 48 * (n + 1) ≤ 7302232) (hc3 : nc ≤ 600002) (hc4 : ns ≤ 7302232) : W p l e room_1 s m #[Value.ref sb] below meth c H locs nc ns (lw_Z below #[Value.ref sb] s) (F0 m 532 ls []) := by
  obtain ⟨hx, hb, hr, hml, hown, hts, hX, hbl, hlocks, hgv⟩ := id C0
  have hA : ∀ q : Nat, s.heap.size ≤ q → (fun q : Nat => s.heap.size ≤ q) q := fun _ h => h
  have hbA : ¬ (fun q : Nat => s.heap.size ≤ q) sb := Nat.not_le.mpr hbl
  unfold law_B5 at hf
  refine lv_aload_n hx hb dL_law_532 rfl (lv_at hl 1 rfl) ?_
  refine lv_aload_n hx hb dL_law_533 rfl (lv_at hl 0 rfl) ?_
  refine lv_iload hx hb dL_law_534 (lv_at hl 4 rfl) ?_
  refine lv_iconst (v := 1) hx hb dL_law_536 (by decide) ?_
  refine lv_iadd hx hb dL_law_537 ?_
  obtain ⟨hi, hf⟩ := chk_some hf
  refine va_sld hx hb hX hbl hbA hS (inb_in hi) dL_law_538 ?_
  refine lv_aload_n hx hb dL_law_539 rfl (lv_at hl 0 rfl) ?_
  refine lv_iload hx hb dL_law_540 (lv_at hl 4 rfl) ?_
  refine lv_iconst (v := 2) hx hb dL_law_542 (by decide) ?_
  refine lv_iadd hx hb dL_law_543 ?_
  obtain ⟨hi, hf⟩ := chk_some hf
  refine va_sld hx hb hX hbl hbA hS (inb_in hi) dL_law_544 ?_
  refine lv_aload_n hx hb dL_law_545 rfl (lv_at hl 3 rfl) ?_
  obtain ⟨z_71, hz_71, hf⟩ := bn_some hf
  refine cLS (As := [.ref (a 0 0), .int (xs (y + 1).toNatClampNeg), .int (xs (y + 2).toNatClampNeg), .ref b]) (rest := []) ⟨hx, hb, hml, hown, hts⟩ (c_L_rename l hst D cI cZ cJ cT a b H.size U g (xs (y + 1).toNatClampNeg) (xs (y + 2).toNatClampNeg) z_71 hz_71) (vx_cwSW 4 hts (gM_law (gL_in gL_law_L_rename) gLK) rfl rfl rfl (by decide +kernel) ⟨Nat.le_of_ble_eq_true rfl, Nat.le_of_ble_eq_true rfl⟩) (fl_subM hP [0, 2] rfl) hK (fl_subDM (hDD U V g) [0, 2] rfl rfl) hE hNC hS (own_free (fl_subDM (hDD U V g) [0, 2] rfl rfl) hS hA) rfl rfl hl.1 (Nat.le_of_ble_eq_true rfl) dL_law_546 ⟨(by show _ ≤ 600002; omega), (by show _ ≤ 7302232; omega)⟩ (fun H1 locs hP1 hk1 hS => ?_)
  have hP : va_P D cls (wW cI cZ cJ cT a am b z_71.2.1 V z_71.2.2) H1 := fl_joinM (cs' := [wI cI cZ cT a z_71.2.1, [(b, .inl (cJ, 1, .inr (.inl z_71.2.2)))]]) hP (hDD U V g) [0, 2] rfl rfl hk1 hP1
  clear hP1 hk1
  generalize H1 = H at hP hS ⊢
  refine lv_istore (lv' := [(5, .int z_71.1), (0, .ref sb), (1, .ref (a 0 0)), (2, .ref (am 0)), (3, .ref b), (4, .int y)]) hx hb dL_law_549 hl (by decide) rfl (fun ls hl => ?_)
  refine lv_aload_n hx hb dL_law_551 rfl (lv_at hl 3 rfl) ?_
  refine lv_aload_n hx hb dL_law_552 rfl (lv_at hl 1 rfl) ?_
  refine lv_iload hx hb dL_law_553 (lv_at hl 5 rfl) ?_
  refine lv_iconst (v := 1) hx hb dL_law_555 (by decide) ?_
  refine lv_iadd hx hb dL_law_556 ?_
  obtain ⟨hi, hf⟩ := chk_some hf
  refine va_sld hx hb hX hbl hbA hS (inb_in hi) dL_law_557 ?_
  refine lv_aload_n hx hb dL_law_558 rfl (lv_at hl 1 rfl) ?_
  refine lv_iload hx hb dL_law_559 (lv_at hl 5 rfl) ?_
  refine lv_iconst (v := 2) hx hb dL_law_561 (by decide) ?_
  refine lv_iadd hx hb dL_law_562 ?_
  obtain ⟨hi, hf⟩ := chk_some hf
  refine va_sld hx hb hX hbl hbA hS (inb_in hi) dL_law_563 ?_
  obtain ⟨z_72, hz_72, hf⟩ := bn_some hf
  refine cWVi (As := [.int (xs (y + 1).toNatClampNeg), .int (xs (y + 2).toNatClampNeg)]) (rest := []) ⟨hx, hb, hml, hown, hts⟩ (c_X7_rename l D cI cZ cJ cT am H.size V (xs (y + 1).toNatClampNeg) (xs (y + 2).toNatClampNeg) z_72 hz_72) (cwV 2 hts (gL_in gL_law_X7_rename) rfl rfl rfl (by decide +kernel) ⟨Nat.le_of_ble_eq_true rfl, Nat.le_of_ble_eq_true rfl⟩) (fl_sub hP 1 rfl) hK (fl_subD (hDD z_71.2.1 V z_71.2.2) 1 rfl) hS (fl_free (hDD z_71.2.1 V z_71.2.2) hS hA 1 rfl) (va_recv hK (fl_sub hP 1 rfl) (ci := 7) (q0 := 0) rfl rfl) rfl rfl hl.1 (Nat.le_of_ble_eq_true rfl) dL_law_564 ⟨(by show _ ≤ 600002; omega), (by show _ ≤ 7302232; omega)⟩ (fun H1 locs hP1 hk1 hS => ?_)
  have hP : va_P D cls (wW cI cZ cJ cT a am b z_71.2.1 z_72.2 z_71.2.2) H1 := fl_join hP (hDD z_71.2.1 V z_71.2.2) 1 rfl hk1 hP1
  clear hP1 hk1
  generalize H1 = H at hP hS ⊢
  refine lv_istore (lv' := [(6, .int z_72.1), (5, .int z_71.1), (0, .ref sb), (1, .ref (a 0 0)), (2, .ref (am 0)), (3, .ref b), (4, .int y)]) hx hb dL_law_567 hl (by decide) rfl (fun ls hl => ?_)
  refine lv_aload_n hx hb dL_law_569 rfl (lv_at hl 4 rfl) ?_
  obtain ⟨z_73, hz_73, hf⟩ := bn_some hf
  refine cRV (As := []) (rest := []) ⟨hx, hb, hml, hown, hts⟩ (c_X7_thrown l D cI cZ cJ cT am z_72.2 z_73 hz_73) (cwV 0 hts (gL_in gL_law_X7_thrown) rfl rfl rfl (by decide +kernel) ⟨Nat.le_of_ble_eq_true rfl, Nat.le_of_ble_eq_true rfl⟩) (fl_sub hP 1 rfl) hK (va_recv hK (fl_sub hP 1 rfl) (ci := 7) (q0 := 0) rfl rfl) rfl rfl hl.1 (Nat.le_of_ble_eq_true rfl) dL_law_570 ⟨(by show _ ≤ 600002; omega), (by show _ ≤ 7302232; omega)⟩ ?_
  refine lv_iload hx hb dL_law_573 (lv_at hl 1 rfl) ?_
  refine lv_icmp_eq (tgt := 580) hx hb dL_law_575 (by decide) (fun c_74 => ?_) (fun c_74 => ?_)
  · have hf := ite_t hf c_74
    refine lv_iload hx hb dL_law_580 (lv_at hl 1 rfl) ?_
    refine lv_if_ne (tgt := 597) hx hb dL_law_582 (by decide) (fun c_75 => ?_) (fun c_75 => ?_)
    · have hf := ite_f hf c_75
      refine lv_goto (tgt := 2630) hx hb dL_law_597 (by decide) ?_
      refine lv_iinc (v := y + 5) (lv' := [(4, .int (y + 5)), (6, .int z_72.1), (5, .int z_71.1), (0, .ref sb), (1, .ref (a 0 0)), (2, .ref (am 0)), (3, .ref b)]) hx hb dL_law_2630 hl (k := 6) rfl rfl (by decide) rfl (fun ls hl => ?_)
      refine lv_goto (tgt := 23) hx hb dL_law_2633 (by decide) ?_
      exact ih _ _ _ _ _ _ _ _ _ hf hP hS (lv_sub hl [3, 4, 5, 6, 0] rfl) (by omega) (by omega) (by omega) (by omega)
    · have hf := ite_t hf c_75
      refine lv_aload_n hx hb dL_law_585 rfl (lv_at hl 5 rfl) ?_
      refine lv_iconst (v := 0) hx hb dL_law_586 (by decide) ?_
      refine va_lald hx hb hK hP 100 2 rfl rfl (inb_in (i := 0) (n := 1) (by decide)) dL_law_587 ?_
      refine lv_iload hx hb dL_law_588 (lv_at hl 0 rfl) ?_
      refine lv_i2l (v := z_72.1.toInt64) hx hb dL_law_590 rfl ?_
      refine W.lcmp hx hb dL_law_591 ?_
      refine lv_if_eq (tgt := 597) hx hb dL_law_592 (by decide) (fun c_76 => ?_) (fun c_76 => ?_)
      · have hf := ite_t hf c_76
        refine lv_goto (tgt := 2630) hx hb dL_law_597 (by decide) ?_
        refine lv_iinc (v := y + 5) (lv' := [(4, .int (y + 5)), (6, .int z_72.1), (5, .int z_71.1), (0, .ref sb), (1, .ref (a 0 0)), (2, .ref (am 0)), (3, .ref b)]) hx hb dL_law_2630 hl (k := 6) rfl rfl (by decide) rfl (fun ls hl => ?_)
        refine lv_goto (tgt := 23) hx hb dL_law_2633 (by decide) ?_
        exact ih _ _ _ _ _ _ _ _ _ hf hP hS (lv_sub hl [3, 4, 5, 6, 0] rfl) (by omega) (by omega) (by omega) (by omega)
      · have hf := ite_f hf c_76
        refine lv_iconst (v := 0) hx hb dL_law_595 (by decide) ?_
        exact absurd (Option.some.inj hf) (by decide)
  · have hf := ite_f hf c_74
    refine lv_iconst (v := 0) hx hb dL_law_578 (by decide) ?_
    exact absurd (Option.some.inj hf) (by decide)
def law_B6 (L : Nat) (xs : Nat → Int32) (r23 : Int32 → S2 → S1 → (Nat → Int64) → Option Int32) (y : Int32) (U : S2) (V : S1) (g : Nat → Int64) : Option Int32 := chk (inb (y + 1) L) (bn (f_L_remove U g (xs (y + 1).toNatClampNeg)) (fun z_77 => chk (inb (y + 1) L) (bn (f_X7_remove V (xs (y + 1).toNatClampNeg)) (fun z_78 => bn (f_X7_thrown z_78.2) (fun z_79 => if z_79 = z_77.1 then if z_77.1 = 0 then if z_78.1 = 0 then if (lg_cmp (z_77.2.2 (0 : Int32).toNatClampNeg) 0) = 0 then r23 (y + 5) z_77.2.1 z_78.2 z_77.2.2 else some 0 else if (lg_cmp (z_77.2.2 (0 : Int32).toNatClampNeg) 1) = 0 then r23 (y + 5) z_77.2.1 z_78.2 z_77.2.2 else some 0 else r23 (y + 5) z_77.2.1 z_78.2 z_77.2.2 else some 0)))))
set_option maxHeartbeats 40000000 in
set_option maxRecDepth 100000 in
theorem law_case6 {p : Program} {l : Launch} {e : Env} {s : State} {m : MethodId} {below : List Frame} {meth : Method} {c : Code} {D : va_G} {cI cZ cJ cT : ClassId} {sb L : Nat} {xs : Nat → Int32} (hst : l.stackTraces = false) (C0 : lw_At p s m meth c sb L xs) (hK : va_K D cls (tys cI cZ cJ cT) s) (hE : EX (fun q : Nat => s.heap.size ≤ q) s) (hNC : NC s) (a : Nat → Nat → Nat) (am : Nat → Nat) (b : Nat) (hDD : ∀ (U : S2) (V : S1) (g : Nat → Int64), va_D (fun q : Nat => s.heap.size ≤ q) (wW cI cZ cJ cT a am b U V g)) (r23 : Int32 → S2 → S1 → (Nat → Int64) → Option Int32) (n : Nat) (ih : ∀ (y : Int32) (U : S2) (V : S1) (g : Nat → Int64) (H : Heap) (locs : List Loc) (ls : Array Slot) (nc ns : Nat), r23 y U V g = some 1 → va_P D cls (wW cI cZ cJ cT a am b U V g) H → va_S (fun q : Nat => s.heap.size ≤ q) s.heap H locs → lv_has ls 7 [(0, .ref sb), (1, .ref (a 0 0)), (2, .ref (am 0)), (3, .ref b), (4, .int y)] → nc + 8 * n ≤ 600002 → ns + 48 * n ≤ 7302232 → nc ≤ 600002 → ns ≤ 7302232 → W p l e room_1 s m #[Value.ref sb] below meth c H locs nc ns (lw_Z below #[Value.ref sb] s) (F0 m 23 ls [])) (y : Int32) (U : S2) (V : S1) (g : Nat → Int64) (H : Heap) (locs : List Loc) (ls : Array Slot) (nc ns : Nat) (hf : law_B6 L xs r23 y U V g = some 1) (hP : va_P D cls (wW cI cZ cJ cT a am b U V g) H) (hS : va_S (fun q : Nat => s.heap.size ≤ q) s.heap H locs) (hl : lv_has ls 7 [(0, .ref sb), (1, .ref (a 0 0)), (2, .ref (am 0)), (3, .ref b), (4, .int y)]) (hc1 : nc + 8 * (n + 1) ≤ 600002) (hc2 : ns + 48 * (n + 1) ≤ 7302232) (hc3 : nc ≤ 600002) (hc4 : ns ≤ 7302232) : W p l e room_1 s m #[Value.ref sb] below meth c H locs nc ns (lw_Z below #[Value.ref sb] s) (F0 m 600 ls []) := by
  obtain ⟨hx, hb, hr, hml, hown, hts, hX, hbl, hlocks, hgv⟩ := id C0
  have hA : ∀ q : Nat, s.heap.size ≤ q → (fun q : Nat => s.heap.size ≤ q) q := fun _ h => h
  have hbA : ¬ (fun q : Nat => s.heap.size ≤ q) sb := Nat.not_le.mpr hbl
  unfold law_B6 at hf
  refine lv_aload_n hx hb dL_law_600 rfl (lv_at hl 1 rfl) ?_
  refine lv_aload_n hx hb dL_law_601 rfl (lv_at hl 0 rfl) ?_
  refine lv_iload hx hb dL_law_602 (lv_at hl 4 rfl) ?_
  refine lv_iconst (v := 1) hx hb dL_law_604 (by decide) ?_
  refine lv_iadd hx hb dL_law_605 ?_
  obtain ⟨hi, hf⟩ := chk_some hf
  refine va_sld hx hb hX hbl hbA hS (inb_in hi) dL_law_606 ?_
  refine lv_aload_n hx hb dL_law_607 rfl (lv_at hl 3 rfl) ?_
  obtain ⟨z_77, hz_77, hf⟩ := bn_some hf
  refine cLS (As := [.ref (a 0 0), .int (xs (y + 1).toNatClampNeg), .ref b]) (rest := []) ⟨hx, hb, hml, hown, hts⟩ (c_L_remove l hst D cI cZ cJ cT a b H.size U g (xs (y + 1).toNatClampNeg) z_77 hz_77) (vx_cwSW 3 hts (gM_law (gL_in gL_law_L_remove) gLK) rfl rfl rfl (by decide +kernel) ⟨Nat.le_of_ble_eq_true rfl, Nat.le_of_ble_eq_true rfl⟩) (fl_subM hP [0, 2] rfl) hK (fl_subDM (hDD U V g) [0, 2] rfl rfl) hE hNC hS (own_free (fl_subDM (hDD U V g) [0, 2] rfl rfl) hS hA) rfl rfl hl.1 (Nat.le_of_ble_eq_true rfl) dL_law_608 ⟨(by show _ ≤ 600002; omega), (by show _ ≤ 7302232; omega)⟩ (fun H1 locs hP1 hk1 hS => ?_)
  have hP : va_P D cls (wW cI cZ cJ cT a am b z_77.2.1 V z_77.2.2) H1 := fl_joinM (cs' := [wI cI cZ cT a z_77.2.1, [(b, .inl (cJ, 1, .inr (.inl z_77.2.2)))]]) hP (hDD U V g) [0, 2] rfl rfl hk1 hP1
  clear hP1 hk1
  generalize H1 = H at hP hS ⊢
  refine lv_istore (lv' := [(5, .int z_77.1), (0, .ref sb), (1, .ref (a 0 0)), (2, .ref (am 0)), (3, .ref b), (4, .int y)]) hx hb dL_law_611 hl (by decide) rfl (fun ls hl => ?_)
  refine lv_aload_n hx hb dL_law_613 rfl (lv_at hl 3 rfl) ?_
  refine lv_aload_n hx hb dL_law_614 rfl (lv_at hl 1 rfl) ?_
  refine lv_iload hx hb dL_law_615 (lv_at hl 5 rfl) ?_
  refine lv_iconst (v := 1) hx hb dL_law_617 (by decide) ?_
  refine lv_iadd hx hb dL_law_618 ?_
  obtain ⟨hi, hf⟩ := chk_some hf
  refine va_sld hx hb hX hbl hbA hS (inb_in hi) dL_law_619 ?_
  obtain ⟨z_78, hz_78, hf⟩ := bn_some hf
  refine cWVi (As := [.int (xs (y + 1).toNatClampNeg)]) (rest := []) ⟨hx, hb, hml, hown, hts⟩ (c_X7_remove l D cI cZ cJ cT am H.size V (xs (y + 1).toNatClampNeg) z_78 hz_78) (cwV 1 hts (gL_in gL_law_X7_remove) rfl rfl rfl (by decide +kernel) ⟨Nat.le_of_ble_eq_true rfl, Nat.le_of_ble_eq_true rfl⟩) (fl_sub hP 1 rfl) hK (fl_subD (hDD z_77.2.1 V z_77.2.2) 1 rfl) hS (fl_free (hDD z_77.2.1 V z_77.2.2) hS hA 1 rfl) (va_recv hK (fl_sub hP 1 rfl) (ci := 7) (q0 := 0) rfl rfl) rfl rfl hl.1 (Nat.le_of_ble_eq_true rfl) dL_law_620 ⟨(by show _ ≤ 600002; omega), (by show _ ≤ 7302232; omega)⟩ (fun H1 locs hP1 hk1 hS => ?_)
  have hP : va_P D cls (wW cI cZ cJ cT a am b z_77.2.1 z_78.2 z_77.2.2) H1 := fl_join hP (hDD z_77.2.1 V z_77.2.2) 1 rfl hk1 hP1
  clear hP1 hk1
  generalize H1 = H at hP hS ⊢
  refine lv_istore (lv' := [(6, .int z_78.1), (5, .int z_77.1), (0, .ref sb), (1, .ref (a 0 0)), (2, .ref (am 0)), (3, .ref b), (4, .int y)]) hx hb dL_law_623 hl (by decide) rfl (fun ls hl => ?_)
  refine lv_aload_n hx hb dL_law_625 rfl (lv_at hl 4 rfl) ?_
  obtain ⟨z_79, hz_79, hf⟩ := bn_some hf
  refine cRV (As := []) (rest := []) ⟨hx, hb, hml, hown, hts⟩ (c_X7_thrown l D cI cZ cJ cT am z_78.2 z_79 hz_79) (cwV 0 hts (gL_in gL_law_X7_thrown) rfl rfl rfl (by decide +kernel) ⟨Nat.le_of_ble_eq_true rfl, Nat.le_of_ble_eq_true rfl⟩) (fl_sub hP 1 rfl) hK (va_recv hK (fl_sub hP 1 rfl) (ci := 7) (q0 := 0) rfl rfl) rfl rfl hl.1 (Nat.le_of_ble_eq_true rfl) dL_law_626 ⟨(by show _ ≤ 600002; omega), (by show _ ≤ 7302232; omega)⟩ ?_
  refine lv_iload hx hb dL_law_629 (lv_at hl 1 rfl) ?_
  refine lv_icmp_eq (tgt := 636) hx hb dL_law_631 (by decide) (fun c_80 => ?_) (fun c_80 => ?_)
  · have hf := ite_t hf c_80
    refine lv_iload hx hb dL_law_636 (lv_at hl 1 rfl) ?_
    refine lv_if_ne (tgt := 660) hx hb dL_law_638 (by decide) (fun c_81 => ?_) (fun c_81 => ?_)
    · have hf := ite_f hf c_81
      refine lv_goto (tgt := 2630) hx hb dL_law_660 (by decide) ?_
      refine lv_iinc (v := y + 5) (lv' := [(4, .int (y + 5)), (6, .int z_78.1), (5, .int z_77.1), (0, .ref sb), (1, .ref (a 0 0)), (2, .ref (am 0)), (3, .ref b)]) hx hb dL_law_2630 hl (k := 6) rfl rfl (by decide) rfl (fun ls hl => ?_)
      refine lv_goto (tgt := 23) hx hb dL_law_2633 (by decide) ?_
      exact ih _ _ _ _ _ _ _ _ _ hf hP hS (lv_sub hl [3, 4, 5, 6, 0] rfl) (by omega) (by omega) (by omega) (by omega)
    · have hf := ite_t hf c_81
      refine lv_aload_n hx hb dL_law_641 rfl (lv_at hl 5 rfl) ?_
      refine lv_iconst (v := 0) hx hb dL_law_642 (by decide) ?_
      refine va_lald hx hb hK hP 100 2 rfl rfl (inb_in (i := 0) (n := 1) (by decide)) dL_law_643 ?_
      refine lv_iload hx hb dL_law_644 (lv_at hl 0 rfl) ?_
      refine lv_if_eq (tgt := 653) hx hb dL_law_646 (by decide) (fun c_82 => ?_) (fun c_82 => ?_)
      · have hf := ite_t hf c_82
        refine lv_lconst (v := 0) hx hb dL_law_653 (by decide) ?_
        refine W.lcmp hx hb dL_law_654 ?_
        refine lv_if_eq (tgt := 660) hx hb dL_law_655 (by decide) (fun c_83 => ?_) (fun c_83 => ?_)
        · have hf := ite_t hf c_83
          refine lv_goto (tgt := 2630) hx hb dL_law_660 (by decide) ?_
          refine lv_iinc (v := y + 5) (lv' := [(4, .int (y + 5)), (6, .int z_78.1), (5, .int z_77.1), (0, .ref sb), (1, .ref (a 0 0)), (2, .ref (am 0)), (3, .ref b)]) hx hb dL_law_2630 hl (k := 6) rfl rfl (by decide) rfl (fun ls hl => ?_)
          refine lv_goto (tgt := 23) hx hb dL_law_2633 (by decide) ?_
          exact ih _ _ _ _ _ _ _ _ _ hf hP hS (lv_sub hl [3, 4, 5, 6, 0] rfl) (by omega) (by omega) (by omega) (by omega)
        · have hf := ite_f hf c_83
          refine lv_iconst (v := 0) hx hb dL_law_658 (by decide) ?_
          exact absurd (Option.some.inj hf) (by decide)
      · have hf := ite_f hf c_82
        refine lv_lconst (v := 1) hx hb dL_law_649 (by decide) ?_
        refine lv_goto (tgt := 654) hx hb dL_law_650 (by decide) ?_
        refine W.lcmp hx hb dL_law_654 ?_
        refine lv_if_eq (tgt := 660) hx hb dL_law_655 (by decide) (fun c_84 => ?_) (fun c_84 => ?_)
        · have hf := ite_t hf c_84
          refine lv_goto (tgt := 2630) hx hb dL_law_660 (by decide) ?_
          refine lv_iinc (v := y + 5) (lv' := [(4, .int (y + 5)), (6, .int z_78.1), (5, .int z_77.1), (0, .ref sb), (1, .ref (a 0 0)), (2, .ref (am 0)), (3, .ref b)]) hx hb dL_law_2630 hl (k := 6) rfl rfl (by decide) rfl (fun ls hl => ?_)
          refine lv_goto (tgt := 23) hx hb dL_law_2633 (by decide) ?_
          exact ih _ _ _ _ _ _ _ _ _ hf hP hS (lv_sub hl [3, 4, 5, 6, 0] rfl) (by omega) (by omega) (by omega) (by omega)
        · have hf := ite_f hf c_84
          refine lv_iconst (v := 0) hx hb dL_law_658 (by decide) ?_
          exact absurd (Option.some.inj hf) (by decide)
  · have hf := ite_f hf c_80
    refine lv_iconst (v := 0) hx hb dL_law_634 (by decide) ?_
    exact absurd (Option.some.inj hf) (by decide)
def law_B7 (L : Nat) (xs : Nat → Int32) (r23 : Int32 → S2 → S1 → (Nat → Int64) → Option Int32) (y : Int32) (U : S2) (V : S1) (g : Nat → Int64) : Option Int32 := chk (inb (y + 1) L) (chk (inb (y + 2) L) (bn (f_L_rights U g (xs (y + 1).toNatClampNeg) (xs (y + 2).toNatClampNeg)) (fun z_85 => chk (inb (y + 1) L) (chk (inb (y + 2) L) (bn (f_X7_rights V (xs (y + 1).toNatClampNeg) (xs (y + 2).toNatClampNeg)) (fun z_86 => bn (f_X7_thrown z_86.2) (fun z_87 => if z_87 = z_85.1 then if z_85.1 = 0 then if (lg_cmp (z_85.2.2 (0 : Int32).toNatClampNeg) z_86.1.toInt64) = 0 then r23 (y + 5) z_85.2.1 z_86.2 z_85.2.2 else some 0 else r23 (y + 5) z_85.2.1 z_86.2 z_85.2.2 else some 0)))))))
set_option maxHeartbeats 40000000 in
set_option maxRecDepth 100000 in
theorem law_case7 {p : Program} {l : Launch} {e : Env} {s : State} {m : MethodId} {below : List Frame} {meth : Method} {c : Code} {D : va_G} {cI cZ cJ cT : ClassId} {sb L : Nat} {xs : Nat → Int32} (hst : l.stackTraces = false) (C0 : lw_At p s m meth c sb L xs) (hK : va_K D cls (tys cI cZ cJ cT) s) (hE : EX (fun q : Nat => s.heap.size ≤ q) s) (hNC : NC s) (a : Nat → Nat → Nat) (am : Nat → Nat) (b : Nat) (hDD : ∀ (U : S2) (V : S1) (g : Nat → Int64), va_D (fun q : Nat => s.heap.size ≤ q) (wW cI cZ cJ cT a am b U V g)) (r23 : Int32 → S2 → S1 → (Nat → Int64) → Option Int32) (n : Nat) (ih : ∀ (y : Int32) (U : S2) (V : S1) (g : Nat → Int64) (H : Heap) (locs : List Loc) (ls : Array Slot) (nc ns : Nat), r23 y U V g = some 1 → va_P D cls (wW cI cZ cJ cT a am b U V g) H → va_S (fun q : Nat => s.heap.size ≤ q) s.heap H locs → lv_has ls 7 [(0, .ref sb), (1, .ref (a 0 0)), (2, .ref (am 0)), (3, .ref b), (4, .int y)] → nc + 8 * n ≤ 600002 → ns + 48 * n ≤ 7302232 → nc ≤ 600002 → ns ≤ 7302232 → W p l e room_1 s m #[Value.ref sb] below meth c H locs nc ns (lw_Z below #[Value.ref sb] s) (F0 m 23 ls [])) (y : Int32) (U : S2) (V : S1) (g : Nat → Int64) (H : Heap) (locs : List Loc) (ls : Array Slot) (nc ns : Nat) (hf : law_B7 L xs r23 y U V g = some 1) (hP : va_P D cls (wW cI cZ cJ cT a am b U V g) H) (hS : va_S (fun q : Nat => s.heap.size ≤ q) s.heap H locs) (hl : lv_has ls 7 [(0, .ref sb), (1, .ref (a 0 0)), (2, .ref (am 0)), (3, .ref b), (4, .int y)]) (hc1 : nc + 8 * (n + 1) ≤ 600002) (hc2 : ns + 48 * (n + 1) ≤ 7302232) (hc3 : nc ≤ 600002) (hc4 : ns ≤ 7302232) : W p l e room_1 s m #[Value.ref sb] below meth c H locs nc ns (lw_Z below #[Value.ref sb] s) (F0 m 663 ls []) := by
  obtain ⟨hx, hb, hr, hml, hown, hts, hX, hbl, hlocks, hgv⟩ := id C0
  have hA : ∀ q : Nat, s.heap.size ≤ q → (fun q : Nat => s.heap.size ≤ q) q := fun _ h => h
  have hbA : ¬ (fun q : Nat => s.heap.size ≤ q) sb := Nat.not_le.mpr hbl
  unfold law_B7 at hf
  refine lv_aload_n hx hb dL_law_663 rfl (lv_at hl 1 rfl) ?_
  refine lv_aload_n hx hb dL_law_664 rfl (lv_at hl 0 rfl) ?_
  refine lv_iload hx hb dL_law_665 (lv_at hl 4 rfl) ?_
  refine lv_iconst (v := 1) hx hb dL_law_667 (by decide) ?_
  refine lv_iadd hx hb dL_law_668 ?_
  obtain ⟨hi, hf⟩ := chk_some hf
  refine va_sld hx hb hX hbl hbA hS (inb_in hi) dL_law_669 ?_
  refine lv_aload_n hx hb dL_law_670 rfl (lv_at hl 0 rfl) ?_
  refine lv_iload hx hb dL_law_671 (lv_at hl 4 rfl) ?_
  refine lv_iconst (v := 2) hx hb dL_law_673 (by decide) ?_
  refine lv_iadd hx hb dL_law_674 ?_
  obtain ⟨hi, hf⟩ := chk_some hf
  refine va_sld hx hb hX hbl hbA hS (inb_in hi) dL_law_675 ?_
  refine lv_aload_n hx hb dL_law_676 rfl (lv_at hl 3 rfl) ?_
  obtain ⟨z_85, hz_85, hf⟩ := bn_some hf
  refine cLS (As := [.ref (a 0 0), .int (xs (y + 1).toNatClampNeg), .int (xs (y + 2).toNatClampNeg), .ref b]) (rest := []) ⟨hx, hb, hml, hown, hts⟩ (c_L_rights l hst D cI cZ cJ cT a b H.size U g (xs (y + 1).toNatClampNeg) (xs (y + 2).toNatClampNeg) z_85 hz_85) (vx_cwSW 4 hts (gM_law (gL_in gL_law_L_rights) gLK) rfl rfl rfl (by decide +kernel) ⟨Nat.le_of_ble_eq_true rfl, Nat.le_of_ble_eq_true rfl⟩) (fl_subM hP [0, 2] rfl) hK (fl_subDM (hDD U V g) [0, 2] rfl rfl) hE hNC hS (own_free (fl_subDM (hDD U V g) [0, 2] rfl rfl) hS hA) rfl rfl hl.1 (Nat.le_of_ble_eq_true rfl) dL_law_677 ⟨(by show _ ≤ 600002; omega), (by show _ ≤ 7302232; omega)⟩ (fun H1 locs hP1 hk1 hS => ?_)
  have hP : va_P D cls (wW cI cZ cJ cT a am b z_85.2.1 V z_85.2.2) H1 := fl_joinM (cs' := [wI cI cZ cT a z_85.2.1, [(b, .inl (cJ, 1, .inr (.inl z_85.2.2)))]]) hP (hDD U V g) [0, 2] rfl rfl hk1 hP1
  clear hP1 hk1
  generalize H1 = H at hP hS ⊢
  refine lv_istore (lv' := [(5, .int z_85.1), (0, .ref sb), (1, .ref (a 0 0)), (2, .ref (am 0)), (3, .ref b), (4, .int y)]) hx hb dL_law_680 hl (by decide) rfl (fun ls hl => ?_)
  refine lv_aload_n hx hb dL_law_682 rfl (lv_at hl 3 rfl) ?_
  refine lv_aload_n hx hb dL_law_683 rfl (lv_at hl 1 rfl) ?_
  refine lv_iload hx hb dL_law_684 (lv_at hl 5 rfl) ?_
  refine lv_iconst (v := 1) hx hb dL_law_686 (by decide) ?_
  refine lv_iadd hx hb dL_law_687 ?_
  obtain ⟨hi, hf⟩ := chk_some hf
  refine va_sld hx hb hX hbl hbA hS (inb_in hi) dL_law_688 ?_
  refine lv_aload_n hx hb dL_law_689 rfl (lv_at hl 1 rfl) ?_
  refine lv_iload hx hb dL_law_690 (lv_at hl 5 rfl) ?_
  refine lv_iconst (v := 2) hx hb dL_law_692 (by decide) ?_
  refine lv_iadd hx hb dL_law_693 ?_
  obtain ⟨hi, hf⟩ := chk_some hf
  refine va_sld hx hb hX hbl hbA hS (inb_in hi) dL_law_694 ?_
  obtain ⟨z_86, hz_86, hf⟩ := bn_some hf
  refine cWVi (As := [.int (xs (y + 1).toNatClampNeg), .int (xs (y + 2).toNatClampNeg)]) (rest := []) ⟨hx, hb, hml, hown, hts⟩ (c_X7_rights l D cI cZ cJ cT am H.size V (xs (y + 1).toNatClampNeg) (xs (y + 2).toNatClampNeg) z_86 hz_86) (cwV 2 hts (gL_in gL_law_X7_rights) rfl rfl rfl (by decide +kernel) ⟨Nat.le_of_ble_eq_true rfl, Nat.le_of_ble_eq_true rfl⟩) (fl_sub hP 1 rfl) hK (fl_subD (hDD z_85.2.1 V z_85.2.2) 1 rfl) hS (fl_free (hDD z_85.2.1 V z_85.2.2) hS hA 1 rfl) (va_recv hK (fl_sub hP 1 rfl) (ci := 7) (q0 := 0) rfl rfl) rfl rfl hl.1 (Nat.le_of_ble_eq_true rfl) dL_law_695 ⟨(by show _ ≤ 600002; omega), (by show _ ≤ 7302232; omega)⟩ (fun H1 locs hP1 hk1 hS => ?_)
  have hP : va_P D cls (wW cI cZ cJ cT a am b z_85.2.1 z_86.2 z_85.2.2) H1 := fl_join hP (hDD z_85.2.1 V z_85.2.2) 1 rfl hk1 hP1
  clear hP1 hk1
  generalize H1 = H at hP hS ⊢
  refine lv_istore (lv' := [(6, .int z_86.1), (5, .int z_85.1), (0, .ref sb), (1, .ref (a 0 0)), (2, .ref (am 0)), (3, .ref b), (4, .int y)]) hx hb dL_law_698 hl (by decide) rfl (fun ls hl => ?_)
  refine lv_aload_n hx hb dL_law_700 rfl (lv_at hl 4 rfl) ?_
  obtain ⟨z_87, hz_87, hf⟩ := bn_some hf
  refine cRV (As := []) (rest := []) ⟨hx, hb, hml, hown, hts⟩ (c_X7_thrown l D cI cZ cJ cT am z_86.2 z_87 hz_87) (cwV 0 hts (gL_in gL_law_X7_thrown) rfl rfl rfl (by decide +kernel) ⟨Nat.le_of_ble_eq_true rfl, Nat.le_of_ble_eq_true rfl⟩) (fl_sub hP 1 rfl) hK (va_recv hK (fl_sub hP 1 rfl) (ci := 7) (q0 := 0) rfl rfl) rfl rfl hl.1 (Nat.le_of_ble_eq_true rfl) dL_law_701 ⟨(by show _ ≤ 600002; omega), (by show _ ≤ 7302232; omega)⟩ ?_
  refine lv_iload hx hb dL_law_704 (lv_at hl 1 rfl) ?_
  refine lv_icmp_eq (tgt := 711) hx hb dL_law_706 (by decide) (fun c_88 => ?_) (fun c_88 => ?_)
  · have hf := ite_t hf c_88
    refine lv_iload hx hb dL_law_711 (lv_at hl 1 rfl) ?_
    refine lv_if_ne (tgt := 728) hx hb dL_law_713 (by decide) (fun c_89 => ?_) (fun c_89 => ?_)
    · have hf := ite_f hf c_89
      refine lv_goto (tgt := 2630) hx hb dL_law_728 (by decide) ?_
      refine lv_iinc (v := y + 5) (lv' := [(4, .int (y + 5)), (6, .int z_86.1), (5, .int z_85.1), (0, .ref sb), (1, .ref (a 0 0)), (2, .ref (am 0)), (3, .ref b)]) hx hb dL_law_2630 hl (k := 6) rfl rfl (by decide) rfl (fun ls hl => ?_)
      refine lv_goto (tgt := 23) hx hb dL_law_2633 (by decide) ?_
      exact ih _ _ _ _ _ _ _ _ _ hf hP hS (lv_sub hl [3, 4, 5, 6, 0] rfl) (by omega) (by omega) (by omega) (by omega)
    · have hf := ite_t hf c_89
      refine lv_aload_n hx hb dL_law_716 rfl (lv_at hl 5 rfl) ?_
      refine lv_iconst (v := 0) hx hb dL_law_717 (by decide) ?_
      refine va_lald hx hb hK hP 100 2 rfl rfl (inb_in (i := 0) (n := 1) (by decide)) dL_law_718 ?_
      refine lv_iload hx hb dL_law_719 (lv_at hl 0 rfl) ?_
      refine lv_i2l (v := z_86.1.toInt64) hx hb dL_law_721 rfl ?_
      refine W.lcmp hx hb dL_law_722 ?_
      refine lv_if_eq (tgt := 728) hx hb dL_law_723 (by decide) (fun c_90 => ?_) (fun c_90 => ?_)
      · have hf := ite_t hf c_90
        refine lv_goto (tgt := 2630) hx hb dL_law_728 (by decide) ?_
        refine lv_iinc (v := y + 5) (lv' := [(4, .int (y + 5)), (6, .int z_86.1), (5, .int z_85.1), (0, .ref sb), (1, .ref (a 0 0)), (2, .ref (am 0)), (3, .ref b)]) hx hb dL_law_2630 hl (k := 6) rfl rfl (by decide) rfl (fun ls hl => ?_)
        refine lv_goto (tgt := 23) hx hb dL_law_2633 (by decide) ?_
        exact ih _ _ _ _ _ _ _ _ _ hf hP hS (lv_sub hl [3, 4, 5, 6, 0] rfl) (by omega) (by omega) (by omega) (by omega)
      · have hf := ite_f hf c_90
        refine lv_iconst (v := 0) hx hb dL_law_726 (by decide) ?_
        exact absurd (Option.some.inj hf) (by decide)
  · have hf := ite_f hf c_88
    refine lv_iconst (v := 0) hx hb dL_law_709 (by decide) ?_
    exact absurd (Option.some.inj hf) (by decide)
def law_B8 (L : Nat) (xs : Nat → Int32) (r23 : Int32 → S2 → S1 → (Nat → Int64) → Option Int32) (y : Int32) (U : S2) (V : S1) (g : Nat → Int64) : Option Int32 := chk (inb (y + 1) L) (chk (inb (y + 2) L) (bn (f_L_own U g (xs (y + 1).toNatClampNeg) (xs (y + 2).toNatClampNeg)) (fun z_91 => chk (inb (y + 1) L) (chk (inb (y + 2) L) (bn (f_X7_own V (xs (y + 1).toNatClampNeg) (xs (y + 2).toNatClampNeg)) (fun z_92 => bn (f_X7_thrown z_92.2) (fun z_93 => if z_93 = z_91.1 then if z_91.1 = 0 then if (lg_cmp (z_91.2.2 (0 : Int32).toNatClampNeg) z_92.1.toInt64) = 0 then r23 (y + 5) z_91.2.1 z_92.2 z_91.2.2 else some 0 else r23 (y + 5) z_91.2.1 z_92.2 z_91.2.2 else some 0)))))))
set_option maxHeartbeats 40000000 in
set_option maxRecDepth 100000 in
theorem law_case8 {p : Program} {l : Launch} {e : Env} {s : State} {m : MethodId} {below : List Frame} {meth : Method} {c : Code} {D : va_G} {cI cZ cJ cT : ClassId} {sb L : Nat} {xs : Nat → Int32} (hst : l.stackTraces = false) (C0 : lw_At p s m meth c sb L xs) (hK : va_K D cls (tys cI cZ cJ cT) s) (hE : EX (fun q : Nat => s.heap.size ≤ q) s) (hNC : NC s) (a : Nat → Nat → Nat) (am : Nat → Nat) (b : Nat) (hDD : ∀ (U : S2) (V : S1) (g : Nat → Int64), va_D (fun q : Nat => s.heap.size ≤ q) (wW cI cZ cJ cT a am b U V g)) (r23 : Int32 → S2 → S1 → (Nat → Int64) → Option Int32) (n : Nat) (ih : ∀ (y : Int32) (U : S2) (V : S1) (g : Nat → Int64) (H : Heap) (locs : List Loc) (ls : Array Slot) (nc ns : Nat), r23 y U V g = some 1 → va_P D cls (wW cI cZ cJ cT a am b U V g) H → va_S (fun q : Nat => s.heap.size ≤ q) s.heap H locs → lv_has ls 7 [(0, .ref sb), (1, .ref (a 0 0)), (2, .ref (am 0)), (3, .ref b), (4, .int y)] → nc + 8 * n ≤ 600002 → ns + 48 * n ≤ 7302232 → nc ≤ 600002 → ns ≤ 7302232 → W p l e room_1 s m #[Value.ref sb] below meth c H locs nc ns (lw_Z below #[Value.ref sb] s) (F0 m 23 ls [])) (y : Int32) (U : S2) (V : S1) (g : Nat → Int64) (H : Heap) (locs : List Loc) (ls : Array Slot) (nc ns : Nat) (hf : law_B8 L xs r23 y U V g = some 1) (hP : va_P D cls (wW cI cZ cJ cT a am b U V g) H) (hS : va_S (fun q : Nat => s.heap.size ≤ q) s.heap H locs) (hl : lv_has ls 7 [(0, .ref sb), (1, .ref (a 0 0)), (2, .ref (am 0)), (3, .ref b), (4, .int y)]) (hc1 : nc + 8 * (n + 1) ≤ 600002) (hc2 : ns + 48 * (n + 1) ≤ 7302232) (hc3 : nc ≤ 600002) (hc4 : ns ≤ 7302232) : W p l e room_1 s m #[Value.ref sb] below meth c H locs nc ns (lw_Z below #[Value.ref sb] s) (F0 m 731 ls []) := by
  obtain ⟨hx, hb, hr, hml, hown, hts, hX, hbl, hlocks, hgv⟩ := id C0
  have hA : ∀ q : Nat, s.heap.size ≤ q → (fun q : Nat => s.heap.size ≤ q) q := fun _ h => h
  have hbA : ¬ (fun q : Nat => s.heap.size ≤ q) sb := Nat.not_le.mpr hbl
  unfold law_B8 at hf
  refine lv_aload_n hx hb dL_law_731 rfl (lv_at hl 1 rfl) ?_
  refine lv_aload_n hx hb dL_law_732 rfl (lv_at hl 0 rfl) ?_
  refine lv_iload hx hb dL_law_733 (lv_at hl 4 rfl) ?_
  refine lv_iconst (v := 1) hx hb dL_law_735 (by decide) ?_
  refine lv_iadd hx hb dL_law_736 ?_
  obtain ⟨hi, hf⟩ := chk_some hf
  refine va_sld hx hb hX hbl hbA hS (inb_in hi) dL_law_737 ?_
  refine lv_aload_n hx hb dL_law_738 rfl (lv_at hl 0 rfl) ?_
  refine lv_iload hx hb dL_law_739 (lv_at hl 4 rfl) ?_
  refine lv_iconst (v := 2) hx hb dL_law_741 (by decide) ?_
  refine lv_iadd hx hb dL_law_742 ?_
  obtain ⟨hi, hf⟩ := chk_some hf
  refine va_sld hx hb hX hbl hbA hS (inb_in hi) dL_law_743 ?_
  refine lv_aload_n hx hb dL_law_744 rfl (lv_at hl 3 rfl) ?_
  obtain ⟨z_91, hz_91, hf⟩ := bn_some hf
  refine cLS (As := [.ref (a 0 0), .int (xs (y + 1).toNatClampNeg), .int (xs (y + 2).toNatClampNeg), .ref b]) (rest := []) ⟨hx, hb, hml, hown, hts⟩ (c_L_own l hst D cI cZ cJ cT a b H.size U g (xs (y + 1).toNatClampNeg) (xs (y + 2).toNatClampNeg) z_91 hz_91) (vx_cwSW 4 hts (gM_law (gL_in gL_law_L_own) gLK) rfl rfl rfl (by decide +kernel) ⟨Nat.le_of_ble_eq_true rfl, Nat.le_of_ble_eq_true rfl⟩) (fl_subM hP [0, 2] rfl) hK (fl_subDM (hDD U V g) [0, 2] rfl rfl) hE hNC hS (own_free (fl_subDM (hDD U V g) [0, 2] rfl rfl) hS hA) rfl rfl hl.1 (Nat.le_of_ble_eq_true rfl) dL_law_745 ⟨(by show _ ≤ 600002; omega), (by show _ ≤ 7302232; omega)⟩ (fun H1 locs hP1 hk1 hS => ?_)
  have hP : va_P D cls (wW cI cZ cJ cT a am b z_91.2.1 V z_91.2.2) H1 := fl_joinM (cs' := [wI cI cZ cT a z_91.2.1, [(b, .inl (cJ, 1, .inr (.inl z_91.2.2)))]]) hP (hDD U V g) [0, 2] rfl rfl hk1 hP1
  clear hP1 hk1
  generalize H1 = H at hP hS ⊢
  refine lv_istore (lv' := [(5, .int z_91.1), (0, .ref sb), (1, .ref (a 0 0)), (2, .ref (am 0)), (3, .ref b), (4, .int y)]) hx hb dL_law_748 hl (by decide) rfl (fun ls hl => ?_)
  refine lv_aload_n hx hb dL_law_750 rfl (lv_at hl 3 rfl) ?_
  refine lv_aload_n hx hb dL_law_751 rfl (lv_at hl 1 rfl) ?_
  refine lv_iload hx hb dL_law_752 (lv_at hl 5 rfl) ?_
  refine lv_iconst (v := 1) hx hb dL_law_754 (by decide) ?_
  refine lv_iadd hx hb dL_law_755 ?_
  obtain ⟨hi, hf⟩ := chk_some hf
  refine va_sld hx hb hX hbl hbA hS (inb_in hi) dL_law_756 ?_
  refine lv_aload_n hx hb dL_law_757 rfl (lv_at hl 1 rfl) ?_
  refine lv_iload hx hb dL_law_758 (lv_at hl 5 rfl) ?_
  refine lv_iconst (v := 2) hx hb dL_law_760 (by decide) ?_
  refine lv_iadd hx hb dL_law_761 ?_
  obtain ⟨hi, hf⟩ := chk_some hf
  refine va_sld hx hb hX hbl hbA hS (inb_in hi) dL_law_762 ?_
  obtain ⟨z_92, hz_92, hf⟩ := bn_some hf
  refine cWVi (As := [.int (xs (y + 1).toNatClampNeg), .int (xs (y + 2).toNatClampNeg)]) (rest := []) ⟨hx, hb, hml, hown, hts⟩ (c_X7_own l D cI cZ cJ cT am H.size V (xs (y + 1).toNatClampNeg) (xs (y + 2).toNatClampNeg) z_92 hz_92) (cwV 2 hts (gL_in gL_law_X7_own) rfl rfl rfl (by decide +kernel) ⟨Nat.le_of_ble_eq_true rfl, Nat.le_of_ble_eq_true rfl⟩) (fl_sub hP 1 rfl) hK (fl_subD (hDD z_91.2.1 V z_91.2.2) 1 rfl) hS (fl_free (hDD z_91.2.1 V z_91.2.2) hS hA 1 rfl) (va_recv hK (fl_sub hP 1 rfl) (ci := 7) (q0 := 0) rfl rfl) rfl rfl hl.1 (Nat.le_of_ble_eq_true rfl) dL_law_763 ⟨(by show _ ≤ 600002; omega), (by show _ ≤ 7302232; omega)⟩ (fun H1 locs hP1 hk1 hS => ?_)
  have hP : va_P D cls (wW cI cZ cJ cT a am b z_91.2.1 z_92.2 z_91.2.2) H1 := fl_join hP (hDD z_91.2.1 V z_91.2.2) 1 rfl hk1 hP1
  clear hP1 hk1
  generalize H1 = H at hP hS ⊢
  refine lv_istore (lv' := [(6, .int z_92.1), (5, .int z_91.1), (0, .ref sb), (1, .ref (a 0 0)), (2, .ref (am 0)), (3, .ref b), (4, .int y)]) hx hb dL_law_766 hl (by decide) rfl (fun ls hl => ?_)
  refine lv_aload_n hx hb dL_law_768 rfl (lv_at hl 4 rfl) ?_
  obtain ⟨z_93, hz_93, hf⟩ := bn_some hf
  refine cRV (As := []) (rest := []) ⟨hx, hb, hml, hown, hts⟩ (c_X7_thrown l D cI cZ cJ cT am z_92.2 z_93 hz_93) (cwV 0 hts (gL_in gL_law_X7_thrown) rfl rfl rfl (by decide +kernel) ⟨Nat.le_of_ble_eq_true rfl, Nat.le_of_ble_eq_true rfl⟩) (fl_sub hP 1 rfl) hK (va_recv hK (fl_sub hP 1 rfl) (ci := 7) (q0 := 0) rfl rfl) rfl rfl hl.1 (Nat.le_of_ble_eq_true rfl) dL_law_769 ⟨(by show _ ≤ 600002; omega), (by show _ ≤ 7302232; omega)⟩ ?_
  refine lv_iload hx hb dL_law_772 (lv_at hl 1 rfl) ?_
  refine lv_icmp_eq (tgt := 779) hx hb dL_law_774 (by decide) (fun c_94 => ?_) (fun c_94 => ?_)
  · have hf := ite_t hf c_94
    refine lv_iload hx hb dL_law_779 (lv_at hl 1 rfl) ?_
    refine lv_if_ne (tgt := 796) hx hb dL_law_781 (by decide) (fun c_95 => ?_) (fun c_95 => ?_)
    · have hf := ite_f hf c_95
      refine lv_goto (tgt := 2630) hx hb dL_law_796 (by decide) ?_
      refine lv_iinc (v := y + 5) (lv' := [(4, .int (y + 5)), (6, .int z_92.1), (5, .int z_91.1), (0, .ref sb), (1, .ref (a 0 0)), (2, .ref (am 0)), (3, .ref b)]) hx hb dL_law_2630 hl (k := 6) rfl rfl (by decide) rfl (fun ls hl => ?_)
      refine lv_goto (tgt := 23) hx hb dL_law_2633 (by decide) ?_
      exact ih _ _ _ _ _ _ _ _ _ hf hP hS (lv_sub hl [3, 4, 5, 6, 0] rfl) (by omega) (by omega) (by omega) (by omega)
    · have hf := ite_t hf c_95
      refine lv_aload_n hx hb dL_law_784 rfl (lv_at hl 5 rfl) ?_
      refine lv_iconst (v := 0) hx hb dL_law_785 (by decide) ?_
      refine va_lald hx hb hK hP 100 2 rfl rfl (inb_in (i := 0) (n := 1) (by decide)) dL_law_786 ?_
      refine lv_iload hx hb dL_law_787 (lv_at hl 0 rfl) ?_
      refine lv_i2l (v := z_92.1.toInt64) hx hb dL_law_789 rfl ?_
      refine W.lcmp hx hb dL_law_790 ?_
      refine lv_if_eq (tgt := 796) hx hb dL_law_791 (by decide) (fun c_96 => ?_) (fun c_96 => ?_)
      · have hf := ite_t hf c_96
        refine lv_goto (tgt := 2630) hx hb dL_law_796 (by decide) ?_
        refine lv_iinc (v := y + 5) (lv' := [(4, .int (y + 5)), (6, .int z_92.1), (5, .int z_91.1), (0, .ref sb), (1, .ref (a 0 0)), (2, .ref (am 0)), (3, .ref b)]) hx hb dL_law_2630 hl (k := 6) rfl rfl (by decide) rfl (fun ls hl => ?_)
        refine lv_goto (tgt := 23) hx hb dL_law_2633 (by decide) ?_
        exact ih _ _ _ _ _ _ _ _ _ hf hP hS (lv_sub hl [3, 4, 5, 6, 0] rfl) (by omega) (by omega) (by omega) (by omega)
      · have hf := ite_f hf c_96
        refine lv_iconst (v := 0) hx hb dL_law_794 (by decide) ?_
        exact absurd (Option.some.inj hf) (by decide)
  · have hf := ite_f hf c_94
    refine lv_iconst (v := 0) hx hb dL_law_777 (by decide) ?_
    exact absurd (Option.some.inj hf) (by decide)
def law_B9 (L : Nat) (xs : Nat → Int32) (r23 : Int32 → S2 → S1 → (Nat → Int64) → Option Int32) (y : Int32) (U : S2) (V : S1) (g : Nat → Int64) : Option Int32 := chk (inb (y + 1) L) (chk (inb (y + 2) L) (if (xs (y + 2).toNatClampNeg) = 0 then bn (f_L_look U g (xs (y + 1).toNatClampNeg) 0) (fun z_98 => chk (inb (y + 1) L) (chk (inb (y + 2) L) (if (xs (y + 2).toNatClampNeg) = 0 then bn (f_X7_look V (xs (y + 1).toNatClampNeg) 0) (fun z_100 => bn (f_X7_thrown z_100.2) (fun z_101 => if z_101 = z_98.1 then if z_98.1 = 0 then if (lg_cmp (z_98.2.2 (0 : Int32).toNatClampNeg) z_100.1.toInt64) = 0 then r23 (y + 5) z_98.2.1 z_100.2 z_98.2.2 else some 0 else r23 (y + 5) z_98.2.1 z_100.2 z_98.2.2 else some 0)) else bn (f_X7_look V (xs (y + 1).toNatClampNeg) 1) (fun z_105 => bn (f_X7_thrown z_105.2) (fun z_106 => if z_106 = z_98.1 then if z_98.1 = 0 then if (lg_cmp (z_98.2.2 (0 : Int32).toNatClampNeg) z_105.1.toInt64) = 0 then r23 (y + 5) z_98.2.1 z_105.2 z_98.2.2 else some 0 else r23 (y + 5) z_98.2.1 z_105.2 z_98.2.2 else some 0))))) else bn (f_L_look U g (xs (y + 1).toNatClampNeg) 1) (fun z_110 => chk (inb (y + 1) L) (chk (inb (y + 2) L) (if (xs (y + 2).toNatClampNeg) = 0 then bn (f_X7_look V (xs (y + 1).toNatClampNeg) 0) (fun z_112 => bn (f_X7_thrown z_112.2) (fun z_113 => if z_113 = z_110.1 then if z_110.1 = 0 then if (lg_cmp (z_110.2.2 (0 : Int32).toNatClampNeg) z_112.1.toInt64) = 0 then r23 (y + 5) z_110.2.1 z_112.2 z_110.2.2 else some 0 else r23 (y + 5) z_110.2.1 z_112.2 z_110.2.2 else some 0)) else bn (f_X7_look V (xs (y + 1).toNatClampNeg) 1) (fun z_117 => bn (f_X7_thrown z_117.2) (fun z_118 => if z_118 = z_110.1 then if z_110.1 = 0 then if (lg_cmp (z_110.2.2 (0 : Int32).toNatClampNeg) z_117.1.toInt64) = 0 then r23 (y + 5) z_110.2.1 z_117.2 z_110.2.2 else some 0 else r23 (y + 5) z_110.2.1 z_117.2 z_110.2.2 else some 0)))))))
set_option maxHeartbeats 40000000 in
set_option maxRecDepth 100000 in
theorem law_case9 {p : Program} {l : Launch} {e : Env} {s : State} {m : MethodId} {below : List Frame} {meth : Method} {c : Code} {D : va_G} {cI cZ cJ cT : ClassId} {sb L : Nat} {xs : Nat → Int32} (hst : l.stackTraces = false) (C0 : lw_At p s m meth c sb L xs) (hK : va_K D cls (tys cI cZ cJ cT) s) (hE : EX (fun q : Nat => s.heap.size ≤ q) s) (hNC : NC s) (a : Nat → Nat → Nat) (am : Nat → Nat) (b : Nat) (hDD : ∀ (U : S2) (V : S1) (g : Nat → Int64), va_D (fun q : Nat => s.heap.size ≤ q) (wW cI cZ cJ cT a am b U V g)) (r23 : Int32 → S2 → S1 → (Nat → Int64) → Option Int32) (n : Nat) (ih : ∀ (y : Int32) (U : S2) (V : S1) (g : Nat → Int64) (H : Heap) (locs : List Loc) (ls : Array Slot) (nc ns : Nat), r23 y U V g = some 1 → va_P D cls (wW cI cZ cJ cT a am b U V g) H → va_S (fun q : Nat => s.heap.size ≤ q) s.heap H locs → lv_has ls 7 [(0, .ref sb), (1, .ref (a 0 0)), (2, .ref (am 0)), (3, .ref b), (4, .int y)] → nc + 8 * n ≤ 600002 → ns + 48 * n ≤ 7302232 → nc ≤ 600002 → ns ≤ 7302232 → W p l e room_1 s m #[Value.ref sb] below meth c H locs nc ns (lw_Z below #[Value.ref sb] s) (F0 m 23 ls [])) (y : Int32) (U : S2) (V : S1) (g : Nat → Int64) (H : Heap) (locs : List Loc) (ls : Array Slot) (nc ns : Nat) (hf : law_B9 L xs r23 y U V g = some 1) (hP : va_P D cls (wW cI cZ cJ cT a am b U V g) H) (hS : va_S (fun q : Nat => s.heap.size ≤ q) s.heap H locs) (hl : lv_has ls 7 [(0, .ref sb), (1, .ref (a 0 0)), (2, .ref (am 0)), (3, .ref b), (4, .int y)]) (hc1 : nc + 8 * (n + 1) ≤ 600002) (hc2 : ns + 48 * (n + 1) ≤ 7302232) (hc3 : nc ≤ 600002) (hc4 : ns ≤ 7302232) : W p l e room_1 s m #[Value.ref sb] below meth c H locs nc ns (lw_Z below #[Value.ref sb] s) (F0 m 799 ls []) := by
  obtain ⟨hx, hb, hr, hml, hown, hts, hX, hbl, hlocks, hgv⟩ := id C0
  have hA : ∀ q : Nat, s.heap.size ≤ q → (fun q : Nat => s.heap.size ≤ q) q := fun _ h => h
  have hbA : ¬ (fun q : Nat => s.heap.size ≤ q) sb := Nat.not_le.mpr hbl
  unfold law_B9 at hf
  refine lv_aload_n hx hb dL_law_799 rfl (lv_at hl 1 rfl) ?_
  refine lv_aload_n hx hb dL_law_800 rfl (lv_at hl 0 rfl) ?_
  refine lv_iload hx hb dL_law_801 (lv_at hl 4 rfl) ?_
  refine lv_iconst (v := 1) hx hb dL_law_803 (by decide) ?_
  refine lv_iadd hx hb dL_law_804 ?_
  obtain ⟨hi, hf⟩ := chk_some hf
  refine va_sld hx hb hX hbl hbA hS (inb_in hi) dL_law_805 ?_
  refine lv_aload_n hx hb dL_law_806 rfl (lv_at hl 0 rfl) ?_
  refine lv_iload hx hb dL_law_807 (lv_at hl 4 rfl) ?_
  refine lv_iconst (v := 2) hx hb dL_law_809 (by decide) ?_
  refine lv_iadd hx hb dL_law_810 ?_
  obtain ⟨hi, hf⟩ := chk_some hf
  refine va_sld hx hb hX hbl hbA hS (inb_in hi) dL_law_811 ?_
  refine lv_if_eq (tgt := 819) hx hb dL_law_812 (by decide) (fun c_97 => ?_) (fun c_97 => ?_)
  · have hf := ite_t hf c_97
    refine lv_iconst (v := 0) hx hb dL_law_819 (by decide) ?_
    refine lv_aload_n hx hb dL_law_820 rfl (lv_at hl 3 rfl) ?_
    obtain ⟨z_98, hz_98, hf⟩ := bn_some hf
    refine cLS (As := [.ref (a 0 0), .int (xs (y + 1).toNatClampNeg), .int 0, .ref b]) (rest := []) ⟨hx, hb, hml, hown, hts⟩ (c_L_look l hst D cI cZ cJ cT a b H.size U g (xs (y + 1).toNatClampNeg) 0 z_98 hz_98) (vx_cwSW 4 hts (gM_law (gL_in gL_law_L_look) gLK) rfl rfl rfl (by decide +kernel) ⟨Nat.le_of_ble_eq_true rfl, Nat.le_of_ble_eq_true rfl⟩) (fl_subM hP [0, 2] rfl) hK (fl_subDM (hDD U V g) [0, 2] rfl rfl) hE hNC hS (own_free (fl_subDM (hDD U V g) [0, 2] rfl rfl) hS hA) rfl rfl hl.1 (Nat.le_of_ble_eq_true rfl) dL_law_821 ⟨(by show _ ≤ 600002; omega), (by show _ ≤ 7302232; omega)⟩ (fun H1 locs hP1 hk1 hS => ?_)
    have hP : va_P D cls (wW cI cZ cJ cT a am b z_98.2.1 V z_98.2.2) H1 := fl_joinM (cs' := [wI cI cZ cT a z_98.2.1, [(b, .inl (cJ, 1, .inr (.inl z_98.2.2)))]]) hP (hDD U V g) [0, 2] rfl rfl hk1 hP1
    clear hP1 hk1
    generalize H1 = H at hP hS ⊢
    refine lv_istore (lv' := [(5, .int z_98.1), (0, .ref sb), (1, .ref (a 0 0)), (2, .ref (am 0)), (3, .ref b), (4, .int y)]) hx hb dL_law_824 hl (by decide) rfl (fun ls hl => ?_)
    refine lv_aload_n hx hb dL_law_826 rfl (lv_at hl 3 rfl) ?_
    refine lv_aload_n hx hb dL_law_827 rfl (lv_at hl 1 rfl) ?_
    refine lv_iload hx hb dL_law_828 (lv_at hl 5 rfl) ?_
    refine lv_iconst (v := 1) hx hb dL_law_830 (by decide) ?_
    refine lv_iadd hx hb dL_law_831 ?_
    obtain ⟨hi, hf⟩ := chk_some hf
    refine va_sld hx hb hX hbl hbA hS (inb_in hi) dL_law_832 ?_
    refine lv_aload_n hx hb dL_law_833 rfl (lv_at hl 1 rfl) ?_
    refine lv_iload hx hb dL_law_834 (lv_at hl 5 rfl) ?_
    refine lv_iconst (v := 2) hx hb dL_law_836 (by decide) ?_
    refine lv_iadd hx hb dL_law_837 ?_
    obtain ⟨hi, hf⟩ := chk_some hf
    refine va_sld hx hb hX hbl hbA hS (inb_in hi) dL_law_838 ?_
    refine lv_if_eq (tgt := 846) hx hb dL_law_839 (by decide) (fun c_99 => ?_) (fun c_99 => ?_)
    · have hf := ite_t hf c_99
      refine lv_iconst (v := 0) hx hb dL_law_846 (by decide) ?_
      obtain ⟨z_100, hz_100, hf⟩ := bn_some hf
      refine cWVi (As := [.int (xs (y + 1).toNatClampNeg), .int 0]) (rest := []) ⟨hx, hb, hml, hown, hts⟩ (c_X7_look l D cI cZ cJ cT am H.size V (xs (y + 1).toNatClampNeg) 0 z_100 hz_100) (cwV 2 hts (gL_in gL_law_X7_look) rfl rfl rfl (by decide +kernel) ⟨Nat.le_of_ble_eq_true rfl, Nat.le_of_ble_eq_true rfl⟩) (fl_sub hP 1 rfl) hK (fl_subD (hDD z_98.2.1 V z_98.2.2) 1 rfl) hS (fl_free (hDD z_98.2.1 V z_98.2.2) hS hA 1 rfl) (va_recv hK (fl_sub hP 1 rfl) (ci := 7) (q0 := 0) rfl rfl) rfl rfl hl.1 (Nat.le_of_ble_eq_true rfl) dL_law_847 ⟨(by show _ ≤ 600002; omega), (by show _ ≤ 7302232; omega)⟩ (fun H1 locs hP1 hk1 hS => ?_)
      have hP : va_P D cls (wW cI cZ cJ cT a am b z_98.2.1 z_100.2 z_98.2.2) H1 := fl_join hP (hDD z_98.2.1 V z_98.2.2) 1 rfl hk1 hP1
      clear hP1 hk1
      generalize H1 = H at hP hS ⊢
      refine lv_istore (lv' := [(6, .int z_100.1), (5, .int z_98.1), (0, .ref sb), (1, .ref (a 0 0)), (2, .ref (am 0)), (3, .ref b), (4, .int y)]) hx hb dL_law_850 hl (by decide) rfl (fun ls hl => ?_)
      refine lv_aload_n hx hb dL_law_852 rfl (lv_at hl 4 rfl) ?_
      obtain ⟨z_101, hz_101, hf⟩ := bn_some hf
      refine cRV (As := []) (rest := []) ⟨hx, hb, hml, hown, hts⟩ (c_X7_thrown l D cI cZ cJ cT am z_100.2 z_101 hz_101) (cwV 0 hts (gL_in gL_law_X7_thrown) rfl rfl rfl (by decide +kernel) ⟨Nat.le_of_ble_eq_true rfl, Nat.le_of_ble_eq_true rfl⟩) (fl_sub hP 1 rfl) hK (va_recv hK (fl_sub hP 1 rfl) (ci := 7) (q0 := 0) rfl rfl) rfl rfl hl.1 (Nat.le_of_ble_eq_true rfl) dL_law_853 ⟨(by show _ ≤ 600002; omega), (by show _ ≤ 7302232; omega)⟩ ?_
      refine lv_iload hx hb dL_law_856 (lv_at hl 1 rfl) ?_
      refine lv_icmp_eq (tgt := 863) hx hb dL_law_858 (by decide) (fun c_102 => ?_) (fun c_102 => ?_)
      · have hf := ite_t hf c_102
        refine lv_iload hx hb dL_law_863 (lv_at hl 1 rfl) ?_
        refine lv_if_ne (tgt := 880) hx hb dL_law_865 (by decide) (fun c_103 => ?_) (fun c_103 => ?_)
        · have hf := ite_f hf c_103
          refine lv_goto (tgt := 2630) hx hb dL_law_880 (by decide) ?_
          refine lv_iinc (v := y + 5) (lv' := [(4, .int (y + 5)), (6, .int z_100.1), (5, .int z_98.1), (0, .ref sb), (1, .ref (a 0 0)), (2, .ref (am 0)), (3, .ref b)]) hx hb dL_law_2630 hl (k := 6) rfl rfl (by decide) rfl (fun ls hl => ?_)
          refine lv_goto (tgt := 23) hx hb dL_law_2633 (by decide) ?_
          exact ih _ _ _ _ _ _ _ _ _ hf hP hS (lv_sub hl [3, 4, 5, 6, 0] rfl) (by omega) (by omega) (by omega) (by omega)
        · have hf := ite_t hf c_103
          refine lv_aload_n hx hb dL_law_868 rfl (lv_at hl 5 rfl) ?_
          refine lv_iconst (v := 0) hx hb dL_law_869 (by decide) ?_
          refine va_lald hx hb hK hP 100 2 rfl rfl (inb_in (i := 0) (n := 1) (by decide)) dL_law_870 ?_
          refine lv_iload hx hb dL_law_871 (lv_at hl 0 rfl) ?_
          refine lv_i2l (v := z_100.1.toInt64) hx hb dL_law_873 rfl ?_
          refine W.lcmp hx hb dL_law_874 ?_
          refine lv_if_eq (tgt := 880) hx hb dL_law_875 (by decide) (fun c_104 => ?_) (fun c_104 => ?_)
          · have hf := ite_t hf c_104
            refine lv_goto (tgt := 2630) hx hb dL_law_880 (by decide) ?_
            refine lv_iinc (v := y + 5) (lv' := [(4, .int (y + 5)), (6, .int z_100.1), (5, .int z_98.1), (0, .ref sb), (1, .ref (a 0 0)), (2, .ref (am 0)), (3, .ref b)]) hx hb dL_law_2630 hl (k := 6) rfl rfl (by decide) rfl (fun ls hl => ?_)
            refine lv_goto (tgt := 23) hx hb dL_law_2633 (by decide) ?_
            exact ih _ _ _ _ _ _ _ _ _ hf hP hS (lv_sub hl [3, 4, 5, 6, 0] rfl) (by omega) (by omega) (by omega) (by omega)
          · have hf := ite_f hf c_104
            refine lv_iconst (v := 0) hx hb dL_law_878 (by decide) ?_
            exact absurd (Option.some.inj hf) (by decide)
      · have hf := ite_f hf c_102
        refine lv_iconst (v := 0) hx hb dL_law_861 (by decide) ?_
        exact absurd (Option.some.inj hf) (by decide)
    · have hf := ite_f hf c_99
      refine lv_iconst (v := 1) hx hb dL_law_842 (by decide) ?_
      refine lv_goto (tgt := 847) hx hb dL_law_843 (by decide) ?_
      obtain ⟨z_105, hz_105, hf⟩ := bn_some hf
      refine cWVi (As := [.int (xs (y + 1).toNatClampNeg), .int 1]) (rest := []) ⟨hx, hb, hml, hown, hts⟩ (c_X7_look l D cI cZ cJ cT am H.size V (xs (y + 1).toNatClampNeg) 1 z_105 hz_105) (cwV 2 hts (gL_in gL_law_X7_look) rfl rfl rfl (by decide +kernel) ⟨Nat.le_of_ble_eq_true rfl, Nat.le_of_ble_eq_true rfl⟩) (fl_sub hP 1 rfl) hK (fl_subD (hDD z_98.2.1 V z_98.2.2) 1 rfl) hS (fl_free (hDD z_98.2.1 V z_98.2.2) hS hA 1 rfl) (va_recv hK (fl_sub hP 1 rfl) (ci := 7) (q0 := 0) rfl rfl) rfl rfl hl.1 (Nat.le_of_ble_eq_true rfl) dL_law_847 ⟨(by show _ ≤ 600002; omega), (by show _ ≤ 7302232; omega)⟩ (fun H1 locs hP1 hk1 hS => ?_)
      have hP : va_P D cls (wW cI cZ cJ cT a am b z_98.2.1 z_105.2 z_98.2.2) H1 := fl_join hP (hDD z_98.2.1 V z_98.2.2) 1 rfl hk1 hP1
      clear hP1 hk1
      generalize H1 = H at hP hS ⊢
      refine lv_istore (lv' := [(6, .int z_105.1), (5, .int z_98.1), (0, .ref sb), (1, .ref (a 0 0)), (2, .ref (am 0)), (3, .ref b), (4, .int y)]) hx hb dL_law_850 hl (by decide) rfl (fun ls hl => ?_)
      refine lv_aload_n hx hb dL_law_852 rfl (lv_at hl 4 rfl) ?_
      obtain ⟨z_106, hz_106, hf⟩ := bn_some hf
      refine cRV (As := []) (rest := []) ⟨hx, hb, hml, hown, hts⟩ (c_X7_thrown l D cI cZ cJ cT am z_105.2 z_106 hz_106) (cwV 0 hts (gL_in gL_law_X7_thrown) rfl rfl rfl (by decide +kernel) ⟨Nat.le_of_ble_eq_true rfl, Nat.le_of_ble_eq_true rfl⟩) (fl_sub hP 1 rfl) hK (va_recv hK (fl_sub hP 1 rfl) (ci := 7) (q0 := 0) rfl rfl) rfl rfl hl.1 (Nat.le_of_ble_eq_true rfl) dL_law_853 ⟨(by show _ ≤ 600002; omega), (by show _ ≤ 7302232; omega)⟩ ?_
      refine lv_iload hx hb dL_law_856 (lv_at hl 1 rfl) ?_
      refine lv_icmp_eq (tgt := 863) hx hb dL_law_858 (by decide) (fun c_107 => ?_) (fun c_107 => ?_)
      · have hf := ite_t hf c_107
        refine lv_iload hx hb dL_law_863 (lv_at hl 1 rfl) ?_
        refine lv_if_ne (tgt := 880) hx hb dL_law_865 (by decide) (fun c_108 => ?_) (fun c_108 => ?_)
        · have hf := ite_f hf c_108
          refine lv_goto (tgt := 2630) hx hb dL_law_880 (by decide) ?_
          refine lv_iinc (v := y + 5) (lv' := [(4, .int (y + 5)), (6, .int z_105.1), (5, .int z_98.1), (0, .ref sb), (1, .ref (a 0 0)), (2, .ref (am 0)), (3, .ref b)]) hx hb dL_law_2630 hl (k := 6) rfl rfl (by decide) rfl (fun ls hl => ?_)
          refine lv_goto (tgt := 23) hx hb dL_law_2633 (by decide) ?_
          exact ih _ _ _ _ _ _ _ _ _ hf hP hS (lv_sub hl [3, 4, 5, 6, 0] rfl) (by omega) (by omega) (by omega) (by omega)
        · have hf := ite_t hf c_108
          refine lv_aload_n hx hb dL_law_868 rfl (lv_at hl 5 rfl) ?_
          refine lv_iconst (v := 0) hx hb dL_law_869 (by decide) ?_
          refine va_lald hx hb hK hP 100 2 rfl rfl (inb_in (i := 0) (n := 1) (by decide)) dL_law_870 ?_
          refine lv_iload hx hb dL_law_871 (lv_at hl 0 rfl) ?_
          refine lv_i2l (v := z_105.1.toInt64) hx hb dL_law_873 rfl ?_
          refine W.lcmp hx hb dL_law_874 ?_
          refine lv_if_eq (tgt := 880) hx hb dL_law_875 (by decide) (fun c_109 => ?_) (fun c_109 => ?_)
          · have hf := ite_t hf c_109
            refine lv_goto (tgt := 2630) hx hb dL_law_880 (by decide) ?_
            refine lv_iinc (v := y + 5) (lv' := [(4, .int (y + 5)), (6, .int z_105.1), (5, .int z_98.1), (0, .ref sb), (1, .ref (a 0 0)), (2, .ref (am 0)), (3, .ref b)]) hx hb dL_law_2630 hl (k := 6) rfl rfl (by decide) rfl (fun ls hl => ?_)
            refine lv_goto (tgt := 23) hx hb dL_law_2633 (by decide) ?_
            exact ih _ _ _ _ _ _ _ _ _ hf hP hS (lv_sub hl [3, 4, 5, 6, 0] rfl) (by omega) (by omega) (by omega) (by omega)
          · have hf := ite_f hf c_109
            refine lv_iconst (v := 0) hx hb dL_law_878 (by decide) ?_
            exact absurd (Option.some.inj hf) (by decide)
      · have hf := ite_f hf c_107
        refine lv_iconst (v := 0) hx hb dL_law_861 (by decide) ?_
        exact absurd (Option.some.inj hf) (by decide)
  · have hf := ite_f hf c_97
    refine lv_iconst (v := 1) hx hb dL_law_815 (by decide) ?_
    refine lv_goto (tgt := 820) hx hb dL_law_816 (by decide) ?_
    refine lv_aload_n hx hb dL_law_820 rfl (lv_at hl 3 rfl) ?_
    obtain ⟨z_110, hz_110, hf⟩ := bn_some hf
    refine cLS (As := [.ref (a 0 0), .int (xs (y + 1).toNatClampNeg), .int 1, .ref b]) (rest := []) ⟨hx, hb, hml, hown, hts⟩ (c_L_look l hst D cI cZ cJ cT a b H.size U g (xs (y + 1).toNatClampNeg) 1 z_110 hz_110) (vx_cwSW 4 hts (gM_law (gL_in gL_law_L_look) gLK) rfl rfl rfl (by decide +kernel) ⟨Nat.le_of_ble_eq_true rfl, Nat.le_of_ble_eq_true rfl⟩) (fl_subM hP [0, 2] rfl) hK (fl_subDM (hDD U V g) [0, 2] rfl rfl) hE hNC hS (own_free (fl_subDM (hDD U V g) [0, 2] rfl rfl) hS hA) rfl rfl hl.1 (Nat.le_of_ble_eq_true rfl) dL_law_821 ⟨(by show _ ≤ 600002; omega), (by show _ ≤ 7302232; omega)⟩ (fun H1 locs hP1 hk1 hS => ?_)
    have hP : va_P D cls (wW cI cZ cJ cT a am b z_110.2.1 V z_110.2.2) H1 := fl_joinM (cs' := [wI cI cZ cT a z_110.2.1, [(b, .inl (cJ, 1, .inr (.inl z_110.2.2)))]]) hP (hDD U V g) [0, 2] rfl rfl hk1 hP1
    clear hP1 hk1
    generalize H1 = H at hP hS ⊢
    refine lv_istore (lv' := [(5, .int z_110.1), (0, .ref sb), (1, .ref (a 0 0)), (2, .ref (am 0)), (3, .ref b), (4, .int y)]) hx hb dL_law_824 hl (by decide) rfl (fun ls hl => ?_)
    refine lv_aload_n hx hb dL_law_826 rfl (lv_at hl 3 rfl) ?_
    refine lv_aload_n hx hb dL_law_827 rfl (lv_at hl 1 rfl) ?_
    refine lv_iload hx hb dL_law_828 (lv_at hl 5 rfl) ?_
    refine lv_iconst (v := 1) hx hb dL_law_830 (by decide) ?_
    refine lv_iadd hx hb dL_law_831 ?_
    obtain ⟨hi, hf⟩ := chk_some hf
    refine va_sld hx hb hX hbl hbA hS (inb_in hi) dL_law_832 ?_
    refine lv_aload_n hx hb dL_law_833 rfl (lv_at hl 1 rfl) ?_
    refine lv_iload hx hb dL_law_834 (lv_at hl 5 rfl) ?_
    refine lv_iconst (v := 2) hx hb dL_law_836 (by decide) ?_
    refine lv_iadd hx hb dL_law_837 ?_
    obtain ⟨hi, hf⟩ := chk_some hf
    refine va_sld hx hb hX hbl hbA hS (inb_in hi) dL_law_838 ?_
    refine lv_if_eq (tgt := 846) hx hb dL_law_839 (by decide) (fun c_111 => ?_) (fun c_111 => ?_)
    · have hf := ite_t hf c_111
      refine lv_iconst (v := 0) hx hb dL_law_846 (by decide) ?_
      obtain ⟨z_112, hz_112, hf⟩ := bn_some hf
      refine cWVi (As := [.int (xs (y + 1).toNatClampNeg), .int 0]) (rest := []) ⟨hx, hb, hml, hown, hts⟩ (c_X7_look l D cI cZ cJ cT am H.size V (xs (y + 1).toNatClampNeg) 0 z_112 hz_112) (cwV 2 hts (gL_in gL_law_X7_look) rfl rfl rfl (by decide +kernel) ⟨Nat.le_of_ble_eq_true rfl, Nat.le_of_ble_eq_true rfl⟩) (fl_sub hP 1 rfl) hK (fl_subD (hDD z_110.2.1 V z_110.2.2) 1 rfl) hS (fl_free (hDD z_110.2.1 V z_110.2.2) hS hA 1 rfl) (va_recv hK (fl_sub hP 1 rfl) (ci := 7) (q0 := 0) rfl rfl) rfl rfl hl.1 (Nat.le_of_ble_eq_true rfl) dL_law_847 ⟨(by show _ ≤ 600002; omega), (by show _ ≤ 7302232; omega)⟩ (fun H1 locs hP1 hk1 hS => ?_)
      have hP : va_P D cls (wW cI cZ cJ cT a am b z_110.2.1 z_112.2 z_110.2.2) H1 := fl_join hP (hDD z_110.2.1 V z_110.2.2) 1 rfl hk1 hP1
      clear hP1 hk1
      generalize H1 = H at hP hS ⊢
      refine lv_istore (lv' := [(6, .int z_112.1), (5, .int z_110.1), (0, .ref sb), (1, .ref (a 0 0)), (2, .ref (am 0)), (3, .ref b), (4, .int y)]) hx hb dL_law_850 hl (by decide) rfl (fun ls hl => ?_)
      refine lv_aload_n hx hb dL_law_852 rfl (lv_at hl 4 rfl) ?_
      obtain ⟨z_113, hz_113, hf⟩ := bn_some hf
      refine cRV (As := []) (rest := []) ⟨hx, hb, hml, hown, hts⟩ (c_X7_thrown l D cI cZ cJ cT am z_112.2 z_113 hz_113) (cwV 0 hts (gL_in gL_law_X7_thrown) rfl rfl rfl (by decide +kernel) ⟨Nat.le_of_ble_eq_true rfl, Nat.le_of_ble_eq_true rfl⟩) (fl_sub hP 1 rfl) hK (va_recv hK (fl_sub hP 1 rfl) (ci := 7) (q0 := 0) rfl rfl) rfl rfl hl.1 (Nat.le_of_ble_eq_true rfl) dL_law_853 ⟨(by show _ ≤ 600002; omega), (by show _ ≤ 7302232; omega)⟩ ?_
      refine lv_iload hx hb dL_law_856 (lv_at hl 1 rfl) ?_
      refine lv_icmp_eq (tgt := 863) hx hb dL_law_858 (by decide) (fun c_114 => ?_) (fun c_114 => ?_)
      · have hf := ite_t hf c_114
        refine lv_iload hx hb dL_law_863 (lv_at hl 1 rfl) ?_
        refine lv_if_ne (tgt := 880) hx hb dL_law_865 (by decide) (fun c_115 => ?_) (fun c_115 => ?_)
        · have hf := ite_f hf c_115
          refine lv_goto (tgt := 2630) hx hb dL_law_880 (by decide) ?_
          refine lv_iinc (v := y + 5) (lv' := [(4, .int (y + 5)), (6, .int z_112.1), (5, .int z_110.1), (0, .ref sb), (1, .ref (a 0 0)), (2, .ref (am 0)), (3, .ref b)]) hx hb dL_law_2630 hl (k := 6) rfl rfl (by decide) rfl (fun ls hl => ?_)
          refine lv_goto (tgt := 23) hx hb dL_law_2633 (by decide) ?_
          exact ih _ _ _ _ _ _ _ _ _ hf hP hS (lv_sub hl [3, 4, 5, 6, 0] rfl) (by omega) (by omega) (by omega) (by omega)
        · have hf := ite_t hf c_115
          refine lv_aload_n hx hb dL_law_868 rfl (lv_at hl 5 rfl) ?_
          refine lv_iconst (v := 0) hx hb dL_law_869 (by decide) ?_
          refine va_lald hx hb hK hP 100 2 rfl rfl (inb_in (i := 0) (n := 1) (by decide)) dL_law_870 ?_
          refine lv_iload hx hb dL_law_871 (lv_at hl 0 rfl) ?_
          refine lv_i2l (v := z_112.1.toInt64) hx hb dL_law_873 rfl ?_
          refine W.lcmp hx hb dL_law_874 ?_
          refine lv_if_eq (tgt := 880) hx hb dL_law_875 (by decide) (fun c_116 => ?_) (fun c_116 => ?_)
          · have hf := ite_t hf c_116
            refine lv_goto (tgt := 2630) hx hb dL_law_880 (by decide) ?_
            refine lv_iinc (v := y + 5) (lv' := [(4, .int (y + 5)), (6, .int z_112.1), (5, .int z_110.1), (0, .ref sb), (1, .ref (a 0 0)), (2, .ref (am 0)), (3, .ref b)]) hx hb dL_law_2630 hl (k := 6) rfl rfl (by decide) rfl (fun ls hl => ?_)
            refine lv_goto (tgt := 23) hx hb dL_law_2633 (by decide) ?_
            exact ih _ _ _ _ _ _ _ _ _ hf hP hS (lv_sub hl [3, 4, 5, 6, 0] rfl) (by omega) (by omega) (by omega) (by omega)
          · have hf := ite_f hf c_116
            refine lv_iconst (v := 0) hx hb dL_law_878 (by decide) ?_
            exact absurd (Option.some.inj hf) (by decide)
      · have hf := ite_f hf c_114
        refine lv_iconst (v := 0) hx hb dL_law_861 (by decide) ?_
        exact absurd (Option.some.inj hf) (by decide)
    · have hf := ite_f hf c_111
      refine lv_iconst (v := 1) hx hb dL_law_842 (by decide) ?_
      refine lv_goto (tgt := 847) hx hb dL_law_843 (by decide) ?_
      obtain ⟨z_117, hz_117, hf⟩ := bn_some hf
      refine cWVi (As := [.int (xs (y + 1).toNatClampNeg), .int 1]) (rest := []) ⟨hx, hb, hml, hown, hts⟩ (c_X7_look l D cI cZ cJ cT am H.size V (xs (y + 1).toNatClampNeg) 1 z_117 hz_117) (cwV 2 hts (gL_in gL_law_X7_look) rfl rfl rfl (by decide +kernel) ⟨Nat.le_of_ble_eq_true rfl, Nat.le_of_ble_eq_true rfl⟩) (fl_sub hP 1 rfl) hK (fl_subD (hDD z_110.2.1 V z_110.2.2) 1 rfl) hS (fl_free (hDD z_110.2.1 V z_110.2.2) hS hA 1 rfl) (va_recv hK (fl_sub hP 1 rfl) (ci := 7) (q0 := 0) rfl rfl) rfl rfl hl.1 (Nat.le_of_ble_eq_true rfl) dL_law_847 ⟨(by show _ ≤ 600002; omega), (by show _ ≤ 7302232; omega)⟩ (fun H1 locs hP1 hk1 hS => ?_)
      have hP : va_P D cls (wW cI cZ cJ cT a am b z_110.2.1 z_117.2 z_110.2.2) H1 := fl_join hP (hDD z_110.2.1 V z_110.2.2) 1 rfl hk1 hP1
      clear hP1 hk1
      generalize H1 = H at hP hS ⊢
      refine lv_istore (lv' := [(6, .int z_117.1), (5, .int z_110.1), (0, .ref sb), (1, .ref (a 0 0)), (2, .ref (am 0)), (3, .ref b), (4, .int y)]) hx hb dL_law_850 hl (by decide) rfl (fun ls hl => ?_)
      refine lv_aload_n hx hb dL_law_852 rfl (lv_at hl 4 rfl) ?_
      obtain ⟨z_118, hz_118, hf⟩ := bn_some hf
      refine cRV (As := []) (rest := []) ⟨hx, hb, hml, hown, hts⟩ (c_X7_thrown l D cI cZ cJ cT am z_117.2 z_118 hz_118) (cwV 0 hts (gL_in gL_law_X7_thrown) rfl rfl rfl (by decide +kernel) ⟨Nat.le_of_ble_eq_true rfl, Nat.le_of_ble_eq_true rfl⟩) (fl_sub hP 1 rfl) hK (va_recv hK (fl_sub hP 1 rfl) (ci := 7) (q0 := 0) rfl rfl) rfl rfl hl.1 (Nat.le_of_ble_eq_true rfl) dL_law_853 ⟨(by show _ ≤ 600002; omega), (by show _ ≤ 7302232; omega)⟩ ?_
      refine lv_iload hx hb dL_law_856 (lv_at hl 1 rfl) ?_
      refine lv_icmp_eq (tgt := 863) hx hb dL_law_858 (by decide) (fun c_119 => ?_) (fun c_119 => ?_)
      · have hf := ite_t hf c_119
        refine lv_iload hx hb dL_law_863 (lv_at hl 1 rfl) ?_
        refine lv_if_ne (tgt := 880) hx hb dL_law_865 (by decide) (fun c_120 => ?_) (fun c_120 => ?_)
        · have hf := ite_f hf c_120
          refine lv_goto (tgt := 2630) hx hb dL_law_880 (by decide) ?_
          refine lv_iinc (v := y + 5) (lv' := [(4, .int (y + 5)), (6, .int z_117.1), (5, .int z_110.1), (0, .ref sb), (1, .ref (a 0 0)), (2, .ref (am 0)), (3, .ref b)]) hx hb dL_law_2630 hl (k := 6) rfl rfl (by decide) rfl (fun ls hl => ?_)
          refine lv_goto (tgt := 23) hx hb dL_law_2633 (by decide) ?_
          exact ih _ _ _ _ _ _ _ _ _ hf hP hS (lv_sub hl [3, 4, 5, 6, 0] rfl) (by omega) (by omega) (by omega) (by omega)
        · have hf := ite_t hf c_120
          refine lv_aload_n hx hb dL_law_868 rfl (lv_at hl 5 rfl) ?_
          refine lv_iconst (v := 0) hx hb dL_law_869 (by decide) ?_
          refine va_lald hx hb hK hP 100 2 rfl rfl (inb_in (i := 0) (n := 1) (by decide)) dL_law_870 ?_
          refine lv_iload hx hb dL_law_871 (lv_at hl 0 rfl) ?_
          refine lv_i2l (v := z_117.1.toInt64) hx hb dL_law_873 rfl ?_
          refine W.lcmp hx hb dL_law_874 ?_
          refine lv_if_eq (tgt := 880) hx hb dL_law_875 (by decide) (fun c_121 => ?_) (fun c_121 => ?_)
          · have hf := ite_t hf c_121
            refine lv_goto (tgt := 2630) hx hb dL_law_880 (by decide) ?_
            refine lv_iinc (v := y + 5) (lv' := [(4, .int (y + 5)), (6, .int z_117.1), (5, .int z_110.1), (0, .ref sb), (1, .ref (a 0 0)), (2, .ref (am 0)), (3, .ref b)]) hx hb dL_law_2630 hl (k := 6) rfl rfl (by decide) rfl (fun ls hl => ?_)
            refine lv_goto (tgt := 23) hx hb dL_law_2633 (by decide) ?_
            exact ih _ _ _ _ _ _ _ _ _ hf hP hS (lv_sub hl [3, 4, 5, 6, 0] rfl) (by omega) (by omega) (by omega) (by omega)
          · have hf := ite_f hf c_121
            refine lv_iconst (v := 0) hx hb dL_law_878 (by decide) ?_
            exact absurd (Option.some.inj hf) (by decide)
      · have hf := ite_f hf c_119
        refine lv_iconst (v := 0) hx hb dL_law_861 (by decide) ?_
        exact absurd (Option.some.inj hf) (by decide)
