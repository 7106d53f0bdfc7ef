def law_B30 (L : Nat) (xs : Nat → Int32) (r23 : Int32 → S2 → S1 → (Nat → Int64) → Option Int32) (y : Int32) (U : S2) (V : S1) (g : Nat → Int64) : Option Int32 := chk (inb (y + 1) L) (chk (inb (y + 2) L) (bn (f_L_about U g (xs (y + 1).toNatClampNeg) (xs (y + 2).toNatClampNeg)) (fun z_303 => chk (inb (y + 1) L) (chk (inb (y + 2) L) (bn (f_X7_about V (xs (y + 1).toNatClampNeg) (xs (y + 2).toNatClampNeg)) (fun z_304 => bn (f_X7_thrown z_304.2) (fun z_305 => if z_305 = z_303.1 then if z_303.1 = 0 then if (lg_cmp (z_303.2.2 (0 : Int32).toNatClampNeg) z_304.1.toInt64) = 0 then r23 (y + 5) z_303.2.1 z_304.2 z_303.2.2 else some 0 else r23 (y + 5) z_303.2.1 z_304.2 z_303.2.2 else some 0)))))))
set_option maxHeartbeats 40000000 in
set_option maxRecDepth 100000 in
theorem law_case30 {p : Program} {l : Launch} {e : Env} {s : State} {m : MethodId} {below : List Frame} {meth : Method} {c : Code} {D : va_G} {cI cZ cJ cT : ClassId} {sb L : Nat} {xs : Nat → Int32} (hst : l.stackTraces = false) (C0 : lw_At p s m meth c sb L xs) (hK : va_K D cls (tys cI cZ cJ cT) s) (hE : EX (fun q : Nat => s.heap.size ≤ q) s) (hNC : NC s) (a : Nat → Nat → Nat) (am : Nat → Nat) (b : Nat) (hDD : ∀ (U : S2) (V : S1) (g : Nat → Int64), va_D (fun q : Nat => s.heap.size ≤ q) (wW cI cZ cJ cT a am b U V g)) (r23 : Int32 → S2 → S1 → (Nat → Int64) → Option Int32) (n : Nat) (ih : ∀ (y : Int32) (U : S2) (V : S1) (g : Nat → Int64) (H : Heap) (locs : List Loc) (ls : Array Slot) (nc ns : Nat), r23 y U V g = some 1 → va_P D cls (wW cI cZ cJ cT a am b U V g) H → va_S (fun q : Nat => s.heap.size ≤ q) s.heap H locs → lv_has ls 7 [(0, .ref sb), (1, .ref (a 0 0)), (2, .ref (am 0)), (3, .ref b), (4, .int y)] → nc + 8 * n ≤ 600002 → ns + 48 * n ≤ 7302232 → nc ≤ 600002 → ns ≤ 7302232 → W p l e room_1 s m #[Value.ref sb] below meth c H locs nc ns (lw_Z below #[Value.ref sb] s) (F0 m 23 ls [])) (y : Int32) (U : S2) (V : S1) (g : Nat → Int64) (H : Heap) (locs : List Loc) (ls : Array Slot) (nc ns : Nat) (hf : law_B30 L xs r23 y U V g = some 1) (hP : va_P D cls (wW cI cZ cJ cT a am b U V g) H) (hS : va_S (fun q : Nat => s.heap.size ≤ q) s.heap H locs) (hl : lv_has ls 7 [(0, .ref sb), (1, .ref (a 0 0)), (2, .ref (am 0)), (3, .ref b), (4, .int y)]) (hc1 : nc + 8 * (n + 1) ≤ 600002) (hc2 : ns + 48 * (n + 1) ≤ 7302232) (hc3 : nc ≤ 600002) (hc4 : ns ≤ 7302232) : W p l e room_1 s m #[Value.ref sb] below meth c H locs nc ns (lw_Z below #[Value.ref sb] s) (F0 m 2170 ls []) := by
  obtain ⟨hx, hb, hr, hml, hown, hts, hX, hbl, hlocks, hgv⟩ := id C0
  have hA : ∀ q : Nat, s.heap.size ≤ q → (fun q : Nat => s.heap.size ≤ q) q := fun _ h => h
  have hbA : ¬ (fun q : Nat => s.heap.size ≤ q) sb := Nat.not_le.mpr hbl
  unfold law_B30 at hf
  refine lv_aload_n hx hb dL_law_2170 rfl (lv_at hl 1 rfl) ?_
  refine lv_aload_n hx hb dL_law_2171 rfl (lv_at hl 0 rfl) ?_
  refine lv_iload hx hb dL_law_2172 (lv_at hl 4 rfl) ?_
  refine lv_iconst (v := 1) hx hb dL_law_2174 (by decide) ?_
  refine lv_iadd hx hb dL_law_2175 ?_
  obtain ⟨hi, hf⟩ := chk_some hf
  refine va_sld hx hb hX hbl hbA hS (inb_in hi) dL_law_2176 ?_
  refine lv_aload_n hx hb dL_law_2177 rfl (lv_at hl 0 rfl) ?_
  refine lv_iload hx hb dL_law_2178 (lv_at hl 4 rfl) ?_
  refine lv_iconst (v := 2) hx hb dL_law_2180 (by decide) ?_
  refine lv_iadd hx hb dL_law_2181 ?_
  obtain ⟨hi, hf⟩ := chk_some hf
  refine va_sld hx hb hX hbl hbA hS (inb_in hi) dL_law_2182 ?_
  refine lv_aload_n hx hb dL_law_2183 rfl (lv_at hl 3 rfl) ?_
  obtain ⟨z_303, hz_303, hf⟩ := bn_some hf
  refine cLS (As := [.ref (a 0 0), .int (xs (y + 1).toNatClampNeg), .int (xs (y + 2).toNatClampNeg), .ref b]) (rest := []) ⟨hx, hb, hml, hown, hts⟩ (c_L_about l hst D cI cZ cJ cT a b H.size U g (xs (y + 1).toNatClampNeg) (xs (y + 2).toNatClampNeg) z_303 hz_303) (vx_cwSW 4 hts (gM_law (gL_in gL_law_L_about) gLK) rfl rfl rfl (by decide +kernel) ⟨Nat.le_of_ble_eq_true rfl, Nat.le_of_ble_eq_true rfl⟩) (fl_subM hP [0, 2] rfl) hK (fl_subDM (hDD U V g) [0, 2] rfl rfl) hE hNC hS (own_free (fl_subDM (hDD U V g) [0, 2] rfl rfl) hS hA) rfl rfl hl.1 (Nat.le_of_ble_eq_true rfl) dL_law_2184 ⟨(by show _ ≤ 600002; omega), (by show _ ≤ 7302232; omega)⟩ (fun H1 locs hP1 hk1 hS => ?_)
  have hP : va_P D cls (wW cI cZ cJ cT a am b z_303.2.1 V z_303.2.2) H1 := fl_joinM (cs' := [wI cI cZ cT a z_303.2.1, [(b, .inl (cJ, 1, .inr (.inl z_303.2.2)))]]) hP (hDD U V g) [0, 2] rfl rfl hk1 hP1
  clear hP1 hk1
  generalize H1 = H at hP hS ⊢
  refine lv_istore (lv' := [(5, .int z_303.1), (0, .ref sb), (1, .ref (a 0 0)), (2, .ref (am 0)), (3, .ref b), (4, .int y)]) hx hb dL_law_2187 hl (by decide) rfl (fun ls hl => ?_)
  refine lv_aload_n hx hb dL_law_2189 rfl (lv_at hl 3 rfl) ?_
  refine lv_aload_n hx hb dL_law_2190 rfl (lv_at hl 1 rfl) ?_
  refine lv_iload hx hb dL_law_2191 (lv_at hl 5 rfl) ?_
  refine lv_iconst (v := 1) hx hb dL_law_2193 (by decide) ?_
  refine lv_iadd hx hb dL_law_2194 ?_
  obtain ⟨hi, hf⟩ := chk_some hf
  refine va_sld hx hb hX hbl hbA hS (inb_in hi) dL_law_2195 ?_
  refine lv_aload_n hx hb dL_law_2196 rfl (lv_at hl 1 rfl) ?_
  refine lv_iload hx hb dL_law_2197 (lv_at hl 5 rfl) ?_
  refine lv_iconst (v := 2) hx hb dL_law_2199 (by decide) ?_
  refine lv_iadd hx hb dL_law_2200 ?_
  obtain ⟨hi, hf⟩ := chk_some hf
  refine va_sld hx hb hX hbl hbA hS (inb_in hi) dL_law_2201 ?_
  obtain ⟨z_304, hz_304, hf⟩ := bn_some hf
  refine cWVi (As := [.int (xs (y + 1).toNatClampNeg), .int (xs (y + 2).toNatClampNeg)]) (rest := []) ⟨hx, hb, hml, hown, hts⟩ (c_X7_about l D cI cZ cJ cT am H.size V (xs (y + 1).toNatClampNeg) (xs (y + 2).toNatClampNeg) z_304 hz_304) (cwV 2 hts (gL_in gL_law_X7_about) rfl rfl rfl (by decide +kernel) ⟨Nat.le_of_ble_eq_true rfl, Nat.le_of_ble_eq_true rfl⟩) (fl_sub hP 1 rfl) hK (fl_subD (hDD z_303.2.1 V z_303.2.2) 1 rfl) hS (fl_free (hDD z_303.2.1 V z_303.2.2) hS hA 1 rfl) (va_recv hK (fl_sub hP 1 rfl) (ci := 7) (q0 := 0) rfl rfl) rfl rfl hl.1 (Nat.le_of_ble_eq_true rfl) dL_law_2202 ⟨(by show _ ≤ 600002; omega), (by show _ ≤ 7302232; omega)⟩ (fun H1 locs hP1 hk1 hS => ?_)
  have hP : va_P D cls (wW cI cZ cJ cT a am b z_303.2.1 z_304.2 z_303.2.2) H1 := fl_join hP (hDD z_303.2.1 V z_303.2.2) 1 rfl hk1 hP1
  clear hP1 hk1
  generalize H1 = H at hP hS ⊢
  refine lv_istore (lv' := [(6, .int z_304.1), (5, .int z_303.1), (0, .ref sb), (1, .ref (a 0 0)), (2, .ref (am 0)), (3, .ref b), (4, .int y)]) hx hb dL_law_2205 hl (by decide) rfl (fun ls hl => ?_)
  refine lv_aload_n hx hb dL_law_2207 rfl (lv_at hl 4 rfl) ?_
  obtain ⟨z_305, hz_305, hf⟩ := bn_some hf
  refine cRV (As := []) (rest := []) ⟨hx, hb, hml, hown, hts⟩ (c_X7_thrown l D cI cZ cJ cT am z_304.2 z_305 hz_305) (cwV 0 hts (gL_in gL_law_X7_thrown) rfl rfl rfl (by decide +kernel) ⟨Nat.le_of_ble_eq_true rfl, Nat.le_of_ble_eq_true rfl⟩) (fl_sub hP 1 rfl) hK (va_recv hK (fl_sub hP 1 rfl) (ci := 7) (q0 := 0) rfl rfl) rfl rfl hl.1 (Nat.le_of_ble_eq_true rfl) dL_law_2208 ⟨(by show _ ≤ 600002; omega), (by show _ ≤ 7302232; omega)⟩ ?_
  refine lv_iload hx hb dL_law_2211 (lv_at hl 1 rfl) ?_
  refine lv_icmp_eq (tgt := 2218) hx hb dL_law_2213 (by decide) (fun c_306 => ?_) (fun c_306 => ?_)
  · have hf := ite_t hf c_306
    refine lv_iload hx hb dL_law_2218 (lv_at hl 1 rfl) ?_
    refine lv_if_ne (tgt := 2235) hx hb dL_law_2220 (by decide) (fun c_307 => ?_) (fun c_307 => ?_)
    · have hf := ite_f hf c_307
      refine lv_goto (tgt := 2630) hx hb dL_law_2235 (by decide) ?_
      refine lv_iinc (v := y + 5) (lv' := [(4, .int (y + 5)), (6, .int z_304.1), (5, .int z_303.1), (0, .ref sb), (1, .ref (a 0 0)), (2, .ref (am 0)), (3, .ref b)]) hx hb dL_law_2630 hl (k := 6) rfl rfl (by decide) rfl (fun ls hl => ?_)
      refine lv_goto (tgt := 23) hx hb dL_law_2633 (by decide) ?_
      exact ih _ _ _ _ _ _ _ _ _ hf hP hS (lv_sub hl [3, 4, 5, 6, 0] rfl) (by omega) (by omega) (by omega) (by omega)
    · have hf := ite_t hf c_307
      refine lv_aload_n hx hb dL_law_2223 rfl (lv_at hl 5 rfl) ?_
      refine lv_iconst (v := 0) hx hb dL_law_2224 (by decide) ?_
      refine va_lald hx hb hK hP 100 2 rfl rfl (inb_in (i := 0) (n := 1) (by decide)) dL_law_2225 ?_
      refine lv_iload hx hb dL_law_2226 (lv_at hl 0 rfl) ?_
      refine lv_i2l (v := z_304.1.toInt64) hx hb dL_law_2228 rfl ?_
      refine W.lcmp hx hb dL_law_2229 ?_
      refine lv_if_eq (tgt := 2235) hx hb dL_law_2230 (by decide) (fun c_308 => ?_) (fun c_308 => ?_)
      · have hf := ite_t hf c_308
        refine lv_goto (tgt := 2630) hx hb dL_law_2235 (by decide) ?_
        refine lv_iinc (v := y + 5) (lv' := [(4, .int (y + 5)), (6, .int z_304.1), (5, .int z_303.1), (0, .ref sb), (1, .ref (a 0 0)), (2, .ref (am 0)), (3, .ref b)]) hx hb dL_law_2630 hl (k := 6) rfl rfl (by decide) rfl (fun ls hl => ?_)
        refine lv_goto (tgt := 23) hx hb dL_law_2633 (by decide) ?_
        exact ih _ _ _ _ _ _ _ _ _ hf hP hS (lv_sub hl [3, 4, 5, 6, 0] rfl) (by omega) (by omega) (by omega) (by omega)
      · have hf := ite_f hf c_308
        refine lv_iconst (v := 0) hx hb dL_law_2233 (by decide) ?_
        exact absurd (Option.some.inj hf) (by decide)
  · have hf := ite_f hf c_306
    refine lv_iconst (v := 0) hx hb dL_law_2216 (by decide) ?_
    exact absurd (Option.some.inj hf) (by decide)
def law_B31 (L : Nat) (xs : Nat → Int32) (r23 : Int32 → S2 → S1 → (Nat → Int64) → Option Int32) (y : Int32) (U : S2) (V : S1) (g : Nat → Int64) : Option Int32 := chk (inb (y + 1) L) (chk (inb (y + 2) L) (bn (f_L_entry U g (xs (y + 1).toNatClampNeg) (xs (y + 2).toNatClampNeg)) (fun z_309 => chk (inb (y + 1) L) (chk (inb (y + 2) L) (bn (f_X7_entry V (xs (y + 1).toNatClampNeg) (xs (y + 2).toNatClampNeg)) (fun z_310 => bn (f_X7_thrown z_310.2) (fun z_311 => if z_311 = z_309.1 then if z_309.1 = 0 then if (lg_cmp (z_309.2.2 (0 : Int32).toNatClampNeg) z_310.1.toInt64) = 0 then r23 (y + 5) z_309.2.1 z_310.2 z_309.2.2 else some 0 else r23 (y + 5) z_309.2.1 z_310.2 z_309.2.2 else some 0)))))))
set_option maxHeartbeats 40000000 in
set_option maxRecDepth 100000 in
theorem law_case31 {p : Program} {l : Launch} {e : Env} {s : State} {m : MethodId} {below : List Frame} {meth : Method} {c : Code} {D : va_G} {cI cZ cJ cT : ClassId} {sb L : Nat} {xs : Nat → Int32} (hst : l.stackTraces = false) (C0 : lw_At p s m meth c sb L xs) (hK : va_K D cls (tys cI cZ cJ cT) s) (hE : EX (fun q : Nat => s.heap.size ≤ q) s) (hNC : NC s) (a : Nat → Nat → Nat) (am : Nat → Nat) (b : Nat) (hDD : ∀ (U : S2) (V : S1) (g : Nat → Int64), va_D (fun q : Nat => s.heap.size ≤ q) (wW cI cZ cJ cT a am b U V g)) (r23 : Int32 → S2 → S1 → (Nat → Int64) → Option Int32) (n : Nat) (ih : ∀ (y : Int32) (U : S2) (V : S1) (g : Nat → Int64) (H : Heap) (locs : List Loc) (ls : Array Slot) (nc ns : Nat), r23 y U V g = some 1 → va_P D cls (wW cI cZ cJ cT a am b U V g) H → va_S (fun q : Nat => s.heap.size ≤ q) s.heap H locs → lv_has ls 7 [(0, .ref sb), (1, .ref (a 0 0)), (2, .ref (am 0)), (3, .ref b), (4, .int y)] → nc + 8 * n ≤ 600002 → ns + 48 * n ≤ 7302232 → nc ≤ 600002 → ns ≤ 7302232 → W p l e room_1 s m #[Value.ref sb] below meth c H locs nc ns (lw_Z below #[Value.ref sb] s) (F0 m 23 ls [])) (y : Int32) (U : S2) (V : S1) (g : Nat → Int64) (H : Heap) (locs : List Loc) (ls : Array Slot) (nc ns : Nat) (hf : law_B31 L xs r23 y U V g = some 1) (hP : va_P D cls (wW cI cZ cJ cT a am b U V g) H) (hS : va_S (fun q : Nat => s.heap.size ≤ q) s.heap H locs) (hl : lv_has ls 7 [(0, .ref sb), (1, .ref (a 0 0)), (2, .ref (am 0)), (3, .ref b), (4, .int y)]) (hc1 : nc + 8 * (n + 1) ≤ 600002) (hc2 : ns + 48 * (n + 1) ≤ 7302232) (hc3 : nc ≤ 600002) (hc4 : ns ≤ 7302232) : W p l e room_1 s m #[Value.ref sb] below meth c H locs nc ns (lw_Z below #[Value.ref sb] s) (F0 m 2238 ls []) := by
  obtain ⟨hx, hb, hr, hml, hown, hts, hX, hbl, hlocks, hgv⟩ := id C0
  have hA : ∀ q : Nat, s.heap.size ≤ q → (fun q : Nat => s.heap.size ≤ q) q := fun _ h => h
  have hbA : ¬ (fun q : Nat => s.heap.size ≤ q) sb := Nat.not_le.mpr hbl
  unfold law_B31 at hf
  refine lv_aload_n hx hb dL_law_2238 rfl (lv_at hl 1 rfl) ?_
  refine lv_aload_n hx hb dL_law_2239 rfl (lv_at hl 0 rfl) ?_
  refine lv_iload hx hb dL_law_2240 (lv_at hl 4 rfl) ?_
  refine lv_iconst (v := 1) hx hb dL_law_2242 (by decide) ?_
  refine lv_iadd hx hb dL_law_2243 ?_
  obtain ⟨hi, hf⟩ := chk_some hf
  refine va_sld hx hb hX hbl hbA hS (inb_in hi) dL_law_2244 ?_
  refine lv_aload_n hx hb dL_law_2245 rfl (lv_at hl 0 rfl) ?_
  refine lv_iload hx hb dL_law_2246 (lv_at hl 4 rfl) ?_
  refine lv_iconst (v := 2) hx hb dL_law_2248 (by decide) ?_
  refine lv_iadd hx hb dL_law_2249 ?_
  obtain ⟨hi, hf⟩ := chk_some hf
  refine va_sld hx hb hX hbl hbA hS (inb_in hi) dL_law_2250 ?_
  refine lv_aload_n hx hb dL_law_2251 rfl (lv_at hl 3 rfl) ?_
  obtain ⟨z_309, hz_309, hf⟩ := bn_some hf
  refine cLS (As := [.ref (a 0 0), .int (xs (y + 1).toNatClampNeg), .int (xs (y + 2).toNatClampNeg), .ref b]) (rest := []) ⟨hx, hb, hml, hown, hts⟩ (c_L_entry l hst D cI cZ cJ cT a b H.size U g (xs (y + 1).toNatClampNeg) (xs (y + 2).toNatClampNeg) z_309 hz_309) (vx_cwSW 4 hts (gM_law (gL_in gL_law_L_entry) gLK) rfl rfl rfl (by decide +kernel) ⟨Nat.le_of_ble_eq_true rfl, Nat.le_of_ble_eq_true rfl⟩) (fl_subM hP [0, 2] rfl) hK (fl_subDM (hDD U V g) [0, 2] rfl rfl) hE hNC hS (own_free (fl_subDM (hDD U V g) [0, 2] rfl rfl) hS hA) rfl rfl hl.1 (Nat.le_of_ble_eq_true rfl) dL_law_2252 ⟨(by show _ ≤ 600002; omega), (by show _ ≤ 7302232; omega)⟩ (fun H1 locs hP1 hk1 hS => ?_)
  have hP : va_P D cls (wW cI cZ cJ cT a am b z_309.2.1 V z_309.2.2) H1 := fl_joinM (cs' := [wI cI cZ cT a z_309.2.1, [(b, .inl (cJ, 1, .inr (.inl z_309.2.2)))]]) hP (hDD U V g) [0, 2] rfl rfl hk1 hP1
  clear hP1 hk1
  generalize H1 = H at hP hS ⊢
  refine lv_istore (lv' := [(5, .int z_309.1), (0, .ref sb), (1, .ref (a 0 0)), (2, .ref (am 0)), (3, .ref b), (4, .int y)]) hx hb dL_law_2255 hl (by decide) rfl (fun ls hl => ?_)
  refine lv_aload_n hx hb dL_law_2257 rfl (lv_at hl 3 rfl) ?_
  refine lv_aload_n hx hb dL_law_2258 rfl (lv_at hl 1 rfl) ?_
  refine lv_iload hx hb dL_law_2259 (lv_at hl 5 rfl) ?_
  refine lv_iconst (v := 1) hx hb dL_law_2261 (by decide) ?_
  refine lv_iadd hx hb dL_law_2262 ?_
  obtain ⟨hi, hf⟩ := chk_some hf
  refine va_sld hx hb hX hbl hbA hS (inb_in hi) dL_law_2263 ?_
  refine lv_aload_n hx hb dL_law_2264 rfl (lv_at hl 1 rfl) ?_
  refine lv_iload hx hb dL_law_2265 (lv_at hl 5 rfl) ?_
  refine lv_iconst (v := 2) hx hb dL_law_2267 (by decide) ?_
  refine lv_iadd hx hb dL_law_2268 ?_
  obtain ⟨hi, hf⟩ := chk_some hf
  refine va_sld hx hb hX hbl hbA hS (inb_in hi) dL_law_2269 ?_
  obtain ⟨z_310, hz_310, hf⟩ := bn_some hf
  refine cWVi (As := [.int (xs (y + 1).toNatClampNeg), .int (xs (y + 2).toNatClampNeg)]) (rest := []) ⟨hx, hb, hml, hown, hts⟩ (c_X7_entry l D cI cZ cJ cT am H.size V (xs (y + 1).toNatClampNeg) (xs (y + 2).toNatClampNeg) z_310 hz_310) (cwV 2 hts (gL_in gL_law_X7_entry) rfl rfl rfl (by decide +kernel) ⟨Nat.le_of_ble_eq_true rfl, Nat.le_of_ble_eq_true rfl⟩) (fl_sub hP 1 rfl) hK (fl_subD (hDD z_309.2.1 V z_309.2.2) 1 rfl) hS (fl_free (hDD z_309.2.1 V z_309.2.2) hS hA 1 rfl) (va_recv hK (fl_sub hP 1 rfl) (ci := 7) (q0 := 0) rfl rfl) rfl rfl hl.1 (Nat.le_of_ble_eq_true rfl) dL_law_2270 ⟨(by show _ ≤ 600002; omega), (by show _ ≤ 7302232; omega)⟩ (fun H1 locs hP1 hk1 hS => ?_)
  have hP : va_P D cls (wW cI cZ cJ cT a am b z_309.2.1 z_310.2 z_309.2.2) H1 := fl_join hP (hDD z_309.2.1 V z_309.2.2) 1 rfl hk1 hP1
  clear hP1 hk1
  generalize H1 = H at hP hS ⊢
  refine lv_istore (lv' := [(6, .int z_310.1), (5, .int z_309.1), (0, .ref sb), (1, .ref (a 0 0)), (2, .ref (am 0)), (3, .ref b), (4, .int y)]) hx hb dL_law_2273 hl (by decide) rfl (fun ls hl => ?_)
  refine lv_aload_n hx hb dL_law_2275 rfl (lv_at hl 4 rfl) ?_
  obtain ⟨z_311, hz_311, hf⟩ := bn_some hf
  refine cRV (As := []) (rest := []) ⟨hx, hb, hml, hown, hts⟩ (c_X7_thrown l D cI cZ cJ cT am z_310.2 z_311 hz_311) (cwV 0 hts (gL_in gL_law_X7_thrown) rfl rfl rfl (by decide +kernel) ⟨Nat.le_of_ble_eq_true rfl, Nat.le_of_ble_eq_true rfl⟩) (fl_sub hP 1 rfl) hK (va_recv hK (fl_sub hP 1 rfl) (ci := 7) (q0 := 0) rfl rfl) rfl rfl hl.1 (Nat.le_of_ble_eq_true rfl) dL_law_2276 ⟨(by show _ ≤ 600002; omega), (by show _ ≤ 7302232; omega)⟩ ?_
  refine lv_iload hx hb dL_law_2279 (lv_at hl 1 rfl) ?_
  refine lv_icmp_eq (tgt := 2286) hx hb dL_law_2281 (by decide) (fun c_312 => ?_) (fun c_312 => ?_)
  · have hf := ite_t hf c_312
    refine lv_iload hx hb dL_law_2286 (lv_at hl 1 rfl) ?_
    refine lv_if_ne (tgt := 2303) hx hb dL_law_2288 (by decide) (fun c_313 => ?_) (fun c_313 => ?_)
    · have hf := ite_f hf c_313
      refine lv_goto (tgt := 2630) hx hb dL_law_2303 (by decide) ?_
      refine lv_iinc (v := y + 5) (lv' := [(4, .int (y + 5)), (6, .int z_310.1), (5, .int z_309.1), (0, .ref sb), (1, .ref (a 0 0)), (2, .ref (am 0)), (3, .ref b)]) hx hb dL_law_2630 hl (k := 6) rfl rfl (by decide) rfl (fun ls hl => ?_)
      refine lv_goto (tgt := 23) hx hb dL_law_2633 (by decide) ?_
      exact ih _ _ _ _ _ _ _ _ _ hf hP hS (lv_sub hl [3, 4, 5, 6, 0] rfl) (by omega) (by omega) (by omega) (by omega)
    · have hf := ite_t hf c_313
      refine lv_aload_n hx hb dL_law_2291 rfl (lv_at hl 5 rfl) ?_
      refine lv_iconst (v := 0) hx hb dL_law_2292 (by decide) ?_
      refine va_lald hx hb hK hP 100 2 rfl rfl (inb_in (i := 0) (n := 1) (by decide)) dL_law_2293 ?_
      refine lv_iload hx hb dL_law_2294 (lv_at hl 0 rfl) ?_
      refine lv_i2l (v := z_310.1.toInt64) hx hb dL_law_2296 rfl ?_
      refine W.lcmp hx hb dL_law_2297 ?_
      refine lv_if_eq (tgt := 2303) hx hb dL_law_2298 (by decide) (fun c_314 => ?_) (fun c_314 => ?_)
      · have hf := ite_t hf c_314
        refine lv_goto (tgt := 2630) hx hb dL_law_2303 (by decide) ?_
        refine lv_iinc (v := y + 5) (lv' := [(4, .int (y + 5)), (6, .int z_310.1), (5, .int z_309.1), (0, .ref sb), (1, .ref (a 0 0)), (2, .ref (am 0)), (3, .ref b)]) hx hb dL_law_2630 hl (k := 6) rfl rfl (by decide) rfl (fun ls hl => ?_)
        refine lv_goto (tgt := 23) hx hb dL_law_2633 (by decide) ?_
        exact ih _ _ _ _ _ _ _ _ _ hf hP hS (lv_sub hl [3, 4, 5, 6, 0] rfl) (by omega) (by omega) (by omega) (by omega)
      · have hf := ite_f hf c_314
        refine lv_iconst (v := 0) hx hb dL_law_2301 (by decide) ?_
        exact absurd (Option.some.inj hf) (by decide)
  · have hf := ite_f hf c_312
    refine lv_iconst (v := 0) hx hb dL_law_2284 (by decide) ?_
    exact absurd (Option.some.inj hf) (by decide)
def law_B32 (L : Nat) (xs : Nat → Int32) (r23 : Int32 → S2 → S1 → (Nat → Int64) → Option Int32) (y : Int32) (U : S2) (V : S1) (g : Nat → Int64) : Option Int32 := chk (inb (y + 1) L) (bn (f_L_target U g (xs (y + 1).toNatClampNeg)) (fun z_315 => chk (inb (y + 1) L) (bn (f_X7_target V (xs (y + 1).toNatClampNeg)) (fun z_316 => bn (f_X7_thrown z_316.2) (fun z_317 => if z_317 = z_315.1 then if z_315.1 = 0 then if (lg_cmp (z_315.2.2 (0 : Int32).toNatClampNeg) z_316.1.toInt64) = 0 then r23 (y + 5) z_315.2.1 z_316.2 z_315.2.2 else some 0 else r23 (y + 5) z_315.2.1 z_316.2 z_315.2.2 else some 0)))))
set_option maxHeartbeats 40000000 in
set_option maxRecDepth 100000 in
theorem law_case32 {p : Program} {l : Launch} {e : Env} {s : State} {m : MethodId} {below : List Frame} {meth : Method} {c : Code} {D : va_G} {cI cZ cJ cT : ClassId} {sb L : Nat} {xs : Nat → Int32} (hst : l.stackTraces = false) (C0 : lw_At p s m meth c sb L xs) (hK : va_K D cls (tys cI cZ cJ cT) s) (hE : EX (fun q : Nat => s.heap.size ≤ q) s) (hNC : NC s) (a : Nat → Nat → Nat) (am : Nat → Nat) (b : Nat) (hDD : ∀ (U : S2) (V : S1) (g : Nat → Int64), va_D (fun q : Nat => s.heap.size ≤ q) (wW cI cZ cJ cT a am b U V g)) (r23 : Int32 → S2 → S1 → (Nat → Int64) → Option Int32) (n : Nat) (ih : ∀ (y : Int32) (U : S2) (V : S1) (g : Nat → Int64) (H : Heap) (locs : List Loc) (ls : Array Slot) (nc ns : Nat), r23 y U V g = some 1 → va_P D cls (wW cI cZ cJ cT a am b U V g) H → va_S (fun q : Nat => s.heap.size ≤ q) s.heap H locs → lv_has ls 7 [(0, .ref sb), (1, .ref (a 0 0)), (2, .ref (am 0)), (3, .ref b), (4, .int y)] → nc + 8 * n ≤ 600002 → ns + 48 * n ≤ 7302232 → nc ≤ 600002 → ns ≤ 7302232 → W p l e room_1 s m #[Value.ref sb] below meth c H locs nc ns (lw_Z below #[Value.ref sb] s) (F0 m 23 ls [])) (y : Int32) (U : S2) (V : S1) (g : Nat → Int64) (H : Heap) (locs : List Loc) (ls : Array Slot) (nc ns : Nat) (hf : law_B32 L xs r23 y U V g = some 1) (hP : va_P D cls (wW cI cZ cJ cT a am b U V g) H) (hS : va_S (fun q : Nat => s.heap.size ≤ q) s.heap H locs) (hl : lv_has ls 7 [(0, .ref sb), (1, .ref (a 0 0)), (2, .ref (am 0)), (3, .ref b), (4, .int y)]) (hc1 : nc + 8 * (n + 1) ≤ 600002) (hc2 : ns + 48 * (n + 1) ≤ 7302232) (hc3 : nc ≤ 600002) (hc4 : ns ≤ 7302232) : W p l e room_1 s m #[Value.ref sb] below meth c H locs nc ns (lw_Z below #[Value.ref sb] s) (F0 m 2306 ls []) := by
  obtain ⟨hx, hb, hr, hml, hown, hts, hX, hbl, hlocks, hgv⟩ := id C0
  have hA : ∀ q : Nat, s.heap.size ≤ q → (fun q : Nat => s.heap.size ≤ q) q := fun _ h => h
  have hbA : ¬ (fun q : Nat => s.heap.size ≤ q) sb := Nat.not_le.mpr hbl
  unfold law_B32 at hf
  refine lv_aload_n hx hb dL_law_2306 rfl (lv_at hl 1 rfl) ?_
  refine lv_aload_n hx hb dL_law_2307 rfl (lv_at hl 0 rfl) ?_
  refine lv_iload hx hb dL_law_2308 (lv_at hl 4 rfl) ?_
  refine lv_iconst (v := 1) hx hb dL_law_2310 (by decide) ?_
  refine lv_iadd hx hb dL_law_2311 ?_
  obtain ⟨hi, hf⟩ := chk_some hf
  refine va_sld hx hb hX hbl hbA hS (inb_in hi) dL_law_2312 ?_
  refine lv_aload_n hx hb dL_law_2313 rfl (lv_at hl 3 rfl) ?_
  obtain ⟨z_315, hz_315, hf⟩ := bn_some hf
  refine cLS (As := [.ref (a 0 0), .int (xs (y + 1).toNatClampNeg), .ref b]) (rest := []) ⟨hx, hb, hml, hown, hts⟩ (c_L_target l hst D cI cZ cJ cT a b H.size U g (xs (y + 1).toNatClampNeg) z_315 hz_315) (vx_cwSW 3 hts (gM_law (gL_in gL_law_L_target) gLK) rfl rfl rfl (by decide +kernel) ⟨Nat.le_of_ble_eq_true rfl, Nat.le_of_ble_eq_true rfl⟩) (fl_subM hP [0, 2] rfl) hK (fl_subDM (hDD U V g) [0, 2] rfl rfl) hE hNC hS (own_free (fl_subDM (hDD U V g) [0, 2] rfl rfl) hS hA) rfl rfl hl.1 (Nat.le_of_ble_eq_true rfl) dL_law_2314 ⟨(by show _ ≤ 600002; omega), (by show _ ≤ 7302232; omega)⟩ (fun H1 locs hP1 hk1 hS => ?_)
  have hP : va_P D cls (wW cI cZ cJ cT a am b z_315.2.1 V z_315.2.2) H1 := fl_joinM (cs' := [wI cI cZ cT a z_315.2.1, [(b, .inl (cJ, 1, .inr (.inl z_315.2.2)))]]) hP (hDD U V g) [0, 2] rfl rfl hk1 hP1
  clear hP1 hk1
  generalize H1 = H at hP hS ⊢
  refine lv_istore (lv' := [(5, .int z_315.1), (0, .ref sb), (1, .ref (a 0 0)), (2, .ref (am 0)), (3, .ref b), (4, .int y)]) hx hb dL_law_2317 hl (by decide) rfl (fun ls hl => ?_)
  refine lv_aload_n hx hb dL_law_2319 rfl (lv_at hl 3 rfl) ?_
  refine lv_aload_n hx hb dL_law_2320 rfl (lv_at hl 1 rfl) ?_
  refine lv_iload hx hb dL_law_2321 (lv_at hl 5 rfl) ?_
  refine lv_iconst (v := 1) hx hb dL_law_2323 (by decide) ?_
  refine lv_iadd hx hb dL_law_2324 ?_
  obtain ⟨hi, hf⟩ := chk_some hf
  refine va_sld hx hb hX hbl hbA hS (inb_in hi) dL_law_2325 ?_
  obtain ⟨z_316, hz_316, hf⟩ := bn_some hf
  refine cWVi (As := [.int (xs (y + 1).toNatClampNeg)]) (rest := []) ⟨hx, hb, hml, hown, hts⟩ (c_X7_target l D cI cZ cJ cT am H.size V (xs (y + 1).toNatClampNeg) z_316 hz_316) (cwV 1 hts (gL_in gL_law_X7_target) rfl rfl rfl (by decide +kernel) ⟨Nat.le_of_ble_eq_true rfl, Nat.le_of_ble_eq_true rfl⟩) (fl_sub hP 1 rfl) hK (fl_subD (hDD z_315.2.1 V z_315.2.2) 1 rfl) hS (fl_free (hDD z_315.2.1 V z_315.2.2) hS hA 1 rfl) (va_recv hK (fl_sub hP 1 rfl) (ci := 7) (q0 := 0) rfl rfl) rfl rfl hl.1 (Nat.le_of_ble_eq_true rfl) dL_law_2326 ⟨(by show _ ≤ 600002; omega), (by show _ ≤ 7302232; omega)⟩ (fun H1 locs hP1 hk1 hS => ?_)
  have hP : va_P D cls (wW cI cZ cJ cT a am b z_315.2.1 z_316.2 z_315.2.2) H1 := fl_join hP (hDD z_315.2.1 V z_315.2.2) 1 rfl hk1 hP1
  clear hP1 hk1
  generalize H1 = H at hP hS ⊢
  refine lv_istore (lv' := [(6, .int z_316.1), (5, .int z_315.1), (0, .ref sb), (1, .ref (a 0 0)), (2, .ref (am 0)), (3, .ref b), (4, .int y)]) hx hb dL_law_2329 hl (by decide) rfl (fun ls hl => ?_)
  refine lv_aload_n hx hb dL_law_2331 rfl (lv_at hl 4 rfl) ?_
  obtain ⟨z_317, hz_317, hf⟩ := bn_some hf
  refine cRV (As := []) (rest := []) ⟨hx, hb, hml, hown, hts⟩ (c_X7_thrown l D cI cZ cJ cT am z_316.2 z_317 hz_317) (cwV 0 hts (gL_in gL_law_X7_thrown) rfl rfl rfl (by decide +kernel) ⟨Nat.le_of_ble_eq_true rfl, Nat.le_of_ble_eq_true rfl⟩) (fl_sub hP 1 rfl) hK (va_recv hK (fl_sub hP 1 rfl) (ci := 7) (q0 := 0) rfl rfl) rfl rfl hl.1 (Nat.le_of_ble_eq_true rfl) dL_law_2332 ⟨(by show _ ≤ 600002; omega), (by show _ ≤ 7302232; omega)⟩ ?_
  refine lv_iload hx hb dL_law_2335 (lv_at hl 1 rfl) ?_
  refine lv_icmp_eq (tgt := 2342) hx hb dL_law_2337 (by decide) (fun c_318 => ?_) (fun c_318 => ?_)
  · have hf := ite_t hf c_318
    refine lv_iload hx hb dL_law_2342 (lv_at hl 1 rfl) ?_
    refine lv_if_ne (tgt := 2359) hx hb dL_law_2344 (by decide) (fun c_319 => ?_) (fun c_319 => ?_)
    · have hf := ite_f hf c_319
      refine lv_goto (tgt := 2630) hx hb dL_law_2359 (by decide) ?_
      refine lv_iinc (v := y + 5) (lv' := [(4, .int (y + 5)), (6, .int z_316.1), (5, .int z_315.1), (0, .ref sb), (1, .ref (a 0 0)), (2, .ref (am 0)), (3, .ref b)]) hx hb dL_law_2630 hl (k := 6) rfl rfl (by decide) rfl (fun ls hl => ?_)
      refine lv_goto (tgt := 23) hx hb dL_law_2633 (by decide) ?_
      exact ih _ _ _ _ _ _ _ _ _ hf hP hS (lv_sub hl [3, 4, 5, 6, 0] rfl) (by omega) (by omega) (by omega) (by omega)
    · have hf := ite_t hf c_319
      refine lv_aload_n hx hb dL_law_2347 rfl (lv_at hl 5 rfl) ?_
      refine lv_iconst (v := 0) hx hb dL_law_2348 (by decide) ?_
      refine va_lald hx hb hK hP 100 2 rfl rfl (inb_in (i := 0) (n := 1) (by decide)) dL_law_2349 ?_
      refine lv_iload hx hb dL_law_2350 (lv_at hl 0 rfl) ?_
      refine lv_i2l (v := z_316.1.toInt64) hx hb dL_law_2352 rfl ?_
      refine W.lcmp hx hb dL_law_2353 ?_
      refine lv_if_eq (tgt := 2359) hx hb dL_law_2354 (by decide) (fun c_320 => ?_) (fun c_320 => ?_)
      · have hf := ite_t hf c_320
        refine lv_goto (tgt := 2630) hx hb dL_law_2359 (by decide) ?_
        refine lv_iinc (v := y + 5) (lv' := [(4, .int (y + 5)), (6, .int z_316.1), (5, .int z_315.1), (0, .ref sb), (1, .ref (a 0 0)), (2, .ref (am 0)), (3, .ref b)]) hx hb dL_law_2630 hl (k := 6) rfl rfl (by decide) rfl (fun ls hl => ?_)
        refine lv_goto (tgt := 23) hx hb dL_law_2633 (by decide) ?_
        exact ih _ _ _ _ _ _ _ _ _ hf hP hS (lv_sub hl [3, 4, 5, 6, 0] rfl) (by omega) (by omega) (by omega) (by omega)
      · have hf := ite_f hf c_320
        refine lv_iconst (v := 0) hx hb dL_law_2357 (by decide) ?_
        exact absurd (Option.some.inj hf) (by decide)
  · have hf := ite_f hf c_318
    refine lv_iconst (v := 0) hx hb dL_law_2340 (by decide) ?_
    exact absurd (Option.some.inj hf) (by decide)
def law_B33 (L : Nat) (xs : Nat → Int32) (r23 : Int32 → S2 → S1 → (Nat → Int64) → Option Int32) (y : Int32) (U : S2) (V : S1) (g : Nat → Int64) : Option Int32 := chk (inb (y + 1) L) (chk (inb (y + 2) L) (chk (inb (y + 3) L) (bn (f_L_page U g (xs (y + 1).toNatClampNeg) (xs (y + 2).toNatClampNeg) (xs (y + 3).toNatClampNeg)) (fun z_321 => chk (inb (y + 1) L) (chk (inb (y + 2) L) (chk (inb (y + 3) L) (bn (f_X7_page V (xs (y + 1).toNatClampNeg) (xs (y + 2).toNatClampNeg) (xs (y + 3).toNatClampNeg)) (fun z_322 => bn (f_X7_thrown z_322.2) (fun z_323 => if z_323 = z_321.1 then if z_321.1 = 0 then if (lg_cmp (z_321.2.2 (0 : Int32).toNatClampNeg) z_322.1.toInt64) = 0 then r23 (y + 5) z_321.2.1 z_322.2 z_321.2.2 else some 0 else r23 (y + 5) z_321.2.1 z_322.2 z_321.2.2 else some 0)))))))))
set_option maxHeartbeats 40000000 in
set_option maxRecDepth 100000 in
theorem law_case33 {p : Program} {l : Launch} {e : Env} {s : State} {m : MethodId} {below : List Frame} {meth : Method} {c : Code} {D : va_G} {cI cZ cJ cT : ClassId} {sb L : Nat} {xs : Nat → Int32} (hst : l.stackTraces = false) (C0 : lw_At p s m meth c sb L xs) (hK : va_K D cls (tys cI cZ cJ cT) s) (hE : EX (fun q : Nat => s.heap.size ≤ q) s) (hNC : NC s) (a : Nat → Nat → Nat) (am : Nat → Nat) (b : Nat) (hDD : ∀ (U : S2) (V : S1) (g : Nat → Int64), va_D (fun q : Nat => s.heap.size ≤ q) (wW cI cZ cJ cT a am b U V g)) (r23 : Int32 → S2 → S1 → (Nat → Int64) → Option Int32) (n : Nat) (ih : ∀ (y : Int32) (U : S2) (V : S1) (g : Nat → Int64) (H : Heap) (locs : List Loc) (ls : Array Slot) (nc ns : Nat), r23 y U V g = some 1 → va_P D cls (wW cI cZ cJ cT a am b U V g) H → va_S (fun q : Nat => s.heap.size ≤ q) s.heap H locs → lv_has ls 7 [(0, .ref sb), (1, .ref (a 0 0)), (2, .ref (am 0)), (3, .ref b), (4, .int y)] → nc + 8 * n ≤ 600002 → ns + 48 * n ≤ 7302232 → nc ≤ 600002 → ns ≤ 7302232 → W p l e room_1 s m #[Value.ref sb] below meth c H locs nc ns (lw_Z below #[Value.ref sb] s) (F0 m 23 ls [])) (y : Int32) (U : S2) (V : S1) (g : Nat → Int64) (H : Heap) (locs : List Loc) (ls : Array Slot) (nc ns : Nat) (hf : law_B33 L xs r23 y U V g = some 1) (hP : va_P D cls (wW cI cZ cJ cT a am b U V g) H) (hS : va_S (fun q : Nat => s.heap.size ≤ q) s.heap H locs) (hl : lv_has ls 7 [(0, .ref sb), (1, .ref (a 0 0)), (2, .ref (am 0)), (3, .ref b), (4, .int y)]) (hc1 : nc + 8 * (n + 1) ≤ 600002) (hc2 : ns + 48 * (n + 1) ≤ 7302232) (hc3 : nc ≤ 600002) (hc4 : ns ≤ 7302232) : W p l e room_1 s m #[Value.ref sb] below meth c H locs nc ns (lw_Z below #[Value.ref sb] s) (F0 m 2362 ls []) := by
  obtain ⟨hx, hb, hr, hml, hown, hts, hX, hbl, hlocks, hgv⟩ := id C0
  have hA : ∀ q : Nat, s.heap.size ≤ q → (fun q : Nat => s.heap.size ≤ q) q := fun _ h => h
  have hbA : ¬ (fun q : Nat => s.heap.size ≤ q) sb := Nat.not_le.mpr hbl
  unfold law_B33 at hf
  refine lv_aload_n hx hb dL_law_2362 rfl (lv_at hl 1 rfl) ?_
  refine lv_aload_n hx hb dL_law_2363 rfl (lv_at hl 0 rfl) ?_
  refine lv_iload hx hb dL_law_2364 (lv_at hl 4 rfl) ?_
  refine lv_iconst (v := 1) hx hb dL_law_2366 (by decide) ?_
  refine lv_iadd hx hb dL_law_2367 ?_
  obtain ⟨hi, hf⟩ := chk_some hf
  refine va_sld hx hb hX hbl hbA hS (inb_in hi) dL_law_2368 ?_
  refine lv_aload_n hx hb dL_law_2369 rfl (lv_at hl 0 rfl) ?_
  refine lv_iload hx hb dL_law_2370 (lv_at hl 4 rfl) ?_
  refine lv_iconst (v := 2) hx hb dL_law_2372 (by decide) ?_
  refine lv_iadd hx hb dL_law_2373 ?_
  obtain ⟨hi, hf⟩ := chk_some hf
  refine va_sld hx hb hX hbl hbA hS (inb_in hi) dL_law_2374 ?_
  refine lv_aload_n hx hb dL_law_2375 rfl (lv_at hl 0 rfl) ?_
  refine lv_iload hx hb dL_law_2376 (lv_at hl 4 rfl) ?_
  refine lv_iconst (v := 3) hx hb dL_law_2378 (by decide) ?_
  refine lv_iadd hx hb dL_law_2379 ?_
  obtain ⟨hi, hf⟩ := chk_some hf
  refine va_sld hx hb hX hbl hbA hS (inb_in hi) dL_law_2380 ?_
  refine lv_aload_n hx hb dL_law_2381 rfl (lv_at hl 3 rfl) ?_
  obtain ⟨z_321, hz_321, hf⟩ := bn_some hf
  refine cLS (As := [.ref (a 0 0), .int (xs (y + 1).toNatClampNeg), .int (xs (y + 2).toNatClampNeg), .int (xs (y + 3).toNatClampNeg), .ref b]) (rest := []) ⟨hx, hb, hml, hown, hts⟩ (c_L_page l hst D cI cZ cJ cT a b H.size U g (xs (y + 1).toNatClampNeg) (xs (y + 2).toNatClampNeg) (xs (y + 3).toNatClampNeg) z_321 hz_321) (vx_cwSW 5 hts (gM_law (gL_in gL_law_L_page) gLK) rfl rfl rfl (by decide +kernel) ⟨Nat.le_of_ble_eq_true rfl, Nat.le_of_ble_eq_true rfl⟩) (fl_subM hP [0, 2] rfl) hK (fl_subDM (hDD U V g) [0, 2] rfl rfl) hE hNC hS (own_free (fl_subDM (hDD U V g) [0, 2] rfl rfl) hS hA) rfl rfl hl.1 (Nat.le_of_ble_eq_true rfl) dL_law_2382 ⟨(by show _ ≤ 600002; omega), (by show _ ≤ 7302232; omega)⟩ (fun H1 locs hP1 hk1 hS => ?_)
  have hP : va_P D cls (wW cI cZ cJ cT a am b z_321.2.1 V z_321.2.2) H1 := fl_joinM (cs' := [wI cI cZ cT a z_321.2.1, [(b, .inl (cJ, 1, .inr (.inl z_321.2.2)))]]) hP (hDD U V g) [0, 2] rfl rfl hk1 hP1
  clear hP1 hk1
  generalize H1 = H at hP hS ⊢
  refine lv_istore (lv' := [(5, .int z_321.1), (0, .ref sb), (1, .ref (a 0 0)), (2, .ref (am 0)), (3, .ref b), (4, .int y)]) hx hb dL_law_2385 hl (by decide) rfl (fun ls hl => ?_)
  refine lv_aload_n hx hb dL_law_2387 rfl (lv_at hl 3 rfl) ?_
  refine lv_aload_n hx hb dL_law_2388 rfl (lv_at hl 1 rfl) ?_
  refine lv_iload hx hb dL_law_2389 (lv_at hl 5 rfl) ?_
  refine lv_iconst (v := 1) hx hb dL_law_2391 (by decide) ?_
  refine lv_iadd hx hb dL_law_2392 ?_
  obtain ⟨hi, hf⟩ := chk_some hf
  refine va_sld hx hb hX hbl hbA hS (inb_in hi) dL_law_2393 ?_
  refine lv_aload_n hx hb dL_law_2394 rfl (lv_at hl 1 rfl) ?_
  refine lv_iload hx hb dL_law_2395 (lv_at hl 5 rfl) ?_
  refine lv_iconst (v := 2) hx hb dL_law_2397 (by decide) ?_
  refine lv_iadd hx hb dL_law_2398 ?_
  obtain ⟨hi, hf⟩ := chk_some hf
  refine va_sld hx hb hX hbl hbA hS (inb_in hi) dL_law_2399 ?_
  refine lv_aload_n hx hb dL_law_2400 rfl (lv_at hl 1 rfl) ?_
  refine lv_iload hx hb dL_law_2401 (lv_at hl 5 rfl) ?_
  refine lv_iconst (v := 3) hx hb dL_law_2403 (by decide) ?_
  refine lv_iadd hx hb dL_law_2404 ?_
  obtain ⟨hi, hf⟩ := chk_some hf
  refine va_sld hx hb hX hbl hbA hS (inb_in hi) dL_law_2405 ?_
  obtain ⟨z_322, hz_322, hf⟩ := bn_some hf
  refine cWVi (As := [.int (xs (y + 1).toNatClampNeg), .int (xs (y + 2).toNatClampNeg), .int (xs (y + 3).toNatClampNeg)]) (rest := []) ⟨hx, hb, hml, hown, hts⟩ (c_X7_page l D cI cZ cJ cT am H.size V (xs (y + 1).toNatClampNeg) (xs (y + 2).toNatClampNeg) (xs (y + 3).toNatClampNeg) z_322 hz_322) (cwV 3 hts (gL_in gL_law_X7_page) rfl rfl rfl (by decide +kernel) ⟨Nat.le_of_ble_eq_true rfl, Nat.le_of_ble_eq_true rfl⟩) (fl_sub hP 1 rfl) hK (fl_subD (hDD z_321.2.1 V z_321.2.2) 1 rfl) hS (fl_free (hDD z_321.2.1 V z_321.2.2) hS hA 1 rfl) (va_recv hK (fl_sub hP 1 rfl) (ci := 7) (q0 := 0) rfl rfl) rfl rfl hl.1 (Nat.le_of_ble_eq_true rfl) dL_law_2406 ⟨(by show _ ≤ 600002; omega), (by show _ ≤ 7302232; omega)⟩ (fun H1 locs hP1 hk1 hS => ?_)
  have hP : va_P D cls (wW cI cZ cJ cT a am b z_321.2.1 z_322.2 z_321.2.2) H1 := fl_join hP (hDD z_321.2.1 V z_321.2.2) 1 rfl hk1 hP1
  clear hP1 hk1
  generalize H1 = H at hP hS ⊢
  refine lv_istore (lv' := [(6, .int z_322.1), (5, .int z_321.1), (0, .ref sb), (1, .ref (a 0 0)), (2, .ref (am 0)), (3, .ref b), (4, .int y)]) hx hb dL_law_2409 hl (by decide) rfl (fun ls hl => ?_)
  refine lv_aload_n hx hb dL_law_2411 rfl (lv_at hl 4 rfl) ?_
  obtain ⟨z_323, hz_323, hf⟩ := bn_some hf
  refine cRV (As := []) (rest := []) ⟨hx, hb, hml, hown, hts⟩ (c_X7_thrown l D cI cZ cJ cT am z_322.2 z_323 hz_323) (cwV 0 hts (gL_in gL_law_X7_thrown) rfl rfl rfl (by decide +kernel) ⟨Nat.le_of_ble_eq_true rfl, Nat.le_of_ble_eq_true rfl⟩) (fl_sub hP 1 rfl) hK (va_recv hK (fl_sub hP 1 rfl) (ci := 7) (q0 := 0) rfl rfl) rfl rfl hl.1 (Nat.le_of_ble_eq_true rfl) dL_law_2412 ⟨(by show _ ≤ 600002; omega), (by show _ ≤ 7302232; omega)⟩ ?_
  refine lv_iload hx hb dL_law_2415 (lv_at hl 1 rfl) ?_
  refine lv_icmp_eq (tgt := 2422) hx hb dL_law_2417 (by decide) (fun c_324 => ?_) (fun c_324 => ?_)
  · have hf := ite_t hf c_324
    refine lv_iload hx hb dL_law_2422 (lv_at hl 1 rfl) ?_
    refine lv_if_ne (tgt := 2439) hx hb dL_law_2424 (by decide) (fun c_325 => ?_) (fun c_325 => ?_)
    · have hf := ite_f hf c_325
      refine lv_goto (tgt := 2630) hx hb dL_law_2439 (by decide) ?_
      refine lv_iinc (v := y + 5) (lv' := [(4, .int (y + 5)), (6, .int z_322.1), (5, .int z_321.1), (0, .ref sb), (1, .ref (a 0 0)), (2, .ref (am 0)), (3, .ref b)]) hx hb dL_law_2630 hl (k := 6) rfl rfl (by decide) rfl (fun ls hl => ?_)
      refine lv_goto (tgt := 23) hx hb dL_law_2633 (by decide) ?_
      exact ih _ _ _ _ _ _ _ _ _ hf hP hS (lv_sub hl [3, 4, 5, 6, 0] rfl) (by omega) (by omega) (by omega) (by omega)
    · have hf := ite_t hf c_325
      refine lv_aload_n hx hb dL_law_2427 rfl (lv_at hl 5 rfl) ?_
      refine lv_iconst (v := 0) hx hb dL_law_2428 (by decide) ?_
      refine va_lald hx hb hK hP 100 2 rfl rfl (inb_in (i := 0) (n := 1) (by decide)) dL_law_2429 ?_
      refine lv_iload hx hb dL_law_2430 (lv_at hl 0 rfl) ?_
      refine lv_i2l (v := z_322.1.toInt64) hx hb dL_law_2432 rfl ?_
      refine W.lcmp hx hb dL_law_2433 ?_
      refine lv_if_eq (tgt := 2439) hx hb dL_law_2434 (by decide) (fun c_326 => ?_) (fun c_326 => ?_)
      · have hf := ite_t hf c_326
        refine lv_goto (tgt := 2630) hx hb dL_law_2439 (by decide) ?_
        refine lv_iinc (v := y + 5) (lv' := [(4, .int (y + 5)), (6, .int z_322.1), (5, .int z_321.1), (0, .ref sb), (1, .ref (a 0 0)), (2, .ref (am 0)), (3, .ref b)]) hx hb dL_law_2630 hl (k := 6) rfl rfl (by decide) rfl (fun ls hl => ?_)
        refine lv_goto (tgt := 23) hx hb dL_law_2633 (by decide) ?_
        exact ih _ _ _ _ _ _ _ _ _ hf hP hS (lv_sub hl [3, 4, 5, 6, 0] rfl) (by omega) (by omega) (by omega) (by omega)
      · have hf := ite_f hf c_326
        refine lv_iconst (v := 0) hx hb dL_law_2437 (by decide) ?_
        exact absurd (Option.some.inj hf) (by decide)
  · have hf := ite_f hf c_324
    refine lv_iconst (v := 0) hx hb dL_law_2420 (by decide) ?_
    exact absurd (Option.some.inj hf) (by decide)
def law_B34 (L : Nat) (xs : Nat → Int32) (r23 : Int32 → S2 → S1 → (Nat → Int64) → Option Int32) (y : Int32) (U : S2) (V : S1) (g : Nat → Int64) : Option Int32 := chk (inb (y + 1) L) (bn (f_L_number U g (xs (y + 1).toNatClampNeg)) (fun z_327 => chk (inb (y + 1) L) (bn (f_X7_number V (xs (y + 1).toNatClampNeg)) (fun z_328 => bn (f_X7_thrown z_328.2) (fun z_329 => if z_329 = z_327.1 then if z_327.1 = 0 then if (lg_cmp (z_327.2.2 (0 : Int32).toNatClampNeg) z_328.1.toInt64) = 0 then r23 (y + 5) z_327.2.1 z_328.2 z_327.2.2 else some 0 else r23 (y + 5) z_327.2.1 z_328.2 z_327.2.2 else some 0)))))
set_option maxHeartbeats 40000000 in
set_option maxRecDepth 100000 in
theorem law_case34 {p : Program} {l : Launch} {e : Env} {s : State} {m : MethodId} {below : List Frame} {meth : Method} {c : Code} {D : va_G} {cI cZ cJ cT : ClassId} {sb L : Nat} {xs : Nat → Int32} (hst : l.stackTraces = false) (C0 : lw_At p s m meth c sb L xs) (hK : va_K D cls (tys cI cZ cJ cT) s) (hE : EX (fun q : Nat => s.heap.size ≤ q) s) (hNC : NC s) (a : Nat → Nat → Nat) (am : Nat → Nat) (b : Nat) (hDD : ∀ (U : S2) (V : S1) (g : Nat → Int64), va_D (fun q : Nat => s.heap.size ≤ q) (wW cI cZ cJ cT a am b U V g)) (r23 : Int32 → S2 → S1 → (Nat → Int64) → Option Int32) (n : Nat) (ih : ∀ (y : Int32) (U : S2) (V : S1) (g : Nat → Int64) (H : Heap) (locs : List Loc) (ls : Array Slot) (nc ns : Nat), r23 y U V g = some 1 → va_P D cls (wW cI cZ cJ cT a am b U V g) H → va_S (fun q : Nat => s.heap.size ≤ q) s.heap H locs → lv_has ls 7 [(0, .ref sb), (1, .ref (a 0 0)), (2, .ref (am 0)), (3, .ref b), (4, .int y)] → nc + 8 * n ≤ 600002 → ns + 48 * n ≤ 7302232 → nc ≤ 600002 → ns ≤ 7302232 → W p l e room_1 s m #[Value.ref sb] below meth c H locs nc ns (lw_Z below #[Value.ref sb] s) (F0 m 23 ls [])) (y : Int32) (U : S2) (V : S1) (g : Nat → Int64) (H : Heap) (locs : List Loc) (ls : Array Slot) (nc ns : Nat) (hf : law_B34 L xs r23 y U V g = some 1) (hP : va_P D cls (wW cI cZ cJ cT a am b U V g) H) (hS : va_S (fun q : Nat => s.heap.size ≤ q) s.heap H locs) (hl : lv_has ls 7 [(0, .ref sb), (1, .ref (a 0 0)), (2, .ref (am 0)), (3, .ref b), (4, .int y)]) (hc1 : nc + 8 * (n + 1) ≤ 600002) (hc2 : ns + 48 * (n + 1) ≤ 7302232) (hc3 : nc ≤ 600002) (hc4 : ns ≤ 7302232) : W p l e room_1 s m #[Value.ref sb] below meth c H locs nc ns (lw_Z below #[Value.ref sb] s) (F0 m 2442 ls []) := by
  obtain ⟨hx, hb, hr, hml, hown, hts, hX, hbl, hlocks, hgv⟩ := id C0
  have hA : ∀ q : Nat, s.heap.size ≤ q → (fun q : Nat => s.heap.size ≤ q) q := fun _ h => h
  have hbA : ¬ (fun q : Nat => s.heap.size ≤ q) sb := Nat.not_le.mpr hbl
  unfold law_B34 at hf
  refine lv_aload_n hx hb dL_law_2442 rfl (lv_at hl 1 rfl) ?_
  refine lv_aload_n hx hb dL_law_2443 rfl (lv_at hl 0 rfl) ?_
  refine lv_iload hx hb dL_law_2444 (lv_at hl 4 rfl) ?_
  refine lv_iconst (v := 1) hx hb dL_law_2446 (by decide) ?_
  refine lv_iadd hx hb dL_law_2447 ?_
  obtain ⟨hi, hf⟩ := chk_some hf
  refine va_sld hx hb hX hbl hbA hS (inb_in hi) dL_law_2448 ?_
  refine lv_aload_n hx hb dL_law_2449 rfl (lv_at hl 3 rfl) ?_
  obtain ⟨z_327, hz_327, hf⟩ := bn_some hf
  refine cLS (As := [.ref (a 0 0), .int (xs (y + 1).toNatClampNeg), .ref b]) (rest := []) ⟨hx, hb, hml, hown, hts⟩ (c_L_number l hst D cI cZ cJ cT a b H.size U g (xs (y + 1).toNatClampNeg) z_327 hz_327) (vx_cwSW 3 hts (gM_law (gL_in gL_law_L_number) gLK) rfl rfl rfl (by decide +kernel) ⟨Nat.le_of_ble_eq_true rfl, Nat.le_of_ble_eq_true rfl⟩) (fl_subM hP [0, 2] rfl) hK (fl_subDM (hDD U V g) [0, 2] rfl rfl) hE hNC hS (own_free (fl_subDM (hDD U V g) [0, 2] rfl rfl) hS hA) rfl rfl hl.1 (Nat.le_of_ble_eq_true rfl) dL_law_2450 ⟨(by show _ ≤ 600002; omega), (by show _ ≤ 7302232; omega)⟩ (fun H1 locs hP1 hk1 hS => ?_)
  have hP : va_P D cls (wW cI cZ cJ cT a am b z_327.2.1 V z_327.2.2) H1 := fl_joinM (cs' := [wI cI cZ cT a z_327.2.1, [(b, .inl (cJ, 1, .inr (.inl z_327.2.2)))]]) hP (hDD U V g) [0, 2] rfl rfl hk1 hP1
  clear hP1 hk1
  generalize H1 = H at hP hS ⊢
  refine lv_istore (lv' := [(5, .int z_327.1), (0, .ref sb), (1, .ref (a 0 0)), (2, .ref (am 0)), (3, .ref b), (4, .int y)]) hx hb dL_law_2453 hl (by decide) rfl (fun ls hl => ?_)
  refine lv_aload_n hx hb dL_law_2455 rfl (lv_at hl 3 rfl) ?_
  refine lv_aload_n hx hb dL_law_2456 rfl (lv_at hl 1 rfl) ?_
  refine lv_iload hx hb dL_law_2457 (lv_at hl 5 rfl) ?_
  refine lv_iconst (v := 1) hx hb dL_law_2459 (by decide) ?_
  refine lv_iadd hx hb dL_law_2460 ?_
  obtain ⟨hi, hf⟩ := chk_some hf
  refine va_sld hx hb hX hbl hbA hS (inb_in hi) dL_law_2461 ?_
  obtain ⟨z_328, hz_328, hf⟩ := bn_some hf
  refine cWVi (As := [.int (xs (y + 1).toNatClampNeg)]) (rest := []) ⟨hx, hb, hml, hown, hts⟩ (c_X7_number l D cI cZ cJ cT am H.size V (xs (y + 1).toNatClampNeg) z_328 hz_328) (cwV 1 hts (gL_in gL_law_X7_number) rfl rfl rfl (by decide +kernel) ⟨Nat.le_of_ble_eq_true rfl, Nat.le_of_ble_eq_true rfl⟩) (fl_sub hP 1 rfl) hK (fl_subD (hDD z_327.2.1 V z_327.2.2) 1 rfl) hS (fl_free (hDD z_327.2.1 V z_327.2.2) hS hA 1 rfl) (va_recv hK (fl_sub hP 1 rfl) (ci := 7) (q0 := 0) rfl rfl) rfl rfl hl.1 (Nat.le_of_ble_eq_true rfl) dL_law_2462 ⟨(by show _ ≤ 600002; omega), (by show _ ≤ 7302232; omega)⟩ (fun H1 locs hP1 hk1 hS => ?_)
  have hP : va_P D cls (wW cI cZ cJ cT a am b z_327.2.1 z_328.2 z_327.2.2) H1 := fl_join hP (hDD z_327.2.1 V z_327.2.2) 1 rfl hk1 hP1
  clear hP1 hk1
  generalize H1 = H at hP hS ⊢
  refine lv_istore (lv' := [(6, .int z_328.1), (5, .int z_327.1), (0, .ref sb), (1, .ref (a 0 0)), (2, .ref (am 0)), (3, .ref b), (4, .int y)]) hx hb dL_law_2465 hl (by decide) rfl (fun ls hl => ?_)
  refine lv_aload_n hx hb dL_law_2467 rfl (lv_at hl 4 rfl) ?_
  obtain ⟨z_329, hz_329, hf⟩ := bn_some hf
  refine cRV (As := []) (rest := []) ⟨hx, hb, hml, hown, hts⟩ (c_X7_thrown l D cI cZ cJ cT am z_328.2 z_329 hz_329) (cwV 0 hts (gL_in gL_law_X7_thrown) rfl rfl rfl (by decide +kernel) ⟨Nat.le_of_ble_eq_true rfl, Nat.le_of_ble_eq_true rfl⟩) (fl_sub hP 1 rfl) hK (va_recv hK (fl_sub hP 1 rfl) (ci := 7) (q0 := 0) rfl rfl) rfl rfl hl.1 (Nat.le_of_ble_eq_true rfl) dL_law_2468 ⟨(by show _ ≤ 600002; omega), (by show _ ≤ 7302232; omega)⟩ ?_
  refine lv_iload hx hb dL_law_2471 (lv_at hl 1 rfl) ?_
  refine lv_icmp_eq (tgt := 2478) hx hb dL_law_2473 (by decide) (fun c_330 => ?_) (fun c_330 => ?_)
  · have hf := ite_t hf c_330
    refine lv_iload hx hb dL_law_2478 (lv_at hl 1 rfl) ?_
    refine lv_if_ne (tgt := 2495) hx hb dL_law_2480 (by decide) (fun c_331 => ?_) (fun c_331 => ?_)
    · have hf := ite_f hf c_331
      refine lv_goto (tgt := 2630) hx hb dL_law_2495 (by decide) ?_
      refine lv_iinc (v := y + 5) (lv' := [(4, .int (y + 5)), (6, .int z_328.1), (5, .int z_327.1), (0, .ref sb), (1, .ref (a 0 0)), (2, .ref (am 0)), (3, .ref b)]) hx hb dL_law_2630 hl (k := 6) rfl rfl (by decide) rfl (fun ls hl => ?_)
      refine lv_goto (tgt := 23) hx hb dL_law_2633 (by decide) ?_
      exact ih _ _ _ _ _ _ _ _ _ hf hP hS (lv_sub hl [3, 4, 5, 6, 0] rfl) (by omega) (by omega) (by omega) (by omega)
    · have hf := ite_t hf c_331
      refine lv_aload_n hx hb dL_law_2483 rfl (lv_at hl 5 rfl) ?_
      refine lv_iconst (v := 0) hx hb dL_law_2484 (by decide) ?_
      refine va_lald hx hb hK hP 100 2 rfl rfl (inb_in (i := 0) (n := 1) (by decide)) dL_law_2485 ?_
      refine lv_iload hx hb dL_law_2486 (lv_at hl 0 rfl) ?_
      refine lv_i2l (v := z_328.1.toInt64) hx hb dL_law_2488 rfl ?_
      refine W.lcmp hx hb dL_law_2489 ?_
      refine lv_if_eq (tgt := 2495) hx hb dL_law_2490 (by decide) (fun c_332 => ?_) (fun c_332 => ?_)
      · have hf := ite_t hf c_332
        refine lv_goto (tgt := 2630) hx hb dL_law_2495 (by decide) ?_
        refine lv_iinc (v := y + 5) (lv' := [(4, .int (y + 5)), (6, .int z_328.1), (5, .int z_327.1), (0, .ref sb), (1, .ref (a 0 0)), (2, .ref (am 0)), (3, .ref b)]) hx hb dL_law_2630 hl (k := 6) rfl rfl (by decide) rfl (fun ls hl => ?_)
        refine lv_goto (tgt := 23) hx hb dL_law_2633 (by decide) ?_
        exact ih _ _ _ _ _ _ _ _ _ hf hP hS (lv_sub hl [3, 4, 5, 6, 0] rfl) (by omega) (by omega) (by omega) (by omega)
      · have hf := ite_f hf c_332
        refine lv_iconst (v := 0) hx hb dL_law_2493 (by decide) ?_
        exact absurd (Option.some.inj hf) (by decide)
  · have hf := ite_f hf c_330
    refine lv_iconst (v := 0) hx hb dL_law_2476 (by decide) ?_
    exact absurd (Option.some.inj hf) (by decide)
def law_B35 (L : Nat) (xs : Nat → Int32) (r23 : Int32 → S2 → S1 → (Nat → Int64) → Option Int32) (y : Int32) (U : S2) (V : S1) (g : Nat → Int64) : Option Int32 := chk (inb (y + 1) L) (bn (f_L_isFree U g (xs (y + 1).toNatClampNeg)) (fun z_333 => chk (inb (y + 1) L) (bn (f_X7_isFree V (xs (y + 1).toNatClampNeg)) (fun z_334 => bn (f_X7_thrown z_334.2) (fun z_335 => if z_335 = z_333.1 then if z_333.1 = 0 then if z_334.1 = 0 then if (lg_cmp (z_333.2.2 (0 : Int32).toNatClampNeg) 0) = 0 then r23 (y + 5) z_333.2.1 z_334.2 z_333.2.2 else some 0 else if (lg_cmp (z_333.2.2 (0 : Int32).toNatClampNeg) 1) = 0 then r23 (y + 5) z_333.2.1 z_334.2 z_333.2.2 else some 0 else r23 (y + 5) z_333.2.1 z_334.2 z_333.2.2 else some 0)))))
set_option maxHeartbeats 40000000 in
set_option maxRecDepth 100000 in
theorem law_case35 {p : Program} {l : Launch} {e : Env} {s : State} {m : MethodId} {below : List Frame} {meth : Method} {c : Code} {D : va_G} {cI cZ cJ cT : ClassId} {sb L : Nat} {xs : Nat → Int32} (hst : l.stackTraces = false) (C0 : lw_At p s m meth c sb L xs) (hK : va_K D cls (tys cI cZ cJ cT) s) (hE : EX (fun q : Nat => s.heap.size ≤ q) s) (hNC : NC s) (a : Nat → Nat → Nat) (am : Nat → Nat) (b : Nat) (hDD : ∀ (U : S2) (V : S1) (g : Nat → Int64), va_D (fun q : Nat => s.heap.size ≤ q) (wW cI cZ cJ cT a am b U V g)) (r23 : Int32 → S2 → S1 → (Nat → Int64) → Option Int32) (n : Nat) (ih : ∀ (y : Int32) (U : S2) (V : S1) (g : Nat → Int64) (H : Heap) (locs : List Loc) (ls : Array Slot) (nc ns : Nat), r23 y U V g = some 1 → va_P D cls (wW cI cZ cJ cT a am b U V g) H → va_S (fun q : Nat => s.heap.size ≤ q) s.heap H locs → lv_has ls 7 [(0, .ref sb), (1, .ref (a 0 0)), (2, .ref (am 0)), (3, .ref b), (4, .int y)] → nc + 8 * n ≤ 600002 → ns + 48 * n ≤ 7302232 → nc ≤ 600002 → ns ≤ 7302232 → W p l e room_1 s m #[Value.ref sb] below meth c H locs nc ns (lw_Z below #[Value.ref sb] s) (F0 m 23 ls [])) (y : Int32) (U : S2) (V : S1) (g : Nat → Int64) (H : Heap) (locs : List Loc) (ls : Array Slot) (nc ns : Nat) (hf : law_B35 L xs r23 y U V g = some 1) (hP : va_P D cls (wW cI cZ cJ cT a am b U V g) H) (hS : va_S (fun q : Nat => s.heap.size ≤ q) s.heap H locs) (hl : lv_has ls 7 [(0, .ref sb), (1, .ref (a 0 0)), (2, .ref (am 0)), (3, .ref b), (4, .int y)]) (hc1 : nc + 8 * (n + 1) ≤ 600002) (hc2 : ns + 48 * (n + 1) ≤ 7302232) (hc3 : nc ≤ 600002) (hc4 : ns ≤ 7302232) : W p l e room_1 s m #[Value.ref sb] below meth c H locs nc ns (lw_Z below #[Value.ref sb] s) (F0 m 2498 ls []) := by
  obtain ⟨hx, hb, hr, hml, hown, hts, hX, hbl, hlocks, hgv⟩ := id C0
  have hA : ∀ q : Nat, s.heap.size ≤ q → (fun q : Nat => s.heap.size ≤ q) q := fun _ h => h
  have hbA : ¬ (fun q : Nat => s.heap.size ≤ q) sb := Nat.not_le.mpr hbl
  unfold law_B35 at hf
  refine lv_aload_n hx hb dL_law_2498 rfl (lv_at hl 1 rfl) ?_
  refine lv_aload_n hx hb dL_law_2499 rfl (lv_at hl 0 rfl) ?_
  refine lv_iload hx hb dL_law_2500 (lv_at hl 4 rfl) ?_
  refine lv_iconst (v := 1) hx hb dL_law_2502 (by decide) ?_
  refine lv_iadd hx hb dL_law_2503 ?_
  obtain ⟨hi, hf⟩ := chk_some hf
  refine va_sld hx hb hX hbl hbA hS (inb_in hi) dL_law_2504 ?_
  refine lv_aload_n hx hb dL_law_2505 rfl (lv_at hl 3 rfl) ?_
  obtain ⟨z_333, hz_333, hf⟩ := bn_some hf
  refine cLS (As := [.ref (a 0 0), .int (xs (y + 1).toNatClampNeg), .ref b]) (rest := []) ⟨hx, hb, hml, hown, hts⟩ (c_L_isFree l hst D cI cZ cJ cT a b H.size U g (xs (y + 1).toNatClampNeg) z_333 hz_333) (vx_cwSW 3 hts (gM_law (gL_in gL_law_L_isFree) gLK) rfl rfl rfl (by decide +kernel) ⟨Nat.le_of_ble_eq_true rfl, Nat.le_of_ble_eq_true rfl⟩) (fl_subM hP [0, 2] rfl) hK (fl_subDM (hDD U V g) [0, 2] rfl rfl) hE hNC hS (own_free (fl_subDM (hDD U V g) [0, 2] rfl rfl) hS hA) rfl rfl hl.1 (Nat.le_of_ble_eq_true rfl) dL_law_2506 ⟨(by show _ ≤ 600002; omega), (by show _ ≤ 7302232; omega)⟩ (fun H1 locs hP1 hk1 hS => ?_)
  have hP : va_P D cls (wW cI cZ cJ cT a am b z_333.2.1 V z_333.2.2) H1 := fl_joinM (cs' := [wI cI cZ cT a z_333.2.1, [(b, .inl (cJ, 1, .inr (.inl z_333.2.2)))]]) hP (hDD U V g) [0, 2] rfl rfl hk1 hP1
  clear hP1 hk1
  generalize H1 = H at hP hS ⊢
  refine lv_istore (lv' := [(5, .int z_333.1), (0, .ref sb), (1, .ref (a 0 0)), (2, .ref (am 0)), (3, .ref b), (4, .int y)]) hx hb dL_law_2509 hl (by decide) rfl (fun ls hl => ?_)
  refine lv_aload_n hx hb dL_law_2511 rfl (lv_at hl 3 rfl) ?_
  refine lv_aload_n hx hb dL_law_2512 rfl (lv_at hl 1 rfl) ?_
  refine lv_iload hx hb dL_law_2513 (lv_at hl 5 rfl) ?_
  refine lv_iconst (v := 1) hx hb dL_law_2515 (by decide) ?_
  refine lv_iadd hx hb dL_law_2516 ?_
  obtain ⟨hi, hf⟩ := chk_some hf
  refine va_sld hx hb hX hbl hbA hS (inb_in hi) dL_law_2517 ?_
  obtain ⟨z_334, hz_334, hf⟩ := bn_some hf
  refine cWVi (As := [.int (xs (y + 1).toNatClampNeg)]) (rest := []) ⟨hx, hb, hml, hown, hts⟩ (c_X7_isFree l D cI cZ cJ cT am H.size V (xs (y + 1).toNatClampNeg) z_334 hz_334) (cwV 1 hts (gL_in gL_law_X7_isFree) rfl rfl rfl (by decide +kernel) ⟨Nat.le_of_ble_eq_true rfl, Nat.le_of_ble_eq_true rfl⟩) (fl_sub hP 1 rfl) hK (fl_subD (hDD z_333.2.1 V z_333.2.2) 1 rfl) hS (fl_free (hDD z_333.2.1 V z_333.2.2) hS hA 1 rfl) (va_recv hK (fl_sub hP 1 rfl) (ci := 7) (q0 := 0) rfl rfl) rfl rfl hl.1 (Nat.le_of_ble_eq_true rfl) dL_law_2518 ⟨(by show _ ≤ 600002; omega), (by show _ ≤ 7302232; omega)⟩ (fun H1 locs hP1 hk1 hS => ?_)
  have hP : va_P D cls (wW cI cZ cJ cT a am b z_333.2.1 z_334.2 z_333.2.2) H1 := fl_join hP (hDD z_333.2.1 V z_333.2.2) 1 rfl hk1 hP1
  clear hP1 hk1
  generalize H1 = H at hP hS ⊢
  refine lv_istore (lv' := [(6, .int z_334.1), (5, .int z_333.1), (0, .ref sb), (1, .ref (a 0 0)), (2, .ref (am 0)), (3, .ref b), (4, .int y)]) hx hb dL_law_2521 hl (by decide) rfl (fun ls hl => ?_)
  refine lv_aload_n hx hb dL_law_2523 rfl (lv_at hl 4 rfl) ?_
  obtain ⟨z_335, hz_335, hf⟩ := bn_some hf
  refine cRV (As := []) (rest := []) ⟨hx, hb, hml, hown, hts⟩ (c_X7_thrown l D cI cZ cJ cT am z_334.2 z_335 hz_335) (cwV 0 hts (gL_in gL_law_X7_thrown) rfl rfl rfl (by decide +kernel) ⟨Nat.le_of_ble_eq_true rfl, Nat.le_of_ble_eq_true rfl⟩) (fl_sub hP 1 rfl) hK (va_recv hK (fl_sub hP 1 rfl) (ci := 7) (q0 := 0) rfl rfl) rfl rfl hl.1 (Nat.le_of_ble_eq_true rfl) dL_law_2524 ⟨(by show _ ≤ 600002; omega), (by show _ ≤ 7302232; omega)⟩ ?_
  refine lv_iload hx hb dL_law_2527 (lv_at hl 1 rfl) ?_
  refine lv_icmp_eq (tgt := 2534) hx hb dL_law_2529 (by decide) (fun c_336 => ?_) (fun c_336 => ?_)
  · have hf := ite_t hf c_336
    refine lv_iload hx hb dL_law_2534 (lv_at hl 1 rfl) ?_
    refine lv_if_ne (tgt := 2558) hx hb dL_law_2536 (by decide) (fun c_337 => ?_) (fun c_337 => ?_)
    · have hf := ite_f hf c_337
      refine lv_goto (tgt := 2630) hx hb dL_law_2558 (by decide) ?_
      refine lv_iinc (v := y + 5) (lv' := [(4, .int (y + 5)), (6, .int z_334.1), (5, .int z_333.1), (0, .ref sb), (1, .ref (a 0 0)), (2, .ref (am 0)), (3, .ref b)]) hx hb dL_law_2630 hl (k := 6) rfl rfl (by decide) rfl (fun ls hl => ?_)
      refine lv_goto (tgt := 23) hx hb dL_law_2633 (by decide) ?_
      exact ih _ _ _ _ _ _ _ _ _ hf hP hS (lv_sub hl [3, 4, 5, 6, 0] rfl) (by omega) (by omega) (by omega) (by omega)
    · have hf := ite_t hf c_337
      refine lv_aload_n hx hb dL_law_2539 rfl (lv_at hl 5 rfl) ?_
      refine lv_iconst (v := 0) hx hb dL_law_2540 (by decide) ?_
      refine va_lald hx hb hK hP 100 2 rfl rfl (inb_in (i := 0) (n := 1) (by decide)) dL_law_2541 ?_
      refine lv_iload hx hb dL_law_2542 (lv_at hl 0 rfl) ?_
      refine lv_if_eq (tgt := 2551) hx hb dL_law_2544 (by decide) (fun c_338 => ?_) (fun c_338 => ?_)
      · have hf := ite_t hf c_338
        refine lv_lconst (v := 0) hx hb dL_law_2551 (by decide) ?_
        refine W.lcmp hx hb dL_law_2552 ?_
        refine lv_if_eq (tgt := 2558) hx hb dL_law_2553 (by decide) (fun c_339 => ?_) (fun c_339 => ?_)
        · have hf := ite_t hf c_339
          refine lv_goto (tgt := 2630) hx hb dL_law_2558 (by decide) ?_
          refine lv_iinc (v := y + 5) (lv' := [(4, .int (y + 5)), (6, .int z_334.1), (5, .int z_333.1), (0, .ref sb), (1, .ref (a 0 0)), (2, .ref (am 0)), (3, .ref b)]) hx hb dL_law_2630 hl (k := 6) rfl rfl (by decide) rfl (fun ls hl => ?_)
          refine lv_goto (tgt := 23) hx hb dL_law_2633 (by decide) ?_
          exact ih _ _ _ _ _ _ _ _ _ hf hP hS (lv_sub hl [3, 4, 5, 6, 0] rfl) (by omega) (by omega) (by omega) (by omega)
        · have hf := ite_f hf c_339
          refine lv_iconst (v := 0) hx hb dL_law_2556 (by decide) ?_
          exact absurd (Option.some.inj hf) (by decide)
      · have hf := ite_f hf c_338
        refine lv_lconst (v := 1) hx hb dL_law_2547 (by decide) ?_
        refine lv_goto (tgt := 2552) hx hb dL_law_2548 (by decide) ?_
        refine W.lcmp hx hb dL_law_2552 ?_
        refine lv_if_eq (tgt := 2558) hx hb dL_law_2553 (by decide) (fun c_340 => ?_) (fun c_340 => ?_)
        · have hf := ite_t hf c_340
          refine lv_goto (tgt := 2630) hx hb dL_law_2558 (by decide) ?_
          refine lv_iinc (v := y + 5) (lv' := [(4, .int (y + 5)), (6, .int z_334.1), (5, .int z_333.1), (0, .ref sb), (1, .ref (a 0 0)), (2, .ref (am 0)), (3, .ref b)]) hx hb dL_law_2630 hl (k := 6) rfl rfl (by decide) rfl (fun ls hl => ?_)
          refine lv_goto (tgt := 23) hx hb dL_law_2633 (by decide) ?_
          exact ih _ _ _ _ _ _ _ _ _ hf hP hS (lv_sub hl [3, 4, 5, 6, 0] rfl) (by omega) (by omega) (by omega) (by omega)
        · have hf := ite_f hf c_340
          refine lv_iconst (v := 0) hx hb dL_law_2556 (by decide) ?_
          exact absurd (Option.some.inj hf) (by decide)
  · have hf := ite_f hf c_336
    refine lv_iconst (v := 0) hx hb dL_law_2532 (by decide) ?_
    exact absurd (Option.some.inj hf) (by decide)
def law_B36 (L : Nat) (xs : Nat → Int32) (r23 : Int32 → S2 → S1 → (Nat → Int64) → Option Int32) (y : Int32) (U : S2) (V : S1) (g : Nat → Int64) : Option Int32 := chk (inb (y + 1) L) (bn (f_L_used U g (xs (y + 1).toNatClampNeg)) (fun z_341 => chk (inb (y + 1) L) (bn (f_X7_used V (xs (y + 1).toNatClampNeg)) (fun z_342 => bn (f_X7_thrown z_342.2) (fun z_343 => if z_343 = z_341.1 then if z_341.1 = 0 then if (lg_cmp (z_341.2.2 (0 : Int32).toNatClampNeg) z_342.1.toInt64) = 0 then r23 (y + 5) z_341.2.1 z_342.2 z_341.2.2 else some 0 else r23 (y + 5) z_341.2.1 z_342.2 z_341.2.2 else some 0)))))
set_option maxHeartbeats 40000000 in
set_option maxRecDepth 100000 in
theorem law_case36 {p : Program} {l : Launch} {e : Env} {s : State} {m : MethodId} {below : List Frame} {meth : Method} {c : Code} {D : va_G} {cI cZ cJ cT : ClassId} {sb L : Nat} {xs : Nat → Int32} (hst : l.stackTraces = false) (C0 : lw_At p s m meth c sb L xs) (hK : va_K D cls (tys cI cZ cJ cT) s) (hE : EX (fun q : Nat => s.heap.size ≤ q) s) (hNC : NC s) (a : Nat → Nat → Nat) (am : Nat → Nat) (b : Nat) (hDD : ∀ (U : S2) (V : S1) (g : Nat → Int64), va_D (fun q : Nat => s.heap.size ≤ q) (wW cI cZ cJ cT a am b U V g)) (r23 : Int32 → S2 → S1 → (Nat → Int64) → Option Int32) (n : Nat) (ih : ∀ (y : Int32) (U : S2) (V : S1) (g : Nat → Int64) (H : Heap) (locs : List Loc) (ls : Array Slot) (nc ns : Nat), r23 y U V g = some 1 → va_P D cls (wW cI cZ cJ cT a am b U V g) H → va_S (fun q : Nat => s.heap.size ≤ q) s.heap H locs → lv_has ls 7 [(0, .ref sb), (1, .ref (a 0 0)), (2, .ref (am 0)), (3, .ref b), (4, .int y)] → nc + 8 * n ≤ 600002 → ns + 48 * n ≤ 7302232 → nc ≤ 600002 → ns ≤ 7302232 → W p l e room_1 s m #[Value.ref sb] below meth c H locs nc ns (lw_Z below #[Value.ref sb] s) (F0 m 23 ls [])) (y : Int32) (U : S2) (V : S1) (g : Nat → Int64) (H : Heap) (locs : List Loc) (ls : Array Slot) (nc ns : Nat) (hf : law_B36 L xs r23 y U V g = some 1) (hP : va_P D cls (wW cI cZ cJ cT a am b U V g) H) (hS : va_S (fun q : Nat => s.heap.size ≤ q) s.heap H locs) (hl : lv_has ls 7 [(0, .ref sb), (1, .ref (a 0 0)), (2, .ref (am 0)), (3, .ref b), (4, .int y)]) (hc1 : nc + 8 * (n + 1) ≤ 600002) (hc2 : ns + 48 * (n + 1) ≤ 7302232) (hc3 : nc ≤ 600002) (hc4 : ns ≤ 7302232) : W p l e room_1 s m #[Value.ref sb] below meth c H locs nc ns (lw_Z below #[Value.ref sb] s) (F0 m 2561 ls []) := by
  obtain ⟨hx, hb, hr, hml, hown, hts, hX, hbl, hlocks, hgv⟩ := id C0
  have hA : ∀ q : Nat, s.heap.size ≤ q → (fun q : Nat => s.heap.size ≤ q) q := fun _ h => h
  have hbA : ¬ (fun q : Nat => s.heap.size ≤ q) sb := Nat.not_le.mpr hbl
  unfold law_B36 at hf
  refine lv_aload_n hx hb dL_law_2561 rfl (lv_at hl 1 rfl) ?_
  refine lv_aload_n hx hb dL_law_2562 rfl (lv_at hl 0 rfl) ?_
  refine lv_iload hx hb dL_law_2563 (lv_at hl 4 rfl) ?_
  refine lv_iconst (v := 1) hx hb dL_law_2565 (by decide) ?_
  refine lv_iadd hx hb dL_law_2566 ?_
  obtain ⟨hi, hf⟩ := chk_some hf
  refine va_sld hx hb hX hbl hbA hS (inb_in hi) dL_law_2567 ?_
  refine lv_aload_n hx hb dL_law_2568 rfl (lv_at hl 3 rfl) ?_
  obtain ⟨z_341, hz_341, hf⟩ := bn_some hf
  refine cLS (As := [.ref (a 0 0), .int (xs (y + 1).toNatClampNeg), .ref b]) (rest := []) ⟨hx, hb, hml, hown, hts⟩ (c_L_used l hst D cI cZ cJ cT a b H.size U g (xs (y + 1).toNatClampNeg) z_341 hz_341) (vx_cwSW 3 hts (gM_law (gL_in gL_law_L_used) gLK) rfl rfl rfl (by decide +kernel) ⟨Nat.le_of_ble_eq_true rfl, Nat.le_of_ble_eq_true rfl⟩) (fl_subM hP [0, 2] rfl) hK (fl_subDM (hDD U V g) [0, 2] rfl rfl) hE hNC hS (own_free (fl_subDM (hDD U V g) [0, 2] rfl rfl) hS hA) rfl rfl hl.1 (Nat.le_of_ble_eq_true rfl) dL_law_2569 ⟨(by show _ ≤ 600002; omega), (by show _ ≤ 7302232; omega)⟩ (fun H1 locs hP1 hk1 hS => ?_)
  have hP : va_P D cls (wW cI cZ cJ cT a am b z_341.2.1 V z_341.2.2) H1 := fl_joinM (cs' := [wI cI cZ cT a z_341.2.1, [(b, .inl (cJ, 1, .inr (.inl z_341.2.2)))]]) hP (hDD U V g) [0, 2] rfl rfl hk1 hP1
  clear hP1 hk1
  generalize H1 = H at hP hS ⊢
  refine lv_istore (lv' := [(5, .int z_341.1), (0, .ref sb), (1, .ref (a 0 0)), (2, .ref (am 0)), (3, .ref b), (4, .int y)]) hx hb dL_law_2572 hl (by decide) rfl (fun ls hl => ?_)
  refine lv_aload_n hx hb dL_law_2574 rfl (lv_at hl 3 rfl) ?_
  refine lv_aload_n hx hb dL_law_2575 rfl (lv_at hl 1 rfl) ?_
  refine lv_iload hx hb dL_law_2576 (lv_at hl 5 rfl) ?_
  refine lv_iconst (v := 1) hx hb dL_law_2578 (by decide) ?_
  refine lv_iadd hx hb dL_law_2579 ?_
  obtain ⟨hi, hf⟩ := chk_some hf
  refine va_sld hx hb hX hbl hbA hS (inb_in hi) dL_law_2580 ?_
  obtain ⟨z_342, hz_342, hf⟩ := bn_some hf
  refine cWVi (As := [.int (xs (y + 1).toNatClampNeg)]) (rest := []) ⟨hx, hb, hml, hown, hts⟩ (c_X7_used l D cI cZ cJ cT am H.size V (xs (y + 1).toNatClampNeg) z_342 hz_342) (cwV 1 hts (gL_in gL_law_X7_used) rfl rfl rfl (by decide +kernel) ⟨Nat.le_of_ble_eq_true rfl, Nat.le_of_ble_eq_true rfl⟩) (fl_sub hP 1 rfl) hK (fl_subD (hDD z_341.2.1 V z_341.2.2) 1 rfl) hS (fl_free (hDD z_341.2.1 V z_341.2.2) hS hA 1 rfl) (va_recv hK (fl_sub hP 1 rfl) (ci := 7) (q0 := 0) rfl rfl) rfl rfl hl.1 (Nat.le_of_ble_eq_true rfl) dL_law_2581 ⟨(by show _ ≤ 600002; omega), (by show _ ≤ 7302232; omega)⟩ (fun H1 locs hP1 hk1 hS => ?_)
  have hP : va_P D cls (wW cI cZ cJ cT a am b z_341.2.1 z_342.2 z_341.2.2) H1 := fl_join hP (hDD z_341.2.1 V z_341.2.2) 1 rfl hk1 hP1
  clear hP1 hk1
  generalize H1 = H at hP hS ⊢
  refine lv_istore (lv' := [(6, .int z_342.1), (5, .int z_341.1), (0, .ref sb), (1, .ref (a 0 0)), (2, .ref (am 0)), (3, .ref b), (4, .int y)]) hx hb dL_law_2584 hl (by decide) rfl (fun ls hl => ?_)
  refine lv_aload_n hx hb dL_law_2586 rfl (lv_at hl 4 rfl) ?_
  obtain ⟨z_343, hz_343, hf⟩ := bn_some hf
  refine cRV (As := []) (rest := []) ⟨hx, hb, hml, hown, hts⟩ (c_X7_thrown l D cI cZ cJ cT am z_342.2 z_343 hz_343) (cwV 0 hts (gL_in gL_law_X7_thrown) rfl rfl rfl (by decide +kernel) ⟨Nat.le_of_ble_eq_true rfl, Nat.le_of_ble_eq_true rfl⟩) (fl_sub hP 1 rfl) hK (va_recv hK (fl_sub hP 1 rfl) (ci := 7) (q0 := 0) rfl rfl) rfl rfl hl.1 (Nat.le_of_ble_eq_true rfl) dL_law_2587 ⟨(by show _ ≤ 600002; omega), (by show _ ≤ 7302232; omega)⟩ ?_
  refine lv_iload hx hb dL_law_2590 (lv_at hl 1 rfl) ?_
  refine lv_icmp_eq (tgt := 2597) hx hb dL_law_2592 (by decide) (fun c_344 => ?_) (fun c_344 => ?_)
  · have hf := ite_t hf c_344
    refine lv_iload hx hb dL_law_2597 (lv_at hl 1 rfl) ?_
    refine lv_if_ne (tgt := 2614) hx hb dL_law_2599 (by decide) (fun c_345 => ?_) (fun c_345 => ?_)
    · have hf := ite_f hf c_345
      refine lv_goto (tgt := 2630) hx hb dL_law_2614 (by decide) ?_
      refine lv_iinc (v := y + 5) (lv' := [(4, .int (y + 5)), (6, .int z_342.1), (5, .int z_341.1), (0, .ref sb), (1, .ref (a 0 0)), (2, .ref (am 0)), (3, .ref b)]) hx hb dL_law_2630 hl (k := 6) rfl rfl (by decide) rfl (fun ls hl => ?_)
      refine lv_goto (tgt := 23) hx hb dL_law_2633 (by decide) ?_
      exact ih _ _ _ _ _ _ _ _ _ hf hP hS (lv_sub hl [3, 4, 5, 6, 0] rfl) (by omega) (by omega) (by omega) (by omega)
    · have hf := ite_t hf c_345
      refine lv_aload_n hx hb dL_law_2602 rfl (lv_at hl 5 rfl) ?_
      refine lv_iconst (v := 0) hx hb dL_law_2603 (by decide) ?_
      refine va_lald hx hb hK hP 100 2 rfl rfl (inb_in (i := 0) (n := 1) (by decide)) dL_law_2604 ?_
      refine lv_iload hx hb dL_law_2605 (lv_at hl 0 rfl) ?_
      refine lv_i2l (v := z_342.1.toInt64) hx hb dL_law_2607 rfl ?_
      refine W.lcmp hx hb dL_law_2608 ?_
      refine lv_if_eq (tgt := 2614) hx hb dL_law_2609 (by decide) (fun c_346 => ?_) (fun c_346 => ?_)
      · have hf := ite_t hf c_346
        refine lv_goto (tgt := 2630) hx hb dL_law_2614 (by decide) ?_
        refine lv_iinc (v := y + 5) (lv' := [(4, .int (y + 5)), (6, .int z_342.1), (5, .int z_341.1), (0, .ref sb), (1, .ref (a 0 0)), (2, .ref (am 0)), (3, .ref b)]) hx hb dL_law_2630 hl (k := 6) rfl rfl (by decide) rfl (fun ls hl => ?_)
        refine lv_goto (tgt := 23) hx hb dL_law_2633 (by decide) ?_
        exact ih _ _ _ _ _ _ _ _ _ hf hP hS (lv_sub hl [3, 4, 5, 6, 0] rfl) (by omega) (by omega) (by omega) (by omega)
      · have hf := ite_f hf c_346
        refine lv_iconst (v := 0) hx hb dL_law_2612 (by decide) ?_
        exact absurd (Option.some.inj hf) (by decide)
  · have hf := ite_f hf c_344
    refine lv_iconst (v := 0) hx hb dL_law_2595 (by decide) ?_
    exact absurd (Option.some.inj hf) (by decide)
def law_B37 (L : Nat) (xs : Nat → Int32) (r23 : Int32 → S2 → S1 → (Nat → Int64) → Option Int32) (y : Int32) (U : S2) (V : S1) (g : Nat → Int64) : Option Int32 := bn (f_X6_dirty U) (fun z_347 => bn (f_X7_dirty V) (fun z_348 => if z_347 = z_348.1 then r23 (y + 5) U z_348.2 g else some 0))
set_option maxHeartbeats 40000000 in
set_option maxRecDepth 100000 in
theorem law_case37 {p : Program} {l : Launch} {e : Env} {s : State} {m : MethodId} {below : List Frame} {meth : Method} {c : Code} {D : va_G} {cI cZ cJ cT : ClassId} {sb L : Nat} {xs : Nat → Int32} (hst : l.stackTraces = false) (C0 : lw_At p s m meth c sb L xs) (hK : va_K D cls (tys cI cZ cJ cT) s) (hE : EX (fun q : Nat => s.heap.size ≤ q) s) (hNC : NC s) (a : Nat → Nat → Nat) (am : Nat → Nat) (b : Nat) (hDD : ∀ (U : S2) (V : S1) (g : Nat → Int64), va_D (fun q : Nat => s.heap.size ≤ q) (wW cI cZ cJ cT a am b U V g)) (r23 : Int32 → S2 → S1 → (Nat → Int64) → Option Int32) (n : Nat) (ih : ∀ (y : Int32) (U : S2) (V : S1) (g : Nat → Int64) (H : Heap) (locs : List Loc) (ls : Array Slot) (nc ns : Nat), r23 y U V g = some 1 → va_P D cls (wW cI cZ cJ cT a am b U V g) H → va_S (fun q : Nat => s.heap.size ≤ q) s.heap H locs → lv_has ls 7 [(0, .ref sb), (1, .ref (a 0 0)), (2, .ref (am 0)), (3, .ref b), (4, .int y)] → nc + 8 * n ≤ 600002 → ns + 48 * n ≤ 7302232 → nc ≤ 600002 → ns ≤ 7302232 → W p l e room_1 s m #[Value.ref sb] below meth c H locs nc ns (lw_Z below #[Value.ref sb] s) (F0 m 23 ls [])) (y : Int32) (U : S2) (V : S1) (g : Nat → Int64) (H : Heap) (locs : List Loc) (ls : Array Slot) (nc ns : Nat) (hf : law_B37 L xs r23 y U V g = some 1) (hP : va_P D cls (wW cI cZ cJ cT a am b U V g) H) (hS : va_S (fun q : Nat => s.heap.size ≤ q) s.heap H locs) (hl : lv_has ls 7 [(0, .ref sb), (1, .ref (a 0 0)), (2, .ref (am 0)), (3, .ref b), (4, .int y)]) (hc1 : nc + 8 * (n + 1) ≤ 600002) (hc2 : ns + 48 * (n + 1) ≤ 7302232) (hc3 : nc ≤ 600002) (hc4 : ns ≤ 7302232) : W p l e room_1 s m #[Value.ref sb] below meth c H locs nc ns (lw_Z below #[Value.ref sb] s) (F0 m 2617 ls []) := by
  obtain ⟨hx, hb, hr, hml, hown, hts, hX, hbl, hlocks, hgv⟩ := id C0
  have hA : ∀ q : Nat, s.heap.size ≤ q → (fun q : Nat => s.heap.size ≤ q) q := fun _ h => h
  have hbA : ¬ (fun q : Nat => s.heap.size ≤ q) sb := Nat.not_le.mpr hbl
  unfold law_B37 at hf
  refine lv_aload_n hx hb dL_law_2617 rfl (lv_at hl 1 rfl) ?_
  obtain ⟨z_347, hz_347, hf⟩ := bn_some hf
  refine cRV (As := []) (rest := []) ⟨hx, hb, hml, hown, hts⟩ (c_X6_dirty l D cI cZ cJ cT a U z_347 hz_347) (cwV 0 hts (gL_in gL_law_X6_dirty) rfl rfl rfl (by decide +kernel) ⟨Nat.le_of_ble_eq_true rfl, Nat.le_of_ble_eq_true rfl⟩) (fl_sub hP 0 rfl) hK (va_recv hK (fl_sub (fl_sub hP 0 rfl) 0 rfl) (ci := 6) (q0 := 0) rfl rfl) rfl rfl hl.1 (Nat.le_of_ble_eq_true rfl) dL_law_2618 ⟨(by show _ ≤ 600002; omega), (by show _ ≤ 7302232; omega)⟩ ?_
  refine lv_aload_n hx hb dL_law_2621 rfl (lv_at hl 2 rfl) ?_
  obtain ⟨z_348, hz_348, hf⟩ := bn_some hf
  refine cWVi (As := []) (rest := [.int z_347]) ⟨hx, hb, hml, hown, hts⟩ (c_X7_dirty l D cI cZ cJ cT am H.size V z_348 hz_348) (cwV 0 hts (gL_in gL_law_X7_dirty) rfl rfl rfl (by decide +kernel) ⟨Nat.le_of_ble_eq_true rfl, Nat.le_of_ble_eq_true rfl⟩) (fl_sub hP 1 rfl) hK (fl_subD (hDD U V g) 1 rfl) hS (fl_free (hDD U V g) hS hA 1 rfl) (va_recv hK (fl_sub hP 1 rfl) (ci := 7) (q0 := 0) rfl rfl) rfl rfl hl.1 (Nat.le_of_ble_eq_true rfl) dL_law_2622 ⟨(by show _ ≤ 600002; omega), (by show _ ≤ 7302232; omega)⟩ (fun H1 locs hP1 hk1 hS => ?_)
  have hP : va_P D cls (wW cI cZ cJ cT a am b U z_348.2 g) H1 := fl_join hP (hDD U V g) 1 rfl hk1 hP1
  clear hP1 hk1
  generalize H1 = H at hP hS ⊢
  refine lv_icmp_eq (tgt := 2630) hx hb dL_law_2625 (by decide) (fun c_349 => ?_) (fun c_349 => ?_)
  · have hf := ite_t hf c_349
    refine lv_iinc (v := y + 5) (lv' := [(4, .int (y + 5)), (0, .ref sb), (1, .ref (a 0 0)), (2, .ref (am 0)), (3, .ref b)]) hx hb dL_law_2630 hl (k := 4) rfl rfl (by decide) rfl (fun ls hl => ?_)
    refine lv_goto (tgt := 23) hx hb dL_law_2633 (by decide) ?_
    exact ih _ _ _ _ _ _ _ _ _ hf hP hS (lv_sub hl [1, 2, 3, 4, 0] rfl) (by omega) (by omega) (by omega) (by omega)
  · have hf := ite_f hf c_349
    refine lv_iconst (v := 0) hx hb dL_law_2628 (by decide) ?_
    exact absurd (Option.some.inj hf) (by decide)
