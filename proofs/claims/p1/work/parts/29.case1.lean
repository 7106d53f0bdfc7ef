def law_B10 (L : Nat) (xs : Nat → Int32) (r23 : Int32 → S2 → S1 → (Nat → Int64) → Option Int32) (y : Int32) (U : S2) (V : S1) (g : Nat → Int64) : Option Int32 := chk (inb (y + 1) L) (chk (inb (y + 2) L) (if (xs (y + 2).toNatClampNeg) = 0 then bn (f_L_open U g (xs (y + 1).toNatClampNeg) 0) (fun z_123 => chk (inb (y + 1) L) (chk (inb (y + 2) L) (if (xs (y + 2).toNatClampNeg) = 0 then bn (f_X7_open V (xs (y + 1).toNatClampNeg) 0) (fun z_125 => bn (f_X7_thrown z_125.2) (fun z_126 => if z_126 = z_123.1 then if z_123.1 = 0 then if (lg_cmp (z_123.2.2 (0 : Int32).toNatClampNeg) z_125.1.toInt64) = 0 then r23 (y + 5) z_123.2.1 z_125.2 z_123.2.2 else some 0 else r23 (y + 5) z_123.2.1 z_125.2 z_123.2.2 else some 0)) else bn (f_X7_open V (xs (y + 1).toNatClampNeg) 1) (fun z_130 => bn (f_X7_thrown z_130.2) (fun z_131 => if z_131 = z_123.1 then if z_123.1 = 0 then if (lg_cmp (z_123.2.2 (0 : Int32).toNatClampNeg) z_130.1.toInt64) = 0 then r23 (y + 5) z_123.2.1 z_130.2 z_123.2.2 else some 0 else r23 (y + 5) z_123.2.1 z_130.2 z_123.2.2 else some 0))))) else bn (f_L_open U g (xs (y + 1).toNatClampNeg) 1) (fun z_135 => chk (inb (y + 1) L) (chk (inb (y + 2) L) (if (xs (y + 2).toNatClampNeg) = 0 then bn (f_X7_open V (xs (y + 1).toNatClampNeg) 0) (fun z_137 => bn (f_X7_thrown z_137.2) (fun z_138 => if z_138 = z_135.1 then if z_135.1 = 0 then if (lg_cmp (z_135.2.2 (0 : Int32).toNatClampNeg) z_137.1.toInt64) = 0 then r23 (y + 5) z_135.2.1 z_137.2 z_135.2.2 else some 0 else r23 (y + 5) z_135.2.1 z_137.2 z_135.2.2 else some 0)) else bn (f_X7_open V (xs (y + 1).toNatClampNeg) 1) (fun z_142 => bn (f_X7_thrown z_142.2) (fun z_143 => if z_143 = z_135.1 then if z_135.1 = 0 then if (lg_cmp (z_135.2.2 (0 : Int32).toNatClampNeg) z_142.1.toInt64) = 0 then r23 (y + 5) z_135.2.1 z_142.2 z_135.2.2 else some 0 else r23 (y + 5) z_135.2.1 z_142.2 z_135.2.2 else some 0)))))))
set_option maxHeartbeats 40000000 in
set_option maxRecDepth 100000 in
theorem law_case10 {p : Program} {l : Launch} {e : Env} {s : State} {m : MethodId} {below : List Frame} {meth : Method} {c : Code} {D : va_G} {cI cZ cJ cT : ClassId} {sb L : Nat} {xs : Nat → Int32} (hst : l.stackTraces = false) (C0 : lw_At p s m meth c sb L xs) (hK : va_K D cls (tys cI cZ cJ cT) s) (hE : EX (fun q : Nat => s.heap.size ≤ q) s) (hNC : NC s) (a : Nat → Nat → Nat) (am : Nat → Nat) (b : Nat) (hDD : ∀ (U : S2) (V : S1) (g : Nat → Int64), va_D (fun q : Nat => s.heap.size ≤ q) (wW cI cZ cJ cT a am b U V g)) (r23 : Int32 → S2 → S1 → (Nat → Int64) → Option Int32) (n : Nat) (ih : ∀ (y : Int32) (U : S2) (V : S1) (g : Nat → Int64) (H : Heap) (locs : List Loc) (ls : Array Slot) (nc ns : Nat), r23 y U V g = some 1 → va_P D cls (wW cI cZ cJ cT a am b U V g) H → va_S (fun q : Nat => s.heap.size ≤ q) s.heap H locs → lv_has ls 7 [(0, .ref sb), (1, .ref (a 0 0)), (2, .ref (am 0)), (3, .ref b), (4, .int y)] → nc + 8 * n ≤ 600002 → ns + 48 * n ≤ 7302232 → nc ≤ 600002 → ns ≤ 7302232 → W p l e room_1 s m #[Value.ref sb] below meth c H locs nc ns (lw_Z below #[Value.ref sb] s) (F0 m 23 ls [])) (y : Int32) (U : S2) (V : S1) (g : Nat → Int64) (H : Heap) (locs : List Loc) (ls : Array Slot) (nc ns : Nat) (hf : law_B10 L xs r23 y U V g = some 1) (hP : va_P D cls (wW cI cZ cJ cT a am b U V g) H) (hS : va_S (fun q : Nat => s.heap.size ≤ q) s.heap H locs) (hl : lv_has ls 7 [(0, .ref sb), (1, .ref (a 0 0)), (2, .ref (am 0)), (3, .ref b), (4, .int y)]) (hc1 : nc + 8 * (n + 1) ≤ 600002) (hc2 : ns + 48 * (n + 1) ≤ 7302232) (hc3 : nc ≤ 600002) (hc4 : ns ≤ 7302232) : W p l e room_1 s m #[Value.ref sb] below meth c H locs nc ns (lw_Z below #[Value.ref sb] s) (F0 m 883 ls []) := by
  obtain ⟨hx, hb, hr, hml, hown, hts, hX, hbl, hlocks, hgv⟩ := id C0
  have hA : ∀ q : Nat, s.heap.size ≤ q → (fun q : Nat => s.heap.size ≤ q) q := fun _ h => h
  have hbA : ¬ (fun q : Nat => s.heap.size ≤ q) sb := Nat.not_le.mpr hbl
  unfold law_B10 at hf
  refine lv_aload_n hx hb dL_law_883 rfl (lv_at hl 1 rfl) ?_
  refine lv_aload_n hx hb dL_law_884 rfl (lv_at hl 0 rfl) ?_
  refine lv_iload hx hb dL_law_885 (lv_at hl 4 rfl) ?_
  refine lv_iconst (v := 1) hx hb dL_law_887 (by decide) ?_
  refine lv_iadd hx hb dL_law_888 ?_
  obtain ⟨hi, hf⟩ := chk_some hf
  refine va_sld hx hb hX hbl hbA hS (inb_in hi) dL_law_889 ?_
  refine lv_aload_n hx hb dL_law_890 rfl (lv_at hl 0 rfl) ?_
  refine lv_iload hx hb dL_law_891 (lv_at hl 4 rfl) ?_
  refine lv_iconst (v := 2) hx hb dL_law_893 (by decide) ?_
  refine lv_iadd hx hb dL_law_894 ?_
  obtain ⟨hi, hf⟩ := chk_some hf
  refine va_sld hx hb hX hbl hbA hS (inb_in hi) dL_law_895 ?_
  refine lv_if_eq (tgt := 903) hx hb dL_law_896 (by decide) (fun c_122 => ?_) (fun c_122 => ?_)
  · have hf := ite_t hf c_122
    refine lv_iconst (v := 0) hx hb dL_law_903 (by decide) ?_
    refine lv_aload_n hx hb dL_law_904 rfl (lv_at hl 3 rfl) ?_
    obtain ⟨z_123, hz_123, hf⟩ := bn_some hf
    refine cLS (As := [.ref (a 0 0), .int (xs (y + 1).toNatClampNeg), .int 0, .ref b]) (rest := []) ⟨hx, hb, hml, hown, hts⟩ (c_L_open l hst D cI cZ cJ cT a b H.size U g (xs (y + 1).toNatClampNeg) 0 z_123 hz_123) (vx_cwSW 4 hts (gM_law (gL_in gL_law_L_open) gLK) rfl rfl rfl (by decide +kernel) ⟨Nat.le_of_ble_eq_true rfl, Nat.le_of_ble_eq_true rfl⟩) (fl_subM hP [0, 2] rfl) hK (fl_subDM (hDD U V g) [0, 2] rfl rfl) hE hNC hS (own_free (fl_subDM (hDD U V g) [0, 2] rfl rfl) hS hA) rfl rfl hl.1 (Nat.le_of_ble_eq_true rfl) dL_law_905 ⟨(by show _ ≤ 600002; omega), (by show _ ≤ 7302232; omega)⟩ (fun H1 locs hP1 hk1 hS => ?_)
    have hP : va_P D cls (wW cI cZ cJ cT a am b z_123.2.1 V z_123.2.2) H1 := fl_joinM (cs' := [wI cI cZ cT a z_123.2.1, [(b, .inl (cJ, 1, .inr (.inl z_123.2.2)))]]) hP (hDD U V g) [0, 2] rfl rfl hk1 hP1
    clear hP1 hk1
    generalize H1 = H at hP hS ⊢
    refine lv_istore (lv' := [(5, .int z_123.1), (0, .ref sb), (1, .ref (a 0 0)), (2, .ref (am 0)), (3, .ref b), (4, .int y)]) hx hb dL_law_908 hl (by decide) rfl (fun ls hl => ?_)
    refine lv_aload_n hx hb dL_law_910 rfl (lv_at hl 3 rfl) ?_
    refine lv_aload_n hx hb dL_law_911 rfl (lv_at hl 1 rfl) ?_
    refine lv_iload hx hb dL_law_912 (lv_at hl 5 rfl) ?_
    refine lv_iconst (v := 1) hx hb dL_law_914 (by decide) ?_
    refine lv_iadd hx hb dL_law_915 ?_
    obtain ⟨hi, hf⟩ := chk_some hf
    refine va_sld hx hb hX hbl hbA hS (inb_in hi) dL_law_916 ?_
    refine lv_aload_n hx hb dL_law_917 rfl (lv_at hl 1 rfl) ?_
    refine lv_iload hx hb dL_law_918 (lv_at hl 5 rfl) ?_
    refine lv_iconst (v := 2) hx hb dL_law_920 (by decide) ?_
    refine lv_iadd hx hb dL_law_921 ?_
    obtain ⟨hi, hf⟩ := chk_some hf
    refine va_sld hx hb hX hbl hbA hS (inb_in hi) dL_law_922 ?_
    refine lv_if_eq (tgt := 930) hx hb dL_law_923 (by decide) (fun c_124 => ?_) (fun c_124 => ?_)
    · have hf := ite_t hf c_124
      refine lv_iconst (v := 0) hx hb dL_law_930 (by decide) ?_
      obtain ⟨z_125, hz_125, hf⟩ := bn_some hf
      refine cWVi (As := [.int (xs (y + 1).toNatClampNeg), .int 0]) (rest := []) ⟨hx, hb, hml, hown, hts⟩ (c_X7_open l D cI cZ cJ cT am H.size V (xs (y + 1).toNatClampNeg) 0 z_125 hz_125) (cwV 2 hts (gL_in gL_law_X7_open) rfl rfl rfl (by decide +kernel) ⟨Nat.le_of_ble_eq_true rfl, Nat.le_of_ble_eq_true rfl⟩) (fl_sub hP 1 rfl) hK (fl_subD (hDD z_123.2.1 V z_123.2.2) 1 rfl) hS (fl_free (hDD z_123.2.1 V z_123.2.2) hS hA 1 rfl) (va_recv hK (fl_sub hP 1 rfl) (ci := 7) (q0 := 0) rfl rfl) rfl rfl hl.1 (Nat.le_of_ble_eq_true rfl) dL_law_931 ⟨(by show _ ≤ 600002; omega), (by show _ ≤ 7302232; omega)⟩ (fun H1 locs hP1 hk1 hS => ?_)
      have hP : va_P D cls (wW cI cZ cJ cT a am b z_123.2.1 z_125.2 z_123.2.2) H1 := fl_join hP (hDD z_123.2.1 V z_123.2.2) 1 rfl hk1 hP1
      clear hP1 hk1
      generalize H1 = H at hP hS ⊢
      refine lv_istore (lv' := [(6, .int z_125.1), (5, .int z_123.1), (0, .ref sb), (1, .ref (a 0 0)), (2, .ref (am 0)), (3, .ref b), (4, .int y)]) hx hb dL_law_934 hl (by decide) rfl (fun ls hl => ?_)
      refine lv_aload_n hx hb dL_law_936 rfl (lv_at hl 4 rfl) ?_
      obtain ⟨z_126, hz_126, hf⟩ := bn_some hf
      refine cRV (As := []) (rest := []) ⟨hx, hb, hml, hown, hts⟩ (c_X7_thrown l D cI cZ cJ cT am z_125.2 z_126 hz_126) (cwV 0 hts (gL_in gL_law_X7_thrown) rfl rfl rfl (by decide +kernel) ⟨Nat.le_of_ble_eq_true rfl, Nat.le_of_ble_eq_true rfl⟩) (fl_sub hP 1 rfl) hK (va_recv hK (fl_sub hP 1 rfl) (ci := 7) (q0 := 0) rfl rfl) rfl rfl hl.1 (Nat.le_of_ble_eq_true rfl) dL_law_937 ⟨(by show _ ≤ 600002; omega), (by show _ ≤ 7302232; omega)⟩ ?_
      refine lv_iload hx hb dL_law_940 (lv_at hl 1 rfl) ?_
      refine lv_icmp_eq (tgt := 947) hx hb dL_law_942 (by decide) (fun c_127 => ?_) (fun c_127 => ?_)
      · have hf := ite_t hf c_127
        refine lv_iload hx hb dL_law_947 (lv_at hl 1 rfl) ?_
        refine lv_if_ne (tgt := 964) hx hb dL_law_949 (by decide) (fun c_128 => ?_) (fun c_128 => ?_)
        · have hf := ite_f hf c_128
          refine lv_goto (tgt := 2630) hx hb dL_law_964 (by decide) ?_
          refine lv_iinc (v := y + 5) (lv' := [(4, .int (y + 5)), (6, .int z_125.1), (5, .int z_123.1), (0, .ref sb), (1, .ref (a 0 0)), (2, .ref (am 0)), (3, .ref b)]) hx hb dL_law_2630 hl (k := 6) rfl rfl (by decide) rfl (fun ls hl => ?_)
          refine lv_goto (tgt := 23) hx hb dL_law_2633 (by decide) ?_
          exact ih _ _ _ _ _ _ _ _ _ hf hP hS (lv_sub hl [3, 4, 5, 6, 0] rfl) (by omega) (by omega) (by omega) (by omega)
        · have hf := ite_t hf c_128
          refine lv_aload_n hx hb dL_law_952 rfl (lv_at hl 5 rfl) ?_
          refine lv_iconst (v := 0) hx hb dL_law_953 (by decide) ?_
          refine va_lald hx hb hK hP 100 2 rfl rfl (inb_in (i := 0) (n := 1) (by decide)) dL_law_954 ?_
          refine lv_iload hx hb dL_law_955 (lv_at hl 0 rfl) ?_
          refine lv_i2l (v := z_125.1.toInt64) hx hb dL_law_957 rfl ?_
          refine W.lcmp hx hb dL_law_958 ?_
          refine lv_if_eq (tgt := 964) hx hb dL_law_959 (by decide) (fun c_129 => ?_) (fun c_129 => ?_)
          · have hf := ite_t hf c_129
            refine lv_goto (tgt := 2630) hx hb dL_law_964 (by decide) ?_
            refine lv_iinc (v := y + 5) (lv' := [(4, .int (y + 5)), (6, .int z_125.1), (5, .int z_123.1), (0, .ref sb), (1, .ref (a 0 0)), (2, .ref (am 0)), (3, .ref b)]) hx hb dL_law_2630 hl (k := 6) rfl rfl (by decide) rfl (fun ls hl => ?_)
            refine lv_goto (tgt := 23) hx hb dL_law_2633 (by decide) ?_
            exact ih _ _ _ _ _ _ _ _ _ hf hP hS (lv_sub hl [3, 4, 5, 6, 0] rfl) (by omega) (by omega) (by omega) (by omega)
          · have hf := ite_f hf c_129
            refine lv_iconst (v := 0) hx hb dL_law_962 (by decide) ?_
            exact absurd (Option.some.inj hf) (by decide)
      · have hf := ite_f hf c_127
        refine lv_iconst (v := 0) hx hb dL_law_945 (by decide) ?_
        exact absurd (Option.some.inj hf) (by decide)
    · have hf := ite_f hf c_124
      refine lv_iconst (v := 1) hx hb dL_law_926 (by decide) ?_
      refine lv_goto (tgt := 931) hx hb dL_law_927 (by decide) ?_
      obtain ⟨z_130, hz_130, hf⟩ := bn_some hf
      refine cWVi (As := [.int (xs (y + 1).toNatClampNeg), .int 1]) (rest := []) ⟨hx, hb, hml, hown, hts⟩ (c_X7_open l D cI cZ cJ cT am H.size V (xs (y + 1).toNatClampNeg) 1 z_130 hz_130) (cwV 2 hts (gL_in gL_law_X7_open) rfl rfl rfl (by decide +kernel) ⟨Nat.le_of_ble_eq_true rfl, Nat.le_of_ble_eq_true rfl⟩) (fl_sub hP 1 rfl) hK (fl_subD (hDD z_123.2.1 V z_123.2.2) 1 rfl) hS (fl_free (hDD z_123.2.1 V z_123.2.2) hS hA 1 rfl) (va_recv hK (fl_sub hP 1 rfl) (ci := 7) (q0 := 0) rfl rfl) rfl rfl hl.1 (Nat.le_of_ble_eq_true rfl) dL_law_931 ⟨(by show _ ≤ 600002; omega), (by show _ ≤ 7302232; omega)⟩ (fun H1 locs hP1 hk1 hS => ?_)
      have hP : va_P D cls (wW cI cZ cJ cT a am b z_123.2.1 z_130.2 z_123.2.2) H1 := fl_join hP (hDD z_123.2.1 V z_123.2.2) 1 rfl hk1 hP1
      clear hP1 hk1
      generalize H1 = H at hP hS ⊢
      refine lv_istore (lv' := [(6, .int z_130.1), (5, .int z_123.1), (0, .ref sb), (1, .ref (a 0 0)), (2, .ref (am 0)), (3, .ref b), (4, .int y)]) hx hb dL_law_934 hl (by decide) rfl (fun ls hl => ?_)
      refine lv_aload_n hx hb dL_law_936 rfl (lv_at hl 4 rfl) ?_
      obtain ⟨z_131, hz_131, hf⟩ := bn_some hf
      refine cRV (As := []) (rest := []) ⟨hx, hb, hml, hown, hts⟩ (c_X7_thrown l D cI cZ cJ cT am z_130.2 z_131 hz_131) (cwV 0 hts (gL_in gL_law_X7_thrown) rfl rfl rfl (by decide +kernel) ⟨Nat.le_of_ble_eq_true rfl, Nat.le_of_ble_eq_true rfl⟩) (fl_sub hP 1 rfl) hK (va_recv hK (fl_sub hP 1 rfl) (ci := 7) (q0 := 0) rfl rfl) rfl rfl hl.1 (Nat.le_of_ble_eq_true rfl) dL_law_937 ⟨(by show _ ≤ 600002; omega), (by show _ ≤ 7302232; omega)⟩ ?_
      refine lv_iload hx hb dL_law_940 (lv_at hl 1 rfl) ?_
      refine lv_icmp_eq (tgt := 947) hx hb dL_law_942 (by decide) (fun c_132 => ?_) (fun c_132 => ?_)
      · have hf := ite_t hf c_132
        refine lv_iload hx hb dL_law_947 (lv_at hl 1 rfl) ?_
        refine lv_if_ne (tgt := 964) hx hb dL_law_949 (by decide) (fun c_133 => ?_) (fun c_133 => ?_)
        · have hf := ite_f hf c_133
          refine lv_goto (tgt := 2630) hx hb dL_law_964 (by decide) ?_
          refine lv_iinc (v := y + 5) (lv' := [(4, .int (y + 5)), (6, .int z_130.1), (5, .int z_123.1), (0, .ref sb), (1, .ref (a 0 0)), (2, .ref (am 0)), (3, .ref b)]) hx hb dL_law_2630 hl (k := 6) rfl rfl (by decide) rfl (fun ls hl => ?_)
          refine lv_goto (tgt := 23) hx hb dL_law_2633 (by decide) ?_
          exact ih _ _ _ _ _ _ _ _ _ hf hP hS (lv_sub hl [3, 4, 5, 6, 0] rfl) (by omega) (by omega) (by omega) (by omega)
        · have hf := ite_t hf c_133
          refine lv_aload_n hx hb dL_law_952 rfl (lv_at hl 5 rfl) ?_
          refine lv_iconst (v := 0) hx hb dL_law_953 (by decide) ?_
          refine va_lald hx hb hK hP 100 2 rfl rfl (inb_in (i := 0) (n := 1) (by decide)) dL_law_954 ?_
          refine lv_iload hx hb dL_law_955 (lv_at hl 0 rfl) ?_
          refine lv_i2l (v := z_130.1.toInt64) hx hb dL_law_957 rfl ?_
          refine W.lcmp hx hb dL_law_958 ?_
          refine lv_if_eq (tgt := 964) hx hb dL_law_959 (by decide) (fun c_134 => ?_) (fun c_134 => ?_)
          · have hf := ite_t hf c_134
            refine lv_goto (tgt := 2630) hx hb dL_law_964 (by decide) ?_
            refine lv_iinc (v := y + 5) (lv' := [(4, .int (y + 5)), (6, .int z_130.1), (5, .int z_123.1), (0, .ref sb), (1, .ref (a 0 0)), (2, .ref (am 0)), (3, .ref b)]) hx hb dL_law_2630 hl (k := 6) rfl rfl (by decide) rfl (fun ls hl => ?_)
            refine lv_goto (tgt := 23) hx hb dL_law_2633 (by decide) ?_
            exact ih _ _ _ _ _ _ _ _ _ hf hP hS (lv_sub hl [3, 4, 5, 6, 0] rfl) (by omega) (by omega) (by omega) (by omega)
          · have hf := ite_f hf c_134
            refine lv_iconst (v := 0) hx hb dL_law_962 (by decide) ?_
            exact absurd (Option.some.inj hf) (by decide)
      · have hf := ite_f hf c_132
        refine lv_iconst (v := 0) hx hb dL_law_945 (by decide) ?_
        exact absurd (Option.some.inj hf) (by decide)
  · have hf := ite_f hf c_122
    refine lv_iconst (v := 1) hx hb dL_law_899 (by decide) ?_
    refine lv_goto (tgt := 904) hx hb dL_law_900 (by decide) ?_
    refine lv_aload_n hx hb dL_law_904 rfl (lv_at hl 3 rfl) ?_
    obtain ⟨z_135, hz_135, hf⟩ := bn_some hf
    refine cLS (As := [.ref (a 0 0), .int (xs (y + 1).toNatClampNeg), .int 1, .ref b]) (rest := []) ⟨hx, hb, hml, hown, hts⟩ (c_L_open l hst D cI cZ cJ cT a b H.size U g (xs (y + 1).toNatClampNeg) 1 z_135 hz_135) (vx_cwSW 4 hts (gM_law (gL_in gL_law_L_open) gLK) rfl rfl rfl (by decide +kernel) ⟨Nat.le_of_ble_eq_true rfl, Nat.le_of_ble_eq_true rfl⟩) (fl_subM hP [0, 2] rfl) hK (fl_subDM (hDD U V g) [0, 2] rfl rfl) hE hNC hS (own_free (fl_subDM (hDD U V g) [0, 2] rfl rfl) hS hA) rfl rfl hl.1 (Nat.le_of_ble_eq_true rfl) dL_law_905 ⟨(by show _ ≤ 600002; omega), (by show _ ≤ 7302232; omega)⟩ (fun H1 locs hP1 hk1 hS => ?_)
    have hP : va_P D cls (wW cI cZ cJ cT a am b z_135.2.1 V z_135.2.2) H1 := fl_joinM (cs' := [wI cI cZ cT a z_135.2.1, [(b, .inl (cJ, 1, .inr (.inl z_135.2.2)))]]) hP (hDD U V g) [0, 2] rfl rfl hk1 hP1
    clear hP1 hk1
    generalize H1 = H at hP hS ⊢
    refine lv_istore (lv' := [(5, .int z_135.1), (0, .ref sb), (1, .ref (a 0 0)), (2, .ref (am 0)), (3, .ref b), (4, .int y)]) hx hb dL_law_908 hl (by decide) rfl (fun ls hl => ?_)
    refine lv_aload_n hx hb dL_law_910 rfl (lv_at hl 3 rfl) ?_
    refine lv_aload_n hx hb dL_law_911 rfl (lv_at hl 1 rfl) ?_
    refine lv_iload hx hb dL_law_912 (lv_at hl 5 rfl) ?_
    refine lv_iconst (v := 1) hx hb dL_law_914 (by decide) ?_
    refine lv_iadd hx hb dL_law_915 ?_
    obtain ⟨hi, hf⟩ := chk_some hf
    refine va_sld hx hb hX hbl hbA hS (inb_in hi) dL_law_916 ?_
    refine lv_aload_n hx hb dL_law_917 rfl (lv_at hl 1 rfl) ?_
    refine lv_iload hx hb dL_law_918 (lv_at hl 5 rfl) ?_
    refine lv_iconst (v := 2) hx hb dL_law_920 (by decide) ?_
    refine lv_iadd hx hb dL_law_921 ?_
    obtain ⟨hi, hf⟩ := chk_some hf
    refine va_sld hx hb hX hbl hbA hS (inb_in hi) dL_law_922 ?_
    refine lv_if_eq (tgt := 930) hx hb dL_law_923 (by decide) (fun c_136 => ?_) (fun c_136 => ?_)
    · have hf := ite_t hf c_136
      refine lv_iconst (v := 0) hx hb dL_law_930 (by decide) ?_
      obtain ⟨z_137, hz_137, hf⟩ := bn_some hf
      refine cWVi (As := [.int (xs (y + 1).toNatClampNeg), .int 0]) (rest := []) ⟨hx, hb, hml, hown, hts⟩ (c_X7_open l D cI cZ cJ cT am H.size V (xs (y + 1).toNatClampNeg) 0 z_137 hz_137) (cwV 2 hts (gL_in gL_law_X7_open) rfl rfl rfl (by decide +kernel) ⟨Nat.le_of_ble_eq_true rfl, Nat.le_of_ble_eq_true rfl⟩) (fl_sub hP 1 rfl) hK (fl_subD (hDD z_135.2.1 V z_135.2.2) 1 rfl) hS (fl_free (hDD z_135.2.1 V z_135.2.2) hS hA 1 rfl) (va_recv hK (fl_sub hP 1 rfl) (ci := 7) (q0 := 0) rfl rfl) rfl rfl hl.1 (Nat.le_of_ble_eq_true rfl) dL_law_931 ⟨(by show _ ≤ 600002; omega), (by show _ ≤ 7302232; omega)⟩ (fun H1 locs hP1 hk1 hS => ?_)
      have hP : va_P D cls (wW cI cZ cJ cT a am b z_135.2.1 z_137.2 z_135.2.2) H1 := fl_join hP (hDD z_135.2.1 V z_135.2.2) 1 rfl hk1 hP1
      clear hP1 hk1
      generalize H1 = H at hP hS ⊢
      refine lv_istore (lv' := [(6, .int z_137.1), (5, .int z_135.1), (0, .ref sb), (1, .ref (a 0 0)), (2, .ref (am 0)), (3, .ref b), (4, .int y)]) hx hb dL_law_934 hl (by decide) rfl (fun ls hl => ?_)
      refine lv_aload_n hx hb dL_law_936 rfl (lv_at hl 4 rfl) ?_
      obtain ⟨z_138, hz_138, hf⟩ := bn_some hf
      refine cRV (As := []) (rest := []) ⟨hx, hb, hml, hown, hts⟩ (c_X7_thrown l D cI cZ cJ cT am z_137.2 z_138 hz_138) (cwV 0 hts (gL_in gL_law_X7_thrown) rfl rfl rfl (by decide +kernel) ⟨Nat.le_of_ble_eq_true rfl, Nat.le_of_ble_eq_true rfl⟩) (fl_sub hP 1 rfl) hK (va_recv hK (fl_sub hP 1 rfl) (ci := 7) (q0 := 0) rfl rfl) rfl rfl hl.1 (Nat.le_of_ble_eq_true rfl) dL_law_937 ⟨(by show _ ≤ 600002; omega), (by show _ ≤ 7302232; omega)⟩ ?_
      refine lv_iload hx hb dL_law_940 (lv_at hl 1 rfl) ?_
      refine lv_icmp_eq (tgt := 947) hx hb dL_law_942 (by decide) (fun c_139 => ?_) (fun c_139 => ?_)
      · have hf := ite_t hf c_139
        refine lv_iload hx hb dL_law_947 (lv_at hl 1 rfl) ?_
        refine lv_if_ne (tgt := 964) hx hb dL_law_949 (by decide) (fun c_140 => ?_) (fun c_140 => ?_)
        · have hf := ite_f hf c_140
          refine lv_goto (tgt := 2630) hx hb dL_law_964 (by decide) ?_
          refine lv_iinc (v := y + 5) (lv' := [(4, .int (y + 5)), (6, .int z_137.1), (5, .int z_135.1), (0, .ref sb), (1, .ref (a 0 0)), (2, .ref (am 0)), (3, .ref b)]) hx hb dL_law_2630 hl (k := 6) rfl rfl (by decide) rfl (fun ls hl => ?_)
          refine lv_goto (tgt := 23) hx hb dL_law_2633 (by decide) ?_
          exact ih _ _ _ _ _ _ _ _ _ hf hP hS (lv_sub hl [3, 4, 5, 6, 0] rfl) (by omega) (by omega) (by omega) (by omega)
        · have hf := ite_t hf c_140
          refine lv_aload_n hx hb dL_law_952 rfl (lv_at hl 5 rfl) ?_
          refine lv_iconst (v := 0) hx hb dL_law_953 (by decide) ?_
          refine va_lald hx hb hK hP 100 2 rfl rfl (inb_in (i := 0) (n := 1) (by decide)) dL_law_954 ?_
          refine lv_iload hx hb dL_law_955 (lv_at hl 0 rfl) ?_
          refine lv_i2l (v := z_137.1.toInt64) hx hb dL_law_957 rfl ?_
          refine W.lcmp hx hb dL_law_958 ?_
          refine lv_if_eq (tgt := 964) hx hb dL_law_959 (by decide) (fun c_141 => ?_) (fun c_141 => ?_)
          · have hf := ite_t hf c_141
            refine lv_goto (tgt := 2630) hx hb dL_law_964 (by decide) ?_
            refine lv_iinc (v := y + 5) (lv' := [(4, .int (y + 5)), (6, .int z_137.1), (5, .int z_135.1), (0, .ref sb), (1, .ref (a 0 0)), (2, .ref (am 0)), (3, .ref b)]) hx hb dL_law_2630 hl (k := 6) rfl rfl (by decide) rfl (fun ls hl => ?_)
            refine lv_goto (tgt := 23) hx hb dL_law_2633 (by decide) ?_
            exact ih _ _ _ _ _ _ _ _ _ hf hP hS (lv_sub hl [3, 4, 5, 6, 0] rfl) (by omega) (by omega) (by omega) (by omega)
          · have hf := ite_f hf c_141
            refine lv_iconst (v := 0) hx hb dL_law_962 (by decide) ?_
            exact absurd (Option.some.inj hf) (by decide)
      · have hf := ite_f hf c_139
        refine lv_iconst (v := 0) hx hb dL_law_945 (by decide) ?_
        exact absurd (Option.some.inj hf) (by decide)
    · have hf := ite_f hf c_136
      refine lv_iconst (v := 1) hx hb dL_law_926 (by decide) ?_
      refine lv_goto (tgt := 931) hx hb dL_law_927 (by decide) ?_
      obtain ⟨z_142, hz_142, hf⟩ := bn_some hf
      refine cWVi (As := [.int (xs (y + 1).toNatClampNeg), .int 1]) (rest := []) ⟨hx, hb, hml, hown, hts⟩ (c_X7_open l D cI cZ cJ cT am H.size V (xs (y + 1).toNatClampNeg) 1 z_142 hz_142) (cwV 2 hts (gL_in gL_law_X7_open) rfl rfl rfl (by decide +kernel) ⟨Nat.le_of_ble_eq_true rfl, Nat.le_of_ble_eq_true rfl⟩) (fl_sub hP 1 rfl) hK (fl_subD (hDD z_135.2.1 V z_135.2.2) 1 rfl) hS (fl_free (hDD z_135.2.1 V z_135.2.2) hS hA 1 rfl) (va_recv hK (fl_sub hP 1 rfl) (ci := 7) (q0 := 0) rfl rfl) rfl rfl hl.1 (Nat.le_of_ble_eq_true rfl) dL_law_931 ⟨(by show _ ≤ 600002; omega), (by show _ ≤ 7302232; omega)⟩ (fun H1 locs hP1 hk1 hS => ?_)
      have hP : va_P D cls (wW cI cZ cJ cT a am b z_135.2.1 z_142.2 z_135.2.2) H1 := fl_join hP (hDD z_135.2.1 V z_135.2.2) 1 rfl hk1 hP1
      clear hP1 hk1
      generalize H1 = H at hP hS ⊢
      refine lv_istore (lv' := [(6, .int z_142.1), (5, .int z_135.1), (0, .ref sb), (1, .ref (a 0 0)), (2, .ref (am 0)), (3, .ref b), (4, .int y)]) hx hb dL_law_934 hl (by decide) rfl (fun ls hl => ?_)
      refine lv_aload_n hx hb dL_law_936 rfl (lv_at hl 4 rfl) ?_
      obtain ⟨z_143, hz_143, hf⟩ := bn_some hf
      refine cRV (As := []) (rest := []) ⟨hx, hb, hml, hown, hts⟩ (c_X7_thrown l D cI cZ cJ cT am z_142.2 z_143 hz_143) (cwV 0 hts (gL_in gL_law_X7_thrown) rfl rfl rfl (by decide +kernel) ⟨Nat.le_of_ble_eq_true rfl, Nat.le_of_ble_eq_true rfl⟩) (fl_sub hP 1 rfl) hK (va_recv hK (fl_sub hP 1 rfl) (ci := 7) (q0 := 0) rfl rfl) rfl rfl hl.1 (Nat.le_of_ble_eq_true rfl) dL_law_937 ⟨(by show _ ≤ 600002; omega), (by show _ ≤ 7302232; omega)⟩ ?_
      refine lv_iload hx hb dL_law_940 (lv_at hl 1 rfl) ?_
      refine lv_icmp_eq (tgt := 947) hx hb dL_law_942 (by decide) (fun c_144 => ?_) (fun c_144 => ?_)
      · have hf := ite_t hf c_144
        refine lv_iload hx hb dL_law_947 (lv_at hl 1 rfl) ?_
        refine lv_if_ne (tgt := 964) hx hb dL_law_949 (by decide) (fun c_145 => ?_) (fun c_145 => ?_)
        · have hf := ite_f hf c_145
          refine lv_goto (tgt := 2630) hx hb dL_law_964 (by decide) ?_
          refine lv_iinc (v := y + 5) (lv' := [(4, .int (y + 5)), (6, .int z_142.1), (5, .int z_135.1), (0, .ref sb), (1, .ref (a 0 0)), (2, .ref (am 0)), (3, .ref b)]) hx hb dL_law_2630 hl (k := 6) rfl rfl (by decide) rfl (fun ls hl => ?_)
          refine lv_goto (tgt := 23) hx hb dL_law_2633 (by decide) ?_
          exact ih _ _ _ _ _ _ _ _ _ hf hP hS (lv_sub hl [3, 4, 5, 6, 0] rfl) (by omega) (by omega) (by omega) (by omega)
        · have hf := ite_t hf c_145
          refine lv_aload_n hx hb dL_law_952 rfl (lv_at hl 5 rfl) ?_
          refine lv_iconst (v := 0) hx hb dL_law_953 (by decide) ?_
          refine va_lald hx hb hK hP 100 2 rfl rfl (inb_in (i := 0) (n := 1) (by decide)) dL_law_954 ?_
          refine lv_iload hx hb dL_law_955 (lv_at hl 0 rfl) ?_
          refine lv_i2l (v := z_142.1.toInt64) hx hb dL_law_957 rfl ?_
          refine W.lcmp hx hb dL_law_958 ?_
          refine lv_if_eq (tgt := 964) hx hb dL_law_959 (by decide) (fun c_146 => ?_) (fun c_146 => ?_)
          · have hf := ite_t hf c_146
            refine lv_goto (tgt := 2630) hx hb dL_law_964 (by decide) ?_
            refine lv_iinc (v := y + 5) (lv' := [(4, .int (y + 5)), (6, .int z_142.1), (5, .int z_135.1), (0, .ref sb), (1, .ref (a 0 0)), (2, .ref (am 0)), (3, .ref b)]) hx hb dL_law_2630 hl (k := 6) rfl rfl (by decide) rfl (fun ls hl => ?_)
            refine lv_goto (tgt := 23) hx hb dL_law_2633 (by decide) ?_
            exact ih _ _ _ _ _ _ _ _ _ hf hP hS (lv_sub hl [3, 4, 5, 6, 0] rfl) (by omega) (by omega) (by omega) (by omega)
          · have hf := ite_f hf c_146
            refine lv_iconst (v := 0) hx hb dL_law_962 (by decide) ?_
            exact absurd (Option.some.inj hf) (by decide)
      · have hf := ite_f hf c_144
        refine lv_iconst (v := 0) hx hb dL_law_945 (by decide) ?_
        exact absurd (Option.some.inj hf) (by decide)
def law_B11 (L : Nat) (xs : Nat → Int32) (r23 : Int32 → S2 → S1 → (Nat → Int64) → Option Int32) (y : Int32) (U : S2) (V : S1) (g : Nat → Int64) : Option Int32 := chk (inb (y + 1) L) (bn (f_L_close U g (xs (y + 1).toNatClampNeg)) (fun z_147 => chk (inb (y + 1) L) (bn (f_X7_close V (xs (y + 1).toNatClampNeg)) (fun z_148 => bn (f_X7_thrown z_148.2) (fun z_149 => if z_149 = z_147.1 then if z_147.1 = 0 then if z_148.1 = 0 then if (lg_cmp (z_147.2.2 (0 : Int32).toNatClampNeg) 0) = 0 then r23 (y + 5) z_147.2.1 z_148.2 z_147.2.2 else some 0 else if (lg_cmp (z_147.2.2 (0 : Int32).toNatClampNeg) 1) = 0 then r23 (y + 5) z_147.2.1 z_148.2 z_147.2.2 else some 0 else r23 (y + 5) z_147.2.1 z_148.2 z_147.2.2 else some 0)))))
set_option maxHeartbeats 40000000 in
set_option maxRecDepth 100000 in
theorem law_case11 {p : Program} {l : Launch} {e : Env} {s : State} {m : MethodId} {below : List Frame} {meth : Method} {c : Code} {D : va_G} {cI cZ cJ cT : ClassId} {sb L : Nat} {xs : Nat → Int32} (hst : l.stackTraces = false) (C0 : lw_At p s m meth c sb L xs) (hK : va_K D cls (tys cI cZ cJ cT) s) (hE : EX (fun q : Nat => s.heap.size ≤ q) s) (hNC : NC s) (a : Nat → Nat → Nat) (am : Nat → Nat) (b : Nat) (hDD : ∀ (U : S2) (V : S1) (g : Nat → Int64), va_D (fun q : Nat => s.heap.size ≤ q) (wW cI cZ cJ cT a am b U V g)) (r23 : Int32 → S2 → S1 → (Nat → Int64) → Option Int32) (n : Nat) (ih : ∀ (y : Int32) (U : S2) (V : S1) (g : Nat → Int64) (H : Heap) (locs : List Loc) (ls : Array Slot) (nc ns : Nat), r23 y U V g = some 1 → va_P D cls (wW cI cZ cJ cT a am b U V g) H → va_S (fun q : Nat => s.heap.size ≤ q) s.heap H locs → lv_has ls 7 [(0, .ref sb), (1, .ref (a 0 0)), (2, .ref (am 0)), (3, .ref b), (4, .int y)] → nc + 8 * n ≤ 600002 → ns + 48 * n ≤ 7302232 → nc ≤ 600002 → ns ≤ 7302232 → W p l e room_1 s m #[Value.ref sb] below meth c H locs nc ns (lw_Z below #[Value.ref sb] s) (F0 m 23 ls [])) (y : Int32) (U : S2) (V : S1) (g : Nat → Int64) (H : Heap) (locs : List Loc) (ls : Array Slot) (nc ns : Nat) (hf : law_B11 L xs r23 y U V g = some 1) (hP : va_P D cls (wW cI cZ cJ cT a am b U V g) H) (hS : va_S (fun q : Nat => s.heap.size ≤ q) s.heap H locs) (hl : lv_has ls 7 [(0, .ref sb), (1, .ref (a 0 0)), (2, .ref (am 0)), (3, .ref b), (4, .int y)]) (hc1 : nc + 8 * (n + 1) ≤ 600002) (hc2 : ns + 48 * (n + 1) ≤ 7302232) (hc3 : nc ≤ 600002) (hc4 : ns ≤ 7302232) : W p l e room_1 s m #[Value.ref sb] below meth c H locs nc ns (lw_Z below #[Value.ref sb] s) (F0 m 967 ls []) := by
  obtain ⟨hx, hb, hr, hml, hown, hts, hX, hbl, hlocks, hgv⟩ := id C0
  have hA : ∀ q : Nat, s.heap.size ≤ q → (fun q : Nat => s.heap.size ≤ q) q := fun _ h => h
  have hbA : ¬ (fun q : Nat => s.heap.size ≤ q) sb := Nat.not_le.mpr hbl
  unfold law_B11 at hf
  refine lv_aload_n hx hb dL_law_967 rfl (lv_at hl 1 rfl) ?_
  refine lv_aload_n hx hb dL_law_968 rfl (lv_at hl 0 rfl) ?_
  refine lv_iload hx hb dL_law_969 (lv_at hl 4 rfl) ?_
  refine lv_iconst (v := 1) hx hb dL_law_971 (by decide) ?_
  refine lv_iadd hx hb dL_law_972 ?_
  obtain ⟨hi, hf⟩ := chk_some hf
  refine va_sld hx hb hX hbl hbA hS (inb_in hi) dL_law_973 ?_
  refine lv_aload_n hx hb dL_law_974 rfl (lv_at hl 3 rfl) ?_
  obtain ⟨z_147, hz_147, hf⟩ := bn_some hf
  refine cLS (As := [.ref (a 0 0), .int (xs (y + 1).toNatClampNeg), .ref b]) (rest := []) ⟨hx, hb, hml, hown, hts⟩ (c_L_close l hst D cI cZ cJ cT a b H.size U g (xs (y + 1).toNatClampNeg) z_147 hz_147) (vx_cwSW 3 hts (gM_law (gL_in gL_law_L_close) gLK) rfl rfl rfl (by decide +kernel) ⟨Nat.le_of_ble_eq_true rfl, Nat.le_of_ble_eq_true rfl⟩) (fl_subM hP [0, 2] rfl) hK (fl_subDM (hDD U V g) [0, 2] rfl rfl) hE hNC hS (own_free (fl_subDM (hDD U V g) [0, 2] rfl rfl) hS hA) rfl rfl hl.1 (Nat.le_of_ble_eq_true rfl) dL_law_975 ⟨(by show _ ≤ 600002; omega), (by show _ ≤ 7302232; omega)⟩ (fun H1 locs hP1 hk1 hS => ?_)
  have hP : va_P D cls (wW cI cZ cJ cT a am b z_147.2.1 V z_147.2.2) H1 := fl_joinM (cs' := [wI cI cZ cT a z_147.2.1, [(b, .inl (cJ, 1, .inr (.inl z_147.2.2)))]]) hP (hDD U V g) [0, 2] rfl rfl hk1 hP1
  clear hP1 hk1
  generalize H1 = H at hP hS ⊢
  refine lv_istore (lv' := [(5, .int z_147.1), (0, .ref sb), (1, .ref (a 0 0)), (2, .ref (am 0)), (3, .ref b), (4, .int y)]) hx hb dL_law_978 hl (by decide) rfl (fun ls hl => ?_)
  refine lv_aload_n hx hb dL_law_980 rfl (lv_at hl 3 rfl) ?_
  refine lv_aload_n hx hb dL_law_981 rfl (lv_at hl 1 rfl) ?_
  refine lv_iload hx hb dL_law_982 (lv_at hl 5 rfl) ?_
  refine lv_iconst (v := 1) hx hb dL_law_984 (by decide) ?_
  refine lv_iadd hx hb dL_law_985 ?_
  obtain ⟨hi, hf⟩ := chk_some hf
  refine va_sld hx hb hX hbl hbA hS (inb_in hi) dL_law_986 ?_
  obtain ⟨z_148, hz_148, hf⟩ := bn_some hf
  refine cWVi (As := [.int (xs (y + 1).toNatClampNeg)]) (rest := []) ⟨hx, hb, hml, hown, hts⟩ (c_X7_close l D cI cZ cJ cT am H.size V (xs (y + 1).toNatClampNeg) z_148 hz_148) (cwV 1 hts (gL_in gL_law_X7_close) rfl rfl rfl (by decide +kernel) ⟨Nat.le_of_ble_eq_true rfl, Nat.le_of_ble_eq_true rfl⟩) (fl_sub hP 1 rfl) hK (fl_subD (hDD z_147.2.1 V z_147.2.2) 1 rfl) hS (fl_free (hDD z_147.2.1 V z_147.2.2) hS hA 1 rfl) (va_recv hK (fl_sub hP 1 rfl) (ci := 7) (q0 := 0) rfl rfl) rfl rfl hl.1 (Nat.le_of_ble_eq_true rfl) dL_law_987 ⟨(by show _ ≤ 600002; omega), (by show _ ≤ 7302232; omega)⟩ (fun H1 locs hP1 hk1 hS => ?_)
  have hP : va_P D cls (wW cI cZ cJ cT a am b z_147.2.1 z_148.2 z_147.2.2) H1 := fl_join hP (hDD z_147.2.1 V z_147.2.2) 1 rfl hk1 hP1
  clear hP1 hk1
  generalize H1 = H at hP hS ⊢
  refine lv_istore (lv' := [(6, .int z_148.1), (5, .int z_147.1), (0, .ref sb), (1, .ref (a 0 0)), (2, .ref (am 0)), (3, .ref b), (4, .int y)]) hx hb dL_law_990 hl (by decide) rfl (fun ls hl => ?_)
  refine lv_aload_n hx hb dL_law_992 rfl (lv_at hl 4 rfl) ?_
  obtain ⟨z_149, hz_149, hf⟩ := bn_some hf
  refine cRV (As := []) (rest := []) ⟨hx, hb, hml, hown, hts⟩ (c_X7_thrown l D cI cZ cJ cT am z_148.2 z_149 hz_149) (cwV 0 hts (gL_in gL_law_X7_thrown) rfl rfl rfl (by decide +kernel) ⟨Nat.le_of_ble_eq_true rfl, Nat.le_of_ble_eq_true rfl⟩) (fl_sub hP 1 rfl) hK (va_recv hK (fl_sub hP 1 rfl) (ci := 7) (q0 := 0) rfl rfl) rfl rfl hl.1 (Nat.le_of_ble_eq_true rfl) dL_law_993 ⟨(by show _ ≤ 600002; omega), (by show _ ≤ 7302232; omega)⟩ ?_
  refine lv_iload hx hb dL_law_996 (lv_at hl 1 rfl) ?_
  refine lv_icmp_eq (tgt := 1003) hx hb dL_law_998 (by decide) (fun c_150 => ?_) (fun c_150 => ?_)
  · have hf := ite_t hf c_150
    refine lv_iload hx hb dL_law_1003 (lv_at hl 1 rfl) ?_
    refine lv_if_ne (tgt := 1027) hx hb dL_law_1005 (by decide) (fun c_151 => ?_) (fun c_151 => ?_)
    · have hf := ite_f hf c_151
      refine lv_goto (tgt := 2630) hx hb dL_law_1027 (by decide) ?_
      refine lv_iinc (v := y + 5) (lv' := [(4, .int (y + 5)), (6, .int z_148.1), (5, .int z_147.1), (0, .ref sb), (1, .ref (a 0 0)), (2, .ref (am 0)), (3, .ref b)]) hx hb dL_law_2630 hl (k := 6) rfl rfl (by decide) rfl (fun ls hl => ?_)
      refine lv_goto (tgt := 23) hx hb dL_law_2633 (by decide) ?_
      exact ih _ _ _ _ _ _ _ _ _ hf hP hS (lv_sub hl [3, 4, 5, 6, 0] rfl) (by omega) (by omega) (by omega) (by omega)
    · have hf := ite_t hf c_151
      refine lv_aload_n hx hb dL_law_1008 rfl (lv_at hl 5 rfl) ?_
      refine lv_iconst (v := 0) hx hb dL_law_1009 (by decide) ?_
      refine va_lald hx hb hK hP 100 2 rfl rfl (inb_in (i := 0) (n := 1) (by decide)) dL_law_1010 ?_
      refine lv_iload hx hb dL_law_1011 (lv_at hl 0 rfl) ?_
      refine lv_if_eq (tgt := 1020) hx hb dL_law_1013 (by decide) (fun c_152 => ?_) (fun c_152 => ?_)
      · have hf := ite_t hf c_152
        refine lv_lconst (v := 0) hx hb dL_law_1020 (by decide) ?_
        refine W.lcmp hx hb dL_law_1021 ?_
        refine lv_if_eq (tgt := 1027) hx hb dL_law_1022 (by decide) (fun c_153 => ?_) (fun c_153 => ?_)
        · have hf := ite_t hf c_153
          refine lv_goto (tgt := 2630) hx hb dL_law_1027 (by decide) ?_
          refine lv_iinc (v := y + 5) (lv' := [(4, .int (y + 5)), (6, .int z_148.1), (5, .int z_147.1), (0, .ref sb), (1, .ref (a 0 0)), (2, .ref (am 0)), (3, .ref b)]) hx hb dL_law_2630 hl (k := 6) rfl rfl (by decide) rfl (fun ls hl => ?_)
          refine lv_goto (tgt := 23) hx hb dL_law_2633 (by decide) ?_
          exact ih _ _ _ _ _ _ _ _ _ hf hP hS (lv_sub hl [3, 4, 5, 6, 0] rfl) (by omega) (by omega) (by omega) (by omega)
        · have hf := ite_f hf c_153
          refine lv_iconst (v := 0) hx hb dL_law_1025 (by decide) ?_
          exact absurd (Option.some.inj hf) (by decide)
      · have hf := ite_f hf c_152
        refine lv_lconst (v := 1) hx hb dL_law_1016 (by decide) ?_
        refine lv_goto (tgt := 1021) hx hb dL_law_1017 (by decide) ?_
        refine W.lcmp hx hb dL_law_1021 ?_
        refine lv_if_eq (tgt := 1027) hx hb dL_law_1022 (by decide) (fun c_154 => ?_) (fun c_154 => ?_)
        · have hf := ite_t hf c_154
          refine lv_goto (tgt := 2630) hx hb dL_law_1027 (by decide) ?_
          refine lv_iinc (v := y + 5) (lv' := [(4, .int (y + 5)), (6, .int z_148.1), (5, .int z_147.1), (0, .ref sb), (1, .ref (a 0 0)), (2, .ref (am 0)), (3, .ref b)]) hx hb dL_law_2630 hl (k := 6) rfl rfl (by decide) rfl (fun ls hl => ?_)
          refine lv_goto (tgt := 23) hx hb dL_law_2633 (by decide) ?_
          exact ih _ _ _ _ _ _ _ _ _ hf hP hS (lv_sub hl [3, 4, 5, 6, 0] rfl) (by omega) (by omega) (by omega) (by omega)
        · have hf := ite_f hf c_154
          refine lv_iconst (v := 0) hx hb dL_law_1025 (by decide) ?_
          exact absurd (Option.some.inj hf) (by decide)
  · have hf := ite_f hf c_150
    refine lv_iconst (v := 0) hx hb dL_law_1001 (by decide) ?_
    exact absurd (Option.some.inj hf) (by decide)
def law_B12 (L : Nat) (xs : Nat → Int32) (r23 : Int32 → S2 → S1 → (Nat → Int64) → Option Int32) (y : Int32) (U : S2) (V : S1) (g : Nat → Int64) : Option Int32 := chk (inb (y + 1) L) (chk (inb (y + 2) L) (chk (inb (y + 3) L) (bn (f_L_write U g (xs (y + 1).toNatClampNeg) (xs (y + 2).toNatClampNeg) (xs (y + 3).toNatClampNeg)) (fun z_155 => chk (inb (y + 1) L) (chk (inb (y + 2) L) (chk (inb (y + 3) L) (bn (f_X7_write V (xs (y + 1).toNatClampNeg) (xs (y + 2).toNatClampNeg) (xs (y + 3).toNatClampNeg)) (fun z_156 => bn (f_X7_thrown z_156.2) (fun z_157 => if z_157 = z_155.1 then if z_155.1 = 0 then if (lg_cmp (z_155.2.2 (0 : Int32).toNatClampNeg) z_156.1.toInt64) = 0 then r23 (y + 5) z_155.2.1 z_156.2 z_155.2.2 else some 0 else r23 (y + 5) z_155.2.1 z_156.2 z_155.2.2 else some 0)))))))))
set_option maxHeartbeats 40000000 in
set_option maxRecDepth 100000 in
theorem law_case12 {p : Program} {l : Launch} {e : Env} {s : State} {m : MethodId} {below : List Frame} {meth : Method} {c : Code} {D : va_G} {cI cZ cJ cT : ClassId} {sb L : Nat} {xs : Nat → Int32} (hst : l.stackTraces = false) (C0 : lw_At p s m meth c sb L xs) (hK : va_K D cls (tys cI cZ cJ cT) s) (hE : EX (fun q : Nat => s.heap.size ≤ q) s) (hNC : NC s) (a : Nat → Nat → Nat) (am : Nat → Nat) (b : Nat) (hDD : ∀ (U : S2) (V : S1) (g : Nat → Int64), va_D (fun q : Nat => s.heap.size ≤ q) (wW cI cZ cJ cT a am b U V g)) (r23 : Int32 → S2 → S1 → (Nat → Int64) → Option Int32) (n : Nat) (ih : ∀ (y : Int32) (U : S2) (V : S1) (g : Nat → Int64) (H : Heap) (locs : List Loc) (ls : Array Slot) (nc ns : Nat), r23 y U V g = some 1 → va_P D cls (wW cI cZ cJ cT a am b U V g) H → va_S (fun q : Nat => s.heap.size ≤ q) s.heap H locs → lv_has ls 7 [(0, .ref sb), (1, .ref (a 0 0)), (2, .ref (am 0)), (3, .ref b), (4, .int y)] → nc + 8 * n ≤ 600002 → ns + 48 * n ≤ 7302232 → nc ≤ 600002 → ns ≤ 7302232 → W p l e room_1 s m #[Value.ref sb] below meth c H locs nc ns (lw_Z below #[Value.ref sb] s) (F0 m 23 ls [])) (y : Int32) (U : S2) (V : S1) (g : Nat → Int64) (H : Heap) (locs : List Loc) (ls : Array Slot) (nc ns : Nat) (hf : law_B12 L xs r23 y U V g = some 1) (hP : va_P D cls (wW cI cZ cJ cT a am b U V g) H) (hS : va_S (fun q : Nat => s.heap.size ≤ q) s.heap H locs) (hl : lv_has ls 7 [(0, .ref sb), (1, .ref (a 0 0)), (2, .ref (am 0)), (3, .ref b), (4, .int y)]) (hc1 : nc + 8 * (n + 1) ≤ 600002) (hc2 : ns + 48 * (n + 1) ≤ 7302232) (hc3 : nc ≤ 600002) (hc4 : ns ≤ 7302232) : W p l e room_1 s m #[Value.ref sb] below meth c H locs nc ns (lw_Z below #[Value.ref sb] s) (F0 m 1030 ls []) := by
  obtain ⟨hx, hb, hr, hml, hown, hts, hX, hbl, hlocks, hgv⟩ := id C0
  have hA : ∀ q : Nat, s.heap.size ≤ q → (fun q : Nat => s.heap.size ≤ q) q := fun _ h => h
  have hbA : ¬ (fun q : Nat => s.heap.size ≤ q) sb := Nat.not_le.mpr hbl
  unfold law_B12 at hf
  refine lv_aload_n hx hb dL_law_1030 rfl (lv_at hl 1 rfl) ?_
  refine lv_aload_n hx hb dL_law_1031 rfl (lv_at hl 0 rfl) ?_
  refine lv_iload hx hb dL_law_1032 (lv_at hl 4 rfl) ?_
  refine lv_iconst (v := 1) hx hb dL_law_1034 (by decide) ?_
  refine lv_iadd hx hb dL_law_1035 ?_
  obtain ⟨hi, hf⟩ := chk_some hf
  refine va_sld hx hb hX hbl hbA hS (inb_in hi) dL_law_1036 ?_
  refine lv_aload_n hx hb dL_law_1037 rfl (lv_at hl 0 rfl) ?_
  refine lv_iload hx hb dL_law_1038 (lv_at hl 4 rfl) ?_
  refine lv_iconst (v := 2) hx hb dL_law_1040 (by decide) ?_
  refine lv_iadd hx hb dL_law_1041 ?_
  obtain ⟨hi, hf⟩ := chk_some hf
  refine va_sld hx hb hX hbl hbA hS (inb_in hi) dL_law_1042 ?_
  refine lv_aload_n hx hb dL_law_1043 rfl (lv_at hl 0 rfl) ?_
  refine lv_iload hx hb dL_law_1044 (lv_at hl 4 rfl) ?_
  refine lv_iconst (v := 3) hx hb dL_law_1046 (by decide) ?_
  refine lv_iadd hx hb dL_law_1047 ?_
  obtain ⟨hi, hf⟩ := chk_some hf
  refine va_sld hx hb hX hbl hbA hS (inb_in hi) dL_law_1048 ?_
  refine lv_aload_n hx hb dL_law_1049 rfl (lv_at hl 3 rfl) ?_
  obtain ⟨z_155, hz_155, hf⟩ := bn_some hf
  refine cLS (As := [.ref (a 0 0), .int (xs (y + 1).toNatClampNeg), .int (xs (y + 2).toNatClampNeg), .int (xs (y + 3).toNatClampNeg), .ref b]) (rest := []) ⟨hx, hb, hml, hown, hts⟩ (c_L_write l hst D cI cZ cJ cT a b H.size U g (xs (y + 1).toNatClampNeg) (xs (y + 2).toNatClampNeg) (xs (y + 3).toNatClampNeg) z_155 hz_155) (vx_cwSW 5 hts (gM_law (gL_in gL_law_L_write) gLK) rfl rfl rfl (by decide +kernel) ⟨Nat.le_of_ble_eq_true rfl, Nat.le_of_ble_eq_true rfl⟩) (fl_subM hP [0, 2] rfl) hK (fl_subDM (hDD U V g) [0, 2] rfl rfl) hE hNC hS (own_free (fl_subDM (hDD U V g) [0, 2] rfl rfl) hS hA) rfl rfl hl.1 (Nat.le_of_ble_eq_true rfl) dL_law_1050 ⟨(by show _ ≤ 600002; omega), (by show _ ≤ 7302232; omega)⟩ (fun H1 locs hP1 hk1 hS => ?_)
  have hP : va_P D cls (wW cI cZ cJ cT a am b z_155.2.1 V z_155.2.2) H1 := fl_joinM (cs' := [wI cI cZ cT a z_155.2.1, [(b, .inl (cJ, 1, .inr (.inl z_155.2.2)))]]) hP (hDD U V g) [0, 2] rfl rfl hk1 hP1
  clear hP1 hk1
  generalize H1 = H at hP hS ⊢
  refine lv_istore (lv' := [(5, .int z_155.1), (0, .ref sb), (1, .ref (a 0 0)), (2, .ref (am 0)), (3, .ref b), (4, .int y)]) hx hb dL_law_1053 hl (by decide) rfl (fun ls hl => ?_)
  refine lv_aload_n hx hb dL_law_1055 rfl (lv_at hl 3 rfl) ?_
  refine lv_aload_n hx hb dL_law_1056 rfl (lv_at hl 1 rfl) ?_
  refine lv_iload hx hb dL_law_1057 (lv_at hl 5 rfl) ?_
  refine lv_iconst (v := 1) hx hb dL_law_1059 (by decide) ?_
  refine lv_iadd hx hb dL_law_1060 ?_
  obtain ⟨hi, hf⟩ := chk_some hf
  refine va_sld hx hb hX hbl hbA hS (inb_in hi) dL_law_1061 ?_
  refine lv_aload_n hx hb dL_law_1062 rfl (lv_at hl 1 rfl) ?_
  refine lv_iload hx hb dL_law_1063 (lv_at hl 5 rfl) ?_
  refine lv_iconst (v := 2) hx hb dL_law_1065 (by decide) ?_
  refine lv_iadd hx hb dL_law_1066 ?_
  obtain ⟨hi, hf⟩ := chk_some hf
  refine va_sld hx hb hX hbl hbA hS (inb_in hi) dL_law_1067 ?_
  refine lv_aload_n hx hb dL_law_1068 rfl (lv_at hl 1 rfl) ?_
  refine lv_iload hx hb dL_law_1069 (lv_at hl 5 rfl) ?_
  refine lv_iconst (v := 3) hx hb dL_law_1071 (by decide) ?_
  refine lv_iadd hx hb dL_law_1072 ?_
  obtain ⟨hi, hf⟩ := chk_some hf
  refine va_sld hx hb hX hbl hbA hS (inb_in hi) dL_law_1073 ?_
  obtain ⟨z_156, hz_156, hf⟩ := bn_some hf
  refine cWVi (As := [.int (xs (y + 1).toNatClampNeg), .int (xs (y + 2).toNatClampNeg), .int (xs (y + 3).toNatClampNeg)]) (rest := []) ⟨hx, hb, hml, hown, hts⟩ (c_X7_write l D cI cZ cJ cT am H.size V (xs (y + 1).toNatClampNeg) (xs (y + 2).toNatClampNeg) (xs (y + 3).toNatClampNeg) z_156 hz_156) (cwV 3 hts (gL_in gL_law_X7_write) rfl rfl rfl (by decide +kernel) ⟨Nat.le_of_ble_eq_true rfl, Nat.le_of_ble_eq_true rfl⟩) (fl_sub hP 1 rfl) hK (fl_subD (hDD z_155.2.1 V z_155.2.2) 1 rfl) hS (fl_free (hDD z_155.2.1 V z_155.2.2) hS hA 1 rfl) (va_recv hK (fl_sub hP 1 rfl) (ci := 7) (q0 := 0) rfl rfl) rfl rfl hl.1 (Nat.le_of_ble_eq_true rfl) dL_law_1074 ⟨(by show _ ≤ 600002; omega), (by show _ ≤ 7302232; omega)⟩ (fun H1 locs hP1 hk1 hS => ?_)
  have hP : va_P D cls (wW cI cZ cJ cT a am b z_155.2.1 z_156.2 z_155.2.2) H1 := fl_join hP (hDD z_155.2.1 V z_155.2.2) 1 rfl hk1 hP1
  clear hP1 hk1
  generalize H1 = H at hP hS ⊢
  refine lv_istore (lv' := [(6, .int z_156.1), (5, .int z_155.1), (0, .ref sb), (1, .ref (a 0 0)), (2, .ref (am 0)), (3, .ref b), (4, .int y)]) hx hb dL_law_1077 hl (by decide) rfl (fun ls hl => ?_)
  refine lv_aload_n hx hb dL_law_1079 rfl (lv_at hl 4 rfl) ?_
  obtain ⟨z_157, hz_157, hf⟩ := bn_some hf
  refine cRV (As := []) (rest := []) ⟨hx, hb, hml, hown, hts⟩ (c_X7_thrown l D cI cZ cJ cT am z_156.2 z_157 hz_157) (cwV 0 hts (gL_in gL_law_X7_thrown) rfl rfl rfl (by decide +kernel) ⟨Nat.le_of_ble_eq_true rfl, Nat.le_of_ble_eq_true rfl⟩) (fl_sub hP 1 rfl) hK (va_recv hK (fl_sub hP 1 rfl) (ci := 7) (q0 := 0) rfl rfl) rfl rfl hl.1 (Nat.le_of_ble_eq_true rfl) dL_law_1080 ⟨(by show _ ≤ 600002; omega), (by show _ ≤ 7302232; omega)⟩ ?_
  refine lv_iload hx hb dL_law_1083 (lv_at hl 1 rfl) ?_
  refine lv_icmp_eq (tgt := 1090) hx hb dL_law_1085 (by decide) (fun c_158 => ?_) (fun c_158 => ?_)
  · have hf := ite_t hf c_158
    refine lv_iload hx hb dL_law_1090 (lv_at hl 1 rfl) ?_
    refine lv_if_ne (tgt := 1107) hx hb dL_law_1092 (by decide) (fun c_159 => ?_) (fun c_159 => ?_)
    · have hf := ite_f hf c_159
      refine lv_goto (tgt := 2630) hx hb dL_law_1107 (by decide) ?_
      refine lv_iinc (v := y + 5) (lv' := [(4, .int (y + 5)), (6, .int z_156.1), (5, .int z_155.1), (0, .ref sb), (1, .ref (a 0 0)), (2, .ref (am 0)), (3, .ref b)]) hx hb dL_law_2630 hl (k := 6) rfl rfl (by decide) rfl (fun ls hl => ?_)
      refine lv_goto (tgt := 23) hx hb dL_law_2633 (by decide) ?_
      exact ih _ _ _ _ _ _ _ _ _ hf hP hS (lv_sub hl [3, 4, 5, 6, 0] rfl) (by omega) (by omega) (by omega) (by omega)
    · have hf := ite_t hf c_159
      refine lv_aload_n hx hb dL_law_1095 rfl (lv_at hl 5 rfl) ?_
      refine lv_iconst (v := 0) hx hb dL_law_1096 (by decide) ?_
      refine va_lald hx hb hK hP 100 2 rfl rfl (inb_in (i := 0) (n := 1) (by decide)) dL_law_1097 ?_
      refine lv_iload hx hb dL_law_1098 (lv_at hl 0 rfl) ?_
      refine lv_i2l (v := z_156.1.toInt64) hx hb dL_law_1100 rfl ?_
      refine W.lcmp hx hb dL_law_1101 ?_
      refine lv_if_eq (tgt := 1107) hx hb dL_law_1102 (by decide) (fun c_160 => ?_) (fun c_160 => ?_)
      · have hf := ite_t hf c_160
        refine lv_goto (tgt := 2630) hx hb dL_law_1107 (by decide) ?_
        refine lv_iinc (v := y + 5) (lv' := [(4, .int (y + 5)), (6, .int z_156.1), (5, .int z_155.1), (0, .ref sb), (1, .ref (a 0 0)), (2, .ref (am 0)), (3, .ref b)]) hx hb dL_law_2630 hl (k := 6) rfl rfl (by decide) rfl (fun ls hl => ?_)
        refine lv_goto (tgt := 23) hx hb dL_law_2633 (by decide) ?_
        exact ih _ _ _ _ _ _ _ _ _ hf hP hS (lv_sub hl [3, 4, 5, 6, 0] rfl) (by omega) (by omega) (by omega) (by omega)
      · have hf := ite_f hf c_160
        refine lv_iconst (v := 0) hx hb dL_law_1105 (by decide) ?_
        exact absurd (Option.some.inj hf) (by decide)
  · have hf := ite_f hf c_158
    refine lv_iconst (v := 0) hx hb dL_law_1088 (by decide) ?_
    exact absurd (Option.some.inj hf) (by decide)
def law_B13 (L : Nat) (xs : Nat → Int32) (r23 : Int32 → S2 → S1 → (Nat → Int64) → Option Int32) (y : Int32) (U : S2) (V : S1) (g : Nat → Int64) : Option Int32 := chk (inb (y + 1) L) (chk (inb (y + 2) L) (bn (f_L_read U g (xs (y + 1).toNatClampNeg) (xs (y + 2).toNatClampNeg)) (fun z_161 => chk (inb (y + 1) L) (chk (inb (y + 2) L) (bn (f_X7_read V (xs (y + 1).toNatClampNeg) (xs (y + 2).toNatClampNeg)) (fun z_162 => bn (f_X7_thrown z_162.2) (fun z_163 => if z_163 = z_161.1 then if z_161.1 = 0 then if (lg_cmp (z_161.2.2 (0 : Int32).toNatClampNeg) z_162.1.toInt64) = 0 then r23 (y + 5) z_161.2.1 z_162.2 z_161.2.2 else some 0 else r23 (y + 5) z_161.2.1 z_162.2 z_161.2.2 else some 0)))))))
set_option maxHeartbeats 40000000 in
set_option maxRecDepth 100000 in
theorem law_case13 {p : Program} {l : Launch} {e : Env} {s : State} {m : MethodId} {below : List Frame} {meth : Method} {c : Code} {D : va_G} {cI cZ cJ cT : ClassId} {sb L : Nat} {xs : Nat → Int32} (hst : l.stackTraces = false) (C0 : lw_At p s m meth c sb L xs) (hK : va_K D cls (tys cI cZ cJ cT) s) (hE : EX (fun q : Nat => s.heap.size ≤ q) s) (hNC : NC s) (a : Nat → Nat → Nat) (am : Nat → Nat) (b : Nat) (hDD : ∀ (U : S2) (V : S1) (g : Nat → Int64), va_D (fun q : Nat => s.heap.size ≤ q) (wW cI cZ cJ cT a am b U V g)) (r23 : Int32 → S2 → S1 → (Nat → Int64) → Option Int32) (n : Nat) (ih : ∀ (y : Int32) (U : S2) (V : S1) (g : Nat → Int64) (H : Heap) (locs : List Loc) (ls : Array Slot) (nc ns : Nat), r23 y U V g = some 1 → va_P D cls (wW cI cZ cJ cT a am b U V g) H → va_S (fun q : Nat => s.heap.size ≤ q) s.heap H locs → lv_has ls 7 [(0, .ref sb), (1, .ref (a 0 0)), (2, .ref (am 0)), (3, .ref b), (4, .int y)] → nc + 8 * n ≤ 600002 → ns + 48 * n ≤ 7302232 → nc ≤ 600002 → ns ≤ 7302232 → W p l e room_1 s m #[Value.ref sb] below meth c H locs nc ns (lw_Z below #[Value.ref sb] s) (F0 m 23 ls [])) (y : Int32) (U : S2) (V : S1) (g : Nat → Int64) (H : Heap) (locs : List Loc) (ls : Array Slot) (nc ns : Nat) (hf : law_B13 L xs r23 y U V g = some 1) (hP : va_P D cls (wW cI cZ cJ cT a am b U V g) H) (hS : va_S (fun q : Nat => s.heap.size ≤ q) s.heap H locs) (hl : lv_has ls 7 [(0, .ref sb), (1, .ref (a 0 0)), (2, .ref (am 0)), (3, .ref b), (4, .int y)]) (hc1 : nc + 8 * (n + 1) ≤ 600002) (hc2 : ns + 48 * (n + 1) ≤ 7302232) (hc3 : nc ≤ 600002) (hc4 : ns ≤ 7302232) : W p l e room_1 s m #[Value.ref sb] below meth c H locs nc ns (lw_Z below #[Value.ref sb] s) (F0 m 1110 ls []) := by
  obtain ⟨hx, hb, hr, hml, hown, hts, hX, hbl, hlocks, hgv⟩ := id C0
  have hA : ∀ q : Nat, s.heap.size ≤ q → (fun q : Nat => s.heap.size ≤ q) q := fun _ h => h
  have hbA : ¬ (fun q : Nat => s.heap.size ≤ q) sb := Nat.not_le.mpr hbl
  unfold law_B13 at hf
  refine lv_aload_n hx hb dL_law_1110 rfl (lv_at hl 1 rfl) ?_
  refine lv_aload_n hx hb dL_law_1111 rfl (lv_at hl 0 rfl) ?_
  refine lv_iload hx hb dL_law_1112 (lv_at hl 4 rfl) ?_
  refine lv_iconst (v := 1) hx hb dL_law_1114 (by decide) ?_
  refine lv_iadd hx hb dL_law_1115 ?_
  obtain ⟨hi, hf⟩ := chk_some hf
  refine va_sld hx hb hX hbl hbA hS (inb_in hi) dL_law_1116 ?_
  refine lv_aload_n hx hb dL_law_1117 rfl (lv_at hl 0 rfl) ?_
  refine lv_iload hx hb dL_law_1118 (lv_at hl 4 rfl) ?_
  refine lv_iconst (v := 2) hx hb dL_law_1120 (by decide) ?_
  refine lv_iadd hx hb dL_law_1121 ?_
  obtain ⟨hi, hf⟩ := chk_some hf
  refine va_sld hx hb hX hbl hbA hS (inb_in hi) dL_law_1122 ?_
  refine lv_aload_n hx hb dL_law_1123 rfl (lv_at hl 3 rfl) ?_
  obtain ⟨z_161, hz_161, hf⟩ := bn_some hf
  refine cLS (As := [.ref (a 0 0), .int (xs (y + 1).toNatClampNeg), .int (xs (y + 2).toNatClampNeg), .ref b]) (rest := []) ⟨hx, hb, hml, hown, hts⟩ (c_L_read l hst D cI cZ cJ cT a b H.size U g (xs (y + 1).toNatClampNeg) (xs (y + 2).toNatClampNeg) z_161 hz_161) (vx_cwSW 4 hts (gM_law (gL_in gL_law_L_read) gLK) rfl rfl rfl (by decide +kernel) ⟨Nat.le_of_ble_eq_true rfl, Nat.le_of_ble_eq_true rfl⟩) (fl_subM hP [0, 2] rfl) hK (fl_subDM (hDD U V g) [0, 2] rfl rfl) hE hNC hS (own_free (fl_subDM (hDD U V g) [0, 2] rfl rfl) hS hA) rfl rfl hl.1 (Nat.le_of_ble_eq_true rfl) dL_law_1124 ⟨(by show _ ≤ 600002; omega), (by show _ ≤ 7302232; omega)⟩ (fun H1 locs hP1 hk1 hS => ?_)
  have hP : va_P D cls (wW cI cZ cJ cT a am b z_161.2.1 V z_161.2.2) H1 := fl_joinM (cs' := [wI cI cZ cT a z_161.2.1, [(b, .inl (cJ, 1, .inr (.inl z_161.2.2)))]]) hP (hDD U V g) [0, 2] rfl rfl hk1 hP1
  clear hP1 hk1
  generalize H1 = H at hP hS ⊢
  refine lv_istore (lv' := [(5, .int z_161.1), (0, .ref sb), (1, .ref (a 0 0)), (2, .ref (am 0)), (3, .ref b), (4, .int y)]) hx hb dL_law_1127 hl (by decide) rfl (fun ls hl => ?_)
  refine lv_aload_n hx hb dL_law_1129 rfl (lv_at hl 3 rfl) ?_
  refine lv_aload_n hx hb dL_law_1130 rfl (lv_at hl 1 rfl) ?_
  refine lv_iload hx hb dL_law_1131 (lv_at hl 5 rfl) ?_
  refine lv_iconst (v := 1) hx hb dL_law_1133 (by decide) ?_
  refine lv_iadd hx hb dL_law_1134 ?_
  obtain ⟨hi, hf⟩ := chk_some hf
  refine va_sld hx hb hX hbl hbA hS (inb_in hi) dL_law_1135 ?_
  refine lv_aload_n hx hb dL_law_1136 rfl (lv_at hl 1 rfl) ?_
  refine lv_iload hx hb dL_law_1137 (lv_at hl 5 rfl) ?_
  refine lv_iconst (v := 2) hx hb dL_law_1139 (by decide) ?_
  refine lv_iadd hx hb dL_law_1140 ?_
  obtain ⟨hi, hf⟩ := chk_some hf
  refine va_sld hx hb hX hbl hbA hS (inb_in hi) dL_law_1141 ?_
  obtain ⟨z_162, hz_162, hf⟩ := bn_some hf
  refine cWVi (As := [.int (xs (y + 1).toNatClampNeg), .int (xs (y + 2).toNatClampNeg)]) (rest := []) ⟨hx, hb, hml, hown, hts⟩ (c_X7_read l D cI cZ cJ cT am H.size V (xs (y + 1).toNatClampNeg) (xs (y + 2).toNatClampNeg) z_162 hz_162) (cwV 2 hts (gL_in gL_law_X7_read) rfl rfl rfl (by decide +kernel) ⟨Nat.le_of_ble_eq_true rfl, Nat.le_of_ble_eq_true rfl⟩) (fl_sub hP 1 rfl) hK (fl_subD (hDD z_161.2.1 V z_161.2.2) 1 rfl) hS (fl_free (hDD z_161.2.1 V z_161.2.2) hS hA 1 rfl) (va_recv hK (fl_sub hP 1 rfl) (ci := 7) (q0 := 0) rfl rfl) rfl rfl hl.1 (Nat.le_of_ble_eq_true rfl) dL_law_1142 ⟨(by show _ ≤ 600002; omega), (by show _ ≤ 7302232; omega)⟩ (fun H1 locs hP1 hk1 hS => ?_)
  have hP : va_P D cls (wW cI cZ cJ cT a am b z_161.2.1 z_162.2 z_161.2.2) H1 := fl_join hP (hDD z_161.2.1 V z_161.2.2) 1 rfl hk1 hP1
  clear hP1 hk1
  generalize H1 = H at hP hS ⊢
  refine lv_istore (lv' := [(6, .int z_162.1), (5, .int z_161.1), (0, .ref sb), (1, .ref (a 0 0)), (2, .ref (am 0)), (3, .ref b), (4, .int y)]) hx hb dL_law_1145 hl (by decide) rfl (fun ls hl => ?_)
  refine lv_aload_n hx hb dL_law_1147 rfl (lv_at hl 4 rfl) ?_
  obtain ⟨z_163, hz_163, hf⟩ := bn_some hf
  refine cRV (As := []) (rest := []) ⟨hx, hb, hml, hown, hts⟩ (c_X7_thrown l D cI cZ cJ cT am z_162.2 z_163 hz_163) (cwV 0 hts (gL_in gL_law_X7_thrown) rfl rfl rfl (by decide +kernel) ⟨Nat.le_of_ble_eq_true rfl, Nat.le_of_ble_eq_true rfl⟩) (fl_sub hP 1 rfl) hK (va_recv hK (fl_sub hP 1 rfl) (ci := 7) (q0 := 0) rfl rfl) rfl rfl hl.1 (Nat.le_of_ble_eq_true rfl) dL_law_1148 ⟨(by show _ ≤ 600002; omega), (by show _ ≤ 7302232; omega)⟩ ?_
  refine lv_iload hx hb dL_law_1151 (lv_at hl 1 rfl) ?_
  refine lv_icmp_eq (tgt := 1158) hx hb dL_law_1153 (by decide) (fun c_164 => ?_) (fun c_164 => ?_)
  · have hf := ite_t hf c_164
    refine lv_iload hx hb dL_law_1158 (lv_at hl 1 rfl) ?_
    refine lv_if_ne (tgt := 1175) hx hb dL_law_1160 (by decide) (fun c_165 => ?_) (fun c_165 => ?_)
    · have hf := ite_f hf c_165
      refine lv_goto (tgt := 2630) hx hb dL_law_1175 (by decide) ?_
      refine lv_iinc (v := y + 5) (lv' := [(4, .int (y + 5)), (6, .int z_162.1), (5, .int z_161.1), (0, .ref sb), (1, .ref (a 0 0)), (2, .ref (am 0)), (3, .ref b)]) hx hb dL_law_2630 hl (k := 6) rfl rfl (by decide) rfl (fun ls hl => ?_)
      refine lv_goto (tgt := 23) hx hb dL_law_2633 (by decide) ?_
      exact ih _ _ _ _ _ _ _ _ _ hf hP hS (lv_sub hl [3, 4, 5, 6, 0] rfl) (by omega) (by omega) (by omega) (by omega)
    · have hf := ite_t hf c_165
      refine lv_aload_n hx hb dL_law_1163 rfl (lv_at hl 5 rfl) ?_
      refine lv_iconst (v := 0) hx hb dL_law_1164 (by decide) ?_
      refine va_lald hx hb hK hP 100 2 rfl rfl (inb_in (i := 0) (n := 1) (by decide)) dL_law_1165 ?_
      refine lv_iload hx hb dL_law_1166 (lv_at hl 0 rfl) ?_
      refine lv_i2l (v := z_162.1.toInt64) hx hb dL_law_1168 rfl ?_
      refine W.lcmp hx hb dL_law_1169 ?_
      refine lv_if_eq (tgt := 1175) hx hb dL_law_1170 (by decide) (fun c_166 => ?_) (fun c_166 => ?_)
      · have hf := ite_t hf c_166
        refine lv_goto (tgt := 2630) hx hb dL_law_1175 (by decide) ?_
        refine lv_iinc (v := y + 5) (lv' := [(4, .int (y + 5)), (6, .int z_162.1), (5, .int z_161.1), (0, .ref sb), (1, .ref (a 0 0)), (2, .ref (am 0)), (3, .ref b)]) hx hb dL_law_2630 hl (k := 6) rfl rfl (by decide) rfl (fun ls hl => ?_)
        refine lv_goto (tgt := 23) hx hb dL_law_2633 (by decide) ?_
        exact ih _ _ _ _ _ _ _ _ _ hf hP hS (lv_sub hl [3, 4, 5, 6, 0] rfl) (by omega) (by omega) (by omega) (by omega)
      · have hf := ite_f hf c_166
        refine lv_iconst (v := 0) hx hb dL_law_1173 (by decide) ?_
        exact absurd (Option.some.inj hf) (by decide)
  · have hf := ite_f hf c_164
    refine lv_iconst (v := 0) hx hb dL_law_1156 (by decide) ?_
    exact absurd (Option.some.inj hf) (by decide)
def law_B14 (L : Nat) (xs : Nat → Int32) (r23 : Int32 → S2 → S1 → (Nat → Int64) → Option Int32) (y : Int32) (U : S2) (V : S1) (g : Nat → Int64) : Option Int32 := chk (inb (y + 1) L) (chk (inb (y + 2) L) (chk (inb (y + 3) L) (bn (f_L_ahead U g (xs (y + 1).toNatClampNeg) (xs (y + 2).toNatClampNeg) (xs (y + 3).toNatClampNeg)) (fun z_167 => chk (inb (y + 1) L) (chk (inb (y + 2) L) (chk (inb (y + 3) L) (bn (f_X7_ahead V (xs (y + 1).toNatClampNeg) (xs (y + 2).toNatClampNeg) (xs (y + 3).toNatClampNeg)) (fun z_168 => bn (f_X7_thrown z_168.2) (fun z_169 => if z_169 = z_167.1 then if z_167.1 = 0 then if (lg_cmp (z_167.2.2 (0 : Int32).toNatClampNeg) z_168.1.toInt64) = 0 then r23 (y + 5) z_167.2.1 z_168.2 z_167.2.2 else some 0 else r23 (y + 5) z_167.2.1 z_168.2 z_167.2.2 else some 0)))))))))
set_option maxHeartbeats 40000000 in
set_option maxRecDepth 100000 in
theorem law_case14 {p : Program} {l : Launch} {e : Env} {s : State} {m : MethodId} {below : List Frame} {meth : Method} {c : Code} {D : va_G} {cI cZ cJ cT : ClassId} {sb L : Nat} {xs : Nat → Int32} (hst : l.stackTraces = false) (C0 : lw_At p s m meth c sb L xs) (hK : va_K D cls (tys cI cZ cJ cT) s) (hE : EX (fun q : Nat => s.heap.size ≤ q) s) (hNC : NC s) (a : Nat → Nat → Nat) (am : Nat → Nat) (b : Nat) (hDD : ∀ (U : S2) (V : S1) (g : Nat → Int64), va_D (fun q : Nat => s.heap.size ≤ q) (wW cI cZ cJ cT a am b U V g)) (r23 : Int32 → S2 → S1 → (Nat → Int64) → Option Int32) (n : Nat) (ih : ∀ (y : Int32) (U : S2) (V : S1) (g : Nat → Int64) (H : Heap) (locs : List Loc) (ls : Array Slot) (nc ns : Nat), r23 y U V g = some 1 → va_P D cls (wW cI cZ cJ cT a am b U V g) H → va_S (fun q : Nat => s.heap.size ≤ q) s.heap H locs → lv_has ls 7 [(0, .ref sb), (1, .ref (a 0 0)), (2, .ref (am 0)), (3, .ref b), (4, .int y)] → nc + 8 * n ≤ 600002 → ns + 48 * n ≤ 7302232 → nc ≤ 600002 → ns ≤ 7302232 → W p l e room_1 s m #[Value.ref sb] below meth c H locs nc ns (lw_Z below #[Value.ref sb] s) (F0 m 23 ls [])) (y : Int32) (U : S2) (V : S1) (g : Nat → Int64) (H : Heap) (locs : List Loc) (ls : Array Slot) (nc ns : Nat) (hf : law_B14 L xs r23 y U V g = some 1) (hP : va_P D cls (wW cI cZ cJ cT a am b U V g) H) (hS : va_S (fun q : Nat => s.heap.size ≤ q) s.heap H locs) (hl : lv_has ls 7 [(0, .ref sb), (1, .ref (a 0 0)), (2, .ref (am 0)), (3, .ref b), (4, .int y)]) (hc1 : nc + 8 * (n + 1) ≤ 600002) (hc2 : ns + 48 * (n + 1) ≤ 7302232) (hc3 : nc ≤ 600002) (hc4 : ns ≤ 7302232) : W p l e room_1 s m #[Value.ref sb] below meth c H locs nc ns (lw_Z below #[Value.ref sb] s) (F0 m 1178 ls []) := by
  obtain ⟨hx, hb, hr, hml, hown, hts, hX, hbl, hlocks, hgv⟩ := id C0
  have hA : ∀ q : Nat, s.heap.size ≤ q → (fun q : Nat => s.heap.size ≤ q) q := fun _ h => h
  have hbA : ¬ (fun q : Nat => s.heap.size ≤ q) sb := Nat.not_le.mpr hbl
  unfold law_B14 at hf
  refine lv_aload_n hx hb dL_law_1178 rfl (lv_at hl 1 rfl) ?_
  refine lv_aload_n hx hb dL_law_1179 rfl (lv_at hl 0 rfl) ?_
  refine lv_iload hx hb dL_law_1180 (lv_at hl 4 rfl) ?_
  refine lv_iconst (v := 1) hx hb dL_law_1182 (by decide) ?_
  refine lv_iadd hx hb dL_law_1183 ?_
  obtain ⟨hi, hf⟩ := chk_some hf
  refine va_sld hx hb hX hbl hbA hS (inb_in hi) dL_law_1184 ?_
  refine lv_aload_n hx hb dL_law_1185 rfl (lv_at hl 0 rfl) ?_
  refine lv_iload hx hb dL_law_1186 (lv_at hl 4 rfl) ?_
  refine lv_iconst (v := 2) hx hb dL_law_1188 (by decide) ?_
  refine lv_iadd hx hb dL_law_1189 ?_
  obtain ⟨hi, hf⟩ := chk_some hf
  refine va_sld hx hb hX hbl hbA hS (inb_in hi) dL_law_1190 ?_
  refine lv_aload_n hx hb dL_law_1191 rfl (lv_at hl 0 rfl) ?_
  refine lv_iload hx hb dL_law_1192 (lv_at hl 4 rfl) ?_
  refine lv_iconst (v := 3) hx hb dL_law_1194 (by decide) ?_
  refine lv_iadd hx hb dL_law_1195 ?_
  obtain ⟨hi, hf⟩ := chk_some hf
  refine va_sld hx hb hX hbl hbA hS (inb_in hi) dL_law_1196 ?_
  refine lv_aload_n hx hb dL_law_1197 rfl (lv_at hl 3 rfl) ?_
  obtain ⟨z_167, hz_167, hf⟩ := bn_some hf
  refine cLS (As := [.ref (a 0 0), .int (xs (y + 1).toNatClampNeg), .int (xs (y + 2).toNatClampNeg), .int (xs (y + 3).toNatClampNeg), .ref b]) (rest := []) ⟨hx, hb, hml, hown, hts⟩ (c_L_ahead l hst D cI cZ cJ cT a b H.size U g (xs (y + 1).toNatClampNeg) (xs (y + 2).toNatClampNeg) (xs (y + 3).toNatClampNeg) z_167 hz_167) (vx_cwSW 5 hts (gM_law (gL_in gL_law_L_ahead) gLK) rfl rfl rfl (by decide +kernel) ⟨Nat.le_of_ble_eq_true rfl, Nat.le_of_ble_eq_true rfl⟩) (fl_subM hP [0, 2] rfl) hK (fl_subDM (hDD U V g) [0, 2] rfl rfl) hE hNC hS (own_free (fl_subDM (hDD U V g) [0, 2] rfl rfl) hS hA) rfl rfl hl.1 (Nat.le_of_ble_eq_true rfl) dL_law_1198 ⟨(by show _ ≤ 600002; omega), (by show _ ≤ 7302232; omega)⟩ (fun H1 locs hP1 hk1 hS => ?_)
  have hP : va_P D cls (wW cI cZ cJ cT a am b z_167.2.1 V z_167.2.2) H1 := fl_joinM (cs' := [wI cI cZ cT a z_167.2.1, [(b, .inl (cJ, 1, .inr (.inl z_167.2.2)))]]) hP (hDD U V g) [0, 2] rfl rfl hk1 hP1
  clear hP1 hk1
  generalize H1 = H at hP hS ⊢
  refine lv_istore (lv' := [(5, .int z_167.1), (0, .ref sb), (1, .ref (a 0 0)), (2, .ref (am 0)), (3, .ref b), (4, .int y)]) hx hb dL_law_1201 hl (by decide) rfl (fun ls hl => ?_)
  refine lv_aload_n hx hb dL_law_1203 rfl (lv_at hl 3 rfl) ?_
  refine lv_aload_n hx hb dL_law_1204 rfl (lv_at hl 1 rfl) ?_
  refine lv_iload hx hb dL_law_1205 (lv_at hl 5 rfl) ?_
  refine lv_iconst (v := 1) hx hb dL_law_1207 (by decide) ?_
  refine lv_iadd hx hb dL_law_1208 ?_
  obtain ⟨hi, hf⟩ := chk_some hf
  refine va_sld hx hb hX hbl hbA hS (inb_in hi) dL_law_1209 ?_
  refine lv_aload_n hx hb dL_law_1210 rfl (lv_at hl 1 rfl) ?_
  refine lv_iload hx hb dL_law_1211 (lv_at hl 5 rfl) ?_
  refine lv_iconst (v := 2) hx hb dL_law_1213 (by decide) ?_
  refine lv_iadd hx hb dL_law_1214 ?_
  obtain ⟨hi, hf⟩ := chk_some hf
  refine va_sld hx hb hX hbl hbA hS (inb_in hi) dL_law_1215 ?_
  refine lv_aload_n hx hb dL_law_1216 rfl (lv_at hl 1 rfl) ?_
  refine lv_iload hx hb dL_law_1217 (lv_at hl 5 rfl) ?_
  refine lv_iconst (v := 3) hx hb dL_law_1219 (by decide) ?_
  refine lv_iadd hx hb dL_law_1220 ?_
  obtain ⟨hi, hf⟩ := chk_some hf
  refine va_sld hx hb hX hbl hbA hS (inb_in hi) dL_law_1221 ?_
  obtain ⟨z_168, hz_168, hf⟩ := bn_some hf
  refine cWVi (As := [.int (xs (y + 1).toNatClampNeg), .int (xs (y + 2).toNatClampNeg), .int (xs (y + 3).toNatClampNeg)]) (rest := []) ⟨hx, hb, hml, hown, hts⟩ (c_X7_ahead l D cI cZ cJ cT am H.size V (xs (y + 1).toNatClampNeg) (xs (y + 2).toNatClampNeg) (xs (y + 3).toNatClampNeg) z_168 hz_168) (cwV 3 hts (gL_in gL_law_X7_ahead) rfl rfl rfl (by decide +kernel) ⟨Nat.le_of_ble_eq_true rfl, Nat.le_of_ble_eq_true rfl⟩) (fl_sub hP 1 rfl) hK (fl_subD (hDD z_167.2.1 V z_167.2.2) 1 rfl) hS (fl_free (hDD z_167.2.1 V z_167.2.2) hS hA 1 rfl) (va_recv hK (fl_sub hP 1 rfl) (ci := 7) (q0 := 0) rfl rfl) rfl rfl hl.1 (Nat.le_of_ble_eq_true rfl) dL_law_1222 ⟨(by show _ ≤ 600002; omega), (by show _ ≤ 7302232; omega)⟩ (fun H1 locs hP1 hk1 hS => ?_)
  have hP : va_P D cls (wW cI cZ cJ cT a am b z_167.2.1 z_168.2 z_167.2.2) H1 := fl_join hP (hDD z_167.2.1 V z_167.2.2) 1 rfl hk1 hP1
  clear hP1 hk1
  generalize H1 = H at hP hS ⊢
  refine lv_istore (lv' := [(6, .int z_168.1), (5, .int z_167.1), (0, .ref sb), (1, .ref (a 0 0)), (2, .ref (am 0)), (3, .ref b), (4, .int y)]) hx hb dL_law_1225 hl (by decide) rfl (fun ls hl => ?_)
  refine lv_aload_n hx hb dL_law_1227 rfl (lv_at hl 4 rfl) ?_
  obtain ⟨z_169, hz_169, hf⟩ := bn_some hf
  refine cRV (As := []) (rest := []) ⟨hx, hb, hml, hown, hts⟩ (c_X7_thrown l D cI cZ cJ cT am z_168.2 z_169 hz_169) (cwV 0 hts (gL_in gL_law_X7_thrown) rfl rfl rfl (by decide +kernel) ⟨Nat.le_of_ble_eq_true rfl, Nat.le_of_ble_eq_true rfl⟩) (fl_sub hP 1 rfl) hK (va_recv hK (fl_sub hP 1 rfl) (ci := 7) (q0 := 0) rfl rfl) rfl rfl hl.1 (Nat.le_of_ble_eq_true rfl) dL_law_1228 ⟨(by show _ ≤ 600002; omega), (by show _ ≤ 7302232; omega)⟩ ?_
  refine lv_iload hx hb dL_law_1231 (lv_at hl 1 rfl) ?_
  refine lv_icmp_eq (tgt := 1238) hx hb dL_law_1233 (by decide) (fun c_170 => ?_) (fun c_170 => ?_)
  · have hf := ite_t hf c_170
    refine lv_iload hx hb dL_law_1238 (lv_at hl 1 rfl) ?_
    refine lv_if_ne (tgt := 1255) hx hb dL_law_1240 (by decide) (fun c_171 => ?_) (fun c_171 => ?_)
    · have hf := ite_f hf c_171
      refine lv_goto (tgt := 2630) hx hb dL_law_1255 (by decide) ?_
      refine lv_iinc (v := y + 5) (lv' := [(4, .int (y + 5)), (6, .int z_168.1), (5, .int z_167.1), (0, .ref sb), (1, .ref (a 0 0)), (2, .ref (am 0)), (3, .ref b)]) hx hb dL_law_2630 hl (k := 6) rfl rfl (by decide) rfl (fun ls hl => ?_)
      refine lv_goto (tgt := 23) hx hb dL_law_2633 (by decide) ?_
      exact ih _ _ _ _ _ _ _ _ _ hf hP hS (lv_sub hl [3, 4, 5, 6, 0] rfl) (by omega) (by omega) (by omega) (by omega)
    · have hf := ite_t hf c_171
      refine lv_aload_n hx hb dL_law_1243 rfl (lv_at hl 5 rfl) ?_
      refine lv_iconst (v := 0) hx hb dL_law_1244 (by decide) ?_
      refine va_lald hx hb hK hP 100 2 rfl rfl (inb_in (i := 0) (n := 1) (by decide)) dL_law_1245 ?_
      refine lv_iload hx hb dL_law_1246 (lv_at hl 0 rfl) ?_
      refine lv_i2l (v := z_168.1.toInt64) hx hb dL_law_1248 rfl ?_
      refine W.lcmp hx hb dL_law_1249 ?_
      refine lv_if_eq (tgt := 1255) hx hb dL_law_1250 (by decide) (fun c_172 => ?_) (fun c_172 => ?_)
      · have hf := ite_t hf c_172
        refine lv_goto (tgt := 2630) hx hb dL_law_1255 (by decide) ?_
        refine lv_iinc (v := y + 5) (lv' := [(4, .int (y + 5)), (6, .int z_168.1), (5, .int z_167.1), (0, .ref sb), (1, .ref (a 0 0)), (2, .ref (am 0)), (3, .ref b)]) hx hb dL_law_2630 hl (k := 6) rfl rfl (by decide) rfl (fun ls hl => ?_)
        refine lv_goto (tgt := 23) hx hb dL_law_2633 (by decide) ?_
        exact ih _ _ _ _ _ _ _ _ _ hf hP hS (lv_sub hl [3, 4, 5, 6, 0] rfl) (by omega) (by omega) (by omega) (by omega)
      · have hf := ite_f hf c_172
        refine lv_iconst (v := 0) hx hb dL_law_1253 (by decide) ?_
        exact absurd (Option.some.inj hf) (by decide)
  · have hf := ite_f hf c_170
    refine lv_iconst (v := 0) hx hb dL_law_1236 (by decide) ?_
    exact absurd (Option.some.inj hf) (by decide)
def law_B15 (L : Nat) (xs : Nat → Int32) (r23 : Int32 → S2 → S1 → (Nat → Int64) → Option Int32) (y : Int32) (U : S2) (V : S1) (g : Nat → Int64) : Option Int32 := chk (inb (y + 1) L) (chk (inb (y + 2) L) (bn (f_L_cut U g (xs (y + 1).toNatClampNeg) (xs (y + 2).toNatClampNeg)) (fun z_173 => chk (inb (y + 1) L) (chk (inb (y + 2) L) (bn (f_X7_cut V (xs (y + 1).toNatClampNeg) (xs (y + 2).toNatClampNeg)) (fun z_174 => bn (f_X7_thrown z_174.2) (fun z_175 => if z_175 = z_173.1 then if z_173.1 = 0 then if (lg_cmp (z_173.2.2 (0 : Int32).toNatClampNeg) z_174.1.toInt64) = 0 then r23 (y + 5) z_173.2.1 z_174.2 z_173.2.2 else some 0 else r23 (y + 5) z_173.2.1 z_174.2 z_173.2.2 else some 0)))))))
set_option maxHeartbeats 40000000 in
set_option maxRecDepth 100000 in
theorem law_case15 {p : Program} {l : Launch} {e : Env} {s : State} {m : MethodId} {below : List Frame} {meth : Method} {c : Code} {D : va_G} {cI cZ cJ cT : ClassId} {sb L : Nat} {xs : Nat → Int32} (hst : l.stackTraces = false) (C0 : lw_At p s m meth c sb L xs) (hK : va_K D cls (tys cI cZ cJ cT) s) (hE : EX (fun q : Nat => s.heap.size ≤ q) s) (hNC : NC s) (a : Nat → Nat → Nat) (am : Nat → Nat) (b : Nat) (hDD : ∀ (U : S2) (V : S1) (g : Nat → Int64), va_D (fun q : Nat => s.heap.size ≤ q) (wW cI cZ cJ cT a am b U V g)) (r23 : Int32 → S2 → S1 → (Nat → Int64) → Option Int32) (n : Nat) (ih : ∀ (y : Int32) (U : S2) (V : S1) (g : Nat → Int64) (H : Heap) (locs : List Loc) (ls : Array Slot) (nc ns : Nat), r23 y U V g = some 1 → va_P D cls (wW cI cZ cJ cT a am b U V g) H → va_S (fun q : Nat => s.heap.size ≤ q) s.heap H locs → lv_has ls 7 [(0, .ref sb), (1, .ref (a 0 0)), (2, .ref (am 0)), (3, .ref b), (4, .int y)] → nc + 8 * n ≤ 600002 → ns + 48 * n ≤ 7302232 → nc ≤ 600002 → ns ≤ 7302232 → W p l e room_1 s m #[Value.ref sb] below meth c H locs nc ns (lw_Z below #[Value.ref sb] s) (F0 m 23 ls [])) (y : Int32) (U : S2) (V : S1) (g : Nat → Int64) (H : Heap) (locs : List Loc) (ls : Array Slot) (nc ns : Nat) (hf : law_B15 L xs r23 y U V g = some 1) (hP : va_P D cls (wW cI cZ cJ cT a am b U V g) H) (hS : va_S (fun q : Nat => s.heap.size ≤ q) s.heap H locs) (hl : lv_has ls 7 [(0, .ref sb), (1, .ref (a 0 0)), (2, .ref (am 0)), (3, .ref b), (4, .int y)]) (hc1 : nc + 8 * (n + 1) ≤ 600002) (hc2 : ns + 48 * (n + 1) ≤ 7302232) (hc3 : nc ≤ 600002) (hc4 : ns ≤ 7302232) : W p l e room_1 s m #[Value.ref sb] below meth c H locs nc ns (lw_Z below #[Value.ref sb] s) (F0 m 1258 ls []) := by
  obtain ⟨hx, hb, hr, hml, hown, hts, hX, hbl, hlocks, hgv⟩ := id C0
  have hA : ∀ q : Nat, s.heap.size ≤ q → (fun q : Nat => s.heap.size ≤ q) q := fun _ h => h
  have hbA : ¬ (fun q : Nat => s.heap.size ≤ q) sb := Nat.not_le.mpr hbl
  unfold law_B15 at hf
  refine lv_aload_n hx hb dL_law_1258 rfl (lv_at hl 1 rfl) ?_
  refine lv_aload_n hx hb dL_law_1259 rfl (lv_at hl 0 rfl) ?_
  refine lv_iload hx hb dL_law_1260 (lv_at hl 4 rfl) ?_
  refine lv_iconst (v := 1) hx hb dL_law_1262 (by decide) ?_
  refine lv_iadd hx hb dL_law_1263 ?_
  obtain ⟨hi, hf⟩ := chk_some hf
  refine va_sld hx hb hX hbl hbA hS (inb_in hi) dL_law_1264 ?_
  refine lv_aload_n hx hb dL_law_1265 rfl (lv_at hl 0 rfl) ?_
  refine lv_iload hx hb dL_law_1266 (lv_at hl 4 rfl) ?_
  refine lv_iconst (v := 2) hx hb dL_law_1268 (by decide) ?_
  refine lv_iadd hx hb dL_law_1269 ?_
  obtain ⟨hi, hf⟩ := chk_some hf
  refine va_sld hx hb hX hbl hbA hS (inb_in hi) dL_law_1270 ?_
  refine lv_aload_n hx hb dL_law_1271 rfl (lv_at hl 3 rfl) ?_
  obtain ⟨z_173, hz_173, hf⟩ := bn_some hf
  refine cLS (As := [.ref (a 0 0), .int (xs (y + 1).toNatClampNeg), .int (xs (y + 2).toNatClampNeg), .ref b]) (rest := []) ⟨hx, hb, hml, hown, hts⟩ (c_L_cut l hst D cI cZ cJ cT a b H.size U g (xs (y + 1).toNatClampNeg) (xs (y + 2).toNatClampNeg) z_173 hz_173) (vx_cwSW 4 hts (gM_law (gL_in gL_law_L_cut) gLK) rfl rfl rfl (by decide +kernel) ⟨Nat.le_of_ble_eq_true rfl, Nat.le_of_ble_eq_true rfl⟩) (fl_subM hP [0, 2] rfl) hK (fl_subDM (hDD U V g) [0, 2] rfl rfl) hE hNC hS (own_free (fl_subDM (hDD U V g) [0, 2] rfl rfl) hS hA) rfl rfl hl.1 (Nat.le_of_ble_eq_true rfl) dL_law_1272 ⟨(by show _ ≤ 600002; omega), (by show _ ≤ 7302232; omega)⟩ (fun H1 locs hP1 hk1 hS => ?_)
  have hP : va_P D cls (wW cI cZ cJ cT a am b z_173.2.1 V z_173.2.2) H1 := fl_joinM (cs' := [wI cI cZ cT a z_173.2.1, [(b, .inl (cJ, 1, .inr (.inl z_173.2.2)))]]) hP (hDD U V g) [0, 2] rfl rfl hk1 hP1
  clear hP1 hk1
  generalize H1 = H at hP hS ⊢
  refine lv_istore (lv' := [(5, .int z_173.1), (0, .ref sb), (1, .ref (a 0 0)), (2, .ref (am 0)), (3, .ref b), (4, .int y)]) hx hb dL_law_1275 hl (by decide) rfl (fun ls hl => ?_)
  refine lv_aload_n hx hb dL_law_1277 rfl (lv_at hl 3 rfl) ?_
  refine lv_aload_n hx hb dL_law_1278 rfl (lv_at hl 1 rfl) ?_
  refine lv_iload hx hb dL_law_1279 (lv_at hl 5 rfl) ?_
  refine lv_iconst (v := 1) hx hb dL_law_1281 (by decide) ?_
  refine lv_iadd hx hb dL_law_1282 ?_
  obtain ⟨hi, hf⟩ := chk_some hf
  refine va_sld hx hb hX hbl hbA hS (inb_in hi) dL_law_1283 ?_
  refine lv_aload_n hx hb dL_law_1284 rfl (lv_at hl 1 rfl) ?_
  refine lv_iload hx hb dL_law_1285 (lv_at hl 5 rfl) ?_
  refine lv_iconst (v := 2) hx hb dL_law_1287 (by decide) ?_
  refine lv_iadd hx hb dL_law_1288 ?_
  obtain ⟨hi, hf⟩ := chk_some hf
  refine va_sld hx hb hX hbl hbA hS (inb_in hi) dL_law_1289 ?_
  obtain ⟨z_174, hz_174, hf⟩ := bn_some hf
  refine cWVi (As := [.int (xs (y + 1).toNatClampNeg), .int (xs (y + 2).toNatClampNeg)]) (rest := []) ⟨hx, hb, hml, hown, hts⟩ (c_X7_cut l D cI cZ cJ cT am H.size V (xs (y + 1).toNatClampNeg) (xs (y + 2).toNatClampNeg) z_174 hz_174) (cwV 2 hts (gL_in gL_law_X7_cut) rfl rfl rfl (by decide +kernel) ⟨Nat.le_of_ble_eq_true rfl, Nat.le_of_ble_eq_true rfl⟩) (fl_sub hP 1 rfl) hK (fl_subD (hDD z_173.2.1 V z_173.2.2) 1 rfl) hS (fl_free (hDD z_173.2.1 V z_173.2.2) hS hA 1 rfl) (va_recv hK (fl_sub hP 1 rfl) (ci := 7) (q0 := 0) rfl rfl) rfl rfl hl.1 (Nat.le_of_ble_eq_true rfl) dL_law_1290 ⟨(by show _ ≤ 600002; omega), (by show _ ≤ 7302232; omega)⟩ (fun H1 locs hP1 hk1 hS => ?_)
  have hP : va_P D cls (wW cI cZ cJ cT a am b z_173.2.1 z_174.2 z_173.2.2) H1 := fl_join hP (hDD z_173.2.1 V z_173.2.2) 1 rfl hk1 hP1
  clear hP1 hk1
  generalize H1 = H at hP hS ⊢
  refine lv_istore (lv' := [(6, .int z_174.1), (5, .int z_173.1), (0, .ref sb), (1, .ref (a 0 0)), (2, .ref (am 0)), (3, .ref b), (4, .int y)]) hx hb dL_law_1293 hl (by decide) rfl (fun ls hl => ?_)
  refine lv_aload_n hx hb dL_law_1295 rfl (lv_at hl 4 rfl) ?_
  obtain ⟨z_175, hz_175, hf⟩ := bn_some hf
  refine cRV (As := []) (rest := []) ⟨hx, hb, hml, hown, hts⟩ (c_X7_thrown l D cI cZ cJ cT am z_174.2 z_175 hz_175) (cwV 0 hts (gL_in gL_law_X7_thrown) rfl rfl rfl (by decide +kernel) ⟨Nat.le_of_ble_eq_true rfl, Nat.le_of_ble_eq_true rfl⟩) (fl_sub hP 1 rfl) hK (va_recv hK (fl_sub hP 1 rfl) (ci := 7) (q0 := 0) rfl rfl) rfl rfl hl.1 (Nat.le_of_ble_eq_true rfl) dL_law_1296 ⟨(by show _ ≤ 600002; omega), (by show _ ≤ 7302232; omega)⟩ ?_
  refine lv_iload hx hb dL_law_1299 (lv_at hl 1 rfl) ?_
  refine lv_icmp_eq (tgt := 1306) hx hb dL_law_1301 (by decide) (fun c_176 => ?_) (fun c_176 => ?_)
  · have hf := ite_t hf c_176
    refine lv_iload hx hb dL_law_1306 (lv_at hl 1 rfl) ?_
    refine lv_if_ne (tgt := 1323) hx hb dL_law_1308 (by decide) (fun c_177 => ?_) (fun c_177 => ?_)
    · have hf := ite_f hf c_177
      refine lv_goto (tgt := 2630) hx hb dL_law_1323 (by decide) ?_
      refine lv_iinc (v := y + 5) (lv' := [(4, .int (y + 5)), (6, .int z_174.1), (5, .int z_173.1), (0, .ref sb), (1, .ref (a 0 0)), (2, .ref (am 0)), (3, .ref b)]) hx hb dL_law_2630 hl (k := 6) rfl rfl (by decide) rfl (fun ls hl => ?_)
      refine lv_goto (tgt := 23) hx hb dL_law_2633 (by decide) ?_
      exact ih _ _ _ _ _ _ _ _ _ hf hP hS (lv_sub hl [3, 4, 5, 6, 0] rfl) (by omega) (by omega) (by omega) (by omega)
    · have hf := ite_t hf c_177
      refine lv_aload_n hx hb dL_law_1311 rfl (lv_at hl 5 rfl) ?_
      refine lv_iconst (v := 0) hx hb dL_law_1312 (by decide) ?_
      refine va_lald hx hb hK hP 100 2 rfl rfl (inb_in (i := 0) (n := 1) (by decide)) dL_law_1313 ?_
      refine lv_iload hx hb dL_law_1314 (lv_at hl 0 rfl) ?_
      refine lv_i2l (v := z_174.1.toInt64) hx hb dL_law_1316 rfl ?_
      refine W.lcmp hx hb dL_law_1317 ?_
      refine lv_if_eq (tgt := 1323) hx hb dL_law_1318 (by decide) (fun c_178 => ?_) (fun c_178 => ?_)
      · have hf := ite_t hf c_178
        refine lv_goto (tgt := 2630) hx hb dL_law_1323 (by decide) ?_
        refine lv_iinc (v := y + 5) (lv' := [(4, .int (y + 5)), (6, .int z_174.1), (5, .int z_173.1), (0, .ref sb), (1, .ref (a 0 0)), (2, .ref (am 0)), (3, .ref b)]) hx hb dL_law_2630 hl (k := 6) rfl rfl (by decide) rfl (fun ls hl => ?_)
        refine lv_goto (tgt := 23) hx hb dL_law_2633 (by decide) ?_
        exact ih _ _ _ _ _ _ _ _ _ hf hP hS (lv_sub hl [3, 4, 5, 6, 0] rfl) (by omega) (by omega) (by omega) (by omega)
      · have hf := ite_f hf c_178
        refine lv_iconst (v := 0) hx hb dL_law_1321 (by decide) ?_
        exact absurd (Option.some.inj hf) (by decide)
  · have hf := ite_f hf c_176
    refine lv_iconst (v := 0) hx hb dL_law_1304 (by decide) ?_
    exact absurd (Option.some.inj hf) (by decide)
def law_B16 (L : Nat) (xs : Nat → Int32) (r23 : Int32 → S2 → S1 → (Nat → Int64) → Option Int32) (y : Int32) (U : S2) (V : S1) (g : Nat → Int64) : Option Int32 := chk (inb (y + 1) L) (chk (inb (y + 2) L) (chk (inb (y + 3) L) (chk (inb (y + 4) L) (if (xs (y + 4).toNatClampNeg) = 0 then bn (f_L_lock U g (xs (y + 1).toNatClampNeg) (xs (y + 2).toNatClampNeg) (xs (y + 3).toNatClampNeg) 0) (fun z_180 => chk (inb (y + 1) L) (chk (inb (y + 2) L) (chk (inb (y + 3) L) (chk (inb (y + 4) L) (if (xs (y + 4).toNatClampNeg) = 0 then bn (f_X7_lock V (xs (y + 1).toNatClampNeg) (xs (y + 2).toNatClampNeg) (xs (y + 3).toNatClampNeg) 0) (fun z_182 => bn (f_X7_thrown z_182.2) (fun z_183 => if z_183 = z_180.1 then if z_180.1 = 0 then if (lg_cmp (z_180.2.2 (0 : Int32).toNatClampNeg) z_182.1.toInt64) = 0 then r23 (y + 5) z_180.2.1 z_182.2 z_180.2.2 else some 0 else r23 (y + 5) z_180.2.1 z_182.2 z_180.2.2 else some 0)) else bn (f_X7_lock V (xs (y + 1).toNatClampNeg) (xs (y + 2).toNatClampNeg) (xs (y + 3).toNatClampNeg) 1) (fun z_187 => bn (f_X7_thrown z_187.2) (fun z_188 => if z_188 = z_180.1 then if z_180.1 = 0 then if (lg_cmp (z_180.2.2 (0 : Int32).toNatClampNeg) z_187.1.toInt64) = 0 then r23 (y + 5) z_180.2.1 z_187.2 z_180.2.2 else some 0 else r23 (y + 5) z_180.2.1 z_187.2 z_180.2.2 else some 0))))))) else bn (f_L_lock U g (xs (y + 1).toNatClampNeg) (xs (y + 2).toNatClampNeg) (xs (y + 3).toNatClampNeg) 1) (fun z_192 => chk (inb (y + 1) L) (chk (inb (y + 2) L) (chk (inb (y + 3) L) (chk (inb (y + 4) L) (if (xs (y + 4).toNatClampNeg) = 0 then bn (f_X7_lock V (xs (y + 1).toNatClampNeg) (xs (y + 2).toNatClampNeg) (xs (y + 3).toNatClampNeg) 0) (fun z_194 => bn (f_X7_thrown z_194.2) (fun z_195 => if z_195 = z_192.1 then if z_192.1 = 0 then if (lg_cmp (z_192.2.2 (0 : Int32).toNatClampNeg) z_194.1.toInt64) = 0 then r23 (y + 5) z_192.2.1 z_194.2 z_192.2.2 else some 0 else r23 (y + 5) z_192.2.1 z_194.2 z_192.2.2 else some 0)) else bn (f_X7_lock V (xs (y + 1).toNatClampNeg) (xs (y + 2).toNatClampNeg) (xs (y + 3).toNatClampNeg) 1) (fun z_199 => bn (f_X7_thrown z_199.2) (fun z_200 => if z_200 = z_192.1 then if z_192.1 = 0 then if (lg_cmp (z_192.2.2 (0 : Int32).toNatClampNeg) z_199.1.toInt64) = 0 then r23 (y + 5) z_192.2.1 z_199.2 z_192.2.2 else some 0 else r23 (y + 5) z_192.2.1 z_199.2 z_192.2.2 else some 0)))))))))))
set_option maxHeartbeats 40000000 in
set_option maxRecDepth 100000 in
theorem law_case16 {p : Program} {l : Launch} {e : Env} {s : State} {m : MethodId} {below : List Frame} {meth : Method} {c : Code} {D : va_G} {cI cZ cJ cT : ClassId} {sb L : Nat} {xs : Nat → Int32} (hst : l.stackTraces = false) (C0 : lw_At p s m meth c sb L xs) (hK : va_K D cls (tys cI cZ cJ cT) s) (hE : EX (fun q : Nat => s.heap.size ≤ q) s) (hNC : NC s) (a : Nat → Nat → Nat) (am : Nat → Nat) (b : Nat) (hDD : ∀ (U : S2) (V : S1) (g : Nat → Int64), va_D (fun q : Nat => s.heap.size ≤ q) (wW cI cZ cJ cT a am b U V g)) (r23 : Int32 → S2 → S1 → (Nat → Int64) → Option Int32) (n : Nat) (ih : ∀ (y : Int32) (U : S2) (V : S1) (g : Nat → Int64) (H : Heap) (locs : List Loc) (ls : Array Slot) (nc ns : Nat), r23 y U V g = some 1 → va_P D cls (wW cI cZ cJ cT a am b U V g) H → va_S (fun q : Nat => s.heap.size ≤ q) s.heap H locs → lv_has ls 7 [(0, .ref sb), (1, .ref (a 0 0)), (2, .ref (am 0)), (3, .ref b), (4, .int y)] → nc + 8 * n ≤ 600002 → ns + 48 * n ≤ 7302232 → nc ≤ 600002 → ns ≤ 7302232 → W p l e room_1 s m #[Value.ref sb] below meth c H locs nc ns (lw_Z below #[Value.ref sb] s) (F0 m 23 ls [])) (y : Int32) (U : S2) (V : S1) (g : Nat → Int64) (H : Heap) (locs : List Loc) (ls : Array Slot) (nc ns : Nat) (hf : law_B16 L xs r23 y U V g = some 1) (hP : va_P D cls (wW cI cZ cJ cT a am b U V g) H) (hS : va_S (fun q : Nat => s.heap.size ≤ q) s.heap H locs) (hl : lv_has ls 7 [(0, .ref sb), (1, .ref (a 0 0)), (2, .ref (am 0)), (3, .ref b), (4, .int y)]) (hc1 : nc + 8 * (n + 1) ≤ 600002) (hc2 : ns + 48 * (n + 1) ≤ 7302232) (hc3 : nc ≤ 600002) (hc4 : ns ≤ 7302232) : W p l e room_1 s m #[Value.ref sb] below meth c H locs nc ns (lw_Z below #[Value.ref sb] s) (F0 m 1326 ls []) := by
  obtain ⟨hx, hb, hr, hml, hown, hts, hX, hbl, hlocks, hgv⟩ := id C0
  have hA : ∀ q : Nat, s.heap.size ≤ q → (fun q : Nat => s.heap.size ≤ q) q := fun _ h => h
  have hbA : ¬ (fun q : Nat => s.heap.size ≤ q) sb := Nat.not_le.mpr hbl
  unfold law_B16 at hf
  refine lv_aload_n hx hb dL_law_1326 rfl (lv_at hl 1 rfl) ?_
  refine lv_aload_n hx hb dL_law_1327 rfl (lv_at hl 0 rfl) ?_
  refine lv_iload hx hb dL_law_1328 (lv_at hl 4 rfl) ?_
  refine lv_iconst (v := 1) hx hb dL_law_1330 (by decide) ?_
  refine lv_iadd hx hb dL_law_1331 ?_
  obtain ⟨hi, hf⟩ := chk_some hf
  refine va_sld hx hb hX hbl hbA hS (inb_in hi) dL_law_1332 ?_
  refine lv_aload_n hx hb dL_law_1333 rfl (lv_at hl 0 rfl) ?_
  refine lv_iload hx hb dL_law_1334 (lv_at hl 4 rfl) ?_
  refine lv_iconst (v := 2) hx hb dL_law_1336 (by decide) ?_
  refine lv_iadd hx hb dL_law_1337 ?_
  obtain ⟨hi, hf⟩ := chk_some hf
  refine va_sld hx hb hX hbl hbA hS (inb_in hi) dL_law_1338 ?_
  refine lv_aload_n hx hb dL_law_1339 rfl (lv_at hl 0 rfl) ?_
  refine lv_iload hx hb dL_law_1340 (lv_at hl 4 rfl) ?_
  refine lv_iconst (v := 3) hx hb dL_law_1342 (by decide) ?_
  refine lv_iadd hx hb dL_law_1343 ?_
  obtain ⟨hi, hf⟩ := chk_some hf
  refine va_sld hx hb hX hbl hbA hS (inb_in hi) dL_law_1344 ?_
  refine lv_aload_n hx hb dL_law_1345 rfl (lv_at hl 0 rfl) ?_
  refine lv_iload hx hb dL_law_1346 (lv_at hl 4 rfl) ?_
  refine lv_iconst (v := 4) hx hb dL_law_1348 (by decide) ?_
  refine lv_iadd hx hb dL_law_1349 ?_
  obtain ⟨hi, hf⟩ := chk_some hf
  refine va_sld hx hb hX hbl hbA hS (inb_in hi) dL_law_1350 ?_
  refine lv_if_eq (tgt := 1358) hx hb dL_law_1351 (by decide) (fun c_179 => ?_) (fun c_179 => ?_)
  · have hf := ite_t hf c_179
    refine lv_iconst (v := 0) hx hb dL_law_1358 (by decide) ?_
    refine lv_aload_n hx hb dL_law_1359 rfl (lv_at hl 3 rfl) ?_
    obtain ⟨z_180, hz_180, hf⟩ := bn_some hf
    refine cLS (As := [.ref (a 0 0), .int (xs (y + 1).toNatClampNeg), .int (xs (y + 2).toNatClampNeg), .int (xs (y + 3).toNatClampNeg), .int 0, .ref b]) (rest := []) ⟨hx, hb, hml, hown, hts⟩ (c_L_lock l hst D cI cZ cJ cT a b H.size U g (xs (y + 1).toNatClampNeg) (xs (y + 2).toNatClampNeg) (xs (y + 3).toNatClampNeg) 0 z_180 hz_180) (vx_cwSW 6 hts (gM_law (gL_in gL_law_L_lock) gLK) rfl rfl rfl (by decide +kernel) ⟨Nat.le_of_ble_eq_true rfl, Nat.le_of_ble_eq_true rfl⟩) (fl_subM hP [0, 2] rfl) hK (fl_subDM (hDD U V g) [0, 2] rfl rfl) hE hNC hS (own_free (fl_subDM (hDD U V g) [0, 2] rfl rfl) hS hA) rfl rfl hl.1 (Nat.le_of_ble_eq_true rfl) dL_law_1360 ⟨(by show _ ≤ 600002; omega), (by show _ ≤ 7302232; omega)⟩ (fun H1 locs hP1 hk1 hS => ?_)
    have hP : va_P D cls (wW cI cZ cJ cT a am b z_180.2.1 V z_180.2.2) H1 := fl_joinM (cs' := [wI cI cZ cT a z_180.2.1, [(b, .inl (cJ, 1, .inr (.inl z_180.2.2)))]]) hP (hDD U V g) [0, 2] rfl rfl hk1 hP1
    clear hP1 hk1
    generalize H1 = H at hP hS ⊢
    refine lv_istore (lv' := [(5, .int z_180.1), (0, .ref sb), (1, .ref (a 0 0)), (2, .ref (am 0)), (3, .ref b), (4, .int y)]) hx hb dL_law_1363 hl (by decide) rfl (fun ls hl => ?_)
    refine lv_aload_n hx hb dL_law_1365 rfl (lv_at hl 3 rfl) ?_
    refine lv_aload_n hx hb dL_law_1366 rfl (lv_at hl 1 rfl) ?_
    refine lv_iload hx hb dL_law_1367 (lv_at hl 5 rfl) ?_
    refine lv_iconst (v := 1) hx hb dL_law_1369 (by decide) ?_
    refine lv_iadd hx hb dL_law_1370 ?_
    obtain ⟨hi, hf⟩ := chk_some hf
    refine va_sld hx hb hX hbl hbA hS (inb_in hi) dL_law_1371 ?_
    refine lv_aload_n hx hb dL_law_1372 rfl (lv_at hl 1 rfl) ?_
    refine lv_iload hx hb dL_law_1373 (lv_at hl 5 rfl) ?_
    refine lv_iconst (v := 2) hx hb dL_law_1375 (by decide) ?_
    refine lv_iadd hx hb dL_law_1376 ?_
    obtain ⟨hi, hf⟩ := chk_some hf
    refine va_sld hx hb hX hbl hbA hS (inb_in hi) dL_law_1377 ?_
    refine lv_aload_n hx hb dL_law_1378 rfl (lv_at hl 1 rfl) ?_
    refine lv_iload hx hb dL_law_1379 (lv_at hl 5 rfl) ?_
    refine lv_iconst (v := 3) hx hb dL_law_1381 (by decide) ?_
    refine lv_iadd hx hb dL_law_1382 ?_
    obtain ⟨hi, hf⟩ := chk_some hf
    refine va_sld hx hb hX hbl hbA hS (inb_in hi) dL_law_1383 ?_
    refine lv_aload_n hx hb dL_law_1384 rfl (lv_at hl 1 rfl) ?_
    refine lv_iload hx hb dL_law_1385 (lv_at hl 5 rfl) ?_
    refine lv_iconst (v := 4) hx hb dL_law_1387 (by decide) ?_
    refine lv_iadd hx hb dL_law_1388 ?_
    obtain ⟨hi, hf⟩ := chk_some hf
    refine va_sld hx hb hX hbl hbA hS (inb_in hi) dL_law_1389 ?_
    refine lv_if_eq (tgt := 1397) hx hb dL_law_1390 (by decide) (fun c_181 => ?_) (fun c_181 => ?_)
    · have hf := ite_t hf c_181
      refine lv_iconst (v := 0) hx hb dL_law_1397 (by decide) ?_
      obtain ⟨z_182, hz_182, hf⟩ := bn_some hf
      refine cWVi (As := [.int (xs (y + 1).toNatClampNeg), .int (xs (y + 2).toNatClampNeg), .int (xs (y + 3).toNatClampNeg), .int 0]) (rest := []) ⟨hx, hb, hml, hown, hts⟩ (c_X7_lock l D cI cZ cJ cT am H.size V (xs (y + 1).toNatClampNeg) (xs (y + 2).toNatClampNeg) (xs (y + 3).toNatClampNeg) 0 z_182 hz_182) (cwV 4 hts (gL_in gL_law_X7_lock) rfl rfl rfl (by decide +kernel) ⟨Nat.le_of_ble_eq_true rfl, Nat.le_of_ble_eq_true rfl⟩) (fl_sub hP 1 rfl) hK (fl_subD (hDD z_180.2.1 V z_180.2.2) 1 rfl) hS (fl_free (hDD z_180.2.1 V z_180.2.2) hS hA 1 rfl) (va_recv hK (fl_sub hP 1 rfl) (ci := 7) (q0 := 0) rfl rfl) rfl rfl hl.1 (Nat.le_of_ble_eq_true rfl) dL_law_1398 ⟨(by show _ ≤ 600002; omega), (by show _ ≤ 7302232; omega)⟩ (fun H1 locs hP1 hk1 hS => ?_)
      have hP : va_P D cls (wW cI cZ cJ cT a am b z_180.2.1 z_182.2 z_180.2.2) H1 := fl_join hP (hDD z_180.2.1 V z_180.2.2) 1 rfl hk1 hP1
      clear hP1 hk1
      generalize H1 = H at hP hS ⊢
      refine lv_istore (lv' := [(6, .int z_182.1), (5, .int z_180.1), (0, .ref sb), (1, .ref (a 0 0)), (2, .ref (am 0)), (3, .ref b), (4, .int y)]) hx hb dL_law_1401 hl (by decide) rfl (fun ls hl => ?_)
      refine lv_aload_n hx hb dL_law_1403 rfl (lv_at hl 4 rfl) ?_
      obtain ⟨z_183, hz_183, hf⟩ := bn_some hf
      refine cRV (As := []) (rest := []) ⟨hx, hb, hml, hown, hts⟩ (c_X7_thrown l D cI cZ cJ cT am z_182.2 z_183 hz_183) (cwV 0 hts (gL_in gL_law_X7_thrown) rfl rfl rfl (by decide +kernel) ⟨Nat.le_of_ble_eq_true rfl, Nat.le_of_ble_eq_true rfl⟩) (fl_sub hP 1 rfl) hK (va_recv hK (fl_sub hP 1 rfl) (ci := 7) (q0 := 0) rfl rfl) rfl rfl hl.1 (Nat.le_of_ble_eq_true rfl) dL_law_1404 ⟨(by show _ ≤ 600002; omega), (by show _ ≤ 7302232; omega)⟩ ?_
      refine lv_iload hx hb dL_law_1407 (lv_at hl 1 rfl) ?_
      refine lv_icmp_eq (tgt := 1414) hx hb dL_law_1409 (by decide) (fun c_184 => ?_) (fun c_184 => ?_)
      · have hf := ite_t hf c_184
        refine lv_iload hx hb dL_law_1414 (lv_at hl 1 rfl) ?_
        refine lv_if_ne (tgt := 1431) hx hb dL_law_1416 (by decide) (fun c_185 => ?_) (fun c_185 => ?_)
        · have hf := ite_f hf c_185
          refine lv_goto (tgt := 2630) hx hb dL_law_1431 (by decide) ?_
          refine lv_iinc (v := y + 5) (lv' := [(4, .int (y + 5)), (6, .int z_182.1), (5, .int z_180.1), (0, .ref sb), (1, .ref (a 0 0)), (2, .ref (am 0)), (3, .ref b)]) hx hb dL_law_2630 hl (k := 6) rfl rfl (by decide) rfl (fun ls hl => ?_)
          refine lv_goto (tgt := 23) hx hb dL_law_2633 (by decide) ?_
          exact ih _ _ _ _ _ _ _ _ _ hf hP hS (lv_sub hl [3, 4, 5, 6, 0] rfl) (by omega) (by omega) (by omega) (by omega)
        · have hf := ite_t hf c_185
          refine lv_aload_n hx hb dL_law_1419 rfl (lv_at hl 5 rfl) ?_
          refine lv_iconst (v := 0) hx hb dL_law_1420 (by decide) ?_
          refine va_lald hx hb hK hP 100 2 rfl rfl (inb_in (i := 0) (n := 1) (by decide)) dL_law_1421 ?_
          refine lv_iload hx hb dL_law_1422 (lv_at hl 0 rfl) ?_
          refine lv_i2l (v := z_182.1.toInt64) hx hb dL_law_1424 rfl ?_
          refine W.lcmp hx hb dL_law_1425 ?_
          refine lv_if_eq (tgt := 1431) hx hb dL_law_1426 (by decide) (fun c_186 => ?_) (fun c_186 => ?_)
          · have hf := ite_t hf c_186
            refine lv_goto (tgt := 2630) hx hb dL_law_1431 (by decide) ?_
            refine lv_iinc (v := y + 5) (lv' := [(4, .int (y + 5)), (6, .int z_182.1), (5, .int z_180.1), (0, .ref sb), (1, .ref (a 0 0)), (2, .ref (am 0)), (3, .ref b)]) hx hb dL_law_2630 hl (k := 6) rfl rfl (by decide) rfl (fun ls hl => ?_)
            refine lv_goto (tgt := 23) hx hb dL_law_2633 (by decide) ?_
            exact ih _ _ _ _ _ _ _ _ _ hf hP hS (lv_sub hl [3, 4, 5, 6, 0] rfl) (by omega) (by omega) (by omega) (by omega)
          · have hf := ite_f hf c_186
            refine lv_iconst (v := 0) hx hb dL_law_1429 (by decide) ?_
            exact absurd (Option.some.inj hf) (by decide)
      · have hf := ite_f hf c_184
        refine lv_iconst (v := 0) hx hb dL_law_1412 (by decide) ?_
        exact absurd (Option.some.inj hf) (by decide)
    · have hf := ite_f hf c_181
      refine lv_iconst (v := 1) hx hb dL_law_1393 (by decide) ?_
      refine lv_goto (tgt := 1398) hx hb dL_law_1394 (by decide) ?_
      obtain ⟨z_187, hz_187, hf⟩ := bn_some hf
      refine cWVi (As := [.int (xs (y + 1).toNatClampNeg), .int (xs (y + 2).toNatClampNeg), .int (xs (y + 3).toNatClampNeg), .int 1]) (rest := []) ⟨hx, hb, hml, hown, hts⟩ (c_X7_lock l D cI cZ cJ cT am H.size V (xs (y + 1).toNatClampNeg) (xs (y + 2).toNatClampNeg) (xs (y + 3).toNatClampNeg) 1 z_187 hz_187) (cwV 4 hts (gL_in gL_law_X7_lock) rfl rfl rfl (by decide +kernel) ⟨Nat.le_of_ble_eq_true rfl, Nat.le_of_ble_eq_true rfl⟩) (fl_sub hP 1 rfl) hK (fl_subD (hDD z_180.2.1 V z_180.2.2) 1 rfl) hS (fl_free (hDD z_180.2.1 V z_180.2.2) hS hA 1 rfl) (va_recv hK (fl_sub hP 1 rfl) (ci := 7) (q0 := 0) rfl rfl) rfl rfl hl.1 (Nat.le_of_ble_eq_true rfl) dL_law_1398 ⟨(by show _ ≤ 600002; omega), (by show _ ≤ 7302232; omega)⟩ (fun H1 locs hP1 hk1 hS => ?_)
      have hP : va_P D cls (wW cI cZ cJ cT a am b z_180.2.1 z_187.2 z_180.2.2) H1 := fl_join hP (hDD z_180.2.1 V z_180.2.2) 1 rfl hk1 hP1
      clear hP1 hk1
      generalize H1 = H at hP hS ⊢
      refine lv_istore (lv' := [(6, .int z_187.1), (5, .int z_180.1), (0, .ref sb), (1, .ref (a 0 0)), (2, .ref (am 0)), (3, .ref b), (4, .int y)]) hx hb dL_law_1401 hl (by decide) rfl (fun ls hl => ?_)
      refine lv_aload_n hx hb dL_law_1403 rfl (lv_at hl 4 rfl) ?_
      obtain ⟨z_188, hz_188, hf⟩ := bn_some hf
      refine cRV (As := []) (rest := []) ⟨hx, hb, hml, hown, hts⟩ (c_X7_thrown l D cI cZ cJ cT am z_187.2 z_188 hz_188) (cwV 0 hts (gL_in gL_law_X7_thrown) rfl rfl rfl (by decide +kernel) ⟨Nat.le_of_ble_eq_true rfl, Nat.le_of_ble_eq_true rfl⟩) (fl_sub hP 1 rfl) hK (va_recv hK (fl_sub hP 1 rfl) (ci := 7) (q0 := 0) rfl rfl) rfl rfl hl.1 (Nat.le_of_ble_eq_true rfl) dL_law_1404 ⟨(by show _ ≤ 600002; omega), (by show _ ≤ 7302232; omega)⟩ ?_
      refine lv_iload hx hb dL_law_1407 (lv_at hl 1 rfl) ?_
      refine lv_icmp_eq (tgt := 1414) hx hb dL_law_1409 (by decide) (fun c_189 => ?_) (fun c_189 => ?_)
      · have hf := ite_t hf c_189
        refine lv_iload hx hb dL_law_1414 (lv_at hl 1 rfl) ?_
        refine lv_if_ne (tgt := 1431) hx hb dL_law_1416 (by decide) (fun c_190 => ?_) (fun c_190 => ?_)
        · have hf := ite_f hf c_190
          refine lv_goto (tgt := 2630) hx hb dL_law_1431 (by decide) ?_
          refine lv_iinc (v := y + 5) (lv' := [(4, .int (y + 5)), (6, .int z_187.1), (5, .int z_180.1), (0, .ref sb), (1, .ref (a 0 0)), (2, .ref (am 0)), (3, .ref b)]) hx hb dL_law_2630 hl (k := 6) rfl rfl (by decide) rfl (fun ls hl => ?_)
          refine lv_goto (tgt := 23) hx hb dL_law_2633 (by decide) ?_
          exact ih _ _ _ _ _ _ _ _ _ hf hP hS (lv_sub hl [3, 4, 5, 6, 0] rfl) (by omega) (by omega) (by omega) (by omega)
        · have hf := ite_t hf c_190
          refine lv_aload_n hx hb dL_law_1419 rfl (lv_at hl 5 rfl) ?_
          refine lv_iconst (v := 0) hx hb dL_law_1420 (by decide) ?_
          refine va_lald hx hb hK hP 100 2 rfl rfl (inb_in (i := 0) (n := 1) (by decide)) dL_law_1421 ?_
          refine lv_iload hx hb dL_law_1422 (lv_at hl 0 rfl) ?_
          refine lv_i2l (v := z_187.1.toInt64) hx hb dL_law_1424 rfl ?_
          refine W.lcmp hx hb dL_law_1425 ?_
          refine lv_if_eq (tgt := 1431) hx hb dL_law_1426 (by decide) (fun c_191 => ?_) (fun c_191 => ?_)
          · have hf := ite_t hf c_191
            refine lv_goto (tgt := 2630) hx hb dL_law_1431 (by decide) ?_
            refine lv_iinc (v := y + 5) (lv' := [(4, .int (y + 5)), (6, .int z_187.1), (5, .int z_180.1), (0, .ref sb), (1, .ref (a 0 0)), (2, .ref (am 0)), (3, .ref b)]) hx hb dL_law_2630 hl (k := 6) rfl rfl (by decide) rfl (fun ls hl => ?_)
            refine lv_goto (tgt := 23) hx hb dL_law_2633 (by decide) ?_
            exact ih _ _ _ _ _ _ _ _ _ hf hP hS (lv_sub hl [3, 4, 5, 6, 0] rfl) (by omega) (by omega) (by omega) (by omega)
          · have hf := ite_f hf c_191
            refine lv_iconst (v := 0) hx hb dL_law_1429 (by decide) ?_
            exact absurd (Option.some.inj hf) (by decide)
      · have hf := ite_f hf c_189
        refine lv_iconst (v := 0) hx hb dL_law_1412 (by decide) ?_
        exact absurd (Option.some.inj hf) (by decide)
  · have hf := ite_f hf c_179
    refine lv_iconst (v := 1) hx hb dL_law_1354 (by decide) ?_
    refine lv_goto (tgt := 1359) hx hb dL_law_1355 (by decide) ?_
    refine lv_aload_n hx hb dL_law_1359 rfl (lv_at hl 3 rfl) ?_
    obtain ⟨z_192, hz_192, hf⟩ := bn_some hf
    refine cLS (As := [.ref (a 0 0), .int (xs (y + 1).toNatClampNeg), .int (xs (y + 2).toNatClampNeg), .int (xs (y + 3).toNatClampNeg), .int 1, .ref b]) (rest := []) ⟨hx, hb, hml, hown, hts⟩ (c_L_lock l hst D cI cZ cJ cT a b H.size U g (xs (y + 1).toNatClampNeg) (xs (y + 2).toNatClampNeg) (xs (y + 3).toNatClampNeg) 1 z_192 hz_192) (vx_cwSW 6 hts (gM_law (gL_in gL_law_L_lock) gLK) rfl rfl rfl (by decide +kernel) ⟨Nat.le_of_ble_eq_true rfl, Nat.le_of_ble_eq_true rfl⟩) (fl_subM hP [0, 2] rfl) hK (fl_subDM (hDD U V g) [0, 2] rfl rfl) hE hNC hS (own_free (fl_subDM (hDD U V g) [0, 2] rfl rfl) hS hA) rfl rfl hl.1 (Nat.le_of_ble_eq_true rfl) dL_law_1360 ⟨(by show _ ≤ 600002; omega), (by show _ ≤ 7302232; omega)⟩ (fun H1 locs hP1 hk1 hS => ?_)
    have hP : va_P D cls (wW cI cZ cJ cT a am b z_192.2.1 V z_192.2.2) H1 := fl_joinM (cs' := [wI cI cZ cT a z_192.2.1, [(b, .inl (cJ, 1, .inr (.inl z_192.2.2)))]]) hP (hDD U V g) [0, 2] rfl rfl hk1 hP1
    clear hP1 hk1
    generalize H1 = H at hP hS ⊢
    refine lv_istore (lv' := [(5, .int z_192.1), (0, .ref sb), (1, .ref (a 0 0)), (2, .ref (am 0)), (3, .ref b), (4, .int y)]) hx hb dL_law_1363 hl (by decide) rfl (fun ls hl => ?_)
    refine lv_aload_n hx hb dL_law_1365 rfl (lv_at hl 3 rfl) ?_
    refine lv_aload_n hx hb dL_law_1366 rfl (lv_at hl 1 rfl) ?_
    refine lv_iload hx hb dL_law_1367 (lv_at hl 5 rfl) ?_
    refine lv_iconst (v := 1) hx hb dL_law_1369 (by decide) ?_
    refine lv_iadd hx hb dL_law_1370 ?_
    obtain ⟨hi, hf⟩ := chk_some hf
    refine va_sld hx hb hX hbl hbA hS (inb_in hi) dL_law_1371 ?_
    refine lv_aload_n hx hb dL_law_1372 rfl (lv_at hl 1 rfl) ?_
    refine lv_iload hx hb dL_law_1373 (lv_at hl 5 rfl) ?_
    refine lv_iconst (v := 2) hx hb dL_law_1375 (by decide) ?_
    refine lv_iadd hx hb dL_law_1376 ?_
    obtain ⟨hi, hf⟩ := chk_some hf
    refine va_sld hx hb hX hbl hbA hS (inb_in hi) dL_law_1377 ?_
    refine lv_aload_n hx hb dL_law_1378 rfl (lv_at hl 1 rfl) ?_
    refine lv_iload hx hb dL_law_1379 (lv_at hl 5 rfl) ?_
    refine lv_iconst (v := 3) hx hb dL_law_1381 (by decide) ?_
    refine lv_iadd hx hb dL_law_1382 ?_
    obtain ⟨hi, hf⟩ := chk_some hf
    refine va_sld hx hb hX hbl hbA hS (inb_in hi) dL_law_1383 ?_
    refine lv_aload_n hx hb dL_law_1384 rfl (lv_at hl 1 rfl) ?_
    refine lv_iload hx hb dL_law_1385 (lv_at hl 5 rfl) ?_
    refine lv_iconst (v := 4) hx hb dL_law_1387 (by decide) ?_
    refine lv_iadd hx hb dL_law_1388 ?_
    obtain ⟨hi, hf⟩ := chk_some hf
    refine va_sld hx hb hX hbl hbA hS (inb_in hi) dL_law_1389 ?_
    refine lv_if_eq (tgt := 1397) hx hb dL_law_1390 (by decide) (fun c_193 => ?_) (fun c_193 => ?_)
    · have hf := ite_t hf c_193
      refine lv_iconst (v := 0) hx hb dL_law_1397 (by decide) ?_
      obtain ⟨z_194, hz_194, hf⟩ := bn_some hf
      refine cWVi (As := [.int (xs (y + 1).toNatClampNeg), .int (xs (y + 2).toNatClampNeg), .int (xs (y + 3).toNatClampNeg), .int 0]) (rest := []) ⟨hx, hb, hml, hown, hts⟩ (c_X7_lock l D cI cZ cJ cT am H.size V (xs (y + 1).toNatClampNeg) (xs (y + 2).toNatClampNeg) (xs (y + 3).toNatClampNeg) 0 z_194 hz_194) (cwV 4 hts (gL_in gL_law_X7_lock) rfl rfl rfl (by decide +kernel) ⟨Nat.le_of_ble_eq_true rfl, Nat.le_of_ble_eq_true rfl⟩) (fl_sub hP 1 rfl) hK (fl_subD (hDD z_192.2.1 V z_192.2.2) 1 rfl) hS (fl_free (hDD z_192.2.1 V z_192.2.2) hS hA 1 rfl) (va_recv hK (fl_sub hP 1 rfl) (ci := 7) (q0 := 0) rfl rfl) rfl rfl hl.1 (Nat.le_of_ble_eq_true rfl) dL_law_1398 ⟨(by show _ ≤ 600002; omega), (by show _ ≤ 7302232; omega)⟩ (fun H1 locs hP1 hk1 hS => ?_)
      have hP : va_P D cls (wW cI cZ cJ cT a am b z_192.2.1 z_194.2 z_192.2.2) H1 := fl_join hP (hDD z_192.2.1 V z_192.2.2) 1 rfl hk1 hP1
      clear hP1 hk1
      generalize H1 = H at hP hS ⊢
      refine lv_istore (lv' := [(6, .int z_194.1), (5, .int z_192.1), (0, .ref sb), (1, .ref (a 0 0)), (2, .ref (am 0)), (3, .ref b), (4, .int y)]) hx hb dL_law_1401 hl (by decide) rfl (fun ls hl => ?_)
      refine lv_aload_n hx hb dL_law_1403 rfl (lv_at hl 4 rfl) ?_
      obtain ⟨z_195, hz_195, hf⟩ := bn_some hf
      refine cRV (As := []) (rest := []) ⟨hx, hb, hml, hown, hts⟩ (c_X7_thrown l D cI cZ cJ cT am z_194.2 z_195 hz_195) (cwV 0 hts (gL_in gL_law_X7_thrown) rfl rfl rfl (by decide +kernel) ⟨Nat.le_of_ble_eq_true rfl, Nat.le_of_ble_eq_true rfl⟩) (fl_sub hP 1 rfl) hK (va_recv hK (fl_sub hP 1 rfl) (ci := 7) (q0 := 0) rfl rfl) rfl rfl hl.1 (Nat.le_of_ble_eq_true rfl) dL_law_1404 ⟨(by show _ ≤ 600002; omega), (by show _ ≤ 7302232; omega)⟩ ?_
      refine lv_iload hx hb dL_law_1407 (lv_at hl 1 rfl) ?_
      refine lv_icmp_eq (tgt := 1414) hx hb dL_law_1409 (by decide) (fun c_196 => ?_) (fun c_196 => ?_)
      · have hf := ite_t hf c_196
        refine lv_iload hx hb dL_law_1414 (lv_at hl 1 rfl) ?_
        refine lv_if_ne (tgt := 1431) hx hb dL_law_1416 (by decide) (fun c_197 => ?_) (fun c_197 => ?_)
        · have hf := ite_f hf c_197
          refine lv_goto (tgt := 2630) hx hb dL_law_1431 (by decide) ?_
          refine lv_iinc (v := y + 5) (lv' := [(4, .int (y + 5)), (6, .int z_194.1), (5, .int z_192.1), (0, .ref sb), (1, .ref (a 0 0)), (2, .ref (am 0)), (3, .ref b)]) hx hb dL_law_2630 hl (k := 6) rfl rfl (by decide) rfl (fun ls hl => ?_)
          refine lv_goto (tgt := 23) hx hb dL_law_2633 (by decide) ?_
          exact ih _ _ _ _ _ _ _ _ _ hf hP hS (lv_sub hl [3, 4, 5, 6, 0] rfl) (by omega) (by omega) (by omega) (by omega)
        · have hf := ite_t hf c_197
          refine lv_aload_n hx hb dL_law_1419 rfl (lv_at hl 5 rfl) ?_
          refine lv_iconst (v := 0) hx hb dL_law_1420 (by decide) ?_
          refine va_lald hx hb hK hP 100 2 rfl rfl (inb_in (i := 0) (n := 1) (by decide)) dL_law_1421 ?_
          refine lv_iload hx hb dL_law_1422 (lv_at hl 0 rfl) ?_
          refine lv_i2l (v := z_194.1.toInt64) hx hb dL_law_1424 rfl ?_
          refine W.lcmp hx hb dL_law_1425 ?_
          refine lv_if_eq (tgt := 1431) hx hb dL_law_1426 (by decide) (fun c_198 => ?_) (fun c_198 => ?_)
          · have hf := ite_t hf c_198
            refine lv_goto (tgt := 2630) hx hb dL_law_1431 (by decide) ?_
            refine lv_iinc (v := y + 5) (lv' := [(4, .int (y + 5)), (6, .int z_194.1), (5, .int z_192.1), (0, .ref sb), (1, .ref (a 0 0)), (2, .ref (am 0)), (3, .ref b)]) hx hb dL_law_2630 hl (k := 6) rfl rfl (by decide) rfl (fun ls hl => ?_)
            refine lv_goto (tgt := 23) hx hb dL_law_2633 (by decide) ?_
            exact ih _ _ _ _ _ _ _ _ _ hf hP hS (lv_sub hl [3, 4, 5, 6, 0] rfl) (by omega) (by omega) (by omega) (by omega)
          · have hf := ite_f hf c_198
            refine lv_iconst (v := 0) hx hb dL_law_1429 (by decide) ?_
            exact absurd (Option.some.inj hf) (by decide)
      · have hf := ite_f hf c_196
        refine lv_iconst (v := 0) hx hb dL_law_1412 (by decide) ?_
        exact absurd (Option.some.inj hf) (by decide)
    · have hf := ite_f hf c_193
      refine lv_iconst (v := 1) hx hb dL_law_1393 (by decide) ?_
      refine lv_goto (tgt := 1398) hx hb dL_law_1394 (by decide) ?_
      obtain ⟨z_199, hz_199, hf⟩ := bn_some hf
      refine cWVi (As := [.int (xs (y + 1).toNatClampNeg), .int (xs (y + 2).toNatClampNeg), .int (xs (y + 3).toNatClampNeg), .int 1]) (rest := []) ⟨hx, hb, hml, hown, hts⟩ (c_X7_lock l D cI cZ cJ cT am H.size V (xs (y + 1).toNatClampNeg) (xs (y + 2).toNatClampNeg) (xs (y + 3).toNatClampNeg) 1 z_199 hz_199) (cwV 4 hts (gL_in gL_law_X7_lock) rfl rfl rfl (by decide +kernel) ⟨Nat.le_of_ble_eq_true rfl, Nat.le_of_ble_eq_true rfl⟩) (fl_sub hP 1 rfl) hK (fl_subD (hDD z_192.2.1 V z_192.2.2) 1 rfl) hS (fl_free (hDD z_192.2.1 V z_192.2.2) hS hA 1 rfl) (va_recv hK (fl_sub hP 1 rfl) (ci := 7) (q0 := 0) rfl rfl) rfl rfl hl.1 (Nat.le_of_ble_eq_true rfl) dL_law_1398 ⟨(by show _ ≤ 600002; omega), (by show _ ≤ 7302232; omega)⟩ (fun H1 locs hP1 hk1 hS => ?_)
      have hP : va_P D cls (wW cI cZ cJ cT a am b z_192.2.1 z_199.2 z_192.2.2) H1 := fl_join hP (hDD z_192.2.1 V z_192.2.2) 1 rfl hk1 hP1
      clear hP1 hk1
      generalize H1 = H at hP hS ⊢
      refine lv_istore (lv' := [(6, .int z_199.1), (5, .int z_192.1), (0, .ref sb), (1, .ref (a 0 0)), (2, .ref (am 0)), (3, .ref b), (4, .int y)]) hx hb dL_law_1401 hl (by decide) rfl (fun ls hl => ?_)
      refine lv_aload_n hx hb dL_law_1403 rfl (lv_at hl 4 rfl) ?_
      obtain ⟨z_200, hz_200, hf⟩ := bn_some hf
      refine cRV (As := []) (rest := []) ⟨hx, hb, hml, hown, hts⟩ (c_X7_thrown l D cI cZ cJ cT am z_199.2 z_200 hz_200) (cwV 0 hts (gL_in gL_law_X7_thrown) rfl rfl rfl (by decide +kernel) ⟨Nat.le_of_ble_eq_true rfl, Nat.le_of_ble_eq_true rfl⟩) (fl_sub hP 1 rfl) hK (va_recv hK (fl_sub hP 1 rfl) (ci := 7) (q0 := 0) rfl rfl) rfl rfl hl.1 (Nat.le_of_ble_eq_true rfl) dL_law_1404 ⟨(by show _ ≤ 600002; omega), (by show _ ≤ 7302232; omega)⟩ ?_
      refine lv_iload hx hb dL_law_1407 (lv_at hl 1 rfl) ?_
      refine lv_icmp_eq (tgt := 1414) hx hb dL_law_1409 (by decide) (fun c_201 => ?_) (fun c_201 => ?_)
      · have hf := ite_t hf c_201
        refine lv_iload hx hb dL_law_1414 (lv_at hl 1 rfl) ?_
        refine lv_if_ne (tgt := 1431) hx hb dL_law_1416 (by decide) (fun c_202 => ?_) (fun c_202 => ?_)
        · have hf := ite_f hf c_202
          refine lv_goto (tgt := 2630) hx hb dL_law_1431 (by decide) ?_
          refine lv_iinc (v := y + 5) (lv' := [(4, .int (y + 5)), (6, .int z_199.1), (5, .int z_192.1), (0, .ref sb), (1, .ref (a 0 0)), (2, .ref (am 0)), (3, .ref b)]) hx hb dL_law_2630 hl (k := 6) rfl rfl (by decide) rfl (fun ls hl => ?_)
          refine lv_goto (tgt := 23) hx hb dL_law_2633 (by decide) ?_
          exact ih _ _ _ _ _ _ _ _ _ hf hP hS (lv_sub hl [3, 4, 5, 6, 0] rfl) (by omega) (by omega) (by omega) (by omega)
        · have hf := ite_t hf c_202
          refine lv_aload_n hx hb dL_law_1419 rfl (lv_at hl 5 rfl) ?_
          refine lv_iconst (v := 0) hx hb dL_law_1420 (by decide) ?_
          refine va_lald hx hb hK hP 100 2 rfl rfl (inb_in (i := 0) (n := 1) (by decide)) dL_law_1421 ?_
          refine lv_iload hx hb dL_law_1422 (lv_at hl 0 rfl) ?_
          refine lv_i2l (v := z_199.1.toInt64) hx hb dL_law_1424 rfl ?_
          refine W.lcmp hx hb dL_law_1425 ?_
          refine lv_if_eq (tgt := 1431) hx hb dL_law_1426 (by decide) (fun c_203 => ?_) (fun c_203 => ?_)
          · have hf := ite_t hf c_203
            refine lv_goto (tgt := 2630) hx hb dL_law_1431 (by decide) ?_
            refine lv_iinc (v := y + 5) (lv' := [(4, .int (y + 5)), (6, .int z_199.1), (5, .int z_192.1), (0, .ref sb), (1, .ref (a 0 0)), (2, .ref (am 0)), (3, .ref b)]) hx hb dL_law_2630 hl (k := 6) rfl rfl (by decide) rfl (fun ls hl => ?_)
            refine lv_goto (tgt := 23) hx hb dL_law_2633 (by decide) ?_
            exact ih _ _ _ _ _ _ _ _ _ hf hP hS (lv_sub hl [3, 4, 5, 6, 0] rfl) (by omega) (by omega) (by omega) (by omega)
          · have hf := ite_f hf c_203
            refine lv_iconst (v := 0) hx hb dL_law_1429 (by decide) ?_
            exact absurd (Option.some.inj hf) (by decide)
      · have hf := ite_f hf c_201
        refine lv_iconst (v := 0) hx hb dL_law_1412 (by decide) ?_
        exact absurd (Option.some.inj hf) (by decide)
def law_B17 (L : Nat) (xs : Nat → Int32) (r23 : Int32 → S2 → S1 → (Nat → Int64) → Option Int32) (y : Int32) (U : S2) (V : S1) (g : Nat → Int64) : Option Int32 := chk (inb (y + 1) L) (chk (inb (y + 2) L) (chk (inb (y + 3) L) (bn (f_L_unlock U g (xs (y + 1).toNatClampNeg) (xs (y + 2).toNatClampNeg) (xs (y + 3).toNatClampNeg)) (fun z_204 => chk (inb (y + 1) L) (chk (inb (y + 2) L) (chk (inb (y + 3) L) (bn (f_X7_unlock V (xs (y + 1).toNatClampNeg) (xs (y + 2).toNatClampNeg) (xs (y + 3).toNatClampNeg)) (fun z_205 => bn (f_X7_thrown z_205.2) (fun z_206 => if z_206 = z_204.1 then if z_204.1 = 0 then if (lg_cmp (z_204.2.2 (0 : Int32).toNatClampNeg) z_205.1.toInt64) = 0 then r23 (y + 5) z_204.2.1 z_205.2 z_204.2.2 else some 0 else r23 (y + 5) z_204.2.1 z_205.2 z_204.2.2 else some 0)))))))))
set_option maxHeartbeats 40000000 in
set_option maxRecDepth 100000 in
theorem law_case17 {p : Program} {l : Launch} {e : Env} {s : State} {m : MethodId} {below : List Frame} {meth : Method} {c : Code} {D : va_G} {cI cZ cJ cT : ClassId} {sb L : Nat} {xs : Nat → Int32} (hst : l.stackTraces = false) (C0 : lw_At p s m meth c sb L xs) (hK : va_K D cls (tys cI cZ cJ cT) s) (hE : EX (fun q : Nat => s.heap.size ≤ q) s) (hNC : NC s) (a : Nat → Nat → Nat) (am : Nat → Nat) (b : Nat) (hDD : ∀ (U : S2) (V : S1) (g : Nat → Int64), va_D (fun q : Nat => s.heap.size ≤ q) (wW cI cZ cJ cT a am b U V g)) (r23 : Int32 → S2 → S1 → (Nat → Int64) → Option Int32) (n : Nat) (ih : ∀ (y : Int32) (U : S2) (V : S1) (g : Nat → Int64) (H : Heap) (locs : List Loc) (ls : Array Slot) (nc ns : Nat), r23 y U V g = some 1 → va_P D cls (wW cI cZ cJ cT a am b U V g) H → va_S (fun q : Nat => s.heap.size ≤ q) s.heap H locs → lv_has ls 7 [(0, .ref sb), (1, .ref (a 0 0)), (2, .ref (am 0)), (3, .ref b), (4, .int y)] → nc + 8 * n ≤ 600002 → ns + 48 * n ≤ 7302232 → nc ≤ 600002 → ns ≤ 7302232 → W p l e room_1 s m #[Value.ref sb] below meth c H locs nc ns (lw_Z below #[Value.ref sb] s) (F0 m 23 ls [])) (y : Int32) (U : S2) (V : S1) (g : Nat → Int64) (H : Heap) (locs : List Loc) (ls : Array Slot) (nc ns : Nat) (hf : law_B17 L xs r23 y U V g = some 1) (hP : va_P D cls (wW cI cZ cJ cT a am b U V g) H) (hS : va_S (fun q : Nat => s.heap.size ≤ q) s.heap H locs) (hl : lv_has ls 7 [(0, .ref sb), (1, .ref (a 0 0)), (2, .ref (am 0)), (3, .ref b), (4, .int y)]) (hc1 : nc + 8 * (n + 1) ≤ 600002) (hc2 : ns + 48 * (n + 1) ≤ 7302232) (hc3 : nc ≤ 600002) (hc4 : ns ≤ 7302232) : W p l e room_1 s m #[Value.ref sb] below meth c H locs nc ns (lw_Z below #[Value.ref sb] s) (F0 m 1434 ls []) := by
  obtain ⟨hx, hb, hr, hml, hown, hts, hX, hbl, hlocks, hgv⟩ := id C0
  have hA : ∀ q : Nat, s.heap.size ≤ q → (fun q : Nat => s.heap.size ≤ q) q := fun _ h => h
  have hbA : ¬ (fun q : Nat => s.heap.size ≤ q) sb := Nat.not_le.mpr hbl
  unfold law_B17 at hf
  refine lv_aload_n hx hb dL_law_1434 rfl (lv_at hl 1 rfl) ?_
  refine lv_aload_n hx hb dL_law_1435 rfl (lv_at hl 0 rfl) ?_
  refine lv_iload hx hb dL_law_1436 (lv_at hl 4 rfl) ?_
  refine lv_iconst (v := 1) hx hb dL_law_1438 (by decide) ?_
  refine lv_iadd hx hb dL_law_1439 ?_
  obtain ⟨hi, hf⟩ := chk_some hf
  refine va_sld hx hb hX hbl hbA hS (inb_in hi) dL_law_1440 ?_
  refine lv_aload_n hx hb dL_law_1441 rfl (lv_at hl 0 rfl) ?_
  refine lv_iload hx hb dL_law_1442 (lv_at hl 4 rfl) ?_
  refine lv_iconst (v := 2) hx hb dL_law_1444 (by decide) ?_
  refine lv_iadd hx hb dL_law_1445 ?_
  obtain ⟨hi, hf⟩ := chk_some hf
  refine va_sld hx hb hX hbl hbA hS (inb_in hi) dL_law_1446 ?_
  refine lv_aload_n hx hb dL_law_1447 rfl (lv_at hl 0 rfl) ?_
  refine lv_iload hx hb dL_law_1448 (lv_at hl 4 rfl) ?_
  refine lv_iconst (v := 3) hx hb dL_law_1450 (by decide) ?_
  refine lv_iadd hx hb dL_law_1451 ?_
  obtain ⟨hi, hf⟩ := chk_some hf
  refine va_sld hx hb hX hbl hbA hS (inb_in hi) dL_law_1452 ?_
  refine lv_aload_n hx hb dL_law_1453 rfl (lv_at hl 3 rfl) ?_
  obtain ⟨z_204, hz_204, hf⟩ := bn_some hf
  refine cLS (As := [.ref (a 0 0), .int (xs (y + 1).toNatClampNeg), .int (xs (y + 2).toNatClampNeg), .int (xs (y + 3).toNatClampNeg), .ref b]) (rest := []) ⟨hx, hb, hml, hown, hts⟩ (c_L_unlock l hst D cI cZ cJ cT a b H.size U g (xs (y + 1).toNatClampNeg) (xs (y + 2).toNatClampNeg) (xs (y + 3).toNatClampNeg) z_204 hz_204) (vx_cwSW 5 hts (gM_law (gL_in gL_law_L_unlock) gLK) rfl rfl rfl (by decide +kernel) ⟨Nat.le_of_ble_eq_true rfl, Nat.le_of_ble_eq_true rfl⟩) (fl_subM hP [0, 2] rfl) hK (fl_subDM (hDD U V g) [0, 2] rfl rfl) hE hNC hS (own_free (fl_subDM (hDD U V g) [0, 2] rfl rfl) hS hA) rfl rfl hl.1 (Nat.le_of_ble_eq_true rfl) dL_law_1454 ⟨(by show _ ≤ 600002; omega), (by show _ ≤ 7302232; omega)⟩ (fun H1 locs hP1 hk1 hS => ?_)
  have hP : va_P D cls (wW cI cZ cJ cT a am b z_204.2.1 V z_204.2.2) H1 := fl_joinM (cs' := [wI cI cZ cT a z_204.2.1, [(b, .inl (cJ, 1, .inr (.inl z_204.2.2)))]]) hP (hDD U V g) [0, 2] rfl rfl hk1 hP1
  clear hP1 hk1
  generalize H1 = H at hP hS ⊢
  refine lv_istore (lv' := [(5, .int z_204.1), (0, .ref sb), (1, .ref (a 0 0)), (2, .ref (am 0)), (3, .ref b), (4, .int y)]) hx hb dL_law_1457 hl (by decide) rfl (fun ls hl => ?_)
  refine lv_aload_n hx hb dL_law_1459 rfl (lv_at hl 3 rfl) ?_
  refine lv_aload_n hx hb dL_law_1460 rfl (lv_at hl 1 rfl) ?_
  refine lv_iload hx hb dL_law_1461 (lv_at hl 5 rfl) ?_
  refine lv_iconst (v := 1) hx hb dL_law_1463 (by decide) ?_
  refine lv_iadd hx hb dL_law_1464 ?_
  obtain ⟨hi, hf⟩ := chk_some hf
  refine va_sld hx hb hX hbl hbA hS (inb_in hi) dL_law_1465 ?_
  refine lv_aload_n hx hb dL_law_1466 rfl (lv_at hl 1 rfl) ?_
  refine lv_iload hx hb dL_law_1467 (lv_at hl 5 rfl) ?_
  refine lv_iconst (v := 2) hx hb dL_law_1469 (by decide) ?_
  refine lv_iadd hx hb dL_law_1470 ?_
  obtain ⟨hi, hf⟩ := chk_some hf
  refine va_sld hx hb hX hbl hbA hS (inb_in hi) dL_law_1471 ?_
  refine lv_aload_n hx hb dL_law_1472 rfl (lv_at hl 1 rfl) ?_
  refine lv_iload hx hb dL_law_1473 (lv_at hl 5 rfl) ?_
  refine lv_iconst (v := 3) hx hb dL_law_1475 (by decide) ?_
  refine lv_iadd hx hb dL_law_1476 ?_
  obtain ⟨hi, hf⟩ := chk_some hf
  refine va_sld hx hb hX hbl hbA hS (inb_in hi) dL_law_1477 ?_
  obtain ⟨z_205, hz_205, hf⟩ := bn_some hf
  refine cWVi (As := [.int (xs (y + 1).toNatClampNeg), .int (xs (y + 2).toNatClampNeg), .int (xs (y + 3).toNatClampNeg)]) (rest := []) ⟨hx, hb, hml, hown, hts⟩ (c_X7_unlock l D cI cZ cJ cT am H.size V (xs (y + 1).toNatClampNeg) (xs (y + 2).toNatClampNeg) (xs (y + 3).toNatClampNeg) z_205 hz_205) (cwV 3 hts (gL_in gL_law_X7_unlock) rfl rfl rfl (by decide +kernel) ⟨Nat.le_of_ble_eq_true rfl, Nat.le_of_ble_eq_true rfl⟩) (fl_sub hP 1 rfl) hK (fl_subD (hDD z_204.2.1 V z_204.2.2) 1 rfl) hS (fl_free (hDD z_204.2.1 V z_204.2.2) hS hA 1 rfl) (va_recv hK (fl_sub hP 1 rfl) (ci := 7) (q0 := 0) rfl rfl) rfl rfl hl.1 (Nat.le_of_ble_eq_true rfl) dL_law_1478 ⟨(by show _ ≤ 600002; omega), (by show _ ≤ 7302232; omega)⟩ (fun H1 locs hP1 hk1 hS => ?_)
  have hP : va_P D cls (wW cI cZ cJ cT a am b z_204.2.1 z_205.2 z_204.2.2) H1 := fl_join hP (hDD z_204.2.1 V z_204.2.2) 1 rfl hk1 hP1
  clear hP1 hk1
  generalize H1 = H at hP hS ⊢
  refine lv_istore (lv' := [(6, .int z_205.1), (5, .int z_204.1), (0, .ref sb), (1, .ref (a 0 0)), (2, .ref (am 0)), (3, .ref b), (4, .int y)]) hx hb dL_law_1481 hl (by decide) rfl (fun ls hl => ?_)
  refine lv_aload_n hx hb dL_law_1483 rfl (lv_at hl 4 rfl) ?_
  obtain ⟨z_206, hz_206, hf⟩ := bn_some hf
  refine cRV (As := []) (rest := []) ⟨hx, hb, hml, hown, hts⟩ (c_X7_thrown l D cI cZ cJ cT am z_205.2 z_206 hz_206) (cwV 0 hts (gL_in gL_law_X7_thrown) rfl rfl rfl (by decide +kernel) ⟨Nat.le_of_ble_eq_true rfl, Nat.le_of_ble_eq_true rfl⟩) (fl_sub hP 1 rfl) hK (va_recv hK (fl_sub hP 1 rfl) (ci := 7) (q0 := 0) rfl rfl) rfl rfl hl.1 (Nat.le_of_ble_eq_true rfl) dL_law_1484 ⟨(by show _ ≤ 600002; omega), (by show _ ≤ 7302232; omega)⟩ ?_
  refine lv_iload hx hb dL_law_1487 (lv_at hl 1 rfl) ?_
  refine lv_icmp_eq (tgt := 1494) hx hb dL_law_1489 (by decide) (fun c_207 => ?_) (fun c_207 => ?_)
  · have hf := ite_t hf c_207
    refine lv_iload hx hb dL_law_1494 (lv_at hl 1 rfl) ?_
    refine lv_if_ne (tgt := 1511) hx hb dL_law_1496 (by decide) (fun c_208 => ?_) (fun c_208 => ?_)
    · have hf := ite_f hf c_208
      refine lv_goto (tgt := 2630) hx hb dL_law_1511 (by decide) ?_
      refine lv_iinc (v := y + 5) (lv' := [(4, .int (y + 5)), (6, .int z_205.1), (5, .int z_204.1), (0, .ref sb), (1, .ref (a 0 0)), (2, .ref (am 0)), (3, .ref b)]) hx hb dL_law_2630 hl (k := 6) rfl rfl (by decide) rfl (fun ls hl => ?_)
      refine lv_goto (tgt := 23) hx hb dL_law_2633 (by decide) ?_
      exact ih _ _ _ _ _ _ _ _ _ hf hP hS (lv_sub hl [3, 4, 5, 6, 0] rfl) (by omega) (by omega) (by omega) (by omega)
    · have hf := ite_t hf c_208
      refine lv_aload_n hx hb dL_law_1499 rfl (lv_at hl 5 rfl) ?_
      refine lv_iconst (v := 0) hx hb dL_law_1500 (by decide) ?_
      refine va_lald hx hb hK hP 100 2 rfl rfl (inb_in (i := 0) (n := 1) (by decide)) dL_law_1501 ?_
      refine lv_iload hx hb dL_law_1502 (lv_at hl 0 rfl) ?_
      refine lv_i2l (v := z_205.1.toInt64) hx hb dL_law_1504 rfl ?_
      refine W.lcmp hx hb dL_law_1505 ?_
      refine lv_if_eq (tgt := 1511) hx hb dL_law_1506 (by decide) (fun c_209 => ?_) (fun c_209 => ?_)
      · have hf := ite_t hf c_209
        refine lv_goto (tgt := 2630) hx hb dL_law_1511 (by decide) ?_
        refine lv_iinc (v := y + 5) (lv' := [(4, .int (y + 5)), (6, .int z_205.1), (5, .int z_204.1), (0, .ref sb), (1, .ref (a 0 0)), (2, .ref (am 0)), (3, .ref b)]) hx hb dL_law_2630 hl (k := 6) rfl rfl (by decide) rfl (fun ls hl => ?_)
        refine lv_goto (tgt := 23) hx hb dL_law_2633 (by decide) ?_
        exact ih _ _ _ _ _ _ _ _ _ hf hP hS (lv_sub hl [3, 4, 5, 6, 0] rfl) (by omega) (by omega) (by omega) (by omega)
      · have hf := ite_f hf c_209
        refine lv_iconst (v := 0) hx hb dL_law_1509 (by decide) ?_
        exact absurd (Option.some.inj hf) (by decide)
  · have hf := ite_f hf c_207
    refine lv_iconst (v := 0) hx hb dL_law_1492 (by decide) ?_
    exact absurd (Option.some.inj hf) (by decide)
def law_B18 (L : Nat) (xs : Nat → Int32) (r23 : Int32 → S2 → S1 → (Nat → Int64) → Option Int32) (y : Int32) (U : S2) (V : S1) (g : Nat → Int64) : Option Int32 := chk (inb (y + 1) L) (chk (inb (y + 2) L) (bn (f_L_lockOf U g (xs (y + 1).toNatClampNeg) (xs (y + 2).toNatClampNeg)) (fun z_210 => chk (inb (y + 1) L) (chk (inb (y + 2) L) (bn (f_X7_lockOf V (xs (y + 1).toNatClampNeg) (xs (y + 2).toNatClampNeg)) (fun z_211 => bn (f_X7_thrown z_211.2) (fun z_212 => if z_212 = z_210.1 then if z_210.1 = 0 then if (lg_cmp (z_210.2.2 (0 : Int32).toNatClampNeg) z_211.1.toInt64) = 0 then r23 (y + 5) z_210.2.1 z_211.2 z_210.2.2 else some 0 else r23 (y + 5) z_210.2.1 z_211.2 z_210.2.2 else some 0)))))))
set_option maxHeartbeats 40000000 in
set_option maxRecDepth 100000 in
theorem law_case18 {p : Program} {l : Launch} {e : Env} {s : State} {m : MethodId} {below : List Frame} {meth : Method} {c : Code} {D : va_G} {cI cZ cJ cT : ClassId} {sb L : Nat} {xs : Nat → Int32} (hst : l.stackTraces = false) (C0 : lw_At p s m meth c sb L xs) (hK : va_K D cls (tys cI cZ cJ cT) s) (hE : EX (fun q : Nat => s.heap.size ≤ q) s) (hNC : NC s) (a : Nat → Nat → Nat) (am : Nat → Nat) (b : Nat) (hDD : ∀ (U : S2) (V : S1) (g : Nat → Int64), va_D (fun q : Nat => s.heap.size ≤ q) (wW cI cZ cJ cT a am b U V g)) (r23 : Int32 → S2 → S1 → (Nat → Int64) → Option Int32) (n : Nat) (ih : ∀ (y : Int32) (U : S2) (V : S1) (g : Nat → Int64) (H : Heap) (locs : List Loc) (ls : Array Slot) (nc ns : Nat), r23 y U V g = some 1 → va_P D cls (wW cI cZ cJ cT a am b U V g) H → va_S (fun q : Nat => s.heap.size ≤ q) s.heap H locs → lv_has ls 7 [(0, .ref sb), (1, .ref (a 0 0)), (2, .ref (am 0)), (3, .ref b), (4, .int y)] → nc + 8 * n ≤ 600002 → ns + 48 * n ≤ 7302232 → nc ≤ 600002 → ns ≤ 7302232 → W p l e room_1 s m #[Value.ref sb] below meth c H locs nc ns (lw_Z below #[Value.ref sb] s) (F0 m 23 ls [])) (y : Int32) (U : S2) (V : S1) (g : Nat → Int64) (H : Heap) (locs : List Loc) (ls : Array Slot) (nc ns : Nat) (hf : law_B18 L xs r23 y U V g = some 1) (hP : va_P D cls (wW cI cZ cJ cT a am b U V g) H) (hS : va_S (fun q : Nat => s.heap.size ≤ q) s.heap H locs) (hl : lv_has ls 7 [(0, .ref sb), (1, .ref (a 0 0)), (2, .ref (am 0)), (3, .ref b), (4, .int y)]) (hc1 : nc + 8 * (n + 1) ≤ 600002) (hc2 : ns + 48 * (n + 1) ≤ 7302232) (hc3 : nc ≤ 600002) (hc4 : ns ≤ 7302232) : W p l e room_1 s m #[Value.ref sb] below meth c H locs nc ns (lw_Z below #[Value.ref sb] s) (F0 m 1514 ls []) := by
  obtain ⟨hx, hb, hr, hml, hown, hts, hX, hbl, hlocks, hgv⟩ := id C0
  have hA : ∀ q : Nat, s.heap.size ≤ q → (fun q : Nat => s.heap.size ≤ q) q := fun _ h => h
  have hbA : ¬ (fun q : Nat => s.heap.size ≤ q) sb := Nat.not_le.mpr hbl
  unfold law_B18 at hf
  refine lv_aload_n hx hb dL_law_1514 rfl (lv_at hl 1 rfl) ?_
  refine lv_aload_n hx hb dL_law_1515 rfl (lv_at hl 0 rfl) ?_
  refine lv_iload hx hb dL_law_1516 (lv_at hl 4 rfl) ?_
  refine lv_iconst (v := 1) hx hb dL_law_1518 (by decide) ?_
  refine lv_iadd hx hb dL_law_1519 ?_
  obtain ⟨hi, hf⟩ := chk_some hf
  refine va_sld hx hb hX hbl hbA hS (inb_in hi) dL_law_1520 ?_
  refine lv_aload_n hx hb dL_law_1521 rfl (lv_at hl 0 rfl) ?_
  refine lv_iload hx hb dL_law_1522 (lv_at hl 4 rfl) ?_
  refine lv_iconst (v := 2) hx hb dL_law_1524 (by decide) ?_
  refine lv_iadd hx hb dL_law_1525 ?_
  obtain ⟨hi, hf⟩ := chk_some hf
  refine va_sld hx hb hX hbl hbA hS (inb_in hi) dL_law_1526 ?_
  refine lv_aload_n hx hb dL_law_1527 rfl (lv_at hl 3 rfl) ?_
  obtain ⟨z_210, hz_210, hf⟩ := bn_some hf
  refine cLS (As := [.ref (a 0 0), .int (xs (y + 1).toNatClampNeg), .int (xs (y + 2).toNatClampNeg), .ref b]) (rest := []) ⟨hx, hb, hml, hown, hts⟩ (c_L_lockOf l hst D cI cZ cJ cT a b H.size U g (xs (y + 1).toNatClampNeg) (xs (y + 2).toNatClampNeg) z_210 hz_210) (vx_cwSW 4 hts (gM_law (gL_in gL_law_L_lockOf) gLK) rfl rfl rfl (by decide +kernel) ⟨Nat.le_of_ble_eq_true rfl, Nat.le_of_ble_eq_true rfl⟩) (fl_subM hP [0, 2] rfl) hK (fl_subDM (hDD U V g) [0, 2] rfl rfl) hE hNC hS (own_free (fl_subDM (hDD U V g) [0, 2] rfl rfl) hS hA) rfl rfl hl.1 (Nat.le_of_ble_eq_true rfl) dL_law_1528 ⟨(by show _ ≤ 600002; omega), (by show _ ≤ 7302232; omega)⟩ (fun H1 locs hP1 hk1 hS => ?_)
  have hP : va_P D cls (wW cI cZ cJ cT a am b z_210.2.1 V z_210.2.2) H1 := fl_joinM (cs' := [wI cI cZ cT a z_210.2.1, [(b, .inl (cJ, 1, .inr (.inl z_210.2.2)))]]) hP (hDD U V g) [0, 2] rfl rfl hk1 hP1
  clear hP1 hk1
  generalize H1 = H at hP hS ⊢
  refine lv_istore (lv' := [(5, .int z_210.1), (0, .ref sb), (1, .ref (a 0 0)), (2, .ref (am 0)), (3, .ref b), (4, .int y)]) hx hb dL_law_1531 hl (by decide) rfl (fun ls hl => ?_)
  refine lv_aload_n hx hb dL_law_1533 rfl (lv_at hl 3 rfl) ?_
  refine lv_aload_n hx hb dL_law_1534 rfl (lv_at hl 1 rfl) ?_
  refine lv_iload hx hb dL_law_1535 (lv_at hl 5 rfl) ?_
  refine lv_iconst (v := 1) hx hb dL_law_1537 (by decide) ?_
  refine lv_iadd hx hb dL_law_1538 ?_
  obtain ⟨hi, hf⟩ := chk_some hf
  refine va_sld hx hb hX hbl hbA hS (inb_in hi) dL_law_1539 ?_
  refine lv_aload_n hx hb dL_law_1540 rfl (lv_at hl 1 rfl) ?_
  refine lv_iload hx hb dL_law_1541 (lv_at hl 5 rfl) ?_
  refine lv_iconst (v := 2) hx hb dL_law_1543 (by decide) ?_
  refine lv_iadd hx hb dL_law_1544 ?_
  obtain ⟨hi, hf⟩ := chk_some hf
  refine va_sld hx hb hX hbl hbA hS (inb_in hi) dL_law_1545 ?_
  obtain ⟨z_211, hz_211, hf⟩ := bn_some hf
  refine cWVi (As := [.int (xs (y + 1).toNatClampNeg), .int (xs (y + 2).toNatClampNeg)]) (rest := []) ⟨hx, hb, hml, hown, hts⟩ (c_X7_lockOf l D cI cZ cJ cT am H.size V (xs (y + 1).toNatClampNeg) (xs (y + 2).toNatClampNeg) z_211 hz_211) (cwV 2 hts (gL_in gL_law_X7_lockOf) rfl rfl rfl (by decide +kernel) ⟨Nat.le_of_ble_eq_true rfl, Nat.le_of_ble_eq_true rfl⟩) (fl_sub hP 1 rfl) hK (fl_subD (hDD z_210.2.1 V z_210.2.2) 1 rfl) hS (fl_free (hDD z_210.2.1 V z_210.2.2) hS hA 1 rfl) (va_recv hK (fl_sub hP 1 rfl) (ci := 7) (q0 := 0) rfl rfl) rfl rfl hl.1 (Nat.le_of_ble_eq_true rfl) dL_law_1546 ⟨(by show _ ≤ 600002; omega), (by show _ ≤ 7302232; omega)⟩ (fun H1 locs hP1 hk1 hS => ?_)
  have hP : va_P D cls (wW cI cZ cJ cT a am b z_210.2.1 z_211.2 z_210.2.2) H1 := fl_join hP (hDD z_210.2.1 V z_210.2.2) 1 rfl hk1 hP1
  clear hP1 hk1
  generalize H1 = H at hP hS ⊢
  refine lv_istore (lv' := [(6, .int z_211.1), (5, .int z_210.1), (0, .ref sb), (1, .ref (a 0 0)), (2, .ref (am 0)), (3, .ref b), (4, .int y)]) hx hb dL_law_1549 hl (by decide) rfl (fun ls hl => ?_)
  refine lv_aload_n hx hb dL_law_1551 rfl (lv_at hl 4 rfl) ?_
  obtain ⟨z_212, hz_212, hf⟩ := bn_some hf
  refine cRV (As := []) (rest := []) ⟨hx, hb, hml, hown, hts⟩ (c_X7_thrown l D cI cZ cJ cT am z_211.2 z_212 hz_212) (cwV 0 hts (gL_in gL_law_X7_thrown) rfl rfl rfl (by decide +kernel) ⟨Nat.le_of_ble_eq_true rfl, Nat.le_of_ble_eq_true rfl⟩) (fl_sub hP 1 rfl) hK (va_recv hK (fl_sub hP 1 rfl) (ci := 7) (q0 := 0) rfl rfl) rfl rfl hl.1 (Nat.le_of_ble_eq_true rfl) dL_law_1552 ⟨(by show _ ≤ 600002; omega), (by show _ ≤ 7302232; omega)⟩ ?_
  refine lv_iload hx hb dL_law_1555 (lv_at hl 1 rfl) ?_
  refine lv_icmp_eq (tgt := 1562) hx hb dL_law_1557 (by decide) (fun c_213 => ?_) (fun c_213 => ?_)
  · have hf := ite_t hf c_213
    refine lv_iload hx hb dL_law_1562 (lv_at hl 1 rfl) ?_
    refine lv_if_ne (tgt := 1579) hx hb dL_law_1564 (by decide) (fun c_214 => ?_) (fun c_214 => ?_)
    · have hf := ite_f hf c_214
      refine lv_goto (tgt := 2630) hx hb dL_law_1579 (by decide) ?_
      refine lv_iinc (v := y + 5) (lv' := [(4, .int (y + 5)), (6, .int z_211.1), (5, .int z_210.1), (0, .ref sb), (1, .ref (a 0 0)), (2, .ref (am 0)), (3, .ref b)]) hx hb dL_law_2630 hl (k := 6) rfl rfl (by decide) rfl (fun ls hl => ?_)
      refine lv_goto (tgt := 23) hx hb dL_law_2633 (by decide) ?_
      exact ih _ _ _ _ _ _ _ _ _ hf hP hS (lv_sub hl [3, 4, 5, 6, 0] rfl) (by omega) (by omega) (by omega) (by omega)
    · have hf := ite_t hf c_214
      refine lv_aload_n hx hb dL_law_1567 rfl (lv_at hl 5 rfl) ?_
      refine lv_iconst (v := 0) hx hb dL_law_1568 (by decide) ?_
      refine va_lald hx hb hK hP 100 2 rfl rfl (inb_in (i := 0) (n := 1) (by decide)) dL_law_1569 ?_
      refine lv_iload hx hb dL_law_1570 (lv_at hl 0 rfl) ?_
      refine lv_i2l (v := z_211.1.toInt64) hx hb dL_law_1572 rfl ?_
      refine W.lcmp hx hb dL_law_1573 ?_
      refine lv_if_eq (tgt := 1579) hx hb dL_law_1574 (by decide) (fun c_215 => ?_) (fun c_215 => ?_)
      · have hf := ite_t hf c_215
        refine lv_goto (tgt := 2630) hx hb dL_law_1579 (by decide) ?_
        refine lv_iinc (v := y + 5) (lv' := [(4, .int (y + 5)), (6, .int z_211.1), (5, .int z_210.1), (0, .ref sb), (1, .ref (a 0 0)), (2, .ref (am 0)), (3, .ref b)]) hx hb dL_law_2630 hl (k := 6) rfl rfl (by decide) rfl (fun ls hl => ?_)
        refine lv_goto (tgt := 23) hx hb dL_law_2633 (by decide) ?_
        exact ih _ _ _ _ _ _ _ _ _ hf hP hS (lv_sub hl [3, 4, 5, 6, 0] rfl) (by omega) (by omega) (by omega) (by omega)
      · have hf := ite_f hf c_215
        refine lv_iconst (v := 0) hx hb dL_law_1577 (by decide) ?_
        exact absurd (Option.some.inj hf) (by decide)
  · have hf := ite_f hf c_213
    refine lv_iconst (v := 0) hx hb dL_law_1560 (by decide) ?_
    exact absurd (Option.some.inj hf) (by decide)
def law_B19 (L : Nat) (xs : Nat → Int32) (r23 : Int32 → S2 → S1 → (Nat → Int64) → Option Int32) (y : Int32) (U : S2) (V : S1) (g : Nat → Int64) : Option Int32 := chk (inb (y + 1) L) (bn (f_L_flush U g (xs (y + 1).toNatClampNeg)) (fun z_216 => chk (inb (y + 1) L) (bn (f_X7_flush V (xs (y + 1).toNatClampNeg)) (fun z_217 => bn (f_X7_thrown z_217.2) (fun z_218 => if z_218 = z_216.1 then if z_216.1 = 0 then if (lg_cmp (z_216.2.2 (0 : Int32).toNatClampNeg) z_217.1.toInt64) = 0 then r23 (y + 5) z_216.2.1 z_217.2 z_216.2.2 else some 0 else r23 (y + 5) z_216.2.1 z_217.2 z_216.2.2 else some 0)))))
set_option maxHeartbeats 40000000 in
set_option maxRecDepth 100000 in
theorem law_case19 {p : Program} {l : Launch} {e : Env} {s : State} {m : MethodId} {below : List Frame} {meth : Method} {c : Code} {D : va_G} {cI cZ cJ cT : ClassId} {sb L : Nat} {xs : Nat → Int32} (hst : l.stackTraces = false) (C0 : lw_At p s m meth c sb L xs) (hK : va_K D cls (tys cI cZ cJ cT) s) (hE : EX (fun q : Nat => s.heap.size ≤ q) s) (hNC : NC s) (a : Nat → Nat → Nat) (am : Nat → Nat) (b : Nat) (hDD : ∀ (U : S2) (V : S1) (g : Nat → Int64), va_D (fun q : Nat => s.heap.size ≤ q) (wW cI cZ cJ cT a am b U V g)) (r23 : Int32 → S2 → S1 → (Nat → Int64) → Option Int32) (n : Nat) (ih : ∀ (y : Int32) (U : S2) (V : S1) (g : Nat → Int64) (H : Heap) (locs : List Loc) (ls : Array Slot) (nc ns : Nat), r23 y U V g = some 1 → va_P D cls (wW cI cZ cJ cT a am b U V g) H → va_S (fun q : Nat => s.heap.size ≤ q) s.heap H locs → lv_has ls 7 [(0, .ref sb), (1, .ref (a 0 0)), (2, .ref (am 0)), (3, .ref b), (4, .int y)] → nc + 8 * n ≤ 600002 → ns + 48 * n ≤ 7302232 → nc ≤ 600002 → ns ≤ 7302232 → W p l e room_1 s m #[Value.ref sb] below meth c H locs nc ns (lw_Z below #[Value.ref sb] s) (F0 m 23 ls [])) (y : Int32) (U : S2) (V : S1) (g : Nat → Int64) (H : Heap) (locs : List Loc) (ls : Array Slot) (nc ns : Nat) (hf : law_B19 L xs r23 y U V g = some 1) (hP : va_P D cls (wW cI cZ cJ cT a am b U V g) H) (hS : va_S (fun q : Nat => s.heap.size ≤ q) s.heap H locs) (hl : lv_has ls 7 [(0, .ref sb), (1, .ref (a 0 0)), (2, .ref (am 0)), (3, .ref b), (4, .int y)]) (hc1 : nc + 8 * (n + 1) ≤ 600002) (hc2 : ns + 48 * (n + 1) ≤ 7302232) (hc3 : nc ≤ 600002) (hc4 : ns ≤ 7302232) : W p l e room_1 s m #[Value.ref sb] below meth c H locs nc ns (lw_Z below #[Value.ref sb] s) (F0 m 1582 ls []) := by
  obtain ⟨hx, hb, hr, hml, hown, hts, hX, hbl, hlocks, hgv⟩ := id C0
  have hA : ∀ q : Nat, s.heap.size ≤ q → (fun q : Nat => s.heap.size ≤ q) q := fun _ h => h
  have hbA : ¬ (fun q : Nat => s.heap.size ≤ q) sb := Nat.not_le.mpr hbl
  unfold law_B19 at hf
  refine lv_aload_n hx hb dL_law_1582 rfl (lv_at hl 1 rfl) ?_
  refine lv_aload_n hx hb dL_law_1583 rfl (lv_at hl 0 rfl) ?_
  refine lv_iload hx hb dL_law_1584 (lv_at hl 4 rfl) ?_
  refine lv_iconst (v := 1) hx hb dL_law_1586 (by decide) ?_
  refine lv_iadd hx hb dL_law_1587 ?_
  obtain ⟨hi, hf⟩ := chk_some hf
  refine va_sld hx hb hX hbl hbA hS (inb_in hi) dL_law_1588 ?_
  refine lv_aload_n hx hb dL_law_1589 rfl (lv_at hl 3 rfl) ?_
  obtain ⟨z_216, hz_216, hf⟩ := bn_some hf
  refine cLS (As := [.ref (a 0 0), .int (xs (y + 1).toNatClampNeg), .ref b]) (rest := []) ⟨hx, hb, hml, hown, hts⟩ (c_L_flush l hst D cI cZ cJ cT a b H.size U g (xs (y + 1).toNatClampNeg) z_216 hz_216) (vx_cwSW 3 hts (gM_law (gL_in gL_law_L_flush) gLK) rfl rfl rfl (by decide +kernel) ⟨Nat.le_of_ble_eq_true rfl, Nat.le_of_ble_eq_true rfl⟩) (fl_subM hP [0, 2] rfl) hK (fl_subDM (hDD U V g) [0, 2] rfl rfl) hE hNC hS (own_free (fl_subDM (hDD U V g) [0, 2] rfl rfl) hS hA) rfl rfl hl.1 (Nat.le_of_ble_eq_true rfl) dL_law_1590 ⟨(by show _ ≤ 600002; omega), (by show _ ≤ 7302232; omega)⟩ (fun H1 locs hP1 hk1 hS => ?_)
  have hP : va_P D cls (wW cI cZ cJ cT a am b z_216.2.1 V z_216.2.2) H1 := fl_joinM (cs' := [wI cI cZ cT a z_216.2.1, [(b, .inl (cJ, 1, .inr (.inl z_216.2.2)))]]) hP (hDD U V g) [0, 2] rfl rfl hk1 hP1
  clear hP1 hk1
  generalize H1 = H at hP hS ⊢
  refine lv_istore (lv' := [(5, .int z_216.1), (0, .ref sb), (1, .ref (a 0 0)), (2, .ref (am 0)), (3, .ref b), (4, .int y)]) hx hb dL_law_1593 hl (by decide) rfl (fun ls hl => ?_)
  refine lv_aload_n hx hb dL_law_1595 rfl (lv_at hl 3 rfl) ?_
  refine lv_aload_n hx hb dL_law_1596 rfl (lv_at hl 1 rfl) ?_
  refine lv_iload hx hb dL_law_1597 (lv_at hl 5 rfl) ?_
  refine lv_iconst (v := 1) hx hb dL_law_1599 (by decide) ?_
  refine lv_iadd hx hb dL_law_1600 ?_
  obtain ⟨hi, hf⟩ := chk_some hf
  refine va_sld hx hb hX hbl hbA hS (inb_in hi) dL_law_1601 ?_
  obtain ⟨z_217, hz_217, hf⟩ := bn_some hf
  refine cWVi (As := [.int (xs (y + 1).toNatClampNeg)]) (rest := []) ⟨hx, hb, hml, hown, hts⟩ (c_X7_flush l D cI cZ cJ cT am H.size V (xs (y + 1).toNatClampNeg) z_217 hz_217) (cwV 1 hts (gL_in gL_law_X7_flush) rfl rfl rfl (by decide +kernel) ⟨Nat.le_of_ble_eq_true rfl, Nat.le_of_ble_eq_true rfl⟩) (fl_sub hP 1 rfl) hK (fl_subD (hDD z_216.2.1 V z_216.2.2) 1 rfl) hS (fl_free (hDD z_216.2.1 V z_216.2.2) hS hA 1 rfl) (va_recv hK (fl_sub hP 1 rfl) (ci := 7) (q0 := 0) rfl rfl) rfl rfl hl.1 (Nat.le_of_ble_eq_true rfl) dL_law_1602 ⟨(by show _ ≤ 600002; omega), (by show _ ≤ 7302232; omega)⟩ (fun H1 locs hP1 hk1 hS => ?_)
  have hP : va_P D cls (wW cI cZ cJ cT a am b z_216.2.1 z_217.2 z_216.2.2) H1 := fl_join hP (hDD z_216.2.1 V z_216.2.2) 1 rfl hk1 hP1
  clear hP1 hk1
  generalize H1 = H at hP hS ⊢
  refine lv_istore (lv' := [(6, .int z_217.1), (5, .int z_216.1), (0, .ref sb), (1, .ref (a 0 0)), (2, .ref (am 0)), (3, .ref b), (4, .int y)]) hx hb dL_law_1605 hl (by decide) rfl (fun ls hl => ?_)
  refine lv_aload_n hx hb dL_law_1607 rfl (lv_at hl 4 rfl) ?_
  obtain ⟨z_218, hz_218, hf⟩ := bn_some hf
  refine cRV (As := []) (rest := []) ⟨hx, hb, hml, hown, hts⟩ (c_X7_thrown l D cI cZ cJ cT am z_217.2 z_218 hz_218) (cwV 0 hts (gL_in gL_law_X7_thrown) rfl rfl rfl (by decide +kernel) ⟨Nat.le_of_ble_eq_true rfl, Nat.le_of_ble_eq_true rfl⟩) (fl_sub hP 1 rfl) hK (va_recv hK (fl_sub hP 1 rfl) (ci := 7) (q0 := 0) rfl rfl) rfl rfl hl.1 (Nat.le_of_ble_eq_true rfl) dL_law_1608 ⟨(by show _ ≤ 600002; omega), (by show _ ≤ 7302232; omega)⟩ ?_
  refine lv_iload hx hb dL_law_1611 (lv_at hl 1 rfl) ?_
  refine lv_icmp_eq (tgt := 1618) hx hb dL_law_1613 (by decide) (fun c_219 => ?_) (fun c_219 => ?_)
  · have hf := ite_t hf c_219
    refine lv_iload hx hb dL_law_1618 (lv_at hl 1 rfl) ?_
    refine lv_if_ne (tgt := 1635) hx hb dL_law_1620 (by decide) (fun c_220 => ?_) (fun c_220 => ?_)
    · have hf := ite_f hf c_220
      refine lv_goto (tgt := 2630) hx hb dL_law_1635 (by decide) ?_
      refine lv_iinc (v := y + 5) (lv' := [(4, .int (y + 5)), (6, .int z_217.1), (5, .int z_216.1), (0, .ref sb), (1, .ref (a 0 0)), (2, .ref (am 0)), (3, .ref b)]) hx hb dL_law_2630 hl (k := 6) rfl rfl (by decide) rfl (fun ls hl => ?_)
      refine lv_goto (tgt := 23) hx hb dL_law_2633 (by decide) ?_
      exact ih _ _ _ _ _ _ _ _ _ hf hP hS (lv_sub hl [3, 4, 5, 6, 0] rfl) (by omega) (by omega) (by omega) (by omega)
    · have hf := ite_t hf c_220
      refine lv_aload_n hx hb dL_law_1623 rfl (lv_at hl 5 rfl) ?_
      refine lv_iconst (v := 0) hx hb dL_law_1624 (by decide) ?_
      refine va_lald hx hb hK hP 100 2 rfl rfl (inb_in (i := 0) (n := 1) (by decide)) dL_law_1625 ?_
      refine lv_iload hx hb dL_law_1626 (lv_at hl 0 rfl) ?_
      refine lv_i2l (v := z_217.1.toInt64) hx hb dL_law_1628 rfl ?_
      refine W.lcmp hx hb dL_law_1629 ?_
      refine lv_if_eq (tgt := 1635) hx hb dL_law_1630 (by decide) (fun c_221 => ?_) (fun c_221 => ?_)
      · have hf := ite_t hf c_221
        refine lv_goto (tgt := 2630) hx hb dL_law_1635 (by decide) ?_
        refine lv_iinc (v := y + 5) (lv' := [(4, .int (y + 5)), (6, .int z_217.1), (5, .int z_216.1), (0, .ref sb), (1, .ref (a 0 0)), (2, .ref (am 0)), (3, .ref b)]) hx hb dL_law_2630 hl (k := 6) rfl rfl (by decide) rfl (fun ls hl => ?_)
        refine lv_goto (tgt := 23) hx hb dL_law_2633 (by decide) ?_
        exact ih _ _ _ _ _ _ _ _ _ hf hP hS (lv_sub hl [3, 4, 5, 6, 0] rfl) (by omega) (by omega) (by omega) (by omega)
      · have hf := ite_f hf c_221
        refine lv_iconst (v := 0) hx hb dL_law_1633 (by decide) ?_
        exact absurd (Option.some.inj hf) (by decide)
  · have hf := ite_f hf c_219
    refine lv_iconst (v := 0) hx hb dL_law_1616 (by decide) ?_
    exact absurd (Option.some.inj hf) (by decide)
