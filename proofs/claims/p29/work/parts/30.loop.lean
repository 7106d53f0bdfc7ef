def law_F (L : Nat) (xs : Nat → Int32) (r23 : Int32 → S2 → S1 → (Nat → Int64) → Option Int32) (y : Int32) (U : S2) (V : S1) (g : Nat → Int64) : Option Int32 := if ((Int32.ofNat L) - 5) < y then some 1 else chk (inb y L) (if ((xs (y).toNatClampNeg) &&& 63).toInt < 0 ∨ 37 < ((xs (y).toNatClampNeg) &&& 63).toInt then r23 (y + 5) U V g else if ((xs (y).toNatClampNeg) &&& 63) = 0 then law_B0 L xs r23 y U V g else if ((xs (y).toNatClampNeg) &&& 63) = 1 then law_B1 L xs r23 y U V g else if ((xs (y).toNatClampNeg) &&& 63) = 2 then law_B2 L xs r23 y U V g else if ((xs (y).toNatClampNeg) &&& 63) = 3 then law_B3 L xs r23 y U V g else if ((xs (y).toNatClampNeg) &&& 63) = 4 then law_B4 L xs r23 y U V g else if ((xs (y).toNatClampNeg) &&& 63) = 5 then law_B5 L xs r23 y U V g else if ((xs (y).toNatClampNeg) &&& 63) = 6 then law_B6 L xs r23 y U V g else if ((xs (y).toNatClampNeg) &&& 63) = 7 then law_B7 L xs r23 y U V g else if ((xs (y).toNatClampNeg) &&& 63) = 8 then law_B8 L xs r23 y U V g else if ((xs (y).toNatClampNeg) &&& 63) = 9 then law_B9 L xs r23 y U V g else if ((xs (y).toNatClampNeg) &&& 63) = 10 then law_B10 L xs r23 y U V g else if ((xs (y).toNatClampNeg) &&& 63) = 11 then law_B11 L xs r23 y U V g else if ((xs (y).toNatClampNeg) &&& 63) = 12 then law_B12 L xs r23 y U V g else if ((xs (y).toNatClampNeg) &&& 63) = 13 then law_B13 L xs r23 y U V g else if ((xs (y).toNatClampNeg) &&& 63) = 14 then law_B14 L xs r23 y U V g else if ((xs (y).toNatClampNeg) &&& 63) = 15 then law_B15 L xs r23 y U V g else if ((xs (y).toNatClampNeg) &&& 63) = 16 then law_B16 L xs r23 y U V g else if ((xs (y).toNatClampNeg) &&& 63) = 17 then law_B17 L xs r23 y U V g else if ((xs (y).toNatClampNeg) &&& 63) = 18 then law_B18 L xs r23 y U V g else if ((xs (y).toNatClampNeg) &&& 63) = 19 then law_B19 L xs r23 y U V g else if ((xs (y).toNatClampNeg) &&& 63) = 20 then law_B20 L xs r23 y U V g else if ((xs (y).toNatClampNeg) &&& 63) = 21 then law_B21 L xs r23 y U V g else if ((xs (y).toNatClampNeg) &&& 63) = 22 then law_B22 L xs r23 y U V g else if ((xs (y).toNatClampNeg) &&& 63) = 23 then law_B23 L xs r23 y U V g else if ((xs (y).toNatClampNeg) &&& 63) = 24 then law_B24 L xs r23 y U V g else if ((xs (y).toNatClampNeg) &&& 63) = 25 then law_B25 L xs r23 y U V g else if ((xs (y).toNatClampNeg) &&& 63) = 26 then law_B26 L xs r23 y U V g else if ((xs (y).toNatClampNeg) &&& 63) = 27 then law_B27 L xs r23 y U V g else if ((xs (y).toNatClampNeg) &&& 63) = 28 then law_B28 L xs r23 y U V g else if ((xs (y).toNatClampNeg) &&& 63) = 29 then law_B29 L xs r23 y U V g else if ((xs (y).toNatClampNeg) &&& 63) = 30 then law_B30 L xs r23 y U V g else if ((xs (y).toNatClampNeg) &&& 63) = 31 then law_B31 L xs r23 y U V g else if ((xs (y).toNatClampNeg) &&& 63) = 32 then law_B32 L xs r23 y U V g else if ((xs (y).toNatClampNeg) &&& 63) = 33 then law_B33 L xs r23 y U V g else if ((xs (y).toNatClampNeg) &&& 63) = 34 then law_B34 L xs r23 y U V g else if ((xs (y).toNatClampNeg) &&& 63) = 35 then law_B35 L xs r23 y U V g else if ((xs (y).toNatClampNeg) &&& 63) = 36 then law_B36 L xs r23 y U V g else if ((xs (y).toNatClampNeg) &&& 63) = 37 then law_B37 L xs r23 y U V g else none)
def f_law (L : Nat) (xs : Nat → Int32) (n : Nat) (U : S2) (V : S1) (g : Nat → Int64) : Option Int32 := ql4 (law_F L xs) n 0 U V g
set_option maxHeartbeats 40000000 in
set_option maxRecDepth 100000 in
theorem law_loop {p : Program} {l : Launch} {e : Env} {s : State} {m : MethodId} {below : List Frame} {meth : Method} {c : Code} {D : va_G} {cI cZ cJ cT : ClassId} {sb L : Nat} {xs : Nat → Int32} (hst : l.stackTraces = false) (C0 : lw_At p s m meth c sb L xs) (hK : va_K D cls (tys cI cZ cJ cT) s) (hE : EX (fun q : Nat => s.heap.size ≤ q) s) (hNC : NC s) (a : Nat → Nat → Nat) (am : Nat → Nat) (b : Nat) (hDD : ∀ (U : S2) (V : S1) (g : Nat → Int64), va_D (fun q : Nat => s.heap.size ≤ q) (wW cI cZ cJ cT a am b U V g)) :
    ∀ (n : Nat) (y : Int32) (U : S2) (V : S1) (g : Nat → Int64) (H : Heap) (locs : List Loc) (ls : Array Slot) (nc ns : Nat), ql4 (law_F L xs) n y U V g = some 1 → va_P D cls (wW cI cZ cJ cT a am b U V g) H → va_S (fun q : Nat => s.heap.size ≤ q) s.heap H locs → lv_has ls 7 [(0, .ref sb), (1, .ref (a 0 0)), (2, .ref (am 0)), (3, .ref b), (4, .int y)] → nc + 8 * n ≤ 601024 → ns + 48 * n ≤ 7293034 → nc ≤ 601024 → ns ≤ 7293034 → W p l e room_1 s m #[Value.ref sb] below meth c H locs nc ns (lw_Z below #[Value.ref sb] s) (F0 m 23 ls []) := by
  obtain ⟨hx, hb, hr, hml, hown, hts, hX, hbl, hlocks, hgv⟩ := id C0
  have hA : ∀ q : Nat, s.heap.size ≤ q → (fun q : Nat => s.heap.size ≤ q) q := fun _ h => h
  have hbA : ¬ (fun q : Nat => s.heap.size ≤ q) sb := Nat.not_le.mpr hbl
  intro n
  induction n with
  | zero => intro y U V g H locs ls nc ns hf; exact (ql4_z hf).elim
  | succ n ih =>
    intro y U V g H locs ls nc ns hf hP hS hl hc1 hc2 hc3 hc4
    have hf := ql4_s rfl hf
    obtain ⟨r23, hr23⟩ : ∃ z, z = ql4 (law_F L xs) n := ⟨_, rfl⟩
    rw [← hr23] at hf ih
    unfold law_F at hf
    refine lv_iload hx hb dL_law_23 (lv_at hl 4 rfl) ?_
    refine lv_aload_n hx hb dL_law_25 rfl (lv_at hl 0 rfl) ?_
    refine va_slen hx hb hX hbl hbA hS dL_law_26 ?_
    refine lv_iconst (v := 5) hx hb dL_law_27 (by decide) ?_
    refine lv_isub hx hb dL_law_28 ?_
    refine lv_icmp_gt (tgt := 1673) hx hb dL_law_29 (by decide) (fun c_1 => ?_) (fun c_1 => ?_)
    · have hf := ite_t hf c_1
      refine lv_iconst (v := 1) hx hb dL_law_1673 (by decide) ?_
      refine va_forget (fun q hq => hS.2.2 q hq) ?_
      refine W.widen (k := 601024) (n := 7293034) (by omega) (by omega) ?_
      exact lw_ret hx hb hr hlocks dL_law_1674
    · have hf := ite_f hf c_1
      refine lv_aload_n hx hb dL_law_32 rfl (lv_at hl 0 rfl) ?_
      refine lv_iload hx hb dL_law_33 (lv_at hl 4 rfl) ?_
      obtain ⟨hi, hf⟩ := chk_some hf
      refine va_sld hx hb hX hbl hbA hS (inb_in hi) dL_law_35 ?_
      refine lv_bipush (v := 63) hx hb dL_law_36 (by decide) ?_
      refine lv_iand hx hb dL_law_38 ?_
      by_cases c_2 : ((xs (y).toNatClampNeg) &&& 63).toInt < 0 ∨ 37 < ((xs (y).toNatClampNeg) &&& 63).toInt
      · have hf := ite_t hf c_2
        refine lv_tableOut (tgt := 1667) hx hb dL_law_39 c_2 (by decide) ?_
        refine lv_iinc (v := y + 5) (lv' := [(4, .int (y + 5)), (0, .ref sb), (1, .ref (a 0 0)), (2, .ref (am 0)), (3, .ref b)]) hx hb dL_law_1667 hl (k := 4) rfl rfl (by decide) rfl (fun ls hl => ?_)
        refine lv_goto (tgt := 23) hx hb dL_law_1670 (by decide) ?_
        exact ih _ _ _ _ _ _ _ _ _ hf hP hS (lv_sub hl [1, 2, 3, 4, 0] rfl) (by omega) (by omega) (by omega) (by omega)
      have hf := ite_f hf c_2
      by_cases e_3 : ((xs (y).toNatClampNeg) &&& 63) = 0
      · have hf := ite_t hf e_3
        refine lv_tableIn (off := 165) (tgt := 204) hx hb dL_law_39 (by rw [e_3]; decide) (by rw [e_3]; decide) (by rw [e_3]; rfl) (by decide) ?_
        exact law_case0 hst C0 hK hE hNC a am b hDD r23 n ih y U V g H locs ls nc ns hf hP hS (lv_sub hl [0, 1, 2, 3, 4] rfl) hc1 hc2 hc3 hc4
      have hf := ite_f hf e_3
      by_cases e_4 : ((xs (y).toNatClampNeg) &&& 63) = 1
      · have hf := ite_t hf e_4
        refine lv_tableIn (off := 193) (tgt := 232) hx hb dL_law_39 (by rw [e_4]; decide) (by rw [e_4]; decide) (by rw [e_4]; rfl) (by decide) ?_
        exact law_case1 hst C0 hK hE hNC a am b hDD r23 n ih y U V g H locs ls nc ns hf hP hS (lv_sub hl [0, 1, 2, 3, 4] rfl) hc1 hc2 hc3 hc4
      have hf := ite_f hf e_4
      by_cases e_5 : ((xs (y).toNatClampNeg) &&& 63) = 2
      · have hf := ite_t hf e_5
        refine lv_tableIn (off := 233) (tgt := 272) hx hb dL_law_39 (by rw [e_5]; decide) (by rw [e_5]; decide) (by rw [e_5]; rfl) (by decide) ?_
        exact law_case2 hst C0 hK hE hNC a am b hDD r23 n ih y U V g H locs ls nc ns hf hP hS (lv_sub hl [0, 1, 2, 3, 4] rfl) hc1 hc2 hc3 hc4
      have hf := ite_f hf e_5
      by_cases e_6 : ((xs (y).toNatClampNeg) &&& 63) = 3
      · have hf := ite_t hf e_6
        refine lv_tableIn (off := 273) (tgt := 312) hx hb dL_law_39 (by rw [e_6]; decide) (by rw [e_6]; decide) (by rw [e_6]; rfl) (by decide) ?_
        exact law_case3 hst C0 hK hE hNC a am b hDD r23 n ih y U V g H locs ls nc ns hf hP hS (lv_sub hl [0, 1, 2, 3, 4] rfl) hc1 hc2 hc3 hc4
      have hf := ite_f hf e_6
      by_cases e_7 : ((xs (y).toNatClampNeg) &&& 63) = 4
      · have hf := ite_t hf e_7
        refine lv_tableIn (off := 313) (tgt := 352) hx hb dL_law_39 (by rw [e_7]; decide) (by rw [e_7]; decide) (by rw [e_7]; rfl) (by decide) ?_
        exact law_case4 hst C0 hK hE hNC a am b hDD r23 n ih y U V g H locs ls nc ns hf hP hS (lv_sub hl [0, 1, 2, 3, 4] rfl) hc1 hc2 hc3 hc4
      have hf := ite_f hf e_7
      by_cases e_8 : ((xs (y).toNatClampNeg) &&& 63) = 5
      · have hf := ite_t hf e_8
        refine lv_tableIn (off := 353) (tgt := 392) hx hb dL_law_39 (by rw [e_8]; decide) (by rw [e_8]; decide) (by rw [e_8]; rfl) (by decide) ?_
        exact law_case5 hst C0 hK hE hNC a am b hDD r23 n ih y U V g H locs ls nc ns hf hP hS (lv_sub hl [0, 1, 2, 3, 4] rfl) hc1 hc2 hc3 hc4
      have hf := ite_f hf e_8
      by_cases e_9 : ((xs (y).toNatClampNeg) &&& 63) = 6
      · have hf := ite_t hf e_9
        refine lv_tableIn (off := 393) (tgt := 432) hx hb dL_law_39 (by rw [e_9]; decide) (by rw [e_9]; decide) (by rw [e_9]; rfl) (by decide) ?_
        exact law_case6 hst C0 hK hE hNC a am b hDD r23 n ih y U V g H locs ls nc ns hf hP hS (lv_sub hl [0, 1, 2, 3, 4] rfl) hc1 hc2 hc3 hc4
      have hf := ite_f hf e_9
      by_cases e_10 : ((xs (y).toNatClampNeg) &&& 63) = 7
      · have hf := ite_t hf e_10
        refine lv_tableIn (off := 421) (tgt := 460) hx hb dL_law_39 (by rw [e_10]; decide) (by rw [e_10]; decide) (by rw [e_10]; rfl) (by decide) ?_
        exact law_case7 hst C0 hK hE hNC a am b hDD r23 n ih y U V g H locs ls nc ns hf hP hS (lv_sub hl [0, 1, 2, 3, 4] rfl) hc1 hc2 hc3 hc4
      have hf := ite_f hf e_10
      by_cases e_11 : ((xs (y).toNatClampNeg) &&& 63) = 8
      · have hf := ite_t hf e_11
        refine lv_tableIn (off := 461) (tgt := 500) hx hb dL_law_39 (by rw [e_11]; decide) (by rw [e_11]; decide) (by rw [e_11]; rfl) (by decide) ?_
        exact law_case8 hst C0 hK hE hNC a am b hDD r23 n ih y U V g H locs ls nc ns hf hP hS (lv_sub hl [0, 1, 2, 3, 4] rfl) hc1 hc2 hc3 hc4
      have hf := ite_f hf e_11
      by_cases e_12 : ((xs (y).toNatClampNeg) &&& 63) = 9
      · have hf := ite_t hf e_12
        refine lv_tableIn (off := 501) (tgt := 540) hx hb dL_law_39 (by rw [e_12]; decide) (by rw [e_12]; decide) (by rw [e_12]; rfl) (by decide) ?_
        exact law_case9 hst C0 hK hE hNC a am b hDD r23 n ih y U V g H locs ls nc ns hf hP hS (lv_sub hl [0, 1, 2, 3, 4] rfl) hc1 hc2 hc3 hc4
      have hf := ite_f hf e_12
      by_cases e_13 : ((xs (y).toNatClampNeg) &&& 63) = 10
      · have hf := ite_t hf e_13
        refine lv_tableIn (off := 557) (tgt := 596) hx hb dL_law_39 (by rw [e_13]; decide) (by rw [e_13]; decide) (by rw [e_13]; rfl) (by decide) ?_
        exact law_case10 hst C0 hK hE hNC a am b hDD r23 n ih y U V g H locs ls nc ns hf hP hS (lv_sub hl [0, 1, 2, 3, 4] rfl) hc1 hc2 hc3 hc4
      have hf := ite_f hf e_13
      by_cases e_14 : ((xs (y).toNatClampNeg) &&& 63) = 11
      · have hf := ite_t hf e_14
        refine lv_tableIn (off := 613) (tgt := 652) hx hb dL_law_39 (by rw [e_14]; decide) (by rw [e_14]; decide) (by rw [e_14]; rfl) (by decide) ?_
        exact law_case11 hst C0 hK hE hNC a am b hDD r23 n ih y U V g H locs ls nc ns hf hP hS (lv_sub hl [0, 1, 2, 3, 4] rfl) hc1 hc2 hc3 hc4
      have hf := ite_f hf e_14
      by_cases e_15 : ((xs (y).toNatClampNeg) &&& 63) = 12
      · have hf := ite_t hf e_15
        refine lv_tableIn (off := 641) (tgt := 680) hx hb dL_law_39 (by rw [e_15]; decide) (by rw [e_15]; decide) (by rw [e_15]; rfl) (by decide) ?_
        exact law_case12 hst C0 hK hE hNC a am b hDD r23 n ih y U V g H locs ls nc ns hf hP hS (lv_sub hl [0, 1, 2, 3, 4] rfl) hc1 hc2 hc3 hc4
      have hf := ite_f hf e_15
      by_cases e_16 : ((xs (y).toNatClampNeg) &&& 63) = 13
      · have hf := ite_t hf e_16
        refine lv_tableIn (off := 693) (tgt := 732) hx hb dL_law_39 (by rw [e_16]; decide) (by rw [e_16]; decide) (by rw [e_16]; rfl) (by decide) ?_
        exact law_case13 hst C0 hK hE hNC a am b hDD r23 n ih y U V g H locs ls nc ns hf hP hS (lv_sub hl [0, 1, 2, 3, 4] rfl) hc1 hc2 hc3 hc4
      have hf := ite_f hf e_16
      by_cases e_17 : ((xs (y).toNatClampNeg) &&& 63) = 14
      · have hf := ite_t hf e_17
        refine lv_tableIn (off := 733) (tgt := 772) hx hb dL_law_39 (by rw [e_17]; decide) (by rw [e_17]; decide) (by rw [e_17]; rfl) (by decide) ?_
        exact law_case14 hst C0 hK hE hNC a am b hDD r23 n ih y U V g H locs ls nc ns hf hP hS (lv_sub hl [0, 1, 2, 3, 4] rfl) hc1 hc2 hc3 hc4
      have hf := ite_f hf e_17
      by_cases e_18 : ((xs (y).toNatClampNeg) &&& 63) = 15
      · have hf := ite_t hf e_18
        refine lv_tableIn (off := 785) (tgt := 824) hx hb dL_law_39 (by rw [e_18]; decide) (by rw [e_18]; decide) (by rw [e_18]; rfl) (by decide) ?_
        exact law_case15 hst C0 hK hE hNC a am b hDD r23 n ih y U V g H locs ls nc ns hf hP hS (lv_sub hl [0, 1, 2, 3, 4] rfl) hc1 hc2 hc3 hc4
      have hf := ite_f hf e_18
      by_cases e_19 : ((xs (y).toNatClampNeg) &&& 63) = 16
      · have hf := ite_t hf e_19
        refine lv_tableIn (off := 825) (tgt := 864) hx hb dL_law_39 (by rw [e_19]; decide) (by rw [e_19]; decide) (by rw [e_19]; rfl) (by decide) ?_
        exact law_case16 hst C0 hK hE hNC a am b hDD r23 n ih y U V g H locs ls nc ns hf hP hS (lv_sub hl [0, 1, 2, 3, 4] rfl) hc1 hc2 hc3 hc4
      have hf := ite_f hf e_19
      by_cases e_20 : ((xs (y).toNatClampNeg) &&& 63) = 17
      · have hf := ite_t hf e_20
        refine lv_tableIn (off := 905) (tgt := 944) hx hb dL_law_39 (by rw [e_20]; decide) (by rw [e_20]; decide) (by rw [e_20]; rfl) (by decide) ?_
        exact law_case17 hst C0 hK hE hNC a am b hDD r23 n ih y U V g H locs ls nc ns hf hP hS (lv_sub hl [0, 1, 2, 3, 4] rfl) hc1 hc2 hc3 hc4
      have hf := ite_f hf e_20
      by_cases e_21 : ((xs (y).toNatClampNeg) &&& 63) = 18
      · have hf := ite_t hf e_21
        refine lv_tableIn (off := 957) (tgt := 996) hx hb dL_law_39 (by rw [e_21]; decide) (by rw [e_21]; decide) (by rw [e_21]; rfl) (by decide) ?_
        exact law_case18 hst C0 hK hE hNC a am b hDD r23 n ih y U V g H locs ls nc ns hf hP hS (lv_sub hl [0, 1, 2, 3, 4] rfl) hc1 hc2 hc3 hc4
      have hf := ite_f hf e_21
      by_cases e_22 : ((xs (y).toNatClampNeg) &&& 63) = 19
      · have hf := ite_t hf e_22
        refine lv_tableIn (off := 997) (tgt := 1036) hx hb dL_law_39 (by rw [e_22]; decide) (by rw [e_22]; decide) (by rw [e_22]; rfl) (by decide) ?_
        exact law_case19 hst C0 hK hE hNC a am b hDD r23 n ih y U V g H locs ls nc ns hf hP hS (lv_sub hl [0, 1, 2, 3, 4] rfl) hc1 hc2 hc3 hc4
      have hf := ite_f hf e_22
      by_cases e_23 : ((xs (y).toNatClampNeg) &&& 63) = 20
      · have hf := ite_t hf e_23
        refine lv_tableIn (off := 1025) (tgt := 1064) hx hb dL_law_39 (by rw [e_23]; decide) (by rw [e_23]; decide) (by rw [e_23]; rfl) (by decide) ?_
        exact law_case20 hst C0 hK hE hNC a am b hDD r23 n ih y U V g H locs ls nc ns hf hP hS (lv_sub hl [0, 1, 2, 3, 4] rfl) hc1 hc2 hc3 hc4
      have hf := ite_f hf e_23
      by_cases e_24 : ((xs (y).toNatClampNeg) &&& 63) = 21
      · have hf := ite_t hf e_24
        refine lv_tableIn (off := 1053) (tgt := 1092) hx hb dL_law_39 (by rw [e_24]; decide) (by rw [e_24]; decide) (by rw [e_24]; rfl) (by decide) ?_
        exact law_case21 hst C0 hK hE hNC a am b hDD r23 n ih y U V g H locs ls nc ns hf hP hS (lv_sub hl [0, 1, 2, 3, 4] rfl) hc1 hc2 hc3 hc4
      have hf := ite_f hf e_24
      by_cases e_25 : ((xs (y).toNatClampNeg) &&& 63) = 22
      · have hf := ite_t hf e_25
        refine lv_tableIn (off := 1066) (tgt := 1105) hx hb dL_law_39 (by rw [e_25]; decide) (by rw [e_25]; decide) (by rw [e_25]; rfl) (by decide) ?_
        exact law_case22 hst C0 hK hE hNC a am b hDD r23 n ih y U V g H locs ls nc ns hf hP hS (lv_sub hl [0, 1, 2, 3, 4] rfl) hc1 hc2 hc3 hc4
      have hf := ite_f hf e_25
      by_cases e_26 : ((xs (y).toNatClampNeg) &&& 63) = 23
      · have hf := ite_t hf e_26
        refine lv_tableIn (off := 1079) (tgt := 1118) hx hb dL_law_39 (by rw [e_26]; decide) (by rw [e_26]; decide) (by rw [e_26]; rfl) (by decide) ?_
        exact law_case23 hst C0 hK hE hNC a am b hDD r23 n ih y U V g H locs ls nc ns hf hP hS (lv_sub hl [0, 1, 2, 3, 4] rfl) hc1 hc2 hc3 hc4
      have hf := ite_f hf e_26
      by_cases e_27 : ((xs (y).toNatClampNeg) &&& 63) = 24
      · have hf := ite_t hf e_27
        refine lv_tableIn (off := 1095) (tgt := 1134) hx hb dL_law_39 (by rw [e_27]; decide) (by rw [e_27]; decide) (by rw [e_27]; rfl) (by decide) ?_
        exact law_case24 hst C0 hK hE hNC a am b hDD r23 n ih y U V g H locs ls nc ns hf hP hS (lv_sub hl [0, 1, 2, 3, 4] rfl) hc1 hc2 hc3 hc4
      have hf := ite_f hf e_27
      by_cases e_28 : ((xs (y).toNatClampNeg) &&& 63) = 25
      · have hf := ite_t hf e_28
        refine lv_tableIn (off := 1123) (tgt := 1162) hx hb dL_law_39 (by rw [e_28]; decide) (by rw [e_28]; decide) (by rw [e_28]; rfl) (by decide) ?_
        exact law_case25 hst C0 hK hE hNC a am b hDD r23 n ih y U V g H locs ls nc ns hf hP hS (lv_sub hl [0, 1, 2, 3, 4] rfl) hc1 hc2 hc3 hc4
      have hf := ite_f hf e_28
      by_cases e_29 : ((xs (y).toNatClampNeg) &&& 63) = 26
      · have hf := ite_t hf e_29
        refine lv_tableIn (off := 1175) (tgt := 1214) hx hb dL_law_39 (by rw [e_29]; decide) (by rw [e_29]; decide) (by rw [e_29]; rfl) (by decide) ?_
        exact law_case26 hst C0 hK hE hNC a am b hDD r23 n ih y U V g H locs ls nc ns hf hP hS (lv_sub hl [0, 1, 2, 3, 4] rfl) hc1 hc2 hc3 hc4
      have hf := ite_f hf e_29
      by_cases e_30 : ((xs (y).toNatClampNeg) &&& 63) = 27
      · have hf := ite_t hf e_30
        refine lv_tableIn (off := 1215) (tgt := 1254) hx hb dL_law_39 (by rw [e_30]; decide) (by rw [e_30]; decide) (by rw [e_30]; rfl) (by decide) ?_
        exact law_case27 hst C0 hK hE hNC a am b hDD r23 n ih y U V g H locs ls nc ns hf hP hS (lv_sub hl [0, 1, 2, 3, 4] rfl) hc1 hc2 hc3 hc4
      have hf := ite_f hf e_30
      by_cases e_31 : ((xs (y).toNatClampNeg) &&& 63) = 28
      · have hf := ite_t hf e_31
        refine lv_tableIn (off := 1306) (tgt := 1345) hx hb dL_law_39 (by rw [e_31]; decide) (by rw [e_31]; decide) (by rw [e_31]; rfl) (by decide) ?_
        exact law_case28 hst C0 hK hE hNC a am b hDD r23 n ih y U V g H locs ls nc ns hf hP hS (lv_sub hl [0, 1, 2, 3, 4] rfl) hc1 hc2 hc3 hc4
      have hf := ite_f hf e_31
      by_cases e_32 : ((xs (y).toNatClampNeg) &&& 63) = 29
      · have hf := ite_t hf e_32
        refine lv_tableIn (off := 1355) (tgt := 1394) hx hb dL_law_39 (by rw [e_32]; decide) (by rw [e_32]; decide) (by rw [e_32]; rfl) (by decide) ?_
        exact law_case29 hst C0 hK hE hNC a am b hDD r23 n ih y U V g H locs ls nc ns hf hP hS (lv_sub hl [0, 1, 2, 3, 4] rfl) hc1 hc2 hc3 hc4
      have hf := ite_f hf e_32
      by_cases e_33 : ((xs (y).toNatClampNeg) &&& 63) = 30
      · have hf := ite_t hf e_33
        refine lv_tableIn (off := 1371) (tgt := 1410) hx hb dL_law_39 (by rw [e_33]; decide) (by rw [e_33]; decide) (by rw [e_33]; rfl) (by decide) ?_
        exact law_case30 hst C0 hK hE hNC a am b hDD r23 n ih y U V g H locs ls nc ns hf hP hS (lv_sub hl [0, 1, 2, 3, 4] rfl) hc1 hc2 hc3 hc4
      have hf := ite_f hf e_33
      by_cases e_34 : ((xs (y).toNatClampNeg) &&& 63) = 31
      · have hf := ite_t hf e_34
        refine lv_tableIn (off := 1411) (tgt := 1450) hx hb dL_law_39 (by rw [e_34]; decide) (by rw [e_34]; decide) (by rw [e_34]; rfl) (by decide) ?_
        exact law_case31 hst C0 hK hE hNC a am b hDD r23 n ih y U V g H locs ls nc ns hf hP hS (lv_sub hl [0, 1, 2, 3, 4] rfl) hc1 hc2 hc3 hc4
      have hf := ite_f hf e_34
      by_cases e_35 : ((xs (y).toNatClampNeg) &&& 63) = 32
      · have hf := ite_t hf e_35
        refine lv_tableIn (off := 1451) (tgt := 1490) hx hb dL_law_39 (by rw [e_35]; decide) (by rw [e_35]; decide) (by rw [e_35]; rfl) (by decide) ?_
        exact law_case32 hst C0 hK hE hNC a am b hDD r23 n ih y U V g H locs ls nc ns hf hP hS (lv_sub hl [0, 1, 2, 3, 4] rfl) hc1 hc2 hc3 hc4
      have hf := ite_f hf e_35
      by_cases e_36 : ((xs (y).toNatClampNeg) &&& 63) = 33
      · have hf := ite_t hf e_36
        refine lv_tableIn (off := 1479) (tgt := 1518) hx hb dL_law_39 (by rw [e_36]; decide) (by rw [e_36]; decide) (by rw [e_36]; rfl) (by decide) ?_
        exact law_case33 hst C0 hK hE hNC a am b hDD r23 n ih y U V g H locs ls nc ns hf hP hS (lv_sub hl [0, 1, 2, 3, 4] rfl) hc1 hc2 hc3 hc4
      have hf := ite_f hf e_36
      by_cases e_37 : ((xs (y).toNatClampNeg) &&& 63) = 34
      · have hf := ite_t hf e_37
        refine lv_tableIn (off := 1531) (tgt := 1570) hx hb dL_law_39 (by rw [e_37]; decide) (by rw [e_37]; decide) (by rw [e_37]; rfl) (by decide) ?_
        exact law_case34 hst C0 hK hE hNC a am b hDD r23 n ih y U V g H locs ls nc ns hf hP hS (lv_sub hl [0, 1, 2, 3, 4] rfl) hc1 hc2 hc3 hc4
      have hf := ite_f hf e_37
      by_cases e_38 : ((xs (y).toNatClampNeg) &&& 63) = 35
      · have hf := ite_t hf e_38
        refine lv_tableIn (off := 1559) (tgt := 1598) hx hb dL_law_39 (by rw [e_38]; decide) (by rw [e_38]; decide) (by rw [e_38]; rfl) (by decide) ?_
        exact law_case35 hst C0 hK hE hNC a am b hDD r23 n ih y U V g H locs ls nc ns hf hP hS (lv_sub hl [0, 1, 2, 3, 4] rfl) hc1 hc2 hc3 hc4
      have hf := ite_f hf e_38
      by_cases e_39 : ((xs (y).toNatClampNeg) &&& 63) = 36
      · have hf := ite_t hf e_39
        refine lv_tableIn (off := 1587) (tgt := 1626) hx hb dL_law_39 (by rw [e_39]; decide) (by rw [e_39]; decide) (by rw [e_39]; rfl) (by decide) ?_
        exact law_case36 hst C0 hK hE hNC a am b hDD r23 n ih y U V g H locs ls nc ns hf hP hS (lv_sub hl [0, 1, 2, 3, 4] rfl) hc1 hc2 hc3 hc4
      have hf := ite_f hf e_39
      by_cases e_40 : ((xs (y).toNatClampNeg) &&& 63) = 37
      · have hf := ite_t hf e_40
        refine lv_tableIn (off := 1615) (tgt := 1654) hx hb dL_law_39 (by rw [e_40]; decide) (by rw [e_40]; decide) (by rw [e_40]; rfl) (by decide) ?_
        exact law_case37 hst C0 hK hE hNC a am b hDD r23 n ih y U V g H locs ls nc ns hf hP hS (lv_sub hl [0, 1, 2, 3, 4] rfl) hc1 hc2 hc3 hc4
      have hf := ite_f hf e_40
      exact nomatch hf
