theorem last_ops (j : Nat) (hj : j < 38) (e0 : ¬ nI j = 0) (e1 : ¬ nI j = 1) (e2 : ¬ nI j = 2) (e3 : ¬ nI j = 3) (e4 : ¬ nI j = 4) (e5 : ¬ nI j = 5) (e6 : ¬ nI j = 6) (e7 : ¬ nI j = 7) (e8 : ¬ nI j = 8) (e9 : ¬ nI j = 9) (e10 : ¬ nI j = 10) (e11 : ¬ nI j = 11) (e12 : ¬ nI j = 12) (e13 : ¬ nI j = 13) (e14 : ¬ nI j = 14) (e15 : ¬ nI j = 15) (e16 : ¬ nI j = 16) (e17 : ¬ nI j = 17) (e18 : ¬ nI j = 18) (e19 : ¬ nI j = 19) (e20 : ¬ nI j = 20) (e21 : ¬ nI j = 21) (e22 : ¬ nI j = 22) (e23 : ¬ nI j = 23) (e24 : ¬ nI j = 24) (e25 : ¬ nI j = 25) (e26 : ¬ nI j = 26) (e27 : ¬ nI j = 27) (e28 : ¬ nI j = 28) (e29 : ¬ nI j = 29) (e30 : ¬ nI j = 30) (e31 : ¬ nI j = 31) (e32 : ¬ nI j = 32) (e33 : ¬ nI j = 33) (e34 : ¬ nI j = 34) (e35 : ¬ nI j = 35) (e36 : ¬ nI j = 36) (e37 : ¬ nI j = 37) : False := by
  have h0 : j ≠ 0 := fun h => e0 (by rw [h]; decide)
  have h1 : j ≠ 1 := fun h => e1 (by rw [h]; decide)
  have h2 : j ≠ 2 := fun h => e2 (by rw [h]; decide)
  have h3 : j ≠ 3 := fun h => e3 (by rw [h]; decide)
  have h4 : j ≠ 4 := fun h => e4 (by rw [h]; decide)
  have h5 : j ≠ 5 := fun h => e5 (by rw [h]; decide)
  have h6 : j ≠ 6 := fun h => e6 (by rw [h]; decide)
  have h7 : j ≠ 7 := fun h => e7 (by rw [h]; decide)
  have h8 : j ≠ 8 := fun h => e8 (by rw [h]; decide)
  have h9 : j ≠ 9 := fun h => e9 (by rw [h]; decide)
  have h10 : j ≠ 10 := fun h => e10 (by rw [h]; decide)
  have h11 : j ≠ 11 := fun h => e11 (by rw [h]; decide)
  have h12 : j ≠ 12 := fun h => e12 (by rw [h]; decide)
  have h13 : j ≠ 13 := fun h => e13 (by rw [h]; decide)
  have h14 : j ≠ 14 := fun h => e14 (by rw [h]; decide)
  have h15 : j ≠ 15 := fun h => e15 (by rw [h]; decide)
  have h16 : j ≠ 16 := fun h => e16 (by rw [h]; decide)
  have h17 : j ≠ 17 := fun h => e17 (by rw [h]; decide)
  have h18 : j ≠ 18 := fun h => e18 (by rw [h]; decide)
  have h19 : j ≠ 19 := fun h => e19 (by rw [h]; decide)
  have h20 : j ≠ 20 := fun h => e20 (by rw [h]; decide)
  have h21 : j ≠ 21 := fun h => e21 (by rw [h]; decide)
  have h22 : j ≠ 22 := fun h => e22 (by rw [h]; decide)
  have h23 : j ≠ 23 := fun h => e23 (by rw [h]; decide)
  have h24 : j ≠ 24 := fun h => e24 (by rw [h]; decide)
  have h25 : j ≠ 25 := fun h => e25 (by rw [h]; decide)
  have h26 : j ≠ 26 := fun h => e26 (by rw [h]; decide)
  have h27 : j ≠ 27 := fun h => e27 (by rw [h]; decide)
  have h28 : j ≠ 28 := fun h => e28 (by rw [h]; decide)
  have h29 : j ≠ 29 := fun h => e29 (by rw [h]; decide)
  have h30 : j ≠ 30 := fun h => e30 (by rw [h]; decide)
  have h31 : j ≠ 31 := fun h => e31 (by rw [h]; decide)
  have h32 : j ≠ 32 := fun h => e32 (by rw [h]; decide)
  have h33 : j ≠ 33 := fun h => e33 (by rw [h]; decide)
  have h34 : j ≠ 34 := fun h => e34 (by rw [h]; decide)
  have h35 : j ≠ 35 := fun h => e35 (by rw [h]; decide)
  have h36 : j ≠ 36 := fun h => e36 (by rw [h]; decide)
  have h37 : j ≠ 37 := fun h => e37 (by rw [h]; decide)
  omega
theorem p1_pure {L : Nat} (hL : L ≤ 5) (xs : Nat → Int32) : ql4 (law_F L xs) 4096 0 U0 V0 g0 = some 1 := by
  have hlt : L < 5 → ql4 (law_F L xs) 4096 0 U0 V0 g0 = some 1 := fun h => by
    refine ql4_u (fun R => ?_)
    unfold law_F
    rw [if_pos ((by decide : ∀ L, L < 5 → (Int32.ofNat L) - 5 < 0) L h)]
  rcases Nat.lt_or_ge L 5 with h | h
  · exact hlt h
  · have : L = 5 := by omega
    subst this
    have hrec : ∀ (U : S2) (V : S1) (g : Nat → Int64), ql4 (law_F 5 xs) 4095 (0 + 5) U V g = some 1 := fun U V g => by
      show law_F 5 xs (ql4 (law_F 5 xs) 4094) (0 + 5) U V g = some 1
      unfold law_F
      rw [if_pos (show (Int32.ofNat 5) - 5 < 0 + 5 by decide)]
    show law_F 5 xs (ql4 (law_F 5 xs) 4095) 0 U0 V0 g0 = some 1
    generalize ql4 (law_F 5 xs) 4095 = R at hrec ⊢
    unfold law_F
    rw [if_neg (show ¬ (Int32.ofNat 5) - 5 < 0 by decide), chk_t (show inb 0 5 = true by decide)]
    generalize hx : (xs (0 : Int32).toNatClampNeg &&& 63) = x
    by_cases hr : x.toInt < 0 ∨ 37 < x.toInt
    · rw [if_pos hr]
      exact hrec _ _ _
    rw [if_neg hr]
    by_cases e0 : x = 0
    · rw [if_pos e0]
      exact B0_ok xs R hrec (ok_user (xs 1))
    rw [if_neg e0]
    by_cases e1 : x = 1
    · rw [if_pos e1]
      exact B1_ok xs R hrec (ok_file (xs 1) (xs 2))
    rw [if_neg e1]
    by_cases e2 : x = 2
    · rw [if_pos e2]
      exact B2_ok xs R hrec (ok_folder (xs 1) (xs 2))
    rw [if_neg e2]
    by_cases e3 : x = 3
    · rw [if_pos e3]
      exact B3_ok xs R hrec (ok_link (xs 1) (xs 2))
    rw [if_neg e3]
    by_cases e4 : x = 4
    · rw [if_pos e4]
      exact B4_ok xs R hrec (ok_hard (xs 1) (xs 2))
    rw [if_neg e4]
    by_cases e5 : x = 5
    · rw [if_pos e5]
      exact B5_ok xs R hrec (ok_rename (xs 1) (xs 2))
    rw [if_neg e5]
    by_cases e6 : x = 6
    · rw [if_pos e6]
      exact B6_ok xs R hrec (ok_remove (xs 1))
    rw [if_neg e6]
    by_cases e7 : x = 7
    · rw [if_pos e7]
      exact B7_ok xs R hrec (ok_rights (xs 1) (xs 2))
    rw [if_neg e7]
    by_cases e8 : x = 8
    · rw [if_pos e8]
      exact B8_ok xs R hrec (ok_own (xs 1) (xs 2))
    rw [if_neg e8]
    by_cases e9 : x = 9
    · rw [if_pos e9]
      exact B9_ok xs R hrec (ok_look (xs 1) (xs 2))
    rw [if_neg e9]
    by_cases e10 : x = 10
    · rw [if_pos e10]
      exact B10_ok xs R hrec (ok_open (xs 1) (xs 2))
    rw [if_neg e10]
    by_cases e11 : x = 11
    · rw [if_pos e11]
      exact B11_ok xs R hrec (ok_close (xs 1))
    rw [if_neg e11]
    by_cases e12 : x = 12
    · rw [if_pos e12]
      exact B12_ok xs R hrec (ok_write (xs 1) (xs 2) (xs 3))
    rw [if_neg e12]
    by_cases e13 : x = 13
    · rw [if_pos e13]
      exact B13_ok xs R hrec (ok_read (xs 1) (xs 2))
    rw [if_neg e13]
    by_cases e14 : x = 14
    · rw [if_pos e14]
      exact B14_ok xs R hrec (ok_ahead (xs 1) (xs 2) (xs 3))
    rw [if_neg e14]
    by_cases e15 : x = 15
    · rw [if_pos e15]
      exact B15_ok xs R hrec (ok_cut (xs 1) (xs 2))
    rw [if_neg e15]
    by_cases e16 : x = 16
    · rw [if_pos e16]
      exact B16_ok xs R hrec (ok_lock (xs 1) (xs 2) (xs 3) (xs 4))
    rw [if_neg e16]
    by_cases e17 : x = 17
    · rw [if_pos e17]
      exact B17_ok xs R hrec (ok_unlock (xs 1) (xs 2) (xs 3))
    rw [if_neg e17]
    by_cases e18 : x = 18
    · rw [if_pos e18]
      exact B18_ok xs R hrec (ok_lockOf (xs 1) (xs 2))
    rw [if_neg e18]
    by_cases e19 : x = 19
    · rw [if_pos e19]
      exact B19_ok xs R hrec (ok_flush (xs 1))
    rw [if_neg e19]
    by_cases e20 : x = 20
    · rw [if_pos e20]
      exact B20_ok xs R hrec (ok_sync (xs 1))
    rw [if_neg e20]
    by_cases e21 : x = 21
    · rw [if_pos e21]
      exact B21_ok xs R hrec ok_commit
    rw [if_neg e21]
    by_cases e22 : x = 22
    · rw [if_pos e22]
      exact B22_ok xs R hrec ok_crash
    rw [if_neg e22]
    by_cases e23 : x = 23
    · rw [if_pos e23]
      exact B23_ok xs R hrec ok_snapshot
    rw [if_neg e23]
    by_cases e24 : x = 24
    · rw [if_pos e24]
      exact B24_ok xs R hrec (ok_drop (xs 1))
    rw [if_neg e24]
    by_cases e25 : x = 25
    · rw [if_pos e25]
      exact B25_ok xs R hrec (ok_readOld (xs 1) (xs 2) (xs 3))
    rw [if_neg e25]
    by_cases e26 : x = 26
    · rw [if_pos e26]
      exact B26_ok xs R hrec (ok_quota (xs 1) (xs 2))
    rw [if_neg e26]
    by_cases e27 : x = 27
    · rw [if_pos e27]
      exact B27_ok xs R hrec (ok_bad (xs 1) (xs 2))
    rw [if_neg e27]
    by_cases e28 : x = 28
    · rw [if_pos e28]
      exact B28_ok xs R hrec (ok_damage (xs 1) (xs 2) (xs 3))
    rw [if_neg e28]
    by_cases e29 : x = 29
    · rw [if_pos e29]
      exact B29_ok xs R hrec ok_check
    rw [if_neg e29]
    by_cases e30 : x = 30
    · rw [if_pos e30]
      exact B30_ok xs R hrec (ok_about (xs 1) (xs 2))
    rw [if_neg e30]
    by_cases e31 : x = 31
    · rw [if_pos e31]
      exact B31_ok xs R hrec (ok_entry (xs 1) (xs 2))
    rw [if_neg e31]
    by_cases e32 : x = 32
    · rw [if_pos e32]
      exact B32_ok xs R hrec (ok_target (xs 1))
    rw [if_neg e32]
    by_cases e33 : x = 33
    · rw [if_pos e33]
      exact B33_ok xs R hrec (ok_page (xs 1) (xs 2) (xs 3))
    rw [if_neg e33]
    by_cases e34 : x = 34
    · rw [if_pos e34]
      exact B34_ok xs R hrec (ok_number (xs 1))
    rw [if_neg e34]
    by_cases e35 : x = 35
    · rw [if_pos e35]
      exact B35_ok xs R hrec (ok_isFree (xs 1))
    rw [if_neg e35]
    by_cases e36 : x = 36
    · rw [if_pos e36]
      exact B36_ok xs R hrec (ok_used (xs 1))
    rw [if_neg e36]
    by_cases e37 : x = 37
    · rw [if_pos e37]
      exact B37_ok xs R hrec ok_dirty
    rw [if_neg e37]
    have h0 : ¬ x < 0 := fun h => hr (Or.inl (Int32.lt_iff_toInt_lt.mp h))
    obtain ⟨j, hj, rfl⟩ := nI_of2 (M := 37) (n := 37) (by decide) h0 (Int32.not_lt.mp (fun h => hr (Or.inr (Int32.lt_iff_toInt_lt.mp h))))
    exact (last_ops j (by omega) e0 e1 e2 e3 e4 e5 e6 e7 e8 e9 e10 e11 e12 e13 e14 e15 e16 e17 e18 e19 e20 e21 e22 e23 e24 e25 e26 e27 e28 e29 e30 e31 e32 e33 e34 e35 e36 e37).elim
