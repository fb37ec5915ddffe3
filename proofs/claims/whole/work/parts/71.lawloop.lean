/-! PART 71: the law's loop -/
theorem j_ofN (n : Nat) : Int32.ofNat n = nI n := rfl
theorem j_out {L jx : Nat} (h : L < 5 * jx + 5) (hL : L ≤ 320) (hj : jx ≤ 65) : Int32.ofNat L - 5 < nI (5 * jx) := by
  have h5 : (5 : Int32).toInt = 5 := by decide
  have h1 : (Int32.ofNat L - 5).toInt = (L : Int) - 5 := by rw [j_ofN, fb_subI (by rw [nI_T (by omega), h5]; omega) (by rw [nI_T (by omega), h5]; omega), nI_T (by omega), h5]
  rw [z_ltI, h1, nI_T (by omega)]
  omega
theorem j_inL {L jx : Nat} (h : 5 * jx + 5 ≤ L) (hL : L ≤ 320) : ¬ Int32.ofNat L - 5 < nI (5 * jx) := by
  have h5 : (5 : Int32).toInt = 5 := by decide
  have h1 : (Int32.ofNat L - 5).toInt = (L : Int) - 5 := by rw [j_ofN, fb_subI (by rw [nI_T (by omega), h5]; omega) (by rw [nI_T (by omega), h5]; omega), nI_T (by omega), h5]
  rw [z_ltI, h1, nI_T (by omega)]
  omega
theorem j_arg {L jx k : Nat} {xs : Nat → Int32} {y : Int32} (hk : k < 5) (h : 5 * jx + 5 ≤ L) (hL : L ≤ 320) (hy : xs (nI (5 * jx) + nI k).toNatClampNeg = y) : vp_in (nI (5 * jx) + nI k) L ∧ xs (nI (5 * jx) + nI k).toNatClampNeg = y := by
  refine ⟨?_, hy⟩
  rw [nI_add]
  exact vp_in_nI (by omega) (by omega)
theorem dL_law_27 : decode cL_law 27 = .ok (.iload 4, 2) := by decide +kernel
theorem dL_law_29 : decode cL_law 29 = .ok (.aload_n 0, 1) := by decide +kernel
theorem dL_law_30 : decode cL_law 30 = .ok (.arraylength, 1) := by decide +kernel
theorem dL_law_31 : decode cL_law 31 = .ok (.iconst 5, 1) := by decide +kernel
theorem dL_law_32 : decode cL_law 32 = .ok (.isub, 1) := by decide +kernel
theorem dL_law_33 : decode cL_law 33 = .ok (.if_icmp .gt 2781, 3) := by decide +kernel
theorem dL_law_36 : decode cL_law 36 = .ok (.aload_n 0, 1) := by decide +kernel
theorem dL_law_37 : decode cL_law 37 = .ok (.iload 4, 2) := by decide +kernel
theorem dL_law_39 : decode cL_law 39 = .ok (.iaload, 1) := by decide +kernel
theorem dL_law_40 : decode cL_law 40 = .ok (.bipush 63, 2) := by decide +kernel
theorem dL_law_42 : decode cL_law 42 = .ok (.iand, 1) := by decide +kernel
theorem dL_law_43 : decode cL_law 43 = .ok (.tableswitch 2765 0 40 #[177, 258, 327, 396, 465, 558, 627, 696, 765, 834, 903, 972, 1029, 1086, 1143, 1200, 1257, 1326, 1407, 1500, 1593, 1650, 1731, 1800, 1881, 1938, 2007, 2064, 2133, 2202, 2259, 2317, 2375, 2433, 2449, 2518, 2599, 2668, 2725, 2738, 2751], 177) := by decide +kernel
theorem dL_law_2814 : decode cL_law 2814 = .ok (.iconst 1, 1) := by decide +kernel
set_option maxRecDepth 20000 in
theorem lp_law {X : zX} (C : z_C X cL_law RL 7 room_1) (h_st : (z_l X).stackTraces = false) {b L : Nat} {xs : Nat → Int32} (hX : va_X b L xs (z_s X) (z_s X).heap) (hbl : b < (z_s X).heap.size) (hbA : ¬ z_F X b) (hL : L ≤ 320) {x pa sp ln rf sb m pn td ou k0 n0 : Nat} (hk0 : k0 + 260000 ≤ 600128) (hn0 : n0 + 3900000 ≤ 7301098) (kex : ∀ Mz k n lv, k ≤ 600128 → n ≤ 7301098 → z_W X Mz k n 2815 lv [.int 1]) : ∀ (d jx : Nat) (u : sS) (th : Int32) (on : Int64) (Mw : zM), jx + d = 65 → s_LX (z_G X) x pa sp ln rf sb m pn td ou u u th on Mw → s_ok jx u → z_W X Mw (k0 + jx * 4000) (n0 + jx * 60000) 27 [(4, .int (nI (5 * jx))), (0, .ref b), (1, .ref x), (2, .ref m), (3, .ref ou)] [] := by
  intro d
  induction d with
  | zero =>
    intro jx u th on Mw hd hI hok
    have hlt : L < 5 * jx + 5 := by omega
    refine z_iload C dL_law_27 0 rfl ?_
    refine z_aload_n C dL_law_29 rfl 1 rfl ?_
    refine z_slen C hX hbl hbA dL_law_30 ?_
    refine z_iconst C (v := 5) dL_law_31 (by decide) ?_
    refine z_isub C dL_law_32 ?_
    refine z_icmp_gt C (tgt := 2814) dL_law_33 (by decide) (fun _ => ?_) (fun c33 => absurd (j_out hlt hL (by omega)) c33)
    refine z_iconst C (v := 1) dL_law_2814 (by decide) ?_
    exact kex _ _ _ _ (by omega) (by omega)
  | succ d ih =>
    intro jx u th on Mw hd hI hok
    rcases Nat.lt_or_ge L (5 * jx + 5) with hlt | hge
    · skip
      refine z_iload C dL_law_27 0 rfl ?_
      refine z_aload_n C dL_law_29 rfl 1 rfl ?_
      refine z_slen C hX hbl hbA dL_law_30 ?_
      refine z_iconst C (v := 5) dL_law_31 (by decide) ?_
      refine z_isub C dL_law_32 ?_
      refine z_icmp_gt C (tgt := 2814) dL_law_33 (by decide) (fun _ => ?_) (fun c33 => absurd (j_out hlt hL (by omega)) c33)
      refine z_iconst C (v := 1) dL_law_2814 (by decide) ?_
      exact kex _ _ _ _ (by omega) (by omega)
    · skip
      obtain ⟨a0, h0⟩ : ∃ y : Int32, xs (nI (5 * jx)).toNatClampNeg = y := ⟨_, rfl⟩
      obtain ⟨a1, h1⟩ : ∃ y : Int32, xs (nI (5 * jx) + 1).toNatClampNeg = y := ⟨_, rfl⟩
      obtain ⟨a2, h2⟩ : ∃ y : Int32, xs (nI (5 * jx) + 2).toNatClampNeg = y := ⟨_, rfl⟩
      obtain ⟨a3, h3⟩ : ∃ y : Int32, xs (nI (5 * jx) + 3).toNatClampNeg = y := ⟨_, rfl⟩
      obtain ⟨a4, h4⟩ : ∃ y : Int32, xs (nI (5 * jx) + 4).toNatClampNeg = y := ⟨_, rfl⟩
      have hs0 : vp_in (nI (5 * jx)) L ∧ xs (nI (5 * jx)).toNatClampNeg = a0 := ⟨vp_in_nI (by omega) (by omega), h0⟩
      have hs1 : vp_in (nI (5 * jx) + 1) L ∧ xs (nI (5 * jx) + 1).toNatClampNeg = a1 := j_arg (k := 1) (by decide) hge hL h1
      have hs2 : vp_in (nI (5 * jx) + 2) L ∧ xs (nI (5 * jx) + 2).toNatClampNeg = a2 := j_arg (k := 2) (by decide) hge hL h2
      have hs3 : vp_in (nI (5 * jx) + 3) L ∧ xs (nI (5 * jx) + 3).toNatClampNeg = a3 := j_arg (k := 3) (by decide) hge hL h3
      have hs4 : vp_in (nI (5 * jx) + 4) L ∧ xs (nI (5 * jx) + 4).toNatClampNeg = a4 := j_arg (k := 4) (by decide) hge hL h4
      have kk9 : ∀ v th on Mz, s_LX (z_G X) x pa sp ln rf sb m pn td ou v v th on Mz → s_ok (jx + 1) v → z_W X Mz (k0 + jx * 4000 + 4000) (n0 + jx * 60000 + 60000) 27 [(4, .int (nI (5 * (jx + 1)))), (0, .ref b), (1, .ref x), (2, .ref m), (3, .ref ou)] [] := fun v th on Mz hI9 ho9 => z_kn (by omega) (by omega) (ih (jx + 1) v th on Mz (by omega) hI9 ho9)
      refine z_iload C dL_law_27 0 rfl ?_
      refine z_aload_n C dL_law_29 rfl 1 rfl ?_
      refine z_slen C hX hbl hbA dL_law_30 ?_
      refine z_iconst C (v := 5) dL_law_31 (by decide) ?_
      refine z_isub C dL_law_32 ?_
      refine z_icmp_gt C (tgt := 2814) dL_law_33 (by decide) (fun c33 => absurd c33 (j_inL hge hL)) (fun _ => ?_)
      refine z_aload_n C dL_law_36 rfl 1 rfl ?_
      refine z_iload C dL_law_37 0 rfl ?_
      refine z_sld C hX hbl hbA hs0.1 hs0.2 dL_law_39 ?_
      refine z_bipush C (v := 63) dL_law_40 (by decide) ?_
      refine z_iand C dL_law_42 ?_
      refine z_swi (fun x43 e43 => ?_)
      by_cases c43_0 : x43 = 0
      · refine z_tin C (v := 0) (tgt := 220) dL_law_43 c43_0 (by decide) (by decide) (by decide) (by decide) ?_
        exact lc_wrap C h_st hX hbl hbA hs1 hs2 hs3 hs4 hI hok (by omega) (by omega) (by omega) kk9
      by_cases c43_1 : x43 = 1
      · refine z_tin C (v := 1) (tgt := 301) dL_law_43 c43_1 (by decide) (by decide) (by decide) (by decide) ?_
        exact lc_fresh C h_st hX hbl hbA hs1 hs2 hs3 hs4 hI hok (by omega) (by omega) (by omega) kk9
      by_cases c43_2 : x43 = 2
      · refine z_tin C (v := 2) (tgt := 370) dL_law_43 c43_2 (by decide) (by decide) (by decide) (by decide) ?_
        exact lc_twin C h_st hX hbl hbA hs1 hs2 hs3 hs4 hI hok (by omega) (by omega) (by omega) kk9
      by_cases c43_3 : x43 = 3
      · refine z_tin C (v := 3) (tgt := 439) dL_law_43 c43_3 (by decide) (by decide) (by decide) (by decide) ?_
        exact lc_rest C h_st hX hbl hbA hs1 hs2 hs3 hs4 hI hok (by omega) (by omega) (by omega) kk9
      by_cases c43_4 : x43 = 4
      · refine z_tin C (v := 4) (tgt := 508) dL_law_43 c43_4 (by decide) (by decide) (by decide) (by decide) ?_
        exact lc_part C h_st hX hbl hbA hs1 hs2 hs3 hs4 hI hok (by omega) (by omega) (by omega) kk9
      by_cases c43_5 : x43 = 5
      · refine z_tin C (v := 5) (tgt := 601) dL_law_43 c43_5 (by decide) (by decide) (by decide) (by decide) ?_
        exact lc_reader C h_st hX hbl hbA hs1 hs2 hs3 hs4 hI hok (by omega) (by omega) (by omega) kk9
      by_cases c43_6 : x43 = 6
      · refine z_tin C (v := 6) (tgt := 670) dL_law_43 c43_6 (by decide) (by decide) (by decide) (by decide) ?_
        exact lc_exchange C h_st hX hbl hbA hs1 hs2 hs3 hs4 hI hok (by omega) (by omega) (by omega) kk9
      by_cases c43_7 : x43 = 7
      · refine z_tin C (v := 7) (tgt := 739) dL_law_43 c43_7 (by decide) (by decide) (by decide) (by decide) ?_
        exact lc_go C h_st hX hbl hbA hs1 hs2 hs3 hs4 hI hok (by omega) (by omega) (by omega) kk9
      by_cases c43_8 : x43 = 8
      · refine z_tin C (v := 8) (tgt := 808) dL_law_43 c43_8 (by decide) (by decide) (by decide) (by decide) ?_
        exact lc_move C h_st hX hbl hbA hs1 hs2 hs3 hs4 hI hok (by omega) (by omega) (by omega) kk9
      by_cases c43_9 : x43 = 9
      · refine z_tin C (v := 9) (tgt := 877) dL_law_43 c43_9 (by decide) (by decide) (by decide) (by decide) ?_
        exact lc_end C h_st hX hbl hbA hs1 hs2 hs3 hs4 hI hok (by omega) (by omega) (by omega) kk9
      by_cases c43_10 : x43 = 10
      · refine z_tin C (v := 10) (tgt := 946) dL_law_43 c43_10 (by decide) (by decide) (by decide) (by decide) ?_
        exact lc_stretch C h_st hX hbl hbA hs1 hs2 hs3 hs4 hI hok (by omega) (by omega) (by omega) kk9
      by_cases c43_11 : x43 = 11
      · refine z_tin C (v := 11) (tgt := 1015) dL_law_43 c43_11 (by decide) (by decide) (by decide) (by decide) ?_
        exact lc_mark C h_st hX hbl hbA hs1 hs2 hs3 hs4 hI hok (by omega) (by omega) (by omega) kk9
      by_cases c43_12 : x43 = 12
      · refine z_tin C (v := 12) (tgt := 1072) dL_law_43 c43_12 (by decide) (by decide) (by decide) (by decide) ?_
        exact lc_back C h_st hX hbl hbA hs1 hs2 hs3 hs4 hI hok (by omega) (by omega) (by omega) kk9
      by_cases c43_13 : x43 = 13
      · refine z_tin C (v := 13) (tgt := 1129) dL_law_43 c43_13 (by decide) (by decide) (by decide) (by decide) ?_
        exact lc_clear C h_st hX hbl hbA hs1 hs2 hs3 hs4 hI hok (by omega) (by omega) (by omega) kk9
      by_cases c43_14 : x43 = 14
      · refine z_tin C (v := 14) (tgt := 1186) dL_law_43 c43_14 (by decide) (by decide) (by decide) (by decide) ?_
        exact lc_flip C h_st hX hbl hbA hs1 hs2 hs3 hs4 hI hok (by omega) (by omega) (by omega) kk9
      by_cases c43_15 : x43 = 15
      · refine z_tin C (v := 15) (tgt := 1243) dL_law_43 c43_15 (by decide) (by decide) (by decide) (by decide) ?_
        exact lc_rewind C h_st hX hbl hbA hs1 hs2 hs3 hs4 hI hok (by omega) (by omega) (by omega) kk9
      by_cases c43_16 : x43 = 16
      · refine z_tin C (v := 16) (tgt := 1300) dL_law_43 c43_16 (by decide) (by decide) (by decide) (by decide) ?_
        exact lc_put C h_st hX hbl hbA hs1 hs2 hs3 hs4 hI hok (by omega) (by omega) (by omega) kk9
      by_cases c43_17 : x43 = 17
      · refine z_tin C (v := 17) (tgt := 1369) dL_law_43 c43_17 (by decide) (by decide) (by decide) (by decide) ?_
        exact lc_putAt C h_st hX hbl hbA hs1 hs2 hs3 hs4 hI hok (by omega) (by omega) (by omega) kk9
      by_cases c43_18 : x43 = 18
      · refine z_tin C (v := 18) (tgt := 1450) dL_law_43 c43_18 (by decide) (by decide) (by decide) (by decide) ?_
        exact lc_bring C h_st hX hbl hbA hs1 hs2 hs3 hs4 hI hok (by omega) (by omega) (by omega) kk9
      by_cases c43_19 : x43 = 19
      · refine z_tin C (v := 19) (tgt := 1543) dL_law_43 c43_19 (by decide) (by decide) (by decide) (by decide) ?_
        exact lc_fill C h_st hX hbl hbA hs1 hs2 hs3 hs4 hI hok (by omega) (by omega) (by omega) kk9
      by_cases c43_20 : x43 = 20
      · refine z_tin C (v := 20) (tgt := 1636) dL_law_43 c43_20 (by decide) (by decide) (by decide) (by decide) ?_
        exact lc_pack C h_st hX hbl hbA hs1 hs2 hs3 hs4 hI hok (by omega) (by omega) (by omega) kk9
      by_cases c43_21 : x43 = 21
      · refine z_tin C (v := 21) (tgt := 1693) dL_law_43 c43_21 (by decide) (by decide) (by decide) (by decide) ?_
        exact lc_pour C h_st hX hbl hbA hs1 hs2 hs3 hs4 hI hok (by omega) (by omega) (by omega) kk9
      by_cases c43_22 : x43 = 22
      · refine z_tin C (v := 22) (tgt := 1774) dL_law_43 c43_22 (by decide) (by decide) (by decide) (by decide) ?_
        exact lc_lay C h_st hX hbl hbA hs1 hs2 hs3 hs4 hI hok (by omega) (by omega) (by omega) kk9
      by_cases c43_23 : x43 = 23
      · refine z_tin C (v := 23) (tgt := 1843) dL_law_43 c43_23 (by decide) (by decide) (by decide) (by decide) ?_
        exact lc_reach C h_st hX hbl hbA hs1 hs2 hs3 hs4 hI hok (by omega) (by omega) (by omega) kk9
      by_cases c43_24 : x43 = 24
      · refine z_tin C (v := 24) (tgt := 1924) dL_law_43 c43_24 (by decide) (by decide) (by decide) (by decide) ?_
        exact lc_get C h_st hX hbl hbA hs1 hs2 hs3 hs4 hI hok (by omega) (by omega) (by omega) kk9
      by_cases c43_25 : x43 = 25
      · refine z_tin C (v := 25) (tgt := 1981) dL_law_43 c43_25 (by decide) (by decide) (by decide) (by decide) ?_
        exact lc_drain C h_st hX hbl hbA hs1 hs2 hs3 hs4 hI hok (by omega) (by omega) (by omega) kk9
      by_cases c43_26 : x43 = 26
      · refine z_tin C (v := 26) (tgt := 2050) dL_law_43 c43_26 (by decide) (by decide) (by decide) (by decide) ?_
        exact lc_pop C h_st hX hbl hbA hs1 hs2 hs3 hs4 hI hok (by omega) (by omega) (by omega) kk9
      by_cases c43_27 : x43 = 27
      · refine z_tin C (v := 27) (tgt := 2107) dL_law_43 c43_27 (by decide) (by decide) (by decide) (by decide) ?_
        exact lc_ofPane C h_st hX hbl hbA hs1 hs2 hs3 hs4 hI hok (by omega) (by omega) (by omega) kk9
      by_cases c43_28 : x43 = 28
      · refine z_tin C (v := 28) (tgt := 2176) dL_law_43 c43_28 (by decide) (by decide) (by decide) (by decide) ?_
        exact lc_at C h_st hX hbl hbA hs1 hs2 hs3 hs4 hI hok (by omega) (by omega) (by omega) kk9
      by_cases c43_29 : x43 = 29
      · refine z_tin C (v := 29) (tgt := 2245) dL_law_43 c43_29 (by decide) (by decide) (by decide) (by decide) ?_
        exact lc_peek C h_st hX hbl hbA hs1 hs2 hs3 hs4 hI hok (by omega) (by omega) (by omega) kk9
      by_cases c43_30 : x43 = 30
      · refine z_tin C (v := 30) (tgt := 2302) dL_law_43 c43_30 (by decide) (by decide) (by decide) (by decide) ?_
        exact lc_total C h_st hX hbl hbA hs1 hs2 hs3 hs4 hI hok (by omega) (by omega) (by omega) kk9
      by_cases c43_31 : x43 = 31
      · refine z_tin C (v := 31) (tgt := 2360) dL_law_43 c43_31 (by decide) (by decide) (by decide) (by decide) ?_
        exact lc_text C h_st hX hbl hbA hs1 hs2 hs3 hs4 hI hok (by omega) (by omega) (by omega) kk9
      by_cases c43_32 : x43 = 32
      · refine z_tin C (v := 32) (tgt := 2418) dL_law_43 c43_32 (by decide) (by decide) (by decide) (by decide) ?_
        exact lc_whole C h_st hX hbl hbA hs1 hs2 hs3 hs4 hI hok (by omega) (by omega) (by omega) kk9
      by_cases c43_33 : x43 = 33
      · refine z_tin C (v := 33) (tgt := 2476) dL_law_43 c43_33 (by decide) (by decide) (by decide) (by decide) ?_
        exact lc_row C h_st hX hbl hbA hs1 hs2 hs3 hs4 hI hok (by omega) (by omega) (by omega) kk9
      by_cases c43_34 : x43 = 34
      · refine z_tin C (v := 34) (tgt := 2492) dL_law_43 c43_34 (by decide) (by decide) (by decide) (by decide) ?_
        exact lc_isKin C h_st hX hbl hbA hs1 hs2 hs3 hs4 hI hok (by omega) (by omega) (by omega) kk9
      by_cases c43_35 : x43 = 35
      · refine z_tin C (v := 35) (tgt := 2561) dL_law_43 c43_35 (by decide) (by decide) (by decide) (by decide) ?_
        exact lc_sees C h_st hX hbl hbA hs1 hs2 hs3 hs4 hI hok (by omega) (by omega) (by omega) kk9
      by_cases c43_36 : x43 = 36
      · refine z_tin C (v := 36) (tgt := 2642) dL_law_43 c43_36 (by decide) (by decide) (by decide) (by decide) ?_
        exact lc_would C h_st hX hbl hbA hs1 hs2 hs3 hs4 hI hok (by omega) (by omega) (by omega) kk9
      by_cases c43_37 : x43 = 37
      · refine z_tin C (v := 37) (tgt := 2711) dL_law_43 c43_37 (by decide) (by decide) (by decide) (by decide) ?_
        exact lc_house C h_st hX hbl hbA hs1 hs2 hs3 hs4 hI hok (by omega) (by omega) (by omega) kk9
      by_cases c43_38 : x43 = 38
      · refine z_tin C (v := 38) (tgt := 2768) dL_law_43 c43_38 (by decide) (by decide) (by decide) (by decide) ?_
        exact lc_knock C h_st hX hbl hbA hs1 hs2 hs3 hs4 hI hok (by omega) (by omega) (by omega) kk9
      by_cases c43_39 : x43 = 39
      · refine z_tin C (v := 39) (tgt := 2781) dL_law_43 c43_39 (by decide) (by decide) (by decide) (by decide) ?_
        exact lc_isSound C h_st hX hbl hbA hs1 hs2 hs3 hs4 hI hok (by omega) (by omega) (by omega) kk9
      by_cases c43_40 : x43 = 40
      · refine z_tin C (v := 40) (tgt := 2794) dL_law_43 c43_40 (by decide) (by decide) (by decide) (by decide) ?_
        exact lc_digest C h_st hX hbl hbA hs1 hs2 hs3 hs4 hI hok (by omega) (by omega) (by omega) kk9
      refine z_tout C (tgt := 2808) dL_law_43 (z_ou41 c43_0 c43_1 c43_2 c43_3 c43_4 c43_5 c43_6 c43_7 c43_8 c43_9 c43_10 c43_11 c43_12 c43_13 c43_14 c43_15 c43_16 c43_17 c43_18 c43_19 c43_20 c43_21 c43_22 c43_23 c43_24 c43_25 c43_26 c43_27 c43_28 c43_29 c43_30 c43_31 c43_32 c43_33 c43_34 c43_35 c43_36 c43_37 c43_38 c43_39 c43_40) (by decide) ?_
      have g43_0 : ¬ (a0 &&& 63) = 0 := fun q => c43_0 (e43.trans q)
      have g43_1 : ¬ (a0 &&& 63) = 1 := fun q => c43_1 (e43.trans q)
      have g43_2 : ¬ (a0 &&& 63) = 2 := fun q => c43_2 (e43.trans q)
      have g43_3 : ¬ (a0 &&& 63) = 3 := fun q => c43_3 (e43.trans q)
      have g43_4 : ¬ (a0 &&& 63) = 4 := fun q => c43_4 (e43.trans q)
      have g43_5 : ¬ (a0 &&& 63) = 5 := fun q => c43_5 (e43.trans q)
      have g43_6 : ¬ (a0 &&& 63) = 6 := fun q => c43_6 (e43.trans q)
      have g43_7 : ¬ (a0 &&& 63) = 7 := fun q => c43_7 (e43.trans q)
      have g43_8 : ¬ (a0 &&& 63) = 8 := fun q => c43_8 (e43.trans q)
      have g43_9 : ¬ (a0 &&& 63) = 9 := fun q => c43_9 (e43.trans q)
      have g43_10 : ¬ (a0 &&& 63) = 10 := fun q => c43_10 (e43.trans q)
      have g43_11 : ¬ (a0 &&& 63) = 11 := fun q => c43_11 (e43.trans q)
      have g43_12 : ¬ (a0 &&& 63) = 12 := fun q => c43_12 (e43.trans q)
      have g43_13 : ¬ (a0 &&& 63) = 13 := fun q => c43_13 (e43.trans q)
      have g43_14 : ¬ (a0 &&& 63) = 14 := fun q => c43_14 (e43.trans q)
      have g43_15 : ¬ (a0 &&& 63) = 15 := fun q => c43_15 (e43.trans q)
      have g43_16 : ¬ (a0 &&& 63) = 16 := fun q => c43_16 (e43.trans q)
      have g43_17 : ¬ (a0 &&& 63) = 17 := fun q => c43_17 (e43.trans q)
      have g43_18 : ¬ (a0 &&& 63) = 18 := fun q => c43_18 (e43.trans q)
      have g43_19 : ¬ (a0 &&& 63) = 19 := fun q => c43_19 (e43.trans q)
      have g43_20 : ¬ (a0 &&& 63) = 20 := fun q => c43_20 (e43.trans q)
      have g43_21 : ¬ (a0 &&& 63) = 21 := fun q => c43_21 (e43.trans q)
      have g43_22 : ¬ (a0 &&& 63) = 22 := fun q => c43_22 (e43.trans q)
      have g43_23 : ¬ (a0 &&& 63) = 23 := fun q => c43_23 (e43.trans q)
      have g43_24 : ¬ (a0 &&& 63) = 24 := fun q => c43_24 (e43.trans q)
      have g43_25 : ¬ (a0 &&& 63) = 25 := fun q => c43_25 (e43.trans q)
      have g43_26 : ¬ (a0 &&& 63) = 26 := fun q => c43_26 (e43.trans q)
      have g43_27 : ¬ (a0 &&& 63) = 27 := fun q => c43_27 (e43.trans q)
      have g43_28 : ¬ (a0 &&& 63) = 28 := fun q => c43_28 (e43.trans q)
      have g43_29 : ¬ (a0 &&& 63) = 29 := fun q => c43_29 (e43.trans q)
      have g43_30 : ¬ (a0 &&& 63) = 30 := fun q => c43_30 (e43.trans q)
      have g43_31 : ¬ (a0 &&& 63) = 31 := fun q => c43_31 (e43.trans q)
      have g43_32 : ¬ (a0 &&& 63) = 32 := fun q => c43_32 (e43.trans q)
      have g43_33 : ¬ (a0 &&& 63) = 33 := fun q => c43_33 (e43.trans q)
      have g43_34 : ¬ (a0 &&& 63) = 34 := fun q => c43_34 (e43.trans q)
      have g43_35 : ¬ (a0 &&& 63) = 35 := fun q => c43_35 (e43.trans q)
      have g43_36 : ¬ (a0 &&& 63) = 36 := fun q => c43_36 (e43.trans q)
      have g43_37 : ¬ (a0 &&& 63) = 37 := fun q => c43_37 (e43.trans q)
      have g43_38 : ¬ (a0 &&& 63) = 38 := fun q => c43_38 (e43.trans q)
      have g43_39 : ¬ (a0 &&& 63) = 39 := fun q => c43_39 (e43.trans q)
      have g43_40 : ¬ (a0 &&& 63) = 40 := fun q => c43_40 (e43.trans q)
      refine z_iinc (v := nI (5 * (jx + 1))) (lv' := [(4, .int (nI (5 * (jx + 1)))), (0, .ref b), (1, .ref x), (2, .ref m), (3, .ref ou)]) C dL_law_2808 0 rfl (j_inc5 jx) (by decide) rfl ?_
      refine z_goto C (tgt := 27) dL_law_2811 (by decide) ?_
      refine z_fewer [0, 1, 2, 3, 4] rfl ?_
      refine z_widen (k' := k0 + jx * 4000 + 4000) (n' := n0 + jx * 60000 + 60000) (by omega) (by omega) ?_
      exact kk9 u th on _ hI (s_ok_mono hok (Nat.le_succ _))
