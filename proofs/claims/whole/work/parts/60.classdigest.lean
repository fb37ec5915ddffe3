/-! PART 60: the class's digest: the state is kept, the number is not told -/
theorem nI_gt9 {a b : Nat} (h : b < a) (ha : a < 100000) : nI b < nI a := by
  rw [z_ltI, nI_T (by omega), nI_T (by omega)]; omega
theorem nI_ngt9 {a b : Nat} (h : a ≤ b) (hb : b < 100000) : ¬ nI b < nI a := by
  rw [z_ltI, nI_T (by omega), nI_T (by omega)]; omega
theorem z_is08 {j : Nat} (h : j < 9) : ¬ z_is (nI j) 0 8 = 0 := by
  rcases (show j = 0 ∨ j = 1 ∨ j = 2 ∨ j = 3 ∨ j = 4 ∨ j = 5 ∨ j = 6 ∨ j = 7 ∨ j = 8 by omega) with rfl | rfl | rfl | rfl | rfl | rfl | rfl | rfl | rfl <;> decide
theorem dX3_mixPane_0 : decode cX3_mixPane 0 = .ok (.lload_n 1, 1) := by decide +kernel
theorem dX3_mixPane_1 : decode cX3_mixPane 1 = .ok (.lstore 4, 2) := by decide +kernel
theorem dX3_mixPane_3 : decode cX3_mixPane 3 = .ok (.iconst 0, 1) := by decide +kernel
theorem dX3_mixPane_4 : decode cX3_mixPane 4 = .ok (.istore 6, 2) := by decide +kernel
theorem dX3_mixPane_6 : decode cX3_mixPane 6 = .ok (.iload 6, 2) := by decide +kernel
theorem dX3_mixPane_8 : decode cX3_mixPane 8 = .ok (.bipush 9, 2) := by decide +kernel
theorem dX3_mixPane_10 : decode cX3_mixPane 10 = .ok (.if_icmp .gt 22, 3) := by decide +kernel
theorem dX3_mixPane_13 : decode cX3_mixPane 13 = .ok (.lload 4, 2) := by decide +kernel
theorem dX3_mixPane_15 : decode cX3_mixPane 15 = .ok (.aload_n 3, 1) := by decide +kernel
theorem dX3_mixPane_16 : decode cX3_mixPane 16 = .ok (.iload 6, 2) := by decide +kernel
theorem dX3_mixPane_18 : decode cX3_mixPane 18 = .ok (.invokevirtual 158, 3) := by decide +kernel
theorem dX3_mixPane_21 : decode cX3_mixPane 21 = .ok (.invokestatic 203, 3) := by decide +kernel
theorem dX3_mixPane_24 : decode cX3_mixPane 24 = .ok (.lstore 4, 2) := by decide +kernel
theorem dX3_mixPane_26 : decode cX3_mixPane 26 = .ok (.iinc 6 1, 3) := by decide +kernel
theorem dX3_mixPane_29 : decode cX3_mixPane 29 = .ok (.goto (-23), 3) := by decide +kernel
theorem dX3_mixPane_32 : decode cX3_mixPane 32 = .ok (.aload_n 0, 1) := by decide +kernel
theorem dX3_mixPane_33 : decode cX3_mixPane 33 = .ok (.getfield 34, 3) := by decide +kernel
theorem dX3_mixPane_36 : decode cX3_mixPane 36 = .ok (.aload_n 3, 1) := by decide +kernel
theorem dX3_mixPane_37 : decode cX3_mixPane 37 = .ok (.invokevirtual 171, 3) := by decide +kernel
theorem dX3_mixPane_40 : decode cX3_mixPane 40 = .ok (.aload_n 0, 1) := by decide +kernel
theorem dX3_mixPane_41 : decode cX3_mixPane 41 = .ok (.lload 4, 2) := by decide +kernel
theorem dX3_mixPane_43 : decode cX3_mixPane 43 = .ok (.invokevirtual 211, 3) := by decide +kernel
theorem dX3_mixPane_46 : decode cX3_mixPane 46 = .ok (.lstore 4, 2) := by decide +kernel
theorem dX3_mixPane_48 : decode cX3_mixPane 48 = .ok (.aload_n 0, 1) := by decide +kernel
theorem dX3_mixPane_49 : decode cX3_mixPane 49 = .ok (.getfield 34, 3) := by decide +kernel
theorem dX3_mixPane_52 : decode cX3_mixPane 52 = .ok (.aload_n 3, 1) := by decide +kernel
theorem dX3_mixPane_53 : decode cX3_mixPane 53 = .ok (.invokevirtual 161, 3) := by decide +kernel
theorem dX3_mixPane_56 : decode cX3_mixPane 56 = .ok (.aload_n 0, 1) := by decide +kernel
theorem dX3_mixPane_57 : decode cX3_mixPane 57 = .ok (.lload 4, 2) := by decide +kernel
theorem dX3_mixPane_59 : decode cX3_mixPane 59 = .ok (.invokevirtual 211, 3) := by decide +kernel
theorem dX3_mixPane_62 : decode cX3_mixPane 62 = .ok (.lreturn, 1) := by decide +kernel
theorem dX3_digest_0 : decode cX3_digest 0 = .ok (.ldc2_w 201, 3) := by decide +kernel
theorem dX3_digest_3 : decode cX3_digest 3 = .ok (.lstore_n 1, 1) := by decide +kernel
theorem dX3_digest_4 : decode cX3_digest 4 = .ok (.iconst 0, 1) := by decide +kernel
theorem dX3_digest_5 : decode cX3_digest 5 = .ok (.istore_n 3, 1) := by decide +kernel
theorem dX3_digest_6 : decode cX3_digest 6 = .ok (.iload_n 3, 1) := by decide +kernel
theorem dX3_digest_7 : decode cX3_digest 7 = .ok (.bipush 8, 2) := by decide +kernel
theorem dX3_digest_9 : decode cX3_digest 9 = .ok (.if_icmp .gt 19, 3) := by decide +kernel
theorem dX3_digest_12 : decode cX3_digest 12 = .ok (.lload_n 1, 1) := by decide +kernel
theorem dX3_digest_13 : decode cX3_digest 13 = .ok (.aload_n 0, 1) := by decide +kernel
theorem dX3_digest_14 : decode cX3_digest 14 = .ok (.iload_n 3, 1) := by decide +kernel
theorem dX3_digest_15 : decode cX3_digest 15 = .ok (.invokevirtual 185, 3) := by decide +kernel
theorem dX3_digest_18 : decode cX3_digest 18 = .ok (.invokestatic 203, 3) := by decide +kernel
theorem dX3_digest_21 : decode cX3_digest 21 = .ok (.lstore_n 1, 1) := by decide +kernel
theorem dX3_digest_22 : decode cX3_digest 22 = .ok (.iinc 3 1, 3) := by decide +kernel
theorem dX3_digest_25 : decode cX3_digest 25 = .ok (.goto (-19), 3) := by decide +kernel
theorem dX3_digest_28 : decode cX3_digest 28 = .ok (.iconst 0, 1) := by decide +kernel
theorem dX3_digest_29 : decode cX3_digest 29 = .ok (.istore_n 3, 1) := by decide +kernel
theorem dX3_digest_30 : decode cX3_digest 30 = .ok (.iload_n 3, 1) := by decide +kernel
theorem dX3_digest_31 : decode cX3_digest 31 = .ok (.aload_n 0, 1) := by decide +kernel
theorem dX3_digest_32 : decode cX3_digest 32 = .ok (.getfield 20, 3) := by decide +kernel
theorem dX3_digest_35 : decode cX3_digest 35 = .ok (.arraylength, 1) := by decide +kernel
theorem dX3_digest_36 : decode cX3_digest 36 = .ok (.if_icmp .ge 21, 3) := by decide +kernel
theorem dX3_digest_39 : decode cX3_digest 39 = .ok (.aload_n 0, 1) := by decide +kernel
theorem dX3_digest_40 : decode cX3_digest 40 = .ok (.lload_n 1, 1) := by decide +kernel
theorem dX3_digest_41 : decode cX3_digest 41 = .ok (.aload_n 0, 1) := by decide +kernel
theorem dX3_digest_42 : decode cX3_digest 42 = .ok (.getfield 20, 3) := by decide +kernel
theorem dX3_digest_45 : decode cX3_digest 45 = .ok (.iload_n 3, 1) := by decide +kernel
theorem dX3_digest_46 : decode cX3_digest 46 = .ok (.aaload, 1) := by decide +kernel
theorem dX3_digest_47 : decode cX3_digest 47 = .ok (.invokevirtual 207, 3) := by decide +kernel
theorem dX3_digest_50 : decode cX3_digest 50 = .ok (.lstore_n 1, 1) := by decide +kernel
theorem dX3_digest_51 : decode cX3_digest 51 = .ok (.iinc 3 1, 3) := by decide +kernel
theorem dX3_digest_54 : decode cX3_digest 54 = .ok (.goto (-24), 3) := by decide +kernel
theorem dX3_digest_57 : decode cX3_digest 57 = .ok (.iconst 0, 1) := by decide +kernel
theorem dX3_digest_58 : decode cX3_digest 58 = .ok (.istore_n 3, 1) := by decide +kernel
theorem dX3_digest_59 : decode cX3_digest 59 = .ok (.iload_n 3, 1) := by decide +kernel
theorem dX3_digest_60 : decode cX3_digest 60 = .ok (.aload_n 0, 1) := by decide +kernel
theorem dX3_digest_61 : decode cX3_digest 61 = .ok (.getfield 20, 3) := by decide +kernel
theorem dX3_digest_64 : decode cX3_digest 64 = .ok (.arraylength, 1) := by decide +kernel
theorem dX3_digest_65 : decode cX3_digest 65 = .ok (.if_icmp .ge 67, 3) := by decide +kernel
theorem dX3_digest_68 : decode cX3_digest 68 = .ok (.aload_n 0, 1) := by decide +kernel
theorem dX3_digest_69 : decode cX3_digest 69 = .ok (.getfield 20, 3) := by decide +kernel
theorem dX3_digest_72 : decode cX3_digest 72 = .ok (.iload_n 3, 1) := by decide +kernel
theorem dX3_digest_73 : decode cX3_digest 73 = .ok (.iconst 1, 1) := by decide +kernel
theorem dX3_digest_74 : decode cX3_digest 74 = .ok (.iadd, 1) := by decide +kernel
theorem dX3_digest_75 : decode cX3_digest 75 = .ok (.aload_n 0, 1) := by decide +kernel
theorem dX3_digest_76 : decode cX3_digest 76 = .ok (.getfield 20, 3) := by decide +kernel
theorem dX3_digest_79 : decode cX3_digest 79 = .ok (.arraylength, 1) := by decide +kernel
theorem dX3_digest_80 : decode cX3_digest 80 = .ok (.if_icmp .ge 9, 3) := by decide +kernel
theorem dX3_digest_83 : decode cX3_digest 83 = .ok (.iload_n 3, 1) := by decide +kernel
theorem dX3_digest_84 : decode cX3_digest 84 = .ok (.iconst 1, 1) := by decide +kernel
theorem dX3_digest_85 : decode cX3_digest 85 = .ok (.iadd, 1) := by decide +kernel
theorem dX3_digest_86 : decode cX3_digest 86 = .ok (.goto 4, 3) := by decide +kernel
theorem dX3_digest_89 : decode cX3_digest 89 = .ok (.iconst 0, 1) := by decide +kernel
theorem dX3_digest_90 : decode cX3_digest 90 = .ok (.aaload, 1) := by decide +kernel
theorem dX3_digest_91 : decode cX3_digest 91 = .ok (.astore 4, 2) := by decide +kernel
theorem dX3_digest_93 : decode cX3_digest 93 = .ok (.lload_n 1, 1) := by decide +kernel
theorem dX3_digest_94 : decode cX3_digest 94 = .ok (.aload_n 0, 1) := by decide +kernel
theorem dX3_digest_95 : decode cX3_digest 95 = .ok (.getfield 20, 3) := by decide +kernel
theorem dX3_digest_98 : decode cX3_digest 98 = .ok (.iload_n 3, 1) := by decide +kernel
theorem dX3_digest_99 : decode cX3_digest 99 = .ok (.aaload, 1) := by decide +kernel
theorem dX3_digest_100 : decode cX3_digest 100 = .ok (.aload 4, 2) := by decide +kernel
theorem dX3_digest_102 : decode cX3_digest 102 = .ok (.invokestatic 177, 3) := by decide +kernel
theorem dX3_digest_105 : decode cX3_digest 105 = .ok (.invokestatic 203, 3) := by decide +kernel
theorem dX3_digest_108 : decode cX3_digest 108 = .ok (.lstore_n 1, 1) := by decide +kernel
theorem dX3_digest_109 : decode cX3_digest 109 = .ok (.lload_n 1, 1) := by decide +kernel
theorem dX3_digest_110 : decode cX3_digest 110 = .ok (.aload_n 0, 1) := by decide +kernel
theorem dX3_digest_111 : decode cX3_digest 111 = .ok (.getfield 20, 3) := by decide +kernel
theorem dX3_digest_114 : decode cX3_digest 114 = .ok (.iload_n 3, 1) := by decide +kernel
theorem dX3_digest_115 : decode cX3_digest 115 = .ok (.aaload, 1) := by decide +kernel
theorem dX3_digest_116 : decode cX3_digest 116 = .ok (.iconst 0, 1) := by decide +kernel
theorem dX3_digest_117 : decode cX3_digest 117 = .ok (.aload 4, 2) := by decide +kernel
theorem dX3_digest_119 : decode cX3_digest 119 = .ok (.invokestatic 181, 3) := by decide +kernel
theorem dX3_digest_122 : decode cX3_digest 122 = .ok (.invokestatic 203, 3) := by decide +kernel
theorem dX3_digest_125 : decode cX3_digest 125 = .ok (.lstore_n 1, 1) := by decide +kernel
theorem dX3_digest_126 : decode cX3_digest 126 = .ok (.iinc 3 1, 3) := by decide +kernel
theorem dX3_digest_129 : decode cX3_digest 129 = .ok (.goto (-70), 3) := by decide +kernel
theorem dX3_digest_132 : decode cX3_digest 132 = .ok (.aload_n 0, 1) := by decide +kernel
theorem dX3_digest_133 : decode cX3_digest 133 = .ok (.invokevirtual 174, 3) := by decide +kernel
theorem dX3_digest_136 : decode cX3_digest 136 = .ok (.aload_n 0, 1) := by decide +kernel
theorem dX3_digest_137 : decode cX3_digest 137 = .ok (.lload_n 1, 1) := by decide +kernel
theorem dX3_digest_138 : decode cX3_digest 138 = .ok (.invokevirtual 211, 3) := by decide +kernel
theorem dX3_digest_141 : decode cX3_digest 141 = .ok (.lstore_n 1, 1) := by decide +kernel
theorem dX3_digest_142 : decode cX3_digest 142 = .ok (.lload_n 1, 1) := by decide +kernel
theorem dX3_digest_143 : decode cX3_digest 143 = .ok (.aload_n 0, 1) := by decide +kernel
theorem dX3_digest_144 : decode cX3_digest 144 = .ok (.invokevirtual 215, 3) := by decide +kernel
theorem dX3_digest_147 : decode cX3_digest 147 = .ok (.ifCond .eq 7, 3) := by decide +kernel
theorem dX3_digest_150 : decode cX3_digest 150 = .ok (.iconst 1, 1) := by decide +kernel
theorem dX3_digest_151 : decode cX3_digest 151 = .ok (.goto 4, 3) := by decide +kernel
theorem dX3_digest_155 : decode cX3_digest 155 = .ok (.invokestatic 203, 3) := by decide +kernel
theorem dX3_digest_158 : decode cX3_digest 158 = .ok (.lreturn, 1) := by decide +kernel
set_option maxRecDepth 20000 in
theorem lp_X3_mp {X : zX} (C : z_C X cX3_mixPane RX3 7 (z_rm 11 72 2336)) {u : sS} {x : Nat} {P RA VA : Nat → Nat} {pa sp ln rf sb t : Nat} (hok : s_ok t u) {Mw : zM} (hC : CI (z_G X) u x P RA VA pa sp ln rf sb Mw) {i : Nat} (hi : i < 6) {d0 : Int64} (kk : ∀ dq, dq = t_it (t_go u i) d0 10 → z_W X Mw 0 0 32 [(0, .ref x), (3, .ref (P i)), (4, .long dq)] []) : ∀ (d jx : Nat) (dq : Int64), jx + d = 10 → dq = t_it (t_go u i) d0 jx → z_W X Mw 0 0 6 [(6, .int (nI jx)), (0, .ref x), (3, .ref (P i)), (4, .long dq)] [] := by
  intro d
  induction d with
  | zero =>
    intro jx dq hd hdq
    refine z_iload C dX3_mixPane_6 0 rfl ?_
    refine z_bipush C (v := 9) dX3_mixPane_8 (by decide) ?_
    refine z_icmp_gt C (tgt := 32) dX3_mixPane_10 (by decide) (fun _ => ?_) (fun c10 => absurd (nI_gt9 (b := 9) (a := jx) (by omega) (by omega)) c10)
    refine z_fewer [1, 2, 3] rfl ?_
    exact kk _ (by rw [hdq, show jx = 10 by omega])
  | succ d ih =>
    intro jx dq hd hdq
    refine z_iload C dX3_mixPane_6 0 rfl ?_
    refine z_bipush C (v := 9) dX3_mixPane_8 (by decide) ?_
    refine z_icmp_gt C (tgt := 32) dX3_mixPane_10 (by decide) (fun c10 => absurd c10 (nI_ngt9 (a := jx) (b := 9) (by omega) (by omega))) (fun _ => ?_)
    refine z_lload C dX3_mixPane_13 3 rfl ?_
    refine z_aload_n C dX3_mixPane_15 rfl 2 rfl ?_
    refine z_iload C dX3_mixPane_16 0 rfl ?_
    refine z_callVi (rest := [.long dq]) (k' := 0) (n' := 0) C (a_X1_numS (z_l X) hC hok hi _) (cs_X3_158 C (by decide)) (CI_P hC hi) rfl rfl rfl rfl (Nat.le_of_ble_eq_true rfl) rfl rfl (Nat.le_of_ble_eq_true rfl) (Nat.le_of_ble_eq_true rfl) dX3_mixPane_18 (fun x18 Mq18 hq => ?_)
    obtain ⟨v18, rfl⟩ := hq
    refine z_callSl (rest := []) (k' := 0) (n' := 0) C (c_X3_mix (z_l X) (z_G X) ) (cs_X3_203 C (by decide)) rfl rfl (Nat.le_of_ble_eq_true rfl) rfl rfl (Nat.le_of_ble_eq_true rfl) (Nat.le_of_ble_eq_true rfl) dX3_mixPane_21 (fun x21 M' hq => ?_)
    obtain ⟨rfl, rfl⟩ := hq
    refine z_lstore (lv' := [(4, .long ((dq * 31) + x18.toInt64)), (6, .int (nI jx)), (0, .ref x), (3, .ref (P i))]) C dX3_mixPane_24 (by decide) rfl ?_
    refine z_iinc (v := nI (jx + 1)) (lv' := [(6, .int (nI (jx + 1))), (4, .long ((dq * 31) + x18.toInt64)), (0, .ref x), (3, .ref (P i))]) C dX3_mixPane_26 1 rfl (nI_1 jx) (by decide) rfl ?_
    refine z_goto C (tgt := 6) dX3_mixPane_29 (by decide) ?_
    refine z_fewer [0, 2, 3, 1] rfl ?_
    exact ih (jx + 1) _ (by omega) (by rw [v18, hdq]; exact rfl)
set_option maxRecDepth 20000 in
theorem a_X3_mixPane (l : Launch) {G : zG} {u : sS} {x : Nat} {P RA VA : Nat → Nat} {pa sp ln rf sb : Nat} {Mw : zM} (hC : CI G u x P RA VA pa sp ln rf sb Mw) {t : Nat} (hok : s_ok t u) {i : Nat} (hi : i < 6) {dq : Int64} : z_Ml l G qX3_mixPane (z_rm 11 72 2336) [.ref x, .long dq, .ref (P i)] Mw (fun r Mz => r = t_pn u i dq ∧ CI G u x P RA VA pa sp ln rf sb Mz)  := by
  obtain ⟨vb0, c0, n0, hBq⟩ := CI_B hC
  refine z_Ml_of _ (plainFor_of_name rfl) rfl (Nat.le_of_ble_eq_true rfl) (fun X hl hG hnm C ret => ?_)
  subst hl; subst hG
  have C : z_C X cX3_mixPane RX3 7 (z_rm 11 72 2336) := C
  show z_W X Mw 0 0 0 [(0, .ref x), (1, .long dq), (3, .ref (P i))] []
  refine z_lload_n C dX3_mixPane_0 rfl 1 rfl ?_
  refine z_lstore (lv' := [(4, .long dq), (0, .ref x), (1, .long dq), (3, .ref (P i))]) C dX3_mixPane_1 (by decide) rfl ?_
  refine z_iconst C (v := 0) dX3_mixPane_3 (by decide) ?_
  refine z_istore (lv' := [(6, .int 0), (4, .long dq), (0, .ref x), (1, .long dq), (3, .ref (P i))]) C dX3_mixPane_4 (by decide) rfl ?_
  refine z_fewer [0, 2, 4, 1] rfl ?_
  refine z_at (M' := _) (lv' := [(6, .int (nI 0)), (0, .ref x), (3, .ref (P i)), (4, .long dq)]) rfl (by rw [nI_0]; rfl) rfl ?_
  refine lp_X3_mp C hok hC hi (d0 := dq) (fun d9 hd9 => ?_) 10 0 dq (Nat.zero_add _) rfl
  refine z_aload_n C dX3_mixPane_32 rfl 0 rfl ?_
  refine gf_X3_34 C hC.1 dX3_mixPane_33 ?_
  refine z_aload_n C dX3_mixPane_36 rfl 1 rfl ?_
  refine z_callVv (rest := []) (k' := 36) (n' := 1168) C (a_X0_beginWhole (z_l X) hC hok hBq hi) (cs_X3_171 C (by decide)) (CI_ln hC) rfl rfl rfl rfl (Nat.le_of_ble_eq_true rfl) rfl rfl (Nat.le_of_ble_eq_true rfl) (Nat.le_of_ble_eq_true rfl) dX3_mixPane_37 (fun Mq37 hq => ?_)
  obtain ⟨hC37, vb37, c37q, n37q, hc37, hB37, hL37⟩ := hq
  refine z_aload_n C dX3_mixPane_40 rfl 0 rfl ?_
  refine z_lload C dX3_mixPane_41 2 rfl ?_
  refine z_callVl (rest := []) (k' := 36) (n' := 1168) C (a_X3_mixLine (z_l X) hC37 hok hB37 hL37) (cs_X3_211 C (by decide)) hC37.1 rfl rfl rfl rfl (Nat.le_of_ble_eq_true rfl) rfl rfl (Nat.le_of_ble_eq_true rfl) (Nat.le_of_ble_eq_true rfl) dX3_mixPane_43 (fun x43 Mq43 hq => ?_)
  obtain ⟨e43, rfl⟩ := hq
  refine z_lstore (lv' := [(4, .long x43), (0, .ref x), (3, .ref (P i))]) C dX3_mixPane_46 (by decide) rfl ?_
  refine z_aload_n C dX3_mixPane_48 rfl 1 rfl ?_
  refine gf_X3_34 C hC37.1 dX3_mixPane_49 ?_
  refine z_aload_n C dX3_mixPane_52 rfl 2 rfl ?_
  refine z_callVv (rest := []) (k' := 72) (n' := 2336) C (a_X0_beginTotal (z_l X) hC37 hok hB37 hi) (cs_X3_161 C (by decide)) (CI_ln hC37) rfl rfl rfl rfl (Nat.le_of_ble_eq_true rfl) rfl rfl (Nat.le_of_ble_eq_true rfl) (Nat.le_of_ble_eq_true rfl) dX3_mixPane_53 (fun Mq53 hq => ?_)
  obtain ⟨hC53, vb53, c53q, n53q, hc53, hB53, hL53⟩ := hq
  refine z_aload_n C dX3_mixPane_56 rfl 1 rfl ?_
  refine z_lload C dX3_mixPane_57 0 rfl ?_
  refine z_callVl (rest := []) (k' := 72) (n' := 2336) C (a_X3_mixLine (z_l X) hC53 hok hB53 hL53) (cs_X3_211 C (by decide)) hC53.1 rfl rfl rfl rfl (Nat.le_of_ble_eq_true rfl) rfl rfl (Nat.le_of_ble_eq_true rfl) (Nat.le_of_ble_eq_true rfl) dX3_mixPane_59 (fun x59 Mq59 hq => ?_)
  obtain ⟨e59, rfl⟩ := hq
  refine ret dX3_mixPane_62 ?_ (Nat.le_of_ble_eq_true rfl) (Nat.le_of_ble_eq_true rfl)
  exact ⟨by rw [e59, e43, hd9]; exact rfl, hC53⟩
set_option maxRecDepth 20000 in
theorem lp_X3_d1 {X : zX} (C : z_C X cX3_digest RX3 5 (z_rm 12 468 15184)) {u : sS} {x : Nat} {P RA VA : Nat → Nat} {pa sp ln rf sb t : Nat} (hok : s_ok t u) {Mw : zM} (hC : CI (z_G X) u x P RA VA pa sp ln rf sb Mw) {fp : Nat → Option Nat} (hpa : Mw pa = some (aP (z_G X) 6 fp)) (hfp : ∀ i, i < 6 → fp i = some (P i)) {d0 : Int64} (kk : ∀ dq, dq = t_it (t_gh u) d0 9 → z_W X Mw 0 0 28 [(0, .ref x), (1, .long dq)] []) : ∀ (d jx : Nat) (dq : Int64), jx + d = 9 → dq = t_it (t_gh u) d0 jx → z_W X Mw 0 0 6 [(3, .int (nI jx)), (0, .ref x), (1, .long dq)] [] := by
  intro d
  induction d with
  | zero =>
    intro jx dq hd hdq
    refine z_iload_n C dX3_digest_6 rfl 0 rfl ?_
    refine z_bipush C (v := 8) dX3_digest_7 (by decide) ?_
    refine z_icmp_gt C (tgt := 28) dX3_digest_9 (by decide) (fun _ => ?_) (fun c9 => absurd (nI_gt9 (b := 8) (a := jx) (by omega) (by omega)) c9)
    refine z_fewer [1, 2] rfl ?_
    exact kk _ (by rw [hdq, show jx = 9 by omega])
  | succ d ih =>
    intro jx dq hd hdq
    refine z_iload_n C dX3_digest_6 rfl 0 rfl ?_
    refine z_bipush C (v := 8) dX3_digest_7 (by decide) ?_
    refine z_icmp_gt C (tgt := 28) dX3_digest_9 (by decide) (fun c9 => absurd c9 (nI_ngt9 (a := jx) (b := 8) (by omega) (by omega))) (fun _ => ?_)
    refine z_lload_n C dX3_digest_12 rfl 2 rfl ?_
    refine z_aload_n C dX3_digest_13 rfl 1 rfl ?_
    refine z_iload_n C dX3_digest_14 rfl 0 rfl ?_
    refine z_callVi (rest := [.long dq]) (k' := 0) (n' := 0) C (a_X3_houseNumber (z_l X) hC hok (nI jx) (z_is08 (by omega))) (cs_X3_185 C (by decide)) hC.1 rfl rfl rfl rfl (Nat.le_of_ble_eq_true rfl) rfl rfl (Nat.le_of_ble_eq_true rfl) (Nat.le_of_ble_eq_true rfl) dX3_digest_15 (fun x15 Mq15 hq => ?_)
    obtain ⟨v15, rfl⟩ := hq
    refine z_callSl (rest := []) (k' := 0) (n' := 0) C (c_X3_mix (z_l X) (z_G X) ) (cs_X3_203 C (by decide)) rfl rfl (Nat.le_of_ble_eq_true rfl) rfl rfl (Nat.le_of_ble_eq_true rfl) (Nat.le_of_ble_eq_true rfl) dX3_digest_18 (fun x18 M' hq => ?_)
    obtain ⟨rfl, rfl⟩ := hq
    refine z_lstore_n (lv' := [(1, .long ((dq * 31) + x15.toInt64)), (3, .int (nI jx)), (0, .ref x)]) C dX3_digest_21 rfl (by decide) rfl ?_
    refine z_iinc (v := nI (jx + 1)) (lv' := [(3, .int (nI (jx + 1))), (1, .long ((dq * 31) + x15.toInt64)), (0, .ref x)]) C dX3_digest_22 1 rfl (nI_1 jx) (by decide) rfl ?_
    refine z_goto C (tgt := 6) dX3_digest_25 (by decide) ?_
    refine z_fewer [0, 2, 1] rfl ?_
    exact ih (jx + 1) _ (by omega) (by rw [v15, hdq]; exact rfl)
set_option maxRecDepth 20000 in
theorem lp_X3_d2 {X : zX} (C : z_C X cX3_digest RX3 5 (z_rm 12 468 15184)) {u : sS} {x : Nat} {P RA VA : Nat → Nat} {pa sp ln rf sb t : Nat} (hok : s_ok t u) {d0 : Int64} (kk : ∀ dq Mw, CI (z_G X) u x P RA VA pa sp ln rf sb Mw → dq = t_it (t_pn u) d0 6 → z_W X Mw (6 * 72) (6 * 2336) 57 [(0, .ref x), (1, .long dq)] []) : ∀ (d jx : Nat) (dq : Int64) (Mw : zM), jx + d = 6 → CI (z_G X) u x P RA VA pa sp ln rf sb Mw → dq = t_it (t_pn u) d0 jx → z_W X Mw (jx * 72) (jx * 2336) 30 [(3, .int (nI jx)), (0, .ref x), (1, .long dq)] [] := by
  intro d
  induction d with
  | zero =>
    intro jx dq Mw hd hC hdq
    obtain ⟨fp, hpa, hfp⟩ := CI_pa hC
    refine z_iload_n C dX3_digest_30 rfl 0 rfl ?_
    refine z_aload_n C dX3_digest_31 rfl 1 rfl ?_
    refine gf_X3_20 C hC.1 dX3_digest_32 ?_
    refine z_alenP C (v := 6) hpa (by decide) dX3_digest_35 ?_
    refine z_icmp_ge C (tgt := 57) dX3_digest_36 (by decide) (fun _ => ?_) (fun c36 => absurd (nI_le (b := jx) (a := 6) (by omega) (by omega)) c36)
    have e9 : jx = 6 := by omega
    subst e9
    refine z_fewer [1, 2] rfl ?_
    exact kk _ _ hC hdq
  | succ d ih =>
    intro jx dq Mw hd hC hdq
    obtain ⟨fp, hpa, hfp⟩ := CI_pa hC
    refine z_iload_n C dX3_digest_30 rfl 0 rfl ?_
    refine z_aload_n C dX3_digest_31 rfl 1 rfl ?_
    refine gf_X3_20 C hC.1 dX3_digest_32 ?_
    refine z_alenP C (v := 6) hpa (by decide) dX3_digest_35 ?_
    refine z_icmp_ge C (tgt := 57) dX3_digest_36 (by decide) (fun c36 => absurd c36 (nI_ge (a := jx) (b := 6) (by omega) (by omega))) (fun _ => ?_)
    refine z_aload_n C dX3_digest_39 rfl 1 rfl ?_
    refine z_lload_n C dX3_digest_40 rfl 2 rfl ?_
    refine z_aload_n C dX3_digest_41 rfl 1 rfl ?_
    refine gf_X3_20 C hC.1 dX3_digest_42 ?_
    refine z_iload_n C dX3_digest_45 rfl 0 rfl ?_
    refine z_aaldP (j := jx) C hpa (vp_in_nI (by omega) (by decide)) (nI_clamp (by omega)) (hfp jx (by omega)) dX3_digest_46 ?_
    refine z_callVl (rest := []) (k' := jx * 72 + 72) (n' := jx * 2336 + 2336) C (a_X3_mixPane (z_l X) hC hok (i := jx) (by omega)) (cs_X3_207 C (by decide)) hC.1 rfl rfl rfl rfl (Nat.le_of_ble_eq_true rfl) rfl rfl (by show _ ≤ 468; omega) (by show _ ≤ 15184; omega) dX3_digest_47 (fun x47 Mq47 hq => ?_)
    obtain ⟨e47, hC47⟩ := hq
    refine z_lstore_n (lv' := [(1, .long x47), (3, .int (nI jx)), (0, .ref x)]) C dX3_digest_50 rfl (by decide) rfl ?_
    refine z_iinc (v := nI (jx + 1)) (lv' := [(3, .int (nI (jx + 1))), (1, .long x47), (0, .ref x)]) C dX3_digest_51 1 rfl (nI_1 jx) (by decide) rfl ?_
    refine z_goto C (tgt := 30) dX3_digest_54 (by decide) ?_
    refine z_kn (k' := (jx + 1) * 72) (n' := (jx + 1) * 2336) (by omega) (by omega) ?_
    refine z_fewer [0, 2, 1] rfl ?_
    exact ih (jx + 1) _ _ (by omega) hC47 (by rw [e47, hdq]; exact rfl)
set_option maxRecDepth 20000 in
theorem lp_X3_d3 {X : zX} (C : z_C X cX3_digest RX3 5 (z_rm 12 468 15184)) {u : sS} {x : Nat} {P RA VA : Nat → Nat} {pa sp ln rf sb t : Nat} (hok : s_ok t u) {Mw : zM} (hC : CI (z_G X) u x P RA VA pa sp ln rf sb Mw) {fp : Nat → Option Nat} (hpa : Mw pa = some (aP (z_G X) 6 fp)) (hfp : ∀ i, i < 6 → fp i = some (P i)) {d0 : Int64} (kk : ∀ dq, dq = t_it (t_ks u) d0 6 → z_W X Mw (6 * 72) (6 * 2336) 132 [(0, .ref x), (1, .long dq)] []) : ∀ (d jx : Nat) (dq : Int64), jx + d = 6 → dq = t_it (t_ks u) d0 jx → z_W X Mw (6 * 72) (6 * 2336) 59 [(3, .int (nI jx)), (0, .ref x), (1, .long dq)] [] := by
  intro d
  induction d with
  | zero =>
    intro jx dq hd hdq
    refine z_iload_n C dX3_digest_59 rfl 0 rfl ?_
    refine z_aload_n C dX3_digest_60 rfl 1 rfl ?_
    refine gf_X3_20 C hC.1 dX3_digest_61 ?_
    refine z_alenP C (v := 6) hpa (by decide) dX3_digest_64 ?_
    refine z_icmp_ge C (tgt := 132) dX3_digest_65 (by decide) (fun _ => ?_) (fun c65 => absurd (nI_le (b := jx) (a := 6) (by omega) (by omega)) c65)
    refine z_fewer [1, 2] rfl ?_
    exact kk _ (by rw [hdq, show jx = 6 by omega])
  | succ d ih =>
    intro jx dq hd hdq
    refine z_iload_n C dX3_digest_59 rfl 0 rfl ?_
    refine z_aload_n C dX3_digest_60 rfl 1 rfl ?_
    refine gf_X3_20 C hC.1 dX3_digest_61 ?_
    refine z_alenP C (v := 6) hpa (by decide) dX3_digest_64 ?_
    refine z_icmp_ge C (tgt := 132) dX3_digest_65 (by decide) (fun c65 => absurd c65 (nI_ge (a := jx) (b := 6) (by omega) (by omega))) (fun _ => ?_)
    refine z_aload_n C dX3_digest_68 rfl 1 rfl ?_
    refine gf_X3_20 C hC.1 dX3_digest_69 ?_
    refine z_iload_n C dX3_digest_72 rfl 0 rfl ?_
    refine z_iconst C (v := 1) dX3_digest_73 (by decide) ?_
    refine z_iadd C dX3_digest_74 ?_
    refine z_aload_n C dX3_digest_75 rfl 1 rfl ?_
    refine gf_X3_20 C hC.1 dX3_digest_76 ?_
    refine z_alenP C (v := 6) hpa (by decide) dX3_digest_79 ?_
    refine z_icmp_ge C (tgt := 89) dX3_digest_80 (by decide) (fun c80 => ?_) (fun c80 => ?_)
    · have hj8 : 5 ≤ jx := Nat.le_of_not_lt fun q => absurd c80 (by rw [nI_1]; exact nI_ge (a := jx + 1) (b := 6) (by omega) (by omega))
      refine z_iconst C (v := 0) dX3_digest_89 (by decide) ?_
      refine z_aaldP (j := 0) C hpa (z_inL (by decide)) (by decide) (hfp 0 (by omega)) dX3_digest_90 ?_
      refine z_astore (lv' := [(4, .ref (P 0)), (3, .int (nI jx)), (0, .ref x), (1, .long dq)]) C dX3_digest_91 (by decide) rfl ?_
      refine z_lload_n C dX3_digest_93 rfl 3 rfl ?_
      refine z_aload_n C dX3_digest_94 rfl 2 rfl ?_
      refine gf_X3_20 C hC.1 dX3_digest_95 ?_
      refine z_iload_n C dX3_digest_98 rfl 1 rfl ?_
      refine z_aaldP (j := jx) C hpa (vp_in_nI (by omega) (by decide)) (nI_clamp (by omega)) (hfp jx (by omega)) dX3_digest_99 ?_
      refine z_aload C dX3_digest_100 0 rfl ?_
      refine z_callSi (rest := [.long dq]) (k' := 6 * 72) (n' := 6 * 2336) C (a_X3_kinS (z_l X) hC hok (i := jx) (k := 0) (by omega) (by omega)) (cs_X3_177 C (by decide)) rfl rfl (Nat.le_of_ble_eq_true rfl) rfl rfl (Nat.le_of_ble_eq_true rfl) (Nat.le_of_ble_eq_true rfl) dX3_digest_102 (fun x102 Mq102 hq => ?_)
      obtain ⟨v102, rfl⟩ := hq
      refine z_callSl (rest := []) (k' := 6 * 72) (n' := 6 * 2336) C (c_X3_mix (z_l X) (z_G X) ) (cs_X3_203 C (by decide)) rfl rfl (Nat.le_of_ble_eq_true rfl) rfl rfl (Nat.le_of_ble_eq_true rfl) (Nat.le_of_ble_eq_true rfl) dX3_digest_105 (fun x105 M' hq => ?_)
      obtain ⟨rfl, rfl⟩ := hq
      refine z_lstore_n (lv' := [(1, .long ((dq * 31) + x102.toInt64)), (4, .ref (P 0)), (3, .int (nI jx)), (0, .ref x)]) C dX3_digest_108 rfl (by decide) rfl ?_
      refine z_lload_n C dX3_digest_109 rfl 0 rfl ?_
      refine z_aload_n C dX3_digest_110 rfl 3 rfl ?_
      refine gf_X3_20 C hC.1 dX3_digest_111 ?_
      refine z_iload_n C dX3_digest_114 rfl 2 rfl ?_
      refine z_aaldP (j := jx) C hpa (vp_in_nI (by omega) (by decide)) (nI_clamp (by omega)) (hfp jx (by omega)) dX3_digest_115 ?_
      refine z_iconst C (v := 0) dX3_digest_116 (by decide) ?_
      refine z_aload C dX3_digest_117 1 rfl ?_
      refine z_callSi (rest := [.long ((dq * 31) + x102.toInt64)]) (k' := 6 * 72) (n' := 6 * 2336) C (a_X3_idxS (z_l X) hC hok (i := jx) (k := 0) (by omega) (by omega) 0) (cs_X3_181 C (by decide)) rfl rfl (Nat.le_of_ble_eq_true rfl) rfl rfl (Nat.le_of_ble_eq_true rfl) (Nat.le_of_ble_eq_true rfl) dX3_digest_119 (fun x119 Mq119 hq => ?_)
      obtain ⟨v119, rfl⟩ := hq
      refine z_callSl (rest := []) (k' := 6 * 72) (n' := 6 * 2336) C (c_X3_mix (z_l X) (z_G X) ) (cs_X3_203 C (by decide)) rfl rfl (Nat.le_of_ble_eq_true rfl) rfl rfl (Nat.le_of_ble_eq_true rfl) (Nat.le_of_ble_eq_true rfl) dX3_digest_122 (fun x122 M' hq => ?_)
      obtain ⟨rfl, rfl⟩ := hq
      refine z_lstore_n (lv' := [(1, .long ((((dq * 31) + x102.toInt64) * 31) + x119.toInt64)), (4, .ref (P 0)), (3, .int (nI jx)), (0, .ref x)]) C dX3_digest_125 rfl (by decide) rfl ?_
      refine z_iinc (v := nI (jx + 1)) (lv' := [(3, .int (nI (jx + 1))), (1, .long ((((dq * 31) + x102.toInt64) * 31) + x119.toInt64)), (4, .ref (P 0)), (0, .ref x)]) C dX3_digest_126 2 rfl (nI_1 jx) (by decide) rfl ?_
      refine z_goto C (tgt := 59) dX3_digest_129 (by decide) ?_
      refine z_fewer [0, 3, 1] rfl ?_
      exact ih (jx + 1) _ (by omega) (by rw [v119, v102, hdq]; show _ = t_mix (t_mix _ (s_kin u jx (t_nx jx))) (s_sees u jx 0 (t_nx jx)); rw [t_nx_hi hj8]; exact rfl)
    · have hj9 : jx + 1 < 6 := Nat.lt_of_not_le fun q => c80 (by rw [nI_1]; exact nI_le (b := jx + 1) (a := 6) (by omega) (by omega))
      refine z_iload_n C dX3_digest_83 rfl 0 rfl ?_
      refine z_iconst C (v := 1) dX3_digest_84 (by decide) ?_
      refine z_iadd C dX3_digest_85 ?_
      refine z_goto C (tgt := 90) dX3_digest_86 (by decide) ?_
      refine z_aaldP (j := (jx + 1)) C hpa (show vp_in (nI jx + 1) 6 by rw [nI_1]; exact vp_in_nI (by omega) (by decide)) (show (nI jx + 1).toNatClampNeg = jx + 1 by rw [nI_1]; exact nI_clamp (by omega)) (hfp (jx + 1) (by omega)) dX3_digest_90 ?_
      refine z_astore (lv' := [(4, .ref (P (jx + 1))), (3, .int (nI jx)), (0, .ref x), (1, .long dq)]) C dX3_digest_91 (by decide) rfl ?_
      refine z_lload_n C dX3_digest_93 rfl 3 rfl ?_
      refine z_aload_n C dX3_digest_94 rfl 2 rfl ?_
      refine gf_X3_20 C hC.1 dX3_digest_95 ?_
      refine z_iload_n C dX3_digest_98 rfl 1 rfl ?_
      refine z_aaldP (j := jx) C hpa (vp_in_nI (by omega) (by decide)) (nI_clamp (by omega)) (hfp jx (by omega)) dX3_digest_99 ?_
      refine z_aload C dX3_digest_100 0 rfl ?_
      refine z_callSi (rest := [.long dq]) (k' := 6 * 72) (n' := 6 * 2336) C (a_X3_kinS (z_l X) hC hok (i := jx) (k := jx + 1) (by omega) (by omega)) (cs_X3_177 C (by decide)) rfl rfl (Nat.le_of_ble_eq_true rfl) rfl rfl (Nat.le_of_ble_eq_true rfl) (Nat.le_of_ble_eq_true rfl) dX3_digest_102 (fun x102 Mq102 hq => ?_)
      obtain ⟨v102, rfl⟩ := hq
      refine z_callSl (rest := []) (k' := 6 * 72) (n' := 6 * 2336) C (c_X3_mix (z_l X) (z_G X) ) (cs_X3_203 C (by decide)) rfl rfl (Nat.le_of_ble_eq_true rfl) rfl rfl (Nat.le_of_ble_eq_true rfl) (Nat.le_of_ble_eq_true rfl) dX3_digest_105 (fun x105 M' hq => ?_)
      obtain ⟨rfl, rfl⟩ := hq
      refine z_lstore_n (lv' := [(1, .long ((dq * 31) + x102.toInt64)), (4, .ref (P (jx + 1))), (3, .int (nI jx)), (0, .ref x)]) C dX3_digest_108 rfl (by decide) rfl ?_
      refine z_lload_n C dX3_digest_109 rfl 0 rfl ?_
      refine z_aload_n C dX3_digest_110 rfl 3 rfl ?_
      refine gf_X3_20 C hC.1 dX3_digest_111 ?_
      refine z_iload_n C dX3_digest_114 rfl 2 rfl ?_
      refine z_aaldP (j := jx) C hpa (vp_in_nI (by omega) (by decide)) (nI_clamp (by omega)) (hfp jx (by omega)) dX3_digest_115 ?_
      refine z_iconst C (v := 0) dX3_digest_116 (by decide) ?_
      refine z_aload C dX3_digest_117 1 rfl ?_
      refine z_callSi (rest := [.long ((dq * 31) + x102.toInt64)]) (k' := 6 * 72) (n' := 6 * 2336) C (a_X3_idxS (z_l X) hC hok (i := jx) (k := jx + 1) (by omega) (by omega) 0) (cs_X3_181 C (by decide)) rfl rfl (Nat.le_of_ble_eq_true rfl) rfl rfl (Nat.le_of_ble_eq_true rfl) (Nat.le_of_ble_eq_true rfl) dX3_digest_119 (fun x119 Mq119 hq => ?_)
      obtain ⟨v119, rfl⟩ := hq
      refine z_callSl (rest := []) (k' := 6 * 72) (n' := 6 * 2336) C (c_X3_mix (z_l X) (z_G X) ) (cs_X3_203 C (by decide)) rfl rfl (Nat.le_of_ble_eq_true rfl) rfl rfl (Nat.le_of_ble_eq_true rfl) (Nat.le_of_ble_eq_true rfl) dX3_digest_122 (fun x122 M' hq => ?_)
      obtain ⟨rfl, rfl⟩ := hq
      refine z_lstore_n (lv' := [(1, .long ((((dq * 31) + x102.toInt64) * 31) + x119.toInt64)), (4, .ref (P (jx + 1))), (3, .int (nI jx)), (0, .ref x)]) C dX3_digest_125 rfl (by decide) rfl ?_
      refine z_iinc (v := nI (jx + 1)) (lv' := [(3, .int (nI (jx + 1))), (1, .long ((((dq * 31) + x102.toInt64) * 31) + x119.toInt64)), (4, .ref (P (jx + 1))), (0, .ref x)]) C dX3_digest_126 2 rfl (nI_1 jx) (by decide) rfl ?_
      refine z_goto C (tgt := 59) dX3_digest_129 (by decide) ?_
      refine z_fewer [0, 3, 1] rfl ?_
      exact ih (jx + 1) _ (by omega) (by rw [v119, v102, hdq]; show _ = t_mix (t_mix _ (s_kin u jx (t_nx jx))) (s_sees u jx 0 (t_nx jx)); rw [t_nx_lo hj9]; exact rfl)
set_option maxRecDepth 20000 in
theorem a_X3_digest (l : Launch) {G : zG} {u : sS} {x : Nat} {P RA VA : Nat → Nat} {pa sp ln rf sb : Nat} {Mw : zM} (hC : CI G u x P RA VA pa sp ln rf sb Mw) {t : Nat} (hok : s_ok t u) : z_Ml l G qX3_digest (z_rm 12 468 15184) [.ref x] Mw (fun r Mz => r = t_digest u ∧ CI G u x P RA VA pa sp ln rf sb Mz)  := by
  obtain ⟨fp, hpa, hfp⟩ := CI_pa hC
  refine z_Ml_of _ (plainFor_of_name rfl) rfl (Nat.le_of_ble_eq_true rfl) (fun X hl hG hnm C ret => ?_)
  subst hl; subst hG
  have C : z_C X cX3_digest RX3 5 (z_rm 12 468 15184) := C
  show z_W X Mw 0 0 0 [(0, .ref x)] []
  refine z_ldc2 C (v := 8017) kw623 dX3_digest_0 ?_
  refine z_lstore_n (lv' := [(1, .long 8017), (0, .ref x)]) C dX3_digest_3 rfl (by decide) rfl ?_
  refine z_iconst C (v := 0) dX3_digest_4 (by decide) ?_
  refine z_istore_n (lv' := [(3, .int 0), (1, .long 8017), (0, .ref x)]) C dX3_digest_5 rfl (by decide) rfl ?_
  refine z_fewer [0, 2, 1] rfl ?_
  refine z_at (M' := _) (lv' := [(3, .int (nI 0)), (0, .ref x), (1, .long 8017)]) rfl (by rw [nI_0]; rfl) rfl ?_
  refine lp_X3_d1 C hok hC hpa hfp (d0 := 8017) (fun dq hd1 => ?_) 9 0 _ (Nat.zero_add _) rfl
  refine z_iconst C (v := 0) dX3_digest_28 (by decide) ?_
  refine z_istore_n (lv' := [(3, .int 0), (0, .ref x), (1, .long dq)]) C dX3_digest_29 rfl (by decide) rfl ?_
  refine z_fewer [0, 1, 2] rfl ?_
  refine z_at (M' := _) (lv' := [(3, .int (nI 0)), (0, .ref x), (1, .long dq)]) rfl (by rw [nI_0]; rfl) rfl ?_
  refine z_kn (k' := 0 * 72) (n' := 0 * 2336) rfl rfl ?_
  refine lp_X3_d2 C hok (d0 := dq) (fun dq2 Mz hC2 hd2 => ?_) 6 0 _ _ (Nat.zero_add _) hC rfl
  obtain ⟨fp2, hpa2, hfp2⟩ := CI_pa hC2
  refine z_iconst C (v := 0) dX3_digest_57 (by decide) ?_
  refine z_istore_n (lv' := [(3, .int 0), (0, .ref x), (1, .long dq2)]) C dX3_digest_58 rfl (by decide) rfl ?_
  refine z_fewer [0, 1, 2] rfl ?_
  refine z_at (M' := _) (lv' := [(3, .int (nI 0)), (0, .ref x), (1, .long dq2)]) rfl (by rw [nI_0]; rfl) rfl ?_
  refine lp_X3_d3 C hok hC2 hpa2 hfp2 (d0 := dq2) (fun dq3 hd3 => ?_) 6 0 _ (Nat.zero_add _) rfl
  refine z_kn (k' := 432) (n' := 14016) rfl rfl ?_
  refine z_aload_n C dX3_digest_132 rfl 0 rfl ?_
  refine z_callVv (rest := []) (k' := 468) (n' := 15184) C (a_X3_beginLongRow (z_l X) hC2 hok) (cs_X3_174 C (by decide)) hC2.1 rfl rfl rfl rfl (Nat.le_of_ble_eq_true rfl) rfl rfl (Nat.le_of_ble_eq_true rfl) (Nat.le_of_ble_eq_true rfl) dX3_digest_133 (fun Mq133 hq => ?_)
  obtain ⟨hC3, vb1, c1, n1, hc1, hB1, hL1⟩ := hq
  refine z_aload_n C dX3_digest_136 rfl 0 rfl ?_
  refine z_lload_n C dX3_digest_137 rfl 1 rfl ?_
  refine z_callVl (rest := []) (k' := 468) (n' := 15184) C (a_X3_mixLine (z_l X) hC3 hok hB1 hL1) (cs_X3_211 C (by decide)) hC3.1 rfl rfl rfl rfl (Nat.le_of_ble_eq_true rfl) rfl rfl (Nat.le_of_ble_eq_true rfl) (Nat.le_of_ble_eq_true rfl) dX3_digest_138 (fun x138 Mq138 hq => ?_)
  obtain ⟨e138, rfl⟩ := hq
  refine z_lstore_n (lv' := [(1, .long x138), (0, .ref x)]) C dX3_digest_141 rfl (by decide) rfl ?_
  refine z_lload_n C dX3_digest_142 rfl 0 rfl ?_
  refine z_aload_n C dX3_digest_143 rfl 1 rfl ?_
  refine z_callVi (rest := [.long x138]) (k' := 468) (n' := 15184) C (a_X3_isSound (z_l X) hC3 hok) (cs_X3_215 C (by decide)) hC3.1 rfl rfl rfl rfl (Nat.le_of_ble_eq_true rfl) rfl rfl (Nat.le_of_ble_eq_true rfl) (Nat.le_of_ble_eq_true rfl) dX3_digest_144 (fun x144 Mq144 hq => ?_)
  obtain ⟨e144, hC4⟩ := hq
  rw [e144]
  refine z_if_eq C (tgt := 154) dX3_digest_147 (by decide) (fun c147 => absurd c147 (by decide)) (fun _ => ?_)
  refine z_iconst C (v := 1) dX3_digest_150 (by decide) ?_
  refine z_goto C (tgt := 155) dX3_digest_151 (by decide) ?_
  refine z_callSl (rest := []) (k' := 468) (n' := 15184) C (c_X3_mix (z_l X) (z_G X) ) (cs_X3_203 C (by decide)) rfl rfl (Nat.le_of_ble_eq_true rfl) rfl rfl (Nat.le_of_ble_eq_true rfl) (Nat.le_of_ble_eq_true rfl) dX3_digest_155 (fun x155 M' hq => ?_)
  obtain ⟨rfl, rfl⟩ := hq
  refine ret dX3_digest_158 ?_ (Nat.le_of_ble_eq_true rfl) (Nat.le_of_ble_eq_true rfl)
  exact ⟨by rw [e138, hd3, hd2, hd1]; exact rfl, hC4⟩
