/-! PART 59: a class in order is sound; what a line adds to a number -/
theorem dX3_isSound_0 : decode cX3_isSound 0 = .ok (.iconst 0, 1) := by decide +kernel
theorem dX3_isSound_1 : decode cX3_isSound 1 = .ok (.istore_n 1, 1) := by decide +kernel
theorem dX3_isSound_2 : decode cX3_isSound 2 = .ok (.iload_n 1, 1) := by decide +kernel
theorem dX3_isSound_3 : decode cX3_isSound 3 = .ok (.aload_n 0, 1) := by decide +kernel
theorem dX3_isSound_4 : decode cX3_isSound 4 = .ok (.getfield 20, 3) := by decide +kernel
theorem dX3_isSound_7 : decode cX3_isSound 7 = .ok (.arraylength, 1) := by decide +kernel
theorem dX3_isSound_8 : decode cX3_isSound 8 = .ok (.if_icmp .ge 88, 3) := by decide +kernel
theorem dX3_isSound_11 : decode cX3_isSound 11 = .ok (.aload_n 0, 1) := by decide +kernel
theorem dX3_isSound_12 : decode cX3_isSound 12 = .ok (.getfield 20, 3) := by decide +kernel
theorem dX3_isSound_15 : decode cX3_isSound 15 = .ok (.iload_n 1, 1) := by decide +kernel
theorem dX3_isSound_16 : decode cX3_isSound 16 = .ok (.aaload, 1) := by decide +kernel
theorem dX3_isSound_17 : decode cX3_isSound 17 = .ok (.invokevirtual 188, 3) := by decide +kernel
theorem dX3_isSound_20 : decode cX3_isSound 20 = .ok (.ifCond .eq 29, 3) := by decide +kernel
theorem dX3_isSound_23 : decode cX3_isSound 23 = .ok (.aload_n 0, 1) := by decide +kernel
theorem dX3_isSound_24 : decode cX3_isSound 24 = .ok (.aload_n 0, 1) := by decide +kernel
theorem dX3_isSound_25 : decode cX3_isSound 25 = .ok (.getfield 20, 3) := by decide +kernel
theorem dX3_isSound_28 : decode cX3_isSound 28 = .ok (.iload_n 1, 1) := by decide +kernel
theorem dX3_isSound_29 : decode cX3_isSound 29 = .ok (.aaload, 1) := by decide +kernel
theorem dX3_isSound_30 : decode cX3_isSound 30 = .ok (.invokevirtual 191, 3) := by decide +kernel
theorem dX3_isSound_33 : decode cX3_isSound 33 = .ok (.ifCond .eq 16, 3) := by decide +kernel
theorem dX3_isSound_36 : decode cX3_isSound 36 = .ok (.aload_n 0, 1) := by decide +kernel
theorem dX3_isSound_37 : decode cX3_isSound 37 = .ok (.aload_n 0, 1) := by decide +kernel
theorem dX3_isSound_38 : decode cX3_isSound 38 = .ok (.getfield 20, 3) := by decide +kernel
theorem dX3_isSound_41 : decode cX3_isSound 41 = .ok (.iload_n 1, 1) := by decide +kernel
theorem dX3_isSound_42 : decode cX3_isSound 42 = .ok (.aaload, 1) := by decide +kernel
theorem dX3_isSound_43 : decode cX3_isSound 43 = .ok (.invokevirtual 195, 3) := by decide +kernel
theorem dX3_isSound_46 : decode cX3_isSound 46 = .ok (.ifCond .ne 5, 3) := by decide +kernel
theorem dX3_isSound_51 : decode cX3_isSound 51 = .ok (.iload_n 1, 1) := by decide +kernel
theorem dX3_isSound_52 : decode cX3_isSound 52 = .ok (.iconst 1, 1) := by decide +kernel
theorem dX3_isSound_53 : decode cX3_isSound 53 = .ok (.iadd, 1) := by decide +kernel
theorem dX3_isSound_54 : decode cX3_isSound 54 = .ok (.istore_n 2, 1) := by decide +kernel
theorem dX3_isSound_55 : decode cX3_isSound 55 = .ok (.iload_n 2, 1) := by decide +kernel
theorem dX3_isSound_56 : decode cX3_isSound 56 = .ok (.aload_n 0, 1) := by decide +kernel
theorem dX3_isSound_57 : decode cX3_isSound 57 = .ok (.getfield 20, 3) := by decide +kernel
theorem dX3_isSound_60 : decode cX3_isSound 60 = .ok (.arraylength, 1) := by decide +kernel
theorem dX3_isSound_61 : decode cX3_isSound 61 = .ok (.if_icmp .ge 29, 3) := by decide +kernel
theorem dX3_isSound_64 : decode cX3_isSound 64 = .ok (.aload_n 0, 1) := by decide +kernel
theorem dX3_isSound_65 : decode cX3_isSound 65 = .ok (.getfield 20, 3) := by decide +kernel
theorem dX3_isSound_68 : decode cX3_isSound 68 = .ok (.iload_n 1, 1) := by decide +kernel
theorem dX3_isSound_69 : decode cX3_isSound 69 = .ok (.aaload, 1) := by decide +kernel
theorem dX3_isSound_70 : decode cX3_isSound 70 = .ok (.aload_n 0, 1) := by decide +kernel
theorem dX3_isSound_71 : decode cX3_isSound 71 = .ok (.getfield 20, 3) := by decide +kernel
theorem dX3_isSound_74 : decode cX3_isSound 74 = .ok (.iload_n 2, 1) := by decide +kernel
theorem dX3_isSound_75 : decode cX3_isSound 75 = .ok (.aaload, 1) := by decide +kernel
theorem dX3_isSound_76 : decode cX3_isSound 76 = .ok (.invokestatic 198, 3) := by decide +kernel
theorem dX3_isSound_79 : decode cX3_isSound 79 = .ok (.ifCond .ne 5, 3) := by decide +kernel
theorem dX3_isSound_84 : decode cX3_isSound 84 = .ok (.iinc 2 1, 3) := by decide +kernel
theorem dX3_isSound_87 : decode cX3_isSound 87 = .ok (.goto (-32), 3) := by decide +kernel
theorem dX3_isSound_90 : decode cX3_isSound 90 = .ok (.iinc 1 1, 3) := by decide +kernel
theorem dX3_isSound_93 : decode cX3_isSound 93 = .ok (.goto (-91), 3) := by decide +kernel
theorem dX3_isSound_96 : decode cX3_isSound 96 = .ok (.iconst 1, 1) := by decide +kernel
theorem dX3_isSound_97 : decode cX3_isSound 97 = .ok (.ireturn, 1) := by decide +kernel
theorem dX3_mix_0 : decode cX3_mix 0 = .ok (.lload_n 0, 1) := by decide +kernel
theorem dX3_mix_1 : decode cX3_mix 1 = .ok (.ldc2_w 245, 3) := by decide +kernel
theorem dX3_mix_4 : decode cX3_mix 4 = .ok (.lmul, 1) := by decide +kernel
theorem dX3_mix_5 : decode cX3_mix 5 = .ok (.iload_n 2, 1) := by decide +kernel
theorem dX3_mix_6 : decode cX3_mix 6 = .ok (.i2l, 1) := by decide +kernel
theorem dX3_mix_7 : decode cX3_mix 7 = .ok (.ladd, 1) := by decide +kernel
theorem dX3_mix_8 : decode cX3_mix 8 = .ok (.lreturn, 1) := by decide +kernel
theorem dX3_mixLine_0 : decode cX3_mixLine 0 = .ok (.lload_n 1, 1) := by decide +kernel
theorem dX3_mixLine_1 : decode cX3_mixLine 1 = .ok (.lstore_n 3, 1) := by decide +kernel
theorem dX3_mixLine_2 : decode cX3_mixLine 2 = .ok (.iconst 0, 1) := by decide +kernel
theorem dX3_mixLine_3 : decode cX3_mixLine 3 = .ok (.istore 5, 2) := by decide +kernel
theorem dX3_mixLine_5 : decode cX3_mixLine 5 = .ok (.iload 5, 2) := by decide +kernel
theorem dX3_mixLine_7 : decode cX3_mixLine 7 = .ok (.aload_n 0, 1) := by decide +kernel
theorem dX3_mixLine_8 : decode cX3_mixLine 8 = .ok (.getfield 34, 3) := by decide +kernel
theorem dX3_mixLine_11 : decode cX3_mixLine 11 = .ok (.getfield 247, 3) := by decide +kernel
theorem dX3_mixLine_14 : decode cX3_mixLine 14 = .ok (.invokevirtual 251, 3) := by decide +kernel
theorem dX3_mixLine_17 : decode cX3_mixLine 17 = .ok (.if_icmp .ge 26, 3) := by decide +kernel
theorem dX3_mixLine_20 : decode cX3_mixLine 20 = .ok (.lload_n 3, 1) := by decide +kernel
theorem dX3_mixLine_21 : decode cX3_mixLine 21 = .ok (.aload_n 0, 1) := by decide +kernel
theorem dX3_mixLine_22 : decode cX3_mixLine 22 = .ok (.getfield 34, 3) := by decide +kernel
theorem dX3_mixLine_25 : decode cX3_mixLine 25 = .ok (.getfield 247, 3) := by decide +kernel
theorem dX3_mixLine_28 : decode cX3_mixLine 28 = .ok (.iload 5, 2) := by decide +kernel
theorem dX3_mixLine_30 : decode cX3_mixLine 30 = .ok (.invokevirtual 256, 3) := by decide +kernel
theorem dX3_mixLine_33 : decode cX3_mixLine 33 = .ok (.invokestatic 203, 3) := by decide +kernel
theorem dX3_mixLine_36 : decode cX3_mixLine 36 = .ok (.lstore_n 3, 1) := by decide +kernel
theorem dX3_mixLine_37 : decode cX3_mixLine 37 = .ok (.iinc 5 1, 3) := by decide +kernel
theorem dX3_mixLine_40 : decode cX3_mixLine 40 = .ok (.goto (-35), 3) := by decide +kernel
theorem dX3_mixLine_43 : decode cX3_mixLine 43 = .ok (.lload_n 3, 1) := by decide +kernel
theorem dX3_mixLine_44 : decode cX3_mixLine 44 = .ok (.lreturn, 1) := by decide +kernel
set_option maxRecDepth 20000 in
theorem lp_X3_is2 {X : zX} (C : z_C X cX3_isSound RX3 3 (z_rm 6 0 0)) {u : sS} {x : Nat} {P RA VA : Nat → Nat} {pa sp ln rf sb t : Nat} (hok : s_ok t u) {Mw : zM} (hC : CI (z_G X) u x P RA VA pa sp ln rf sb Mw) {fp : Nat → Option Nat} (hpa : Mw pa = some (aP (z_G X) 6 fp)) (hfp : ∀ i, i < 6 → fp i = some (P i)) {jx : Nat} (hjx : jx < 6) (kk : z_W X Mw 0 0 90 [(0, .ref x), (1, .int (nI jx))] []) : ∀ (d jy : Nat), jy + d = 6 → z_W X Mw 0 0 55 [(2, .int (nI jy)), (0, .ref x), (1, .int (nI jx))] [] := by
  intro d
  induction d with
  | zero =>
    intro jy hd
    refine z_iload_n C dX3_isSound_55 rfl 0 rfl ?_
    refine z_aload_n C dX3_isSound_56 rfl 1 rfl ?_
    refine gf_X3_20 C hC.1 dX3_isSound_57 ?_
    refine z_alenP C (v := 6) hpa (by decide) dX3_isSound_60 ?_
    refine z_icmp_ge C (tgt := 90) dX3_isSound_61 (by decide) (fun _ => ?_) (fun c61 => absurd (nI_le (b := jy) (a := 6) (by omega) (by omega)) c61)
    refine z_fewer [1, 2] rfl ?_
    exact kk
  | succ d ih =>
    intro jy hd
    refine z_iload_n C dX3_isSound_55 rfl 0 rfl ?_
    refine z_aload_n C dX3_isSound_56 rfl 1 rfl ?_
    refine gf_X3_20 C hC.1 dX3_isSound_57 ?_
    refine z_alenP C (v := 6) hpa (by decide) dX3_isSound_60 ?_
    refine z_icmp_ge C (tgt := 90) dX3_isSound_61 (by decide) (fun c61 => absurd c61 (nI_ge (a := jy) (b := 6) (by omega) (by omega))) (fun _ => ?_)
    refine z_aload_n C dX3_isSound_64 rfl 1 rfl ?_
    refine gf_X3_20 C hC.1 dX3_isSound_65 ?_
    refine z_iload_n C dX3_isSound_68 rfl 2 rfl ?_
    refine z_aaldP (j := jx) C hpa (vp_in_nI (by omega) (by decide)) (nI_clamp (by omega)) (hfp jx (by omega)) dX3_isSound_69 ?_
    refine z_aload_n C dX3_isSound_70 rfl 1 rfl ?_
    refine gf_X3_20 C hC.1 dX3_isSound_71 ?_
    refine z_iload_n C dX3_isSound_74 rfl 0 rfl ?_
    refine z_aaldP (j := jy) C hpa (vp_in_nI (by omega) (by decide)) (nI_clamp (by omega)) (hfp jy (by omega)) dX3_isSound_75 ?_
    refine z_callSi (rest := []) (k' := 0) (n' := 0) C (a_X3_agree (z_l X) hC hok (i := jx) (k := jy) (by omega) (by omega)) (cs_X3_198 C (by decide)) rfl rfl (Nat.le_of_ble_eq_true rfl) rfl rfl (by decide) (by decide) dX3_isSound_76 (fun x76 Mq76 hq => ?_)
    obtain ⟨e76, rfl⟩ := hq
    rw [e76]
    refine z_if_ne C (tgt := 84) dX3_isSound_79 (by decide) (fun _ => ?_) (fun c79 => absurd c79 (by decide))
    refine z_iinc (v := nI (jy + 1)) (lv' := [(2, .int (nI (jy + 1))), (0, .ref x), (1, .int (nI jx))]) C dX3_isSound_84 0 rfl (nI_1 jy) (by decide) rfl ?_
    refine z_goto C (tgt := 55) dX3_isSound_87 (by decide) ?_
    refine z_fewer [0, 1, 2] rfl ?_
    exact ih (jy + 1) (by omega)
set_option maxRecDepth 20000 in
theorem lp_X3_is1 {X : zX} (C : z_C X cX3_isSound RX3 3 (z_rm 6 0 0)) {u : sS} {x : Nat} {P RA VA : Nat → Nat} {pa sp ln rf sb t : Nat} (hok : s_ok t u) (kk : ∀ Mw, CI (z_G X) u x P RA VA pa sp ln rf sb Mw → z_W X Mw 0 0 96 [(0, .ref x)] []) : ∀ (d jx : Nat) (Mw : zM), jx + d = 6 → CI (z_G X) u x P RA VA pa sp ln rf sb Mw → z_W X Mw 0 0 2 [(1, .int (nI jx)), (0, .ref x)] [] := by
  intro d
  induction d with
  | zero =>
    intro jx Mw hd hC
    obtain ⟨fp, hpa, hfp⟩ := CI_pa hC
    refine z_iload_n C dX3_isSound_2 rfl 0 rfl ?_
    refine z_aload_n C dX3_isSound_3 rfl 1 rfl ?_
    refine gf_X3_20 C hC.1 dX3_isSound_4 ?_
    refine z_alenP C (v := 6) hpa (by decide) dX3_isSound_7 ?_
    refine z_icmp_ge C (tgt := 96) dX3_isSound_8 (by decide) (fun _ => ?_) (fun c8 => absurd (nI_le (b := jx) (a := 6) (by omega) (by omega)) c8)
    refine z_fewer [1] rfl ?_
    exact kk _ hC
  | succ d ih =>
    intro jx Mw hd hC
    obtain ⟨fp, hpa, hfp⟩ := CI_pa hC
    refine z_iload_n C dX3_isSound_2 rfl 0 rfl ?_
    refine z_aload_n C dX3_isSound_3 rfl 1 rfl ?_
    refine gf_X3_20 C hC.1 dX3_isSound_4 ?_
    refine z_alenP C (v := 6) hpa (by decide) dX3_isSound_7 ?_
    refine z_icmp_ge C (tgt := 96) dX3_isSound_8 (by decide) (fun c8 => absurd c8 (nI_ge (a := jx) (b := 6) (by omega) (by omega))) (fun _ => ?_)
    refine z_aload_n C dX3_isSound_11 rfl 1 rfl ?_
    refine gf_X3_20 C hC.1 dX3_isSound_12 ?_
    refine z_iload_n C dX3_isSound_15 rfl 0 rfl ?_
    refine z_aaldP (j := jx) C hpa (vp_in_nI (by omega) (by decide)) (nI_clamp (by omega)) (hfp jx (by omega)) dX3_isSound_16 ?_
    refine z_callVi (rest := []) (k' := 0) (n' := 0) C (a_X1_isInOrder (z_l X) hC hok (i := jx) (by omega)) (cs_X3_188 C (by decide)) (CI_P hC (show jx < 6 by omega)) rfl rfl rfl rfl (Nat.le_of_ble_eq_true rfl) rfl rfl (by decide) (by decide) dX3_isSound_17 (fun x17 Mq17 hq => ?_)
    obtain ⟨e17, rfl⟩ := hq
    rw [e17]
    refine z_if_eq C (tgt := 49) dX3_isSound_20 (by decide) (fun c20 => absurd c20 (by decide)) (fun _ => ?_)
    refine z_aload_n C dX3_isSound_23 rfl 1 rfl ?_
    refine z_aload_n C dX3_isSound_24 rfl 1 rfl ?_
    refine gf_X3_20 C hC.1 dX3_isSound_25 ?_
    refine z_iload_n C dX3_isSound_28 rfl 0 rfl ?_
    refine z_aaldP (j := jx) C hpa (vp_in_nI (by omega) (by decide)) (nI_clamp (by omega)) (hfp jx (by omega)) dX3_isSound_29 ?_
    refine z_callVi (rest := []) (k' := 0) (n' := 0) C (a_X3_hasTrueTwins (z_l X) hC hok (i := jx) (by omega)) (cs_X3_191 C (by decide)) hC.1 rfl rfl rfl rfl (Nat.le_of_ble_eq_true rfl) rfl rfl (by decide) (by decide) dX3_isSound_30 (fun x30 Mq30 hq => ?_)
    obtain ⟨e30, hC30⟩ := hq
    rw [e30]
    obtain ⟨fp, hpa, hfp⟩ := CI_pa hC30
    refine z_if_eq C (tgt := 49) dX3_isSound_33 (by decide) (fun c33 => absurd c33 (by decide)) (fun _ => ?_)
    refine z_aload_n C dX3_isSound_36 rfl 1 rfl ?_
    refine z_aload_n C dX3_isSound_37 rfl 1 rfl ?_
    refine gf_X3_20 C hC30.1 dX3_isSound_38 ?_
    refine z_iload_n C dX3_isSound_41 rfl 0 rfl ?_
    refine z_aaldP (j := jx) C hpa (vp_in_nI (by omega) (by decide)) (nI_clamp (by omega)) (hfp jx (by omega)) dX3_isSound_42 ?_
    refine z_callVi (rest := []) (k' := 0) (n' := 0) C (a_X3_hasTrueRemainder (z_l X) hC30 hok (i := jx) (by omega)) (cs_X3_195 C (by decide)) hC30.1 rfl rfl rfl rfl (Nat.le_of_ble_eq_true rfl) rfl rfl (by decide) (by decide) dX3_isSound_43 (fun x43 Mq43 hq => ?_)
    obtain ⟨e43, hC43⟩ := hq
    rw [e43]
    obtain ⟨fp, hpa, hfp⟩ := CI_pa hC43
    refine z_if_ne C (tgt := 51) dX3_isSound_46 (by decide) (fun _ => ?_) (fun c46 => absurd c46 (by decide))
    refine z_iload_n C dX3_isSound_51 rfl 0 rfl ?_
    refine z_iconst C (v := 1) dX3_isSound_52 (by decide) ?_
    refine z_iadd C dX3_isSound_53 ?_
    refine z_istore_n (lv' := [(2, .int ((nI jx) + 1)), (1, .int (nI jx)), (0, .ref x)]) C dX3_isSound_54 rfl (by decide) rfl ?_
    refine z_fewer [0, 2, 1] rfl ?_
    refine z_at (M' := _) (lv' := [(2, .int (nI (jx + 1))), (0, .ref x), (1, .int (nI jx))]) rfl (by rw [show (((nI jx) + 1) : Int32) = nI (jx + 1) from nI_1 jx]; rfl) rfl ?_
    refine lp_X3_is2 C hok hC43 hpa hfp (jx := jx) (by omega) ?_ (6 - (jx + 1)) (jx + 1) (by omega)
    refine z_iinc (v := nI (jx + 1)) (lv' := [(1, .int (nI (jx + 1))), (0, .ref x)]) C dX3_isSound_90 1 rfl (nI_1 jx) (by decide) rfl ?_
    refine z_goto C (tgt := 2) dX3_isSound_93 (by decide) ?_
    refine z_fewer [0, 1] rfl ?_
    exact ih (jx + 1) _ (by omega) hC43
set_option maxRecDepth 20000 in
theorem a_X3_isSound (l : Launch) {G : zG} {u : sS} {x : Nat} {P RA VA : Nat → Nat} {pa sp ln rf sb : Nat} {Mw : zM} (hC : CI G u x P RA VA pa sp ln rf sb Mw) {t : Nat} (hok : s_ok t u) : z_Mi l G qX3_isSound (z_rm 6 0 0) [.ref x] Mw (fun r Mz => r = 1 ∧ CI G u x P RA VA pa sp ln rf sb Mz)  := by
  refine z_Mi_of _ (plainFor_of_name rfl) rfl (Nat.le_of_ble_eq_true rfl) (fun X hl hG hnm C ret => ?_)
  subst hl; subst hG
  have C : z_C X cX3_isSound RX3 3 (z_rm 6 0 0) := C
  show z_W X Mw 0 0 0 [(0, .ref x)] []
  refine z_iconst C (v := 0) dX3_isSound_0 (by decide) ?_
  refine z_istore_n (lv' := [(1, .int 0), (0, .ref x)]) C dX3_isSound_1 rfl (by decide) rfl ?_
  refine z_at (M' := _) (lv' := [(1, .int (nI 0)), (0, .ref x)]) rfl (by rw [nI_0]) rfl ?_
  refine lp_X3_is1 C hok (fun Mz hC9 => ?_) 6 0 _ (Nat.zero_add _) hC
  refine z_iconst C (v := 1) dX3_isSound_96 (by decide) ?_
  refine ret dX3_isSound_97 rfl ?_ (by decide) (by decide)
  exact ⟨rfl, hC9⟩
set_option maxRecDepth 20000 in
theorem c_X3_mix (l : Launch) (G : zG) {M : zM} {dq : Int64} {vq : Int32}    : z_Ml l G qX3_mix (z_rm 1 0 0) [.long dq, .int vq] M (fun r M' => r = (dq * 31) + vq.toInt64 ∧ M' = M)  := by
  refine z_Ml_of _ (plainFor_of_name rfl) rfl (Nat.le_of_ble_eq_true rfl) (fun X hl hG hnm C ret => ?_)
  subst hl; subst hG
  have C : z_C X cX3_mix RX3 3 (z_rm 1 0 0) := C
  show z_W X M 0 0 0 [(0, .long dq), (2, .int vq)] []
  refine z_lload_n C dX3_mix_0 rfl 0 rfl ?_
  refine z_ldc2 C (v := 31) kw640 dX3_mix_1 ?_
  refine z_lmul C dX3_mix_4 ?_
  refine z_iload_n C dX3_mix_5 rfl 1 rfl ?_
  refine z_i2l C dX3_mix_6 ?_
  refine z_ladd C dX3_mix_7 ?_
  exact ret dX3_mix_8 (⟨rfl, rfl⟩) (by decide) (by decide)
set_option maxRecDepth 20000 in
theorem lp_X3_ml {X : zX} (C : z_C X cX3_mixLine RX3 6 (z_rm 6 0 0)) {u : sS} {x : Nat} {P RA VA : Nat → Nat} {pa sp ln rf sb t : Nat} (hok : s_ok t u) {Mw : zM} (hC : CI (z_G X) u x P RA VA pa sp ln rf sb Mw) {vb c n : Nat} {ml : Int32} {f : Nat → Int32} (hsb : Mw sb = some (cSb vb 0 ml (nI c))) (hvb : Mw vb = some (aB (z_G X) n f)) (hcn : c ≤ n) (hn : n ≤ 600) {ls : List Int32} (hlen : ls.length = c) (hls : ∀ k, k < c → f k = ls.getD k 0) {d0 : Int64} (kk : ∀ dq, dq = t_fl d0 ls → z_W X Mw 0 0 43 [(3, .long dq)] []) : ∀ (d jx : Nat) (dq : Int64), jx + d = c → dq = t_fl d0 (ls.take jx) → z_W X Mw 0 0 5 [(5, .int (nI jx)), (0, .ref x), (3, .long dq)] [] := by
  intro d
  induction d with
  | zero =>
    intro jx dq hd hdq
    refine z_iload C dX3_mixLine_5 0 rfl ?_
    refine z_aload_n C dX3_mixLine_7 rfl 1 rfl ?_
    refine gf_X3_34 C hC.1 dX3_mixLine_8 ?_
    refine gf_X3_247 C (CI_ln hC) dX3_mixLine_11 ?_
    refine z_callVi (rest := [.int (nI jx)]) (k' := 0) (n' := 0) C (c_J4_length_8abf5 (z_l X) (z_G X) hsb) (cs_X3_251 C ⟨Nat.le_of_ble_eq_true rfl, Nat.le_of_ble_eq_true rfl⟩) hsb rfl rfl rfl rfl (Nat.le_of_ble_eq_true rfl) rfl rfl (by decide) (by decide) dX3_mixLine_14 (fun x14 M' hq => ?_)
    obtain ⟨rfl, rfl⟩ := hq
    refine z_icmp_ge C (tgt := 43) dX3_mixLine_17 (by decide) (fun _ => ?_) (fun c17 => absurd (nI_le (b := jx) (a := c) (by omega) (by omega)) c17)
    refine z_fewer [2] rfl ?_
    exact kk _ (by rw [hdq, show jx = c by omega, ← hlen, List.take_length])
  | succ d ih =>
    intro jx dq hd hdq
    refine z_iload C dX3_mixLine_5 0 rfl ?_
    refine z_aload_n C dX3_mixLine_7 rfl 1 rfl ?_
    refine gf_X3_34 C hC.1 dX3_mixLine_8 ?_
    refine gf_X3_247 C (CI_ln hC) dX3_mixLine_11 ?_
    refine z_callVi (rest := [.int (nI jx)]) (k' := 0) (n' := 0) C (c_J4_length_8abf5 (z_l X) (z_G X) hsb) (cs_X3_251 C ⟨Nat.le_of_ble_eq_true rfl, Nat.le_of_ble_eq_true rfl⟩) hsb rfl rfl rfl rfl (Nat.le_of_ble_eq_true rfl) rfl rfl (by decide) (by decide) dX3_mixLine_14 (fun x14 M' hq => ?_)
    obtain ⟨rfl, rfl⟩ := hq
    refine z_icmp_ge C (tgt := 43) dX3_mixLine_17 (by decide) (fun c17 => absurd c17 (nI_ge (a := jx) (b := c) (by omega) (by omega))) (fun _ => ?_)
    refine z_lload_n C dX3_mixLine_20 rfl 2 rfl ?_
    refine z_aload_n C dX3_mixLine_21 rfl 1 rfl ?_
    refine gf_X3_34 C hC.1 dX3_mixLine_22 ?_
    refine gf_X3_247 C (CI_ln hC) dX3_mixLine_25 ?_
    refine z_iload C dX3_mixLine_28 0 rfl ?_
    refine z_callVi (rest := [.long dq]) (k' := 0) (n' := 0) C (c_J4_charAt_5068e (z_l X) (z_G X) hsb hvb (show jx < c by omega) hcn (by omega)) (cs_X3_256 C ⟨Nat.le_of_ble_eq_true rfl, Nat.le_of_ble_eq_true rfl⟩) hsb rfl rfl rfl rfl (Nat.le_of_ble_eq_true rfl) rfl rfl (by decide) (by decide) dX3_mixLine_30 (fun x30 M' hq => ?_)
    obtain ⟨rfl, rfl⟩ := hq
    refine z_callSl (rest := []) (k' := 0) (n' := 0) C (c_X3_mix (z_l X) (z_G X) ) (cs_X3_203 C ⟨Nat.le_of_ble_eq_true rfl, Nat.le_of_ble_eq_true rfl⟩) rfl rfl (Nat.le_of_ble_eq_true rfl) rfl rfl (by decide) (by decide) dX3_mixLine_33 (fun x33 M' hq => ?_)
    obtain ⟨rfl, rfl⟩ := hq
    refine z_lstore_n (lv' := [(3, .long ((dq * 31) + ((((f jx) &&& 255).toUInt32 % 65536).toInt32).toInt64)), (5, .int (nI jx)), (0, .ref x)]) C dX3_mixLine_36 rfl (by decide) rfl ?_
    refine z_iinc (v := nI (jx + 1)) (lv' := [(5, .int (nI (jx + 1))), (3, .long ((dq * 31) + ((((f jx) &&& 255).toUInt32 % 65536).toInt32).toInt64)), (0, .ref x)]) C dX3_mixLine_37 1 rfl (nI_1 jx) (by decide) rfl ?_
    refine z_goto C (tgt := 5) dX3_mixLine_40 (by decide) ?_
    refine z_fewer [0, 2, 1] rfl ?_
    exact ih (jx + 1) _ (by omega) (by rw [hdq]; exact t_fl_s (by omega) (hls jx (by omega)))
set_option maxRecDepth 20000 in
theorem a_X3_mixLine (l : Launch) {G : zG} {u : sS} {x : Nat} {P RA VA : Nat → Nat} {pa sp ln rf sb : Nat} {Mw : zM} (hC : CI G u x P RA VA pa sp ln rf sb Mw) {t : Nat} (hok : s_ok t u) {vb c n : Nat} (hB : j_B G Mw sb vb c n) {ls : List Int32} (hL : j_L Mw vb c ls) {dq : Int64} : z_Ml l G qX3_mixLine (z_rm 6 0 0) [.ref x, .long dq] Mw (fun r Mz => r = t_fl dq ls ∧ Mz = Mw)  := by
  obtain ⟨ml, f, hsb, hvb, hf, hcn, hn16, hn⟩ := hB
  obtain ⟨hlen, hls⟩ := j_L_f hvb hL
  refine z_Ml_of _ (plainFor_of_name rfl) rfl (Nat.le_of_ble_eq_true rfl) (fun X hl hG hnm C ret => ?_)
  subst hl; subst hG
  have C : z_C X cX3_mixLine RX3 6 (z_rm 6 0 0) := C
  show z_W X Mw 0 0 0 [(0, .ref x), (1, .long dq)] []
  refine z_lload_n C dX3_mixLine_0 rfl 1 rfl ?_
  refine z_lstore_n (lv' := [(3, .long dq), (0, .ref x), (1, .long dq)]) C dX3_mixLine_1 rfl (by decide) rfl ?_
  refine z_iconst C (v := 0) dX3_mixLine_2 (by decide) ?_
  refine z_istore (lv' := [(5, .int 0), (3, .long dq), (0, .ref x), (1, .long dq)]) C dX3_mixLine_3 (by decide) rfl ?_
  refine z_fewer [0, 2, 1] rfl ?_
  refine z_at (M' := _) (lv' := [(5, .int (nI 0)), (0, .ref x), (3, .long dq)]) rfl (by rw [nI_0]; rfl) rfl ?_
  refine lp_X3_ml C hok hC hsb hvb hcn hn hlen hls (d0 := dq) (fun d9 hd9 => ?_) c 0 dq (Nat.zero_add _) (t_fl_0 _ _)
  refine z_lload_n C dX3_mixLine_43 rfl 0 rfl ?_
  refine ret dX3_mixLine_44 ?_ (by decide) (by decide)
  exact ⟨hd9, rfl⟩
