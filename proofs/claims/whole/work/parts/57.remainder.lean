/-! PART 57: a pane in order, a true remainder -/
theorem a_X1_isInOrder (l : Launch) {G : zG} {u : sS} {x : Nat} {P RA VA : Nat → Nat} {pa sp ln rf sb : Nat} {Mw : zM} (hC : CI G u x P RA VA pa sp ln rf sb Mw) {t : Nat} (hok : s_ok t u) {i : Nat} (hi : i < 6) : z_Mi l G qX1_isInOrder (z_rm 2 0 0) [.ref (P i)] Mw (fun r Mz => r = 1 ∧ Mz = Mw) := by
  obtain ⟨a1, a2, a3, a4, a5, a6, a7⟩ := s_ow hok hi
  obtain ⟨m1, m2⟩ := (hok.2.2.2.2.1 i hi).2.2.1
  have hm : ¬ z_hm (p_mk (s_pn u i)) = 0 → 0 ≤ (p_mk (s_pn u i)).toInt := by
    intro h
    by_cases h1 : p_mk (s_pn u i) = -1
    · exact absurd (by rw [h1]; rfl) h
    · have h2 : ¬ (p_mk (s_pn u i)).toInt = -1 := fun q => h1 (z_eqI.mpr (by rw [q, z_tm1]))
      omega
  refine z_Mi_mono (c_X1_isInOrder l G (CI_P hC hi)) ?_
  intro r Mz h
  rcases h with ⟨c1, c2, hr, he⟩ | ⟨c1, c2, c3, hr, he⟩ | ⟨c1, c2, c3, c4, hr, he⟩ | ⟨c1, c2, c3, c4, c5, hr, he⟩ | ⟨c1, c2, c3, c4, c5, hr, he⟩ | ⟨c1, c2, hr, he⟩ | ⟨c1, c2, c3, c4, hr, he⟩ | ⟨c1, c2, c3, c4, c5, hr, he⟩ | ⟨c1, c2, c3, c4, c5, c6, hr, he⟩ | ⟨c1, c2, c3, c4, c5, c6, c7, hr, he⟩ | ⟨c1, c2, c3, c4, c5, c6, c7, hr, he⟩ | ⟨c1, c2, c3, hr, he⟩ <;> first | exact ⟨hr, he⟩ | exact absurd rfl c5 | exact absurd rfl c7 | (exfalso; simp only [z_le, z_ltI, z_t0] at *; omega) | (exfalso; have h9 := hm c1; simp only [z_le, z_ltI, z_t0] at *; omega)
theorem dX3_hasTrueRemainder_0 : decode cX3_hasTrueRemainder 0 = .ok (.aload_n 0, 1) := by decide +kernel
theorem dX3_hasTrueRemainder_1 : decode cX3_hasTrueRemainder 1 = .ok (.getfield 27, 3) := by decide +kernel
theorem dX3_hasTrueRemainder_4 : decode cX3_hasTrueRemainder 4 = .ok (.aload_n 1, 1) := by decide +kernel
theorem dX3_hasTrueRemainder_5 : decode cX3_hasTrueRemainder 5 = .ok (.aload_n 1, 1) := by decide +kernel
theorem dX3_hasTrueRemainder_6 : decode cX3_hasTrueRemainder 6 = .ok (.getfield 60, 3) := by decide +kernel
theorem dX3_hasTrueRemainder_9 : decode cX3_hasTrueRemainder 9 = .ok (.aload_n 1, 1) := by decide +kernel
theorem dX3_hasTrueRemainder_10 : decode cX3_hasTrueRemainder 10 = .ok (.invokevirtual 74, 3) := by decide +kernel
theorem dX3_hasTrueRemainder_13 : decode cX3_hasTrueRemainder 13 = .ok (.invokevirtual 78, 3) := by decide +kernel
theorem dX3_hasTrueRemainder_16 : decode cX3_hasTrueRemainder 16 = .ok (.aload_n 0, 1) := by decide +kernel
theorem dX3_hasTrueRemainder_17 : decode cX3_hasTrueRemainder 17 = .ok (.getfield 27, 3) := by decide +kernel
theorem dX3_hasTrueRemainder_20 : decode cX3_hasTrueRemainder 20 = .ok (.getfield 63, 3) := by decide +kernel
theorem dX3_hasTrueRemainder_23 : decode cX3_hasTrueRemainder 23 = .ok (.aload_n 1, 1) := by decide +kernel
theorem dX3_hasTrueRemainder_24 : decode cX3_hasTrueRemainder 24 = .ok (.invokevirtual 74, 3) := by decide +kernel
theorem dX3_hasTrueRemainder_27 : decode cX3_hasTrueRemainder 27 = .ok (.if_icmp .eq 5, 3) := by decide +kernel
theorem dX3_hasTrueRemainder_32 : decode cX3_hasTrueRemainder 32 = .ok (.iconst 0, 1) := by decide +kernel
theorem dX3_hasTrueRemainder_33 : decode cX3_hasTrueRemainder 33 = .ok (.istore_n 2, 1) := by decide +kernel
theorem dX3_hasTrueRemainder_34 : decode cX3_hasTrueRemainder 34 = .ok (.iload_n 2, 1) := by decide +kernel
theorem dX3_hasTrueRemainder_35 : decode cX3_hasTrueRemainder 35 = .ok (.aload_n 0, 1) := by decide +kernel
theorem dX3_hasTrueRemainder_36 : decode cX3_hasTrueRemainder 36 = .ok (.getfield 27, 3) := by decide +kernel
theorem dX3_hasTrueRemainder_39 : decode cX3_hasTrueRemainder 39 = .ok (.getfield 63, 3) := by decide +kernel
theorem dX3_hasTrueRemainder_42 : decode cX3_hasTrueRemainder 42 = .ok (.if_icmp .ge 32, 3) := by decide +kernel
theorem dX3_hasTrueRemainder_45 : decode cX3_hasTrueRemainder 45 = .ok (.aload_n 0, 1) := by decide +kernel
theorem dX3_hasTrueRemainder_46 : decode cX3_hasTrueRemainder 46 = .ok (.getfield 27, 3) := by decide +kernel
theorem dX3_hasTrueRemainder_49 : decode cX3_hasTrueRemainder 49 = .ok (.iload_n 2, 1) := by decide +kernel
theorem dX3_hasTrueRemainder_50 : decode cX3_hasTrueRemainder 50 = .ok (.invokevirtual 131, 3) := by decide +kernel
theorem dX3_hasTrueRemainder_53 : decode cX3_hasTrueRemainder 53 = .ok (.aload_n 1, 1) := by decide +kernel
theorem dX3_hasTrueRemainder_54 : decode cX3_hasTrueRemainder 54 = .ok (.aload_n 1, 1) := by decide +kernel
theorem dX3_hasTrueRemainder_55 : decode cX3_hasTrueRemainder 55 = .ok (.getfield 60, 3) := by decide +kernel
theorem dX3_hasTrueRemainder_58 : decode cX3_hasTrueRemainder 58 = .ok (.iload_n 2, 1) := by decide +kernel
theorem dX3_hasTrueRemainder_59 : decode cX3_hasTrueRemainder 59 = .ok (.iadd, 1) := by decide +kernel
theorem dX3_hasTrueRemainder_60 : decode cX3_hasTrueRemainder 60 = .ok (.invokevirtual 131, 3) := by decide +kernel
theorem dX3_hasTrueRemainder_63 : decode cX3_hasTrueRemainder 63 = .ok (.if_icmp .eq 5, 3) := by decide +kernel
theorem dX3_hasTrueRemainder_68 : decode cX3_hasTrueRemainder 68 = .ok (.iinc 2 1, 3) := by decide +kernel
theorem dX3_hasTrueRemainder_71 : decode cX3_hasTrueRemainder 71 = .ok (.goto (-37), 3) := by decide +kernel
theorem dX3_hasTrueRemainder_74 : decode cX3_hasTrueRemainder 74 = .ok (.aload_n 1, 1) := by decide +kernel
theorem dX3_hasTrueRemainder_75 : decode cX3_hasTrueRemainder 75 = .ok (.getfield 89, 3) := by decide +kernel
theorem dX3_hasTrueRemainder_78 : decode cX3_hasTrueRemainder 78 = .ok (.ifCond .ne 22, 3) := by decide +kernel
theorem dX3_hasTrueRemainder_81 : decode cX3_hasTrueRemainder 81 = .ok (.aload_n 0, 1) := by decide +kernel
theorem dX3_hasTrueRemainder_82 : decode cX3_hasTrueRemainder 82 = .ok (.getfield 27, 3) := by decide +kernel
theorem dX3_hasTrueRemainder_85 : decode cX3_hasTrueRemainder 85 = .ok (.getfield 233, 3) := by decide +kernel
theorem dX3_hasTrueRemainder_88 : decode cX3_hasTrueRemainder 88 = .ok (.aload_n 1, 1) := by decide +kernel
theorem dX3_hasTrueRemainder_89 : decode cX3_hasTrueRemainder 89 = .ok (.getfield 233, 3) := by decide +kernel
theorem dX3_hasTrueRemainder_92 : decode cX3_hasTrueRemainder 92 = .ok (.aload_n 1, 1) := by decide +kernel
theorem dX3_hasTrueRemainder_93 : decode cX3_hasTrueRemainder 93 = .ok (.getfield 60, 3) := by decide +kernel
theorem dX3_hasTrueRemainder_96 : decode cX3_hasTrueRemainder 96 = .ok (.iadd, 1) := by decide +kernel
theorem dX3_hasTrueRemainder_97 : decode cX3_hasTrueRemainder 97 = .ok (.if_icmp .ne 7, 3) := by decide +kernel
theorem dX3_hasTrueRemainder_100 : decode cX3_hasTrueRemainder 100 = .ok (.iconst 1, 1) := by decide +kernel
theorem dX3_hasTrueRemainder_101 : decode cX3_hasTrueRemainder 101 = .ok (.goto 4, 3) := by decide +kernel
theorem dX3_hasTrueRemainder_105 : decode cX3_hasTrueRemainder 105 = .ok (.ireturn, 1) := by decide +kernel
set_option maxRecDepth 20000 in
theorem lp_X3_tr {X : zX} (C : z_C X cX3_hasTrueRemainder RX3 3 (z_rm 5 0 0)) {u : sS} {x : Nat} {P RA VA : Nat → Nat} {pa sp ln rf sb t i : Nat} {Mw : zM} (hC : CI (z_G X) u x P RA VA pa sp ln rf sb Mw) (hok : s_ok t u) (hi : i < 6) (hsp : Mw sp = some (cPn (RA (p_ro (s_pn u i))) (p_sa (s_pn u i) + p_po (s_pn u i)) (p_li (s_pn u i) - p_po (s_pn u i)) 0 (p_li (s_pn u i) - p_po (s_pn u i)) (-1) (p_rd (s_pn u i)))) {pq lq cq : Nat} (hpo : p_po (s_pn u i) = nI pq) (hle : (p_li (s_pn u i) - p_po (s_pn u i)) = nI lq) (hcp : p_cp (s_pn u i) = nI cq) (hlc : pq + lq ≤ cq) (h16 : cq ≤ 16) (kk : z_W X Mw 0 0 74 [(0, .ref x), (1, .ref (P i))] []) : ∀ (d jx : Nat), jx + d = lq → z_W X Mw 0 0 34 [(2, .int (nI jx)), (0, .ref x), (1, .ref (P i))] [] := by
  intro d
  induction d with
  | zero =>
    intro jx hd
    refine z_iload_n C dX3_hasTrueRemainder_34 rfl 0 rfl ?_
    refine z_aload_n C dX3_hasTrueRemainder_35 rfl 1 rfl ?_
    refine gf_X3_27 C hC.1 dX3_hasTrueRemainder_36 ?_
    refine gf_X3_63 C hsp dX3_hasTrueRemainder_39 ?_
    refine z_icmp_ge C (tgt := 74) dX3_hasTrueRemainder_42 (by decide) (fun _ => ?_) (fun c42 => absurd (by rw [hle]; exact nI_le (by omega) (by omega)) c42)
    refine z_fewer [1, 2] rfl ?_
    exact kk
  | succ d ih =>
    intro jx hd
    refine z_iload_n C dX3_hasTrueRemainder_34 rfl 0 rfl ?_
    refine z_aload_n C dX3_hasTrueRemainder_35 rfl 1 rfl ?_
    refine gf_X3_27 C hC.1 dX3_hasTrueRemainder_36 ?_
    refine gf_X3_63 C hsp dX3_hasTrueRemainder_39 ?_
    refine z_icmp_ge C (tgt := 74) dX3_hasTrueRemainder_42 (by decide) (fun c42 => absurd c42 (by rw [hle]; exact nI_ge (by omega) (by omega))) (fun _ => ?_)
    refine z_aload_n C dX3_hasTrueRemainder_45 rfl 1 rfl ?_
    refine gf_X3_27 C hC.1 dX3_hasTrueRemainder_46 ?_
    refine z_iload_n C dX3_hasTrueRemainder_49 rfl 0 rfl ?_
    refine z_callVi (rest := []) (k' := 0) (n' := 0) C (c_X1_valueAt (z_l X) (z_G X) hsp (CI_RA hC (s_row hok hi)) (CI_VA hC (s_row hok hi)) (show vp_in ((p_sa (s_pn u i) + p_po (s_pn u i)) + nI jx) _ by rw [Int32.add_assoc, hpo, j_add]; exact s_inJ hok hi hcp (by omega) h16) (s_lnc hok _)) (cs_X3_131 C (by decide)) hsp rfl rfl rfl rfl (Nat.le_of_ble_eq_true rfl) rfl rfl (by decide) (by decide) dX3_hasTrueRemainder_50 (fun x50 Mq50 hq => ?_)
    obtain ⟨e50, rfl⟩ := hq
    rw [e50]
    refine z_aload_n C dX3_hasTrueRemainder_53 rfl 2 rfl ?_
    refine z_aload_n C dX3_hasTrueRemainder_54 rfl 2 rfl ?_
    refine gf_X3_60 C (CI_P hC hi) dX3_hasTrueRemainder_55 ?_
    refine z_iload_n C dX3_hasTrueRemainder_58 rfl 0 rfl ?_
    refine z_iadd C dX3_hasTrueRemainder_59 ?_
    refine z_callVi (rest := [.int (s_vl u (p_ro (s_pn u i)) ((p_sa (s_pn u i) + p_po (s_pn u i)) + nI jx).toNatClampNeg)]) (k' := 0) (n' := 0) C (c_X1_valueAt (z_l X) (z_G X) (CI_P hC hi) (CI_RA hC (s_row hok hi)) (CI_VA hC (s_row hok hi)) (show vp_in (p_sa (s_pn u i) + (p_po (s_pn u i) + nI jx)) _ by rw [hpo, j_add]; exact s_inJ hok hi hcp (by omega) h16) (s_lnc hok _)) (cs_X3_131 C (by decide)) (CI_P hC hi) rfl rfl rfl rfl (Nat.le_of_ble_eq_true rfl) rfl rfl (by decide) (by decide) dX3_hasTrueRemainder_60 (fun x60 Mq60 hq => ?_)
    obtain ⟨e60, rfl⟩ := hq
    rw [e60]
    refine z_icmp_eq C (tgt := 68) dX3_hasTrueRemainder_63 (by decide) (fun _ => ?_) (fun c63 => absurd (by rw [Int32.add_assoc]) c63)
    refine z_iinc (v := nI (jx + 1)) (lv' := [(2, .int (nI (jx + 1))), (0, .ref x), (1, .ref (P i))]) C dX3_hasTrueRemainder_68 0 rfl (nI_1 jx) (by decide) rfl ?_
    refine z_goto C (tgt := 34) dX3_hasTrueRemainder_71 (by decide) ?_
    refine z_fewer [0, 1, 2] rfl ?_
    exact ih (jx + 1) (by omega)
set_option maxRecDepth 20000 in
theorem a_X3_hasTrueRemainder (l : Launch) {G : zG} {u : sS} {x : Nat} {P RA VA : Nat → Nat} {pa sp ln rf sb : Nat} {Mw : zM} (hC : CI G u x P RA VA pa sp ln rf sb Mw) {t : Nat} (hok : s_ok t u) {i : Nat} (hi : i < 6) : z_Mi l G qX3_hasTrueRemainder (z_rm 5 0 0) [.ref x, .ref (P i)] Mw (fun r Mz => r = 1 ∧ CI G u x P RA VA pa sp ln rf sb Mz)  := by
  obtain ⟨o9, p9, hsp⟩ := CI_sp' hC
  obtain ⟨pq, lq, cq, hpo, hli, hcp, g1, g2, h16⟩ := s_pq hok hi
  have hle : (p_li (s_pn u i) - p_po (s_pn u i)) = nI (lq - pq) := by
    rw [hpo, hli, z_eqI, fb_subI (by rw [nI_T (by omega), nI_T (by omega)]; omega) (by rw [nI_T (by omega), nI_T (by omega)]; omega), nI_T (by omega), nI_T (by omega), nI_T (by omega)]
    omega
  refine z_Mi_of _ (plainFor_of_name rfl) rfl (Nat.le_of_ble_eq_true rfl) (fun X hl hG hnm C ret => ?_)
  subst hl; subst hG
  have C : z_C X cX3_hasTrueRemainder RX3 3 (z_rm 5 0 0) := C
  show z_W X Mw 0 0 0 [(0, .ref x), (1, .ref (P i))] []
  refine z_aload_n C dX3_hasTrueRemainder_0 rfl 0 rfl ?_
  refine gf_X3_27 C hC.1 dX3_hasTrueRemainder_1 ?_
  refine z_aload_n C dX3_hasTrueRemainder_4 rfl 1 rfl ?_
  refine z_aload_n C dX3_hasTrueRemainder_5 rfl 1 rfl ?_
  refine gf_X3_60 C (CI_P hC hi) dX3_hasTrueRemainder_6 ?_
  refine z_aload_n C dX3_hasTrueRemainder_9 rfl 1 rfl ?_
  refine z_callVi (rest := [.int (p_po (s_pn u i)), .ref (P i), .ref sp]) (k' := 0) (n' := 0) C (c_X1_left (z_l X) (z_G X) (CI_P hC hi)) (cs_X3_74 C (by decide)) (CI_P hC hi) rfl rfl rfl rfl (Nat.le_of_ble_eq_true rfl) rfl rfl (by decide) (by decide) dX3_hasTrueRemainder_10 (fun x10 M' hq => ?_)
  obtain ⟨rfl, rfl⟩ := hq
  refine z_callVv (rest := []) (k' := 0) (n' := 0) C (c_X1_becomePart (z_l X) (z_G X) hsp (CI_P hC hi) (fun q => hC.2.2.2.2.2.2.2.2.2.2.1 i hi q.symm) (by rcases (hok.2.2.2.2.1 i hi).2.2.2 with h9 | h9 <;> rw [h9] <;> rfl) (by rcases (hok.2.2.2.2.1 i hi).2.2.2 with h9 | h9 <;> rw [h9] <;> rfl)) (cs_X3_78 C (by decide)) hsp rfl rfl rfl rfl (Nat.le_of_ble_eq_true rfl) rfl rfl (by decide) (by decide) dX3_hasTrueRemainder_13 (fun Mq13 hq => ?_)
  have hC1 : CI (z_G X) u x P RA VA pa sp ln rf sb Mq13 := by
    rw [hq]
    exact CI_sp hC (RA (p_ro (s_pn u i))) ((p_ro (s_pn u i), (p_sa (s_pn u i) + p_po (s_pn u i)), (p_li (s_pn u i) - p_po (s_pn u i)), 0, (p_li (s_pn u i) - p_po (s_pn u i)), -1, p_rd (s_pn u i)) : sP)
  have hs1 : Mq13 sp = some (cPn (RA (p_ro (s_pn u i))) (p_sa (s_pn u i) + p_po (s_pn u i)) (p_li (s_pn u i) - p_po (s_pn u i)) 0 (p_li (s_pn u i) - p_po (s_pn u i)) (-1) (p_rd (s_pn u i))) := by
    rw [hq]
    exact z_up_s _ _ _
  refine z_aload_n C dX3_hasTrueRemainder_16 rfl 0 rfl ?_
  refine gf_X3_27 C hC1.1 dX3_hasTrueRemainder_17 ?_
  refine gf_X3_63 C hs1 dX3_hasTrueRemainder_20 ?_
  refine z_aload_n C dX3_hasTrueRemainder_23 rfl 1 rfl ?_
  refine z_callVi (rest := [.int (p_li (s_pn u i) - p_po (s_pn u i))]) (k' := 0) (n' := 0) C (c_X1_left (z_l X) (z_G X) (CI_P hC1 hi)) (cs_X3_74 C (by decide)) (CI_P hC1 hi) rfl rfl rfl rfl (Nat.le_of_ble_eq_true rfl) rfl rfl (by decide) (by decide) dX3_hasTrueRemainder_24 (fun x24 M' hq => ?_)
  obtain ⟨rfl, rfl⟩ := hq
  refine z_icmp_eq C (tgt := 32) dX3_hasTrueRemainder_27 (by decide) (fun _ => ?_) (fun c27 => absurd rfl c27)
  refine z_iconst C (v := 0) dX3_hasTrueRemainder_32 (by decide) ?_
  refine z_istore_n (lv' := [(2, .int 0), (0, .ref x), (1, .ref (P i))]) C dX3_hasTrueRemainder_33 rfl (by decide) rfl ?_
  refine z_at (M' := _) (lv' := [(2, .int (nI 0)), (0, .ref x), (1, .ref (P i))]) rfl (by rw [nI_0]) rfl ?_
  refine lp_X3_tr C hC1 hok hi hs1 hpo hle hcp (by omega) h16 ?_ (lq - pq) 0 (Nat.zero_add _)
  refine z_aload_n C dX3_hasTrueRemainder_74 rfl 1 rfl ?_
  refine gf_X3_89 C (CI_P hC1 hi) dX3_hasTrueRemainder_75 ?_
  refine z_if_ne C (tgt := 100) dX3_hasTrueRemainder_78 (by decide) (fun c78 => ?_) (fun c78 => ?_)
  · refine z_iconst C (v := 1) dX3_hasTrueRemainder_100 (by decide) ?_
    refine z_goto C (tgt := 105) dX3_hasTrueRemainder_101 (by decide) ?_
    refine ret dX3_hasTrueRemainder_105 rfl ?_ (by decide) (by decide)
    exact ⟨rfl, hC1⟩
  · refine z_aload_n C dX3_hasTrueRemainder_81 rfl 0 rfl ?_
    refine gf_X3_27 C hC1.1 dX3_hasTrueRemainder_82 ?_
    refine gf_X3_233 C hs1 dX3_hasTrueRemainder_85 ?_
    refine z_aload_n C dX3_hasTrueRemainder_88 rfl 1 rfl ?_
    refine gf_X3_233 C (CI_P hC1 hi) dX3_hasTrueRemainder_89 ?_
    refine z_aload_n C dX3_hasTrueRemainder_92 rfl 1 rfl ?_
    refine gf_X3_60 C (CI_P hC1 hi) dX3_hasTrueRemainder_93 ?_
    refine z_iadd C dX3_hasTrueRemainder_96 ?_
    refine z_icmp_ne C (tgt := 104) dX3_hasTrueRemainder_97 (by decide) (fun c97 => absurd rfl c97) (fun _ => ?_)
    refine z_iconst C (v := 1) dX3_hasTrueRemainder_100 (by decide) ?_
    refine z_goto C (tgt := 105) dX3_hasTrueRemainder_101 (by decide) ?_
    refine ret dX3_hasTrueRemainder_105 rfl ?_ (by decide) (by decide)
    exact ⟨rfl, hC1⟩
