/-! PART 56: what isSound looks at: a twin tells as its pane -/
theorem dX1_tellsAs_0 : decode cX1_tellsAs 0 = .ok (.aload_n 0, 1) := by decide +kernel
theorem dX1_tellsAs_1 : decode cX1_tellsAs 1 = .ok (.getfield 28, 3) := by decide +kernel
theorem dX1_tellsAs_4 : decode cX1_tellsAs 4 = .ok (.aload_n 1, 1) := by decide +kernel
theorem dX1_tellsAs_5 : decode cX1_tellsAs 5 = .ok (.getfield 28, 3) := by decide +kernel
theorem dX1_tellsAs_8 : decode cX1_tellsAs 8 = .ok (.if_icmp .ne 25, 3) := by decide +kernel
theorem dX1_tellsAs_11 : decode cX1_tellsAs 11 = .ok (.aload_n 0, 1) := by decide +kernel
theorem dX1_tellsAs_12 : decode cX1_tellsAs 12 = .ok (.getfield 31, 3) := by decide +kernel
theorem dX1_tellsAs_15 : decode cX1_tellsAs 15 = .ok (.aload_n 1, 1) := by decide +kernel
theorem dX1_tellsAs_16 : decode cX1_tellsAs 16 = .ok (.getfield 31, 3) := by decide +kernel
theorem dX1_tellsAs_19 : decode cX1_tellsAs 19 = .ok (.if_icmp .ne 14, 3) := by decide +kernel
theorem dX1_tellsAs_22 : decode cX1_tellsAs 22 = .ok (.aload_n 0, 1) := by decide +kernel
theorem dX1_tellsAs_23 : decode cX1_tellsAs 23 = .ok (.getfield 34, 3) := by decide +kernel
theorem dX1_tellsAs_26 : decode cX1_tellsAs 26 = .ok (.aload_n 1, 1) := by decide +kernel
theorem dX1_tellsAs_27 : decode cX1_tellsAs 27 = .ok (.getfield 34, 3) := by decide +kernel
theorem dX1_tellsAs_30 : decode cX1_tellsAs 30 = .ok (.if_icmp .eq 5, 3) := by decide +kernel
theorem dX1_tellsAs_35 : decode cX1_tellsAs 35 = .ok (.iconst 0, 1) := by decide +kernel
theorem dX1_tellsAs_36 : decode cX1_tellsAs 36 = .ok (.istore_n 2, 1) := by decide +kernel
theorem dX1_tellsAs_37 : decode cX1_tellsAs 37 = .ok (.iload_n 2, 1) := by decide +kernel
theorem dX1_tellsAs_38 : decode cX1_tellsAs 38 = .ok (.aload_n 0, 1) := by decide +kernel
theorem dX1_tellsAs_39 : decode cX1_tellsAs 39 = .ok (.getfield 25, 3) := by decide +kernel
theorem dX1_tellsAs_42 : decode cX1_tellsAs 42 = .ok (.if_icmp .ge 24, 3) := by decide +kernel
theorem dX1_tellsAs_45 : decode cX1_tellsAs 45 = .ok (.aload_n 0, 1) := by decide +kernel
theorem dX1_tellsAs_46 : decode cX1_tellsAs 46 = .ok (.iload_n 2, 1) := by decide +kernel
theorem dX1_tellsAs_47 : decode cX1_tellsAs 47 = .ok (.invokevirtual 53, 3) := by decide +kernel
theorem dX1_tellsAs_50 : decode cX1_tellsAs 50 = .ok (.aload_n 1, 1) := by decide +kernel
theorem dX1_tellsAs_51 : decode cX1_tellsAs 51 = .ok (.iload_n 2, 1) := by decide +kernel
theorem dX1_tellsAs_52 : decode cX1_tellsAs 52 = .ok (.invokevirtual 53, 3) := by decide +kernel
theorem dX1_tellsAs_55 : decode cX1_tellsAs 55 = .ok (.if_icmp .eq 5, 3) := by decide +kernel
theorem dX1_tellsAs_60 : decode cX1_tellsAs 60 = .ok (.iinc 2 1, 3) := by decide +kernel
theorem dX1_tellsAs_63 : decode cX1_tellsAs 63 = .ok (.goto (-26), 3) := by decide +kernel
theorem dX1_tellsAs_66 : decode cX1_tellsAs 66 = .ok (.iconst 1, 1) := by decide +kernel
theorem dX1_tellsAs_67 : decode cX1_tellsAs 67 = .ok (.ireturn, 1) := by decide +kernel
theorem dX3_hasTrueTwins_0 : decode cX3_hasTrueTwins 0 = .ok (.aload_n 0, 1) := by decide +kernel
theorem dX3_hasTrueTwins_1 : decode cX3_hasTrueTwins 1 = .ok (.getfield 27, 3) := by decide +kernel
theorem dX3_hasTrueTwins_4 : decode cX3_hasTrueTwins 4 = .ok (.aload_n 1, 1) := by decide +kernel
theorem dX3_hasTrueTwins_5 : decode cX3_hasTrueTwins 5 = .ok (.invokevirtual 70, 3) := by decide +kernel
theorem dX3_hasTrueTwins_8 : decode cX3_hasTrueTwins 8 = .ok (.aload_n 0, 1) := by decide +kernel
theorem dX3_hasTrueTwins_9 : decode cX3_hasTrueTwins 9 = .ok (.getfield 27, 3) := by decide +kernel
theorem dX3_hasTrueTwins_12 : decode cX3_hasTrueTwins 12 = .ok (.aload_n 1, 1) := by decide +kernel
theorem dX3_hasTrueTwins_13 : decode cX3_hasTrueTwins 13 = .ok (.invokevirtual 242, 3) := by decide +kernel
theorem dX3_hasTrueTwins_16 : decode cX3_hasTrueTwins 16 = .ok (.istore_n 2, 1) := by decide +kernel
theorem dX3_hasTrueTwins_17 : decode cX3_hasTrueTwins 17 = .ok (.aload_n 0, 1) := by decide +kernel
theorem dX3_hasTrueTwins_18 : decode cX3_hasTrueTwins 18 = .ok (.getfield 27, 3) := by decide +kernel
theorem dX3_hasTrueTwins_21 : decode cX3_hasTrueTwins 21 = .ok (.iconst 1, 1) := by decide +kernel
theorem dX3_hasTrueTwins_22 : decode cX3_hasTrueTwins 22 = .ok (.putfield 89, 3) := by decide +kernel
theorem dX3_hasTrueTwins_25 : decode cX3_hasTrueTwins 25 = .ok (.iload_n 2, 1) := by decide +kernel
theorem dX3_hasTrueTwins_26 : decode cX3_hasTrueTwins 26 = .ok (.ifCond .eq 18, 3) := by decide +kernel
theorem dX3_hasTrueTwins_29 : decode cX3_hasTrueTwins 29 = .ok (.aload_n 0, 1) := by decide +kernel
theorem dX3_hasTrueTwins_30 : decode cX3_hasTrueTwins 30 = .ok (.getfield 27, 3) := by decide +kernel
theorem dX3_hasTrueTwins_33 : decode cX3_hasTrueTwins 33 = .ok (.aload_n 1, 1) := by decide +kernel
theorem dX3_hasTrueTwins_34 : decode cX3_hasTrueTwins 34 = .ok (.invokevirtual 242, 3) := by decide +kernel
theorem dX3_hasTrueTwins_37 : decode cX3_hasTrueTwins 37 = .ok (.ifCond .eq 7, 3) := by decide +kernel
theorem dX3_hasTrueTwins_40 : decode cX3_hasTrueTwins 40 = .ok (.iconst 1, 1) := by decide +kernel
theorem dX3_hasTrueTwins_41 : decode cX3_hasTrueTwins 41 = .ok (.goto 4, 3) := by decide +kernel
theorem dX3_hasTrueTwins_45 : decode cX3_hasTrueTwins 45 = .ok (.ireturn, 1) := by decide +kernel
set_option maxRecDepth 20000 in
theorem lp_X1_ta {X : zX} (C : z_C X cX1_tellsAs RX1 3 (z_rm 4 0 0)) {u : sS} {x : Nat} {P RA VA : Nat → Nat} {pa sp ln rf sb t i : Nat} {Mw : zM} (hC : CI (z_G X) u x P RA VA pa sp ln rf sb Mw) (hok : s_ok t u) (hi : i < 6) {rdx : Int32} (hsp : Mw sp = some (cPn (RA (p_ro (s_pn u i))) (p_sa (s_pn u i)) (p_cp (s_pn u i)) (p_po (s_pn u i)) (p_li (s_pn u i)) (p_mk (s_pn u i)) rdx)) {cq : Nat} (hcp : p_cp (s_pn u i) = nI cq) (h16 : cq ≤ 16) (kk : z_W X Mw 0 0 66 [] []) : ∀ (d jx : Nat), jx + d = cq → z_W X Mw 0 0 37 [(2, .int (nI jx)), (0, .ref sp), (1, .ref (P i))] [] := by
  intro d
  induction d with
  | zero =>
    intro jx hd
    refine z_iload_n C dX1_tellsAs_37 rfl 0 rfl ?_
    refine z_aload_n C dX1_tellsAs_38 rfl 1 rfl ?_
    refine gf_X1_25 C hsp dX1_tellsAs_39 ?_
    refine z_icmp_ge C (tgt := 66) dX1_tellsAs_42 (by decide) (fun _ => ?_) (fun c42 => absurd (by rw [hcp]; exact nI_le (by omega) (by omega)) c42)
    refine z_fewer [] rfl ?_
    exact kk
  | succ d ih =>
    intro jx hd
    refine z_iload_n C dX1_tellsAs_37 rfl 0 rfl ?_
    refine z_aload_n C dX1_tellsAs_38 rfl 1 rfl ?_
    refine gf_X1_25 C hsp dX1_tellsAs_39 ?_
    refine z_icmp_ge C (tgt := 66) dX1_tellsAs_42 (by decide) (fun c42 => absurd c42 (by rw [hcp]; exact nI_ge (by omega) (by omega))) (fun _ => ?_)
    refine z_aload_n C dX1_tellsAs_45 rfl 1 rfl ?_
    refine z_iload_n C dX1_tellsAs_46 rfl 0 rfl ?_
    refine z_callVi (rest := []) (k' := 0) (n' := 0) C (c_X1_valueAt (z_l X) (z_G X) hsp (CI_RA hC (s_row hok hi)) (CI_VA hC (s_row hok hi)) (s_inJ hok hi hcp (by omega) h16) (s_lnc hok _)) (cs_X1_53 C (by decide)) hsp rfl rfl rfl rfl (Nat.le_of_ble_eq_true rfl) rfl rfl (by decide) (by decide) dX1_tellsAs_47 (fun x47 Mq47 hq => ?_)
    obtain ⟨e47, rfl⟩ := hq
    rw [e47]
    refine z_aload_n C dX1_tellsAs_50 rfl 2 rfl ?_
    refine z_iload_n C dX1_tellsAs_51 rfl 0 rfl ?_
    refine z_callVi (rest := [.int (s_vl u (p_ro (s_pn u i)) (p_sa (s_pn u i) + nI jx).toNatClampNeg)]) (k' := 0) (n' := 0) C (c_X1_valueAt (z_l X) (z_G X) (CI_P hC hi) (CI_RA hC (s_row hok hi)) (CI_VA hC (s_row hok hi)) (s_inJ hok hi hcp (by omega) h16) (s_lnc hok _)) (cs_X1_53 C (by decide)) (CI_P hC hi) rfl rfl rfl rfl (Nat.le_of_ble_eq_true rfl) rfl rfl (by decide) (by decide) dX1_tellsAs_52 (fun x52 Mq52 hq => ?_)
    obtain ⟨e52, rfl⟩ := hq
    rw [e52]
    refine z_icmp_eq C (tgt := 60) dX1_tellsAs_55 (by decide) (fun _ => ?_) (fun c55 => absurd rfl c55)
    refine z_iinc (v := nI (jx + 1)) (lv' := [(2, .int (nI (jx + 1))), (0, .ref sp), (1, .ref (P i))]) C dX1_tellsAs_60 0 rfl (nI_1 jx) (by decide) rfl ?_
    refine z_goto C (tgt := 37) dX1_tellsAs_63 (by decide) ?_
    refine z_fewer [0, 1, 2] rfl ?_
    exact ih (jx + 1) (by omega)
set_option maxRecDepth 20000 in
theorem a_X1_tellsAs (l : Launch) {G : zG} {u : sS} {x : Nat} {P RA VA : Nat → Nat} {pa sp ln rf sb : Nat} {Mw : zM} (hC : CI G u x P RA VA pa sp ln rf sb Mw) {t : Nat} (hok : s_ok t u) {i : Nat} (hi : i < 6) {rdx : Int32} (hsp : Mw sp = some (cPn (RA (p_ro (s_pn u i))) (p_sa (s_pn u i)) (p_cp (s_pn u i)) (p_po (s_pn u i)) (p_li (s_pn u i)) (p_mk (s_pn u i)) rdx)) : z_Mi l G qX1_tellsAs (z_rm 4 0 0) [.ref sp, .ref (P i)] Mw (fun r Mz => r = 1 ∧ Mz = Mw)  := by
  obtain ⟨pq, lq, cq, hpo, hli, hcp, g1, g2, h16⟩ := s_pq hok hi
  refine z_Mi_of _ (plainFor_of_name rfl) rfl (Nat.le_of_ble_eq_true rfl) (fun X hl hG hnm C ret => ?_)
  subst hl; subst hG
  have C : z_C X cX1_tellsAs RX1 3 (z_rm 4 0 0) := C
  show z_W X Mw 0 0 0 [(0, .ref sp), (1, .ref (P i))] []
  refine z_aload_n C dX1_tellsAs_0 rfl 0 rfl ?_
  refine gf_X1_28 C hsp dX1_tellsAs_1 ?_
  refine z_aload_n C dX1_tellsAs_4 rfl 1 rfl ?_
  refine gf_X1_28 C (CI_P hC hi) dX1_tellsAs_5 ?_
  refine z_icmp_ne C (tgt := 33) dX1_tellsAs_8 (by decide) (fun c8 => absurd rfl c8) (fun _ => ?_)
  refine z_aload_n C dX1_tellsAs_11 rfl 0 rfl ?_
  refine gf_X1_31 C hsp dX1_tellsAs_12 ?_
  refine z_aload_n C dX1_tellsAs_15 rfl 1 rfl ?_
  refine gf_X1_31 C (CI_P hC hi) dX1_tellsAs_16 ?_
  refine z_icmp_ne C (tgt := 33) dX1_tellsAs_19 (by decide) (fun c19 => absurd rfl c19) (fun _ => ?_)
  refine z_aload_n C dX1_tellsAs_22 rfl 0 rfl ?_
  refine gf_X1_34 C hsp dX1_tellsAs_23 ?_
  refine z_aload_n C dX1_tellsAs_26 rfl 1 rfl ?_
  refine gf_X1_34 C (CI_P hC hi) dX1_tellsAs_27 ?_
  refine z_icmp_eq C (tgt := 35) dX1_tellsAs_30 (by decide) (fun _ => ?_) (fun c30 => absurd rfl c30)
  refine z_iconst C (v := 0) dX1_tellsAs_35 (by decide) ?_
  refine z_istore_n (lv' := [(2, .int 0), (0, .ref sp), (1, .ref (P i))]) C dX1_tellsAs_36 rfl (by decide) rfl ?_
  refine z_at (M' := _) (lv' := [(2, .int (nI 0)), (0, .ref sp), (1, .ref (P i))]) rfl (by rw [nI_0]) rfl ?_
  refine lp_X1_ta C hC hok hi hsp hcp h16 ?_ cq 0 (Nat.zero_add _)
  refine z_iconst C (v := 1) dX1_tellsAs_66 (by decide) ?_
  refine ret dX1_tellsAs_67 rfl ?_ (by decide) (by decide)
  exact ⟨rfl, rfl⟩
set_option maxRecDepth 20000 in
theorem a_X3_hasTrueTwins (l : Launch) {G : zG} {u : sS} {x : Nat} {P RA VA : Nat → Nat} {pa sp ln rf sb : Nat} {Mw : zM} (hC : CI G u x P RA VA pa sp ln rf sb Mw) {t : Nat} (hok : s_ok t u) {i : Nat} (hi : i < 6) : z_Mi l G qX3_hasTrueTwins (z_rm 5 0 0) [.ref x, .ref (P i)] Mw (fun r Mz => r = 1 ∧ CI G u x P RA VA pa sp ln rf sb Mz)  := by
  obtain ⟨o9, p9, hsp⟩ := CI_sp' hC
  refine z_Mi_of _ (plainFor_of_name rfl) rfl (Nat.le_of_ble_eq_true rfl) (fun X hl hG hnm C ret => ?_)
  subst hl; subst hG
  have C : z_C X cX3_hasTrueTwins RX3 3 (z_rm 5 0 0) := C
  show z_W X Mw 0 0 0 [(0, .ref x), (1, .ref (P i))] []
  refine z_aload_n C dX3_hasTrueTwins_0 rfl 0 rfl ?_
  refine gf_X3_27 C hC.1 dX3_hasTrueTwins_1 ?_
  refine z_aload_n C dX3_hasTrueTwins_4 rfl 1 rfl ?_
  refine z_callVv (rest := []) (k' := 0) (n' := 0) C (c_X1_becomeTwin (z_l X) (z_G X) hsp (CI_P hC hi) (fun q => hC.2.2.2.2.2.2.2.2.2.2.1 i hi q.symm) (by rcases (hok.2.2.2.2.1 i hi).2.2.2 with h9 | h9 <;> rw [h9] <;> rfl) (by rcases (hok.2.2.2.2.1 i hi).2.2.2 with h9 | h9 <;> rw [h9] <;> rfl)) (cs_X3_70 C (by decide)) hsp rfl rfl rfl rfl (Nat.le_of_ble_eq_true rfl) rfl rfl (by decide) (by decide) dX3_hasTrueTwins_5 (fun Mq5 hq => ?_)
  have hC1 : CI (z_G X) u x P RA VA pa sp ln rf sb Mq5 := by
    rw [hq]
    exact CI_sp hC (RA (p_ro (s_pn u i))) (s_pn u i)
  have hs1 : Mq5 sp = some (cPn (RA (p_ro (s_pn u i))) (p_sa (s_pn u i)) (p_cp (s_pn u i)) (p_po (s_pn u i)) (p_li (s_pn u i)) (p_mk (s_pn u i)) (p_rd (s_pn u i))) := by
    rw [hq]
    exact z_up_s _ _ _
  refine z_aload_n C dX3_hasTrueTwins_8 rfl 0 rfl ?_
  refine gf_X3_27 C hC1.1 dX3_hasTrueTwins_9 ?_
  refine z_aload_n C dX3_hasTrueTwins_12 rfl 1 rfl ?_
  refine z_callVi (rest := []) (k' := 0) (n' := 0) C (a_X1_tellsAs (z_l X) hC1 hok hi hs1) (cs_X3_242 C (by decide)) hs1 rfl rfl rfl rfl (Nat.le_of_ble_eq_true rfl) rfl rfl (by decide) (by decide) dX3_hasTrueTwins_13 (fun x13 Mq13 hq => ?_)
  obtain ⟨e13, rfl⟩ := hq
  rw [e13]
  refine z_istore_n (lv' := [(2, .int 1), (0, .ref x), (1, .ref (P i))]) C dX3_hasTrueTwins_16 rfl (by decide) rfl ?_
  refine z_aload_n C dX3_hasTrueTwins_17 rfl 1 rfl ?_
  refine gf_X3_27 C hC1.1 dX3_hasTrueTwins_18 ?_
  refine z_iconst C (v := 1) dX3_hasTrueTwins_21 (by decide) ?_
  refine pf_X3_89 C rfl rfl hs1 dX3_hasTrueTwins_22 ?_
  refine z_opq (fun Mb hWb => ?_)
  have hC2 : CI (z_G X) u x P RA VA pa sp ln rf sb Mb := by
    rw [hWb]
    exact CI_sp hC1 (RA (p_ro (s_pn u i))) ((p_ro (s_pn u i), p_sa (s_pn u i), p_cp (s_pn u i), p_po (s_pn u i), p_li (s_pn u i), p_mk (s_pn u i), 1) : sP)
  have hs2 : Mb sp = some (cPn (RA (p_ro (s_pn u i))) (p_sa (s_pn u i)) (p_cp (s_pn u i)) (p_po (s_pn u i)) (p_li (s_pn u i)) (p_mk (s_pn u i)) 1) := by
    rw [hWb]
    exact z_up_s _ _ _
  refine z_iload_n C dX3_hasTrueTwins_25 rfl 0 rfl ?_
  refine z_if_eq C (tgt := 44) dX3_hasTrueTwins_26 (by decide) (fun c26 => absurd c26 (by decide)) (fun _ => ?_)
  refine z_aload_n C dX3_hasTrueTwins_29 rfl 1 rfl ?_
  refine gf_X3_27 C hC2.1 dX3_hasTrueTwins_30 ?_
  refine z_aload_n C dX3_hasTrueTwins_33 rfl 2 rfl ?_
  refine z_callVi (rest := []) (k' := 0) (n' := 0) C (a_X1_tellsAs (z_l X) hC2 hok hi hs2) (cs_X3_242 C (by decide)) hs2 rfl rfl rfl rfl (Nat.le_of_ble_eq_true rfl) rfl rfl (by decide) (by decide) dX3_hasTrueTwins_34 (fun x34 Mq34 hq => ?_)
  obtain ⟨e34, rfl⟩ := hq
  rw [e34]
  refine z_if_eq C (tgt := 44) dX3_hasTrueTwins_37 (by decide) (fun c37 => absurd c37 (by decide)) (fun _ => ?_)
  refine z_iconst C (v := 1) dX3_hasTrueTwins_40 (by decide) ?_
  refine z_goto C (tgt := 45) dX3_hasTrueTwins_41 (by decide) ?_
  refine ret dX3_hasTrueTwins_45 rfl ?_ (by decide) (by decide)
  exact ⟨rfl, hC2⟩
