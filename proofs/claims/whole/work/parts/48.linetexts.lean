/-! PART 48: what the line writes: values, a whole pane, a total -/
section LT
variable {l : Launch} {G : zG} {Mw : zM} {sb vb c n : Nat}
theorem j_sbE (hB : j_B G Mw sb vb c n) : ∃ ml, Mw sb = some (cSb vb 0 ml (nI c)) := by
  obtain ⟨ml, f, h1, -⟩ := hB
  exact ⟨ml, h1⟩
theorem j_set0 (hB : j_B G Mw sb vb c n) : z_Mv l G qJ4_setLength_d00df (z_rm 3 0 0) [.ref sb, .int 0] Mw (fun Mz => j_B G Mz sb vb 0 n ∧ j_Fr Mw sb vb vb Mz) := by
  have hne := j_B_ne hB
  obtain ⟨ml, f, h1, h2, hf, g1, g2, g3⟩ := hB
  refine z_Mv_mono (c_J4_setLength_d00df l G h1 h2 g1 (by omega)) ?_
  rintro Mz ⟨ml9, rfl⟩
  exact ⟨⟨ml9, f, z_up_s _ _ _, by rw [z_up_n _ _ hne.symm]; exact h2, hf, Nat.zero_le _, g2, g3⟩, Or.inl rfl, fun a e ha n1 _ => by rw [z_up_n _ _ n1]; exact ha⟩
end LT
theorem j_i2l {x : Int32} (h : 0 ≤ x.toInt) : x.toInt64 = lN x.toNatClampNeg := by
  have h1 := fb_rng x
  have h2 : ((x.toNatClampNeg : Nat) : Int) = x.toInt := z_cl (z_le.mpr (by rw [z_t0]; exact h))
  apply Int64.toInt_inj.mp
  rw [Int32.toInt_toInt64, pk_lT (by omega), h2]
theorem j_v31 (x : Int32) : x.toNatClampNeg < 2 ^ 31 := by
  have h1 := fb_rng x
  show x.toInt.toNat < 2 ^ 31
  omega
theorem j_v35 (x : Int32) : x.toNatClampNeg < 35000000000 := Nat.lt_trans (j_v31 x) (by decide)
theorem s_lnb {t : Nat} {u : sS} (hok : s_ok t u) (r : Nat) : s_ln u r ≤ 16 := by
  by_cases h : r = 0
  · subst h; rw [hok.2.2.1]
    exact Nat.le_refl _
  · have := hok.2.2.2.1 r (by omega)
    omega
theorem s_lnc {t : Nat} {u : sS} (hok : s_ok t u) (r : Nat) : s_ln u r < 100000 := by
  have := s_lnb hok r
  omega
theorem dX0_beginValues_0 : decode cX0_beginValues 0 = .ok (.aload_n 0, 1) := by decide +kernel
theorem dX0_beginValues_1 : decode cX0_beginValues 1 = .ok (.getfield 10, 3) := by decide +kernel
theorem dX0_beginValues_4 : decode cX0_beginValues 4 = .ok (.iconst 0, 1) := by decide +kernel
theorem dX0_beginValues_5 : decode cX0_beginValues 5 = .ok (.invokevirtual 20, 3) := by decide +kernel
theorem dX0_beginValues_8 : decode cX0_beginValues 8 = .ok (.iload_n 2, 1) := by decide +kernel
theorem dX0_beginValues_9 : decode cX0_beginValues 9 = .ok (.istore 4, 2) := by decide +kernel
theorem dX0_beginValues_11 : decode cX0_beginValues 11 = .ok (.iload 4, 2) := by decide +kernel
theorem dX0_beginValues_13 : decode cX0_beginValues 13 = .ok (.iload_n 3, 1) := by decide +kernel
theorem dX0_beginValues_14 : decode cX0_beginValues 14 = .ok (.if_icmp .ge 36, 3) := by decide +kernel
theorem dX0_beginValues_17 : decode cX0_beginValues 17 = .ok (.iload 4, 2) := by decide +kernel
theorem dX0_beginValues_19 : decode cX0_beginValues 19 = .ok (.iload_n 2, 1) := by decide +kernel
theorem dX0_beginValues_20 : decode cX0_beginValues 20 = .ok (.if_icmp .le 13, 3) := by decide +kernel
theorem dX0_beginValues_23 : decode cX0_beginValues 23 = .ok (.aload_n 0, 1) := by decide +kernel
theorem dX0_beginValues_24 : decode cX0_beginValues 24 = .ok (.getfield 10, 3) := by decide +kernel
theorem dX0_beginValues_27 : decode cX0_beginValues 27 = .ok (.bipush 32, 2) := by decide +kernel
theorem dX0_beginValues_29 : decode cX0_beginValues 29 = .ok (.invokevirtual 41, 3) := by decide +kernel
theorem dX0_beginValues_32 : decode cX0_beginValues 32 = .ok (.pop, 1) := by decide +kernel
theorem dX0_beginValues_33 : decode cX0_beginValues 33 = .ok (.aload_n 0, 1) := by decide +kernel
theorem dX0_beginValues_34 : decode cX0_beginValues 34 = .ok (.aload_n 1, 1) := by decide +kernel
theorem dX0_beginValues_35 : decode cX0_beginValues 35 = .ok (.iload 4, 2) := by decide +kernel
theorem dX0_beginValues_37 : decode cX0_beginValues 37 = .ok (.invokevirtual 33, 3) := by decide +kernel
theorem dX0_beginValues_40 : decode cX0_beginValues 40 = .ok (.i2l, 1) := by decide +kernel
theorem dX0_beginValues_41 : decode cX0_beginValues 41 = .ok (.invokevirtual 37, 3) := by decide +kernel
theorem dX0_beginValues_44 : decode cX0_beginValues 44 = .ok (.iinc 4 1, 3) := by decide +kernel
theorem dX0_beginValues_47 : decode cX0_beginValues 47 = .ok (.goto (-36), 3) := by decide +kernel
theorem dX0_beginValues_50 : decode cX0_beginValues 50 = .ok (.return_, 1) := by decide +kernel
set_option maxRecDepth 20000 in
theorem lp_X0_bv {X : zX} (C : z_C X cX0_beginValues RX0 5 (z_rm 10 36 1168)) {u : sS} {x : Nat} {P RA VA : Nat → Nat} {pa sp ln rf sb t : Nat} (hok : s_ok t u) {fq tq pp n0 : Nat} {p9 : sP} (hro : p_ro p9 < s_nr u) (hin : ∀ j, fq ≤ j → j < tq → vp_in (p_sa p9 + nI j) (s_ln u (p_ro p9))) (hft : tq ≤ fq + 16) (htq : tq ≤ 100) (hn16 : 16 ≤ n0) (kk : ∀ c n vb Mz, c ≤ 192 → n0 ≤ n → CI (z_G X) u x P RA VA pa sp ln rf sb Mz → j_B (z_G X) Mz sb vb c n → j_L Mz vb c (t_vs (t_g9 u p9) fq (tq - fq)) → z_W X Mz (0 + (n - n0) / 16) (0 + 2 * (n - n0)) 50 [] []) : ∀ (d jx c n vb : Nat) (Mw : zM), jx + d = tq → fq ≤ jx → c ≤ 12 * (jx - fq) → CI (z_G X) u x P RA VA pa sp ln rf sb Mw → Mw pp = some (cPx (RA (p_ro p9)) p9) → j_B (z_G X) Mw sb vb c n → n0 ≤ n → j_L Mw vb c (t_vs (t_g9 u p9) fq (jx - fq)) → z_W X Mw (0 + (n - n0) / 16) (0 + 2 * (n - n0)) 11 [(4, .int (nI jx)), (0, .ref ln), (1, .ref pp), (2, .int (nI fq)), (3, .int (nI tq))] [] := by
  intro d
  induction d with
  | zero =>
    intro jx c n vb Mw hd hj hc9 hC hpp hB hn0 hL
    have hb0 := j_B_c hB
    refine z_iload C dX0_beginValues_11 0 rfl ?_
    refine z_iload_n C dX0_beginValues_13 rfl 4 rfl ?_
    refine z_icmp_ge C (tgt := 50) dX0_beginValues_14 (by decide) (fun _ => ?_) (fun c14 => absurd (nI_le (by omega) (by omega)) c14)
    refine z_fewer [] rfl ?_
    exact kk _ _ _ _ (by omega) (by omega) hC hB (by rw [show tq = jx by omega]; exact hL)
  | succ d ih =>
    intro jx c n vb Mw hd hj hc9 hC hpp hB hn0 hL
    have hb0 := j_B_c hB
    refine z_iload C dX0_beginValues_11 0 rfl ?_
    refine z_iload_n C dX0_beginValues_13 rfl 4 rfl ?_
    refine z_icmp_ge C (tgt := 50) dX0_beginValues_14 (by decide) (fun c14 => absurd c14 (nI_ge (by omega) (by omega))) (fun _ => ?_)
    refine z_iload C dX0_beginValues_17 0 rfl ?_
    refine z_iload_n C dX0_beginValues_19 rfl 3 rfl ?_
    refine z_icmp_le C (tgt := 33) dX0_beginValues_20 (by decide) (fun c20 => ?_) (fun c20 => ?_)
    · refine z_aload_n C dX0_beginValues_33 rfl 1 rfl ?_
      refine z_aload_n C dX0_beginValues_34 rfl 2 rfl ?_
      refine z_iload C dX0_beginValues_35 0 rfl ?_
      refine z_callVi (rest := [.ref ln]) (k' := 0 + (n - n0) / 16) (n' := 0 + 2 * (n - n0)) C (c_X1_valueAt (z_l X) (z_G X) hpp (CI_RA hC hro) (CI_VA hC hro) (hin jx (by omega) (by omega)) (s_lnc hok _)) (cs_X0_33 C ⟨Nat.le_of_ble_eq_true rfl, Nat.le_of_ble_eq_true rfl⟩) hpp rfl rfl rfl rfl (Nat.le_of_ble_eq_true rfl) rfl rfl (by show _ ≤ 36; omega) (by show _ ≤ 1168; omega) dX0_beginValues_37 (fun x37 Mq37 hq => ?_)
      obtain ⟨e37, rfl⟩ := hq
      rw [e37]
      refine z_i2l C dX0_beginValues_40 ?_
      rw [show (((s_vl u (p_ro p9) (p_sa p9 + nI jx).toNatClampNeg).toInt64) : Int64) = (lN (s_vl u (p_ro p9) (p_sa p9 + nI jx).toNatClampNeg).toNatClampNeg) from (j_i2l (hok.2.2.2.2.2 _ _))]
      have hd41 := j_nd_in ((s_vl u (p_ro p9) (p_sa p9 + nI jx).toNatClampNeg).toNatClampNeg) 10
      have hb41 := j_B_c hB
      have hg41 := j_cap_ge n (c + j_nd ((s_vl u (p_ro p9) (p_sa p9 + nI jx).toNatClampNeg).toNatClampNeg) 10)
      have hl41 : (j_cap n (c + j_nd ((s_vl u (p_ro p9) (p_sa p9 + nI jx).toNatClampNeg).toNatClampNeg) 10)) ≤ 600 := j_cap_le hb41.2.2 (by omega)
      refine z_callVv (rest := []) (k' := 0 + (n - n0) / 16 + (((j_cap n (c + j_nd ((s_vl u (p_ro p9) (p_sa p9 + nI jx).toNatClampNeg).toNatClampNeg) 10)) - n) / 16)) (n' := 0 + 2 * (n - n0) + (2 * ((j_cap n (c + j_nd ((s_vl u (p_ro p9) (p_sa p9 + nI jx).toNatClampNeg).toNatClampNeg) 10)) - n))) C (a_X0_addNumber (z_l X) hC hok hB hL hpp (j_v35 _) (by omega)) (cs_X0_37 C ⟨Nat.le_of_ble_eq_true rfl, Nat.le_of_ble_eq_true rfl⟩) (CI_ln hC) rfl rfl rfl rfl (Nat.le_of_ble_eq_true rfl) rfl rfl (by show _ ≤ 36; omega) (by show _ ≤ 1168; omega) dX0_beginValues_41 (fun Mq41 hq => ?_)
      obtain ⟨hC41, hp41, vc41, hB41, hL41⟩ := hq
      refine z_widen (k' := 0 + ((j_cap n (c + j_nd ((s_vl u (p_ro p9) (p_sa p9 + nI jx).toNatClampNeg).toNatClampNeg) 10)) - n0) / 16) (n' := 0 + 2 * ((j_cap n (c + j_nd ((s_vl u (p_ro p9) (p_sa p9 + nI jx).toNatClampNeg).toNatClampNeg) 10)) - n0)) (by omega) (by omega) ?_
      refine z_iinc (v := nI (jx + 1)) (lv' := [(4, .int (nI (jx + 1))), (0, .ref ln), (1, .ref pp), (2, .int (nI fq)), (3, .int (nI tq))]) C dX0_beginValues_44 0 rfl (nI_1 jx) (by decide) rfl ?_
      refine z_goto C (tgt := 11) dX0_beginValues_47 (by decide) ?_
      refine z_fewer [0, 1, 2, 3, 4] rfl ?_
      exact ih (jx + 1) _ _ _ _ (by omega) (by omega) (by omega) hC41 hp41 hB41 (by omega) (j_L_eq hL41 (t_vs_0 hj ((t_leN (by omega) (by omega)).mp c20) (g := t_g9 u p9)))
    · refine z_aload_n C dX0_beginValues_23 rfl 1 rfl ?_
      refine gf_X0_10 C (CI_ln hC) dX0_beginValues_24 ?_
      refine z_bipush C (v := 32) dX0_beginValues_27 (by decide) ?_
      have hm1 := j_B_c hB
      have hl8 := j_cap_le (n := n) (q := c + 1) (j_B_c hB).2.2 (by omega)
      refine j_site (q := qJ4_append_cf468) (c := c) (n := n) (w := 1) (F := 3) (k0 := 0) (s0 := 0) (n0 := n0) (rest := []) (wl := [32]) C hB hL rfl (fun h9 => cs_X0_41 C h9) ⟨Nat.le_of_ble_eq_true rfl, Nat.le_of_ble_eq_true rfl⟩ (Nat.le_of_ble_eq_true rfl) (Nat.le_of_ble_eq_true rfl) (fun h9 => j_C_fit (x := 32) hB (by decide) (by decide) h9) (fun h9 => j_C_grow (x := 32) hB (by decide) (by decide) (by omega) h9) rfl rfl (Nat.le_of_ble_eq_true rfl) (by omega) (by show _ ≤ 36; omega) (by show _ ≤ 1168; omega) dX0_beginValues_29 (fun vc1 Mc1 hB1 hF1 hL1 => ?_)
      have hC1 := CI_fr hC hB hB1 hF1
      have hn1 := j_cap_ge (n) (c + 1)
      have hp1 := j_keepP hB hF1 hpp
      refine z_pop C dX0_beginValues_32 rfl ?_
      refine z_aload_n C dX0_beginValues_33 rfl 1 rfl ?_
      refine z_aload_n C dX0_beginValues_34 rfl 2 rfl ?_
      refine z_iload C dX0_beginValues_35 0 rfl ?_
      refine z_callVi (rest := [.ref ln]) (k' := 0 + (j_cap n (c + 1) - n0) / 16) (n' := 0 + 2 * (j_cap n (c + 1) - n0)) C (c_X1_valueAt (z_l X) (z_G X) hp1 (CI_RA hC1 hro) (CI_VA hC1 hro) (hin jx (by omega) (by omega)) (s_lnc hok _)) (cs_X0_33 C ⟨Nat.le_of_ble_eq_true rfl, Nat.le_of_ble_eq_true rfl⟩) hp1 rfl rfl rfl rfl (Nat.le_of_ble_eq_true rfl) rfl rfl (by show _ ≤ 36; omega) (by show _ ≤ 1168; omega) dX0_beginValues_37 (fun x37 Mq37 hq => ?_)
      obtain ⟨e37, rfl⟩ := hq
      rw [e37]
      refine z_i2l C dX0_beginValues_40 ?_
      rw [show (((s_vl u (p_ro p9) (p_sa p9 + nI jx).toNatClampNeg).toInt64) : Int64) = (lN (s_vl u (p_ro p9) (p_sa p9 + nI jx).toNatClampNeg).toNatClampNeg) from (j_i2l (hok.2.2.2.2.2 _ _))]
      have hd41 := j_nd_in ((s_vl u (p_ro p9) (p_sa p9 + nI jx).toNatClampNeg).toNatClampNeg) 10
      have hb41 := j_B_c hB1
      have hg41 := j_cap_ge (j_cap n (c + 1)) ((c + 1) + j_nd ((s_vl u (p_ro p9) (p_sa p9 + nI jx).toNatClampNeg).toNatClampNeg) 10)
      have hl41 : (j_cap (j_cap n (c + 1)) ((c + 1) + j_nd ((s_vl u (p_ro p9) (p_sa p9 + nI jx).toNatClampNeg).toNatClampNeg) 10)) ≤ 600 := j_cap_le hb41.2.2 (by omega)
      refine z_callVv (rest := []) (k' := 0 + (j_cap n (c + 1) - n0) / 16 + (((j_cap (j_cap n (c + 1)) ((c + 1) + j_nd ((s_vl u (p_ro p9) (p_sa p9 + nI jx).toNatClampNeg).toNatClampNeg) 10)) - (j_cap n (c + 1))) / 16)) (n' := 0 + 2 * (j_cap n (c + 1) - n0) + (2 * ((j_cap (j_cap n (c + 1)) ((c + 1) + j_nd ((s_vl u (p_ro p9) (p_sa p9 + nI jx).toNatClampNeg).toNatClampNeg) 10)) - (j_cap n (c + 1))))) C (a_X0_addNumber (z_l X) hC1 hok hB1 hL1 hp1 (j_v35 _) (by omega)) (cs_X0_37 C ⟨Nat.le_of_ble_eq_true rfl, Nat.le_of_ble_eq_true rfl⟩) (CI_ln hC1) rfl rfl rfl rfl (Nat.le_of_ble_eq_true rfl) rfl rfl (by show _ ≤ 36; omega) (by show _ ≤ 1168; omega) dX0_beginValues_41 (fun Mq41 hq => ?_)
      obtain ⟨hC41, hp41, vc41, hB41, hL41⟩ := hq
      refine z_widen (k' := 0 + ((j_cap (j_cap n (c + 1)) ((c + 1) + j_nd ((s_vl u (p_ro p9) (p_sa p9 + nI jx).toNatClampNeg).toNatClampNeg) 10)) - n0) / 16) (n' := 0 + 2 * ((j_cap (j_cap n (c + 1)) ((c + 1) + j_nd ((s_vl u (p_ro p9) (p_sa p9 + nI jx).toNatClampNeg).toNatClampNeg) 10)) - n0)) (by omega) (by omega) ?_
      refine z_iinc (v := nI (jx + 1)) (lv' := [(4, .int (nI (jx + 1))), (0, .ref ln), (1, .ref pp), (2, .int (nI fq)), (3, .int (nI tq))]) C dX0_beginValues_44 0 rfl (nI_1 jx) (by decide) rfl ?_
      refine z_goto C (tgt := 11) dX0_beginValues_47 (by decide) ?_
      refine z_fewer [0, 1, 2, 3, 4] rfl ?_
      exact ih (jx + 1) _ _ _ _ (by omega) (by omega) (by omega) hC41 hp41 hB41 (by omega) (j_L_eq hL41 (t_vs_1 (Nat.lt_of_not_le fun q => c20 ((t_leN (by omega) (by omega)).mpr q)) (g := t_g9 u p9)))
set_option maxRecDepth 20000 in
theorem a_X0_beginValues (l : Launch) {G : zG} {u : sS} {x : Nat} {P RA VA : Nat → Nat} {pa sp ln rf sb : Nat} {Mw : zM} (hC : CI G u x P RA VA pa sp ln rf sb Mw) {t : Nat} (hok : s_ok t u) {vb c n : Nat} (hB : j_B G Mw sb vb c n) {fq tq pp : Nat} {p9 : sP} (hpp : Mw pp = some (cPx (RA (p_ro p9)) p9)) (hro : p_ro p9 < s_nr u) (hin : ∀ j, fq ≤ j → j < tq → vp_in (p_sa p9 + nI j) (s_ln u (p_ro p9))) (hft : tq ≤ fq + 16) (htq : tq ≤ 100) (hfq : fq ≤ tq) : z_Mv l G qX0_beginValues (z_rm 10 36 1168) [.ref ln, .ref pp, .int (nI fq), .int (nI tq)] Mw (fun Mz => CI G u x P RA VA pa sp ln rf sb Mz ∧ ∃ vb' c' n', c' ≤ 192 ∧ j_B G Mz sb vb' c' n' ∧ j_L Mz vb' c' (t_vs (t_g9 u p9) fq (tq - fq)))  := by
  obtain ⟨ml0, hsb0⟩ := j_sbE hB
  have hbn := j_B_c hB
  refine z_Mv_of _ (plainFor_of_name rfl) rfl (Nat.le_of_ble_eq_true rfl) (fun X hl hG hnm C ret => ?_)
  subst hl; subst hG
  have C : z_C X cX0_beginValues RX0 5 (z_rm 10 36 1168) := C
  show z_W X Mw 0 0 0 [(0, .ref ln), (1, .ref pp), (2, .int (nI fq)), (3, .int (nI tq))] []
  refine z_aload_n C dX0_beginValues_0 rfl 0 rfl ?_
  refine gf_X0_10 C (CI_ln hC) dX0_beginValues_1 ?_
  refine z_iconst C (v := 0) dX0_beginValues_4 (by decide) ?_
  refine z_callVv (rest := []) (k' := 0) (n' := 0) C (j_set0 (l := z_l X) hB) (cs_X0_20 C (by decide)) hsb0 rfl rfl rfl rfl (Nat.le_of_ble_eq_true rfl) rfl rfl (by decide) (by decide) dX0_beginValues_5 (fun Mq5 hq => ?_)
  obtain ⟨hB0, hF0⟩ := hq
  have hC0 := CI_fr hC hB hB0 hF0
  have hL0 := j_L0 hB0
  have hp0 := j_keepP hB hF0 hpp
  refine z_iload_n C dX0_beginValues_8 rfl 2 rfl ?_
  refine z_istore (lv' := [(4, .int (nI fq)), (0, .ref ln), (1, .ref pp), (2, .int (nI fq)), (3, .int (nI tq))]) C dX0_beginValues_9 (by decide) rfl ?_
  refine z_fewer [0, 1, 2, 3, 4] rfl ?_
  refine z_kn (k' := 0 + (n - n) / 16) (n' := 0 + 2 * (n - n)) (by simp) (by simp) ?_
  exact lp_X0_bv C hok hro hin hft htq hbn.2.1 (fun c1 n1 vb1 Mz hc1 hn1 h1 h2 h3 => ret dX0_beginValues_50 ⟨h1, vb1, c1, n1, hc1, h2, h3⟩ (by have h9 := j_B_c h2; show _ ≤ 36; omega) (by have h9 := j_B_c h2; show _ ≤ 1168; omega)) (tq - fq) fq 0 n vb _ (by omega) (Nat.le_refl _) (by omega) hC0 hp0 hB0 (Nat.le_refl _) (j_L_eq hL0 (by rw [Nat.sub_self]; exact (rfl : [] = t_vs _ fq 0)))
