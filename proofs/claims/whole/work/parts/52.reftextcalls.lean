/-! PART 52: the reference's calls that answer a text -/
def RT9 (G : zG) (m pn td : Nat) (k : Int32) (u : sS) (Q : List Int32 → Prop) : Nat → zM → Prop := fun r Mz => (∃ K' tp', RI G u m k K' tp' pn td Mz) ∧ (k = 0 → ∃ ls, Q ls ∧ j_St G r Mz ls)
theorem j_sa {t : Nat} {u : sS} (hok : s_ok t u) {i : Nat} (hi : i < 6) : ∃ sq pq lq cq : Nat, p_sa (s_pn u i) = nI sq ∧ p_po (s_pn u i) = nI pq ∧ p_li (s_pn u i) = nI lq ∧ p_cp (s_pn u i) = nI cq ∧ pq ≤ lq ∧ lq ≤ cq ∧ cq ≤ 16 ∧ sq + cq ≤ s_ln u (p_ro (s_pn u i)) := by
  obtain ⟨a1, a2, a3, a4, a5, a6, a7⟩ := s_ow hok hi
  have h0 := z_cN a1
  have h1 := z_cN a2
  have h2 := z_cN (x := p_li (s_pn u i)) (by omega)
  have h3 := z_cN (x := p_cp (s_pn u i)) (by omega)
  exact ⟨_, _, _, _, h0.1, h1.1, h2.1, h3.1, by omega, by omega, by omega, by omega⟩
theorem j_wh (b s p : Nat) {x y : Int32} (hx : x = nI s) (hy : y = nI p) : (nI b + x) + y = nI (b + s + p) := by
  rw [hx, hy, j_add, j_add]
theorem j_val {t : Nat} {u : sS} (hok : s_ok t u) (ht : t ≤ 64) {ft : Nat → Int32} (hft : ∀ r, r < s_nr u → ∀ j, j < s_ln u r → ft (s_ba (s_ln u) r + j) = s_vl u r j) {r : Nat} (hr : r < s_nr u) {k : Nat} (h1 : s_ba (s_ln u) r ≤ k) (h2 : k < s_ba (s_ln u) r + s_ln u r) : vp_in (nI k) (s_ba (s_ln u) (s_nr u)) ∧ 0 ≤ (ft k).toInt := by
  have h3 := s_ba_lt (s_ln u) hr
  have h4 := s_ba_nt hok ht
  refine ⟨nI_in (by omega) (by omega), ?_⟩
  have e := hft r hr (k - s_ba (s_ln u) r) (by omega)
  rw [show s_ba (s_ln u) r + (k - s_ba (s_ln u) r) = k by omega] at e
  rw [e]
  exact s_v0 hok _ _
theorem dX5_row_0 : decode cX5_row 0 = .ok (.aload_n 0, 1) := by decide +kernel
theorem dX5_row_1 : decode cX5_row 1 = .ok (.iconst 0, 1) := by decide +kernel
theorem dX5_row_2 : decode cX5_row 2 = .ok (.putfield 33, 3) := by decide +kernel
theorem dX5_row_5 : decode cX5_row 5 = .ok (.aload_n 0, 1) := by decide +kernel
theorem dX5_row_6 : decode cX5_row 6 = .ok (.iconst 0, 1) := by decide +kernel
theorem dX5_row_7 : decode cX5_row 7 = .ok (.bipush 16, 2) := by decide +kernel
theorem dX5_row_9 : decode cX5_row 9 = .ok (.invokevirtual 125, 3) := by decide +kernel
theorem dX5_row_12 : decode cX5_row 12 = .ok (.areturn, 1) := by decide +kernel
theorem dX5_text_0 : decode cX5_text 0 = .ok (.aload_n 0, 1) := by decide +kernel
theorem dX5_text_1 : decode cX5_text 1 = .ok (.iload_n 1, 1) := by decide +kernel
theorem dX5_text_2 : decode cX5_text 2 = .ok (.invokestatic 55, 3) := by decide +kernel
theorem dX5_text_5 : decode cX5_text 5 = .ok (.iconst 1, 1) := by decide +kernel
theorem dX5_text_6 : decode cX5_text 6 = .ok (.invokevirtual 59, 3) := by decide +kernel
theorem dX5_text_9 : decode cX5_text 9 = .ok (.ifCond .eq 46, 3) := by decide +kernel
theorem dX5_text_12 : decode cX5_text 12 = .ok (.aload_n 0, 1) := by decide +kernel
theorem dX5_text_13 : decode cX5_text 13 = .ok (.aload_n 0, 1) := by decide +kernel
theorem dX5_text_14 : decode cX5_text 14 = .ok (.aload_n 0, 1) := by decide +kernel
theorem dX5_text_15 : decode cX5_text 15 = .ok (.getfield 18, 3) := by decide +kernel
theorem dX5_text_18 : decode cX5_text 18 = .ok (.iload_n 1, 1) := by decide +kernel
theorem dX5_text_19 : decode cX5_text 19 = .ok (.aaload, 1) := by decide +kernel
theorem dX5_text_20 : decode cX5_text 20 = .ok (.aload_n 0, 1) := by decide +kernel
theorem dX5_text_21 : decode cX5_text 21 = .ok (.getfield 18, 3) := by decide +kernel
theorem dX5_text_24 : decode cX5_text 24 = .ok (.iload_n 1, 1) := by decide +kernel
theorem dX5_text_25 : decode cX5_text 25 = .ok (.aaload, 1) := by decide +kernel
theorem dX5_text_26 : decode cX5_text 26 = .ok (.iconst 4, 1) := by decide +kernel
theorem dX5_text_27 : decode cX5_text 27 = .ok (.iaload, 1) := by decide +kernel
theorem dX5_text_28 : decode cX5_text 28 = .ok (.invokevirtual 51, 3) := by decide +kernel
theorem dX5_text_31 : decode cX5_text 31 = .ok (.aload_n 0, 1) := by decide +kernel
theorem dX5_text_32 : decode cX5_text 32 = .ok (.aload_n 0, 1) := by decide +kernel
theorem dX5_text_33 : decode cX5_text 33 = .ok (.getfield 18, 3) := by decide +kernel
theorem dX5_text_36 : decode cX5_text 36 = .ok (.iload_n 1, 1) := by decide +kernel
theorem dX5_text_37 : decode cX5_text 37 = .ok (.aaload, 1) := by decide +kernel
theorem dX5_text_38 : decode cX5_text 38 = .ok (.aload_n 0, 1) := by decide +kernel
theorem dX5_text_39 : decode cX5_text 39 = .ok (.getfield 18, 3) := by decide +kernel
theorem dX5_text_42 : decode cX5_text 42 = .ok (.iload_n 1, 1) := by decide +kernel
theorem dX5_text_43 : decode cX5_text 43 = .ok (.aaload, 1) := by decide +kernel
theorem dX5_text_44 : decode cX5_text 44 = .ok (.iconst 5, 1) := by decide +kernel
theorem dX5_text_45 : decode cX5_text 45 = .ok (.iaload, 1) := by decide +kernel
theorem dX5_text_46 : decode cX5_text 46 = .ok (.invokevirtual 51, 3) := by decide +kernel
theorem dX5_text_49 : decode cX5_text 49 = .ok (.invokevirtual 125, 3) := by decide +kernel
theorem dX5_text_52 : decode cX5_text 52 = .ok (.goto 5, 3) := by decide +kernel
theorem dX5_text_55 : decode cX5_text 55 = .ok (.ldc 104, 2) := by decide +kernel
theorem dX5_text_57 : decode cX5_text 57 = .ok (.areturn, 1) := by decide +kernel
set_option maxRecDepth 20000 in
theorem a_X5_row (l : Launch) {G : zG} {u : sS} {m : Nat} {th : Int32} {K : Nat → Nat} {tp pn td : Nat} {Mw : zM} (hR : RI G u m th K tp pn td Mw) {t : Nat} (hok : s_ok t u) (ht : t ≤ 64) : z_Mr l G qX5_row (z_rm 11 40 1500) [.ref m] Mw (RT9 G m pn td 0 u (fun ls => ls = t_row u))  := by
  refine z_Mr_of _ (plainFor_of_name rfl) rfl (by first | exact Or.inl ⟨_, rfl⟩ | exact Or.inr ⟨_, rfl⟩) (Nat.le_of_ble_eq_true rfl) (fun X hl hG hnm C ret => ?_)
  subst hl; subst hG
  have C : z_C X cX5_row RX5 1 (z_rm 11 40 1500) := C
  show z_W X Mw 0 0 0 [(0, .ref m)] []
  refine z_aload_n C dX5_row_0 rfl 0 rfl ?_
  refine z_iconst C (v := 0) dX5_row_1 (by decide) ?_
  refine pf_X5_33 C hR.1 dX5_row_2 ?_
  refine z_opq (fun Mb hWb => ?_)
  have hR0 : RI (z_G X) u m (0) K tp pn td Mb := by
    rw [hWb]
    exact RI_ak hR _ _ _
  clear hWb
  obtain ⟨ft0, htp0, hft0⟩ := RI_tpf hR0
  obtain ⟨fp0, hpn0, hfp0⟩ := RI_pnf hR0
  refine z_aload_n C dX5_row_5 rfl 0 rfl ?_
  refine z_iconst C (v := 0) dX5_row_6 (by decide) ?_
  refine z_bipush C (v := 16) dX5_row_7 (by decide) ?_
  refine z_callVr (rest := []) (k' := 40) (n' := 1500) C (a_X5_joined (z_l X) hR0 htp0 (fq := 0) (tq := 16) (fun k h1 h2 => j_val hok ht hft0 (r := 0) (by have := hok.1; omega) (by show 0 ≤ k; omega) (by show k < 0 + s_ln u 0; rw [hok.2.2.1]; omega)) (by omega) (by omega) (by omega)) (cs_X5_125 C (by decide)) hR0.1 rfl rfl rfl rfl (Nat.le_of_ble_eq_true rfl) rfl rfl (Nat.le_of_ble_eq_true rfl) (Nat.le_of_ble_eq_true rfl) dX5_row_9 (fun x9 Mq9 hq => ?_)
  obtain ⟨hSt, hR9⟩ := hq
  refine ret dX5_row_12 ?_ (by decide) (by decide)
  exact ⟨⟨_, _, hR9⟩, fun _ => ⟨_, t_row_r (by have := hok.1; omega) hok.2.2.1 hft0, hSt⟩⟩
set_option maxRecDepth 20000 in
theorem c_X5_text_bad (l : Launch) (G : zG) {M : zM} {m : Nat} {pane : Int32} {tp : Nat} {nr : Int32} {pn : Nat} {td : Nat} {ac : Int32} {kn : Int32} {th : Int32}  (h_m : M m = some (cMd tp nr pn td ac kn th)) (h_bad : z_is pane 0 5 = 0) : z_Mr l G qX5_text (z_rm 11 40 1500) [.ref m, .int pane] M (fun r M' => r = zK G 0 ∧ M' = z_up M m (cMd tp nr pn td ac kn (z_lt (z_is pane 0 5) 1)))  := by
  refine z_Mr_of _ (plainFor_of_name rfl) rfl (by first | exact Or.inl ⟨_, rfl⟩ | exact Or.inr ⟨_, rfl⟩) (Nat.le_of_ble_eq_true rfl) (fun X hl hG hnm C ret => ?_)
  subst hl; subst hG
  have C : z_C X cX5_text RX5 2 (z_rm 11 40 1500) := C
  show z_W X M 0 0 0 [(0, .ref m), (1, .int pane)] []
  refine z_aload_n C dX5_text_0 rfl 0 rfl ?_
  refine z_iload_n C dX5_text_1 rfl 1 rfl ?_
  refine z_callSi (rest := [.ref m]) (k' := 0) (n' := 0) C (c_X5_isPane (z_l X) (z_G X) ) (cs_X5_55 C (by decide)) rfl rfl (Nat.le_of_ble_eq_true rfl) rfl rfl (by decide) (by decide) dX5_text_2 (fun x2 M' hq => ?_)
  obtain ⟨rfl, rfl⟩ := hq
  refine z_iconst C (v := 1) dX5_text_5 (by decide) ?_
  refine z_callVi (rest := []) (k' := 0) (n' := 0) C (c_X5_isLet (z_l X) (z_G X) h_m) (cs_X5_59 C (by decide)) h_m rfl rfl rfl rfl (Nat.le_of_ble_eq_true rfl) rfl rfl (by decide) (by decide) dX5_text_6 (fun x6 M' hq => ?_)
  obtain ⟨rfl, rfl⟩ := hq
  refine z_if_eq C (tgt := 55) dX5_text_9 (by decide) (fun _ => ?_) (fun c9 => absurd (by simp [z_lr, z_lt, h_bad]) c9)
  refine z_ldcK (i := 0) C (by decide) rfl dX5_text_55 ?_
  exact ret dX5_text_57 (⟨rfl, rfl⟩) (by decide) (by decide)
set_option maxRecDepth 20000 in
theorem g_X5_text (l : Launch) {G : zG} {u : sS} {m : Nat} {th : Int32} {K : Nat → Nat} {tp pn td : Nat} {Mw : zM} (hR : RI G u m th K tp pn td Mw) {t : Nat} (hok : s_ok t u) (ht : t ≤ 64) {pane : Int32} (h_ok : z_is pane 0 5 = 1) (h_ip : vp_in pane 6) (hi : pane.toNatClampNeg < 6) : z_Mr l G qX5_text (z_rm 11 40 1500) [.ref m, .int pane] Mw (RT9 G m pn td (z_lt (z_is pane 0 5) 1) u (fun ls => ls = t_text u pane.toNatClampNeg))  := by
  obtain ⟨ft, htp, hft⟩ := RI_tpf hR
  obtain ⟨fp, hpn, hfp⟩ := RI_pnf hR
  obtain ⟨sq, pq, lq, cq, hsa, hpo, hli, hcp, g1, g2, g3, g4⟩ := j_sa hok hi
  have hrw := s_row hok hi
  have hnt := s_ba_nt hok ht
  have hbl := s_ba_lt (s_ln u) hrw
  refine z_Mr_of _ (plainFor_of_name rfl) rfl (by first | exact Or.inl ⟨_, rfl⟩ | exact Or.inr ⟨_, rfl⟩) (Nat.le_of_ble_eq_true rfl) (fun X hl hG hnm C ret => ?_)
  subst hl; subst hG
  have C : z_C X cX5_text RX5 2 (z_rm 11 40 1500) := C
  show z_W X Mw 0 0 0 [(0, .ref m), (1, .int pane)] []
  refine z_aload_n C dX5_text_0 rfl 0 rfl ?_
  refine z_iload_n C dX5_text_1 rfl 1 rfl ?_
  refine z_callSi (rest := [.ref m]) (k' := 0) (n' := 0) C (c_X5_isPane (z_l X) (z_G X) ) (cs_X5_55 C (by decide)) rfl rfl (Nat.le_of_ble_eq_true rfl) rfl rfl (by decide) (by decide) dX5_text_2 (fun x2 M' hq => ?_)
  obtain ⟨rfl, rfl⟩ := hq
  refine z_iconst C (v := 1) dX5_text_5 (by decide) ?_
  refine z_callVi (rest := []) (k' := 0) (n' := 0) C (c_X5_isLet (z_l X) (z_G X) hR.1) (cs_X5_59 C (by decide)) hR.1 rfl rfl rfl rfl (Nat.le_of_ble_eq_true rfl) rfl rfl (by decide) (by decide) dX5_text_6 (fun x6 M' hq => ?_)
  obtain ⟨rfl, rfl⟩ := hq
  refine z_if_eq C (tgt := 55) dX5_text_9 (by decide) (fun c9 => absurd c9 (by simp [z_lr, z_lt, h_ok])) (fun _ => ?_)
  refine z_opq (fun Mb hWb => ?_)
  have hR0 : RI (z_G X) u m (z_lt (z_is pane 0 5) 1) K tp pn td Mb := by
    rw [hWb]
    exact RI_ak hR _ _ _
  clear hWb
  obtain ⟨ft0, htp0, hft0⟩ := RI_tpf hR0
  obtain ⟨fp0, hpn0, hfp0⟩ := RI_pnf hR0
  refine z_aload_n C dX5_text_12 rfl 0 rfl ?_
  refine z_aload_n C dX5_text_13 rfl 0 rfl ?_
  refine z_aload_n C dX5_text_14 rfl 0 rfl ?_
  refine gf_X5_18 C hR0.1 dX5_text_15 ?_
  refine z_iload_n C dX5_text_18 rfl 1 rfl ?_
  refine z_aaldI (j := pane.toNatClampNeg) C hpn0 h_ip rfl (hfp0 _ hi) dX5_text_19 ?_
  refine z_aload_n C dX5_text_20 rfl 0 rfl ?_
  refine gf_X5_18 C hR0.1 dX5_text_21 ?_
  refine z_iload_n C dX5_text_24 rfl 1 rfl ?_
  refine z_aaldI (j := pane.toNatClampNeg) C hpn0 h_ip rfl (hfp0 _ hi) dX5_text_25 ?_
  refine z_iconst C (v := 4) dX5_text_26 (by decide) ?_
  refine z_pl4 C (RI_K hR0 hi) dX5_text_27 ?_
  refine z_callVi (rest := [.ref m]) (k' := 0) (n' := 0) C (c_X5_where (z_l X) (z_G X) (RI_K hR0 hi)) (cs_X5_51 C (by decide)) hR0.1 rfl rfl rfl rfl (Nat.le_of_ble_eq_true rfl) rfl rfl (by decide) (by decide) dX5_text_28 (fun x28 M' hq => ?_)
  obtain ⟨rfl, rfl⟩ := hq
  refine z_aload_n C dX5_text_31 rfl 0 rfl ?_
  refine z_aload_n C dX5_text_32 rfl 0 rfl ?_
  refine gf_X5_18 C hR0.1 dX5_text_33 ?_
  refine z_iload_n C dX5_text_36 rfl 1 rfl ?_
  refine z_aaldI (j := pane.toNatClampNeg) C hpn0 h_ip rfl (hfp0 _ hi) dX5_text_37 ?_
  refine z_aload_n C dX5_text_38 rfl 0 rfl ?_
  refine gf_X5_18 C hR0.1 dX5_text_39 ?_
  refine z_iload_n C dX5_text_42 rfl 1 rfl ?_
  refine z_aaldI (j := pane.toNatClampNeg) C hpn0 h_ip rfl (hfp0 _ hi) dX5_text_43 ?_
  refine z_iconst C (v := 5) dX5_text_44 (by decide) ?_
  refine z_pl5 C (RI_K hR0 hi) dX5_text_45 ?_
  refine z_callVi (rest := [.int (((nI (s_ba (s_ln u) (p_ro (s_pn u pane.toNatClampNeg)))) + (p_sa (s_pn u pane.toNatClampNeg))) + (p_po (s_pn u pane.toNatClampNeg))), .ref m]) (k' := 0) (n' := 0) C (c_X5_where (z_l X) (z_G X) (RI_K hR0 hi)) (cs_X5_51 C (by decide)) hR0.1 rfl rfl rfl rfl (Nat.le_of_ble_eq_true rfl) rfl rfl (by decide) (by decide) dX5_text_46 (fun x46 M' hq => ?_)
  obtain ⟨rfl, rfl⟩ := hq
  rw [j_wh _ sq pq hsa hpo, j_wh _ sq lq hsa hli]
  refine z_callVr (rest := []) (k' := 40) (n' := 1500) C (a_X5_joined (z_l X) hR0 htp0 (fq := (s_ba (s_ln u) (p_ro (s_pn u pane.toNatClampNeg)) + sq + pq)) (tq := (s_ba (s_ln u) (p_ro (s_pn u pane.toNatClampNeg)) + sq + lq)) (fun k h1 h2 => j_val hok ht hft0 hrw (by omega) (by omega)) (by omega) (by omega) (by omega)) (cs_X5_125 C (by decide)) hR0.1 rfl rfl rfl rfl (Nat.le_of_ble_eq_true rfl) rfl rfl (Nat.le_of_ble_eq_true rfl) (Nat.le_of_ble_eq_true rfl) dX5_text_49 (fun x49 Mq49 hq => ?_)
  obtain ⟨hSt, hR9⟩ := hq
  refine z_goto C (tgt := 57) dX5_text_52 (by decide) ?_
  refine ret dX5_text_57 ?_ (by decide) (by decide)
  exact ⟨⟨_, _, hR9⟩, fun _ => ⟨_, t_text_r hft0 hrw hsa hpo hli g1 g2 g3 g4 (by have := s_lnc hok (p_ro (s_pn u pane.toNatClampNeg)); omega), hSt⟩⟩
theorem a_X5_text (l : Launch) {G : zG} {u : sS} {m : Nat} {th : Int32} {K : Nat → Nat} {tp pn td : Nat} {Mw : zM} (hR : RI G u m th K tp pn td Mw) {t : Nat} (hok : s_ok t u) (ht : t ≤ 64) (pane : Int32) : z_Mr l G qX5_text (z_rm 11 40 1500) [.ref m, .int pane] Mw (RT9 G m pn td (z_lt (z_is pane 0 5) 1) u (fun ls => ls = t_text u pane.toNatClampNeg)) := by
  rcases z_pc pane with ⟨h_ok, h_ip, hi⟩ | ⟨h_bad, -⟩
  · exact g_X5_text l hR hok ht h_ok h_ip hi
  · refine z_Mr_mono (c_X5_text_bad l G hR.1 h_bad) ?_
    rintro r M' ⟨hr9, rfl⟩
    have e9 : z_lt (z_is pane 0 5) 1 = 1 := by rw [h_bad]; rfl
    exact ⟨⟨_, _, by first | exact RI_ak hR _ _ _ | (rw [e9]; exact RI_ak hR _ _ _) | (simp only [z_lt, h_bad]; exact RI_ak hR _ _ _)⟩, fun h => absurd (e9.symm.trans h) (by decide)⟩
