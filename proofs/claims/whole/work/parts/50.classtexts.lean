/-! PART 50: the class's calls that answer a text (the state is kept, what is written is not told) -/
def CR9 (G : zG) (x pa sp ln rf sb : Nat) (k : Int32) (u : sS) (ls : List Int32) : Nat → zM → Prop := fun r Mz => k = 0 ∧ (∃ P RA VA, CI G u x P RA VA pa sp ln rf sb Mz) ∧ j_St G r Mz ls
theorem dX3_total_0 : decode cX3_total 0 = .ok (.aload_n 0, 1) := by decide +kernel
theorem dX3_total_1 : decode cX3_total 1 = .ok (.iload_n 1, 1) := by decide +kernel
theorem dX3_total_2 : decode cX3_total 2 = .ok (.invokevirtual 49, 3) := by decide +kernel
theorem dX3_total_5 : decode cX3_total 5 = .ok (.astore_n 2, 1) := by decide +kernel
theorem dX3_total_6 : decode cX3_total 6 = .ok (.aload_n 0, 1) := by decide +kernel
theorem dX3_total_7 : decode cX3_total 7 = .ok (.getfield 34, 3) := by decide +kernel
theorem dX3_total_10 : decode cX3_total 10 = .ok (.aload_n 2, 1) := by decide +kernel
theorem dX3_total_11 : decode cX3_total 11 = .ok (.invokevirtual 161, 3) := by decide +kernel
theorem dX3_total_14 : decode cX3_total 14 = .ok (.aload_n 0, 1) := by decide +kernel
theorem dX3_total_15 : decode cX3_total 15 = .ok (.getfield 34, 3) := by decide +kernel
theorem dX3_total_18 : decode cX3_total 18 = .ok (.invokevirtual 164, 3) := by decide +kernel
theorem dX3_total_21 : decode cX3_total 21 = .ok (.areturn, 1) := by decide +kernel
theorem dX3_whole_0 : decode cX3_whole 0 = .ok (.aload_n 0, 1) := by decide +kernel
theorem dX3_whole_1 : decode cX3_whole 1 = .ok (.iload_n 1, 1) := by decide +kernel
theorem dX3_whole_2 : decode cX3_whole 2 = .ok (.invokevirtual 49, 3) := by decide +kernel
theorem dX3_whole_5 : decode cX3_whole 5 = .ok (.astore_n 2, 1) := by decide +kernel
theorem dX3_whole_6 : decode cX3_whole 6 = .ok (.aload_n 0, 1) := by decide +kernel
theorem dX3_whole_7 : decode cX3_whole 7 = .ok (.getfield 34, 3) := by decide +kernel
theorem dX3_whole_10 : decode cX3_whole 10 = .ok (.aload_n 2, 1) := by decide +kernel
theorem dX3_whole_11 : decode cX3_whole 11 = .ok (.invokevirtual 171, 3) := by decide +kernel
theorem dX3_whole_14 : decode cX3_whole 14 = .ok (.aload_n 0, 1) := by decide +kernel
theorem dX3_whole_15 : decode cX3_whole 15 = .ok (.getfield 34, 3) := by decide +kernel
theorem dX3_whole_18 : decode cX3_whole 18 = .ok (.invokevirtual 164, 3) := by decide +kernel
theorem dX3_whole_21 : decode cX3_whole 21 = .ok (.areturn, 1) := by decide +kernel
theorem dX3_text_0 : decode cX3_text 0 = .ok (.aload_n 0, 1) := by decide +kernel
theorem dX3_text_1 : decode cX3_text 1 = .ok (.iload_n 1, 1) := by decide +kernel
theorem dX3_text_2 : decode cX3_text 2 = .ok (.invokevirtual 49, 3) := by decide +kernel
theorem dX3_text_5 : decode cX3_text 5 = .ok (.astore_n 2, 1) := by decide +kernel
theorem dX3_text_6 : decode cX3_text 6 = .ok (.aload_n 0, 1) := by decide +kernel
theorem dX3_text_7 : decode cX3_text 7 = .ok (.getfield 34, 3) := by decide +kernel
theorem dX3_text_10 : decode cX3_text 10 = .ok (.aload_n 2, 1) := by decide +kernel
theorem dX3_text_11 : decode cX3_text 11 = .ok (.aload_n 2, 1) := by decide +kernel
theorem dX3_text_12 : decode cX3_text 12 = .ok (.getfield 60, 3) := by decide +kernel
theorem dX3_text_15 : decode cX3_text 15 = .ok (.aload_n 2, 1) := by decide +kernel
theorem dX3_text_16 : decode cX3_text 16 = .ok (.getfield 63, 3) := by decide +kernel
theorem dX3_text_19 : decode cX3_text 19 = .ok (.invokevirtual 168, 3) := by decide +kernel
theorem dX3_text_22 : decode cX3_text 22 = .ok (.aload_n 0, 1) := by decide +kernel
theorem dX3_text_23 : decode cX3_text 23 = .ok (.getfield 34, 3) := by decide +kernel
theorem dX3_text_26 : decode cX3_text 26 = .ok (.invokevirtual 164, 3) := by decide +kernel
theorem dX3_text_29 : decode cX3_text 29 = .ok (.areturn, 1) := by decide +kernel
theorem dX3_beginLongRow_0 : decode cX3_beginLongRow 0 = .ok (.aload_n 0, 1) := by decide +kernel
theorem dX3_beginLongRow_1 : decode cX3_beginLongRow 1 = .ok (.getfield 27, 3) := by decide +kernel
theorem dX3_beginLongRow_4 : decode cX3_beginLongRow 4 = .ok (.aload_n 0, 1) := by decide +kernel
theorem dX3_beginLongRow_5 : decode cX3_beginLongRow 5 = .ok (.getfield 14, 3) := by decide +kernel
theorem dX3_beginLongRow_8 : decode cX3_beginLongRow 8 = .ok (.invokevirtual 57, 3) := by decide +kernel
theorem dX3_beginLongRow_11 : decode cX3_beginLongRow 11 = .ok (.aload_n 0, 1) := by decide +kernel
theorem dX3_beginLongRow_12 : decode cX3_beginLongRow 12 = .ok (.getfield 34, 3) := by decide +kernel
theorem dX3_beginLongRow_15 : decode cX3_beginLongRow 15 = .ok (.aload_n 0, 1) := by decide +kernel
theorem dX3_beginLongRow_16 : decode cX3_beginLongRow 16 = .ok (.getfield 27, 3) := by decide +kernel
theorem dX3_beginLongRow_19 : decode cX3_beginLongRow 19 = .ok (.iconst 0, 1) := by decide +kernel
theorem dX3_beginLongRow_20 : decode cX3_beginLongRow 20 = .ok (.aload_n 0, 1) := by decide +kernel
theorem dX3_beginLongRow_21 : decode cX3_beginLongRow 21 = .ok (.getfield 27, 3) := by decide +kernel
theorem dX3_beginLongRow_24 : decode cX3_beginLongRow 24 = .ok (.getfield 63, 3) := by decide +kernel
theorem dX3_beginLongRow_27 : decode cX3_beginLongRow 27 = .ok (.invokevirtual 168, 3) := by decide +kernel
theorem dX3_beginLongRow_30 : decode cX3_beginLongRow 30 = .ok (.return_, 1) := by decide +kernel
theorem dX3_row_0 : decode cX3_row 0 = .ok (.aload_n 0, 1) := by decide +kernel
theorem dX3_row_1 : decode cX3_row 1 = .ok (.invokevirtual 174, 3) := by decide +kernel
theorem dX3_row_4 : decode cX3_row 4 = .ok (.aload_n 0, 1) := by decide +kernel
theorem dX3_row_5 : decode cX3_row 5 = .ok (.getfield 34, 3) := by decide +kernel
theorem dX3_row_8 : decode cX3_row 8 = .ok (.invokevirtual 164, 3) := by decide +kernel
theorem dX3_row_11 : decode cX3_row 11 = .ok (.areturn, 1) := by decide +kernel
set_option maxRecDepth 20000 in
theorem c_X3_total_bad (l : Launch) (G : zG) (h_st : l.stackTraces = false) {M : zM} {x : Nat} {pane : Int32} {lr : Nat} {pa : Nat} {sp : Nat} {ln : Nat} {rf : Nat} {ac : Int32} {kn : Int32} {fp : Nat → Option Nat}  (h_x : M x = some (cMp lr pa sp ln rf ac kn)) (h_pa : M pa = some (aP G 6 fp)) (h_ip : ¬ vp_in pane 6) : z_Xr l G qX3_total (z_rm 12 40 1500) [.ref x, .int pane] M (fun r M' => False) (fun E M' => ((pane < 0) ∧ E = "java/lang/IndexOutOfBoundsException" ∧ M' = M) ∨ ((¬ pane < 0) ∧ E = "java/lang/IndexOutOfBoundsException" ∧ M' = M)) := by
  refine z_Xr_of _ _ h_st rfl rfl (by first | exact Or.inl ⟨_, rfl⟩ | exact Or.inr ⟨_, rfl⟩) (Nat.le_of_ble_eq_true rfl) (fun X hl hG C ret thr prp => ?_)
  subst hl; subst hG
  have C : z_C X cX3_total RX3 3 (z_rm 12 40 1500) := C
  show z_W X M 0 0 0 [(0, .ref x), (1, .int pane)] []
  refine z_aload_n C dX3_total_0 rfl 0 rfl ?_
  refine z_iload_n C dX3_total_1 rfl 1 rfl ?_
  refine z_callXVr (rest := []) (k' := 1) (n' := 6) C (c_X3_paneOf_bad (z_l X) (z_G X) h_st h_x h_pa h_ip) (cs_X3_49 C (by decide)) h_x rfl rfl rfl rfl (Nat.le_of_ble_eq_true rfl) rfl rfl (by decide) (by decide) dX3_total_2 (fun E M' hq => ?_) (fun x2 M' hq => ?_)
  · obtain ⟨cx2_0, rfl, rfl⟩ | ⟨cx2_0, rfl, rfl⟩ := hq
    · exact prp (Or.inl ⟨cx2_0, rfl, rfl⟩) (by decide) (by decide)
    · exact prp (Or.inr (⟨cx2_0, rfl, rfl⟩)) (by decide) (by decide)
  · skip
    exact hq.elim
set_option maxRecDepth 20000 in
theorem g_X3_total (l : Launch) (h_st : l.stackTraces = false) {G : zG} {u : sS} {x : Nat} {P RA VA : Nat → Nat} {pa sp ln rf sb : Nat} {Mw : zM} (hC : CI G u x P RA VA pa sp ln rf sb Mw) {t : Nat} (hok : s_ok t u) {pane : Int32} (h_ok : z_is pane 0 5 = 1) (h_ip : vp_in pane 6) (hi : pane.toNatClampNeg < 6) : z_Xr l G qX3_total (z_rm 12 40 1500) [.ref x, .int pane] Mw (CR9 G x pa sp ln rf sb (z_lt (z_is pane 0 5) 1) u (t_total u pane.toNatClampNeg)) (CX G x pa sp ln rf sb (z_lt (z_is pane 0 5) 1) u) := by
  obtain ⟨fp, hpa, hfp⟩ := CI_pa hC
  obtain ⟨vb0, c0, n0, hBq⟩ := CI_B hC
  obtain ⟨pq, lq, cq, hpo, hli, hcp, g1, g2, h16⟩ := s_pq hok hi
  refine z_Xr_of _ _ h_st rfl rfl (by first | exact Or.inl ⟨_, rfl⟩ | exact Or.inr ⟨_, rfl⟩) (Nat.le_of_ble_eq_true rfl) (fun X hl hG C ret thr prp => ?_)
  subst hl; subst hG
  have C : z_C X cX3_total RX3 3 (z_rm 12 40 1500) := C
  show z_W X Mw 0 0 0 [(0, .ref x), (1, .int pane)] []
  refine z_aload_n C dX3_total_0 rfl 0 rfl ?_
  refine z_iload_n C dX3_total_1 rfl 1 rfl ?_
  refine z_callXVr (rest := []) (k' := 1) (n' := 6) C (c_X3_paneOf (z_l X) (z_G X) h_st hC.1 hpa (CI_P hC hi) h_ip rfl (hfp _ hi)) (cs_X3_49 C (by decide)) hC.1 rfl rfl rfl rfl (Nat.le_of_ble_eq_true rfl) rfl rfl (by decide) (by decide) dX3_total_2 (fun E M' hq => ?_) (fun x2 M' hq => ?_)
  · exact hq.elim
  · skip
    obtain ⟨rfl, rfl⟩ := hq
    refine z_astore_n (lv' := [(2, .ref (P pane.toNatClampNeg)), (0, .ref x), (1, .int pane)]) C dX3_total_5 rfl (by decide) rfl ?_
    refine z_aload_n C dX3_total_6 rfl 1 rfl ?_
    refine gf_X3_34 C hC.1 dX3_total_7 ?_
    refine z_aload_n C dX3_total_10 rfl 0 rfl ?_
    refine z_callVv (rest := []) (k' := 37) (n' := 1174) C (a_X0_beginTotal (z_l X) hC hok hBq hi) (cs_X3_161 C (by decide)) (CI_ln hC) rfl rfl rfl rfl (Nat.le_of_ble_eq_true rfl) rfl rfl (Nat.le_of_ble_eq_true rfl) (Nat.le_of_ble_eq_true rfl) dX3_total_11 (fun Mq11 hq => ?_)
    obtain ⟨hC1, vb1, c1, n1, hc1, hB1, hL1⟩ := hq
    refine z_aload_n C dX3_total_14 rfl 1 rfl ?_
    refine gf_X3_34 C hC1.1 dX3_total_15 ?_
    refine z_callVr (rest := []) (k' := 39) (n' := 1438) C (a_X0_written (z_l X) hC1 hok hB1 hL1 (by omega)) (cs_X3_164 C (by decide)) (CI_ln hC1) rfl rfl rfl rfl (Nat.le_of_ble_eq_true rfl) rfl rfl (Nat.le_of_ble_eq_true rfl) (Nat.le_of_ble_eq_true rfl) dX3_total_18 (fun x18 Mq18 hq => ?_)
    obtain ⟨hC2, hS2⟩ := hq
    refine ret dX3_total_21 ?_ (by decide) (by decide)
    exact ⟨z_lt3 h_ok rfl, ⟨_, _, _, hC2⟩, hS2⟩
theorem a_X3_total (l : Launch) (h_st : l.stackTraces = false) {G : zG} {u : sS} {x : Nat} {P RA VA : Nat → Nat} {pa sp ln rf sb : Nat} {Mw : zM} (hC : CI G u x P RA VA pa sp ln rf sb Mw) {t : Nat} (hok : s_ok t u) (pane : Int32) : z_Xr l G qX3_total (z_rm 12 40 1500) [.ref x, .int pane] Mw (CR9 G x pa sp ln rf sb (z_lt (z_is pane 0 5) 1) u (t_total u pane.toNatClampNeg)) (CX G x pa sp ln rf sb (z_lt (z_is pane 0 5) 1) u) := by
  obtain ⟨fp, hpa, hfp⟩ := CI_pa hC
  rcases z_pc pane with ⟨h_ok, h_ip, hi⟩ | ⟨h_bad, h_nip⟩
  · exact g_X3_total l h_st hC hok h_ok h_ip hi
  · refine z_Xr_mono (c_X3_total_bad l G h_st hC.1 hpa h_nip) (fun r M' h => h.elim) ?_
    rintro E M' (⟨x0_0, rfl, rfl⟩ | ⟨x1_0, rfl, rfl⟩)
    · exact CX_1 (k_1 h_bad) hC
    · exact CX_1 (k_1 h_bad) hC
set_option maxRecDepth 20000 in
theorem c_X3_whole_bad (l : Launch) (G : zG) (h_st : l.stackTraces = false) {M : zM} {x : Nat} {pane : Int32} {lr : Nat} {pa : Nat} {sp : Nat} {ln : Nat} {rf : Nat} {ac : Int32} {kn : Int32} {fp : Nat → Option Nat}  (h_x : M x = some (cMp lr pa sp ln rf ac kn)) (h_pa : M pa = some (aP G 6 fp)) (h_ip : ¬ vp_in pane 6) : z_Xr l G qX3_whole (z_rm 12 40 1500) [.ref x, .int pane] M (fun r M' => False) (fun E M' => ((pane < 0) ∧ E = "java/lang/IndexOutOfBoundsException" ∧ M' = M) ∨ ((¬ pane < 0) ∧ E = "java/lang/IndexOutOfBoundsException" ∧ M' = M)) := by
  refine z_Xr_of _ _ h_st rfl rfl (by first | exact Or.inl ⟨_, rfl⟩ | exact Or.inr ⟨_, rfl⟩) (Nat.le_of_ble_eq_true rfl) (fun X hl hG C ret thr prp => ?_)
  subst hl; subst hG
  have C : z_C X cX3_whole RX3 3 (z_rm 12 40 1500) := C
  show z_W X M 0 0 0 [(0, .ref x), (1, .int pane)] []
  refine z_aload_n C dX3_whole_0 rfl 0 rfl ?_
  refine z_iload_n C dX3_whole_1 rfl 1 rfl ?_
  refine z_callXVr (rest := []) (k' := 1) (n' := 6) C (c_X3_paneOf_bad (z_l X) (z_G X) h_st h_x h_pa h_ip) (cs_X3_49 C (by decide)) h_x rfl rfl rfl rfl (Nat.le_of_ble_eq_true rfl) rfl rfl (by decide) (by decide) dX3_whole_2 (fun E M' hq => ?_) (fun x2 M' hq => ?_)
  · obtain ⟨cx2_0, rfl, rfl⟩ | ⟨cx2_0, rfl, rfl⟩ := hq
    · exact prp (Or.inl ⟨cx2_0, rfl, rfl⟩) (by decide) (by decide)
    · exact prp (Or.inr (⟨cx2_0, rfl, rfl⟩)) (by decide) (by decide)
  · skip
    exact hq.elim
set_option maxRecDepth 20000 in
theorem g_X3_whole (l : Launch) (h_st : l.stackTraces = false) {G : zG} {u : sS} {x : Nat} {P RA VA : Nat → Nat} {pa sp ln rf sb : Nat} {Mw : zM} (hC : CI G u x P RA VA pa sp ln rf sb Mw) {t : Nat} (hok : s_ok t u) {pane : Int32} (h_ok : z_is pane 0 5 = 1) (h_ip : vp_in pane 6) (hi : pane.toNatClampNeg < 6) : z_Xr l G qX3_whole (z_rm 12 40 1500) [.ref x, .int pane] Mw (CR9 G x pa sp ln rf sb (z_lt (z_is pane 0 5) 1) u (t_whole u pane.toNatClampNeg)) (CX G x pa sp ln rf sb (z_lt (z_is pane 0 5) 1) u) := by
  obtain ⟨fp, hpa, hfp⟩ := CI_pa hC
  obtain ⟨vb0, c0, n0, hBq⟩ := CI_B hC
  obtain ⟨pq, lq, cq, hpo, hli, hcp, g1, g2, h16⟩ := s_pq hok hi
  refine z_Xr_of _ _ h_st rfl rfl (by first | exact Or.inl ⟨_, rfl⟩ | exact Or.inr ⟨_, rfl⟩) (Nat.le_of_ble_eq_true rfl) (fun X hl hG C ret thr prp => ?_)
  subst hl; subst hG
  have C : z_C X cX3_whole RX3 3 (z_rm 12 40 1500) := C
  show z_W X Mw 0 0 0 [(0, .ref x), (1, .int pane)] []
  refine z_aload_n C dX3_whole_0 rfl 0 rfl ?_
  refine z_iload_n C dX3_whole_1 rfl 1 rfl ?_
  refine z_callXVr (rest := []) (k' := 1) (n' := 6) C (c_X3_paneOf (z_l X) (z_G X) h_st hC.1 hpa (CI_P hC hi) h_ip rfl (hfp _ hi)) (cs_X3_49 C (by decide)) hC.1 rfl rfl rfl rfl (Nat.le_of_ble_eq_true rfl) rfl rfl (by decide) (by decide) dX3_whole_2 (fun E M' hq => ?_) (fun x2 M' hq => ?_)
  · exact hq.elim
  · skip
    obtain ⟨rfl, rfl⟩ := hq
    refine z_astore_n (lv' := [(2, .ref (P pane.toNatClampNeg)), (0, .ref x), (1, .int pane)]) C dX3_whole_5 rfl (by decide) rfl ?_
    refine z_aload_n C dX3_whole_6 rfl 1 rfl ?_
    refine gf_X3_34 C hC.1 dX3_whole_7 ?_
    refine z_aload_n C dX3_whole_10 rfl 0 rfl ?_
    refine z_callVv (rest := []) (k' := 37) (n' := 1174) C (a_X0_beginWhole (z_l X) hC hok hBq hi) (cs_X3_171 C (by decide)) (CI_ln hC) rfl rfl rfl rfl (Nat.le_of_ble_eq_true rfl) rfl rfl (Nat.le_of_ble_eq_true rfl) (Nat.le_of_ble_eq_true rfl) dX3_whole_11 (fun Mq11 hq => ?_)
    obtain ⟨hC1, vb1, c1, n1, hc1, hB1, hL1⟩ := hq
    refine z_aload_n C dX3_whole_14 rfl 1 rfl ?_
    refine gf_X3_34 C hC1.1 dX3_whole_15 ?_
    refine z_callVr (rest := []) (k' := 39) (n' := 1438) C (a_X0_written (z_l X) hC1 hok hB1 hL1 (by omega)) (cs_X3_164 C (by decide)) (CI_ln hC1) rfl rfl rfl rfl (Nat.le_of_ble_eq_true rfl) rfl rfl (Nat.le_of_ble_eq_true rfl) (Nat.le_of_ble_eq_true rfl) dX3_whole_18 (fun x18 Mq18 hq => ?_)
    obtain ⟨hC2, hS2⟩ := hq
    refine ret dX3_whole_21 ?_ (by decide) (by decide)
    exact ⟨z_lt3 h_ok rfl, ⟨_, _, _, hC2⟩, hS2⟩
theorem a_X3_whole (l : Launch) (h_st : l.stackTraces = false) {G : zG} {u : sS} {x : Nat} {P RA VA : Nat → Nat} {pa sp ln rf sb : Nat} {Mw : zM} (hC : CI G u x P RA VA pa sp ln rf sb Mw) {t : Nat} (hok : s_ok t u) (pane : Int32) : z_Xr l G qX3_whole (z_rm 12 40 1500) [.ref x, .int pane] Mw (CR9 G x pa sp ln rf sb (z_lt (z_is pane 0 5) 1) u (t_whole u pane.toNatClampNeg)) (CX G x pa sp ln rf sb (z_lt (z_is pane 0 5) 1) u) := by
  obtain ⟨fp, hpa, hfp⟩ := CI_pa hC
  rcases z_pc pane with ⟨h_ok, h_ip, hi⟩ | ⟨h_bad, h_nip⟩
  · exact g_X3_whole l h_st hC hok h_ok h_ip hi
  · refine z_Xr_mono (c_X3_whole_bad l G h_st hC.1 hpa h_nip) (fun r M' h => h.elim) ?_
    rintro E M' (⟨x0_0, rfl, rfl⟩ | ⟨x1_0, rfl, rfl⟩)
    · exact CX_1 (k_1 h_bad) hC
    · exact CX_1 (k_1 h_bad) hC
set_option maxRecDepth 20000 in
theorem c_X3_text_bad (l : Launch) (G : zG) (h_st : l.stackTraces = false) {M : zM} {x : Nat} {pane : Int32} {lr : Nat} {pa : Nat} {sp : Nat} {ln : Nat} {rf : Nat} {ac : Int32} {kn : Int32} {fp : Nat → Option Nat}  (h_x : M x = some (cMp lr pa sp ln rf ac kn)) (h_pa : M pa = some (aP G 6 fp)) (h_ip : ¬ vp_in pane 6) : z_Xr l G qX3_text (z_rm 12 40 1500) [.ref x, .int pane] M (fun r M' => False) (fun E M' => ((pane < 0) ∧ E = "java/lang/IndexOutOfBoundsException" ∧ M' = M) ∨ ((¬ pane < 0) ∧ E = "java/lang/IndexOutOfBoundsException" ∧ M' = M)) := by
  refine z_Xr_of _ _ h_st rfl rfl (by first | exact Or.inl ⟨_, rfl⟩ | exact Or.inr ⟨_, rfl⟩) (Nat.le_of_ble_eq_true rfl) (fun X hl hG C ret thr prp => ?_)
  subst hl; subst hG
  have C : z_C X cX3_text RX3 3 (z_rm 12 40 1500) := C
  show z_W X M 0 0 0 [(0, .ref x), (1, .int pane)] []
  refine z_aload_n C dX3_text_0 rfl 0 rfl ?_
  refine z_iload_n C dX3_text_1 rfl 1 rfl ?_
  refine z_callXVr (rest := []) (k' := 1) (n' := 6) C (c_X3_paneOf_bad (z_l X) (z_G X) h_st h_x h_pa h_ip) (cs_X3_49 C (by decide)) h_x rfl rfl rfl rfl (Nat.le_of_ble_eq_true rfl) rfl rfl (by decide) (by decide) dX3_text_2 (fun E M' hq => ?_) (fun x2 M' hq => ?_)
  · obtain ⟨cx2_0, rfl, rfl⟩ | ⟨cx2_0, rfl, rfl⟩ := hq
    · exact prp (Or.inl ⟨cx2_0, rfl, rfl⟩) (by decide) (by decide)
    · exact prp (Or.inr (⟨cx2_0, rfl, rfl⟩)) (by decide) (by decide)
  · skip
    exact hq.elim
set_option maxRecDepth 20000 in
theorem g_X3_text (l : Launch) (h_st : l.stackTraces = false) {G : zG} {u : sS} {x : Nat} {P RA VA : Nat → Nat} {pa sp ln rf sb : Nat} {Mw : zM} (hC : CI G u x P RA VA pa sp ln rf sb Mw) {t : Nat} (hok : s_ok t u) {pane : Int32} (h_ok : z_is pane 0 5 = 1) (h_ip : vp_in pane 6) (hi : pane.toNatClampNeg < 6) : z_Xr l G qX3_text (z_rm 12 40 1500) [.ref x, .int pane] Mw (CR9 G x pa sp ln rf sb (z_lt (z_is pane 0 5) 1) u (t_text u pane.toNatClampNeg)) (CX G x pa sp ln rf sb (z_lt (z_is pane 0 5) 1) u) := by
  obtain ⟨fp, hpa, hfp⟩ := CI_pa hC
  obtain ⟨vb0, c0, n0, hBq⟩ := CI_B hC
  obtain ⟨pq, lq, cq, hpo, hli, hcp, g1, g2, h16⟩ := s_pq hok hi
  refine z_Xr_of _ _ h_st rfl rfl (by first | exact Or.inl ⟨_, rfl⟩ | exact Or.inr ⟨_, rfl⟩) (Nat.le_of_ble_eq_true rfl) (fun X hl hG C ret thr prp => ?_)
  subst hl; subst hG
  have C : z_C X cX3_text RX3 3 (z_rm 12 40 1500) := C
  show z_W X Mw 0 0 0 [(0, .ref x), (1, .int pane)] []
  refine z_aload_n C dX3_text_0 rfl 0 rfl ?_
  refine z_iload_n C dX3_text_1 rfl 1 rfl ?_
  refine z_callXVr (rest := []) (k' := 1) (n' := 6) C (c_X3_paneOf (z_l X) (z_G X) h_st hC.1 hpa (CI_P hC hi) h_ip rfl (hfp _ hi)) (cs_X3_49 C (by decide)) hC.1 rfl rfl rfl rfl (Nat.le_of_ble_eq_true rfl) rfl rfl (by decide) (by decide) dX3_text_2 (fun E M' hq => ?_) (fun x2 M' hq => ?_)
  · exact hq.elim
  · skip
    obtain ⟨rfl, rfl⟩ := hq
    refine z_astore_n (lv' := [(2, .ref (P pane.toNatClampNeg)), (0, .ref x), (1, .int pane)]) C dX3_text_5 rfl (by decide) rfl ?_
    refine z_aload_n C dX3_text_6 rfl 1 rfl ?_
    refine gf_X3_34 C hC.1 dX3_text_7 ?_
    refine z_aload_n C dX3_text_10 rfl 0 rfl ?_
    refine z_aload_n C dX3_text_11 rfl 0 rfl ?_
    refine gf_X3_60 C (CI_P hC hi) dX3_text_12 ?_
    refine z_aload_n C dX3_text_15 rfl 0 rfl ?_
    refine gf_X3_63 C (CI_P hC hi) dX3_text_16 ?_
    rw [hpo, hli]
    refine z_callVv (rest := []) (k' := 37) (n' := 1174) C (a_X0_beginValues (z_l X) hC hok hBq (CI_P hC hi) (s_row hok hi) (fun j _ hj => s_inJ hok hi hcp (by omega) h16) (by omega) (by omega) g1) (cs_X3_168 C (by decide)) (CI_ln hC) rfl rfl rfl rfl (Nat.le_of_ble_eq_true rfl) rfl rfl (Nat.le_of_ble_eq_true rfl) (Nat.le_of_ble_eq_true rfl) dX3_text_19 (fun Mq19 hq => ?_)
    obtain ⟨hC1, vb1, c1, n1, hc1, hB1, hL1⟩ := hq
    refine z_aload_n C dX3_text_22 rfl 1 rfl ?_
    refine gf_X3_34 C hC1.1 dX3_text_23 ?_
    refine z_callVr (rest := []) (k' := 39) (n' := 1438) C (a_X0_written (z_l X) hC1 hok hB1 hL1 (by omega)) (cs_X3_164 C (by decide)) (CI_ln hC1) rfl rfl rfl rfl (Nat.le_of_ble_eq_true rfl) rfl rfl (Nat.le_of_ble_eq_true rfl) (Nat.le_of_ble_eq_true rfl) dX3_text_26 (fun x26 Mq26 hq => ?_)
    obtain ⟨hC2, hS2⟩ := hq
    refine ret dX3_text_29 ?_ (by decide) (by decide)
    exact ⟨z_lt3 h_ok rfl, ⟨_, _, _, hC2⟩, j_St_eq hS2 (t_tx9 hpo hli g1 (by omega))⟩
theorem a_X3_text (l : Launch) (h_st : l.stackTraces = false) {G : zG} {u : sS} {x : Nat} {P RA VA : Nat → Nat} {pa sp ln rf sb : Nat} {Mw : zM} (hC : CI G u x P RA VA pa sp ln rf sb Mw) {t : Nat} (hok : s_ok t u) (pane : Int32) : z_Xr l G qX3_text (z_rm 12 40 1500) [.ref x, .int pane] Mw (CR9 G x pa sp ln rf sb (z_lt (z_is pane 0 5) 1) u (t_text u pane.toNatClampNeg)) (CX G x pa sp ln rf sb (z_lt (z_is pane 0 5) 1) u) := by
  obtain ⟨fp, hpa, hfp⟩ := CI_pa hC
  rcases z_pc pane with ⟨h_ok, h_ip, hi⟩ | ⟨h_bad, h_nip⟩
  · exact g_X3_text l h_st hC hok h_ok h_ip hi
  · refine z_Xr_mono (c_X3_text_bad l G h_st hC.1 hpa h_nip) (fun r M' h => h.elim) ?_
    rintro E M' (⟨x0_0, rfl, rfl⟩ | ⟨x1_0, rfl, rfl⟩)
    · exact CX_1 (k_1 h_bad) hC
    · exact CX_1 (k_1 h_bad) hC
set_option maxRecDepth 20000 in
theorem a_X3_beginLongRow (l : Launch) {G : zG} {u : sS} {x : Nat} {P RA VA : Nat → Nat} {pa sp ln rf sb : Nat} {Mw : zM} (hC : CI G u x P RA VA pa sp ln rf sb Mw) {t : Nat} (hok : s_ok t u) : z_Mv l G qX3_beginLongRow (z_rm 11 36 1168) [.ref x] Mw (fun Mz => CI G u x P RA VA pa sp ln rf sb Mz ∧ ∃ vb' c' n', c' ≤ 192 ∧ j_B G Mz sb vb' c' n' ∧ j_L Mz vb' c' (t_row u))  := by
  obtain ⟨o9, p9, hsp⟩ := CI_sp' hC
  refine z_Mv_of _ (plainFor_of_name rfl) rfl (Nat.le_of_ble_eq_true rfl) (fun X hl hG hnm C ret => ?_)
  subst hl; subst hG
  have C : z_C X cX3_beginLongRow RX3 1 (z_rm 11 36 1168) := C
  show z_W X Mw 0 0 0 [(0, .ref x)] []
  refine z_aload_n C dX3_beginLongRow_0 rfl 0 rfl ?_
  refine gf_X3_27 C hC.1 dX3_beginLongRow_1 ?_
  refine z_aload_n C dX3_beginLongRow_4 rfl 0 rfl ?_
  refine gf_X3_14 C hC.1 dX3_beginLongRow_5 ?_
  refine z_callVv (rest := []) (k' := 0) (n' := 0) C (c_X1_showAll (z_l X) (z_G X) hsp (CI_RA hC (by have := hok.1; omega)) (CI_VA hC (by have := hok.1; omega))) (cs_X3_57 C (by decide)) hsp rfl rfl rfl rfl (Nat.le_of_ble_eq_true rfl) rfl rfl (by decide) (by decide) dX3_beginLongRow_8 (fun Mq8 hq => ?_)
  have hC1 : CI (z_G X) u x P RA VA pa sp ln rf sb Mq8 := by
    rw [hq]
    exact CI_sp hC (RA 0) ((0, 0, Int32.ofNat (s_ln u 0), 0, Int32.ofNat (s_ln u 0), -1, 0) : sP)
  have hs1 : Mq8 sp = some (cPn (RA 0) 0 (Int32.ofNat (s_ln u 0)) 0 (Int32.ofNat (s_ln u 0)) (-1) 0) := by
    rw [hq]
    exact z_up_s _ _ _
  obtain ⟨vb0, c0, n0, hBq⟩ := CI_B hC1
  refine z_aload_n C dX3_beginLongRow_11 rfl 0 rfl ?_
  refine gf_X3_34 C hC1.1 dX3_beginLongRow_12 ?_
  refine z_aload_n C dX3_beginLongRow_15 rfl 0 rfl ?_
  refine gf_X3_27 C hC1.1 dX3_beginLongRow_16 ?_
  refine z_iconst C (v := 0) dX3_beginLongRow_19 (by decide) ?_
  refine z_aload_n C dX3_beginLongRow_20 rfl 0 rfl ?_
  refine gf_X3_27 C hC1.1 dX3_beginLongRow_21 ?_
  refine gf_X3_63 C hs1 dX3_beginLongRow_24 ?_
  rw [show s_ln u 0 = 16 from hok.2.2.1] at hs1 ⊢
  refine z_callVv (rest := []) (k' := 36) (n' := 1168) C (a_X0_beginValues (z_l X) hC1 hok hBq (fq := 0) (tq := 16) (p9 := ((0, 0, Int32.ofNat 16, 0, Int32.ofNat 16, -1, 0) : sP)) hs1 (show 0 < s_nr u by have := hok.1; omega) (fun j _ hj => (show vp_in (0 + nI j) (s_ln u 0) by rw [hok.2.2.1, Int32.zero_add]; exact nI_in hj (by decide))) (by decide) (by decide) (by decide)) (cs_X3_168 C (by decide)) (CI_ln hC1) rfl rfl rfl rfl (Nat.le_of_ble_eq_true rfl) rfl rfl (Nat.le_of_ble_eq_true rfl) (Nat.le_of_ble_eq_true rfl) dX3_beginLongRow_27 (fun Mq27 hq => ?_)
  obtain ⟨hC2, vb1, c1, n1, hc1, hB1, hL1⟩ := hq
  refine ret dX3_beginLongRow_30 ?_ (by decide) (by decide)
  exact ⟨hC2, vb1, c1, n1, hc1, hB1, j_L_eq hL1 t_row_c⟩
set_option maxRecDepth 20000 in
theorem a_X3_row (l : Launch) {G : zG} {u : sS} {x : Nat} {P RA VA : Nat → Nat} {pa sp ln rf sb : Nat} {Mw : zM} (hC : CI G u x P RA VA pa sp ln rf sb Mw) {t : Nat} (hok : s_ok t u) : z_Mr l G qX3_row (z_rm 12 40 1500) [.ref x] Mw (fun r Mz => CI G u x P RA VA pa sp ln rf sb Mz ∧ j_St G r Mz (t_row u))  := by
  refine z_Mr_of _ (plainFor_of_name rfl) rfl (by first | exact Or.inl ⟨_, rfl⟩ | exact Or.inr ⟨_, rfl⟩) (Nat.le_of_ble_eq_true rfl) (fun X hl hG hnm C ret => ?_)
  subst hl; subst hG
  have C : z_C X cX3_row RX3 1 (z_rm 12 40 1500) := C
  show z_W X Mw 0 0 0 [(0, .ref x)] []
  refine z_aload_n C dX3_row_0 rfl 0 rfl ?_
  refine z_callVv (rest := []) (k' := 36) (n' := 1168) C (a_X3_beginLongRow (z_l X) hC hok) (cs_X3_174 C (by decide)) hC.1 rfl rfl rfl rfl (Nat.le_of_ble_eq_true rfl) rfl rfl (Nat.le_of_ble_eq_true rfl) (Nat.le_of_ble_eq_true rfl) dX3_row_1 (fun Mq1 hq => ?_)
  obtain ⟨hC1, vb1, c1, n1, hc1, hB1, hL1⟩ := hq
  refine z_aload_n C dX3_row_4 rfl 0 rfl ?_
  refine gf_X3_34 C hC1.1 dX3_row_5 ?_
  refine z_callVr (rest := []) (k' := 38) (n' := 1432) C (a_X0_written (z_l X) hC1 hok hB1 hL1 (by omega)) (cs_X3_164 C (by decide)) (CI_ln hC1) rfl rfl rfl rfl (Nat.le_of_ble_eq_true rfl) rfl rfl (Nat.le_of_ble_eq_true rfl) (Nat.le_of_ble_eq_true rfl) dX3_row_8 (fun x8 Mq8 hq => ?_)
  obtain ⟨hC2, hS2⟩ := hq
  refine ret dX3_row_11 ?_ (by decide) (by decide)
  exact ⟨hC2, hS2⟩
