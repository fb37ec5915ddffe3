theorem dX3_setPane_0 : decode cX3_setPane 0 = .ok (.iload_n 1, 1) := by decide +kernel
theorem dX3_setPane_1 : decode cX3_setPane 1 = .ok (.ifCond .lt 19, 3) := by decide +kernel
theorem dX3_setPane_4 : decode cX3_setPane 4 = .ok (.iload_n 1, 1) := by decide +kernel
theorem dX3_setPane_5 : decode cX3_setPane 5 = .ok (.aload_n 0, 1) := by decide +kernel
theorem dX3_setPane_6 : decode cX3_setPane 6 = .ok (.getfield 20, 3) := by decide +kernel
theorem dX3_setPane_9 : decode cX3_setPane 9 = .ok (.arraylength, 1) := by decide +kernel
theorem dX3_setPane_10 : decode cX3_setPane 10 = .ok (.if_icmp .ge 10, 3) := by decide +kernel
theorem dX3_setPane_13 : decode cX3_setPane 13 = .ok (.aload_n 0, 1) := by decide +kernel
theorem dX3_setPane_14 : decode cX3_setPane 14 = .ok (.getfield 20, 3) := by decide +kernel
theorem dX3_setPane_17 : decode cX3_setPane 17 = .ok (.iload_n 1, 1) := by decide +kernel
theorem dX3_setPane_18 : decode cX3_setPane 18 = .ok (.aload_n 2, 1) := by decide +kernel
theorem dX3_setPane_19 : decode cX3_setPane 19 = .ok (.aastore, 1) := by decide +kernel
theorem dX3_setPane_20 : decode cX3_setPane 20 = .ok (.return_, 1) := by decide +kernel
theorem dX3_twin_0 : decode cX3_twin 0 = .ok (.aload_n 0, 1) := by decide +kernel
theorem dX3_twin_1 : decode cX3_twin 1 = .ok (.iload_n 1, 1) := by decide +kernel
theorem dX3_twin_2 : decode cX3_twin 2 = .ok (.invokevirtual 49, 3) := by decide +kernel
theorem dX3_twin_5 : decode cX3_twin 5 = .ok (.astore_n 3, 1) := by decide +kernel
theorem dX3_twin_6 : decode cX3_twin 6 = .ok (.aload_n 0, 1) := by decide +kernel
theorem dX3_twin_7 : decode cX3_twin 7 = .ok (.iload_n 2, 1) := by decide +kernel
theorem dX3_twin_8 : decode cX3_twin 8 = .ok (.invokevirtual 49, 3) := by decide +kernel
theorem dX3_twin_11 : decode cX3_twin 11 = .ok (.astore 4, 2) := by decide +kernel
theorem dX3_twin_13 : decode cX3_twin 13 = .ok (.aload_n 3, 1) := by decide +kernel
theorem dX3_twin_14 : decode cX3_twin 14 = .ok (.aload 4, 2) := by decide +kernel
theorem dX3_twin_16 : decode cX3_twin 16 = .ok (.invokevirtual 70, 3) := by decide +kernel
theorem dX3_twin_19 : decode cX3_twin 19 = .ok (.aload_n 0, 1) := by decide +kernel
theorem dX3_twin_20 : decode cX3_twin 20 = .ok (.aload_n 3, 1) := by decide +kernel
theorem dX3_twin_21 : decode cX3_twin 21 = .ok (.invokevirtual 74, 3) := by decide +kernel
theorem dX3_twin_24 : decode cX3_twin 24 = .ok (.invokevirtual 66, 3) := by decide +kernel
theorem dX3_twin_27 : decode cX3_twin 27 = .ok (.ireturn, 1) := by decide +kernel
theorem dX3_reader_0 : decode cX3_reader 0 = .ok (.aload_n 0, 1) := by decide +kernel
theorem dX3_reader_1 : decode cX3_reader 1 = .ok (.iload_n 1, 1) := by decide +kernel
theorem dX3_reader_2 : decode cX3_reader 2 = .ok (.invokevirtual 49, 3) := by decide +kernel
theorem dX3_reader_5 : decode cX3_reader 5 = .ok (.astore_n 3, 1) := by decide +kernel
theorem dX3_reader_6 : decode cX3_reader 6 = .ok (.aload_n 0, 1) := by decide +kernel
theorem dX3_reader_7 : decode cX3_reader 7 = .ok (.iload_n 2, 1) := by decide +kernel
theorem dX3_reader_8 : decode cX3_reader 8 = .ok (.invokevirtual 49, 3) := by decide +kernel
theorem dX3_reader_11 : decode cX3_reader 11 = .ok (.astore 4, 2) := by decide +kernel
theorem dX3_reader_13 : decode cX3_reader 13 = .ok (.aload_n 3, 1) := by decide +kernel
theorem dX3_reader_14 : decode cX3_reader 14 = .ok (.aload 4, 2) := by decide +kernel
theorem dX3_reader_16 : decode cX3_reader 16 = .ok (.invokevirtual 70, 3) := by decide +kernel
theorem dX3_reader_19 : decode cX3_reader 19 = .ok (.aload_n 3, 1) := by decide +kernel
theorem dX3_reader_20 : decode cX3_reader 20 = .ok (.iconst 1, 1) := by decide +kernel
theorem dX3_reader_21 : decode cX3_reader 21 = .ok (.putfield 89, 3) := by decide +kernel
theorem dX3_reader_24 : decode cX3_reader 24 = .ok (.aload_n 0, 1) := by decide +kernel
theorem dX3_reader_25 : decode cX3_reader 25 = .ok (.aload_n 3, 1) := by decide +kernel
theorem dX3_reader_26 : decode cX3_reader 26 = .ok (.invokevirtual 74, 3) := by decide +kernel
theorem dX3_reader_29 : decode cX3_reader 29 = .ok (.invokevirtual 66, 3) := by decide +kernel
theorem dX3_reader_32 : decode cX3_reader 32 = .ok (.ireturn, 1) := by decide +kernel
theorem dX3_rest_0 : decode cX3_rest 0 = .ok (.aload_n 0, 1) := by decide +kernel
theorem dX3_rest_1 : decode cX3_rest 1 = .ok (.iload_n 1, 1) := by decide +kernel
theorem dX3_rest_2 : decode cX3_rest 2 = .ok (.invokevirtual 49, 3) := by decide +kernel
theorem dX3_rest_5 : decode cX3_rest 5 = .ok (.astore_n 3, 1) := by decide +kernel
theorem dX3_rest_6 : decode cX3_rest 6 = .ok (.aload_n 0, 1) := by decide +kernel
theorem dX3_rest_7 : decode cX3_rest 7 = .ok (.iload_n 2, 1) := by decide +kernel
theorem dX3_rest_8 : decode cX3_rest 8 = .ok (.invokevirtual 49, 3) := by decide +kernel
theorem dX3_rest_11 : decode cX3_rest 11 = .ok (.astore 4, 2) := by decide +kernel
theorem dX3_rest_13 : decode cX3_rest 13 = .ok (.aload_n 3, 1) := by decide +kernel
theorem dX3_rest_14 : decode cX3_rest 14 = .ok (.aload 4, 2) := by decide +kernel
theorem dX3_rest_16 : decode cX3_rest 16 = .ok (.aload 4, 2) := by decide +kernel
theorem dX3_rest_18 : decode cX3_rest 18 = .ok (.getfield 60, 3) := by decide +kernel
theorem dX3_rest_21 : decode cX3_rest 21 = .ok (.aload 4, 2) := by decide +kernel
theorem dX3_rest_23 : decode cX3_rest 23 = .ok (.invokevirtual 74, 3) := by decide +kernel
theorem dX3_rest_26 : decode cX3_rest 26 = .ok (.invokevirtual 78, 3) := by decide +kernel
theorem dX3_rest_29 : decode cX3_rest 29 = .ok (.aload_n 0, 1) := by decide +kernel
theorem dX3_rest_30 : decode cX3_rest 30 = .ok (.aload_n 3, 1) := by decide +kernel
theorem dX3_rest_31 : decode cX3_rest 31 = .ok (.getfield 63, 3) := by decide +kernel
theorem dX3_rest_34 : decode cX3_rest 34 = .ok (.invokevirtual 66, 3) := by decide +kernel
theorem dX3_rest_37 : decode cX3_rest 37 = .ok (.ireturn, 1) := by decide +kernel
theorem dX3_part_0 : decode cX3_part 0 = .ok (.aload_n 0, 1) := by decide +kernel
theorem dX3_part_1 : decode cX3_part 1 = .ok (.iload_n 1, 1) := by decide +kernel
theorem dX3_part_2 : decode cX3_part 2 = .ok (.invokevirtual 49, 3) := by decide +kernel
theorem dX3_part_5 : decode cX3_part 5 = .ok (.astore 5, 2) := by decide +kernel
theorem dX3_part_7 : decode cX3_part 7 = .ok (.aload_n 0, 1) := by decide +kernel
theorem dX3_part_8 : decode cX3_part 8 = .ok (.iload_n 2, 1) := by decide +kernel
theorem dX3_part_9 : decode cX3_part 9 = .ok (.invokevirtual 49, 3) := by decide +kernel
theorem dX3_part_12 : decode cX3_part 12 = .ok (.astore 6, 2) := by decide +kernel
theorem dX3_part_14 : decode cX3_part 14 = .ok (.iload_n 3, 1) := by decide +kernel
theorem dX3_part_15 : decode cX3_part 15 = .ok (.iconst 0, 1) := by decide +kernel
theorem dX3_part_16 : decode cX3_part 16 = .ok (.aload 6, 2) := by decide +kernel
theorem dX3_part_18 : decode cX3_part 18 = .ok (.getfield 63, 3) := by decide +kernel
theorem dX3_part_21 : decode cX3_part 21 = .ok (.invokestatic 82, 3) := by decide +kernel
theorem dX3_part_24 : decode cX3_part 24 = .ok (.ifCond .eq 19, 3) := by decide +kernel
theorem dX3_part_27 : decode cX3_part 27 = .ok (.iload 4, 2) := by decide +kernel
theorem dX3_part_29 : decode cX3_part 29 = .ok (.iconst 0, 1) := by decide +kernel
theorem dX3_part_30 : decode cX3_part 30 = .ok (.aload 6, 2) := by decide +kernel
theorem dX3_part_32 : decode cX3_part 32 = .ok (.getfield 63, 3) := by decide +kernel
theorem dX3_part_35 : decode cX3_part 35 = .ok (.iload_n 3, 1) := by decide +kernel
theorem dX3_part_36 : decode cX3_part 36 = .ok (.isub, 1) := by decide +kernel
theorem dX3_part_37 : decode cX3_part 37 = .ok (.invokestatic 82, 3) := by decide +kernel
theorem dX3_part_40 : decode cX3_part 40 = .ok (.ifCond .ne 9, 3) := by decide +kernel
theorem dX3_part_43 : decode cX3_part 43 = .ok (.aload_n 0, 1) := by decide +kernel
theorem dX3_part_44 : decode cX3_part 44 = .ok (.iconst 5, 1) := by decide +kernel
theorem dX3_part_45 : decode cX3_part 45 = .ok (.invokevirtual 86, 3) := by decide +kernel
theorem dX3_part_48 : decode cX3_part 48 = .ok (.ireturn, 1) := by decide +kernel
theorem dX3_part_49 : decode cX3_part 49 = .ok (.aload 5, 2) := by decide +kernel
theorem dX3_part_51 : decode cX3_part 51 = .ok (.aload 6, 2) := by decide +kernel
theorem dX3_part_53 : decode cX3_part 53 = .ok (.iload_n 3, 1) := by decide +kernel
theorem dX3_part_54 : decode cX3_part 54 = .ok (.iload 4, 2) := by decide +kernel
theorem dX3_part_56 : decode cX3_part 56 = .ok (.invokevirtual 78, 3) := by decide +kernel
theorem dX3_part_59 : decode cX3_part 59 = .ok (.aload_n 0, 1) := by decide +kernel
theorem dX3_part_60 : decode cX3_part 60 = .ok (.aload 5, 2) := by decide +kernel
theorem dX3_part_62 : decode cX3_part 62 = .ok (.getfield 63, 3) := by decide +kernel
theorem dX3_part_65 : decode cX3_part 65 = .ok (.invokevirtual 66, 3) := by decide +kernel
theorem dX3_part_68 : decode cX3_part 68 = .ok (.ireturn, 1) := by decide +kernel
theorem dX3_exchange_0 : decode cX3_exchange 0 = .ok (.aload_n 0, 1) := by decide +kernel
theorem dX3_exchange_1 : decode cX3_exchange 1 = .ok (.iload_n 1, 1) := by decide +kernel
theorem dX3_exchange_2 : decode cX3_exchange 2 = .ok (.invokevirtual 49, 3) := by decide +kernel
theorem dX3_exchange_5 : decode cX3_exchange 5 = .ok (.astore_n 3, 1) := by decide +kernel
theorem dX3_exchange_6 : decode cX3_exchange 6 = .ok (.aload_n 0, 1) := by decide +kernel
theorem dX3_exchange_7 : decode cX3_exchange 7 = .ok (.iload_n 2, 1) := by decide +kernel
theorem dX3_exchange_8 : decode cX3_exchange 8 = .ok (.invokevirtual 49, 3) := by decide +kernel
theorem dX3_exchange_11 : decode cX3_exchange 11 = .ok (.astore 4, 2) := by decide +kernel
theorem dX3_exchange_13 : decode cX3_exchange 13 = .ok (.aload_n 0, 1) := by decide +kernel
theorem dX3_exchange_14 : decode cX3_exchange 14 = .ok (.iload_n 1, 1) := by decide +kernel
theorem dX3_exchange_15 : decode cX3_exchange 15 = .ok (.aload 4, 2) := by decide +kernel
theorem dX3_exchange_17 : decode cX3_exchange 17 = .ok (.invokevirtual 93, 3) := by decide +kernel
theorem dX3_exchange_20 : decode cX3_exchange 20 = .ok (.aload_n 0, 1) := by decide +kernel
theorem dX3_exchange_21 : decode cX3_exchange 21 = .ok (.iload_n 2, 1) := by decide +kernel
theorem dX3_exchange_22 : decode cX3_exchange 22 = .ok (.aload_n 3, 1) := by decide +kernel
theorem dX3_exchange_23 : decode cX3_exchange 23 = .ok (.invokevirtual 93, 3) := by decide +kernel
theorem dX3_exchange_26 : decode cX3_exchange 26 = .ok (.aload_n 0, 1) := by decide +kernel
theorem dX3_exchange_27 : decode cX3_exchange 27 = .ok (.aload 4, 2) := by decide +kernel
theorem dX3_exchange_29 : decode cX3_exchange 29 = .ok (.getfield 60, 3) := by decide +kernel
theorem dX3_exchange_32 : decode cX3_exchange 32 = .ok (.invokevirtual 66, 3) := by decide +kernel
theorem dX3_exchange_35 : decode cX3_exchange 35 = .ok (.ireturn, 1) := by decide +kernel
theorem dX3_isKin_0 : decode cX3_isKin 0 = .ok (.aload_n 0, 1) := by decide +kernel
theorem dX3_isKin_1 : decode cX3_isKin 1 = .ok (.iload_n 1, 1) := by decide +kernel
theorem dX3_isKin_2 : decode cX3_isKin 2 = .ok (.invokevirtual 49, 3) := by decide +kernel
theorem dX3_isKin_5 : decode cX3_isKin 5 = .ok (.aload_n 0, 1) := by decide +kernel
theorem dX3_isKin_6 : decode cX3_isKin 6 = .ok (.iload_n 2, 1) := by decide +kernel
theorem dX3_isKin_7 : decode cX3_isKin 7 = .ok (.invokevirtual 49, 3) := by decide +kernel
theorem dX3_isKin_10 : decode cX3_isKin 10 = .ok (.invokestatic 177, 3) := by decide +kernel
theorem dX3_isKin_13 : decode cX3_isKin 13 = .ok (.ireturn, 1) := by decide +kernel
theorem dX3_sees_0 : decode cX3_sees 0 = .ok (.aload_n 0, 1) := by decide +kernel
theorem dX3_sees_1 : decode cX3_sees 1 = .ok (.iload_n 1, 1) := by decide +kernel
theorem dX3_sees_2 : decode cX3_sees 2 = .ok (.invokevirtual 49, 3) := by decide +kernel
theorem dX3_sees_5 : decode cX3_sees 5 = .ok (.iload_n 2, 1) := by decide +kernel
theorem dX3_sees_6 : decode cX3_sees 6 = .ok (.aload_n 0, 1) := by decide +kernel
theorem dX3_sees_7 : decode cX3_sees 7 = .ok (.iload_n 3, 1) := by decide +kernel
theorem dX3_sees_8 : decode cX3_sees 8 = .ok (.invokevirtual 49, 3) := by decide +kernel
theorem dX3_sees_11 : decode cX3_sees 11 = .ok (.invokestatic 181, 3) := by decide +kernel
theorem dX3_sees_14 : decode cX3_sees 14 = .ok (.ireturn, 1) := by decide +kernel
set_option maxRecDepth 20000 in
theorem c_X3_setPane (l : Launch) (G : zG) {M : zM} {x : Nat} {pane : Int32} {q : Nat} {lr : Nat} {pa : Nat} {sp : Nat} {ln : Nat} {rf : Nat} {ac : Int32} {kn : Int32} {fp : Nat → Option Nat} {ov9 : Nat} {sa9 : Int32} {cp9 : Int32} {po9 : Int32} {li9 : Int32} {mk9 : Int32} {rd9 : Int32} {i : Nat} (h_x : M x = some (cMp lr pa sp ln rf ac kn)) (h_pa : M pa = some (aP G 6 fp)) (h_q : M q = some (cPn ov9 sa9 cp9 po9 li9 mk9 rd9)) (h_ip : vp_in pane 6) (h_ij : pane.toNatClampNeg = i) : z_Mv l G qX3_setPane (z_rm 1 0 0) [.ref x, .int pane, .ref q] M (fun M' => M' = z_up M pa (aP G 6 (va_up fp i (some q))))  := by
  refine z_Mv_of _ (plainFor_of_name rfl) rfl (Nat.le_of_ble_eq_true rfl) (fun X hl hG hnm C ret => ?_)
  subst hl; subst hG
  have C : z_C X cX3_setPane RX3 3 (z_rm 1 0 0) := C
  show z_W X M 0 0 0 [(0, .ref x), (1, .int pane), (2, .ref q)] []
  refine z_iload_n C dX3_setPane_0 rfl 1 rfl ?_
  refine z_if_lt C (tgt := 20) dX3_setPane_1 (by decide) (fun c1 => absurd c1 (z_ge0 h_ip)) (fun _ => ?_)
  refine z_iload_n C dX3_setPane_4 rfl 1 rfl ?_
  refine z_aload_n C dX3_setPane_5 rfl 0 rfl ?_
  refine gf_X3_20 C h_x dX3_setPane_6 ?_
  refine z_alenP C (v := Int32.ofNat 6) h_pa rfl dX3_setPane_9 ?_
  refine z_icmp_ge C (tgt := 20) dX3_setPane_10 (by decide) (fun c10 => absurd c10 (z_nIn h_ip (by decide))) (fun _ => ?_)
  refine z_aload_n C dX3_setPane_13 rfl 0 rfl ?_
  refine gf_X3_20 C h_x dX3_setPane_14 ?_
  refine z_iload_n C dX3_setPane_17 rfl 1 rfl ?_
  refine z_aload_n C dX3_setPane_18 rfl 2 rfl ?_
  refine z_aastP (j := i) C h_pa h_q h_ip h_ij dX3_setPane_19 ?_
  exact ret dX3_setPane_20 (rfl) (by decide) (by decide)
set_option maxRecDepth 20000 in
theorem c_X3_twin_bad (l : Launch) (G : zG) (h_st : l.stackTraces = false) {M : zM} {x : Nat} {pane : Int32} {other : Int32} {lr : Nat} {pa : Nat} {sp : Nat} {ln : Nat} {rf : Nat} {ac : Int32} {kn : Int32} {fp : Nat → Option Nat}  (h_x : M x = some (cMp lr pa sp ln rf ac kn)) (h_pa : M pa = some (aP G 6 fp)) (h_ip : ¬ vp_in pane 6) : z_Xi l G qX3_twin (z_rm 12 8 48) [.ref x, .int pane, .int other] M (fun r M' => False) (fun E M' => ((pane < 0) ∧ E = "java/lang/IndexOutOfBoundsException" ∧ M' = M) ∨ ((¬ pane < 0) ∧ E = "java/lang/IndexOutOfBoundsException" ∧ M' = M)) := by
  refine z_Xi_of _ _ h_st rfl rfl (Nat.le_of_ble_eq_true rfl) (fun X hl hG C ret thr prp => ?_)
  subst hl; subst hG
  have C : z_C X cX3_twin RX3 5 (z_rm 12 8 48) := C
  show z_W X M 0 0 0 [(0, .ref x), (1, .int pane), (2, .int other)] []
  refine z_aload_n C dX3_twin_0 rfl 0 rfl ?_
  refine z_iload_n C dX3_twin_1 rfl 1 rfl ?_
  refine z_callXVr (rest := []) (k' := 1) (n' := 6) C (c_X3_paneOf_bad (z_l X) (z_G X) h_st h_x h_pa h_ip) (cs_X3_49 C (by decide)) h_x rfl rfl rfl rfl (Nat.le_of_ble_eq_true rfl) rfl rfl (by decide) (by decide) dX3_twin_2 (fun E M' hq => ?_) (fun x2 M' hq => ?_)
  · obtain ⟨cx2_0, rfl, rfl⟩ | ⟨cx2_0, rfl, rfl⟩ := hq
    · exact prp (Or.inl ⟨cx2_0, rfl, rfl⟩) (by decide) (by decide)
    · exact prp (Or.inr (⟨cx2_0, rfl, rfl⟩)) (by decide) (by decide)
  · skip
    exact hq.elim
set_option maxRecDepth 20000 in
theorem c_X3_twin_bad2 (l : Launch) (G : zG) (h_st : l.stackTraces = false) {M : zM} {x : Nat} {pane : Int32} {other : Int32} {lr : Nat} {pa : Nat} {sp : Nat} {ln : Nat} {rf : Nat} {ac : Int32} {kn : Int32} {fp : Nat → Option Nat} {p : Nat} {ov : Nat} {sa : Int32} {cp : Int32} {po : Int32} {li : Int32} {mk : Int32} {rd : Int32} {i : Nat} (h_x : M x = some (cMp lr pa sp ln rf ac kn)) (h_pa : M pa = some (aP G 6 fp)) (h_p : M p = some (cPn ov sa cp po li mk rd)) (h_ip : vp_in pane 6) (h_ij : pane.toNatClampNeg = i) (h_fp : fp i = some p) (h_ip2 : ¬ vp_in other 6) : z_Xi l G qX3_twin (z_rm 12 8 48) [.ref x, .int pane, .int other] M (fun r M' => False) (fun E M' => ((other < 0) ∧ E = "java/lang/IndexOutOfBoundsException" ∧ M' = M) ∨ ((¬ other < 0) ∧ E = "java/lang/IndexOutOfBoundsException" ∧ M' = M)) := by
  refine z_Xi_of _ _ h_st rfl rfl (Nat.le_of_ble_eq_true rfl) (fun X hl hG C ret thr prp => ?_)
  subst hl; subst hG
  have C : z_C X cX3_twin RX3 5 (z_rm 12 8 48) := C
  show z_W X M 0 0 0 [(0, .ref x), (1, .int pane), (2, .int other)] []
  refine z_aload_n C dX3_twin_0 rfl 0 rfl ?_
  refine z_iload_n C dX3_twin_1 rfl 1 rfl ?_
  refine z_callXVr (rest := []) (k' := 1) (n' := 6) C (c_X3_paneOf (z_l X) (z_G X) h_st h_x h_pa h_p h_ip h_ij h_fp) (cs_X3_49 C (by decide)) h_x rfl rfl rfl rfl (Nat.le_of_ble_eq_true rfl) rfl rfl (by decide) (by decide) dX3_twin_2 (fun E M' hq => ?_) (fun x2 M' hq => ?_)
  · exact hq.elim
  · skip
    obtain ⟨hr2, rfl⟩ := hq
    rw [hr2]
    refine z_astore_n (lv' := [(3, .ref p), (0, .ref x), (1, .int pane), (2, .int other)]) C dX3_twin_5 rfl (by decide) rfl ?_
    refine z_aload_n C dX3_twin_6 rfl 1 rfl ?_
    refine z_iload_n C dX3_twin_7 rfl 3 rfl ?_
    refine z_callXVr (rest := []) (k' := 2) (n' := 12) C (c_X3_paneOf_bad (z_l X) (z_G X) h_st h_x h_pa h_ip2) (cs_X3_49 C (by decide)) h_x rfl rfl rfl rfl (Nat.le_of_ble_eq_true rfl) rfl rfl (by decide) (by decide) dX3_twin_8 (fun E M' hq => ?_) (fun x8 M' hq => ?_)
    · obtain ⟨cx8_0, rfl, rfl⟩ | ⟨cx8_0, rfl, rfl⟩ := hq
      · exact prp (Or.inl ⟨cx8_0, rfl, rfl⟩) (by decide) (by decide)
      · exact prp (Or.inr (⟨cx8_0, rfl, rfl⟩)) (by decide) (by decide)
    · skip
      exact hq.elim
set_option maxRecDepth 20000 in
theorem c_X3_twin (l : Launch) (G : zG) (h_st : l.stackTraces = false) {M : zM} {x : Nat} {pane : Int32} {other : Int32} {lr : Nat} {pa : Nat} {sp : Nat} {ln : Nat} {rf : Nat} {ac : Int32} {kn : Int32} {fr : Nat → Int32} {fp : Nat → Option Nat} {p : Nat} {ov : Nat} {sa : Int32} {cp : Int32} {po : Int32} {li : Int32} {mk : Int32} {rd : Int32} {o : Nat} {ov2 : Nat} {sa2 : Int32} {cp2 : Int32} {po2 : Int32} {li2 : Int32} {mk2 : Int32} {rd2 : Int32} {i i2 : Nat}  (h_x : M x = some (cMp lr pa sp ln rf ac kn)) (h_rf : M rf = some (aI G 6 fr)) (h_pa : M pa = some (aP G 6 fp)) (h_p : M p = some (cPn ov sa cp po li mk rd)) (h_o : M o = some (cPn ov2 sa2 cp2 po2 li2 mk2 rd2)) (h_ip : vp_in pane 6) (h_ij : pane.toNatClampNeg = i) (h_fp : fp i = some p) (h_ip2 : vp_in other 6) (h_ij2 : other.toNatClampNeg = i2) (h_fp2 : fp i2 = some o) (h_po : p ≠ o) (h_b1 : narrow .boolean (.int rd2) = .int rd2) (h_b2 : fits .boolean (.int rd2) = true) : z_Xi l G qX3_twin (z_rm 12 8 48) [.ref x, .int pane, .int other] M (fun r M' => r = (li2 - po2) ∧ M' = z_up (z_up M p (cPn ov2 sa2 cp2 po2 li2 mk2 rd2)) x (cMp lr pa sp ln rf (ac + 1) kn)) (fun E M' => False) := by
  refine z_Xi_of _ _ h_st rfl rfl (Nat.le_of_ble_eq_true rfl) (fun X hl hG C ret thr prp => ?_)
  subst hl; subst hG
  have C : z_C X cX3_twin RX3 5 (z_rm 12 8 48) := C
  show z_W X M 0 0 0 [(0, .ref x), (1, .int pane), (2, .int other)] []
  refine z_aload_n C dX3_twin_0 rfl 0 rfl ?_
  refine z_iload_n C dX3_twin_1 rfl 1 rfl ?_
  refine z_callXVr (rest := []) (k' := 1) (n' := 6) C (c_X3_paneOf (z_l X) (z_G X) h_st h_x h_pa h_p h_ip h_ij h_fp) (cs_X3_49 C (by decide)) h_x rfl rfl rfl rfl (Nat.le_of_ble_eq_true rfl) rfl rfl (by decide) (by decide) dX3_twin_2 (fun E M' hq => ?_) (fun x2 M' hq => ?_)
  · exact hq.elim
  · skip
    obtain ⟨hr2, rfl⟩ := hq
    rw [hr2]
    refine z_astore_n (lv' := [(3, .ref p), (0, .ref x), (1, .int pane), (2, .int other)]) C dX3_twin_5 rfl (by decide) rfl ?_
    refine z_aload_n C dX3_twin_6 rfl 1 rfl ?_
    refine z_iload_n C dX3_twin_7 rfl 3 rfl ?_
    refine z_callXVr (rest := []) (k' := 2) (n' := 12) C (c_X3_paneOf (z_l X) (z_G X) h_st h_x h_pa h_o h_ip2 h_ij2 h_fp2) (cs_X3_49 C (by decide)) h_x rfl rfl rfl rfl (Nat.le_of_ble_eq_true rfl) rfl rfl (by decide) (by decide) dX3_twin_8 (fun E M' hq => ?_) (fun x8 M' hq => ?_)
    · exact hq.elim
    · skip
      obtain ⟨hr8, rfl⟩ := hq
      rw [hr8]
      refine z_astore (lv' := [(4, .ref o), (3, .ref p), (0, .ref x), (1, .int pane), (2, .int other)]) C dX3_twin_11 (by decide) rfl ?_
      refine z_aload_n C dX3_twin_13 rfl 1 rfl ?_
      refine z_aload C dX3_twin_14 0 rfl ?_
      refine z_callVv (rest := []) (k' := 2) (n' := 12) C (c_X1_becomeTwin (z_l X) (z_G X) h_p h_o h_po h_b1 h_b2) (cs_X3_70 C (by decide)) h_p rfl rfl rfl rfl (Nat.le_of_ble_eq_true rfl) rfl rfl (by decide) (by decide) dX3_twin_16 (fun M' hq => ?_)
      obtain rfl := hq
      refine z_aload_n C dX3_twin_19 rfl 2 rfl ?_
      refine z_aload_n C dX3_twin_20 rfl 1 rfl ?_
      refine z_callVi (rest := [.ref x]) (k' := 2) (n' := 12) C (c_X1_left (z_l X) (z_G X) (z_up_s _ _ _)) (cs_X3_74 C (by decide)) (z_up_s _ _ _) rfl rfl rfl rfl (Nat.le_of_ble_eq_true rfl) rfl rfl (by decide) (by decide) dX3_twin_21 (fun x21 M' hq => ?_)
      obtain ⟨rfl, rfl⟩ := hq
      refine z_callVi (rest := []) (k' := 2) (n' := 12) C (c_X3_done (z_l X) (z_G X) ((z_up_n _ _ (z_ne h_x h_p (by intro h; cases h))).trans h_x)) (cs_X3_66 C (by decide)) ((z_up_n _ _ (z_ne h_x h_p (by intro h; cases h))).trans h_x) rfl rfl rfl rfl (Nat.le_of_ble_eq_true rfl) rfl rfl (by decide) (by decide) dX3_twin_24 (fun x24 M' hq => ?_)
      obtain ⟨rfl, rfl⟩ := hq
      exact ret dX3_twin_27 rfl (⟨rfl, rfl⟩) (by decide) (by decide)
set_option maxRecDepth 20000 in
theorem c_X3_twin_s (l : Launch) (G : zG) (h_st : l.stackTraces = false) {M : zM} {x : Nat} {pane : Int32} {other : Int32} {lr : Nat} {pa : Nat} {sp : Nat} {ln : Nat} {rf : Nat} {ac : Int32} {kn : Int32} {fr : Nat → Int32} {fp : Nat → Option Nat} {p : Nat} {ov : Nat} {sa : Int32} {cp : Int32} {po : Int32} {li : Int32} {mk : Int32} {rd : Int32} {i i2 : Nat}  (h_x : M x = some (cMp lr pa sp ln rf ac kn)) (h_rf : M rf = some (aI G 6 fr)) (h_pa : M pa = some (aP G 6 fp)) (h_p : M p = some (cPn ov sa cp po li mk rd)) (h_ip : vp_in pane 6) (h_ij : pane.toNatClampNeg = i) (h_fp : fp i = some p) (h_ip2 : vp_in other 6) (h_ij2 : other.toNatClampNeg = i2) (h_fp2 : fp i2 = some p) (h_b1 : narrow .boolean (.int rd) = .int rd) (h_b2 : fits .boolean (.int rd) = true) : z_Xi l G qX3_twin (z_rm 12 8 48) [.ref x, .int pane, .int other] M (fun r M' => r = (li - po) ∧ M' = z_up (z_up M p (cPn ov sa cp po li mk rd)) x (cMp lr pa sp ln rf (ac + 1) kn)) (fun E M' => False) := by
  refine z_Xi_of _ _ h_st rfl rfl (Nat.le_of_ble_eq_true rfl) (fun X hl hG C ret thr prp => ?_)
  subst hl; subst hG
  have C : z_C X cX3_twin RX3 5 (z_rm 12 8 48) := C
  show z_W X M 0 0 0 [(0, .ref x), (1, .int pane), (2, .int other)] []
  refine z_aload_n C dX3_twin_0 rfl 0 rfl ?_
  refine z_iload_n C dX3_twin_1 rfl 1 rfl ?_
  refine z_callXVr (rest := []) (k' := 1) (n' := 6) C (c_X3_paneOf (z_l X) (z_G X) h_st h_x h_pa h_p h_ip h_ij h_fp) (cs_X3_49 C (by decide)) h_x rfl rfl rfl rfl (Nat.le_of_ble_eq_true rfl) rfl rfl (by decide) (by decide) dX3_twin_2 (fun E M' hq => ?_) (fun x2 M' hq => ?_)
  · exact hq.elim
  · skip
    obtain ⟨hr2, rfl⟩ := hq
    rw [hr2]
    refine z_astore_n (lv' := [(3, .ref p), (0, .ref x), (1, .int pane), (2, .int other)]) C dX3_twin_5 rfl (by decide) rfl ?_
    refine z_aload_n C dX3_twin_6 rfl 1 rfl ?_
    refine z_iload_n C dX3_twin_7 rfl 3 rfl ?_
    refine z_callXVr (rest := []) (k' := 2) (n' := 12) C (c_X3_paneOf (z_l X) (z_G X) h_st h_x h_pa h_p h_ip2 h_ij2 h_fp2) (cs_X3_49 C (by decide)) h_x rfl rfl rfl rfl (Nat.le_of_ble_eq_true rfl) rfl rfl (by decide) (by decide) dX3_twin_8 (fun E M' hq => ?_) (fun x8 M' hq => ?_)
    · exact hq.elim
    · skip
      obtain ⟨hr8, rfl⟩ := hq
      rw [hr8]
      refine z_astore (lv' := [(4, .ref p), (3, .ref p), (0, .ref x), (1, .int pane), (2, .int other)]) C dX3_twin_11 (by decide) rfl ?_
      refine z_aload_n C dX3_twin_13 rfl 1 rfl ?_
      refine z_aload C dX3_twin_14 0 rfl ?_
      refine z_callVv (rest := []) (k' := 2) (n' := 12) C (c_X1_becomeTwin_s (z_l X) (z_G X) h_p h_b1 h_b2) (cs_X3_70 C (by decide)) h_p rfl rfl rfl rfl (Nat.le_of_ble_eq_true rfl) rfl rfl (by decide) (by decide) dX3_twin_16 (fun M' hq => ?_)
      obtain rfl := hq
      refine z_aload_n C dX3_twin_19 rfl 2 rfl ?_
      refine z_aload_n C dX3_twin_20 rfl 1 rfl ?_
      refine z_callVi (rest := [.ref x]) (k' := 2) (n' := 12) C (c_X1_left (z_l X) (z_G X) (z_up_s _ _ _)) (cs_X3_74 C (by decide)) (z_up_s _ _ _) rfl rfl rfl rfl (Nat.le_of_ble_eq_true rfl) rfl rfl (by decide) (by decide) dX3_twin_21 (fun x21 M' hq => ?_)
      obtain ⟨rfl, rfl⟩ := hq
      refine z_callVi (rest := []) (k' := 2) (n' := 12) C (c_X3_done (z_l X) (z_G X) ((z_up_n _ _ (z_ne h_x h_p (by intro h; cases h))).trans h_x)) (cs_X3_66 C (by decide)) ((z_up_n _ _ (z_ne h_x h_p (by intro h; cases h))).trans h_x) rfl rfl rfl rfl (Nat.le_of_ble_eq_true rfl) rfl rfl (by decide) (by decide) dX3_twin_24 (fun x24 M' hq => ?_)
      obtain ⟨rfl, rfl⟩ := hq
      exact ret dX3_twin_27 rfl (⟨rfl, rfl⟩) (by decide) (by decide)
set_option maxRecDepth 20000 in
theorem c_X3_reader_bad (l : Launch) (G : zG) (h_st : l.stackTraces = false) {M : zM} {x : Nat} {pane : Int32} {other : Int32} {lr : Nat} {pa : Nat} {sp : Nat} {ln : Nat} {rf : Nat} {ac : Int32} {kn : Int32} {fp : Nat → Option Nat}  (h_x : M x = some (cMp lr pa sp ln rf ac kn)) (h_pa : M pa = some (aP G 6 fp)) (h_ip : ¬ vp_in pane 6) : z_Xi l G qX3_reader (z_rm 12 8 48) [.ref x, .int pane, .int other] M (fun r M' => False) (fun E M' => ((pane < 0) ∧ E = "java/lang/IndexOutOfBoundsException" ∧ M' = M) ∨ ((¬ pane < 0) ∧ E = "java/lang/IndexOutOfBoundsException" ∧ M' = M)) := by
  refine z_Xi_of _ _ h_st rfl rfl (Nat.le_of_ble_eq_true rfl) (fun X hl hG C ret thr prp => ?_)
  subst hl; subst hG
  have C : z_C X cX3_reader RX3 5 (z_rm 12 8 48) := C
  show z_W X M 0 0 0 [(0, .ref x), (1, .int pane), (2, .int other)] []
  refine z_aload_n C dX3_reader_0 rfl 0 rfl ?_
  refine z_iload_n C dX3_reader_1 rfl 1 rfl ?_
  refine z_callXVr (rest := []) (k' := 1) (n' := 6) C (c_X3_paneOf_bad (z_l X) (z_G X) h_st h_x h_pa h_ip) (cs_X3_49 C (by decide)) h_x rfl rfl rfl rfl (Nat.le_of_ble_eq_true rfl) rfl rfl (by decide) (by decide) dX3_reader_2 (fun E M' hq => ?_) (fun x2 M' hq => ?_)
  · obtain ⟨cx2_0, rfl, rfl⟩ | ⟨cx2_0, rfl, rfl⟩ := hq
    · exact prp (Or.inl ⟨cx2_0, rfl, rfl⟩) (by decide) (by decide)
    · exact prp (Or.inr (⟨cx2_0, rfl, rfl⟩)) (by decide) (by decide)
  · skip
    exact hq.elim
set_option maxRecDepth 20000 in
theorem c_X3_reader_bad2 (l : Launch) (G : zG) (h_st : l.stackTraces = false) {M : zM} {x : Nat} {pane : Int32} {other : Int32} {lr : Nat} {pa : Nat} {sp : Nat} {ln : Nat} {rf : Nat} {ac : Int32} {kn : Int32} {fp : Nat → Option Nat} {p : Nat} {ov : Nat} {sa : Int32} {cp : Int32} {po : Int32} {li : Int32} {mk : Int32} {rd : Int32} {i : Nat} (h_x : M x = some (cMp lr pa sp ln rf ac kn)) (h_pa : M pa = some (aP G 6 fp)) (h_p : M p = some (cPn ov sa cp po li mk rd)) (h_ip : vp_in pane 6) (h_ij : pane.toNatClampNeg = i) (h_fp : fp i = some p) (h_ip2 : ¬ vp_in other 6) : z_Xi l G qX3_reader (z_rm 12 8 48) [.ref x, .int pane, .int other] M (fun r M' => False) (fun E M' => ((other < 0) ∧ E = "java/lang/IndexOutOfBoundsException" ∧ M' = M) ∨ ((¬ other < 0) ∧ E = "java/lang/IndexOutOfBoundsException" ∧ M' = M)) := by
  refine z_Xi_of _ _ h_st rfl rfl (Nat.le_of_ble_eq_true rfl) (fun X hl hG C ret thr prp => ?_)
  subst hl; subst hG
  have C : z_C X cX3_reader RX3 5 (z_rm 12 8 48) := C
  show z_W X M 0 0 0 [(0, .ref x), (1, .int pane), (2, .int other)] []
  refine z_aload_n C dX3_reader_0 rfl 0 rfl ?_
  refine z_iload_n C dX3_reader_1 rfl 1 rfl ?_
  refine z_callXVr (rest := []) (k' := 1) (n' := 6) C (c_X3_paneOf (z_l X) (z_G X) h_st h_x h_pa h_p h_ip h_ij h_fp) (cs_X3_49 C (by decide)) h_x rfl rfl rfl rfl (Nat.le_of_ble_eq_true rfl) rfl rfl (by decide) (by decide) dX3_reader_2 (fun E M' hq => ?_) (fun x2 M' hq => ?_)
  · exact hq.elim
  · skip
    obtain ⟨hr2, rfl⟩ := hq
    rw [hr2]
    refine z_astore_n (lv' := [(3, .ref p), (0, .ref x), (1, .int pane), (2, .int other)]) C dX3_reader_5 rfl (by decide) rfl ?_
    refine z_aload_n C dX3_reader_6 rfl 1 rfl ?_
    refine z_iload_n C dX3_reader_7 rfl 3 rfl ?_
    refine z_callXVr (rest := []) (k' := 2) (n' := 12) C (c_X3_paneOf_bad (z_l X) (z_G X) h_st h_x h_pa h_ip2) (cs_X3_49 C (by decide)) h_x rfl rfl rfl rfl (Nat.le_of_ble_eq_true rfl) rfl rfl (by decide) (by decide) dX3_reader_8 (fun E M' hq => ?_) (fun x8 M' hq => ?_)
    · obtain ⟨cx8_0, rfl, rfl⟩ | ⟨cx8_0, rfl, rfl⟩ := hq
      · exact prp (Or.inl ⟨cx8_0, rfl, rfl⟩) (by decide) (by decide)
      · exact prp (Or.inr (⟨cx8_0, rfl, rfl⟩)) (by decide) (by decide)
    · skip
      exact hq.elim
set_option maxRecDepth 20000 in
theorem c_X3_reader (l : Launch) (G : zG) (h_st : l.stackTraces = false) {M : zM} {x : Nat} {pane : Int32} {other : Int32} {lr : Nat} {pa : Nat} {sp : Nat} {ln : Nat} {rf : Nat} {ac : Int32} {kn : Int32} {fr : Nat → Int32} {fp : Nat → Option Nat} {p : Nat} {ov : Nat} {sa : Int32} {cp : Int32} {po : Int32} {li : Int32} {mk : Int32} {rd : Int32} {o : Nat} {ov2 : Nat} {sa2 : Int32} {cp2 : Int32} {po2 : Int32} {li2 : Int32} {mk2 : Int32} {rd2 : Int32} {i i2 : Nat}  (h_x : M x = some (cMp lr pa sp ln rf ac kn)) (h_rf : M rf = some (aI G 6 fr)) (h_pa : M pa = some (aP G 6 fp)) (h_p : M p = some (cPn ov sa cp po li mk rd)) (h_o : M o = some (cPn ov2 sa2 cp2 po2 li2 mk2 rd2)) (h_ip : vp_in pane 6) (h_ij : pane.toNatClampNeg = i) (h_fp : fp i = some p) (h_ip2 : vp_in other 6) (h_ij2 : other.toNatClampNeg = i2) (h_fp2 : fp i2 = some o) (h_po : p ≠ o) (h_b1 : narrow .boolean (.int rd2) = .int rd2) (h_b2 : fits .boolean (.int rd2) = true) : z_Xi l G qX3_reader (z_rm 12 8 48) [.ref x, .int pane, .int other] M (fun r M' => r = (li2 - po2) ∧ M' = z_up (z_up M p (cPn ov2 sa2 cp2 po2 li2 mk2 1)) x (cMp lr pa sp ln rf (ac + 1) kn)) (fun E M' => False) := by
  refine z_Xi_of _ _ h_st rfl rfl (Nat.le_of_ble_eq_true rfl) (fun X hl hG C ret thr prp => ?_)
  subst hl; subst hG
  have C : z_C X cX3_reader RX3 5 (z_rm 12 8 48) := C
  show z_W X M 0 0 0 [(0, .ref x), (1, .int pane), (2, .int other)] []
  refine z_aload_n C dX3_reader_0 rfl 0 rfl ?_
  refine z_iload_n C dX3_reader_1 rfl 1 rfl ?_
  refine z_callXVr (rest := []) (k' := 1) (n' := 6) C (c_X3_paneOf (z_l X) (z_G X) h_st h_x h_pa h_p h_ip h_ij h_fp) (cs_X3_49 C (by decide)) h_x rfl rfl rfl rfl (Nat.le_of_ble_eq_true rfl) rfl rfl (by decide) (by decide) dX3_reader_2 (fun E M' hq => ?_) (fun x2 M' hq => ?_)
  · exact hq.elim
  · skip
    obtain ⟨hr2, rfl⟩ := hq
    rw [hr2]
    refine z_astore_n (lv' := [(3, .ref p), (0, .ref x), (1, .int pane), (2, .int other)]) C dX3_reader_5 rfl (by decide) rfl ?_
    refine z_aload_n C dX3_reader_6 rfl 1 rfl ?_
    refine z_iload_n C dX3_reader_7 rfl 3 rfl ?_
    refine z_callXVr (rest := []) (k' := 2) (n' := 12) C (c_X3_paneOf (z_l X) (z_G X) h_st h_x h_pa h_o h_ip2 h_ij2 h_fp2) (cs_X3_49 C (by decide)) h_x rfl rfl rfl rfl (Nat.le_of_ble_eq_true rfl) rfl rfl (by decide) (by decide) dX3_reader_8 (fun E M' hq => ?_) (fun x8 M' hq => ?_)
    · exact hq.elim
    · skip
      obtain ⟨hr8, rfl⟩ := hq
      rw [hr8]
      refine z_astore (lv' := [(4, .ref o), (3, .ref p), (0, .ref x), (1, .int pane), (2, .int other)]) C dX3_reader_11 (by decide) rfl ?_
      refine z_aload_n C dX3_reader_13 rfl 1 rfl ?_
      refine z_aload C dX3_reader_14 0 rfl ?_
      refine z_callVv (rest := []) (k' := 2) (n' := 12) C (c_X1_becomeTwin (z_l X) (z_G X) h_p h_o h_po h_b1 h_b2) (cs_X3_70 C (by decide)) h_p rfl rfl rfl rfl (Nat.le_of_ble_eq_true rfl) rfl rfl (by decide) (by decide) dX3_reader_16 (fun M' hq => ?_)
      obtain rfl := hq
      refine z_aload_n C dX3_reader_19 rfl 1 rfl ?_
      refine z_iconst C (v := 1) dX3_reader_20 (by decide) ?_
      refine pg_X3_89 C rfl rfl dX3_reader_21 ?_
      refine z_aload_n C dX3_reader_24 rfl 2 rfl ?_
      refine z_aload_n C dX3_reader_25 rfl 1 rfl ?_
      refine z_callVi (rest := [.ref x]) (k' := 2) (n' := 12) C (c_X1_left (z_l X) (z_G X) (z_up_s _ _ _)) (cs_X3_74 C (by decide)) (z_up_s _ _ _) rfl rfl rfl rfl (Nat.le_of_ble_eq_true rfl) rfl rfl (by decide) (by decide) dX3_reader_26 (fun x26 M' hq => ?_)
      obtain ⟨rfl, rfl⟩ := hq
      refine z_callVi (rest := []) (k' := 2) (n' := 12) C (c_X3_done (z_l X) (z_G X) ((z_up_n _ _ (z_ne h_x h_p (by intro h; cases h))).trans h_x)) (cs_X3_66 C (by decide)) ((z_up_n _ _ (z_ne h_x h_p (by intro h; cases h))).trans h_x) rfl rfl rfl rfl (Nat.le_of_ble_eq_true rfl) rfl rfl (by decide) (by decide) dX3_reader_29 (fun x29 M' hq => ?_)
      obtain ⟨rfl, rfl⟩ := hq
      exact ret dX3_reader_32 rfl (⟨rfl, rfl⟩) (by decide) (by decide)
set_option maxRecDepth 20000 in
theorem c_X3_reader_s (l : Launch) (G : zG) (h_st : l.stackTraces = false) {M : zM} {x : Nat} {pane : Int32} {other : Int32} {lr : Nat} {pa : Nat} {sp : Nat} {ln : Nat} {rf : Nat} {ac : Int32} {kn : Int32} {fr : Nat → Int32} {fp : Nat → Option Nat} {p : Nat} {ov : Nat} {sa : Int32} {cp : Int32} {po : Int32} {li : Int32} {mk : Int32} {rd : Int32} {i i2 : Nat}  (h_x : M x = some (cMp lr pa sp ln rf ac kn)) (h_rf : M rf = some (aI G 6 fr)) (h_pa : M pa = some (aP G 6 fp)) (h_p : M p = some (cPn ov sa cp po li mk rd)) (h_ip : vp_in pane 6) (h_ij : pane.toNatClampNeg = i) (h_fp : fp i = some p) (h_ip2 : vp_in other 6) (h_ij2 : other.toNatClampNeg = i2) (h_fp2 : fp i2 = some p) (h_b1 : narrow .boolean (.int rd) = .int rd) (h_b2 : fits .boolean (.int rd) = true) : z_Xi l G qX3_reader (z_rm 12 8 48) [.ref x, .int pane, .int other] M (fun r M' => r = (li - po) ∧ M' = z_up (z_up M p (cPn ov sa cp po li mk 1)) x (cMp lr pa sp ln rf (ac + 1) kn)) (fun E M' => False) := by
  refine z_Xi_of _ _ h_st rfl rfl (Nat.le_of_ble_eq_true rfl) (fun X hl hG C ret thr prp => ?_)
  subst hl; subst hG
  have C : z_C X cX3_reader RX3 5 (z_rm 12 8 48) := C
  show z_W X M 0 0 0 [(0, .ref x), (1, .int pane), (2, .int other)] []
  refine z_aload_n C dX3_reader_0 rfl 0 rfl ?_
  refine z_iload_n C dX3_reader_1 rfl 1 rfl ?_
  refine z_callXVr (rest := []) (k' := 1) (n' := 6) C (c_X3_paneOf (z_l X) (z_G X) h_st h_x h_pa h_p h_ip h_ij h_fp) (cs_X3_49 C (by decide)) h_x rfl rfl rfl rfl (Nat.le_of_ble_eq_true rfl) rfl rfl (by decide) (by decide) dX3_reader_2 (fun E M' hq => ?_) (fun x2 M' hq => ?_)
  · exact hq.elim
  · skip
    obtain ⟨hr2, rfl⟩ := hq
    rw [hr2]
    refine z_astore_n (lv' := [(3, .ref p), (0, .ref x), (1, .int pane), (2, .int other)]) C dX3_reader_5 rfl (by decide) rfl ?_
    refine z_aload_n C dX3_reader_6 rfl 1 rfl ?_
    refine z_iload_n C dX3_reader_7 rfl 3 rfl ?_
    refine z_callXVr (rest := []) (k' := 2) (n' := 12) C (c_X3_paneOf (z_l X) (z_G X) h_st h_x h_pa h_p h_ip2 h_ij2 h_fp2) (cs_X3_49 C (by decide)) h_x rfl rfl rfl rfl (Nat.le_of_ble_eq_true rfl) rfl rfl (by decide) (by decide) dX3_reader_8 (fun E M' hq => ?_) (fun x8 M' hq => ?_)
    · exact hq.elim
    · skip
      obtain ⟨hr8, rfl⟩ := hq
      rw [hr8]
      refine z_astore (lv' := [(4, .ref p), (3, .ref p), (0, .ref x), (1, .int pane), (2, .int other)]) C dX3_reader_11 (by decide) rfl ?_
      refine z_aload_n C dX3_reader_13 rfl 1 rfl ?_
      refine z_aload C dX3_reader_14 0 rfl ?_
      refine z_callVv (rest := []) (k' := 2) (n' := 12) C (c_X1_becomeTwin_s (z_l X) (z_G X) h_p h_b1 h_b2) (cs_X3_70 C (by decide)) h_p rfl rfl rfl rfl (Nat.le_of_ble_eq_true rfl) rfl rfl (by decide) (by decide) dX3_reader_16 (fun M' hq => ?_)
      obtain rfl := hq
      refine z_aload_n C dX3_reader_19 rfl 1 rfl ?_
      refine z_iconst C (v := 1) dX3_reader_20 (by decide) ?_
      refine pg_X3_89 C rfl rfl dX3_reader_21 ?_
      refine z_aload_n C dX3_reader_24 rfl 2 rfl ?_
      refine z_aload_n C dX3_reader_25 rfl 1 rfl ?_
      refine z_callVi (rest := [.ref x]) (k' := 2) (n' := 12) C (c_X1_left (z_l X) (z_G X) (z_up_s _ _ _)) (cs_X3_74 C (by decide)) (z_up_s _ _ _) rfl rfl rfl rfl (Nat.le_of_ble_eq_true rfl) rfl rfl (by decide) (by decide) dX3_reader_26 (fun x26 M' hq => ?_)
      obtain ⟨rfl, rfl⟩ := hq
      refine z_callVi (rest := []) (k' := 2) (n' := 12) C (c_X3_done (z_l X) (z_G X) ((z_up_n _ _ (z_ne h_x h_p (by intro h; cases h))).trans h_x)) (cs_X3_66 C (by decide)) ((z_up_n _ _ (z_ne h_x h_p (by intro h; cases h))).trans h_x) rfl rfl rfl rfl (Nat.le_of_ble_eq_true rfl) rfl rfl (by decide) (by decide) dX3_reader_29 (fun x29 M' hq => ?_)
      obtain ⟨rfl, rfl⟩ := hq
      exact ret dX3_reader_32 rfl (⟨rfl, rfl⟩) (by decide) (by decide)
set_option maxRecDepth 20000 in
theorem c_X3_rest_bad (l : Launch) (G : zG) (h_st : l.stackTraces = false) {M : zM} {x : Nat} {pane : Int32} {other : Int32} {lr : Nat} {pa : Nat} {sp : Nat} {ln : Nat} {rf : Nat} {ac : Int32} {kn : Int32} {fp : Nat → Option Nat}  (h_x : M x = some (cMp lr pa sp ln rf ac kn)) (h_pa : M pa = some (aP G 6 fp)) (h_ip : ¬ vp_in pane 6) : z_Xi l G qX3_rest (z_rm 12 8 48) [.ref x, .int pane, .int other] M (fun r M' => False) (fun E M' => ((pane < 0) ∧ E = "java/lang/IndexOutOfBoundsException" ∧ M' = M) ∨ ((¬ pane < 0) ∧ E = "java/lang/IndexOutOfBoundsException" ∧ M' = M)) := by
  refine z_Xi_of _ _ h_st rfl rfl (Nat.le_of_ble_eq_true rfl) (fun X hl hG C ret thr prp => ?_)
  subst hl; subst hG
  have C : z_C X cX3_rest RX3 5 (z_rm 12 8 48) := C
  show z_W X M 0 0 0 [(0, .ref x), (1, .int pane), (2, .int other)] []
  refine z_aload_n C dX3_rest_0 rfl 0 rfl ?_
  refine z_iload_n C dX3_rest_1 rfl 1 rfl ?_
  refine z_callXVr (rest := []) (k' := 1) (n' := 6) C (c_X3_paneOf_bad (z_l X) (z_G X) h_st h_x h_pa h_ip) (cs_X3_49 C (by decide)) h_x rfl rfl rfl rfl (Nat.le_of_ble_eq_true rfl) rfl rfl (by decide) (by decide) dX3_rest_2 (fun E M' hq => ?_) (fun x2 M' hq => ?_)
  · obtain ⟨cx2_0, rfl, rfl⟩ | ⟨cx2_0, rfl, rfl⟩ := hq
    · exact prp (Or.inl ⟨cx2_0, rfl, rfl⟩) (by decide) (by decide)
    · exact prp (Or.inr (⟨cx2_0, rfl, rfl⟩)) (by decide) (by decide)
  · skip
    exact hq.elim
set_option maxRecDepth 20000 in
theorem c_X3_rest_bad2 (l : Launch) (G : zG) (h_st : l.stackTraces = false) {M : zM} {x : Nat} {pane : Int32} {other : Int32} {lr : Nat} {pa : Nat} {sp : Nat} {ln : Nat} {rf : Nat} {ac : Int32} {kn : Int32} {fp : Nat → Option Nat} {p : Nat} {ov : Nat} {sa : Int32} {cp : Int32} {po : Int32} {li : Int32} {mk : Int32} {rd : Int32} {i : Nat} (h_x : M x = some (cMp lr pa sp ln rf ac kn)) (h_pa : M pa = some (aP G 6 fp)) (h_p : M p = some (cPn ov sa cp po li mk rd)) (h_ip : vp_in pane 6) (h_ij : pane.toNatClampNeg = i) (h_fp : fp i = some p) (h_ip2 : ¬ vp_in other 6) : z_Xi l G qX3_rest (z_rm 12 8 48) [.ref x, .int pane, .int other] M (fun r M' => False) (fun E M' => ((other < 0) ∧ E = "java/lang/IndexOutOfBoundsException" ∧ M' = M) ∨ ((¬ other < 0) ∧ E = "java/lang/IndexOutOfBoundsException" ∧ M' = M)) := by
  refine z_Xi_of _ _ h_st rfl rfl (Nat.le_of_ble_eq_true rfl) (fun X hl hG C ret thr prp => ?_)
  subst hl; subst hG
  have C : z_C X cX3_rest RX3 5 (z_rm 12 8 48) := C
  show z_W X M 0 0 0 [(0, .ref x), (1, .int pane), (2, .int other)] []
  refine z_aload_n C dX3_rest_0 rfl 0 rfl ?_
  refine z_iload_n C dX3_rest_1 rfl 1 rfl ?_
  refine z_callXVr (rest := []) (k' := 1) (n' := 6) C (c_X3_paneOf (z_l X) (z_G X) h_st h_x h_pa h_p h_ip h_ij h_fp) (cs_X3_49 C (by decide)) h_x rfl rfl rfl rfl (Nat.le_of_ble_eq_true rfl) rfl rfl (by decide) (by decide) dX3_rest_2 (fun E M' hq => ?_) (fun x2 M' hq => ?_)
  · exact hq.elim
  · skip
    obtain ⟨hr2, rfl⟩ := hq
    rw [hr2]
    refine z_astore_n (lv' := [(3, .ref p), (0, .ref x), (1, .int pane), (2, .int other)]) C dX3_rest_5 rfl (by decide) rfl ?_
    refine z_aload_n C dX3_rest_6 rfl 1 rfl ?_
    refine z_iload_n C dX3_rest_7 rfl 3 rfl ?_
    refine z_callXVr (rest := []) (k' := 2) (n' := 12) C (c_X3_paneOf_bad (z_l X) (z_G X) h_st h_x h_pa h_ip2) (cs_X3_49 C (by decide)) h_x rfl rfl rfl rfl (Nat.le_of_ble_eq_true rfl) rfl rfl (by decide) (by decide) dX3_rest_8 (fun E M' hq => ?_) (fun x8 M' hq => ?_)
    · obtain ⟨cx8_0, rfl, rfl⟩ | ⟨cx8_0, rfl, rfl⟩ := hq
      · exact prp (Or.inl ⟨cx8_0, rfl, rfl⟩) (by decide) (by decide)
      · exact prp (Or.inr (⟨cx8_0, rfl, rfl⟩)) (by decide) (by decide)
    · skip
      exact hq.elim
set_option maxRecDepth 20000 in
theorem c_X3_rest (l : Launch) (G : zG) (h_st : l.stackTraces = false) {M : zM} {x : Nat} {pane : Int32} {other : Int32} {lr : Nat} {pa : Nat} {sp : Nat} {ln : Nat} {rf : Nat} {ac : Int32} {kn : Int32} {fr : Nat → Int32} {fp : Nat → Option Nat} {p : Nat} {ov : Nat} {sa : Int32} {cp : Int32} {po : Int32} {li : Int32} {mk : Int32} {rd : Int32} {o : Nat} {ov2 : Nat} {sa2 : Int32} {cp2 : Int32} {po2 : Int32} {li2 : Int32} {mk2 : Int32} {rd2 : Int32} {i i2 : Nat}  (h_x : M x = some (cMp lr pa sp ln rf ac kn)) (h_rf : M rf = some (aI G 6 fr)) (h_pa : M pa = some (aP G 6 fp)) (h_p : M p = some (cPn ov sa cp po li mk rd)) (h_o : M o = some (cPn ov2 sa2 cp2 po2 li2 mk2 rd2)) (h_ip : vp_in pane 6) (h_ij : pane.toNatClampNeg = i) (h_fp : fp i = some p) (h_ip2 : vp_in other 6) (h_ij2 : other.toNatClampNeg = i2) (h_fp2 : fp i2 = some o) (h_po : p ≠ o) (h_b1 : narrow .boolean (.int rd2) = .int rd2) (h_b2 : fits .boolean (.int rd2) = true) : z_Xi l G qX3_rest (z_rm 12 8 48) [.ref x, .int pane, .int other] M (fun r M' => r = (li2 - po2) ∧ M' = z_up (z_up M p (cPn ov2 (sa2 + po2) (li2 - po2) 0 (li2 - po2) (-1) rd2)) x (cMp lr pa sp ln rf (ac + 1) kn)) (fun E M' => False) := by
  refine z_Xi_of _ _ h_st rfl rfl (Nat.le_of_ble_eq_true rfl) (fun X hl hG C ret thr prp => ?_)
  subst hl; subst hG
  have C : z_C X cX3_rest RX3 5 (z_rm 12 8 48) := C
  show z_W X M 0 0 0 [(0, .ref x), (1, .int pane), (2, .int other)] []
  refine z_aload_n C dX3_rest_0 rfl 0 rfl ?_
  refine z_iload_n C dX3_rest_1 rfl 1 rfl ?_
  refine z_callXVr (rest := []) (k' := 1) (n' := 6) C (c_X3_paneOf (z_l X) (z_G X) h_st h_x h_pa h_p h_ip h_ij h_fp) (cs_X3_49 C (by decide)) h_x rfl rfl rfl rfl (Nat.le_of_ble_eq_true rfl) rfl rfl (by decide) (by decide) dX3_rest_2 (fun E M' hq => ?_) (fun x2 M' hq => ?_)
  · exact hq.elim
  · skip
    obtain ⟨hr2, rfl⟩ := hq
    rw [hr2]
    refine z_astore_n (lv' := [(3, .ref p), (0, .ref x), (1, .int pane), (2, .int other)]) C dX3_rest_5 rfl (by decide) rfl ?_
    refine z_aload_n C dX3_rest_6 rfl 1 rfl ?_
    refine z_iload_n C dX3_rest_7 rfl 3 rfl ?_
    refine z_callXVr (rest := []) (k' := 2) (n' := 12) C (c_X3_paneOf (z_l X) (z_G X) h_st h_x h_pa h_o h_ip2 h_ij2 h_fp2) (cs_X3_49 C (by decide)) h_x rfl rfl rfl rfl (Nat.le_of_ble_eq_true rfl) rfl rfl (by decide) (by decide) dX3_rest_8 (fun E M' hq => ?_) (fun x8 M' hq => ?_)
    · exact hq.elim
    · skip
      obtain ⟨hr8, rfl⟩ := hq
      rw [hr8]
      refine z_astore (lv' := [(4, .ref o), (3, .ref p), (0, .ref x), (1, .int pane), (2, .int other)]) C dX3_rest_11 (by decide) rfl ?_
      refine z_aload_n C dX3_rest_13 rfl 1 rfl ?_
      refine z_aload C dX3_rest_14 0 rfl ?_
      refine z_aload C dX3_rest_16 0 rfl ?_
      refine gf_X3_60 C h_o dX3_rest_18 ?_
      refine z_aload C dX3_rest_21 0 rfl ?_
      refine z_callVi (rest := [.int po2, .ref o, .ref p]) (k' := 2) (n' := 12) C (c_X1_left (z_l X) (z_G X) h_o) (cs_X3_74 C (by decide)) h_o rfl rfl rfl rfl (Nat.le_of_ble_eq_true rfl) rfl rfl (by decide) (by decide) dX3_rest_23 (fun x23 M' hq => ?_)
      obtain ⟨rfl, rfl⟩ := hq
      refine z_callVv (rest := []) (k' := 2) (n' := 12) C (c_X1_becomePart (z_l X) (z_G X) h_p h_o h_po h_b1 h_b2) (cs_X3_78 C (by decide)) h_p rfl rfl rfl rfl (Nat.le_of_ble_eq_true rfl) rfl rfl (by decide) (by decide) dX3_rest_26 (fun M' hq => ?_)
      obtain rfl := hq
      refine z_aload_n C dX3_rest_29 rfl 2 rfl ?_
      refine z_aload_n C dX3_rest_30 rfl 1 rfl ?_
      refine gf_X3_63 C (z_up_s _ _ _) dX3_rest_31 ?_
      refine z_callVi (rest := []) (k' := 2) (n' := 12) C (c_X3_done (z_l X) (z_G X) ((z_up_n _ _ (z_ne h_x h_p (by intro h; cases h))).trans h_x)) (cs_X3_66 C (by decide)) ((z_up_n _ _ (z_ne h_x h_p (by intro h; cases h))).trans h_x) rfl rfl rfl rfl (Nat.le_of_ble_eq_true rfl) rfl rfl (by decide) (by decide) dX3_rest_34 (fun x34 M' hq => ?_)
      obtain ⟨rfl, rfl⟩ := hq
      exact ret dX3_rest_37 rfl (⟨rfl, rfl⟩) (by decide) (by decide)
set_option maxRecDepth 20000 in
theorem c_X3_rest_s (l : Launch) (G : zG) (h_st : l.stackTraces = false) {M : zM} {x : Nat} {pane : Int32} {other : Int32} {lr : Nat} {pa : Nat} {sp : Nat} {ln : Nat} {rf : Nat} {ac : Int32} {kn : Int32} {fr : Nat → Int32} {fp : Nat → Option Nat} {p : Nat} {ov : Nat} {sa : Int32} {cp : Int32} {po : Int32} {li : Int32} {mk : Int32} {rd : Int32} {i i2 : Nat}  (h_x : M x = some (cMp lr pa sp ln rf ac kn)) (h_rf : M rf = some (aI G 6 fr)) (h_pa : M pa = some (aP G 6 fp)) (h_p : M p = some (cPn ov sa cp po li mk rd)) (h_ip : vp_in pane 6) (h_ij : pane.toNatClampNeg = i) (h_fp : fp i = some p) (h_ip2 : vp_in other 6) (h_ij2 : other.toNatClampNeg = i2) (h_fp2 : fp i2 = some p) (h_b1 : narrow .boolean (.int rd) = .int rd) (h_b2 : fits .boolean (.int rd) = true) : z_Xi l G qX3_rest (z_rm 12 8 48) [.ref x, .int pane, .int other] M (fun r M' => r = (li - po) ∧ M' = z_up (z_up M p (cPn ov (sa + po) (li - po) 0 (li - po) (-1) rd)) x (cMp lr pa sp ln rf (ac + 1) kn)) (fun E M' => False) := by
  refine z_Xi_of _ _ h_st rfl rfl (Nat.le_of_ble_eq_true rfl) (fun X hl hG C ret thr prp => ?_)
  subst hl; subst hG
  have C : z_C X cX3_rest RX3 5 (z_rm 12 8 48) := C
  show z_W X M 0 0 0 [(0, .ref x), (1, .int pane), (2, .int other)] []
  refine z_aload_n C dX3_rest_0 rfl 0 rfl ?_
  refine z_iload_n C dX3_rest_1 rfl 1 rfl ?_
  refine z_callXVr (rest := []) (k' := 1) (n' := 6) C (c_X3_paneOf (z_l X) (z_G X) h_st h_x h_pa h_p h_ip h_ij h_fp) (cs_X3_49 C (by decide)) h_x rfl rfl rfl rfl (Nat.le_of_ble_eq_true rfl) rfl rfl (by decide) (by decide) dX3_rest_2 (fun E M' hq => ?_) (fun x2 M' hq => ?_)
  · exact hq.elim
  · skip
    obtain ⟨hr2, rfl⟩ := hq
    rw [hr2]
    refine z_astore_n (lv' := [(3, .ref p), (0, .ref x), (1, .int pane), (2, .int other)]) C dX3_rest_5 rfl (by decide) rfl ?_
    refine z_aload_n C dX3_rest_6 rfl 1 rfl ?_
    refine z_iload_n C dX3_rest_7 rfl 3 rfl ?_
    refine z_callXVr (rest := []) (k' := 2) (n' := 12) C (c_X3_paneOf (z_l X) (z_G X) h_st h_x h_pa h_p h_ip2 h_ij2 h_fp2) (cs_X3_49 C (by decide)) h_x rfl rfl rfl rfl (Nat.le_of_ble_eq_true rfl) rfl rfl (by decide) (by decide) dX3_rest_8 (fun E M' hq => ?_) (fun x8 M' hq => ?_)
    · exact hq.elim
    · skip
      obtain ⟨hr8, rfl⟩ := hq
      rw [hr8]
      refine z_astore (lv' := [(4, .ref p), (3, .ref p), (0, .ref x), (1, .int pane), (2, .int other)]) C dX3_rest_11 (by decide) rfl ?_
      refine z_aload_n C dX3_rest_13 rfl 1 rfl ?_
      refine z_aload C dX3_rest_14 0 rfl ?_
      refine z_aload C dX3_rest_16 0 rfl ?_
      refine gf_X3_60 C h_p dX3_rest_18 ?_
      refine z_aload C dX3_rest_21 0 rfl ?_
      refine z_callVi (rest := [.int po, .ref p, .ref p]) (k' := 2) (n' := 12) C (c_X1_left (z_l X) (z_G X) h_p) (cs_X3_74 C (by decide)) h_p rfl rfl rfl rfl (Nat.le_of_ble_eq_true rfl) rfl rfl (by decide) (by decide) dX3_rest_23 (fun x23 M' hq => ?_)
      obtain ⟨rfl, rfl⟩ := hq
      refine z_callVv (rest := []) (k' := 2) (n' := 12) C (c_X1_becomePart_s (z_l X) (z_G X) h_p h_b1 h_b2) (cs_X3_78 C (by decide)) h_p rfl rfl rfl rfl (Nat.le_of_ble_eq_true rfl) rfl rfl (by decide) (by decide) dX3_rest_26 (fun M' hq => ?_)
      obtain rfl := hq
      refine z_aload_n C dX3_rest_29 rfl 2 rfl ?_
      refine z_aload_n C dX3_rest_30 rfl 1 rfl ?_
      refine gf_X3_63 C (z_up_s _ _ _) dX3_rest_31 ?_
      refine z_callVi (rest := []) (k' := 2) (n' := 12) C (c_X3_done (z_l X) (z_G X) ((z_up_n _ _ (z_ne h_x h_p (by intro h; cases h))).trans h_x)) (cs_X3_66 C (by decide)) ((z_up_n _ _ (z_ne h_x h_p (by intro h; cases h))).trans h_x) rfl rfl rfl rfl (Nat.le_of_ble_eq_true rfl) rfl rfl (by decide) (by decide) dX3_rest_34 (fun x34 M' hq => ?_)
      obtain ⟨rfl, rfl⟩ := hq
      exact ret dX3_rest_37 rfl (⟨rfl, rfl⟩) (by decide) (by decide)
set_option maxRecDepth 20000 in
theorem c_X3_part_bad (l : Launch) (G : zG) (h_st : l.stackTraces = false) {M : zM} {x : Nat} {pane : Int32} {other : Int32} {ix0 : Int32} {mn : Int32} {lr : Nat} {pa : Nat} {sp : Nat} {ln : Nat} {rf : Nat} {ac : Int32} {kn : Int32} {fp : Nat → Option Nat}  (h_x : M x = some (cMp lr pa sp ln rf ac kn)) (h_pa : M pa = some (aP G 6 fp)) (h_ip : ¬ vp_in pane 6) : z_Xi l G qX3_part (z_rm 12 8 48) [.ref x, .int pane, .int other, .int ix0, .int mn] M (fun r M' => False) (fun E M' => ((pane < 0) ∧ E = "java/lang/IndexOutOfBoundsException" ∧ M' = M) ∨ ((¬ pane < 0) ∧ E = "java/lang/IndexOutOfBoundsException" ∧ M' = M)) := by
  refine z_Xi_of _ _ h_st rfl rfl (Nat.le_of_ble_eq_true rfl) (fun X hl hG C ret thr prp => ?_)
  subst hl; subst hG
  have C : z_C X cX3_part RX3 7 (z_rm 12 8 48) := C
  show z_W X M 0 0 0 [(0, .ref x), (1, .int pane), (2, .int other), (3, .int ix0), (4, .int mn)] []
  refine z_aload_n C dX3_part_0 rfl 0 rfl ?_
  refine z_iload_n C dX3_part_1 rfl 1 rfl ?_
  refine z_callXVr (rest := []) (k' := 1) (n' := 6) C (c_X3_paneOf_bad (z_l X) (z_G X) h_st h_x h_pa h_ip) (cs_X3_49 C (by decide)) h_x rfl rfl rfl rfl (Nat.le_of_ble_eq_true rfl) rfl rfl (by decide) (by decide) dX3_part_2 (fun E M' hq => ?_) (fun x2 M' hq => ?_)
  · obtain ⟨cx2_0, rfl, rfl⟩ | ⟨cx2_0, rfl, rfl⟩ := hq
    · exact prp (Or.inl ⟨cx2_0, rfl, rfl⟩) (by decide) (by decide)
    · exact prp (Or.inr (⟨cx2_0, rfl, rfl⟩)) (by decide) (by decide)
  · skip
    exact hq.elim
set_option maxRecDepth 20000 in
theorem c_X3_part_bad2 (l : Launch) (G : zG) (h_st : l.stackTraces = false) {M : zM} {x : Nat} {pane : Int32} {other : Int32} {ix0 : Int32} {mn : Int32} {lr : Nat} {pa : Nat} {sp : Nat} {ln : Nat} {rf : Nat} {ac : Int32} {kn : Int32} {fp : Nat → Option Nat} {p : Nat} {ov : Nat} {sa : Int32} {cp : Int32} {po : Int32} {li : Int32} {mk : Int32} {rd : Int32} {i : Nat} (h_x : M x = some (cMp lr pa sp ln rf ac kn)) (h_pa : M pa = some (aP G 6 fp)) (h_p : M p = some (cPn ov sa cp po li mk rd)) (h_ip : vp_in pane 6) (h_ij : pane.toNatClampNeg = i) (h_fp : fp i = some p) (h_ip2 : ¬ vp_in other 6) : z_Xi l G qX3_part (z_rm 12 8 48) [.ref x, .int pane, .int other, .int ix0, .int mn] M (fun r M' => False) (fun E M' => ((other < 0) ∧ E = "java/lang/IndexOutOfBoundsException" ∧ M' = M) ∨ ((¬ other < 0) ∧ E = "java/lang/IndexOutOfBoundsException" ∧ M' = M)) := by
  refine z_Xi_of _ _ h_st rfl rfl (Nat.le_of_ble_eq_true rfl) (fun X hl hG C ret thr prp => ?_)
  subst hl; subst hG
  have C : z_C X cX3_part RX3 7 (z_rm 12 8 48) := C
  show z_W X M 0 0 0 [(0, .ref x), (1, .int pane), (2, .int other), (3, .int ix0), (4, .int mn)] []
  refine z_aload_n C dX3_part_0 rfl 0 rfl ?_
  refine z_iload_n C dX3_part_1 rfl 1 rfl ?_
  refine z_callXVr (rest := []) (k' := 1) (n' := 6) C (c_X3_paneOf (z_l X) (z_G X) h_st h_x h_pa h_p h_ip h_ij h_fp) (cs_X3_49 C (by decide)) h_x rfl rfl rfl rfl (Nat.le_of_ble_eq_true rfl) rfl rfl (by decide) (by decide) dX3_part_2 (fun E M' hq => ?_) (fun x2 M' hq => ?_)
  · exact hq.elim
  · skip
    obtain ⟨hr2, rfl⟩ := hq
    rw [hr2]
    refine z_astore (lv' := [(5, .ref p), (0, .ref x), (1, .int pane), (2, .int other), (3, .int ix0), (4, .int mn)]) C dX3_part_5 (by decide) rfl ?_
    refine z_aload_n C dX3_part_7 rfl 1 rfl ?_
    refine z_iload_n C dX3_part_8 rfl 3 rfl ?_
    refine z_callXVr (rest := []) (k' := 2) (n' := 12) C (c_X3_paneOf_bad (z_l X) (z_G X) h_st h_x h_pa h_ip2) (cs_X3_49 C (by decide)) h_x rfl rfl rfl rfl (Nat.le_of_ble_eq_true rfl) rfl rfl (by decide) (by decide) dX3_part_9 (fun E M' hq => ?_) (fun x9 M' hq => ?_)
    · obtain ⟨cx9_0, rfl, rfl⟩ | ⟨cx9_0, rfl, rfl⟩ := hq
      · exact prp (Or.inl ⟨cx9_0, rfl, rfl⟩) (by decide) (by decide)
      · exact prp (Or.inr (⟨cx9_0, rfl, rfl⟩)) (by decide) (by decide)
    · skip
      exact hq.elim
set_option maxRecDepth 20000 in
theorem c_X3_part (l : Launch) (G : zG) (h_st : l.stackTraces = false) {M : zM} {x : Nat} {pane : Int32} {other : Int32} {ix0 : Int32} {mn : Int32} {lr : Nat} {pa : Nat} {sp : Nat} {ln : Nat} {rf : Nat} {ac : Int32} {kn : Int32} {fr : Nat → Int32} {fp : Nat → Option Nat} {p : Nat} {ov : Nat} {sa : Int32} {cp : Int32} {po : Int32} {li : Int32} {mk : Int32} {rd : Int32} {o : Nat} {ov2 : Nat} {sa2 : Int32} {cp2 : Int32} {po2 : Int32} {li2 : Int32} {mk2 : Int32} {rd2 : Int32} {i i2 : Nat}  (h_x : M x = some (cMp lr pa sp ln rf ac kn)) (h_rf : M rf = some (aI G 6 fr)) (h_pa : M pa = some (aP G 6 fp)) (h_p : M p = some (cPn ov sa cp po li mk rd)) (h_o : M o = some (cPn ov2 sa2 cp2 po2 li2 mk2 rd2)) (h_ip : vp_in pane 6) (h_ij : pane.toNatClampNeg = i) (h_fp : fp i = some p) (h_ip2 : vp_in other 6) (h_ij2 : other.toNatClampNeg = i2) (h_fp2 : fp i2 = some o) (h_po : p ≠ o) (h_b1 : narrow .boolean (.int rd2) = .int rd2) (h_b2 : fits .boolean (.int rd2) = true) : z_Xi l G qX3_part (z_rm 12 8 48) [.ref x, .int pane, .int other, .int ix0, .int mn] M (fun r M' => (((z_is ix0 0 li2) = 0) ∧ r = (-9) ∧ M' = z_up M rf (aI G 6 (upd fr 5 ((fr 5) + 1)))) ∨ ((¬ (z_is ix0 0 li2) = 0) ∧ (¬ (z_is mn 0 (li2 - ix0)) = 0) ∧ r = mn ∧ M' = z_up (z_up M p (cPn ov2 (sa2 + ix0) mn 0 mn (-1) rd2)) x (cMp lr pa sp ln rf (ac + 1) kn)) ∨ ((¬ (z_is ix0 0 li2) = 0) ∧ ((z_is mn 0 (li2 - ix0)) = 0) ∧ r = (-9) ∧ M' = z_up M rf (aI G 6 (upd fr 5 ((fr 5) + 1))))) (fun E M' => False) := by
  refine z_Xi_of _ _ h_st rfl rfl (Nat.le_of_ble_eq_true rfl) (fun X hl hG C ret thr prp => ?_)
  subst hl; subst hG
  have C : z_C X cX3_part RX3 7 (z_rm 12 8 48) := C
  show z_W X M 0 0 0 [(0, .ref x), (1, .int pane), (2, .int other), (3, .int ix0), (4, .int mn)] []
  refine z_aload_n C dX3_part_0 rfl 0 rfl ?_
  refine z_iload_n C dX3_part_1 rfl 1 rfl ?_
  refine z_callXVr (rest := []) (k' := 1) (n' := 6) C (c_X3_paneOf (z_l X) (z_G X) h_st h_x h_pa h_p h_ip h_ij h_fp) (cs_X3_49 C (by decide)) h_x rfl rfl rfl rfl (Nat.le_of_ble_eq_true rfl) rfl rfl (by decide) (by decide) dX3_part_2 (fun E M' hq => ?_) (fun x2 M' hq => ?_)
  · exact hq.elim
  · skip
    obtain ⟨hr2, rfl⟩ := hq
    rw [hr2]
    refine z_astore (lv' := [(5, .ref p), (0, .ref x), (1, .int pane), (2, .int other), (3, .int ix0), (4, .int mn)]) C dX3_part_5 (by decide) rfl ?_
    refine z_aload_n C dX3_part_7 rfl 1 rfl ?_
    refine z_iload_n C dX3_part_8 rfl 3 rfl ?_
    refine z_callXVr (rest := []) (k' := 2) (n' := 12) C (c_X3_paneOf (z_l X) (z_G X) h_st h_x h_pa h_o h_ip2 h_ij2 h_fp2) (cs_X3_49 C (by decide)) h_x rfl rfl rfl rfl (Nat.le_of_ble_eq_true rfl) rfl rfl (by decide) (by decide) dX3_part_9 (fun E M' hq => ?_) (fun x9 M' hq => ?_)
    · exact hq.elim
    · skip
      obtain ⟨hr9, rfl⟩ := hq
      rw [hr9]
      refine z_astore (lv' := [(6, .ref o), (5, .ref p), (0, .ref x), (1, .int pane), (2, .int other), (3, .int ix0), (4, .int mn)]) C dX3_part_12 (by decide) rfl ?_
      refine z_iload_n C dX3_part_14 rfl 5 rfl ?_
      refine z_iconst C (v := 0) dX3_part_15 (by decide) ?_
      refine z_aload C dX3_part_16 0 rfl ?_
      refine gf_X3_63 C h_o dX3_part_18 ?_
      refine z_callSi (rest := []) (k' := 2) (n' := 12) C (c_X3_isWithin (z_l X) (z_G X) ) (cs_X3_82 C (by decide)) rfl rfl (Nat.le_of_ble_eq_true rfl) rfl rfl (by decide) (by decide) dX3_part_21 (fun x21 M' hq => ?_)
      obtain ⟨rfl, rfl⟩ := hq
      refine z_if_eq C (tgt := 43) dX3_part_24 (by decide) (fun c24 => ?_) (fun c24 => ?_)
      · refine z_aload_n C dX3_part_43 rfl 2 rfl ?_
        refine z_iconst C (v := 5) dX3_part_44 (by decide) ?_
        refine z_callVi (rest := []) (k' := 2) (n' := 12) C (c_X3_refuse (z_l X) (z_G X) h_x h_rf (z_inL (by decide)) (show (5 : Int32).toNatClampNeg = 5 by decide)) (cs_X3_86 C (by decide)) h_x rfl rfl rfl rfl (Nat.le_of_ble_eq_true rfl) rfl rfl (by decide) (by decide) dX3_part_45 (fun x45 M' hq => ?_)
        obtain ⟨rfl, rfl⟩ := hq
        exact ret dX3_part_48 rfl (Or.inl ⟨c24, rfl, rfl⟩) (by decide) (by decide)
      · refine z_iload C dX3_part_27 6 rfl ?_
        refine z_iconst C (v := 0) dX3_part_29 (by decide) ?_
        refine z_aload C dX3_part_30 0 rfl ?_
        refine gf_X3_63 C h_o dX3_part_32 ?_
        refine z_iload_n C dX3_part_35 rfl 5 rfl ?_
        refine z_isub C dX3_part_36 ?_
        refine z_callSi (rest := []) (k' := 2) (n' := 12) C (c_X3_isWithin (z_l X) (z_G X) ) (cs_X3_82 C (by decide)) rfl rfl (Nat.le_of_ble_eq_true rfl) rfl rfl (by decide) (by decide) dX3_part_37 (fun x37 M' hq => ?_)
        obtain ⟨rfl, rfl⟩ := hq
        refine z_if_ne C (tgt := 49) dX3_part_40 (by decide) (fun c40 => ?_) (fun c40 => ?_)
        · refine z_aload C dX3_part_49 1 rfl ?_
          refine z_aload C dX3_part_51 0 rfl ?_
          refine z_iload_n C dX3_part_53 rfl 5 rfl ?_
          refine z_iload C dX3_part_54 6 rfl ?_
          refine z_callVv (rest := []) (k' := 2) (n' := 12) C (c_X1_becomePart (z_l X) (z_G X) h_p h_o h_po h_b1 h_b2) (cs_X3_78 C (by decide)) h_p rfl rfl rfl rfl (Nat.le_of_ble_eq_true rfl) rfl rfl (by decide) (by decide) dX3_part_56 (fun M' hq => ?_)
          obtain rfl := hq
          refine z_aload_n C dX3_part_59 rfl 2 rfl ?_
          refine z_aload C dX3_part_60 1 rfl ?_
          refine gf_X3_63 C (z_up_s _ _ _) dX3_part_62 ?_
          refine z_callVi (rest := []) (k' := 2) (n' := 12) C (c_X3_done (z_l X) (z_G X) ((z_up_n _ _ (z_ne h_x h_p (by intro h; cases h))).trans h_x)) (cs_X3_66 C (by decide)) ((z_up_n _ _ (z_ne h_x h_p (by intro h; cases h))).trans h_x) rfl rfl rfl rfl (Nat.le_of_ble_eq_true rfl) rfl rfl (by decide) (by decide) dX3_part_65 (fun x65 M' hq => ?_)
          obtain ⟨hr65, rfl⟩ := hq
          rw [hr65]
          exact ret dX3_part_68 rfl (Or.inr (Or.inl ⟨c24, c40, rfl, rfl⟩)) (by decide) (by decide)
        · refine z_aload_n C dX3_part_43 rfl 2 rfl ?_
          refine z_iconst C (v := 5) dX3_part_44 (by decide) ?_
          refine z_callVi (rest := []) (k' := 2) (n' := 12) C (c_X3_refuse (z_l X) (z_G X) h_x h_rf (z_inL (by decide)) (show (5 : Int32).toNatClampNeg = 5 by decide)) (cs_X3_86 C (by decide)) h_x rfl rfl rfl rfl (Nat.le_of_ble_eq_true rfl) rfl rfl (by decide) (by decide) dX3_part_45 (fun x45 M' hq => ?_)
          obtain ⟨rfl, rfl⟩ := hq
          exact ret dX3_part_48 rfl (Or.inr (Or.inr (⟨c24, c40, rfl, rfl⟩))) (by decide) (by decide)
set_option maxRecDepth 20000 in
theorem c_X3_part_s (l : Launch) (G : zG) (h_st : l.stackTraces = false) {M : zM} {x : Nat} {pane : Int32} {other : Int32} {ix0 : Int32} {mn : Int32} {lr : Nat} {pa : Nat} {sp : Nat} {ln : Nat} {rf : Nat} {ac : Int32} {kn : Int32} {fr : Nat → Int32} {fp : Nat → Option Nat} {p : Nat} {ov : Nat} {sa : Int32} {cp : Int32} {po : Int32} {li : Int32} {mk : Int32} {rd : Int32} {i i2 : Nat}  (h_x : M x = some (cMp lr pa sp ln rf ac kn)) (h_rf : M rf = some (aI G 6 fr)) (h_pa : M pa = some (aP G 6 fp)) (h_p : M p = some (cPn ov sa cp po li mk rd)) (h_ip : vp_in pane 6) (h_ij : pane.toNatClampNeg = i) (h_fp : fp i = some p) (h_ip2 : vp_in other 6) (h_ij2 : other.toNatClampNeg = i2) (h_fp2 : fp i2 = some p) (h_b1 : narrow .boolean (.int rd) = .int rd) (h_b2 : fits .boolean (.int rd) = true) : z_Xi l G qX3_part (z_rm 12 8 48) [.ref x, .int pane, .int other, .int ix0, .int mn] M (fun r M' => (((z_is ix0 0 li) = 0) ∧ r = (-9) ∧ M' = z_up M rf (aI G 6 (upd fr 5 ((fr 5) + 1)))) ∨ ((¬ (z_is ix0 0 li) = 0) ∧ (¬ (z_is mn 0 (li - ix0)) = 0) ∧ r = mn ∧ M' = z_up (z_up M p (cPn ov (sa + ix0) mn 0 mn (-1) rd)) x (cMp lr pa sp ln rf (ac + 1) kn)) ∨ ((¬ (z_is ix0 0 li) = 0) ∧ ((z_is mn 0 (li - ix0)) = 0) ∧ r = (-9) ∧ M' = z_up M rf (aI G 6 (upd fr 5 ((fr 5) + 1))))) (fun E M' => False) := by
  refine z_Xi_of _ _ h_st rfl rfl (Nat.le_of_ble_eq_true rfl) (fun X hl hG C ret thr prp => ?_)
  subst hl; subst hG
  have C : z_C X cX3_part RX3 7 (z_rm 12 8 48) := C
  show z_W X M 0 0 0 [(0, .ref x), (1, .int pane), (2, .int other), (3, .int ix0), (4, .int mn)] []
  refine z_aload_n C dX3_part_0 rfl 0 rfl ?_
  refine z_iload_n C dX3_part_1 rfl 1 rfl ?_
  refine z_callXVr (rest := []) (k' := 1) (n' := 6) C (c_X3_paneOf (z_l X) (z_G X) h_st h_x h_pa h_p h_ip h_ij h_fp) (cs_X3_49 C (by decide)) h_x rfl rfl rfl rfl (Nat.le_of_ble_eq_true rfl) rfl rfl (by decide) (by decide) dX3_part_2 (fun E M' hq => ?_) (fun x2 M' hq => ?_)
  · exact hq.elim
  · skip
    obtain ⟨hr2, rfl⟩ := hq
    rw [hr2]
    refine z_astore (lv' := [(5, .ref p), (0, .ref x), (1, .int pane), (2, .int other), (3, .int ix0), (4, .int mn)]) C dX3_part_5 (by decide) rfl ?_
    refine z_aload_n C dX3_part_7 rfl 1 rfl ?_
    refine z_iload_n C dX3_part_8 rfl 3 rfl ?_
    refine z_callXVr (rest := []) (k' := 2) (n' := 12) C (c_X3_paneOf (z_l X) (z_G X) h_st h_x h_pa h_p h_ip2 h_ij2 h_fp2) (cs_X3_49 C (by decide)) h_x rfl rfl rfl rfl (Nat.le_of_ble_eq_true rfl) rfl rfl (by decide) (by decide) dX3_part_9 (fun E M' hq => ?_) (fun x9 M' hq => ?_)
    · exact hq.elim
    · skip
      obtain ⟨hr9, rfl⟩ := hq
      rw [hr9]
      refine z_astore (lv' := [(6, .ref p), (5, .ref p), (0, .ref x), (1, .int pane), (2, .int other), (3, .int ix0), (4, .int mn)]) C dX3_part_12 (by decide) rfl ?_
      refine z_iload_n C dX3_part_14 rfl 5 rfl ?_
      refine z_iconst C (v := 0) dX3_part_15 (by decide) ?_
      refine z_aload C dX3_part_16 0 rfl ?_
      refine gf_X3_63 C h_p dX3_part_18 ?_
      refine z_callSi (rest := []) (k' := 2) (n' := 12) C (c_X3_isWithin (z_l X) (z_G X) ) (cs_X3_82 C (by decide)) rfl rfl (Nat.le_of_ble_eq_true rfl) rfl rfl (by decide) (by decide) dX3_part_21 (fun x21 M' hq => ?_)
      obtain ⟨rfl, rfl⟩ := hq
      refine z_if_eq C (tgt := 43) dX3_part_24 (by decide) (fun c24 => ?_) (fun c24 => ?_)
      · refine z_aload_n C dX3_part_43 rfl 2 rfl ?_
        refine z_iconst C (v := 5) dX3_part_44 (by decide) ?_
        refine z_callVi (rest := []) (k' := 2) (n' := 12) C (c_X3_refuse (z_l X) (z_G X) h_x h_rf (z_inL (by decide)) (show (5 : Int32).toNatClampNeg = 5 by decide)) (cs_X3_86 C (by decide)) h_x rfl rfl rfl rfl (Nat.le_of_ble_eq_true rfl) rfl rfl (by decide) (by decide) dX3_part_45 (fun x45 M' hq => ?_)
        obtain ⟨rfl, rfl⟩ := hq
        exact ret dX3_part_48 rfl (Or.inl ⟨c24, rfl, rfl⟩) (by decide) (by decide)
      · refine z_iload C dX3_part_27 6 rfl ?_
        refine z_iconst C (v := 0) dX3_part_29 (by decide) ?_
        refine z_aload C dX3_part_30 0 rfl ?_
        refine gf_X3_63 C h_p dX3_part_32 ?_
        refine z_iload_n C dX3_part_35 rfl 5 rfl ?_
        refine z_isub C dX3_part_36 ?_
        refine z_callSi (rest := []) (k' := 2) (n' := 12) C (c_X3_isWithin (z_l X) (z_G X) ) (cs_X3_82 C (by decide)) rfl rfl (Nat.le_of_ble_eq_true rfl) rfl rfl (by decide) (by decide) dX3_part_37 (fun x37 M' hq => ?_)
        obtain ⟨rfl, rfl⟩ := hq
        refine z_if_ne C (tgt := 49) dX3_part_40 (by decide) (fun c40 => ?_) (fun c40 => ?_)
        · refine z_aload C dX3_part_49 1 rfl ?_
          refine z_aload C dX3_part_51 0 rfl ?_
          refine z_iload_n C dX3_part_53 rfl 5 rfl ?_
          refine z_iload C dX3_part_54 6 rfl ?_
          refine z_callVv (rest := []) (k' := 2) (n' := 12) C (c_X1_becomePart_s (z_l X) (z_G X) h_p h_b1 h_b2) (cs_X3_78 C (by decide)) h_p rfl rfl rfl rfl (Nat.le_of_ble_eq_true rfl) rfl rfl (by decide) (by decide) dX3_part_56 (fun M' hq => ?_)
          obtain rfl := hq
          refine z_aload_n C dX3_part_59 rfl 2 rfl ?_
          refine z_aload C dX3_part_60 1 rfl ?_
          refine gf_X3_63 C (z_up_s _ _ _) dX3_part_62 ?_
          refine z_callVi (rest := []) (k' := 2) (n' := 12) C (c_X3_done (z_l X) (z_G X) ((z_up_n _ _ (z_ne h_x h_p (by intro h; cases h))).trans h_x)) (cs_X3_66 C (by decide)) ((z_up_n _ _ (z_ne h_x h_p (by intro h; cases h))).trans h_x) rfl rfl rfl rfl (Nat.le_of_ble_eq_true rfl) rfl rfl (by decide) (by decide) dX3_part_65 (fun x65 M' hq => ?_)
          obtain ⟨hr65, rfl⟩ := hq
          rw [hr65]
          exact ret dX3_part_68 rfl (Or.inr (Or.inl ⟨c24, c40, rfl, rfl⟩)) (by decide) (by decide)
        · refine z_aload_n C dX3_part_43 rfl 2 rfl ?_
          refine z_iconst C (v := 5) dX3_part_44 (by decide) ?_
          refine z_callVi (rest := []) (k' := 2) (n' := 12) C (c_X3_refuse (z_l X) (z_G X) h_x h_rf (z_inL (by decide)) (show (5 : Int32).toNatClampNeg = 5 by decide)) (cs_X3_86 C (by decide)) h_x rfl rfl rfl rfl (Nat.le_of_ble_eq_true rfl) rfl rfl (by decide) (by decide) dX3_part_45 (fun x45 M' hq => ?_)
          obtain ⟨rfl, rfl⟩ := hq
          exact ret dX3_part_48 rfl (Or.inr (Or.inr (⟨c24, c40, rfl, rfl⟩))) (by decide) (by decide)
set_option maxRecDepth 20000 in
theorem c_X3_exchange_bad (l : Launch) (G : zG) (h_st : l.stackTraces = false) {M : zM} {x : Nat} {pane : Int32} {other : Int32} {lr : Nat} {pa : Nat} {sp : Nat} {ln : Nat} {rf : Nat} {ac : Int32} {kn : Int32} {fp : Nat → Option Nat}  (h_x : M x = some (cMp lr pa sp ln rf ac kn)) (h_pa : M pa = some (aP G 6 fp)) (h_ip : ¬ vp_in pane 6) : z_Xi l G qX3_exchange (z_rm 12 8 48) [.ref x, .int pane, .int other] M (fun r M' => False) (fun E M' => ((pane < 0) ∧ E = "java/lang/IndexOutOfBoundsException" ∧ M' = M) ∨ ((¬ pane < 0) ∧ E = "java/lang/IndexOutOfBoundsException" ∧ M' = M)) := by
  refine z_Xi_of _ _ h_st rfl rfl (Nat.le_of_ble_eq_true rfl) (fun X hl hG C ret thr prp => ?_)
  subst hl; subst hG
  have C : z_C X cX3_exchange RX3 5 (z_rm 12 8 48) := C
  show z_W X M 0 0 0 [(0, .ref x), (1, .int pane), (2, .int other)] []
  refine z_aload_n C dX3_exchange_0 rfl 0 rfl ?_
  refine z_iload_n C dX3_exchange_1 rfl 1 rfl ?_
  refine z_callXVr (rest := []) (k' := 1) (n' := 6) C (c_X3_paneOf_bad (z_l X) (z_G X) h_st h_x h_pa h_ip) (cs_X3_49 C (by decide)) h_x rfl rfl rfl rfl (Nat.le_of_ble_eq_true rfl) rfl rfl (by decide) (by decide) dX3_exchange_2 (fun E M' hq => ?_) (fun x2 M' hq => ?_)
  · obtain ⟨cx2_0, rfl, rfl⟩ | ⟨cx2_0, rfl, rfl⟩ := hq
    · exact prp (Or.inl ⟨cx2_0, rfl, rfl⟩) (by decide) (by decide)
    · exact prp (Or.inr (⟨cx2_0, rfl, rfl⟩)) (by decide) (by decide)
  · skip
    exact hq.elim
set_option maxRecDepth 20000 in
theorem c_X3_exchange_bad2 (l : Launch) (G : zG) (h_st : l.stackTraces = false) {M : zM} {x : Nat} {pane : Int32} {other : Int32} {lr : Nat} {pa : Nat} {sp : Nat} {ln : Nat} {rf : Nat} {ac : Int32} {kn : Int32} {fp : Nat → Option Nat} {p : Nat} {ov : Nat} {sa : Int32} {cp : Int32} {po : Int32} {li : Int32} {mk : Int32} {rd : Int32} {i : Nat} (h_x : M x = some (cMp lr pa sp ln rf ac kn)) (h_pa : M pa = some (aP G 6 fp)) (h_p : M p = some (cPn ov sa cp po li mk rd)) (h_ip : vp_in pane 6) (h_ij : pane.toNatClampNeg = i) (h_fp : fp i = some p) (h_ip2 : ¬ vp_in other 6) : z_Xi l G qX3_exchange (z_rm 12 8 48) [.ref x, .int pane, .int other] M (fun r M' => False) (fun E M' => ((other < 0) ∧ E = "java/lang/IndexOutOfBoundsException" ∧ M' = M) ∨ ((¬ other < 0) ∧ E = "java/lang/IndexOutOfBoundsException" ∧ M' = M)) := by
  refine z_Xi_of _ _ h_st rfl rfl (Nat.le_of_ble_eq_true rfl) (fun X hl hG C ret thr prp => ?_)
  subst hl; subst hG
  have C : z_C X cX3_exchange RX3 5 (z_rm 12 8 48) := C
  show z_W X M 0 0 0 [(0, .ref x), (1, .int pane), (2, .int other)] []
  refine z_aload_n C dX3_exchange_0 rfl 0 rfl ?_
  refine z_iload_n C dX3_exchange_1 rfl 1 rfl ?_
  refine z_callXVr (rest := []) (k' := 1) (n' := 6) C (c_X3_paneOf (z_l X) (z_G X) h_st h_x h_pa h_p h_ip h_ij h_fp) (cs_X3_49 C (by decide)) h_x rfl rfl rfl rfl (Nat.le_of_ble_eq_true rfl) rfl rfl (by decide) (by decide) dX3_exchange_2 (fun E M' hq => ?_) (fun x2 M' hq => ?_)
  · exact hq.elim
  · skip
    obtain ⟨hr2, rfl⟩ := hq
    rw [hr2]
    refine z_astore_n (lv' := [(3, .ref p), (0, .ref x), (1, .int pane), (2, .int other)]) C dX3_exchange_5 rfl (by decide) rfl ?_
    refine z_aload_n C dX3_exchange_6 rfl 1 rfl ?_
    refine z_iload_n C dX3_exchange_7 rfl 3 rfl ?_
    refine z_callXVr (rest := []) (k' := 2) (n' := 12) C (c_X3_paneOf_bad (z_l X) (z_G X) h_st h_x h_pa h_ip2) (cs_X3_49 C (by decide)) h_x rfl rfl rfl rfl (Nat.le_of_ble_eq_true rfl) rfl rfl (by decide) (by decide) dX3_exchange_8 (fun E M' hq => ?_) (fun x8 M' hq => ?_)
    · obtain ⟨cx8_0, rfl, rfl⟩ | ⟨cx8_0, rfl, rfl⟩ := hq
      · exact prp (Or.inl ⟨cx8_0, rfl, rfl⟩) (by decide) (by decide)
      · exact prp (Or.inr (⟨cx8_0, rfl, rfl⟩)) (by decide) (by decide)
    · skip
      exact hq.elim
set_option maxRecDepth 20000 in
theorem c_X3_exchange (l : Launch) (G : zG) (h_st : l.stackTraces = false) {M : zM} {x : Nat} {pane : Int32} {other : Int32} {lr : Nat} {pa : Nat} {sp : Nat} {ln : Nat} {rf : Nat} {ac : Int32} {kn : Int32} {fr : Nat → Int32} {fp : Nat → Option Nat} {p : Nat} {ov : Nat} {sa : Int32} {cp : Int32} {po : Int32} {li : Int32} {mk : Int32} {rd : Int32} {o : Nat} {ov2 : Nat} {sa2 : Int32} {cp2 : Int32} {po2 : Int32} {li2 : Int32} {mk2 : Int32} {rd2 : Int32} {i i2 : Nat}  (h_x : M x = some (cMp lr pa sp ln rf ac kn)) (h_rf : M rf = some (aI G 6 fr)) (h_pa : M pa = some (aP G 6 fp)) (h_p : M p = some (cPn ov sa cp po li mk rd)) (h_o : M o = some (cPn ov2 sa2 cp2 po2 li2 mk2 rd2)) (h_ip : vp_in pane 6) (h_ij : pane.toNatClampNeg = i) (h_fp : fp i = some p) (h_ip2 : vp_in other 6) (h_ij2 : other.toNatClampNeg = i2) (h_fp2 : fp i2 = some o) (h_po : p ≠ o) : z_Xi l G qX3_exchange (z_rm 12 8 48) [.ref x, .int pane, .int other] M (fun r M' => r = po2 ∧ M' = z_up (z_up M pa (aP G 6 (va_up (va_up fp i (some o)) i2 (some p)))) x (cMp lr pa sp ln rf (ac + 1) kn)) (fun E M' => False) := by
  refine z_Xi_of _ _ h_st rfl rfl (Nat.le_of_ble_eq_true rfl) (fun X hl hG C ret thr prp => ?_)
  subst hl; subst hG
  have C : z_C X cX3_exchange RX3 5 (z_rm 12 8 48) := C
  show z_W X M 0 0 0 [(0, .ref x), (1, .int pane), (2, .int other)] []
  refine z_aload_n C dX3_exchange_0 rfl 0 rfl ?_
  refine z_iload_n C dX3_exchange_1 rfl 1 rfl ?_
  refine z_callXVr (rest := []) (k' := 1) (n' := 6) C (c_X3_paneOf (z_l X) (z_G X) h_st h_x h_pa h_p h_ip h_ij h_fp) (cs_X3_49 C (by decide)) h_x rfl rfl rfl rfl (Nat.le_of_ble_eq_true rfl) rfl rfl (by decide) (by decide) dX3_exchange_2 (fun E M' hq => ?_) (fun x2 M' hq => ?_)
  · exact hq.elim
  · skip
    obtain ⟨hr2, rfl⟩ := hq
    rw [hr2]
    refine z_astore_n (lv' := [(3, .ref p), (0, .ref x), (1, .int pane), (2, .int other)]) C dX3_exchange_5 rfl (by decide) rfl ?_
    refine z_aload_n C dX3_exchange_6 rfl 1 rfl ?_
    refine z_iload_n C dX3_exchange_7 rfl 3 rfl ?_
    refine z_callXVr (rest := []) (k' := 2) (n' := 12) C (c_X3_paneOf (z_l X) (z_G X) h_st h_x h_pa h_o h_ip2 h_ij2 h_fp2) (cs_X3_49 C (by decide)) h_x rfl rfl rfl rfl (Nat.le_of_ble_eq_true rfl) rfl rfl (by decide) (by decide) dX3_exchange_8 (fun E M' hq => ?_) (fun x8 M' hq => ?_)
    · exact hq.elim
    · skip
      obtain ⟨hr8, rfl⟩ := hq
      rw [hr8]
      refine z_astore (lv' := [(4, .ref o), (3, .ref p), (0, .ref x), (1, .int pane), (2, .int other)]) C dX3_exchange_11 (by decide) rfl ?_
      refine z_aload_n C dX3_exchange_13 rfl 2 rfl ?_
      refine z_iload_n C dX3_exchange_14 rfl 3 rfl ?_
      refine z_aload C dX3_exchange_15 0 rfl ?_
      refine z_callVv (rest := []) (k' := 2) (n' := 12) C (c_X3_setPane (z_l X) (z_G X) h_x h_pa h_o h_ip h_ij) (cs_X3_93 C (by decide)) h_x rfl rfl rfl rfl (Nat.le_of_ble_eq_true rfl) rfl rfl (by decide) (by decide) dX3_exchange_17 (fun M' hq => ?_)
      obtain rfl := hq
      refine z_aload_n C dX3_exchange_20 rfl 2 rfl ?_
      refine z_iload_n C dX3_exchange_21 rfl 4 rfl ?_
      refine z_aload_n C dX3_exchange_22 rfl 1 rfl ?_
      refine z_callVv (rest := []) (k' := 2) (n' := 12) C (c_X3_setPane (z_l X) (z_G X) ((z_up_n _ _ (z_ne h_x h_pa (by intro h; cases h))).trans h_x) (z_up_s _ _ _) ((z_up_n _ _ (z_ne h_p h_pa (by intro h; cases h))).trans h_p) h_ip2 h_ij2) (cs_X3_93 C (by decide)) ((z_up_n _ _ (z_ne h_x h_pa (by intro h; cases h))).trans h_x) rfl rfl rfl rfl (Nat.le_of_ble_eq_true rfl) rfl rfl (by decide) (by decide) dX3_exchange_23 (fun M' hq => ?_)
      obtain rfl := hq
      rw [z_up_up]
      refine z_aload_n C dX3_exchange_26 rfl 2 rfl ?_
      refine z_aload C dX3_exchange_27 0 rfl ?_
      refine gf_X3_60 C ((z_up_n _ _ (z_ne h_o h_pa (by intro h; cases h))).trans h_o) dX3_exchange_29 ?_
      refine z_callVi (rest := []) (k' := 2) (n' := 12) C (c_X3_done (z_l X) (z_G X) ((z_up_n _ _ (z_ne h_x h_pa (by intro h; cases h))).trans h_x)) (cs_X3_66 C (by decide)) ((z_up_n _ _ (z_ne h_x h_pa (by intro h; cases h))).trans h_x) rfl rfl rfl rfl (Nat.le_of_ble_eq_true rfl) rfl rfl (by decide) (by decide) dX3_exchange_32 (fun x32 M' hq => ?_)
      obtain ⟨hr32, rfl⟩ := hq
      rw [hr32]
      exact ret dX3_exchange_35 rfl (⟨rfl, rfl⟩) (by decide) (by decide)
set_option maxRecDepth 20000 in
theorem c_X3_exchange_s (l : Launch) (G : zG) (h_st : l.stackTraces = false) {M : zM} {x : Nat} {pane : Int32} {other : Int32} {lr : Nat} {pa : Nat} {sp : Nat} {ln : Nat} {rf : Nat} {ac : Int32} {kn : Int32} {fr : Nat → Int32} {fp : Nat → Option Nat} {p : Nat} {ov : Nat} {sa : Int32} {cp : Int32} {po : Int32} {li : Int32} {mk : Int32} {rd : Int32} {i i2 : Nat}  (h_x : M x = some (cMp lr pa sp ln rf ac kn)) (h_rf : M rf = some (aI G 6 fr)) (h_pa : M pa = some (aP G 6 fp)) (h_p : M p = some (cPn ov sa cp po li mk rd)) (h_ip : vp_in pane 6) (h_ij : pane.toNatClampNeg = i) (h_fp : fp i = some p) (h_ip2 : vp_in other 6) (h_ij2 : other.toNatClampNeg = i2) (h_fp2 : fp i2 = some p) : z_Xi l G qX3_exchange (z_rm 12 8 48) [.ref x, .int pane, .int other] M (fun r M' => r = po ∧ M' = z_up (z_up M pa (aP G 6 (va_up (va_up fp i (some p)) i2 (some p)))) x (cMp lr pa sp ln rf (ac + 1) kn)) (fun E M' => False) := by
  refine z_Xi_of _ _ h_st rfl rfl (Nat.le_of_ble_eq_true rfl) (fun X hl hG C ret thr prp => ?_)
  subst hl; subst hG
  have C : z_C X cX3_exchange RX3 5 (z_rm 12 8 48) := C
  show z_W X M 0 0 0 [(0, .ref x), (1, .int pane), (2, .int other)] []
  refine z_aload_n C dX3_exchange_0 rfl 0 rfl ?_
  refine z_iload_n C dX3_exchange_1 rfl 1 rfl ?_
  refine z_callXVr (rest := []) (k' := 1) (n' := 6) C (c_X3_paneOf (z_l X) (z_G X) h_st h_x h_pa h_p h_ip h_ij h_fp) (cs_X3_49 C (by decide)) h_x rfl rfl rfl rfl (Nat.le_of_ble_eq_true rfl) rfl rfl (by decide) (by decide) dX3_exchange_2 (fun E M' hq => ?_) (fun x2 M' hq => ?_)
  · exact hq.elim
  · skip
    obtain ⟨hr2, rfl⟩ := hq
    rw [hr2]
    refine z_astore_n (lv' := [(3, .ref p), (0, .ref x), (1, .int pane), (2, .int other)]) C dX3_exchange_5 rfl (by decide) rfl ?_
    refine z_aload_n C dX3_exchange_6 rfl 1 rfl ?_
    refine z_iload_n C dX3_exchange_7 rfl 3 rfl ?_
    refine z_callXVr (rest := []) (k' := 2) (n' := 12) C (c_X3_paneOf (z_l X) (z_G X) h_st h_x h_pa h_p h_ip2 h_ij2 h_fp2) (cs_X3_49 C (by decide)) h_x rfl rfl rfl rfl (Nat.le_of_ble_eq_true rfl) rfl rfl (by decide) (by decide) dX3_exchange_8 (fun E M' hq => ?_) (fun x8 M' hq => ?_)
    · exact hq.elim
    · skip
      obtain ⟨hr8, rfl⟩ := hq
      rw [hr8]
      refine z_astore (lv' := [(4, .ref p), (3, .ref p), (0, .ref x), (1, .int pane), (2, .int other)]) C dX3_exchange_11 (by decide) rfl ?_
      refine z_aload_n C dX3_exchange_13 rfl 2 rfl ?_
      refine z_iload_n C dX3_exchange_14 rfl 3 rfl ?_
      refine z_aload C dX3_exchange_15 0 rfl ?_
      refine z_callVv (rest := []) (k' := 2) (n' := 12) C (c_X3_setPane (z_l X) (z_G X) h_x h_pa h_p h_ip h_ij) (cs_X3_93 C (by decide)) h_x rfl rfl rfl rfl (Nat.le_of_ble_eq_true rfl) rfl rfl (by decide) (by decide) dX3_exchange_17 (fun M' hq => ?_)
      obtain rfl := hq
      refine z_aload_n C dX3_exchange_20 rfl 2 rfl ?_
      refine z_iload_n C dX3_exchange_21 rfl 4 rfl ?_
      refine z_aload_n C dX3_exchange_22 rfl 1 rfl ?_
      refine z_callVv (rest := []) (k' := 2) (n' := 12) C (c_X3_setPane (z_l X) (z_G X) ((z_up_n _ _ (z_ne h_x h_pa (by intro h; cases h))).trans h_x) (z_up_s _ _ _) ((z_up_n _ _ (z_ne h_p h_pa (by intro h; cases h))).trans h_p) h_ip2 h_ij2) (cs_X3_93 C (by decide)) ((z_up_n _ _ (z_ne h_x h_pa (by intro h; cases h))).trans h_x) rfl rfl rfl rfl (Nat.le_of_ble_eq_true rfl) rfl rfl (by decide) (by decide) dX3_exchange_23 (fun M' hq => ?_)
      obtain rfl := hq
      rw [z_up_up]
      refine z_aload_n C dX3_exchange_26 rfl 2 rfl ?_
      refine z_aload C dX3_exchange_27 0 rfl ?_
      refine gf_X3_60 C ((z_up_n _ _ (z_ne h_p h_pa (by intro h; cases h))).trans h_p) dX3_exchange_29 ?_
      refine z_callVi (rest := []) (k' := 2) (n' := 12) C (c_X3_done (z_l X) (z_G X) ((z_up_n _ _ (z_ne h_x h_pa (by intro h; cases h))).trans h_x)) (cs_X3_66 C (by decide)) ((z_up_n _ _ (z_ne h_x h_pa (by intro h; cases h))).trans h_x) rfl rfl rfl rfl (Nat.le_of_ble_eq_true rfl) rfl rfl (by decide) (by decide) dX3_exchange_32 (fun x32 M' hq => ?_)
      obtain ⟨hr32, rfl⟩ := hq
      rw [hr32]
      exact ret dX3_exchange_35 rfl (⟨rfl, rfl⟩) (by decide) (by decide)
set_option maxRecDepth 20000 in
theorem c_X3_isKin_bad (l : Launch) (G : zG) (h_st : l.stackTraces = false) {M : zM} {x : Nat} {pane : Int32} {other : Int32} {lr : Nat} {pa : Nat} {sp : Nat} {ln : Nat} {rf : Nat} {ac : Int32} {kn : Int32} {fp : Nat → Option Nat}  (h_x : M x = some (cMp lr pa sp ln rf ac kn)) (h_pa : M pa = some (aP G 6 fp)) (h_ip : ¬ vp_in pane 6) : z_Xi l G qX3_isKin (z_rm 12 8 48) [.ref x, .int pane, .int other] M (fun r M' => False) (fun E M' => ((pane < 0) ∧ E = "java/lang/IndexOutOfBoundsException" ∧ M' = M) ∨ ((¬ pane < 0) ∧ E = "java/lang/IndexOutOfBoundsException" ∧ M' = M)) := by
  refine z_Xi_of _ _ h_st rfl rfl (Nat.le_of_ble_eq_true rfl) (fun X hl hG C ret thr prp => ?_)
  subst hl; subst hG
  have C : z_C X cX3_isKin RX3 3 (z_rm 12 8 48) := C
  show z_W X M 0 0 0 [(0, .ref x), (1, .int pane), (2, .int other)] []
  refine z_aload_n C dX3_isKin_0 rfl 0 rfl ?_
  refine z_iload_n C dX3_isKin_1 rfl 1 rfl ?_
  refine z_callXVr (rest := []) (k' := 1) (n' := 6) C (c_X3_paneOf_bad (z_l X) (z_G X) h_st h_x h_pa h_ip) (cs_X3_49 C (by decide)) h_x rfl rfl rfl rfl (Nat.le_of_ble_eq_true rfl) rfl rfl (by decide) (by decide) dX3_isKin_2 (fun E M' hq => ?_) (fun x2 M' hq => ?_)
  · obtain ⟨cx2_0, rfl, rfl⟩ | ⟨cx2_0, rfl, rfl⟩ := hq
    · exact prp (Or.inl ⟨cx2_0, rfl, rfl⟩) (by decide) (by decide)
    · exact prp (Or.inr (⟨cx2_0, rfl, rfl⟩)) (by decide) (by decide)
  · skip
    exact hq.elim
set_option maxRecDepth 20000 in
theorem c_X3_isKin_bad2 (l : Launch) (G : zG) (h_st : l.stackTraces = false) {M : zM} {x : Nat} {pane : Int32} {other : Int32} {lr : Nat} {pa : Nat} {sp : Nat} {ln : Nat} {rf : Nat} {ac : Int32} {kn : Int32} {fp : Nat → Option Nat} {p : Nat} {ov : Nat} {sa : Int32} {cp : Int32} {po : Int32} {li : Int32} {mk : Int32} {rd : Int32} {i : Nat} (h_x : M x = some (cMp lr pa sp ln rf ac kn)) (h_pa : M pa = some (aP G 6 fp)) (h_p : M p = some (cPn ov sa cp po li mk rd)) (h_ip : vp_in pane 6) (h_ij : pane.toNatClampNeg = i) (h_fp : fp i = some p) (h_ip2 : ¬ vp_in other 6) : z_Xi l G qX3_isKin (z_rm 12 8 48) [.ref x, .int pane, .int other] M (fun r M' => False) (fun E M' => ((other < 0) ∧ E = "java/lang/IndexOutOfBoundsException" ∧ M' = M) ∨ ((¬ other < 0) ∧ E = "java/lang/IndexOutOfBoundsException" ∧ M' = M)) := by
  refine z_Xi_of _ _ h_st rfl rfl (Nat.le_of_ble_eq_true rfl) (fun X hl hG C ret thr prp => ?_)
  subst hl; subst hG
  have C : z_C X cX3_isKin RX3 3 (z_rm 12 8 48) := C
  show z_W X M 0 0 0 [(0, .ref x), (1, .int pane), (2, .int other)] []
  refine z_aload_n C dX3_isKin_0 rfl 0 rfl ?_
  refine z_iload_n C dX3_isKin_1 rfl 1 rfl ?_
  refine z_callXVr (rest := []) (k' := 1) (n' := 6) C (c_X3_paneOf (z_l X) (z_G X) h_st h_x h_pa h_p h_ip h_ij h_fp) (cs_X3_49 C (by decide)) h_x rfl rfl rfl rfl (Nat.le_of_ble_eq_true rfl) rfl rfl (by decide) (by decide) dX3_isKin_2 (fun E M' hq => ?_) (fun x2 M' hq => ?_)
  · exact hq.elim
  · skip
    obtain ⟨hr2, rfl⟩ := hq
    rw [hr2]
    refine z_aload_n C dX3_isKin_5 rfl 0 rfl ?_
    refine z_iload_n C dX3_isKin_6 rfl 2 rfl ?_
    refine z_callXVr (rest := [.ref p]) (k' := 2) (n' := 12) C (c_X3_paneOf_bad (z_l X) (z_G X) h_st h_x h_pa h_ip2) (cs_X3_49 C (by decide)) h_x rfl rfl rfl rfl (Nat.le_of_ble_eq_true rfl) rfl rfl (by decide) (by decide) dX3_isKin_7 (fun E M' hq => ?_) (fun x7 M' hq => ?_)
    · obtain ⟨cx7_0, rfl, rfl⟩ | ⟨cx7_0, rfl, rfl⟩ := hq
      · exact prp (Or.inl ⟨cx7_0, rfl, rfl⟩) (by decide) (by decide)
      · exact prp (Or.inr (⟨cx7_0, rfl, rfl⟩)) (by decide) (by decide)
    · skip
      exact hq.elim
set_option maxRecDepth 20000 in
theorem c_X3_isKin (l : Launch) (G : zG) (h_st : l.stackTraces = false) {M : zM} {x : Nat} {pane : Int32} {other : Int32} {lr : Nat} {pa : Nat} {sp : Nat} {ln : Nat} {rf : Nat} {ac : Int32} {kn : Int32} {fp : Nat → Option Nat} {p : Nat} {ov : Nat} {sa : Int32} {cp : Int32} {po : Int32} {li : Int32} {mk : Int32} {rd : Int32} {o : Nat} {ov2 : Nat} {sa2 : Int32} {cp2 : Int32} {po2 : Int32} {li2 : Int32} {mk2 : Int32} {rd2 : Int32} {i i2 : Nat}  (h_x : M x = some (cMp lr pa sp ln rf ac kn)) (h_pa : M pa = some (aP G 6 fp)) (h_p : M p = some (cPn ov sa cp po li mk rd)) (h_o : M o = some (cPn ov2 sa2 cp2 po2 li2 mk2 rd2)) (h_ip : vp_in pane 6) (h_ij : pane.toNatClampNeg = i) (h_fp : fp i = some p) (h_ip2 : vp_in other 6) (h_ij2 : other.toNatClampNeg = i2) (h_fp2 : fp i2 = some o) (h_po : p ≠ o) : z_Xi l G qX3_isKin (z_rm 12 8 48) [.ref x, .int pane, .int other] M (fun r M' => ((¬ rd = 0) ∧ r = (-9) ∧ M' = M) ∨ ((rd = 0) ∧ (rd2 = 0) ∧ (¬ some ov = some ov2) ∧ r = 0 ∧ M' = M) ∨ ((rd = 0) ∧ (rd2 = 0) ∧ (some ov = some ov2) ∧ r = 1 ∧ M' = M) ∨ ((rd = 0) ∧ (¬ rd2 = 0) ∧ r = (-9) ∧ M' = M)) (fun E M' => False) := by
  refine z_Xi_of _ _ h_st rfl rfl (Nat.le_of_ble_eq_true rfl) (fun X hl hG C ret thr prp => ?_)
  subst hl; subst hG
  have C : z_C X cX3_isKin RX3 3 (z_rm 12 8 48) := C
  show z_W X M 0 0 0 [(0, .ref x), (1, .int pane), (2, .int other)] []
  refine z_aload_n C dX3_isKin_0 rfl 0 rfl ?_
  refine z_iload_n C dX3_isKin_1 rfl 1 rfl ?_
  refine z_callXVr (rest := []) (k' := 1) (n' := 6) C (c_X3_paneOf (z_l X) (z_G X) h_st h_x h_pa h_p h_ip h_ij h_fp) (cs_X3_49 C (by decide)) h_x rfl rfl rfl rfl (Nat.le_of_ble_eq_true rfl) rfl rfl (by decide) (by decide) dX3_isKin_2 (fun E M' hq => ?_) (fun x2 M' hq => ?_)
  · exact hq.elim
  · skip
    obtain ⟨hr2, rfl⟩ := hq
    rw [hr2]
    refine z_aload_n C dX3_isKin_5 rfl 0 rfl ?_
    refine z_iload_n C dX3_isKin_6 rfl 2 rfl ?_
    refine z_callXVr (rest := [.ref p]) (k' := 2) (n' := 12) C (c_X3_paneOf (z_l X) (z_G X) h_st h_x h_pa h_o h_ip2 h_ij2 h_fp2) (cs_X3_49 C (by decide)) h_x rfl rfl rfl rfl (Nat.le_of_ble_eq_true rfl) rfl rfl (by decide) (by decide) dX3_isKin_7 (fun E M' hq => ?_) (fun x7 M' hq => ?_)
    · exact hq.elim
    · skip
      obtain ⟨hr7, rfl⟩ := hq
      rw [hr7]
      refine z_callSi (rest := []) (k' := 2) (n' := 12) C (c_X3_kinship (z_l X) (z_G X) h_p h_o) (cs_X3_177 C (by decide)) rfl rfl (Nat.le_of_ble_eq_true rfl) rfl rfl (by decide) (by decide) dX3_isKin_10 (fun x10 M' hq => ?_)
      obtain ⟨d10_0, rfl, rfl⟩ | ⟨d10_0, d10_1, d10_2, rfl, rfl⟩ | ⟨d10_0, d10_1, d10_2, rfl, rfl⟩ | ⟨d10_0, d10_1, rfl, rfl⟩ := hq
      · exact ret dX3_isKin_13 rfl (Or.inl ⟨d10_0, rfl, rfl⟩) (by decide) (by decide)
      · exact ret dX3_isKin_13 rfl (Or.inr (Or.inl ⟨d10_0, d10_1, d10_2, rfl, rfl⟩)) (by decide) (by decide)
      · exact ret dX3_isKin_13 rfl (Or.inr (Or.inr (Or.inl ⟨d10_0, d10_1, d10_2, rfl, rfl⟩))) (by decide) (by decide)
      · exact ret dX3_isKin_13 rfl (Or.inr (Or.inr (Or.inr (⟨d10_0, d10_1, rfl, rfl⟩)))) (by decide) (by decide)
set_option maxRecDepth 20000 in
theorem c_X3_isKin_s (l : Launch) (G : zG) (h_st : l.stackTraces = false) {M : zM} {x : Nat} {pane : Int32} {other : Int32} {lr : Nat} {pa : Nat} {sp : Nat} {ln : Nat} {rf : Nat} {ac : Int32} {kn : Int32} {fp : Nat → Option Nat} {p : Nat} {ov : Nat} {sa : Int32} {cp : Int32} {po : Int32} {li : Int32} {mk : Int32} {rd : Int32} {i i2 : Nat}  (h_x : M x = some (cMp lr pa sp ln rf ac kn)) (h_pa : M pa = some (aP G 6 fp)) (h_p : M p = some (cPn ov sa cp po li mk rd)) (h_ip : vp_in pane 6) (h_ij : pane.toNatClampNeg = i) (h_fp : fp i = some p) (h_ip2 : vp_in other 6) (h_ij2 : other.toNatClampNeg = i2) (h_fp2 : fp i2 = some p) : z_Xi l G qX3_isKin (z_rm 12 8 48) [.ref x, .int pane, .int other] M (fun r M' => ((¬ rd = 0) ∧ r = (-9) ∧ M' = M) ∨ ((rd = 0) ∧ (rd = 0) ∧ (¬ some ov = some ov) ∧ r = 0 ∧ M' = M) ∨ ((rd = 0) ∧ (rd = 0) ∧ (some ov = some ov) ∧ r = 1 ∧ M' = M) ∨ ((rd = 0) ∧ (¬ rd = 0) ∧ r = (-9) ∧ M' = M)) (fun E M' => False) := by
  refine z_Xi_of _ _ h_st rfl rfl (Nat.le_of_ble_eq_true rfl) (fun X hl hG C ret thr prp => ?_)
  subst hl; subst hG
  have C : z_C X cX3_isKin RX3 3 (z_rm 12 8 48) := C
  show z_W X M 0 0 0 [(0, .ref x), (1, .int pane), (2, .int other)] []
  refine z_aload_n C dX3_isKin_0 rfl 0 rfl ?_
  refine z_iload_n C dX3_isKin_1 rfl 1 rfl ?_
  refine z_callXVr (rest := []) (k' := 1) (n' := 6) C (c_X3_paneOf (z_l X) (z_G X) h_st h_x h_pa h_p h_ip h_ij h_fp) (cs_X3_49 C (by decide)) h_x rfl rfl rfl rfl (Nat.le_of_ble_eq_true rfl) rfl rfl (by decide) (by decide) dX3_isKin_2 (fun E M' hq => ?_) (fun x2 M' hq => ?_)
  · exact hq.elim
  · skip
    obtain ⟨hr2, rfl⟩ := hq
    rw [hr2]
    refine z_aload_n C dX3_isKin_5 rfl 0 rfl ?_
    refine z_iload_n C dX3_isKin_6 rfl 2 rfl ?_
    refine z_callXVr (rest := [.ref p]) (k' := 2) (n' := 12) C (c_X3_paneOf (z_l X) (z_G X) h_st h_x h_pa h_p h_ip2 h_ij2 h_fp2) (cs_X3_49 C (by decide)) h_x rfl rfl rfl rfl (Nat.le_of_ble_eq_true rfl) rfl rfl (by decide) (by decide) dX3_isKin_7 (fun E M' hq => ?_) (fun x7 M' hq => ?_)
    · exact hq.elim
    · skip
      obtain ⟨hr7, rfl⟩ := hq
      rw [hr7]
      refine z_callSi (rest := []) (k' := 2) (n' := 12) C (c_X3_kinship_s (z_l X) (z_G X) h_p) (cs_X3_177 C (by decide)) rfl rfl (Nat.le_of_ble_eq_true rfl) rfl rfl (by decide) (by decide) dX3_isKin_10 (fun x10 M' hq => ?_)
      obtain ⟨d10_0, rfl, rfl⟩ | ⟨d10_0, d10_1, d10_2, rfl, rfl⟩ | ⟨d10_0, d10_1, d10_2, rfl, rfl⟩ | ⟨d10_0, d10_1, rfl, rfl⟩ := hq
      · exact ret dX3_isKin_13 rfl (Or.inl ⟨d10_0, rfl, rfl⟩) (by decide) (by decide)
      · exact ret dX3_isKin_13 rfl (Or.inr (Or.inl ⟨d10_0, d10_1, d10_2, rfl, rfl⟩)) (by decide) (by decide)
      · exact ret dX3_isKin_13 rfl (Or.inr (Or.inr (Or.inl ⟨d10_0, d10_1, d10_2, rfl, rfl⟩))) (by decide) (by decide)
      · exact ret dX3_isKin_13 rfl (Or.inr (Or.inr (Or.inr (⟨d10_0, d10_1, rfl, rfl⟩)))) (by decide) (by decide)
set_option maxRecDepth 20000 in
theorem c_X3_sees_bad (l : Launch) (G : zG) (h_st : l.stackTraces = false) {M : zM} {x : Nat} {pane : Int32} {ix0 : Int32} {other : Int32} {lr : Nat} {pa : Nat} {sp : Nat} {ln : Nat} {rf : Nat} {ac : Int32} {kn : Int32} {fp : Nat → Option Nat}  (h_x : M x = some (cMp lr pa sp ln rf ac kn)) (h_pa : M pa = some (aP G 6 fp)) (h_ip : ¬ vp_in pane 6) : z_Xi l G qX3_sees (z_rm 12 8 48) [.ref x, .int pane, .int ix0, .int other] M (fun r M' => False) (fun E M' => ((pane < 0) ∧ E = "java/lang/IndexOutOfBoundsException" ∧ M' = M) ∨ ((¬ pane < 0) ∧ E = "java/lang/IndexOutOfBoundsException" ∧ M' = M)) := by
  refine z_Xi_of _ _ h_st rfl rfl (Nat.le_of_ble_eq_true rfl) (fun X hl hG C ret thr prp => ?_)
  subst hl; subst hG
  have C : z_C X cX3_sees RX3 4 (z_rm 12 8 48) := C
  show z_W X M 0 0 0 [(0, .ref x), (1, .int pane), (2, .int ix0), (3, .int other)] []
  refine z_aload_n C dX3_sees_0 rfl 0 rfl ?_
  refine z_iload_n C dX3_sees_1 rfl 1 rfl ?_
  refine z_callXVr (rest := []) (k' := 1) (n' := 6) C (c_X3_paneOf_bad (z_l X) (z_G X) h_st h_x h_pa h_ip) (cs_X3_49 C (by decide)) h_x rfl rfl rfl rfl (Nat.le_of_ble_eq_true rfl) rfl rfl (by decide) (by decide) dX3_sees_2 (fun E M' hq => ?_) (fun x2 M' hq => ?_)
  · obtain ⟨cx2_0, rfl, rfl⟩ | ⟨cx2_0, rfl, rfl⟩ := hq
    · exact prp (Or.inl ⟨cx2_0, rfl, rfl⟩) (by decide) (by decide)
    · exact prp (Or.inr (⟨cx2_0, rfl, rfl⟩)) (by decide) (by decide)
  · skip
    exact hq.elim
set_option maxRecDepth 20000 in
theorem c_X3_sees_bad2 (l : Launch) (G : zG) (h_st : l.stackTraces = false) {M : zM} {x : Nat} {pane : Int32} {ix0 : Int32} {other : Int32} {lr : Nat} {pa : Nat} {sp : Nat} {ln : Nat} {rf : Nat} {ac : Int32} {kn : Int32} {fp : Nat → Option Nat} {p : Nat} {ov : Nat} {sa : Int32} {cp : Int32} {po : Int32} {li : Int32} {mk : Int32} {rd : Int32} {i : Nat} (h_x : M x = some (cMp lr pa sp ln rf ac kn)) (h_pa : M pa = some (aP G 6 fp)) (h_p : M p = some (cPn ov sa cp po li mk rd)) (h_ip : vp_in pane 6) (h_ij : pane.toNatClampNeg = i) (h_fp : fp i = some p) (h_ip2 : ¬ vp_in other 6) : z_Xi l G qX3_sees (z_rm 12 8 48) [.ref x, .int pane, .int ix0, .int other] M (fun r M' => False) (fun E M' => ((other < 0) ∧ E = "java/lang/IndexOutOfBoundsException" ∧ M' = M) ∨ ((¬ other < 0) ∧ E = "java/lang/IndexOutOfBoundsException" ∧ M' = M)) := by
  refine z_Xi_of _ _ h_st rfl rfl (Nat.le_of_ble_eq_true rfl) (fun X hl hG C ret thr prp => ?_)
  subst hl; subst hG
  have C : z_C X cX3_sees RX3 4 (z_rm 12 8 48) := C
  show z_W X M 0 0 0 [(0, .ref x), (1, .int pane), (2, .int ix0), (3, .int other)] []
  refine z_aload_n C dX3_sees_0 rfl 0 rfl ?_
  refine z_iload_n C dX3_sees_1 rfl 1 rfl ?_
  refine z_callXVr (rest := []) (k' := 1) (n' := 6) C (c_X3_paneOf (z_l X) (z_G X) h_st h_x h_pa h_p h_ip h_ij h_fp) (cs_X3_49 C (by decide)) h_x rfl rfl rfl rfl (Nat.le_of_ble_eq_true rfl) rfl rfl (by decide) (by decide) dX3_sees_2 (fun E M' hq => ?_) (fun x2 M' hq => ?_)
  · exact hq.elim
  · skip
    obtain ⟨hr2, rfl⟩ := hq
    rw [hr2]
    refine z_iload_n C dX3_sees_5 rfl 2 rfl ?_
    refine z_aload_n C dX3_sees_6 rfl 0 rfl ?_
    refine z_iload_n C dX3_sees_7 rfl 3 rfl ?_
    refine z_callXVr (rest := [.int ix0, .ref p]) (k' := 2) (n' := 12) C (c_X3_paneOf_bad (z_l X) (z_G X) h_st h_x h_pa h_ip2) (cs_X3_49 C (by decide)) h_x rfl rfl rfl rfl (Nat.le_of_ble_eq_true rfl) rfl rfl (by decide) (by decide) dX3_sees_8 (fun E M' hq => ?_) (fun x8 M' hq => ?_)
    · obtain ⟨cx8_0, rfl, rfl⟩ | ⟨cx8_0, rfl, rfl⟩ := hq
      · exact prp (Or.inl ⟨cx8_0, rfl, rfl⟩) (by decide) (by decide)
      · exact prp (Or.inr (⟨cx8_0, rfl, rfl⟩)) (by decide) (by decide)
    · skip
      exact hq.elim
set_option maxRecDepth 20000 in
theorem c_X3_sees (l : Launch) (G : zG) (h_st : l.stackTraces = false) {M : zM} {x : Nat} {pane : Int32} {ix0 : Int32} {other : Int32} {lr : Nat} {pa : Nat} {sp : Nat} {ln : Nat} {rf : Nat} {ac : Int32} {kn : Int32} {fp : Nat → Option Nat} {p : Nat} {ov : Nat} {sa : Int32} {cp : Int32} {po : Int32} {li : Int32} {mk : Int32} {rd : Int32} {o : Nat} {ov2 : Nat} {sa2 : Int32} {cp2 : Int32} {po2 : Int32} {li2 : Int32} {mk2 : Int32} {rd2 : Int32} {i i2 : Nat}  (h_x : M x = some (cMp lr pa sp ln rf ac kn)) (h_pa : M pa = some (aP G 6 fp)) (h_p : M p = some (cPn ov sa cp po li mk rd)) (h_o : M o = some (cPn ov2 sa2 cp2 po2 li2 mk2 rd2)) (h_ip : vp_in pane 6) (h_ij : pane.toNatClampNeg = i) (h_fp : fp i = some p) (h_ip2 : vp_in other 6) (h_ij2 : other.toNatClampNeg = i2) (h_fp2 : fp i2 = some o) (h_po : p ≠ o) : z_Xi l G qX3_sees (z_rm 12 8 48) [.ref x, .int pane, .int ix0, .int other] M (fun r M' => ((¬ rd = 0) ∧ r = (-9) ∧ M' = M) ∨ ((rd = 0) ∧ (rd2 = 0) ∧ (¬ some ov = some ov2) ∧ r = (-1) ∧ M' = M) ∨ ((rd = 0) ∧ (rd2 = 0) ∧ (some ov = some ov2) ∧ (¬ (z_hi ix0 cp) = 0) ∧ ((z_hi ((sa + ix0) - sa2) cp2) = 0) ∧ r = (-1) ∧ M' = M) ∨ ((rd = 0) ∧ (rd2 = 0) ∧ (some ov = some ov2) ∧ (¬ (z_hi ix0 cp) = 0) ∧ (¬ (z_hi ((sa + ix0) - sa2) cp2) = 0) ∧ r = (sa + ix0) - sa2 ∧ M' = M) ∨ ((rd = 0) ∧ (rd2 = 0) ∧ (some ov = some ov2) ∧ ((z_hi ix0 cp) = 0) ∧ r = (-1) ∧ M' = M) ∨ ((rd = 0) ∧ (¬ rd2 = 0) ∧ r = (-9) ∧ M' = M)) (fun E M' => False) := by
  refine z_Xi_of _ _ h_st rfl rfl (Nat.le_of_ble_eq_true rfl) (fun X hl hG C ret thr prp => ?_)
  subst hl; subst hG
  have C : z_C X cX3_sees RX3 4 (z_rm 12 8 48) := C
  show z_W X M 0 0 0 [(0, .ref x), (1, .int pane), (2, .int ix0), (3, .int other)] []
  refine z_aload_n C dX3_sees_0 rfl 0 rfl ?_
  refine z_iload_n C dX3_sees_1 rfl 1 rfl ?_
  refine z_callXVr (rest := []) (k' := 1) (n' := 6) C (c_X3_paneOf (z_l X) (z_G X) h_st h_x h_pa h_p h_ip h_ij h_fp) (cs_X3_49 C (by decide)) h_x rfl rfl rfl rfl (Nat.le_of_ble_eq_true rfl) rfl rfl (by decide) (by decide) dX3_sees_2 (fun E M' hq => ?_) (fun x2 M' hq => ?_)
  · exact hq.elim
  · skip
    obtain ⟨hr2, rfl⟩ := hq
    rw [hr2]
    refine z_iload_n C dX3_sees_5 rfl 2 rfl ?_
    refine z_aload_n C dX3_sees_6 rfl 0 rfl ?_
    refine z_iload_n C dX3_sees_7 rfl 3 rfl ?_
    refine z_callXVr (rest := [.int ix0, .ref p]) (k' := 2) (n' := 12) C (c_X3_paneOf (z_l X) (z_G X) h_st h_x h_pa h_o h_ip2 h_ij2 h_fp2) (cs_X3_49 C (by decide)) h_x rfl rfl rfl rfl (Nat.le_of_ble_eq_true rfl) rfl rfl (by decide) (by decide) dX3_sees_8 (fun E M' hq => ?_) (fun x8 M' hq => ?_)
    · exact hq.elim
    · skip
      obtain ⟨hr8, rfl⟩ := hq
      rw [hr8]
      refine z_callSi (rest := []) (k' := 2) (n' := 12) C (c_X3_indexSeen (z_l X) (z_G X) h_p h_o) (cs_X3_181 C (by decide)) rfl rfl (Nat.le_of_ble_eq_true rfl) rfl rfl (by decide) (by decide) dX3_sees_11 (fun x11 M' hq => ?_)
      obtain ⟨d11_0, rfl, rfl⟩ | ⟨d11_0, d11_1, d11_2, rfl, rfl⟩ | ⟨d11_0, d11_1, d11_2, d11_3, d11_4, rfl, rfl⟩ | ⟨d11_0, d11_1, d11_2, d11_3, d11_4, rfl, rfl⟩ | ⟨d11_0, d11_1, d11_2, d11_3, rfl, rfl⟩ | ⟨d11_0, d11_1, rfl, rfl⟩ := hq
      · exact ret dX3_sees_14 rfl (Or.inl ⟨d11_0, rfl, rfl⟩) (by decide) (by decide)
      · exact ret dX3_sees_14 rfl (Or.inr (Or.inl ⟨d11_0, d11_1, d11_2, rfl, rfl⟩)) (by decide) (by decide)
      · exact ret dX3_sees_14 rfl (Or.inr (Or.inr (Or.inl ⟨d11_0, d11_1, d11_2, d11_3, d11_4, rfl, rfl⟩))) (by decide) (by decide)
      · exact ret dX3_sees_14 rfl (Or.inr (Or.inr (Or.inr (Or.inl ⟨d11_0, d11_1, d11_2, d11_3, d11_4, rfl, rfl⟩)))) (by decide) (by decide)
      · exact ret dX3_sees_14 rfl (Or.inr (Or.inr (Or.inr (Or.inr (Or.inl ⟨d11_0, d11_1, d11_2, d11_3, rfl, rfl⟩))))) (by decide) (by decide)
      · exact ret dX3_sees_14 rfl (Or.inr (Or.inr (Or.inr (Or.inr (Or.inr (⟨d11_0, d11_1, rfl, rfl⟩)))))) (by decide) (by decide)
set_option maxRecDepth 20000 in
theorem c_X3_sees_s (l : Launch) (G : zG) (h_st : l.stackTraces = false) {M : zM} {x : Nat} {pane : Int32} {ix0 : Int32} {other : Int32} {lr : Nat} {pa : Nat} {sp : Nat} {ln : Nat} {rf : Nat} {ac : Int32} {kn : Int32} {fp : Nat → Option Nat} {p : Nat} {ov : Nat} {sa : Int32} {cp : Int32} {po : Int32} {li : Int32} {mk : Int32} {rd : Int32} {i i2 : Nat}  (h_x : M x = some (cMp lr pa sp ln rf ac kn)) (h_pa : M pa = some (aP G 6 fp)) (h_p : M p = some (cPn ov sa cp po li mk rd)) (h_ip : vp_in pane 6) (h_ij : pane.toNatClampNeg = i) (h_fp : fp i = some p) (h_ip2 : vp_in other 6) (h_ij2 : other.toNatClampNeg = i2) (h_fp2 : fp i2 = some p) : z_Xi l G qX3_sees (z_rm 12 8 48) [.ref x, .int pane, .int ix0, .int other] M (fun r M' => ((¬ rd = 0) ∧ r = (-9) ∧ M' = M) ∨ ((rd = 0) ∧ (rd = 0) ∧ (¬ some ov = some ov) ∧ r = (-1) ∧ M' = M) ∨ ((rd = 0) ∧ (rd = 0) ∧ (some ov = some ov) ∧ (¬ (z_hi ix0 cp) = 0) ∧ ((z_hi ((sa + ix0) - sa) cp) = 0) ∧ r = (-1) ∧ M' = M) ∨ ((rd = 0) ∧ (rd = 0) ∧ (some ov = some ov) ∧ (¬ (z_hi ix0 cp) = 0) ∧ (¬ (z_hi ((sa + ix0) - sa) cp) = 0) ∧ r = (sa + ix0) - sa ∧ M' = M) ∨ ((rd = 0) ∧ (rd = 0) ∧ (some ov = some ov) ∧ ((z_hi ix0 cp) = 0) ∧ r = (-1) ∧ M' = M) ∨ ((rd = 0) ∧ (¬ rd = 0) ∧ r = (-9) ∧ M' = M)) (fun E M' => False) := by
  refine z_Xi_of _ _ h_st rfl rfl (Nat.le_of_ble_eq_true rfl) (fun X hl hG C ret thr prp => ?_)
  subst hl; subst hG
  have C : z_C X cX3_sees RX3 4 (z_rm 12 8 48) := C
  show z_W X M 0 0 0 [(0, .ref x), (1, .int pane), (2, .int ix0), (3, .int other)] []
  refine z_aload_n C dX3_sees_0 rfl 0 rfl ?_
  refine z_iload_n C dX3_sees_1 rfl 1 rfl ?_
  refine z_callXVr (rest := []) (k' := 1) (n' := 6) C (c_X3_paneOf (z_l X) (z_G X) h_st h_x h_pa h_p h_ip h_ij h_fp) (cs_X3_49 C (by decide)) h_x rfl rfl rfl rfl (Nat.le_of_ble_eq_true rfl) rfl rfl (by decide) (by decide) dX3_sees_2 (fun E M' hq => ?_) (fun x2 M' hq => ?_)
  · exact hq.elim
  · skip
    obtain ⟨hr2, rfl⟩ := hq
    rw [hr2]
    refine z_iload_n C dX3_sees_5 rfl 2 rfl ?_
    refine z_aload_n C dX3_sees_6 rfl 0 rfl ?_
    refine z_iload_n C dX3_sees_7 rfl 3 rfl ?_
    refine z_callXVr (rest := [.int ix0, .ref p]) (k' := 2) (n' := 12) C (c_X3_paneOf (z_l X) (z_G X) h_st h_x h_pa h_p h_ip2 h_ij2 h_fp2) (cs_X3_49 C (by decide)) h_x rfl rfl rfl rfl (Nat.le_of_ble_eq_true rfl) rfl rfl (by decide) (by decide) dX3_sees_8 (fun E M' hq => ?_) (fun x8 M' hq => ?_)
    · exact hq.elim
    · skip
      obtain ⟨hr8, rfl⟩ := hq
      rw [hr8]
      refine z_callSi (rest := []) (k' := 2) (n' := 12) C (c_X3_indexSeen_s (z_l X) (z_G X) h_p) (cs_X3_181 C (by decide)) rfl rfl (Nat.le_of_ble_eq_true rfl) rfl rfl (by decide) (by decide) dX3_sees_11 (fun x11 M' hq => ?_)
      obtain ⟨d11_0, rfl, rfl⟩ | ⟨d11_0, d11_1, d11_2, rfl, rfl⟩ | ⟨d11_0, d11_1, d11_2, d11_3, d11_4, rfl, rfl⟩ | ⟨d11_0, d11_1, d11_2, d11_3, d11_4, rfl, rfl⟩ | ⟨d11_0, d11_1, d11_2, d11_3, rfl, rfl⟩ | ⟨d11_0, d11_1, rfl, rfl⟩ := hq
      · exact ret dX3_sees_14 rfl (Or.inl ⟨d11_0, rfl, rfl⟩) (by decide) (by decide)
      · exact ret dX3_sees_14 rfl (Or.inr (Or.inl ⟨d11_0, d11_1, d11_2, rfl, rfl⟩)) (by decide) (by decide)
      · exact ret dX3_sees_14 rfl (Or.inr (Or.inr (Or.inl ⟨d11_0, d11_1, d11_2, d11_3, d11_4, rfl, rfl⟩))) (by decide) (by decide)
      · exact ret dX3_sees_14 rfl (Or.inr (Or.inr (Or.inr (Or.inl ⟨d11_0, d11_1, d11_2, d11_3, d11_4, rfl, rfl⟩)))) (by decide) (by decide)
      · exact ret dX3_sees_14 rfl (Or.inr (Or.inr (Or.inr (Or.inr (Or.inl ⟨d11_0, d11_1, d11_2, d11_3, rfl, rfl⟩))))) (by decide) (by decide)
      · exact ret dX3_sees_14 rfl (Or.inr (Or.inr (Or.inr (Or.inr (Or.inr (⟨d11_0, d11_1, rfl, rfl⟩)))))) (by decide) (by decide)
