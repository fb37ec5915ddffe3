/-! PART 44: new builders, new Strings, their letters -/
theorem dJ0_init_db425_0 : decode cJ0_init_db425 0 = .ok (.aload_n 0, 1) := by decide +kernel
theorem dJ0_init_db425_1 : decode cJ0_init_db425 1 = .ok (.invokespecial 1, 3) := by decide +kernel
theorem dJ0_init_db425_4 : decode cJ0_init_db425 4 = .ok (.aload_n 1, 1) := by decide +kernel
theorem dJ0_init_db425_5 : decode cJ0_init_db425 5 = .ok (.invokevirtual 552, 3) := by decide +kernel
theorem dJ0_init_db425_8 : decode cJ0_init_db425 8 = .ok (.astore_n 3, 1) := by decide +kernel
theorem dJ0_init_db425_9 : decode cJ0_init_db425 9 = .ok (.aload_n 1, 1) := by decide +kernel
theorem dJ0_init_db425_10 : decode cJ0_init_db425 10 = .ok (.invokevirtual 549, 3) := by decide +kernel
theorem dJ0_init_db425_13 : decode cJ0_init_db425 13 = .ok (.istore 4, 2) := by decide +kernel
theorem dJ0_init_db425_15 : decode cJ0_init_db425 15 = .ok (.aload_n 1, 1) := by decide +kernel
theorem dJ0_init_db425_16 : decode cJ0_init_db425 16 = .ok (.invokevirtual 1047, 3) := by decide +kernel
theorem dJ0_init_db425_19 : decode cJ0_init_db425 19 = .ok (.ifCond .eq 22, 3) := by decide +kernel
theorem dJ0_init_db425_22 : decode cJ0_init_db425 22 = .ok (.aload_n 0, 1) := by decide +kernel
theorem dJ0_init_db425_23 : decode cJ0_init_db425 23 = .ok (.iconst 0, 1) := by decide +kernel
theorem dJ0_init_db425_24 : decode cJ0_init_db425 24 = .ok (.putfield 15, 3) := by decide +kernel
theorem dJ0_init_db425_27 : decode cJ0_init_db425 27 = .ok (.aload_n 0, 1) := by decide +kernel
theorem dJ0_init_db425_28 : decode cJ0_init_db425 28 = .ok (.aload_n 3, 1) := by decide +kernel
theorem dJ0_init_db425_29 : decode cJ0_init_db425 29 = .ok (.iconst 0, 1) := by decide +kernel
theorem dJ0_init_db425_30 : decode cJ0_init_db425 30 = .ok (.iload 4, 2) := by decide +kernel
theorem dJ0_init_db425_32 : decode cJ0_init_db425 32 = .ok (.invokestatic 54, 3) := by decide +kernel
theorem dJ0_init_db425_35 : decode cJ0_init_db425 35 = .ok (.putfield 9, 3) := by decide +kernel
theorem dJ0_init_db425_38 : decode cJ0_init_db425 38 = .ok (.goto 59, 3) := by decide +kernel
theorem dJ0_init_db425_97 : decode cJ0_init_db425 97 = .ok (.return_, 1) := by decide +kernel
theorem dJ0_init_81219_0 : decode cJ0_init_81219 0 = .ok (.aload_n 0, 1) := by decide +kernel
theorem dJ0_init_81219_1 : decode cJ0_init_81219 1 = .ok (.aload_n 1, 1) := by decide +kernel
theorem dJ0_init_81219_2 : decode cJ0_init_81219 2 = .ok (.aconst_null, 1) := by decide +kernel
theorem dJ0_init_81219_3 : decode cJ0_init_81219 3 = .ok (.invokespecial 489, 3) := by decide +kernel
theorem dJ0_init_81219_6 : decode cJ0_init_81219 6 = .ok (.return_, 1) := by decide +kernel
theorem dJ4_toString_0e30d_0 : decode cJ4_toString_0e30d 0 = .ok (.new 18, 3) := by decide +kernel
theorem dJ4_toString_0e30d_3 : decode cJ4_toString_0e30d 3 = .ok (.dup, 1) := by decide +kernel
theorem dJ4_toString_0e30d_4 : decode cJ4_toString_0e30d 4 = .ok (.aload_n 0, 1) := by decide +kernel
theorem dJ4_toString_0e30d_5 : decode cJ4_toString_0e30d 5 = .ok (.invokespecial 137, 3) := by decide +kernel
theorem dJ4_toString_0e30d_8 : decode cJ4_toString_0e30d 8 = .ok (.areturn, 1) := by decide +kernel
theorem dJ0_isLatin1_aae02_0 : decode cJ0_isLatin1_aae02 0 = .ok (.getstatic 38, 3) := by decide +kernel
theorem dJ0_isLatin1_aae02_3 : decode cJ0_isLatin1_aae02 3 = .ok (.ifCond .eq 14, 3) := by decide +kernel
theorem dJ0_isLatin1_aae02_6 : decode cJ0_isLatin1_aae02 6 = .ok (.aload_n 0, 1) := by decide +kernel
theorem dJ0_isLatin1_aae02_7 : decode cJ0_isLatin1_aae02 7 = .ok (.getfield 15, 3) := by decide +kernel
theorem dJ0_isLatin1_aae02_10 : decode cJ0_isLatin1_aae02 10 = .ok (.ifCond .ne 7, 3) := by decide +kernel
theorem dJ0_isLatin1_aae02_13 : decode cJ0_isLatin1_aae02 13 = .ok (.iconst 1, 1) := by decide +kernel
theorem dJ0_isLatin1_aae02_14 : decode cJ0_isLatin1_aae02 14 = .ok (.goto 4, 3) := by decide +kernel
theorem dJ0_isLatin1_aae02_18 : decode cJ0_isLatin1_aae02 18 = .ok (.ireturn, 1) := by decide +kernel
theorem dJ1_charAt_3b067_0 : decode cJ1_charAt_3b067 0 = .ok (.iload_n 1, 1) := by decide +kernel
theorem dJ1_charAt_3b067_1 : decode cJ1_charAt_3b067 1 = .ok (.aload_n 0, 1) := by decide +kernel
theorem dJ1_charAt_3b067_2 : decode cJ1_charAt_3b067 2 = .ok (.arraylength, 1) := by decide +kernel
theorem dJ1_charAt_3b067_3 : decode cJ1_charAt_3b067 3 = .ok (.invokestatic 9, 3) := by decide +kernel
theorem dJ1_charAt_3b067_6 : decode cJ1_charAt_3b067 6 = .ok (.aload_n 0, 1) := by decide +kernel
theorem dJ1_charAt_3b067_7 : decode cJ1_charAt_3b067 7 = .ok (.iload_n 1, 1) := by decide +kernel
theorem dJ1_charAt_3b067_8 : decode cJ1_charAt_3b067 8 = .ok (.baload, 1) := by decide +kernel
theorem dJ1_charAt_3b067_9 : decode cJ1_charAt_3b067 9 = .ok (.sipush 255, 3) := by decide +kernel
theorem dJ1_charAt_3b067_12 : decode cJ1_charAt_3b067 12 = .ok (.iand, 1) := by decide +kernel
theorem dJ1_charAt_3b067_13 : decode cJ1_charAt_3b067 13 = .ok (.i2c, 1) := by decide +kernel
theorem dJ1_charAt_3b067_14 : decode cJ1_charAt_3b067 14 = .ok (.ireturn, 1) := by decide +kernel
theorem dJ0_charAt_5068e_0 : decode cJ0_charAt_5068e 0 = .ok (.aload_n 0, 1) := by decide +kernel
theorem dJ0_charAt_5068e_1 : decode cJ0_charAt_5068e 1 = .ok (.invokevirtual 492, 3) := by decide +kernel
theorem dJ0_charAt_5068e_4 : decode cJ0_charAt_5068e 4 = .ok (.ifCond .eq 12, 3) := by decide +kernel
theorem dJ0_charAt_5068e_7 : decode cJ0_charAt_5068e 7 = .ok (.aload_n 0, 1) := by decide +kernel
theorem dJ0_charAt_5068e_8 : decode cJ0_charAt_5068e 8 = .ok (.getfield 9, 3) := by decide +kernel
theorem dJ0_charAt_5068e_11 : decode cJ0_charAt_5068e 11 = .ok (.iload_n 1, 1) := by decide +kernel
theorem dJ0_charAt_5068e_12 : decode cJ0_charAt_5068e 12 = .ok (.invokestatic 495, 3) := by decide +kernel
theorem dJ0_charAt_5068e_15 : decode cJ0_charAt_5068e 15 = .ok (.ireturn, 1) := by decide +kernel
theorem dJ5_init_d00df_0 : decode cJ5_init_d00df 0 = .ok (.aload_n 0, 1) := by decide +kernel
theorem dJ5_init_d00df_1 : decode cJ5_init_d00df 1 = .ok (.invokespecial 3, 3) := by decide +kernel
theorem dJ5_init_d00df_4 : decode cJ5_init_d00df 4 = .ok (.getstatic 18, 3) := by decide +kernel
theorem dJ5_init_d00df_7 : decode cJ5_init_d00df 7 = .ok (.ifCond .eq 18, 3) := by decide +kernel
theorem dJ5_init_d00df_10 : decode cJ5_init_d00df 10 = .ok (.aload_n 0, 1) := by decide +kernel
theorem dJ5_init_d00df_11 : decode cJ5_init_d00df 11 = .ok (.iload_n 1, 1) := by decide +kernel
theorem dJ5_init_d00df_12 : decode cJ5_init_d00df 12 = .ok (.newarray .byte, 2) := by decide +kernel
theorem dJ5_init_d00df_14 : decode cJ5_init_d00df 14 = .ok (.putfield 15, 3) := by decide +kernel
theorem dJ5_init_d00df_17 : decode cJ5_init_d00df 17 = .ok (.aload_n 0, 1) := by decide +kernel
theorem dJ5_init_d00df_18 : decode cJ5_init_d00df 18 = .ok (.iconst 0, 1) := by decide +kernel
theorem dJ5_init_d00df_19 : decode cJ5_init_d00df 19 = .ok (.putfield 22, 3) := by decide +kernel
theorem dJ5_init_d00df_22 : decode cJ5_init_d00df 22 = .ok (.goto 16, 3) := by decide +kernel
theorem dJ5_init_d00df_38 : decode cJ5_init_d00df 38 = .ok (.return_, 1) := by decide +kernel
theorem dJ4_init_da8c8_0 : decode cJ4_init_da8c8 0 = .ok (.aload_n 0, 1) := by decide +kernel
theorem dJ4_init_da8c8_1 : decode cJ4_init_da8c8 1 = .ok (.bipush 16, 2) := by decide +kernel
theorem dJ4_init_da8c8_3 : decode cJ4_init_da8c8 3 = .ok (.invokespecial 1, 3) := by decide +kernel
theorem dJ4_init_da8c8_6 : decode cJ4_init_da8c8 6 = .ok (.return_, 1) := by decide +kernel
set_option maxRecDepth 20000 in
theorem c_J0_init_db425 (l : Launch) (G : zG) {M : zM} {sx : Nat} {sb : Nat} {vb : Nat} {ml : Int32} {n : Nat} {f : Nat → Int32} {c : Nat} (h_sx : M sx = some (.inr (0, [.null, .int 0, .int 0, .int 0]))) (h_sb : M sb = some (cSb vb 0 ml (nI c))) (h_vb : M vb = some (aB G n f)) (hcn : c ≤ n) (hn : n ≤ 65536) (hf : sb_Fit f) : z_Mv l G qJ0_init_db425 (z_rm 4 1 c) [.ref sx, .ref sb, .null] M (fun M' => ∃ f9_32 : Nat → Int32, ∃ q9_32 : Nat, (z_up M sx (.inr (0, [.null, .int 0, .int 0, .int 0]))) q9_32 = none ∧ (sb_Fit f9_32) ∧ (j_Cp f9_32 f c) ∧ M' = z_up (z_up M q9_32 (aB G c f9_32)) sx (.inr (0, [.ref q9_32, .int 0, .int 0, .int 0])))  := by
  refine z_Mv_of _ (by decide +kernel) rfl (Nat.le_of_ble_eq_true rfl) (fun X hl hG hnm C ret => ?_)
  subst hl; subst hG
  have C : z_C X cJ0_init_db425 RJ0 5 (z_rm 4 1 c) := C
  show z_W X M 0 0 0 [(0, .ref sx), (1, .ref sb), (2, .null)] []
  refine z_aload_n C dJ0_init_db425_0 rfl 0 rfl ?_
  refine z_objInit (rest := []) C kw347 kw32 kw33 ⟨Nat.le_of_ble_eq_true rfl, Nat.le_of_ble_eq_true rfl⟩ (Nat.le_of_ble_eq_true rfl) dJ0_init_db425_1 ?_
  refine z_aload_n C dJ0_init_db425_4 rfl 1 rfl ?_
  refine z_callUr (rest := []) (k' := 0) (n' := 0) C (c_J5_getValue_6d5f1 (z_l X) (z_G X) h_sb) (cs_J0_552 C ⟨Nat.le_of_ble_eq_true rfl, Nat.le_of_ble_eq_true rfl⟩) h_sb trivial trivial rfl rfl (Nat.le_of_ble_eq_true rfl) rfl rfl (Nat.le_of_ble_eq_true rfl) (by show _ ≤ c; omega) dJ0_init_db425_5 (fun x5 M' hq => ?_)
  obtain ⟨hr5, rfl⟩ := hq
  rw [hr5]
  refine z_astore_n (lv' := [(3, .ref vb), (0, .ref sx), (1, .ref sb), (2, .null)]) C dJ0_init_db425_8 rfl (by decide) rfl ?_
  refine z_aload_n C dJ0_init_db425_9 rfl 2 rfl ?_
  refine z_callUi (rest := []) (k' := 0) (n' := 0) C (c_J4_length_8abf5 (z_l X) (z_G X) h_sb) (cs_J0_549 C ⟨Nat.le_of_ble_eq_true rfl, Nat.le_of_ble_eq_true rfl⟩) h_sb trivial trivial rfl rfl (Nat.le_of_ble_eq_true rfl) rfl rfl (Nat.le_of_ble_eq_true rfl) (by show _ ≤ c; omega) dJ0_init_db425_10 (fun x10 M' hq => ?_)
  obtain ⟨rfl, rfl⟩ := hq
  refine z_istore (lv' := [(4, .int (nI c)), (3, .ref vb), (0, .ref sx), (1, .ref sb), (2, .null)]) C dJ0_init_db425_13 (by decide) rfl ?_
  refine z_aload_n C dJ0_init_db425_15 rfl 3 rfl ?_
  refine z_callUi (rest := []) (k' := 0) (n' := 0) C (c_J5_isLatin1_aae02 (z_l X) (z_G X) h_sb) (cs_J0_1047 C ⟨Nat.le_of_ble_eq_true rfl, Nat.le_of_ble_eq_true rfl⟩) h_sb trivial trivial rfl rfl (Nat.le_of_ble_eq_true rfl) rfl rfl (Nat.le_of_ble_eq_true rfl) (by show _ ≤ c; omega) dJ0_init_db425_16 (fun x16 M' hq => ?_)
  obtain ⟨rfl, rfl⟩ := hq
  refine z_if_eq C (tgt := 41) dJ0_init_db425_19 (by decide) (fun c19 => absurd c19 (by decide)) (fun _ => ?_)
  refine z_aload_n C dJ0_init_db425_22 rfl 2 rfl ?_
  refine z_iconst C (v := 0) dJ0_init_db425_23 (by decide) ?_
  refine pr_J0_15 C hnm rfl rfl h_sx dJ0_init_db425_24 ?_
  refine z_aload_n C dJ0_init_db425_27 rfl 2 rfl ?_
  refine z_aload_n C dJ0_init_db425_28 rfl 1 rfl ?_
  refine z_iconst C (v := 0) dJ0_init_db425_29 (by decide) ?_
  refine z_iload C dJ0_init_db425_30 0 rfl ?_
  refine z_callSr (rest := [.ref sx]) (k' := 1) (n' := 0 + c) C (c_J7_copyOfRange_39247 (z_l X) (z_G X) ((z_up_n _ _ (z_ne h_vb h_sx (by intro h; cases h))).trans h_vb) hcn hn hf) (cs_J0_54 C ⟨Nat.le_of_ble_eq_true rfl, Nat.le_of_ble_eq_true rfl⟩) rfl rfl (Nat.le_of_ble_eq_true rfl) rfl rfl (Nat.le_of_ble_eq_true rfl) (by show _ ≤ c; omega) dJ0_init_db425_32 (fun x32 M' hq => ?_)
  obtain ⟨f9_32, q9_32, hq9_32, d32_3, d32_4, hr32, rfl⟩ := hq
  rw [hr32]
  rw [z_up_swap _ (z_neN (z_up_s _ _ _) hq9_32)]
  refine pq_J0_9 C hnm rfl rfl dJ0_init_db425_35 ?_
  refine z_goto C (tgt := 97) dJ0_init_db425_38 (by decide) ?_
  exact ret dJ0_init_db425_97 (⟨f9_32, q9_32, hq9_32, d32_3, d32_4, rfl⟩) (Nat.le_of_ble_eq_true rfl) (by show _ ≤ c; omega)
set_option maxRecDepth 20000 in
theorem c_J0_init_81219 (l : Launch) (G : zG) {M : zM} {sx : Nat} {sb : Nat} {vb : Nat} {ml : Int32} {n : Nat} {f : Nat → Int32} {c : Nat} (h_sx : M sx = some (.inr (0, [.null, .int 0, .int 0, .int 0]))) (h_sb : M sb = some (cSb vb 0 ml (nI c))) (h_vb : M vb = some (aB G n f)) (hcn : c ≤ n) (hn : n ≤ 65536) (hf : sb_Fit f) : z_Mv l G qJ0_init_81219 (z_rm 5 1 c) [.ref sx, .ref sb] M (fun M' => ∃ f9_32_3 : Nat → Int32, ∃ q9_32_3 : Nat, (z_up M sx (.inr (0, [.null, .int 0, .int 0, .int 0]))) q9_32_3 = none ∧ (sb_Fit f9_32_3) ∧ (j_Cp f9_32_3 f c) ∧ M' = z_up (z_up M q9_32_3 (aB G c f9_32_3)) sx (.inr (0, [.ref q9_32_3, .int 0, .int 0, .int 0])))  := by
  refine z_Mv_of _ (by decide +kernel) rfl (Nat.le_of_ble_eq_true rfl) (fun X hl hG hnm C ret => ?_)
  subst hl; subst hG
  have C : z_C X cJ0_init_81219 RJ0 2 (z_rm 5 1 c) := C
  show z_W X M 0 0 0 [(0, .ref sx), (1, .ref sb)] []
  refine z_aload_n C dJ0_init_81219_0 rfl 0 rfl ?_
  refine z_aload_n C dJ0_init_81219_1 rfl 1 rfl ?_
  refine z_null C dJ0_init_81219_2 ?_
  refine z_callI (rest := []) (k' := 1) (n' := 0 + c) C (c_J0_init_db425 (z_l X) (z_G X) h_sx h_sb h_vb hcn hn hf) (cs_J0_489 C ⟨Nat.le_of_ble_eq_true rfl, Nat.le_of_ble_eq_true rfl⟩) rfl rfl (Nat.le_of_ble_eq_true rfl) rfl rfl (Nat.le_of_ble_eq_true rfl) (by show _ ≤ c; omega) dJ0_init_81219_3 (fun M' hq => ?_)
  obtain ⟨f9_32_3, q9_32_3, hq9_32_3, d3_3, d3_4, rfl⟩ := hq
  exact ret dJ0_init_81219_6 (⟨f9_32_3, q9_32_3, hq9_32_3, d3_3, d3_4, rfl⟩) (Nat.le_of_ble_eq_true rfl) (by show _ ≤ c; omega)
set_option maxRecDepth 20000 in
theorem c_J4_toString_0e30d (l : Launch) (G : zG) {M : zM} {sb : Nat} {vb : Nat} {ml : Int32} {n : Nat} {f : Nat → Int32} {c : Nat} (h_sb : M sb = some (cSb vb 0 ml (nI c))) (h_vb : M vb = some (aB G n f)) (hcn : c ≤ n) (hn : n ≤ 65536) (hf : sb_Fit f) : z_Mr l G qJ4_toString_0e30d (z_rm 6 2 (4 + c)) [.ref sb] M (fun r M' => ∃ f9_32_3_5 : Nat → Int32, ∃ q0 : Nat, (M) q0 = none ∧ ∃ q9_32_3_5 : Nat, (z_up (z_up M q0 (.inr (0, [.null, .int 0, .int 0, .int 0]))) q0 (.inr (0, [.null, .int 0, .int 0, .int 0]))) q9_32_3_5 = none ∧ (sb_Fit f9_32_3_5) ∧ (j_Cp f9_32_3_5 f c) ∧ r = q0 ∧ M' = z_up (z_up M q9_32_3_5 (aB G c f9_32_3_5)) q0 (.inr (0, [.ref q9_32_3_5, .int 0, .int 0, .int 0])))  := by
  refine z_Mr_of _ (by decide +kernel) rfl (by first | exact Or.inl ⟨_, rfl⟩ | exact Or.inr ⟨_, rfl⟩) (Nat.le_of_ble_eq_true rfl) (fun X hl hG hnm C ret => ?_)
  subst hl; subst hG
  have C : z_C X cJ4_toString_0e30d RJ4 1 (z_rm 6 2 (4 + c)) := C
  show z_W X M 0 0 0 [(0, .ref sb)] []
  refine z_new (ci := 0) (fs := [.null, .int 0, .int 0, .int 0]) C rfl inJ0 tyJ0 tyJ0_ok kw339 kw340 kw7 (fun j hj => by rcases (show j = 0 ∨ j = 1 ∨ j = 2 ∨ j = 3 by omega) with rfl | rfl | rfl | rfl <;> rfl) (Nat.le_of_ble_eq_true rfl) (by show _ ≤ 4 + c; omega) dJ4_toString_0e30d_0 (fun q0 hq0 => ?_)
  refine z_kn (k' := 1) (n' := 4) rfl rfl ?_
  refine z_dup C dJ4_toString_0e30d_3 rfl ?_
  refine z_aload_n C dJ4_toString_0e30d_4 rfl 0 rfl ?_
  refine z_callI (rest := [.ref q0]) (k' := 2) (n' := 4 + c) C (c_J0_init_81219 (z_l X) (z_G X) (z_up_s _ _ _) ((z_up_n _ _ (z_neN h_sb hq0)).trans h_sb) ((z_up_n _ _ (z_neN h_vb hq0)).trans h_vb) hcn hn hf) (cs_J4_137 C ⟨Nat.le_of_ble_eq_true rfl, Nat.le_of_ble_eq_true rfl⟩) rfl rfl (Nat.le_of_ble_eq_true rfl) rfl rfl (Nat.le_of_ble_eq_true rfl) (by show _ ≤ 4 + c; omega) dJ4_toString_0e30d_5 (fun M' hq => ?_)
  obtain ⟨f9_32_3_5, q9_32_3_5, hq9_32_3_5, d5_3, d5_4, rfl⟩ := hq
  rw [z_up_swap _ (z_neN (z_up_s _ _ _) hq9_32_3_5)]
  rw [z_up_up]
  exact ret dJ4_toString_0e30d_8 (⟨f9_32_3_5, q0, hq0, q9_32_3_5, hq9_32_3_5, d5_3, d5_4, rfl, rfl⟩) (Nat.le_of_ble_eq_true rfl) (by show _ ≤ 4 + c; omega)
set_option maxRecDepth 20000 in
theorem c_coderS (l : Launch) (G : zG) {M : zM} {sx : Nat} {vb : Nat} {ha : Int32} {hz : Int32}  (h_sx : M sx = some (cSt vb 0 ha hz))  : z_Mi l G qJ0_coder_7d493 (z_rm 1 0 0) [.ref sx] M (fun r M' => r = 0 ∧ M' = M)  := by
  refine z_Mi_of _ (by decide +kernel) rfl (Nat.le_of_ble_eq_true rfl) (fun X hl hG hnm C ret => ?_)
  subst hl; subst hG
  have C : z_C X cJ0_coder_7d493 RJ0 1 (z_rm 1 0 0) := C
  show z_W X M 0 0 0 [(0, .ref sx)] []
  refine z_gsZ C kw275 dJ0_coder_7d493_0 ?_
  refine z_if_eq C (tgt := 13) dJ0_coder_7d493_3 (by decide) (fun c3 => absurd c3 (by decide)) (fun _ => ?_)
  refine z_aload_n C dJ0_coder_7d493_6 rfl 0 rfl ?_
  refine gf_J0_15 C h_sx dJ0_coder_7d493_7 ?_
  refine z_goto C (tgt := 14) dJ0_coder_7d493_10 (by decide) ?_
  exact ret dJ0_coder_7d493_14 rfl (⟨rfl, rfl⟩) (by decide) (by decide)
set_option maxRecDepth 20000 in
theorem c_J0_isLatin1_aae02 (l : Launch) (G : zG) {M : zM} {sx : Nat} {vb : Nat} {ha : Int32} {hz : Int32}  (h_sx : M sx = some (cSt vb 0 ha hz))  : z_Mi l G qJ0_isLatin1_aae02 (z_rm 1 0 0) [.ref sx] M (fun r M' => r = 1 ∧ M' = M)  := by
  refine z_Mi_of _ (by decide +kernel) rfl (Nat.le_of_ble_eq_true rfl) (fun X hl hG hnm C ret => ?_)
  subst hl; subst hG
  have C : z_C X cJ0_isLatin1_aae02 RJ0 1 (z_rm 1 0 0) := C
  show z_W X M 0 0 0 [(0, .ref sx)] []
  refine z_gsZ C kw275 dJ0_isLatin1_aae02_0 ?_
  refine z_if_eq C (tgt := 17) dJ0_isLatin1_aae02_3 (by decide) (fun c3 => absurd c3 (by decide)) (fun _ => ?_)
  refine z_aload_n C dJ0_isLatin1_aae02_6 rfl 0 rfl ?_
  refine gf_J0_15 C h_sx dJ0_isLatin1_aae02_7 ?_
  refine z_if_ne C (tgt := 17) dJ0_isLatin1_aae02_10 (by decide) (fun c10 => absurd (by decide) c10) (fun _ => ?_)
  refine z_iconst C (v := 1) dJ0_isLatin1_aae02_13 (by decide) ?_
  refine z_goto C (tgt := 18) dJ0_isLatin1_aae02_14 (by decide) ?_
  exact ret dJ0_isLatin1_aae02_18 rfl (⟨rfl, rfl⟩) (by decide) (by decide)
set_option maxRecDepth 20000 in
theorem c_lenS (l : Launch) (G : zG) {M : zM} {sx : Nat} {vb : Nat} {ha : Int32} {hz : Int32} {n : Nat} {f : Nat → Int32}  (h_sx : M sx = some (cSt vb 0 ha hz)) (h_vb : M vb = some (aB G n f))  : z_Mi l G qJ0_length_8abf5 (z_rm 2 0 0) [.ref sx] M (fun r M' => r = nI n ∧ M' = M)  := by
  refine z_Mi_of _ (by decide +kernel) rfl (Nat.le_of_ble_eq_true rfl) (fun X hl hG hnm C ret => ?_)
  subst hl; subst hG
  have C : z_C X cJ0_length_8abf5 RJ0 1 (z_rm 2 0 0) := C
  show z_W X M 0 0 0 [(0, .ref sx)] []
  refine z_aload_n C dJ0_length_8abf5_0 rfl 0 rfl ?_
  refine gf_J0_9 C h_sx dJ0_length_8abf5_1 ?_
  refine z_alenB C (v := nI n) h_vb rfl dJ0_length_8abf5_4 ?_
  refine z_aload_n C dJ0_length_8abf5_5 rfl 0 rfl ?_
  refine z_callVi (rest := [.int (nI n)]) (k' := 0) (n' := 0) C (c_coderS (z_l X) (z_G X) h_sx) (cs_J0_335 C (by decide)) h_sx rfl rfl rfl rfl (Nat.le_of_ble_eq_true rfl) rfl rfl (by decide) (by decide) dJ0_length_8abf5_6 (fun x6 M' hq => ?_)
  obtain ⟨rfl, rfl⟩ := hq
  refine z_ishr C dJ0_length_8abf5_9 ?_
  rw [sb_shr0]
  exact ret dJ0_length_8abf5_10 rfl (⟨rfl, rfl⟩) (by decide) (by decide)
set_option maxRecDepth 20000 in
theorem c_J1_charAt_3b067 (l : Launch) (G : zG) {M : zM} {vb : Nat} {n : Nat} {f : Nat → Int32} {i : Nat} (h_vb : M vb = some (aB G n f)) (hi : i < n) (hn : n ≤ 65536) : z_Mi l G qJ1_charAt_3b067 (z_rm 3 0 0) [.ref vb, .int (nI i)] M (fun r M' => r = (((f i) &&& 255).toUInt32 % 65536).toInt32 ∧ M' = M)  := by
  refine z_Mi_of _ (by decide +kernel) rfl (Nat.le_of_ble_eq_true rfl) (fun X hl hG hnm C ret => ?_)
  subst hl; subst hG
  have C : z_C X cJ1_charAt_3b067 RJ1 2 (z_rm 3 0 0) := C
  show z_W X M 0 0 0 [(0, .ref vb), (1, .int (nI i))] []
  refine z_iload_n C dJ1_charAt_3b067_0 rfl 1 rfl ?_
  refine z_aload_n C dJ1_charAt_3b067_1 rfl 0 rfl ?_
  refine z_alenB C (v := nI n) h_vb rfl dJ1_charAt_3b067_2 ?_
  refine z_callSv (rest := []) (k' := 0) (n' := 0) C (c_J0_checkIndex_df160 (z_l X) (z_G X) (nI_pos' (by omega)) (nI_lt hi (by omega))) (cs_J1_9 C (by decide)) rfl rfl (Nat.le_of_ble_eq_true rfl) rfl rfl (by decide) (by decide) dJ1_charAt_3b067_3 (fun M' hq => ?_)
  obtain rfl := hq
  refine z_aload_n C dJ1_charAt_3b067_6 rfl 0 rfl ?_
  refine z_iload_n C dJ1_charAt_3b067_7 rfl 1 rfl ?_
  refine z_bald (j := i) C h_vb (nI_in hi (by omega)) (nI_clamp (by omega)) dJ1_charAt_3b067_8 ?_
  refine z_sipush C (v := 255) dJ1_charAt_3b067_9 (by decide) ?_
  refine z_iand C dJ1_charAt_3b067_12 ?_
  refine z_i2c C dJ1_charAt_3b067_13 ?_
  exact ret dJ1_charAt_3b067_14 (j_nc _) (⟨rfl, rfl⟩) (by decide) (by decide)
set_option maxRecDepth 20000 in
theorem c_J0_charAt_5068e (l : Launch) (G : zG) {M : zM} {sx : Nat} {vb : Nat} {ha : Int32} {hz : Int32} {n : Nat} {f : Nat → Int32} {i : Nat} (h_sx : M sx = some (cSt vb 0 ha hz)) (h_vb : M vb = some (aB G n f)) (hi : i < n) (hn : n ≤ 65536) : z_Mi l G qJ0_charAt_5068e (z_rm 4 0 0) [.ref sx, .int (nI i)] M (fun r M' => r = (((f i) &&& 255).toUInt32 % 65536).toInt32 ∧ M' = M)  := by
  refine z_Mi_of _ (by decide +kernel) rfl (Nat.le_of_ble_eq_true rfl) (fun X hl hG hnm C ret => ?_)
  subst hl; subst hG
  have C : z_C X cJ0_charAt_5068e RJ0 2 (z_rm 4 0 0) := C
  show z_W X M 0 0 0 [(0, .ref sx), (1, .int (nI i))] []
  refine z_aload_n C dJ0_charAt_5068e_0 rfl 0 rfl ?_
  refine z_callVi (rest := []) (k' := 0) (n' := 0) C (c_J0_isLatin1_aae02 (z_l X) (z_G X) h_sx) (cs_J0_492 C (by decide)) h_sx rfl rfl rfl rfl (Nat.le_of_ble_eq_true rfl) rfl rfl (by decide) (by decide) dJ0_charAt_5068e_1 (fun x1 M' hq => ?_)
  obtain ⟨rfl, rfl⟩ := hq
  refine z_if_eq C (tgt := 16) dJ0_charAt_5068e_4 (by decide) (fun c4 => absurd c4 (by decide)) (fun _ => ?_)
  refine z_aload_n C dJ0_charAt_5068e_7 rfl 0 rfl ?_
  refine gf_J0_9 C h_sx dJ0_charAt_5068e_8 ?_
  refine z_iload_n C dJ0_charAt_5068e_11 rfl 1 rfl ?_
  refine z_callSi (rest := []) (k' := 0) (n' := 0) C (c_J1_charAt_3b067 (z_l X) (z_G X) h_vb hi hn) (cs_J0_495 C (by decide)) rfl rfl (Nat.le_of_ble_eq_true rfl) rfl rfl (by decide) (by decide) dJ0_charAt_5068e_12 (fun x12 M' hq => ?_)
  obtain ⟨rfl, rfl⟩ := hq
  exact ret dJ0_charAt_5068e_15 (j_nc _) (⟨rfl, rfl⟩) (by decide) (by decide)
set_option maxRecDepth 20000 in
theorem c_J5_init_d00df (l : Launch) (G : zG) {M : zM} {sb : Nat}  (h_sb : M sb = some (.inr (1, [.null, .int 0, .int 0, .int 0])))  : z_Mv l G qJ5_init_d00df (z_rm 2 1 16) [.ref sb, .int 16] M (fun M' => ∃ q12 : Nat, (M) q12 = none ∧ M' = z_up (z_up M q12 (aB G 16 (fun _ => 0))) sb (.inr (1, [.ref q12, .int 0, .int 0, .int 0])))  := by
  refine z_Mv_of _ (by decide +kernel) rfl (Nat.le_of_ble_eq_true rfl) (fun X hl hG hnm C ret => ?_)
  subst hl; subst hG
  have C : z_C X cJ5_init_d00df RJ5 2 (z_rm 2 1 16) := C
  show z_W X M 0 0 0 [(0, .ref sb), (1, .int 16)] []
  refine z_aload_n C dJ5_init_d00df_0 rfl 0 rfl ?_
  refine z_objInit (rest := []) C kw103 kw32 kw33 (by decide) (Nat.le_of_ble_eq_true rfl) dJ5_init_d00df_1 ?_
  refine z_gsZ C kw104 dJ5_init_d00df_4 ?_
  refine z_if_eq C (tgt := 25) dJ5_init_d00df_7 (by decide) (fun c7 => absurd c7 (by decide)) (fun _ => ?_)
  refine z_aload_n C dJ5_init_d00df_10 rfl 0 rfl ?_
  refine z_iload_n C dJ5_init_d00df_11 rfl 1 rfl ?_
  refine z_newB (N := 16) C kw127 (by decide) (by decide) (by decide) (by decide) (by decide) dJ5_init_d00df_12 (fun q12 hq12 => ?_)
  refine z_kn (k' := 1) (n' := 16) rfl rfl ?_
  refine pr_J5_15 C rfl rfl ((z_up_n _ _ (z_neN h_sb hq12)).trans h_sb) dJ5_init_d00df_14 ?_
  refine z_aload_n C dJ5_init_d00df_17 rfl 0 rfl ?_
  refine z_iconst C (v := 0) dJ5_init_d00df_18 (by decide) ?_
  refine pq_J5_22 C rfl rfl dJ5_init_d00df_19 ?_
  refine z_goto C (tgt := 38) dJ5_init_d00df_22 (by decide) ?_
  exact ret dJ5_init_d00df_38 (⟨q12, hq12, rfl⟩) (by decide) (by decide)
set_option maxRecDepth 20000 in
theorem c_J4_init_da8c8 (l : Launch) (G : zG) {M : zM} {sb : Nat}  (h_sb : M sb = some (.inr (1, [.null, .int 0, .int 0, .int 0])))  : z_Mv l G qJ4_init_da8c8 (z_rm 3 1 16) [.ref sb] M (fun M' => ∃ q12_3 : Nat, (M) q12_3 = none ∧ M' = z_up (z_up M q12_3 (aB G 16 (fun _ => 0))) sb (.inr (1, [.ref q12_3, .int 0, .int 0, .int 0])))  := by
  refine z_Mv_of _ (by decide +kernel) rfl (Nat.le_of_ble_eq_true rfl) (fun X hl hG hnm C ret => ?_)
  subst hl; subst hG
  have C : z_C X cJ4_init_da8c8 RJ4 1 (z_rm 3 1 16) := C
  show z_W X M 0 0 0 [(0, .ref sb)] []
  refine z_aload_n C dJ4_init_da8c8_0 rfl 0 rfl ?_
  refine z_bipush C (v := 16) dJ4_init_da8c8_1 (by decide) ?_
  refine z_callI (rest := []) (k' := 1) (n' := 16) C (c_J5_init_d00df (z_l X) (z_G X) h_sb) (cs_J4_1 C (by decide)) rfl rfl (Nat.le_of_ble_eq_true rfl) rfl rfl (by decide) (by decide) dJ4_init_da8c8_3 (fun M' hq => ?_)
  obtain ⟨q12_3, hq12_3, rfl⟩ := hq
  exact ret dJ4_init_da8c8_6 (⟨q12_3, hq12_3, rfl⟩) (by decide) (by decide)
