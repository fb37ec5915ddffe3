theorem z_h78 {w : Int32} (h : ¬ z_is w 0 8 = 0) (h6 : ¬ w = 6) (h5 : ¬ w < 6) : w = 7 ∨ w = 8 := by
  have h1 := z_isT h
  rw [show (8 : Int32).toInt = 8 from by decide] at h1
  rw [z_eqI, show (6 : Int32).toInt = 6 from by decide] at h6
  rw [z_ltI, show (6 : Int32).toInt = 6 from by decide] at h5
  rw [z_eqI, z_eqI, show (7 : Int32).toInt = 7 from by decide, show (8 : Int32).toInt = 8 from by decide]
  omega
theorem z_h5 {w : Int32} (h : ¬ z_is w 0 8 = 0) (h5 : w < 6) : vp_in w 6 ∧ ¬ w = 7 ∧ ¬ w = 8 ∧ ¬ w = 6 := by
  have h1 := z_isT h
  rw [z_t0] at h1
  rw [z_ltI, show (6 : Int32).toInt = 6 from by decide] at h5
  refine ⟨z_inT.mpr ⟨by omega, by omega⟩, ?_, ?_, ?_⟩ <;> intro e <;> rw [e] at h5 <;> revert h5 <;> decide
theorem z_h9 {w : Int32} (h : ¬ z_is w 0 8 = 0) (h0 : ¬ w = 0 ∧ ¬ w = 1 ∧ ¬ w = 2 ∧ ¬ w = 3 ∧ ¬ w = 4 ∧ ¬ w = 5 ∧ ¬ w = 6 ∧ ¬ w = 7 ∧ ¬ w = 8) : False := by
  obtain ⟨a0, a1, a2, a3, a4, a5, a6, a7, a8⟩ := h0
  have h1 := z_isT h
  rw [z_t0, show (8 : Int32).toInt = 8 from by decide] at h1
  rw [z_eqI, z_t0] at a0
  rw [z_eqI, z_t1] at a1
  rw [z_eqI, show (2 : Int32).toInt = 2 from by decide] at a2
  rw [z_eqI, show (3 : Int32).toInt = 3 from by decide] at a3
  rw [z_eqI, show (4 : Int32).toInt = 4 from by decide] at a4
  rw [z_eqI, show (5 : Int32).toInt = 5 from by decide] at a5
  rw [z_eqI, show (6 : Int32).toInt = 6 from by decide] at a6
  rw [z_eqI, show (7 : Int32).toInt = 7 from by decide] at a7
  rw [z_eqI, show (8 : Int32).toInt = 8 from by decide] at a8
  omega
theorem s_hs {u : sS} {w : Int32} (h0 : ¬ w = 0) (h6 : ¬ w = 6) (h7 : ¬ w = 7) (h8 : ¬ w = 8) : s_house u w = s_td u w.toNatClampNeg := by
  unfold s_house
  rw [if_neg h0, if_neg h6, if_neg h7, if_neg h8]
theorem s_h7 {u : sS} : s_house u 7 = s_sumf (fun i => p_rd (s_pn u i)) 6 := by
  unfold s_house
  rw [if_neg (by decide), if_neg (by decide), if_pos rfl]
theorem s_h8 {u : sS} : s_house u 8 = s_sumf (fun i => if p_mk (s_pn u i) = -1 then 0 else 1) 6 := by
  unfold s_house
  rw [if_neg (by decide), if_neg (by decide), if_neg (by decide), if_pos rfl]
theorem s_sf0 {f : Nat → Int32} {j : Nat} (h : f j = 0) : s_sumf f j = s_sumf f (j + 1) := by
  show _ = s_sumf f j + f j
  rw [h, Int32.add_zero]
theorem s_sf1 {f : Nat → Int32} {j : Nat} (h : f j = 1) : s_sumf f j + 1 = s_sumf f (j + 1) := by
  show _ = s_sumf f j + f j
  rw [h]
abbrev s_mkf (u : sS) : Nat → Int32 := fun i => if p_mk (s_pn u i) = -1 then 0 else 1
abbrev s_rdf (u : sS) : Nat → Int32 := fun i => p_rd (s_pn u i)
theorem dX5_house_0 : decode cX5_house 0 = .ok (.aload_n 0, 1) := by decide +kernel
theorem dX5_house_1 : decode cX5_house 1 = .ok (.iload_n 1, 1) := by decide +kernel
theorem dX5_house_2 : decode cX5_house 2 = .ok (.iconst 0, 1) := by decide +kernel
theorem dX5_house_3 : decode cX5_house 3 = .ok (.bipush 8, 2) := by decide +kernel
theorem dX5_house_5 : decode cX5_house 5 = .ok (.invokestatic 36, 3) := by decide +kernel
theorem dX5_house_8 : decode cX5_house 8 = .ok (.ifCond .eq 7, 3) := by decide +kernel
theorem dX5_house_11 : decode cX5_house 11 = .ok (.iconst 0, 1) := by decide +kernel
theorem dX5_house_12 : decode cX5_house 12 = .ok (.goto 4, 3) := by decide +kernel
theorem dX5_house_15 : decode cX5_house 15 = .ok (.iconst 1, 1) := by decide +kernel
theorem dX5_house_16 : decode cX5_house 16 = .ok (.putfield 33, 3) := by decide +kernel
theorem dX5_house_19 : decode cX5_house 19 = .ok (.aload_n 0, 1) := by decide +kernel
theorem dX5_house_20 : decode cX5_house 20 = .ok (.getfield 33, 3) := by decide +kernel
theorem dX5_house_23 : decode cX5_house 23 = .ok (.iconst 1, 1) := by decide +kernel
theorem dX5_house_24 : decode cX5_house 24 = .ok (.if_icmp .ne 5, 3) := by decide +kernel
theorem dX5_house_27 : decode cX5_house 27 = .ok (.iconst 0, 1) := by decide +kernel
theorem dX5_house_28 : decode cX5_house 28 = .ok (.ireturn, 1) := by decide +kernel
theorem dX5_house_29 : decode cX5_house 29 = .ok (.iload_n 1, 1) := by decide +kernel
theorem dX5_house_30 : decode cX5_house 30 = .ok (.ifCond .eq 9, 3) := by decide +kernel
theorem dX5_house_33 : decode cX5_house 33 = .ok (.iload_n 1, 1) := by decide +kernel
theorem dX5_house_34 : decode cX5_house 34 = .ok (.bipush 6, 2) := by decide +kernel
theorem dX5_house_36 : decode cX5_house 36 = .ok (.if_icmp .ne 19, 3) := by decide +kernel
theorem dX5_house_39 : decode cX5_house 39 = .ok (.iload_n 1, 1) := by decide +kernel
theorem dX5_house_40 : decode cX5_house 40 = .ok (.ifCond .ne 10, 3) := by decide +kernel
theorem dX5_house_43 : decode cX5_house 43 = .ok (.aload_n 0, 1) := by decide +kernel
theorem dX5_house_44 : decode cX5_house 44 = .ok (.getfield 40, 3) := by decide +kernel
theorem dX5_house_47 : decode cX5_house 47 = .ok (.goto 7, 3) := by decide +kernel
theorem dX5_house_50 : decode cX5_house 50 = .ok (.aload_n 0, 1) := by decide +kernel
theorem dX5_house_51 : decode cX5_house 51 = .ok (.getfield 139, 3) := by decide +kernel
theorem dX5_house_54 : decode cX5_house 54 = .ok (.ireturn, 1) := by decide +kernel
theorem dX5_house_55 : decode cX5_house 55 = .ok (.iload_n 1, 1) := by decide +kernel
theorem dX5_house_56 : decode cX5_house 56 = .ok (.bipush 6, 2) := by decide +kernel
theorem dX5_house_58 : decode cX5_house 58 = .ok (.if_icmp .ge 10, 3) := by decide +kernel
theorem dX5_house_61 : decode cX5_house 61 = .ok (.aload_n 0, 1) := by decide +kernel
theorem dX5_house_62 : decode cX5_house 62 = .ok (.getfield 22, 3) := by decide +kernel
theorem dX5_house_65 : decode cX5_house 65 = .ok (.iload_n 1, 1) := by decide +kernel
theorem dX5_house_66 : decode cX5_house 66 = .ok (.iaload, 1) := by decide +kernel
theorem dX5_house_67 : decode cX5_house 67 = .ok (.ireturn, 1) := by decide +kernel
theorem dX5_house_68 : decode cX5_house 68 = .ok (.iconst 0, 1) := by decide +kernel
theorem dX5_house_69 : decode cX5_house 69 = .ok (.istore_n 2, 1) := by decide +kernel
theorem dX5_house_70 : decode cX5_house 70 = .ok (.aload_n 0, 1) := by decide +kernel
theorem dX5_house_71 : decode cX5_house 71 = .ok (.getfield 18, 3) := by decide +kernel
theorem dX5_house_74 : decode cX5_house 74 = .ok (.astore_n 3, 1) := by decide +kernel
theorem dX5_house_75 : decode cX5_house 75 = .ok (.aload_n 3, 1) := by decide +kernel
theorem dX5_house_76 : decode cX5_house 76 = .ok (.arraylength, 1) := by decide +kernel
theorem dX5_house_77 : decode cX5_house 77 = .ok (.istore 4, 2) := by decide +kernel
theorem dX5_house_79 : decode cX5_house 79 = .ok (.iconst 0, 1) := by decide +kernel
theorem dX5_house_80 : decode cX5_house 80 = .ok (.istore 5, 2) := by decide +kernel
theorem dX5_house_82 : decode cX5_house 82 = .ok (.iload 5, 2) := by decide +kernel
theorem dX5_house_84 : decode cX5_house 84 = .ok (.iload 4, 2) := by decide +kernel
theorem dX5_house_86 : decode cX5_house 86 = .ok (.if_icmp .ge 46, 3) := by decide +kernel
theorem dX5_house_89 : decode cX5_house 89 = .ok (.aload_n 3, 1) := by decide +kernel
theorem dX5_house_90 : decode cX5_house 90 = .ok (.iload 5, 2) := by decide +kernel
theorem dX5_house_92 : decode cX5_house 92 = .ok (.aaload, 1) := by decide +kernel
theorem dX5_house_93 : decode cX5_house 93 = .ok (.astore 6, 2) := by decide +kernel
theorem dX5_house_95 : decode cX5_house 95 = .ok (.iload_n 2, 1) := by decide +kernel
theorem dX5_house_96 : decode cX5_house 96 = .ok (.iload_n 1, 1) := by decide +kernel
theorem dX5_house_97 : decode cX5_house 97 = .ok (.bipush 7, 2) := by decide +kernel
theorem dX5_house_99 : decode cX5_house 99 = .ok (.if_icmp .ne 11, 3) := by decide +kernel
theorem dX5_house_102 : decode cX5_house 102 = .ok (.aload 6, 2) := by decide +kernel
theorem dX5_house_104 : decode cX5_house 104 = .ok (.bipush 7, 2) := by decide +kernel
theorem dX5_house_106 : decode cX5_house 106 = .ok (.iaload, 1) := by decide +kernel
theorem dX5_house_107 : decode cX5_house 107 = .ok (.goto 17, 3) := by decide +kernel
theorem dX5_house_110 : decode cX5_house 110 = .ok (.aload 6, 2) := by decide +kernel
theorem dX5_house_112 : decode cX5_house 112 = .ok (.bipush 6, 2) := by decide +kernel
theorem dX5_house_114 : decode cX5_house 114 = .ok (.iaload, 1) := by decide +kernel
theorem dX5_house_115 : decode cX5_house 115 = .ok (.iconst (-1), 1) := by decide +kernel
theorem dX5_house_116 : decode cX5_house 116 = .ok (.if_icmp .ne 7, 3) := by decide +kernel
theorem dX5_house_119 : decode cX5_house 119 = .ok (.iconst 0, 1) := by decide +kernel
theorem dX5_house_120 : decode cX5_house 120 = .ok (.goto 4, 3) := by decide +kernel
theorem dX5_house_123 : decode cX5_house 123 = .ok (.iconst 1, 1) := by decide +kernel
theorem dX5_house_124 : decode cX5_house 124 = .ok (.iadd, 1) := by decide +kernel
theorem dX5_house_125 : decode cX5_house 125 = .ok (.istore_n 2, 1) := by decide +kernel
theorem dX5_house_126 : decode cX5_house 126 = .ok (.iinc 5 1, 3) := by decide +kernel
theorem dX5_house_129 : decode cX5_house 129 = .ok (.goto (-47), 3) := by decide +kernel
theorem dX5_house_132 : decode cX5_house 132 = .ok (.iload_n 2, 1) := by decide +kernel
theorem dX5_house_133 : decode cX5_house 133 = .ok (.ireturn, 1) := by decide +kernel
theorem dX3_howManyReaders_0 : decode cX3_howManyReaders 0 = .ok (.iconst 0, 1) := by decide +kernel
theorem dX3_howManyReaders_1 : decode cX3_howManyReaders 1 = .ok (.istore_n 1, 1) := by decide +kernel
theorem dX3_howManyReaders_2 : decode cX3_howManyReaders 2 = .ok (.iconst 0, 1) := by decide +kernel
theorem dX3_howManyReaders_3 : decode cX3_howManyReaders 3 = .ok (.istore_n 2, 1) := by decide +kernel
theorem dX3_howManyReaders_4 : decode cX3_howManyReaders 4 = .ok (.iload_n 2, 1) := by decide +kernel
theorem dX3_howManyReaders_5 : decode cX3_howManyReaders 5 = .ok (.aload_n 0, 1) := by decide +kernel
theorem dX3_howManyReaders_6 : decode cX3_howManyReaders 6 = .ok (.getfield 20, 3) := by decide +kernel
theorem dX3_howManyReaders_9 : decode cX3_howManyReaders 9 = .ok (.arraylength, 1) := by decide +kernel
theorem dX3_howManyReaders_10 : decode cX3_howManyReaders 10 = .ok (.if_icmp .ge 24, 3) := by decide +kernel
theorem dX3_howManyReaders_13 : decode cX3_howManyReaders 13 = .ok (.aload_n 0, 1) := by decide +kernel
theorem dX3_howManyReaders_14 : decode cX3_howManyReaders 14 = .ok (.getfield 20, 3) := by decide +kernel
theorem dX3_howManyReaders_17 : decode cX3_howManyReaders 17 = .ok (.iload_n 2, 1) := by decide +kernel
theorem dX3_howManyReaders_18 : decode cX3_howManyReaders 18 = .ok (.aaload, 1) := by decide +kernel
theorem dX3_howManyReaders_19 : decode cX3_howManyReaders 19 = .ok (.getfield 89, 3) := by decide +kernel
theorem dX3_howManyReaders_22 : decode cX3_howManyReaders 22 = .ok (.ifCond .eq 6, 3) := by decide +kernel
theorem dX3_howManyReaders_25 : decode cX3_howManyReaders 25 = .ok (.iinc 1 1, 3) := by decide +kernel
theorem dX3_howManyReaders_28 : decode cX3_howManyReaders 28 = .ok (.iinc 2 1, 3) := by decide +kernel
theorem dX3_howManyReaders_31 : decode cX3_howManyReaders 31 = .ok (.goto (-27), 3) := by decide +kernel
theorem dX3_howManyReaders_34 : decode cX3_howManyReaders 34 = .ok (.iload_n 1, 1) := by decide +kernel
theorem dX3_howManyReaders_35 : decode cX3_howManyReaders 35 = .ok (.ireturn, 1) := by decide +kernel
theorem dX3_howManyMarks_0 : decode cX3_howManyMarks 0 = .ok (.iconst 0, 1) := by decide +kernel
theorem dX3_howManyMarks_1 : decode cX3_howManyMarks 1 = .ok (.istore_n 1, 1) := by decide +kernel
theorem dX3_howManyMarks_2 : decode cX3_howManyMarks 2 = .ok (.iconst 0, 1) := by decide +kernel
theorem dX3_howManyMarks_3 : decode cX3_howManyMarks 3 = .ok (.istore_n 2, 1) := by decide +kernel
theorem dX3_howManyMarks_4 : decode cX3_howManyMarks 4 = .ok (.iload_n 2, 1) := by decide +kernel
theorem dX3_howManyMarks_5 : decode cX3_howManyMarks 5 = .ok (.aload_n 0, 1) := by decide +kernel
theorem dX3_howManyMarks_6 : decode cX3_howManyMarks 6 = .ok (.getfield 20, 3) := by decide +kernel
theorem dX3_howManyMarks_9 : decode cX3_howManyMarks 9 = .ok (.arraylength, 1) := by decide +kernel
theorem dX3_howManyMarks_10 : decode cX3_howManyMarks 10 = .ok (.if_icmp .ge 24, 3) := by decide +kernel
theorem dX3_howManyMarks_13 : decode cX3_howManyMarks 13 = .ok (.aload_n 0, 1) := by decide +kernel
theorem dX3_howManyMarks_14 : decode cX3_howManyMarks 14 = .ok (.getfield 20, 3) := by decide +kernel
theorem dX3_howManyMarks_17 : decode cX3_howManyMarks 17 = .ok (.iload_n 2, 1) := by decide +kernel
theorem dX3_howManyMarks_18 : decode cX3_howManyMarks 18 = .ok (.aaload, 1) := by decide +kernel
theorem dX3_howManyMarks_19 : decode cX3_howManyMarks 19 = .ok (.invokevirtual 109, 3) := by decide +kernel
theorem dX3_howManyMarks_22 : decode cX3_howManyMarks 22 = .ok (.ifCond .eq 6, 3) := by decide +kernel
theorem dX3_howManyMarks_25 : decode cX3_howManyMarks 25 = .ok (.iinc 1 1, 3) := by decide +kernel
theorem dX3_howManyMarks_28 : decode cX3_howManyMarks 28 = .ok (.iinc 2 1, 3) := by decide +kernel
theorem dX3_howManyMarks_31 : decode cX3_howManyMarks 31 = .ok (.goto (-27), 3) := by decide +kernel
theorem dX3_howManyMarks_34 : decode cX3_howManyMarks 34 = .ok (.iload_n 1, 1) := by decide +kernel
theorem dX3_howManyMarks_35 : decode cX3_howManyMarks 35 = .ok (.ireturn, 1) := by decide +kernel
theorem dX3_houseNumber_0 : decode cX3_houseNumber 0 = .ok (.iload_n 1, 1) := by decide +kernel
theorem dX3_houseNumber_1 : decode cX3_houseNumber 1 = .ok (.tableswitch 71 0 8 #[51, 71, 71, 71, 71, 71, 56, 61, 66], 51) := by decide +kernel
theorem dX3_houseNumber_52 : decode cX3_houseNumber 52 = .ok (.aload_n 0, 1) := by decide +kernel
theorem dX3_houseNumber_53 : decode cX3_houseNumber 53 = .ok (.getfield 42, 3) := by decide +kernel
theorem dX3_houseNumber_56 : decode cX3_houseNumber 56 = .ok (.ireturn, 1) := by decide +kernel
theorem dX3_houseNumber_57 : decode cX3_houseNumber 57 = .ok (.aload_n 0, 1) := by decide +kernel
theorem dX3_houseNumber_58 : decode cX3_houseNumber 58 = .ok (.getfield 46, 3) := by decide +kernel
theorem dX3_houseNumber_61 : decode cX3_houseNumber 61 = .ok (.ireturn, 1) := by decide +kernel
theorem dX3_houseNumber_62 : decode cX3_houseNumber 62 = .ok (.aload_n 0, 1) := by decide +kernel
theorem dX3_houseNumber_63 : decode cX3_houseNumber 63 = .ok (.invokevirtual 236, 3) := by decide +kernel
theorem dX3_houseNumber_66 : decode cX3_houseNumber 66 = .ok (.ireturn, 1) := by decide +kernel
theorem dX3_houseNumber_67 : decode cX3_houseNumber 67 = .ok (.aload_n 0, 1) := by decide +kernel
theorem dX3_houseNumber_68 : decode cX3_houseNumber 68 = .ok (.invokevirtual 239, 3) := by decide +kernel
theorem dX3_houseNumber_71 : decode cX3_houseNumber 71 = .ok (.ireturn, 1) := by decide +kernel
theorem dX3_houseNumber_72 : decode cX3_houseNumber 72 = .ok (.iload_n 1, 1) := by decide +kernel
theorem dX3_houseNumber_73 : decode cX3_houseNumber 73 = .ok (.ifCond .lt 21, 3) := by decide +kernel
theorem dX3_houseNumber_76 : decode cX3_houseNumber 76 = .ok (.iload_n 1, 1) := by decide +kernel
theorem dX3_houseNumber_77 : decode cX3_houseNumber 77 = .ok (.aload_n 0, 1) := by decide +kernel
theorem dX3_houseNumber_78 : decode cX3_houseNumber 78 = .ok (.getfield 38, 3) := by decide +kernel
theorem dX3_houseNumber_81 : decode cX3_houseNumber 81 = .ok (.arraylength, 1) := by decide +kernel
theorem dX3_houseNumber_82 : decode cX3_houseNumber 82 = .ok (.if_icmp .ge 12, 3) := by decide +kernel
theorem dX3_houseNumber_85 : decode cX3_houseNumber 85 = .ok (.aload_n 0, 1) := by decide +kernel
theorem dX3_houseNumber_86 : decode cX3_houseNumber 86 = .ok (.getfield 38, 3) := by decide +kernel
theorem dX3_houseNumber_89 : decode cX3_houseNumber 89 = .ok (.iload_n 1, 1) := by decide +kernel
theorem dX3_houseNumber_90 : decode cX3_houseNumber 90 = .ok (.iaload, 1) := by decide +kernel
theorem dX3_houseNumber_91 : decode cX3_houseNumber 91 = .ok (.goto 4, 3) := by decide +kernel
theorem dX3_houseNumber_95 : decode cX3_houseNumber 95 = .ok (.ireturn, 1) := by decide +kernel
theorem dX3_house_0 : decode cX3_house 0 = .ok (.iload_n 1, 1) := by decide +kernel
theorem dX3_house_1 : decode cX3_house 1 = .ok (.iconst 0, 1) := by decide +kernel
theorem dX3_house_2 : decode cX3_house 2 = .ok (.bipush 8, 2) := by decide +kernel
theorem dX3_house_4 : decode cX3_house 4 = .ok (.invokestatic 53, 3) := by decide +kernel
theorem dX3_house_7 : decode cX3_house 7 = .ok (.aload_n 0, 1) := by decide +kernel
theorem dX3_house_8 : decode cX3_house 8 = .ok (.iload_n 1, 1) := by decide +kernel
theorem dX3_house_9 : decode cX3_house 9 = .ok (.invokevirtual 185, 3) := by decide +kernel
theorem dX3_house_12 : decode cX3_house 12 = .ok (.ireturn, 1) := by decide +kernel
set_option maxRecDepth 20000 in
theorem lp_X5_house7 {X : zX} (C : z_C X cX5_house RX5 7 (z_rm 2 0 0)) {m : Nat} {th : Int32} {K : Nat → Nat} {tp pn td : Nat} {u : sS} {Mw : zM} (hR : RI (z_G X) u m th K tp pn td Mw) {fp : Nat → Option Nat} (hpn : Mw pn = some (aII (z_G X) 6 fp)) (hfp : ∀ i, i < 6 → fp i = some (K i)) (kk : z_W X Mw 0 0 132 [(5, .int (nI 6)), (4, .int 6), (3, .ref pn), (2, .int (s_sumf (s_rdf u) 6)), (0, .ref m), (1, .int 7)] []) : ∀ d j : Nat, j + d = 6 → z_W X Mw 0 0 82 [(5, .int (nI j)), (4, .int 6), (3, .ref pn), (2, .int (s_sumf (s_rdf u) j)), (0, .ref m), (1, .int 7)] [] := by
  intro d
  induction d with
  | zero =>
    intro j hj
    refine z_iload C dX5_house_82 0 rfl ?_
    refine z_iload C dX5_house_84 1 rfl ?_
    refine z_icmp_ge C (tgt := 132) dX5_house_86 (by decide) (fun _ => ?_) (fun c86 => absurd (by rw [show j = 6 by omega]; decide) c86)
    have ejm : j = 6 := by omega
    subst ejm
    exact kk
  | succ d ih =>
    intro j hj
    refine z_iload C dX5_house_82 0 rfl ?_
    refine z_iload C dX5_house_84 1 rfl ?_
    refine z_icmp_ge C (tgt := 132) dX5_house_86 (by decide) (fun c86 => absurd c86 (nI_ge (a := j) (b := 6) (by omega) (by decide))) (fun _ => ?_)
    refine z_aload_n C dX5_house_89 rfl 2 rfl ?_
    refine z_iload C dX5_house_90 0 rfl ?_
    refine z_aaldI (j := j) C hpn (vp_in_nI (by omega) (by decide)) (nI_clamp (by omega)) (hfp j (by omega)) dX5_house_92 ?_
    refine z_astore (lv' := [(6, .ref (K j)), (5, .int (nI j)), (4, .int 6), (3, .ref pn), (2, .int (s_sumf (s_rdf u) j)), (0, .ref m), (1, .int 7)]) C dX5_house_93 (by decide) rfl ?_
    refine z_iload_n C dX5_house_95 rfl 4 rfl ?_
    refine z_iload_n C dX5_house_96 rfl 6 rfl ?_
    refine z_bipush C (v := 7) dX5_house_97 (by decide) ?_
    refine z_icmp_ne C (tgt := 110) dX5_house_99 (by decide) (fun c99 => absurd (by decide) c99) (fun _ => ?_)
    refine z_aload C dX5_house_102 0 rfl ?_
    refine z_bipush C (v := 7) dX5_house_104 (by decide) ?_
    refine z_pl7 C (RI_K hR (show j < 6 by omega)) dX5_house_106 ?_
    refine z_goto C (tgt := 124) dX5_house_107 (by decide) ?_
    refine z_iadd C dX5_house_124 ?_
    refine z_istore_n (lv' := [(2, .int ((s_sumf (s_rdf u) j) + (p_rd (s_pn u j)))), (6, .ref (K j)), (5, .int (nI j)), (4, .int 6), (3, .ref pn), (0, .ref m), (1, .int 7)]) C dX5_house_125 rfl (by decide) rfl ?_
    refine z_iinc (v := nI (j + 1)) (lv' := [(5, .int (nI (j + 1))), (2, .int ((s_sumf (s_rdf u) j) + (p_rd (s_pn u j)))), (6, .ref (K j)), (4, .int 6), (3, .ref pn), (0, .ref m), (1, .int 7)]) C dX5_house_126 2 rfl (nI_1 j) (by decide) rfl ?_
    refine z_goto C (tgt := 82) dX5_house_129 (by decide) ?_
    refine z_fewer (lv' := [(5, .int (nI (j + 1))), (4, .int 6), (3, .ref pn), (2, .int ((s_sumf (s_rdf u) j) + (p_rd (s_pn u j)))), (0, .ref m), (1, .int 7)]) [0, 3, 4, 1, 5, 6] rfl ?_
    refine z_at (M' := _) (lv' := [(5, .int (nI (j + 1))), (4, .int 6), (3, .ref pn), (2, .int (s_sumf (s_rdf u) (j + 1))), (0, .ref m), (1, .int 7)]) rfl (by rw [show s_sumf (s_rdf u) (j + 1) = (s_sumf (s_rdf u) j) + (p_rd (s_pn u j)) from rfl]) rfl ?_
    exact ih (j + 1) (by omega)
set_option maxRecDepth 20000 in
theorem lp_X5_house8 {X : zX} (C : z_C X cX5_house RX5 7 (z_rm 2 0 0)) {m : Nat} {th : Int32} {K : Nat → Nat} {tp pn td : Nat} {u : sS} {Mw : zM} (hR : RI (z_G X) u m th K tp pn td Mw) {fp : Nat → Option Nat} (hpn : Mw pn = some (aII (z_G X) 6 fp)) (hfp : ∀ i, i < 6 → fp i = some (K i)) (kk : z_W X Mw 0 0 132 [(5, .int (nI 6)), (4, .int 6), (3, .ref pn), (2, .int (s_sumf (s_mkf u) 6)), (0, .ref m), (1, .int 8)] []) : ∀ d j : Nat, j + d = 6 → z_W X Mw 0 0 82 [(5, .int (nI j)), (4, .int 6), (3, .ref pn), (2, .int (s_sumf (s_mkf u) j)), (0, .ref m), (1, .int 8)] [] := by
  intro d
  induction d with
  | zero =>
    intro j hj
    refine z_iload C dX5_house_82 0 rfl ?_
    refine z_iload C dX5_house_84 1 rfl ?_
    refine z_icmp_ge C (tgt := 132) dX5_house_86 (by decide) (fun _ => ?_) (fun c86 => absurd (by rw [show j = 6 by omega]; decide) c86)
    have ejm : j = 6 := by omega
    subst ejm
    exact kk
  | succ d ih =>
    intro j hj
    refine z_iload C dX5_house_82 0 rfl ?_
    refine z_iload C dX5_house_84 1 rfl ?_
    refine z_icmp_ge C (tgt := 132) dX5_house_86 (by decide) (fun c86 => absurd c86 (nI_ge (a := j) (b := 6) (by omega) (by decide))) (fun _ => ?_)
    refine z_aload_n C dX5_house_89 rfl 2 rfl ?_
    refine z_iload C dX5_house_90 0 rfl ?_
    refine z_aaldI (j := j) C hpn (vp_in_nI (by omega) (by decide)) (nI_clamp (by omega)) (hfp j (by omega)) dX5_house_92 ?_
    refine z_astore (lv' := [(6, .ref (K j)), (5, .int (nI j)), (4, .int 6), (3, .ref pn), (2, .int (s_sumf (s_mkf u) j)), (0, .ref m), (1, .int 8)]) C dX5_house_93 (by decide) rfl ?_
    refine z_iload_n C dX5_house_95 rfl 4 rfl ?_
    refine z_iload_n C dX5_house_96 rfl 6 rfl ?_
    refine z_bipush C (v := 7) dX5_house_97 (by decide) ?_
    refine z_icmp_ne C (tgt := 110) dX5_house_99 (by decide) (fun _ => ?_) (fun c99 => absurd c99 (by decide))
    refine z_aload C dX5_house_110 0 rfl ?_
    refine z_bipush C (v := 6) dX5_house_112 (by decide) ?_
    refine z_pl6 C (RI_K hR (show j < 6 by omega)) dX5_house_114 ?_
    refine z_iconst C (v := (-1)) dX5_house_115 (by decide) ?_
    refine z_icmp_ne C (tgt := 123) dX5_house_116 (by decide) (fun c116 => ?_) (fun c116 => ?_)
    · refine z_iconst C (v := 1) dX5_house_123 (by decide) ?_
      refine z_iadd C dX5_house_124 ?_
      refine z_istore_n (lv' := [(2, .int ((s_sumf (s_mkf u) j) + 1)), (6, .ref (K j)), (5, .int (nI j)), (4, .int 6), (3, .ref pn), (0, .ref m), (1, .int 8)]) C dX5_house_125 rfl (by decide) rfl ?_
      refine z_iinc (v := nI (j + 1)) (lv' := [(5, .int (nI (j + 1))), (2, .int ((s_sumf (s_mkf u) j) + 1)), (6, .ref (K j)), (4, .int 6), (3, .ref pn), (0, .ref m), (1, .int 8)]) C dX5_house_126 2 rfl (nI_1 j) (by decide) rfl ?_
      refine z_goto C (tgt := 82) dX5_house_129 (by decide) ?_
      refine z_fewer (lv' := [(5, .int (nI (j + 1))), (4, .int 6), (3, .ref pn), (2, .int ((s_sumf (s_mkf u) j) + 1)), (0, .ref m), (1, .int 8)]) [0, 3, 4, 1, 5, 6] rfl ?_
      refine z_at (M' := _) (lv' := [(5, .int (nI (j + 1))), (4, .int 6), (3, .ref pn), (2, .int (s_sumf (s_mkf u) (j + 1))), (0, .ref m), (1, .int 8)]) rfl (by rw [show s_sumf (s_mkf u) (j + 1) = (s_sumf (s_mkf u) j) + 1 from (s_sf1 (if_neg c116)).symm]) rfl ?_
      exact ih (j + 1) (by omega)
    · refine z_iconst C (v := 0) dX5_house_119 (by decide) ?_
      refine z_goto C (tgt := 124) dX5_house_120 (by decide) ?_
      refine z_iadd C dX5_house_124 ?_
      refine z_istore_n (lv' := [(2, .int ((s_sumf (s_mkf u) j) + 0)), (6, .ref (K j)), (5, .int (nI j)), (4, .int 6), (3, .ref pn), (0, .ref m), (1, .int 8)]) C dX5_house_125 rfl (by decide) rfl ?_
      refine z_iinc (v := nI (j + 1)) (lv' := [(5, .int (nI (j + 1))), (2, .int ((s_sumf (s_mkf u) j) + 0)), (6, .ref (K j)), (4, .int 6), (3, .ref pn), (0, .ref m), (1, .int 8)]) C dX5_house_126 2 rfl (nI_1 j) (by decide) rfl ?_
      refine z_goto C (tgt := 82) dX5_house_129 (by decide) ?_
      refine z_fewer (lv' := [(5, .int (nI (j + 1))), (4, .int 6), (3, .ref pn), (2, .int ((s_sumf (s_mkf u) j) + 0)), (0, .ref m), (1, .int 8)]) [0, 3, 4, 1, 5, 6] rfl ?_
      refine z_at (M' := _) (lv' := [(5, .int (nI (j + 1))), (4, .int 6), (3, .ref pn), (2, .int (s_sumf (s_mkf u) (j + 1))), (0, .ref m), (1, .int 8)]) rfl (by rw [show s_sumf (s_mkf u) (j + 1) = (s_sumf (s_mkf u) j) + 0 from (s_sf0 (if_pos c116)).symm.trans (Int32.add_zero _).symm]) rfl ?_
      exact ih (j + 1) (by omega)
set_option maxRecDepth 20000 in
theorem a_X5_house (l : Launch) {G : zG} {u : sS} {m : Nat} {th : Int32} {K : Nat → Nat} {tp pn td : Nat} {Mw : zM} (hR : RI G u m th K tp pn td Mw) {t : Nat} (hok : s_ok t u) (ht : t ≤ 64) (wh : Int32) : z_Mi l G qX5_house (z_rm 2 0 0) [.ref m, .int wh] Mw (RP G m pn td (z_lt (z_is wh 0 8) 1) u (s_house u wh, u))  := by
  obtain ⟨fp, hpn, hfp⟩ := RI_pnf hR
  refine z_Mi_of _ (plainFor_of_name rfl) rfl (Nat.le_of_ble_eq_true rfl) (fun X hl hG hnm C ret => ?_)
  subst hl; subst hG
  have C : z_C X cX5_house RX5 7 (z_rm 2 0 0) := C
  show z_W X Mw 0 0 0 [(0, .ref m), (1, .int wh)] []
  refine z_aload_n C dX5_house_0 rfl 0 rfl ?_
  refine z_iload_n C dX5_house_1 rfl 1 rfl ?_
  refine z_iconst C (v := 0) dX5_house_2 (by decide) ?_
  refine z_bipush C (v := 8) dX5_house_3 (by decide) ?_
  refine z_callSi (rest := [.ref m]) (k' := 0) (n' := 0) C (c_X5_isIn (z_l X) (z_G X) ) (cs_X5_36 C (by decide)) rfl rfl (Nat.le_of_ble_eq_true rfl) rfl rfl (by decide) (by decide) dX5_house_5 (fun x5 M' hq => ?_)
  obtain ⟨rfl, rfl⟩ := hq
  refine z_if_eq C (tgt := 15) dX5_house_8 (by decide) (fun c8 => ?_) (fun c8 => ?_)
  · refine z_iconst C (v := 1) dX5_house_15 (by decide) ?_
    refine pf_X5_33 C hR.1 dX5_house_16 ?_
    refine z_aload_n C dX5_house_19 rfl 0 rfl ?_
    refine gf_X5_33 C (z_up_s _ _ _) dX5_house_20 ?_
    refine z_iconst C (v := 1) dX5_house_23 (by decide) ?_
    refine z_icmp_ne C (tgt := 29) dX5_house_24 (by decide) (fun c24 => absurd (by decide) c24) (fun _ => ?_)
    refine z_iconst C (v := 0) dX5_house_27 (by decide) ?_
    refine ret dX5_house_28 rfl ?_ (by decide) (by decide)
    exact RP_bad (z_lt0 c8) (RI_ak hR _ _ _) (k_1 c8).symm
  · refine z_iconst C (v := 0) dX5_house_11 (by decide) ?_
    refine z_goto C (tgt := 16) dX5_house_12 (by decide) ?_
    refine pf_X5_33 C hR.1 dX5_house_16 ?_
    refine z_aload_n C dX5_house_19 rfl 0 rfl ?_
    refine gf_X5_33 C (z_up_s _ _ _) dX5_house_20 ?_
    refine z_iconst C (v := 1) dX5_house_23 (by decide) ?_
    refine z_icmp_ne C (tgt := 29) dX5_house_24 (by decide) (fun _ => ?_) (fun c24 => absurd c24 (by decide))
    refine z_iload_n C dX5_house_29 rfl 1 rfl ?_
    refine z_if_eq C (tgt := 39) dX5_house_30 (by decide) (fun c30 => ?_) (fun c30 => ?_)
    · refine z_iload_n C dX5_house_39 rfl 1 rfl ?_
      refine z_if_ne C (tgt := 50) dX5_house_40 (by decide) (fun c40 => ?_) (fun c40 => ?_)
      · refine z_aload_n C dX5_house_50 rfl 0 rfl ?_
        refine gf_X5_139 C (z_up_s _ _ _) dX5_house_51 ?_
        refine ret dX5_house_54 rfl ?_ (by decide) (by decide)
        exact absurd c30 c40
      · refine z_aload_n C dX5_house_43 rfl 0 rfl ?_
        refine gf_X5_40 C (z_up_s _ _ _) dX5_house_44 ?_
        refine z_goto C (tgt := 54) dX5_house_47 (by decide) ?_
        refine ret dX5_house_54 rfl ?_ (by decide) (by decide)
        exact RP_ok (v := u) (by rw [c30]; rfl) (z_lt3 (z_is11 c8) rfl) (RI_th hR 0) (z_lt3 (z_is11 c8) rfl).symm
    · refine z_iload_n C dX5_house_33 rfl 1 rfl ?_
      refine z_bipush C (v := 6) dX5_house_34 (by decide) ?_
      refine z_icmp_ne C (tgt := 55) dX5_house_36 (by decide) (fun c36 => ?_) (fun c36 => ?_)
      · refine z_iload_n C dX5_house_55 rfl 1 rfl ?_
        refine z_bipush C (v := 6) dX5_house_56 (by decide) ?_
        refine z_icmp_ge C (tgt := 68) dX5_house_58 (by decide) (fun c58 => ?_) (fun c58 => ?_)
        · refine z_iconst C (v := 0) dX5_house_68 (by decide) ?_
          refine z_istore_n (lv' := [(2, .int 0), (0, .ref m), (1, .int wh)]) C dX5_house_69 rfl (by decide) rfl ?_
          refine z_aload_n C dX5_house_70 rfl 1 rfl ?_
          refine gf_X5_18 C (z_up_s _ _ _) dX5_house_71 ?_
          refine z_astore_n (lv' := [(3, .ref pn), (2, .int 0), (0, .ref m), (1, .int wh)]) C dX5_house_74 rfl (by decide) rfl ?_
          refine z_aload_n C dX5_house_75 rfl 0 rfl ?_
          refine z_alenII C (v := 6) ((z_up_n _ _ (z_ne hpn hR.1 (by intro h; cases h))).trans hpn) (by decide) dX5_house_76 ?_
          refine z_istore (lv' := [(4, .int 6), (3, .ref pn), (2, .int 0), (0, .ref m), (1, .int wh)]) C dX5_house_77 (by decide) rfl ?_
          refine z_iconst C (v := 0) dX5_house_79 (by decide) ?_
          refine z_istore (lv' := [(5, .int 0), (4, .int 6), (3, .ref pn), (2, .int 0), (0, .ref m), (1, .int wh)]) C dX5_house_80 (by decide) rfl ?_
          rcases z_h78 c8 c36 (Int32.not_lt.mpr c58) with ew | ew
          · rw [ew]
            refine z_at (M' := _) (lv' := [(5, .int (nI 0)), (4, .int 6), (3, .ref pn), (2, .int (s_sumf (s_rdf u) 0)), (0, .ref m), (1, .int 7)]) rfl (by rw [nI_0]; rfl) rfl ?_
            have hR9 := RI_th hR 0
            refine lp_X5_house7 C (u := u) hR9 (fp := fp) (zk hR.1 hpn (by intro h; cases h)) hfp ?_ 6 0 (by omega)
            refine z_iload_n C dX5_house_132 rfl 3 rfl ?_
            refine ret dX5_house_133 rfl ?_ (by decide) (by decide)
            rw [ew]
            rw [show (z_lt (z_is 7 0 8) 1) = 0 from by decide]
            exact RP_ok (v := u) (by rw [s_h7]) rfl hR9
          · rw [ew]
            refine z_at (M' := _) (lv' := [(5, .int (nI 0)), (4, .int 6), (3, .ref pn), (2, .int (s_sumf (s_mkf u) 0)), (0, .ref m), (1, .int 8)]) rfl (by rw [nI_0]; rfl) rfl ?_
            have hR9 := RI_th hR 0
            refine lp_X5_house8 C (u := u) hR9 (fp := fp) (zk hR.1 hpn (by intro h; cases h)) hfp ?_ 6 0 (by omega)
            refine z_iload_n C dX5_house_132 rfl 3 rfl ?_
            refine ret dX5_house_133 rfl ?_ (by decide) (by decide)
            rw [ew]
            rw [show (z_lt (z_is 8 0 8) 1) = 0 from by decide]
            exact RP_ok (v := u) (by rw [s_h8]) rfl hR9
        · refine z_aload_n C dX5_house_61 rfl 0 rfl ?_
          refine gf_X5_22 C (z_up_s _ _ _) dX5_house_62 ?_
          refine z_iload_n C dX5_house_65 rfl 1 rfl ?_
          refine z_iald (j := wh.toNatClampNeg) C ((z_up_n _ _ (z_ne (RI_tdf hR) hR.1 (by intro h; cases h))).trans (RI_tdf hR)) (z_h5 c8 (Int32.not_le.mp c58)).1 rfl dX5_house_66 ?_
          refine ret dX5_house_67 rfl ?_ (by decide) (by decide)
          have h5 := z_h5 c8 (Int32.not_le.mp c58)
          exact RP_ok (v := u) (by rw [s_hs c30 h5.2.2.2 h5.2.1 h5.2.2.1]) (z_lt3 (z_is11 c8) rfl) (RI_th hR 0) (z_lt3 (z_is11 c8) rfl).symm
      · refine z_iload_n C dX5_house_39 rfl 1 rfl ?_
        refine z_if_ne C (tgt := 50) dX5_house_40 (by decide) (fun c40 => ?_) (fun c40 => ?_)
        · refine z_aload_n C dX5_house_50 rfl 0 rfl ?_
          refine gf_X5_139 C (z_up_s _ _ _) dX5_house_51 ?_
          refine ret dX5_house_54 rfl ?_ (by decide) (by decide)
          exact RP_ok (v := u) (by rw [c36]; rfl) (z_lt3 (z_is11 c8) rfl) (RI_th hR 0) (z_lt3 (z_is11 c8) rfl).symm
        · refine z_aload_n C dX5_house_43 rfl 0 rfl ?_
          refine gf_X5_40 C (z_up_s _ _ _) dX5_house_44 ?_
          refine z_goto C (tgt := 54) dX5_house_47 (by decide) ?_
          refine ret dX5_house_54 rfl ?_ (by decide) (by decide)
          exact absurd c40 c30
set_option maxRecDepth 20000 in
theorem lp_X3_howManyReaders {X : zX} (C : z_C X cX3_howManyReaders RX3 3 (z_rm 2 0 0)) {x : Nat} {P RA VA : Nat → Nat} {pa sp ln rf sb : Nat} {u : sS} {t : Nat} (hok : s_ok t u) {Mw : zM} (hC : CI (z_G X) u x P RA VA pa sp ln rf sb Mw) {fp : Nat → Option Nat} (hpa : Mw pa = some (aP (z_G X) 6 fp)) (hfp : ∀ i, i < 6 → fp i = some (P i)) (kk : z_W X Mw 0 0 34 [(2, .int (nI 6)), (1, .int (s_sumf (s_rdf u) 6)), (0, .ref x)] []) : ∀ d j : Nat, j + d = 6 → z_W X Mw 0 0 4 [(2, .int (nI j)), (1, .int (s_sumf (s_rdf u) j)), (0, .ref x)] [] := by
  intro d
  induction d with
  | zero =>
    intro j hj
    refine z_iload_n C dX3_howManyReaders_4 rfl 0 rfl ?_
    refine z_aload_n C dX3_howManyReaders_5 rfl 2 rfl ?_
    refine gf_X3_20 C hC.1 dX3_howManyReaders_6 ?_
    refine z_alenP C (v := 6) hpa (by decide) dX3_howManyReaders_9 ?_
    refine z_icmp_ge C (tgt := 34) dX3_howManyReaders_10 (by decide) (fun _ => ?_) (fun c10 => absurd (by rw [show j = 6 by omega]; decide) c10)
    have ejm : j = 6 := by omega
    subst ejm
    exact kk
  | succ d ih =>
    intro j hj
    refine z_iload_n C dX3_howManyReaders_4 rfl 0 rfl ?_
    refine z_aload_n C dX3_howManyReaders_5 rfl 2 rfl ?_
    refine gf_X3_20 C hC.1 dX3_howManyReaders_6 ?_
    refine z_alenP C (v := 6) hpa (by decide) dX3_howManyReaders_9 ?_
    refine z_icmp_ge C (tgt := 34) dX3_howManyReaders_10 (by decide) (fun c10 => absurd c10 (nI_ge (a := j) (b := 6) (by omega) (by decide))) (fun _ => ?_)
    refine z_aload_n C dX3_howManyReaders_13 rfl 2 rfl ?_
    refine gf_X3_20 C hC.1 dX3_howManyReaders_14 ?_
    refine z_iload_n C dX3_howManyReaders_17 rfl 0 rfl ?_
    refine z_aaldP (j := j) C hpa (vp_in_nI (by omega) (by decide)) (nI_clamp (by omega)) (hfp j (by omega)) dX3_howManyReaders_18 ?_
    refine gf_X3_89 C (CI_P hC (show j < 6 by omega)) dX3_howManyReaders_19 ?_
    refine z_if_eq C (tgt := 28) dX3_howManyReaders_22 (by decide) (fun c22 => ?_) (fun c22 => ?_)
    · refine z_iinc (v := nI (j + 1)) (lv' := [(2, .int (nI (j + 1))), (1, .int (s_sumf (s_rdf u) j)), (0, .ref x)]) C dX3_howManyReaders_28 0 rfl (nI_1 j) (by decide) rfl ?_
      refine z_goto C (tgt := 4) dX3_howManyReaders_31 (by decide) ?_
      refine z_fewer (lv' := [(2, .int (nI (j + 1))), (1, .int (s_sumf (s_rdf u) j)), (0, .ref x)]) [0, 1, 2] rfl ?_
      refine z_at (M' := _) (lv' := [(2, .int (nI (j + 1))), (1, .int (s_sumf (s_rdf u) (j + 1))), (0, .ref x)]) rfl (by rw [show s_sumf (s_rdf u) (j + 1) = (s_sumf (s_rdf u) j) from (s_sf0 c22).symm]) rfl ?_
      exact ih (j + 1) (by omega)
    · refine z_iinc (v := (s_sumf (s_rdf u) j) + 1) (lv' := [(1, .int ((s_sumf (s_rdf u) j) + 1)), (2, .int (nI j)), (0, .ref x)]) C dX3_howManyReaders_25 1 rfl (by rfl) (by decide) rfl ?_
      refine z_iinc (v := nI (j + 1)) (lv' := [(2, .int (nI (j + 1))), (1, .int ((s_sumf (s_rdf u) j) + 1)), (0, .ref x)]) C dX3_howManyReaders_28 1 rfl (nI_1 j) (by decide) rfl ?_
      refine z_goto C (tgt := 4) dX3_howManyReaders_31 (by decide) ?_
      refine z_fewer (lv' := [(2, .int (nI (j + 1))), (1, .int ((s_sumf (s_rdf u) j) + 1)), (0, .ref x)]) [0, 1, 2] rfl ?_
      refine z_at (M' := _) (lv' := [(2, .int (nI (j + 1))), (1, .int (s_sumf (s_rdf u) (j + 1))), (0, .ref x)]) rfl (by rw [show s_sumf (s_rdf u) (j + 1) = (s_sumf (s_rdf u) j) + 1 from (s_sf1 (((s_rdn' hok (by omega)).mpr c22))).symm]) rfl ?_
      exact ih (j + 1) (by omega)
set_option maxRecDepth 20000 in
theorem a_X3_howManyReaders (l : Launch) {G : zG} {u : sS} {x : Nat} {P RA VA : Nat → Nat} {pa sp ln rf sb : Nat} {Mw : zM} (hC : CI G u x P RA VA pa sp ln rf sb Mw) {t : Nat} (hok : s_ok t u) : z_Mi l G qX3_howManyReaders (z_rm 2 0 0) [.ref x] Mw (fun r M' => r = s_sumf (s_rdf u) 6 ∧ M' = Mw)  := by
  obtain ⟨fp, hpa, hfp⟩ := CI_pa hC
  refine z_Mi_of _ (plainFor_of_name rfl) rfl (Nat.le_of_ble_eq_true rfl) (fun X hl hG hnm C ret => ?_)
  subst hl; subst hG
  have C : z_C X cX3_howManyReaders RX3 3 (z_rm 2 0 0) := C
  show z_W X Mw 0 0 0 [(0, .ref x)] []
  refine z_iconst C (v := 0) dX3_howManyReaders_0 (by decide) ?_
  refine z_istore_n (lv' := [(1, .int 0), (0, .ref x)]) C dX3_howManyReaders_1 rfl (by decide) rfl ?_
  refine z_iconst C (v := 0) dX3_howManyReaders_2 (by decide) ?_
  refine z_istore_n (lv' := [(2, .int 0), (1, .int 0), (0, .ref x)]) C dX3_howManyReaders_3 rfl (by decide) rfl ?_
  refine z_at (M' := _) (lv' := [(2, .int (nI 0)), (1, .int (s_sumf (s_rdf u) 0)), (0, .ref x)]) rfl (by rw [nI_0]; rfl) rfl ?_
  refine lp_X3_howManyReaders C hok hC hpa hfp ?_ 6 0 (by omega)
  refine z_iload_n C dX3_howManyReaders_34 rfl 1 rfl ?_
  refine ret dX3_howManyReaders_35 rfl ?_ (by decide) (by decide)
  exact ⟨rfl, rfl⟩
set_option maxRecDepth 20000 in
theorem lp_X3_howManyMarks {X : zX} (C : z_C X cX3_howManyMarks RX3 3 (z_rm 2 0 0)) {x : Nat} {P RA VA : Nat → Nat} {pa sp ln rf sb : Nat} {u : sS} {t : Nat} (hok : s_ok t u) {Mw : zM} (hC : CI (z_G X) u x P RA VA pa sp ln rf sb Mw) {fp : Nat → Option Nat} (hpa : Mw pa = some (aP (z_G X) 6 fp)) (hfp : ∀ i, i < 6 → fp i = some (P i)) (kk : z_W X Mw 0 0 34 [(2, .int (nI 6)), (1, .int (s_sumf (s_mkf u) 6)), (0, .ref x)] []) : ∀ d j : Nat, j + d = 6 → z_W X Mw 0 0 4 [(2, .int (nI j)), (1, .int (s_sumf (s_mkf u) j)), (0, .ref x)] [] := by
  intro d
  induction d with
  | zero =>
    intro j hj
    refine z_iload_n C dX3_howManyMarks_4 rfl 0 rfl ?_
    refine z_aload_n C dX3_howManyMarks_5 rfl 2 rfl ?_
    refine gf_X3_20 C hC.1 dX3_howManyMarks_6 ?_
    refine z_alenP C (v := 6) hpa (by decide) dX3_howManyMarks_9 ?_
    refine z_icmp_ge C (tgt := 34) dX3_howManyMarks_10 (by decide) (fun _ => ?_) (fun c10 => absurd (by rw [show j = 6 by omega]; decide) c10)
    have ejm : j = 6 := by omega
    subst ejm
    exact kk
  | succ d ih =>
    intro j hj
    refine z_iload_n C dX3_howManyMarks_4 rfl 0 rfl ?_
    refine z_aload_n C dX3_howManyMarks_5 rfl 2 rfl ?_
    refine gf_X3_20 C hC.1 dX3_howManyMarks_6 ?_
    refine z_alenP C (v := 6) hpa (by decide) dX3_howManyMarks_9 ?_
    refine z_icmp_ge C (tgt := 34) dX3_howManyMarks_10 (by decide) (fun c10 => absurd c10 (nI_ge (a := j) (b := 6) (by omega) (by decide))) (fun _ => ?_)
    refine z_aload_n C dX3_howManyMarks_13 rfl 2 rfl ?_
    refine gf_X3_20 C hC.1 dX3_howManyMarks_14 ?_
    refine z_iload_n C dX3_howManyMarks_17 rfl 0 rfl ?_
    refine z_aaldP (j := j) C hpa (vp_in_nI (by omega) (by decide)) (nI_clamp (by omega)) (hfp j (by omega)) dX3_howManyMarks_18 ?_
    refine z_callVi (rest := []) (k' := 0) (n' := 0) C (c_X1_hasMark (z_l X) (z_G X) (CI_P hC (show j < 6 by omega))) (cs_X3_109 C (by decide)) (CI_P hC (show j < 6 by omega)) rfl rfl rfl rfl (Nat.le_of_ble_eq_true rfl) rfl rfl (by decide) (by decide) dX3_howManyMarks_19 (fun x19 M' hq => ?_)
    obtain ⟨rfl, rfl⟩ := hq
    refine z_if_eq C (tgt := 28) dX3_howManyMarks_22 (by decide) (fun c22 => ?_) (fun c22 => ?_)
    · refine z_iinc (v := nI (j + 1)) (lv' := [(2, .int (nI (j + 1))), (1, .int (s_sumf (s_mkf u) j)), (0, .ref x)]) C dX3_howManyMarks_28 0 rfl (nI_1 j) (by decide) rfl ?_
      refine z_goto C (tgt := 4) dX3_howManyMarks_31 (by decide) ?_
      refine z_fewer (lv' := [(2, .int (nI (j + 1))), (1, .int (s_sumf (s_mkf u) j)), (0, .ref x)]) [0, 1, 2] rfl ?_
      refine z_at (M' := _) (lv' := [(2, .int (nI (j + 1))), (1, .int (s_sumf (s_mkf u) (j + 1))), (0, .ref x)]) rfl (by rw [show s_sumf (s_mkf u) (j + 1) = (s_sumf (s_mkf u) j) from (s_sf0 (if_pos (z_hm0.mp c22))).symm]) rfl ?_
      exact ih (j + 1) (by omega)
    · refine z_iinc (v := (s_sumf (s_mkf u) j) + 1) (lv' := [(1, .int ((s_sumf (s_mkf u) j) + 1)), (2, .int (nI j)), (0, .ref x)]) C dX3_howManyMarks_25 1 rfl (by rfl) (by decide) rfl ?_
      refine z_iinc (v := nI (j + 1)) (lv' := [(2, .int (nI (j + 1))), (1, .int ((s_sumf (s_mkf u) j) + 1)), (0, .ref x)]) C dX3_howManyMarks_28 1 rfl (nI_1 j) (by decide) rfl ?_
      refine z_goto C (tgt := 4) dX3_howManyMarks_31 (by decide) ?_
      refine z_fewer (lv' := [(2, .int (nI (j + 1))), (1, .int ((s_sumf (s_mkf u) j) + 1)), (0, .ref x)]) [0, 1, 2] rfl ?_
      refine z_at (M' := _) (lv' := [(2, .int (nI (j + 1))), (1, .int (s_sumf (s_mkf u) (j + 1))), (0, .ref x)]) rfl (by rw [show s_sumf (s_mkf u) (j + 1) = (s_sumf (s_mkf u) j) + 1 from (s_sf1 (if_neg (fun q => c22 (z_hm0.mpr q)))).symm]) rfl ?_
      exact ih (j + 1) (by omega)
set_option maxRecDepth 20000 in
theorem a_X3_howManyMarks (l : Launch) {G : zG} {u : sS} {x : Nat} {P RA VA : Nat → Nat} {pa sp ln rf sb : Nat} {Mw : zM} (hC : CI G u x P RA VA pa sp ln rf sb Mw) {t : Nat} (hok : s_ok t u) : z_Mi l G qX3_howManyMarks (z_rm 2 0 0) [.ref x] Mw (fun r M' => r = s_sumf (s_mkf u) 6 ∧ M' = Mw)  := by
  obtain ⟨fp, hpa, hfp⟩ := CI_pa hC
  refine z_Mi_of _ (plainFor_of_name rfl) rfl (Nat.le_of_ble_eq_true rfl) (fun X hl hG hnm C ret => ?_)
  subst hl; subst hG
  have C : z_C X cX3_howManyMarks RX3 3 (z_rm 2 0 0) := C
  show z_W X Mw 0 0 0 [(0, .ref x)] []
  refine z_iconst C (v := 0) dX3_howManyMarks_0 (by decide) ?_
  refine z_istore_n (lv' := [(1, .int 0), (0, .ref x)]) C dX3_howManyMarks_1 rfl (by decide) rfl ?_
  refine z_iconst C (v := 0) dX3_howManyMarks_2 (by decide) ?_
  refine z_istore_n (lv' := [(2, .int 0), (1, .int 0), (0, .ref x)]) C dX3_howManyMarks_3 rfl (by decide) rfl ?_
  refine z_at (M' := _) (lv' := [(2, .int (nI 0)), (1, .int (s_sumf (s_mkf u) 0)), (0, .ref x)]) rfl (by rw [nI_0]; rfl) rfl ?_
  refine lp_X3_howManyMarks C hok hC hpa hfp ?_ 6 0 (by omega)
  refine z_iload_n C dX3_howManyMarks_34 rfl 1 rfl ?_
  refine ret dX3_howManyMarks_35 rfl ?_ (by decide) (by decide)
  exact ⟨rfl, rfl⟩
set_option maxRecDepth 20000 in
theorem a_X3_houseNumber (l : Launch) {G : zG} {u : sS} {x : Nat} {P RA VA : Nat → Nat} {pa sp ln rf sb : Nat} {Mw : zM} (hC : CI G u x P RA VA pa sp ln rf sb Mw) {t : Nat} (hok : s_ok t u) (wh : Int32) (h_w : ¬ z_is wh 0 8 = 0) : z_Mi l G qX3_houseNumber (z_rm 3 0 0) [.ref x, .int wh] Mw (fun r M' => r = s_house u wh ∧ M' = Mw)  := by
  refine z_Mi_of _ (plainFor_of_name rfl) rfl (Nat.le_of_ble_eq_true rfl) (fun X hl hG hnm C ret => ?_)
  subst hl; subst hG
  have C : z_C X cX3_houseNumber RX3 2 (z_rm 3 0 0) := C
  show z_W X Mw 0 0 0 [(0, .ref x), (1, .int wh)] []
  refine z_iload_n C dX3_houseNumber_0 rfl 1 rfl ?_
  refine z_swi (fun x1 e1 => ?_)
  by_cases c1_0 : x1 = 0
  · refine z_tin C (v := 0) (tgt := 52) dX3_houseNumber_1 c1_0 (by decide) (by decide) (by decide) (by decide) ?_
    refine z_aload_n C dX3_houseNumber_52 rfl 0 rfl ?_
    refine gf_X3_42 C hC.1 dX3_houseNumber_53 ?_
    refine ret dX3_houseNumber_56 rfl ?_ (by decide) (by decide)
    exact ⟨by rw [(z_swe e1 c1_0)]; rfl, rfl⟩
  by_cases c1_1 : x1 = 1
  · refine z_tin C (v := 1) (tgt := 72) dX3_houseNumber_1 c1_1 (by decide) (by decide) (by decide) (by decide) ?_
    refine z_iload_n C dX3_houseNumber_72 rfl 1 rfl ?_
    refine z_if_lt C (tgt := 94) dX3_houseNumber_73 (by decide) (fun c73 => absurd c73 (by rw [(z_swe e1 c1_1)]; decide)) (fun _ => ?_)
    refine z_iload_n C dX3_houseNumber_76 rfl 1 rfl ?_
    refine z_aload_n C dX3_houseNumber_77 rfl 0 rfl ?_
    refine gf_X3_38 C hC.1 dX3_houseNumber_78 ?_
    refine z_alenI C (v := 6) (CI_rf hC) (by decide) dX3_houseNumber_81 ?_
    refine z_icmp_ge C (tgt := 94) dX3_houseNumber_82 (by decide) (fun c82 => absurd c82 (by rw [(z_swe e1 c1_1)]; decide)) (fun _ => ?_)
    refine z_aload_n C dX3_houseNumber_85 rfl 0 rfl ?_
    refine gf_X3_38 C hC.1 dX3_houseNumber_86 ?_
    refine z_iload_n C dX3_houseNumber_89 rfl 1 rfl ?_
    refine z_iald (j := wh.toNatClampNeg) C (CI_rf hC) (by rw [(z_swe e1 c1_1)]; exact z_inL (by decide)) rfl dX3_houseNumber_90 ?_
    refine z_goto C (tgt := 95) dX3_houseNumber_91 (by decide) ?_
    refine ret dX3_houseNumber_95 rfl ?_ (by decide) (by decide)
    exact ⟨by rw [(z_swe e1 c1_1)]; rfl, rfl⟩
  by_cases c1_2 : x1 = 2
  · refine z_tin C (v := 2) (tgt := 72) dX3_houseNumber_1 c1_2 (by decide) (by decide) (by decide) (by decide) ?_
    refine z_iload_n C dX3_houseNumber_72 rfl 1 rfl ?_
    refine z_if_lt C (tgt := 94) dX3_houseNumber_73 (by decide) (fun c73 => absurd c73 (by rw [(z_swe e1 c1_2)]; decide)) (fun _ => ?_)
    refine z_iload_n C dX3_houseNumber_76 rfl 1 rfl ?_
    refine z_aload_n C dX3_houseNumber_77 rfl 0 rfl ?_
    refine gf_X3_38 C hC.1 dX3_houseNumber_78 ?_
    refine z_alenI C (v := 6) (CI_rf hC) (by decide) dX3_houseNumber_81 ?_
    refine z_icmp_ge C (tgt := 94) dX3_houseNumber_82 (by decide) (fun c82 => absurd c82 (by rw [(z_swe e1 c1_2)]; decide)) (fun _ => ?_)
    refine z_aload_n C dX3_houseNumber_85 rfl 0 rfl ?_
    refine gf_X3_38 C hC.1 dX3_houseNumber_86 ?_
    refine z_iload_n C dX3_houseNumber_89 rfl 1 rfl ?_
    refine z_iald (j := wh.toNatClampNeg) C (CI_rf hC) (by rw [(z_swe e1 c1_2)]; exact z_inL (by decide)) rfl dX3_houseNumber_90 ?_
    refine z_goto C (tgt := 95) dX3_houseNumber_91 (by decide) ?_
    refine ret dX3_houseNumber_95 rfl ?_ (by decide) (by decide)
    exact ⟨by rw [(z_swe e1 c1_2)]; rfl, rfl⟩
  by_cases c1_3 : x1 = 3
  · refine z_tin C (v := 3) (tgt := 72) dX3_houseNumber_1 c1_3 (by decide) (by decide) (by decide) (by decide) ?_
    refine z_iload_n C dX3_houseNumber_72 rfl 1 rfl ?_
    refine z_if_lt C (tgt := 94) dX3_houseNumber_73 (by decide) (fun c73 => absurd c73 (by rw [(z_swe e1 c1_3)]; decide)) (fun _ => ?_)
    refine z_iload_n C dX3_houseNumber_76 rfl 1 rfl ?_
    refine z_aload_n C dX3_houseNumber_77 rfl 0 rfl ?_
    refine gf_X3_38 C hC.1 dX3_houseNumber_78 ?_
    refine z_alenI C (v := 6) (CI_rf hC) (by decide) dX3_houseNumber_81 ?_
    refine z_icmp_ge C (tgt := 94) dX3_houseNumber_82 (by decide) (fun c82 => absurd c82 (by rw [(z_swe e1 c1_3)]; decide)) (fun _ => ?_)
    refine z_aload_n C dX3_houseNumber_85 rfl 0 rfl ?_
    refine gf_X3_38 C hC.1 dX3_houseNumber_86 ?_
    refine z_iload_n C dX3_houseNumber_89 rfl 1 rfl ?_
    refine z_iald (j := wh.toNatClampNeg) C (CI_rf hC) (by rw [(z_swe e1 c1_3)]; exact z_inL (by decide)) rfl dX3_houseNumber_90 ?_
    refine z_goto C (tgt := 95) dX3_houseNumber_91 (by decide) ?_
    refine ret dX3_houseNumber_95 rfl ?_ (by decide) (by decide)
    exact ⟨by rw [(z_swe e1 c1_3)]; rfl, rfl⟩
  by_cases c1_4 : x1 = 4
  · refine z_tin C (v := 4) (tgt := 72) dX3_houseNumber_1 c1_4 (by decide) (by decide) (by decide) (by decide) ?_
    refine z_iload_n C dX3_houseNumber_72 rfl 1 rfl ?_
    refine z_if_lt C (tgt := 94) dX3_houseNumber_73 (by decide) (fun c73 => absurd c73 (by rw [(z_swe e1 c1_4)]; decide)) (fun _ => ?_)
    refine z_iload_n C dX3_houseNumber_76 rfl 1 rfl ?_
    refine z_aload_n C dX3_houseNumber_77 rfl 0 rfl ?_
    refine gf_X3_38 C hC.1 dX3_houseNumber_78 ?_
    refine z_alenI C (v := 6) (CI_rf hC) (by decide) dX3_houseNumber_81 ?_
    refine z_icmp_ge C (tgt := 94) dX3_houseNumber_82 (by decide) (fun c82 => absurd c82 (by rw [(z_swe e1 c1_4)]; decide)) (fun _ => ?_)
    refine z_aload_n C dX3_houseNumber_85 rfl 0 rfl ?_
    refine gf_X3_38 C hC.1 dX3_houseNumber_86 ?_
    refine z_iload_n C dX3_houseNumber_89 rfl 1 rfl ?_
    refine z_iald (j := wh.toNatClampNeg) C (CI_rf hC) (by rw [(z_swe e1 c1_4)]; exact z_inL (by decide)) rfl dX3_houseNumber_90 ?_
    refine z_goto C (tgt := 95) dX3_houseNumber_91 (by decide) ?_
    refine ret dX3_houseNumber_95 rfl ?_ (by decide) (by decide)
    exact ⟨by rw [(z_swe e1 c1_4)]; rfl, rfl⟩
  by_cases c1_5 : x1 = 5
  · refine z_tin C (v := 5) (tgt := 72) dX3_houseNumber_1 c1_5 (by decide) (by decide) (by decide) (by decide) ?_
    refine z_iload_n C dX3_houseNumber_72 rfl 1 rfl ?_
    refine z_if_lt C (tgt := 94) dX3_houseNumber_73 (by decide) (fun c73 => absurd c73 (by rw [(z_swe e1 c1_5)]; decide)) (fun _ => ?_)
    refine z_iload_n C dX3_houseNumber_76 rfl 1 rfl ?_
    refine z_aload_n C dX3_houseNumber_77 rfl 0 rfl ?_
    refine gf_X3_38 C hC.1 dX3_houseNumber_78 ?_
    refine z_alenI C (v := 6) (CI_rf hC) (by decide) dX3_houseNumber_81 ?_
    refine z_icmp_ge C (tgt := 94) dX3_houseNumber_82 (by decide) (fun c82 => absurd c82 (by rw [(z_swe e1 c1_5)]; decide)) (fun _ => ?_)
    refine z_aload_n C dX3_houseNumber_85 rfl 0 rfl ?_
    refine gf_X3_38 C hC.1 dX3_houseNumber_86 ?_
    refine z_iload_n C dX3_houseNumber_89 rfl 1 rfl ?_
    refine z_iald (j := wh.toNatClampNeg) C (CI_rf hC) (by rw [(z_swe e1 c1_5)]; exact z_inL (by decide)) rfl dX3_houseNumber_90 ?_
    refine z_goto C (tgt := 95) dX3_houseNumber_91 (by decide) ?_
    refine ret dX3_houseNumber_95 rfl ?_ (by decide) (by decide)
    exact ⟨by rw [(z_swe e1 c1_5)]; rfl, rfl⟩
  by_cases c1_6 : x1 = 6
  · refine z_tin C (v := 6) (tgt := 57) dX3_houseNumber_1 c1_6 (by decide) (by decide) (by decide) (by decide) ?_
    refine z_aload_n C dX3_houseNumber_57 rfl 0 rfl ?_
    refine gf_X3_46 C hC.1 dX3_houseNumber_58 ?_
    refine ret dX3_houseNumber_61 rfl ?_ (by decide) (by decide)
    exact ⟨by rw [(z_swe e1 c1_6)]; rfl, rfl⟩
  by_cases c1_7 : x1 = 7
  · refine z_tin C (v := 7) (tgt := 62) dX3_houseNumber_1 c1_7 (by decide) (by decide) (by decide) (by decide) ?_
    refine z_aload_n C dX3_houseNumber_62 rfl 0 rfl ?_
    refine z_callVi (rest := []) (k' := 0) (n' := 0) C (a_X3_howManyReaders (z_l X) hC hok) (cs_X3_236 C (by decide)) hC.1 rfl rfl rfl rfl (Nat.le_of_ble_eq_true rfl) rfl rfl (by decide) (by decide) dX3_houseNumber_63 (fun x63 Mq63 hq => ?_)
    obtain ⟨e63, rfl⟩ := hq
    rw [e63]
    refine ret dX3_houseNumber_66 rfl ?_ (by decide) (by decide)
    exact ⟨by rw [(z_swe e1 c1_7)]; rfl, rfl⟩
  by_cases c1_8 : x1 = 8
  · refine z_tin C (v := 8) (tgt := 67) dX3_houseNumber_1 c1_8 (by decide) (by decide) (by decide) (by decide) ?_
    refine z_aload_n C dX3_houseNumber_67 rfl 0 rfl ?_
    refine z_callVi (rest := []) (k' := 0) (n' := 0) C (a_X3_howManyMarks (z_l X) hC hok) (cs_X3_239 C (by decide)) hC.1 rfl rfl rfl rfl (Nat.le_of_ble_eq_true rfl) rfl rfl (by decide) (by decide) dX3_houseNumber_68 (fun x68 Mq68 hq => ?_)
    obtain ⟨e68, rfl⟩ := hq
    rw [e68]
    refine ret dX3_houseNumber_71 rfl ?_ (by decide) (by decide)
    exact ⟨by rw [(z_swe e1 c1_8)]; rfl, rfl⟩
  refine z_tout C (tgt := 72) dX3_houseNumber_1 (z_ou9 c1_0 c1_1 c1_2 c1_3 c1_4 c1_5 c1_6 c1_7 c1_8) (by decide) ?_
  have g1_0 : ¬ wh = 0 := fun q => c1_0 (e1.trans q)
  have g1_1 : ¬ wh = 1 := fun q => c1_1 (e1.trans q)
  have g1_2 : ¬ wh = 2 := fun q => c1_2 (e1.trans q)
  have g1_3 : ¬ wh = 3 := fun q => c1_3 (e1.trans q)
  have g1_4 : ¬ wh = 4 := fun q => c1_4 (e1.trans q)
  have g1_5 : ¬ wh = 5 := fun q => c1_5 (e1.trans q)
  have g1_6 : ¬ wh = 6 := fun q => c1_6 (e1.trans q)
  have g1_7 : ¬ wh = 7 := fun q => c1_7 (e1.trans q)
  have g1_8 : ¬ wh = 8 := fun q => c1_8 (e1.trans q)
  refine z_iload_n C dX3_houseNumber_72 rfl 1 rfl ?_
  refine z_if_lt C (tgt := 94) dX3_houseNumber_73 (by decide) (fun c73 => absurd c73 (fun q => z_h9 h_w ⟨g1_0, g1_1, g1_2, g1_3, g1_4, g1_5, g1_6, g1_7, g1_8⟩)) (fun _ => ?_)
  refine z_iload_n C dX3_houseNumber_76 rfl 1 rfl ?_
  refine z_aload_n C dX3_houseNumber_77 rfl 0 rfl ?_
  refine gf_X3_38 C hC.1 dX3_houseNumber_78 ?_
  refine z_alenI C (v := 6) (CI_rf hC) (by decide) dX3_houseNumber_81 ?_
  refine z_icmp_ge C (tgt := 94) dX3_houseNumber_82 (by decide) (fun c82 => absurd c82 (fun q => z_h9 h_w ⟨g1_0, g1_1, g1_2, g1_3, g1_4, g1_5, g1_6, g1_7, g1_8⟩)) (fun _ => ?_)
  refine z_aload_n C dX3_houseNumber_85 rfl 0 rfl ?_
  refine gf_X3_38 C hC.1 dX3_houseNumber_86 ?_
  refine z_iload_n C dX3_houseNumber_89 rfl 1 rfl ?_
  refine z_iald (j := wh.toNatClampNeg) C (CI_rf hC) (absurd ⟨g1_0, g1_1, g1_2, g1_3, g1_4, g1_5, g1_6, g1_7, g1_8⟩ (fun q => z_h9 h_w q)) rfl dX3_houseNumber_90 ?_
  refine z_goto C (tgt := 95) dX3_houseNumber_91 (by decide) ?_
  refine ret dX3_houseNumber_95 rfl ?_ (by decide) (by decide)
  exact absurd ⟨g1_0, g1_1, g1_2, g1_3, g1_4, g1_5, g1_6, g1_7, g1_8⟩ (fun q => z_h9 h_w q)
set_option maxRecDepth 20000 in
theorem a_X3_house (l : Launch) (h_st : l.stackTraces = false) {G : zG} {u : sS} {x : Nat} {P RA VA : Nat → Nat} {pa sp ln rf sb : Nat} {Mw : zM} (hC : CI G u x P RA VA pa sp ln rf sb Mw) {t : Nat} (hok : s_ok t u) (wh : Int32) : z_Xi l G qX3_house (z_rm 12 8 48) [.ref x, .int wh] Mw (CP G x pa sp ln rf sb (z_lt (z_is wh 0 8) 1) (s_house u wh, u)) (fun E M' => (z_lt (z_is wh 0 8) 1 = 1 ∧ E = "java/lang/IllegalArgumentException") ∧ ∃ P RA VA, CI G u x P RA VA pa sp ln rf sb M') := by
  refine z_Xi_of _ _ h_st rfl rfl (Nat.le_of_ble_eq_true rfl) (fun X hl hG C ret thr prp => ?_)
  subst hl; subst hG
  have C : z_C X cX3_house RX3 2 (z_rm 12 8 48) := C
  show z_W X Mw 0 0 0 [(0, .ref x), (1, .int wh)] []
  refine z_iload_n C dX3_house_0 rfl 1 rfl ?_
  refine z_iconst C (v := 0) dX3_house_1 (by decide) ?_
  refine z_bipush C (v := 8) dX3_house_2 (by decide) ?_
  refine z_callXSv (rest := []) (k' := 1) (n' := 6) C (c_X3_needWithin (z_l X) (z_G X) h_st) (cs_X3_53 C (by decide)) rfl rfl (Nat.le_of_ble_eq_true rfl) rfl rfl (by decide) (by decide) dX3_house_4 (fun E M' hq => ?_) (fun M' hq => ?_)
  · obtain ⟨cx4_0, rfl, rfl⟩ := hq
    exact prp (⟨⟨k_1 cx4_0, by decide⟩, _, _, _, hC⟩) (by decide) (by decide)
  · skip
    obtain ⟨d4_0, rfl⟩ := hq
    refine z_aload_n C dX3_house_7 rfl 0 rfl ?_
    refine z_iload_n C dX3_house_8 rfl 1 rfl ?_
    refine z_callVi (rest := []) (k' := 1) (n' := 6) C (a_X3_houseNumber (z_l X) hC hok wh d4_0) (cs_X3_185 C (by decide)) hC.1 rfl rfl rfl rfl (Nat.le_of_ble_eq_true rfl) rfl rfl (by decide) (by decide) dX3_house_9 (fun x9 Mq9 hq => ?_)
    obtain ⟨e9, rfl⟩ := hq
    rw [e9]
    refine ret dX3_house_12 rfl ?_ (by decide) (by decide)
    exact CP_ok (v := u) rfl (z_lt3 (z_is11 d4_0) rfl) hC
