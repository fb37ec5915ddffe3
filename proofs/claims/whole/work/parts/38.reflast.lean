theorem s_pour0k {u : sS} {i k : Nat} : (s_pour0 u i k).1 ≤ 0 ↔ (s_pour0 u i k).1 = 0 := s_put1k
theorem z_10 {x : Int32} (h : ¬ z_is x 0 9 = 0) : ∃ j : Nat, j < 10 ∧ x = nI j ∧ x.toNatClampNeg = j := by
  obtain ⟨h1, h2⟩ := z_is1 h
  have h3 := z_cl h1
  rw [z_le, z_t0] at h1
  rw [z_le, show (9 : Int32).toInt = 9 from by decide] at h2
  refine ⟨x.toNatClampNeg, by omega, ?_, rfl⟩
  rw [z_eqI, nI_T (by omega)]
  omega
def s_l10 (a0 a1 a2 a3 a4 a5 a6 a7 a8 a9 : Int32) : Nat → Int32 := upd (upd (upd (upd (upd (upd (upd (upd (upd (upd (fun _ => 0) 0 a0) 1 a1) 2 a2) 3 a3) 4 a4) 5 a5) 6 a6) 7 a7) 8 a8) 9 a9
theorem s_l10_of {a0 a1 a2 a3 a4 a5 a6 a7 a8 a9 x : Int32} (h : ¬ z_is x 0 9 = 0) : s_l10 a0 a1 a2 a3 a4 a5 a6 a7 a8 a9 x.toNatClampNeg = if x = 0 then a0 else if x = 1 then a1 else if x = 2 then a2 else if x = 3 then a3 else if x = 4 then a4 else if x = 5 then a5 else if x = 6 then a6 else if x = 7 then a7 else if x = 8 then a8 else a9 := by
  obtain ⟨j, hj, rfl, e⟩ := z_10 h
  rw [e]
  rcases (show j = 0 ∨ j = 1 ∨ j = 2 ∨ j = 3 ∨ j = 4 ∨ j = 5 ∨ j = 6 ∨ j = 7 ∨ j = 8 ∨ j = 9 by omega) with rfl | rfl | rfl | rfl | rfl | rfl | rfl | rfl | rfl | rfl <;> rfl
theorem s_of10 {u : sS} {i : Nat} {wh a5 a6 : Int32} (h5 : (if p_rd (s_pn u i) = 0 then p_sa (s_pn u i) else -9) = a5) (h6 : (if p_li (s_pn u i) - p_po (s_pn u i) ≤ 0 then (0 : Int32) else 1) = a6) (h : ¬ z_is wh 0 9 = 0) : s_of u i wh = s_l10 (p_po (s_pn u i)) (p_li (s_pn u i)) (p_cp (s_pn u i)) (p_li (s_pn u i) - p_po (s_pn u i)) (p_mk (s_pn u i)) a5 a6 (p_rd (s_pn u i)) (1 - p_rd (s_pn u i)) (p_cp (s_pn u i) - p_li (s_pn u i)) wh.toNatClampNeg := by
  rw [s_l10_of h]
  unfold s_of
  rw [h5, h6]
theorem dX5_pour_0 : decode cX5_pour 0 = .ok (.aload_n 0, 1) := by decide +kernel
theorem dX5_pour_1 : decode cX5_pour 1 = .ok (.iload_n 1, 1) := by decide +kernel
theorem dX5_pour_2 : decode cX5_pour 2 = .ok (.invokestatic 55, 3) := by decide +kernel
theorem dX5_pour_5 : decode cX5_pour 5 = .ok (.ifCond .eq 14, 3) := by decide +kernel
theorem dX5_pour_8 : decode cX5_pour 8 = .ok (.iload_n 2, 1) := by decide +kernel
theorem dX5_pour_9 : decode cX5_pour 9 = .ok (.invokestatic 55, 3) := by decide +kernel
theorem dX5_pour_12 : decode cX5_pour 12 = .ok (.ifCond .eq 7, 3) := by decide +kernel
theorem dX5_pour_15 : decode cX5_pour 15 = .ok (.iconst 1, 1) := by decide +kernel
theorem dX5_pour_16 : decode cX5_pour 16 = .ok (.goto 4, 3) := by decide +kernel
theorem dX5_pour_19 : decode cX5_pour 19 = .ok (.iconst 0, 1) := by decide +kernel
theorem dX5_pour_20 : decode cX5_pour 20 = .ok (.iload_n 3, 1) := by decide +kernel
theorem dX5_pour_21 : decode cX5_pour 21 = .ok (.iconst 0, 1) := by decide +kernel
theorem dX5_pour_22 : decode cX5_pour 22 = .ok (.bipush 20, 2) := by decide +kernel
theorem dX5_pour_24 : decode cX5_pour 24 = .ok (.invokestatic 36, 3) := by decide +kernel
theorem dX5_pour_27 : decode cX5_pour 27 = .ok (.invokevirtual 59, 3) := by decide +kernel
theorem dX5_pour_30 : decode cX5_pour 30 = .ok (.ifCond .ne 5, 3) := by decide +kernel
theorem dX5_pour_33 : decode cX5_pour 33 = .ok (.iconst 0, 1) := by decide +kernel
theorem dX5_pour_34 : decode cX5_pour 34 = .ok (.ireturn, 1) := by decide +kernel
theorem dX5_pour_35 : decode cX5_pour 35 = .ok (.aload_n 0, 1) := by decide +kernel
theorem dX5_pour_36 : decode cX5_pour 36 = .ok (.getfield 18, 3) := by decide +kernel
theorem dX5_pour_39 : decode cX5_pour 39 = .ok (.iload_n 1, 1) := by decide +kernel
theorem dX5_pour_40 : decode cX5_pour 40 = .ok (.aaload, 1) := by decide +kernel
theorem dX5_pour_41 : decode cX5_pour 41 = .ok (.astore 4, 2) := by decide +kernel
theorem dX5_pour_43 : decode cX5_pour 43 = .ok (.iconst 0, 1) := by decide +kernel
theorem dX5_pour_44 : decode cX5_pour 44 = .ok (.istore 5, 2) := by decide +kernel
theorem dX5_pour_46 : decode cX5_pour 46 = .ok (.iload 5, 2) := by decide +kernel
theorem dX5_pour_48 : decode cX5_pour 48 = .ok (.iload_n 3, 1) := by decide +kernel
theorem dX5_pour_49 : decode cX5_pour 49 = .ok (.if_icmp .ge 74, 3) := by decide +kernel
theorem dX5_pour_52 : decode cX5_pour 52 = .ok (.aload 4, 2) := by decide +kernel
theorem dX5_pour_54 : decode cX5_pour 54 = .ok (.invokestatic 43, 3) := by decide +kernel
theorem dX5_pour_57 : decode cX5_pour 57 = .ok (.ifCond .le 66, 3) := by decide +kernel
theorem dX5_pour_60 : decode cX5_pour 60 = .ok (.aload 4, 2) := by decide +kernel
theorem dX5_pour_62 : decode cX5_pour 62 = .ok (.iconst 4, 1) := by decide +kernel
theorem dX5_pour_63 : decode cX5_pour 63 = .ok (.dup2, 1) := by decide +kernel
theorem dX5_pour_64 : decode cX5_pour 64 = .ok (.iaload, 1) := by decide +kernel
theorem dX5_pour_65 : decode cX5_pour 65 = .ok (.iconst 1, 1) := by decide +kernel
theorem dX5_pour_66 : decode cX5_pour 66 = .ok (.iadd, 1) := by decide +kernel
theorem dX5_pour_67 : decode cX5_pour 67 = .ok (.iastore, 1) := by decide +kernel
theorem dX5_pour_68 : decode cX5_pour 68 = .ok (.aload_n 0, 1) := by decide +kernel
theorem dX5_pour_69 : decode cX5_pour 69 = .ok (.aload_n 0, 1) := by decide +kernel
theorem dX5_pour_70 : decode cX5_pour 70 = .ok (.getfield 18, 3) := by decide +kernel
theorem dX5_pour_73 : decode cX5_pour 73 = .ok (.iload_n 2, 1) := by decide +kernel
theorem dX5_pour_74 : decode cX5_pour 74 = .ok (.aaload, 1) := by decide +kernel
theorem dX5_pour_75 : decode cX5_pour 75 = .ok (.aload_n 0, 1) := by decide +kernel
theorem dX5_pour_76 : decode cX5_pour 76 = .ok (.getfield 9, 3) := by decide +kernel
theorem dX5_pour_79 : decode cX5_pour 79 = .ok (.aload_n 0, 1) := by decide +kernel
theorem dX5_pour_80 : decode cX5_pour 80 = .ok (.aload 4, 2) := by decide +kernel
theorem dX5_pour_82 : decode cX5_pour 82 = .ok (.aload 4, 2) := by decide +kernel
theorem dX5_pour_84 : decode cX5_pour 84 = .ok (.iconst 4, 1) := by decide +kernel
theorem dX5_pour_85 : decode cX5_pour 85 = .ok (.iaload, 1) := by decide +kernel
theorem dX5_pour_86 : decode cX5_pour 86 = .ok (.iconst 1, 1) := by decide +kernel
theorem dX5_pour_87 : decode cX5_pour 87 = .ok (.isub, 1) := by decide +kernel
theorem dX5_pour_88 : decode cX5_pour 88 = .ok (.invokevirtual 51, 3) := by decide +kernel
theorem dX5_pour_91 : decode cX5_pour 91 = .ok (.iaload, 1) := by decide +kernel
theorem dX5_pour_92 : decode cX5_pour 92 = .ok (.invokevirtual 92, 3) := by decide +kernel
theorem dX5_pour_95 : decode cX5_pour 95 = .ok (.ifCond .le 22, 3) := by decide +kernel
theorem dX5_pour_98 : decode cX5_pour 98 = .ok (.aload_n 0, 1) := by decide +kernel
theorem dX5_pour_99 : decode cX5_pour 99 = .ok (.aload 4, 2) := by decide +kernel
theorem dX5_pour_101 : decode cX5_pour 101 = .ok (.aload 4, 2) := by decide +kernel
theorem dX5_pour_103 : decode cX5_pour 103 = .ok (.iconst 4, 1) := by decide +kernel
theorem dX5_pour_104 : decode cX5_pour 104 = .ok (.iaload, 1) := by decide +kernel
theorem dX5_pour_105 : decode cX5_pour 105 = .ok (.iconst 1, 1) := by decide +kernel
theorem dX5_pour_106 : decode cX5_pour 106 = .ok (.isub, 1) := by decide +kernel
theorem dX5_pour_107 : decode cX5_pour 107 = .ok (.invokevirtual 74, 3) := by decide +kernel
theorem dX5_pour_110 : decode cX5_pour 110 = .ok (.aload_n 0, 1) := by decide +kernel
theorem dX5_pour_111 : decode cX5_pour 111 = .ok (.iload 5, 2) := by decide +kernel
theorem dX5_pour_113 : decode cX5_pour 113 = .ok (.invokevirtual 63, 3) := by decide +kernel
theorem dX5_pour_116 : decode cX5_pour 116 = .ok (.ireturn, 1) := by decide +kernel
theorem dX5_pour_117 : decode cX5_pour 117 = .ok (.iinc 5 1, 3) := by decide +kernel
theorem dX5_pour_120 : decode cX5_pour 120 = .ok (.goto (-74), 3) := by decide +kernel
theorem dX5_pour_123 : decode cX5_pour 123 = .ok (.aload_n 0, 1) := by decide +kernel
theorem dX5_pour_124 : decode cX5_pour 124 = .ok (.iload 5, 2) := by decide +kernel
theorem dX5_pour_126 : decode cX5_pour 126 = .ok (.invokevirtual 63, 3) := by decide +kernel
theorem dX5_pour_129 : decode cX5_pour 129 = .ok (.ireturn, 1) := by decide +kernel
theorem dX5_ofPane_0 : decode cX5_ofPane 0 = .ok (.aload_n 0, 1) := by decide +kernel
theorem dX5_ofPane_1 : decode cX5_ofPane 1 = .ok (.iload_n 1, 1) := by decide +kernel
theorem dX5_ofPane_2 : decode cX5_ofPane 2 = .ok (.invokestatic 55, 3) := by decide +kernel
theorem dX5_ofPane_5 : decode cX5_ofPane 5 = .ok (.iload_n 2, 1) := by decide +kernel
theorem dX5_ofPane_6 : decode cX5_ofPane 6 = .ok (.iconst 0, 1) := by decide +kernel
theorem dX5_ofPane_7 : decode cX5_ofPane 7 = .ok (.bipush 9, 2) := by decide +kernel
theorem dX5_ofPane_9 : decode cX5_ofPane 9 = .ok (.invokestatic 36, 3) := by decide +kernel
theorem dX5_ofPane_12 : decode cX5_ofPane 12 = .ok (.invokevirtual 59, 3) := by decide +kernel
theorem dX5_ofPane_15 : decode cX5_ofPane 15 = .ok (.ifCond .ne 5, 3) := by decide +kernel
theorem dX5_ofPane_18 : decode cX5_ofPane 18 = .ok (.iconst 0, 1) := by decide +kernel
theorem dX5_ofPane_19 : decode cX5_ofPane 19 = .ok (.ireturn, 1) := by decide +kernel
theorem dX5_ofPane_20 : decode cX5_ofPane 20 = .ok (.aload_n 0, 1) := by decide +kernel
theorem dX5_ofPane_21 : decode cX5_ofPane 21 = .ok (.getfield 18, 3) := by decide +kernel
theorem dX5_ofPane_24 : decode cX5_ofPane 24 = .ok (.iload_n 1, 1) := by decide +kernel
theorem dX5_ofPane_25 : decode cX5_ofPane 25 = .ok (.aaload, 1) := by decide +kernel
theorem dX5_ofPane_26 : decode cX5_ofPane 26 = .ok (.astore_n 3, 1) := by decide +kernel
theorem dX5_ofPane_27 : decode cX5_ofPane 27 = .ok (.bipush 10, 2) := by decide +kernel
theorem dX5_ofPane_29 : decode cX5_ofPane 29 = .ok (.newarray .int, 2) := by decide +kernel
theorem dX5_ofPane_31 : decode cX5_ofPane 31 = .ok (.dup, 1) := by decide +kernel
theorem dX5_ofPane_32 : decode cX5_ofPane 32 = .ok (.iconst 0, 1) := by decide +kernel
theorem dX5_ofPane_33 : decode cX5_ofPane 33 = .ok (.aload_n 3, 1) := by decide +kernel
theorem dX5_ofPane_34 : decode cX5_ofPane 34 = .ok (.iconst 4, 1) := by decide +kernel
theorem dX5_ofPane_35 : decode cX5_ofPane 35 = .ok (.iaload, 1) := by decide +kernel
theorem dX5_ofPane_36 : decode cX5_ofPane 36 = .ok (.iastore, 1) := by decide +kernel
theorem dX5_ofPane_37 : decode cX5_ofPane 37 = .ok (.dup, 1) := by decide +kernel
theorem dX5_ofPane_38 : decode cX5_ofPane 38 = .ok (.iconst 1, 1) := by decide +kernel
theorem dX5_ofPane_39 : decode cX5_ofPane 39 = .ok (.aload_n 3, 1) := by decide +kernel
theorem dX5_ofPane_40 : decode cX5_ofPane 40 = .ok (.iconst 5, 1) := by decide +kernel
theorem dX5_ofPane_41 : decode cX5_ofPane 41 = .ok (.iaload, 1) := by decide +kernel
theorem dX5_ofPane_42 : decode cX5_ofPane 42 = .ok (.iastore, 1) := by decide +kernel
theorem dX5_ofPane_43 : decode cX5_ofPane 43 = .ok (.dup, 1) := by decide +kernel
theorem dX5_ofPane_44 : decode cX5_ofPane 44 = .ok (.iconst 2, 1) := by decide +kernel
theorem dX5_ofPane_45 : decode cX5_ofPane 45 = .ok (.aload_n 3, 1) := by decide +kernel
theorem dX5_ofPane_46 : decode cX5_ofPane 46 = .ok (.iconst 3, 1) := by decide +kernel
theorem dX5_ofPane_47 : decode cX5_ofPane 47 = .ok (.iaload, 1) := by decide +kernel
theorem dX5_ofPane_48 : decode cX5_ofPane 48 = .ok (.iastore, 1) := by decide +kernel
theorem dX5_ofPane_49 : decode cX5_ofPane 49 = .ok (.dup, 1) := by decide +kernel
theorem dX5_ofPane_50 : decode cX5_ofPane 50 = .ok (.iconst 3, 1) := by decide +kernel
theorem dX5_ofPane_51 : decode cX5_ofPane 51 = .ok (.aload_n 3, 1) := by decide +kernel
theorem dX5_ofPane_52 : decode cX5_ofPane 52 = .ok (.invokestatic 43, 3) := by decide +kernel
theorem dX5_ofPane_55 : decode cX5_ofPane 55 = .ok (.iastore, 1) := by decide +kernel
theorem dX5_ofPane_56 : decode cX5_ofPane 56 = .ok (.dup, 1) := by decide +kernel
theorem dX5_ofPane_57 : decode cX5_ofPane 57 = .ok (.iconst 4, 1) := by decide +kernel
theorem dX5_ofPane_58 : decode cX5_ofPane 58 = .ok (.aload_n 3, 1) := by decide +kernel
theorem dX5_ofPane_59 : decode cX5_ofPane 59 = .ok (.bipush 6, 2) := by decide +kernel
theorem dX5_ofPane_61 : decode cX5_ofPane 61 = .ok (.iaload, 1) := by decide +kernel
theorem dX5_ofPane_62 : decode cX5_ofPane 62 = .ok (.iastore, 1) := by decide +kernel
theorem dX5_ofPane_63 : decode cX5_ofPane 63 = .ok (.dup, 1) := by decide +kernel
theorem dX5_ofPane_64 : decode cX5_ofPane 64 = .ok (.iconst 5, 1) := by decide +kernel
theorem dX5_ofPane_65 : decode cX5_ofPane 65 = .ok (.aload_n 3, 1) := by decide +kernel
theorem dX5_ofPane_66 : decode cX5_ofPane 66 = .ok (.bipush 7, 2) := by decide +kernel
theorem dX5_ofPane_68 : decode cX5_ofPane 68 = .ok (.iaload, 1) := by decide +kernel
theorem dX5_ofPane_69 : decode cX5_ofPane 69 = .ok (.iconst 1, 1) := by decide +kernel
theorem dX5_ofPane_70 : decode cX5_ofPane 70 = .ok (.if_icmp .ne 8, 3) := by decide +kernel
theorem dX5_ofPane_73 : decode cX5_ofPane 73 = .ok (.bipush (-9), 2) := by decide +kernel
theorem dX5_ofPane_75 : decode cX5_ofPane 75 = .ok (.goto 6, 3) := by decide +kernel
theorem dX5_ofPane_78 : decode cX5_ofPane 78 = .ok (.aload_n 3, 1) := by decide +kernel
theorem dX5_ofPane_79 : decode cX5_ofPane 79 = .ok (.iconst 2, 1) := by decide +kernel
theorem dX5_ofPane_80 : decode cX5_ofPane 80 = .ok (.iaload, 1) := by decide +kernel
theorem dX5_ofPane_81 : decode cX5_ofPane 81 = .ok (.iastore, 1) := by decide +kernel
theorem dX5_ofPane_82 : decode cX5_ofPane 82 = .ok (.dup, 1) := by decide +kernel
theorem dX5_ofPane_83 : decode cX5_ofPane 83 = .ok (.bipush 6, 2) := by decide +kernel
theorem dX5_ofPane_85 : decode cX5_ofPane 85 = .ok (.aload_n 3, 1) := by decide +kernel
theorem dX5_ofPane_86 : decode cX5_ofPane 86 = .ok (.invokestatic 43, 3) := by decide +kernel
theorem dX5_ofPane_89 : decode cX5_ofPane 89 = .ok (.ifCond .le 7, 3) := by decide +kernel
theorem dX5_ofPane_92 : decode cX5_ofPane 92 = .ok (.iconst 1, 1) := by decide +kernel
theorem dX5_ofPane_93 : decode cX5_ofPane 93 = .ok (.goto 4, 3) := by decide +kernel
theorem dX5_ofPane_96 : decode cX5_ofPane 96 = .ok (.iconst 0, 1) := by decide +kernel
theorem dX5_ofPane_97 : decode cX5_ofPane 97 = .ok (.iastore, 1) := by decide +kernel
theorem dX5_ofPane_98 : decode cX5_ofPane 98 = .ok (.dup, 1) := by decide +kernel
theorem dX5_ofPane_99 : decode cX5_ofPane 99 = .ok (.bipush 7, 2) := by decide +kernel
theorem dX5_ofPane_101 : decode cX5_ofPane 101 = .ok (.aload_n 3, 1) := by decide +kernel
theorem dX5_ofPane_102 : decode cX5_ofPane 102 = .ok (.bipush 7, 2) := by decide +kernel
theorem dX5_ofPane_104 : decode cX5_ofPane 104 = .ok (.iaload, 1) := by decide +kernel
theorem dX5_ofPane_105 : decode cX5_ofPane 105 = .ok (.iastore, 1) := by decide +kernel
theorem dX5_ofPane_106 : decode cX5_ofPane 106 = .ok (.dup, 1) := by decide +kernel
theorem dX5_ofPane_107 : decode cX5_ofPane 107 = .ok (.bipush 8, 2) := by decide +kernel
theorem dX5_ofPane_109 : decode cX5_ofPane 109 = .ok (.iconst 1, 1) := by decide +kernel
theorem dX5_ofPane_110 : decode cX5_ofPane 110 = .ok (.aload_n 3, 1) := by decide +kernel
theorem dX5_ofPane_111 : decode cX5_ofPane 111 = .ok (.bipush 7, 2) := by decide +kernel
theorem dX5_ofPane_113 : decode cX5_ofPane 113 = .ok (.iaload, 1) := by decide +kernel
theorem dX5_ofPane_114 : decode cX5_ofPane 114 = .ok (.isub, 1) := by decide +kernel
theorem dX5_ofPane_115 : decode cX5_ofPane 115 = .ok (.iastore, 1) := by decide +kernel
theorem dX5_ofPane_116 : decode cX5_ofPane 116 = .ok (.dup, 1) := by decide +kernel
theorem dX5_ofPane_117 : decode cX5_ofPane 117 = .ok (.bipush 9, 2) := by decide +kernel
theorem dX5_ofPane_119 : decode cX5_ofPane 119 = .ok (.aload_n 3, 1) := by decide +kernel
theorem dX5_ofPane_120 : decode cX5_ofPane 120 = .ok (.iconst 3, 1) := by decide +kernel
theorem dX5_ofPane_121 : decode cX5_ofPane 121 = .ok (.iaload, 1) := by decide +kernel
theorem dX5_ofPane_122 : decode cX5_ofPane 122 = .ok (.aload_n 3, 1) := by decide +kernel
theorem dX5_ofPane_123 : decode cX5_ofPane 123 = .ok (.iconst 5, 1) := by decide +kernel
theorem dX5_ofPane_124 : decode cX5_ofPane 124 = .ok (.iaload, 1) := by decide +kernel
theorem dX5_ofPane_125 : decode cX5_ofPane 125 = .ok (.isub, 1) := by decide +kernel
theorem dX5_ofPane_126 : decode cX5_ofPane 126 = .ok (.iastore, 1) := by decide +kernel
theorem dX5_ofPane_127 : decode cX5_ofPane 127 = .ok (.astore 4, 2) := by decide +kernel
theorem dX5_ofPane_129 : decode cX5_ofPane 129 = .ok (.aload 4, 2) := by decide +kernel
theorem dX5_ofPane_131 : decode cX5_ofPane 131 = .ok (.iload_n 2, 1) := by decide +kernel
theorem dX5_ofPane_132 : decode cX5_ofPane 132 = .ok (.iaload, 1) := by decide +kernel
theorem dX5_ofPane_133 : decode cX5_ofPane 133 = .ok (.ireturn, 1) := by decide +kernel
set_option maxRecDepth 20000 in
theorem lp_X5_pour2 {X : zX} (C : z_C X cX5_pour RX5 6 (z_rm 5 0 0)) {m : Nat} {th : Int32} {K : Nat → Nat} {tp pn td : Nat} {t : Nat} (ht : t ≤ 64) {i : Nat} (hi : i < 6) {pane other many : Int32} (h_ip2 : vp_in other 6) (hk : other.toNatClampNeg < 6) {mq : Nat} (hmn : many = nI mq) (hmb : mq ≤ 20) {res : Nat × sS} (kk1 : ∀ M', RI (z_G X) res.2 m th K tp pn td M' → z_W X M' 0 0 123 [(5, .int (nI res.1)), (4, .ref (K i)), (0, .ref m), (1, .int pane), (2, .int other), (3, .int many)] []) (kk2 : ∀ M', RI (z_G X) res.2 m th K tp pn td M' → z_W X M' 0 0 110 [(5, .int (nI res.1)), (4, .ref (K i)), (0, .ref m), (1, .int pane), (2, .int other), (3, .int many)] []) : ∀ (d j : Nat) (u : sS) (Mw : zM), j + d = mq → s_ok t u → RI (z_G X) u m th K tp pn td Mw → s_pour1 i other.toNatClampNeg d j u = res → z_W X Mw 0 0 46 [(5, .int (nI j)), (4, .ref (K i)), (0, .ref m), (1, .int pane), (2, .int other), (3, .int many)] [] := by
  intro d
  induction d with
  | zero =>
    intro j u Mw hj hok hR hres
    obtain ⟨ft, htp, hft⟩ := RI_tpf hR
    obtain ⟨fp, hpn, hfp⟩ := RI_pnf hR
    refine z_iload C dX5_pour_46 0 rfl ?_
    refine z_iload_n C dX5_pour_48 rfl 5 rfl ?_
    refine z_icmp_ge C (tgt := 123) dX5_pour_49 (by decide) (fun _ => ?_) (fun c49 => absurd (by rw [hmn]; exact nI_le (by omega) (by omega)) c49)
    subst hres
    exact kk1 _ hR
  | succ d ih =>
    intro j u Mw hj hok hR hres
    obtain ⟨ft, htp, hft⟩ := RI_tpf hR
    obtain ⟨fp, hpn, hfp⟩ := RI_pnf hR
    refine z_iload C dX5_pour_46 0 rfl ?_
    refine z_iload_n C dX5_pour_48 rfl 5 rfl ?_
    refine z_icmp_ge C (tgt := 123) dX5_pour_49 (by decide) (fun c49 => absurd c49 (by rw [hmn]; exact nI_ge (by omega) (by omega))) (fun _ => ?_)
    refine z_aload C dX5_pour_52 1 rfl ?_
    refine z_callSi (rest := []) (k' := 0) (n' := 0) C (c_X5_left (z_l X) (z_G X) (RI_K hR hi)) (cs_X5_43 C (by decide)) rfl rfl (Nat.le_of_ble_eq_true rfl) rfl rfl (by decide) (by decide) dX5_pour_54 (fun x54 M' hq => ?_)
    obtain ⟨rfl, rfl⟩ := hq
    refine z_if_le C (tgt := 123) dX5_pour_57 (by decide) (fun c57 => ?_) (fun c57 => ?_)
    · rw [s_pour1, if_pos c57] at hres
      subst hres
      exact kk1 _ hR
    · refine z_aload C dX5_pour_60 1 rfl ?_
      refine z_iconst C (v := 4) dX5_pour_62 (by decide) ?_
      refine z_dup2 C dX5_pour_63 rfl rfl ?_
      refine z_pl4 C (RI_K hR hi) dX5_pour_64 ?_
      refine z_iconst C (v := 1) dX5_pour_65 (by decide) ?_
      refine z_iadd C dX5_pour_66 ?_
      refine z_ps4 C (RI_K hR hi) dX5_pour_67 ?_
      refine z_aload_n C dX5_pour_68 rfl 2 rfl ?_
      refine z_aload_n C dX5_pour_69 rfl 2 rfl ?_
      refine gf_X5_18 C ((z_up_n _ _ (z_ne hR.1 (RI_K hR hi) (by intro h; cases h))).trans hR.1) dX5_pour_70 ?_
      refine z_iload_n C dX5_pour_73 rfl 4 rfl ?_
      refine z_aaldI (j := other.toNatClampNeg) C ((z_up_n _ _ (z_ne hpn (RI_K hR hi) (by intro h; simp at h))).trans hpn) h_ip2 rfl (hfp _ hk) dX5_pour_74 ?_
      refine z_aload_n C dX5_pour_75 rfl 2 rfl ?_
      refine gf_X5_9 C ((z_up_n _ _ (z_ne hR.1 (RI_K hR hi) (by intro h; cases h))).trans hR.1) dX5_pour_76 ?_
      refine z_aload_n C dX5_pour_79 rfl 2 rfl ?_
      refine z_aload C dX5_pour_80 1 rfl ?_
      refine z_aload C dX5_pour_82 1 rfl ?_
      refine z_iconst C (v := 4) dX5_pour_84 (by decide) ?_
      refine z_pl4 C (z_up_s _ _ _) dX5_pour_85 ?_
      refine z_iconst C (v := 1) dX5_pour_86 (by decide) ?_
      refine z_isub C dX5_pour_87 ?_
      refine z_callVi (rest := [.ref tp, .ref (K other.toNatClampNeg), .ref m]) (k' := 0) (n' := 0) C (c_X5_where (z_l X) (z_G X) (z_up_s _ _ _)) (cs_X5_51 C (by decide)) ((z_up_n _ _ (z_ne hR.1 (RI_K hR hi) (by intro h; cases h))).trans hR.1) rfl rfl rfl rfl (Nat.le_of_ble_eq_true rfl) rfl rfl (by decide) (by decide) dX5_pour_88 (fun x88 M' hq => ?_)
      obtain ⟨rfl, rfl⟩ := hq
      refine z_iald (j := (((nI (s_ba (s_ln u) (p_ro (s_pn u i)))) + (p_sa (s_pn u i))) + (((p_po (s_pn u i)) + 1) - 1)).toNatClampNeg) C ((z_up_n _ _ (Ne.symm (RI_n2 hR hi))).trans htp) (by rw [Int32.add_sub_cancel]; exact s_tin hok ht hi (s_inP hok hi (fun q => c57 ((s_left hok hi).mp q)))) rfl dX5_pour_91 ?_
      refine z_callVi (rest := []) (k' := 0) (n' := 0) C (a_X5_puts (z_l X) (RI_pn hR hi (p_po' (s_pn u i) (p_po (s_pn u i) + 1))) (s_ok_nx hok hi (fun q => c57 ((s_left hok hi).mp q))) ht hk _) (cs_X5_92 C (by decide)) ((z_up_n _ _ (z_ne hR.1 (RI_K hR hi) (by intro h; cases h))).trans hR.1) rfl rfl rfl rfl (Nat.le_of_ble_eq_true rfl) rfl rfl (by decide) (by decide) dX5_pour_92 (fun x92 Mq92 hq => ?_)
      rw [Int32.add_sub_cancel, s_rd hok ht hi hft (s_inP hok hi (fun q => c57 ((s_left hok hi).mp q)))] at hq
      obtain ⟨e92, hR92⟩ := hq
      have e9 : x92 = (s_pour0 u i other.toNatClampNeg).1 := e92
      rw [e9]
      have hR9 : RI (z_G X) (s_pour0 u i other.toNatClampNeg).2 m th K tp pn td Mq92 := hR92
      refine z_if_le C (tgt := 117) dX5_pour_95 (by decide) (fun c95 => ?_) (fun c95 => ?_)
      · refine z_iinc (v := nI (j + 1)) (lv' := [(5, .int (nI (j + 1))), (4, .ref (K i)), (0, .ref m), (1, .int pane), (2, .int other), (3, .int many)]) C dX5_pour_117 0 rfl (nI_1 j) (by decide) rfl ?_
        refine z_goto C (tgt := 46) dX5_pour_120 (by decide) ?_
        exact ih (j + 1) _ _ (by omega) (s_ok_pour0 hok hi hk (fun q => c57 ((s_left hok hi).mp q))) hR9 (by rw [s_pour1, if_neg c57, if_pos (s_pour0k.mp c95)] at hres; exact hres)
      · refine z_aload_n C dX5_pour_98 rfl 2 rfl ?_
        refine z_aload C dX5_pour_99 1 rfl ?_
        refine z_aload C dX5_pour_101 1 rfl ?_
        refine z_iconst C (v := 4) dX5_pour_103 (by decide) ?_
        refine z_pl4 C (RI_K hR9 hi) dX5_pour_104 ?_
        refine z_iconst C (v := 1) dX5_pour_105 (by decide) ?_
        refine z_isub C dX5_pour_106 ?_
        refine z_callVv (rest := []) (k' := 0) (n' := 0) C (a_X5_moved (z_l X) hR9 hi _) (cs_X5_74 C (by decide)) hR9.1 rfl rfl rfl rfl (Nat.le_of_ble_eq_true rfl) rfl rfl (by decide) (by decide) dX5_pour_107 (fun Mq107 hq => ?_)
        rw [s_pour1, if_neg c57, if_neg (fun q => c95 (s_pour0k.mpr q))] at hres
        subst hres
        exact kk2 _ hq
set_option maxRecDepth 20000 in
theorem c_X5_pour_bad (l : Launch) (G : zG) {M : zM} {m : Nat} {pane : Int32} {other : Int32} {many : Int32} {tp : Nat} {nr : Int32} {pn : Nat} {td : Nat} {ac : Int32} {kn : Int32} {th : Int32}  (h_m : M m = some (cMd tp nr pn td ac kn th)) (h_bad : z_is pane 0 5 = 0) : z_Mi l G qX5_pour (z_rm 5 0 0) [.ref m, .int pane, .int other, .int many] M (fun r M' => r = 0 ∧ M' = z_up M m (cMd tp nr pn td ac kn (z_lt 0 (z_is many 0 20))))  := by
  refine z_Mi_of _ (plainFor_of_name rfl) rfl (Nat.le_of_ble_eq_true rfl) (fun X hl hG hnm C ret => ?_)
  subst hl; subst hG
  have C : z_C X cX5_pour RX5 6 (z_rm 5 0 0) := C
  show z_W X M 0 0 0 [(0, .ref m), (1, .int pane), (2, .int other), (3, .int many)] []
  refine z_aload_n C dX5_pour_0 rfl 0 rfl ?_
  refine z_iload_n C dX5_pour_1 rfl 1 rfl ?_
  refine z_callSi (rest := [.ref m]) (k' := 0) (n' := 0) C (c_X5_isPane (z_l X) (z_G X) ) (cs_X5_55 C (by decide)) rfl rfl (Nat.le_of_ble_eq_true rfl) rfl rfl (by decide) (by decide) dX5_pour_2 (fun x2 M' hq => ?_)
  obtain ⟨rfl, rfl⟩ := hq
  refine z_if_eq C (tgt := 19) dX5_pour_5 (by decide) (fun _ => ?_) (fun c5 => absurd h_bad c5)
  refine z_iconst C (v := 0) dX5_pour_19 (by decide) ?_
  refine z_iload_n C dX5_pour_20 rfl 3 rfl ?_
  refine z_iconst C (v := 0) dX5_pour_21 (by decide) ?_
  refine z_bipush C (v := 20) dX5_pour_22 (by decide) ?_
  refine z_callSi (rest := [.int 0, .ref m]) (k' := 0) (n' := 0) C (c_X5_isIn (z_l X) (z_G X) ) (cs_X5_36 C (by decide)) rfl rfl (Nat.le_of_ble_eq_true rfl) rfl rfl (by decide) (by decide) dX5_pour_24 (fun x24 M' hq => ?_)
  obtain ⟨rfl, rfl⟩ := hq
  refine z_callVi (rest := []) (k' := 0) (n' := 0) C (c_X5_isLet (z_l X) (z_G X) h_m) (cs_X5_59 C (by decide)) h_m rfl rfl rfl rfl (Nat.le_of_ble_eq_true rfl) rfl rfl (by decide) (by decide) dX5_pour_27 (fun x27 M' hq => ?_)
  obtain ⟨rfl, rfl⟩ := hq
  refine z_if_ne C (tgt := 35) dX5_pour_30 (by decide) (fun c30 => absurd (by simp [z_lr, z_lt]) c30) (fun _ => ?_)
  refine z_iconst C (v := 0) dX5_pour_33 (by decide) ?_
  exact ret dX5_pour_34 rfl (⟨rfl, rfl⟩) (by decide) (by decide)
set_option maxRecDepth 20000 in
theorem c_X5_pour_bad2 (l : Launch) (G : zG) {M : zM} {m : Nat} {pane : Int32} {other : Int32} {many : Int32} {tp : Nat} {nr : Int32} {pn : Nat} {td : Nat} {ac : Int32} {kn : Int32} {th : Int32}  (h_m : M m = some (cMd tp nr pn td ac kn th)) (h_ok : z_is pane 0 5 = 1) (h_bad2 : z_is other 0 5 = 0) : z_Mi l G qX5_pour (z_rm 5 0 0) [.ref m, .int pane, .int other, .int many] M (fun r M' => r = 0 ∧ M' = z_up M m (cMd tp nr pn td ac kn (z_lt 0 (z_is many 0 20))))  := by
  refine z_Mi_of _ (plainFor_of_name rfl) rfl (Nat.le_of_ble_eq_true rfl) (fun X hl hG hnm C ret => ?_)
  subst hl; subst hG
  have C : z_C X cX5_pour RX5 6 (z_rm 5 0 0) := C
  show z_W X M 0 0 0 [(0, .ref m), (1, .int pane), (2, .int other), (3, .int many)] []
  refine z_aload_n C dX5_pour_0 rfl 0 rfl ?_
  refine z_iload_n C dX5_pour_1 rfl 1 rfl ?_
  refine z_callSi (rest := [.ref m]) (k' := 0) (n' := 0) C (c_X5_isPane (z_l X) (z_G X) ) (cs_X5_55 C (by decide)) rfl rfl (Nat.le_of_ble_eq_true rfl) rfl rfl (by decide) (by decide) dX5_pour_2 (fun x2 M' hq => ?_)
  obtain ⟨rfl, rfl⟩ := hq
  refine z_if_eq C (tgt := 19) dX5_pour_5 (by decide) (fun c5 => absurd c5 (by rw [h_ok]; decide)) (fun _ => ?_)
  refine z_iload_n C dX5_pour_8 rfl 2 rfl ?_
  refine z_callSi (rest := [.ref m]) (k' := 0) (n' := 0) C (c_X5_isPane (z_l X) (z_G X) ) (cs_X5_55 C (by decide)) rfl rfl (Nat.le_of_ble_eq_true rfl) rfl rfl (by decide) (by decide) dX5_pour_9 (fun x9 M' hq => ?_)
  obtain ⟨rfl, rfl⟩ := hq
  refine z_if_eq C (tgt := 19) dX5_pour_12 (by decide) (fun _ => ?_) (fun c12 => absurd h_bad2 c12)
  refine z_iconst C (v := 0) dX5_pour_19 (by decide) ?_
  refine z_iload_n C dX5_pour_20 rfl 3 rfl ?_
  refine z_iconst C (v := 0) dX5_pour_21 (by decide) ?_
  refine z_bipush C (v := 20) dX5_pour_22 (by decide) ?_
  refine z_callSi (rest := [.int 0, .ref m]) (k' := 0) (n' := 0) C (c_X5_isIn (z_l X) (z_G X) ) (cs_X5_36 C (by decide)) rfl rfl (Nat.le_of_ble_eq_true rfl) rfl rfl (by decide) (by decide) dX5_pour_24 (fun x24 M' hq => ?_)
  obtain ⟨rfl, rfl⟩ := hq
  refine z_callVi (rest := []) (k' := 0) (n' := 0) C (c_X5_isLet (z_l X) (z_G X) h_m) (cs_X5_59 C (by decide)) h_m rfl rfl rfl rfl (Nat.le_of_ble_eq_true rfl) rfl rfl (by decide) (by decide) dX5_pour_27 (fun x27 M' hq => ?_)
  obtain ⟨rfl, rfl⟩ := hq
  refine z_if_ne C (tgt := 35) dX5_pour_30 (by decide) (fun c30 => absurd (by simp [z_lr, z_lt]) c30) (fun _ => ?_)
  refine z_iconst C (v := 0) dX5_pour_33 (by decide) ?_
  exact ret dX5_pour_34 rfl (⟨rfl, rfl⟩) (by decide) (by decide)
set_option maxRecDepth 20000 in
theorem g_X5_pour (l : Launch) {G : zG} {u : sS} {m : Nat} {th : Int32} {K : Nat → Nat} {tp pn td : Nat} {Mw : zM} (hR : RI G u m th K tp pn td Mw) {t : Nat} (hok : s_ok t u) (ht : t ≤ 64) {pane other many : Int32} (h_ok : z_is pane 0 5 = 1) (h_ip : vp_in pane 6) (hi : pane.toNatClampNeg < 6) (h_ok2 : z_is other 0 5 = 1) (h_ip2 : vp_in other 6) (hi2 : other.toNatClampNeg < 6) : z_Mi l G qX5_pour (z_rm 5 0 0) [.ref m, .int pane, .int other, .int many] Mw (RP G m pn td (z_lt (t_2 pane other) (z_is many 0 20)) u (s_pour u pane.toNatClampNeg other.toNatClampNeg many))  := by
  obtain ⟨ft, htp, hft⟩ := RI_tpf hR
  obtain ⟨fp, hpn, hfp⟩ := RI_pnf hR
  refine z_Mi_of _ (plainFor_of_name rfl) rfl (Nat.le_of_ble_eq_true rfl) (fun X hl hG hnm C ret => ?_)
  subst hl; subst hG
  have C : z_C X cX5_pour RX5 6 (z_rm 5 0 0) := C
  show z_W X Mw 0 0 0 [(0, .ref m), (1, .int pane), (2, .int other), (3, .int many)] []
  refine z_aload_n C dX5_pour_0 rfl 0 rfl ?_
  refine z_iload_n C dX5_pour_1 rfl 1 rfl ?_
  refine z_callSi (rest := [.ref m]) (k' := 0) (n' := 0) C (c_X5_isPane (z_l X) (z_G X) ) (cs_X5_55 C (by decide)) rfl rfl (Nat.le_of_ble_eq_true rfl) rfl rfl (by decide) (by decide) dX5_pour_2 (fun x2 M' hq => ?_)
  obtain ⟨rfl, rfl⟩ := hq
  refine z_if_eq C (tgt := 19) dX5_pour_5 (by decide) (fun c5 => absurd c5 (by rw [h_ok]; decide)) (fun _ => ?_)
  refine z_iload_n C dX5_pour_8 rfl 2 rfl ?_
  refine z_callSi (rest := [.ref m]) (k' := 0) (n' := 0) C (c_X5_isPane (z_l X) (z_G X) ) (cs_X5_55 C (by decide)) rfl rfl (Nat.le_of_ble_eq_true rfl) rfl rfl (by decide) (by decide) dX5_pour_9 (fun x9 M' hq => ?_)
  obtain ⟨rfl, rfl⟩ := hq
  refine z_if_eq C (tgt := 19) dX5_pour_12 (by decide) (fun c12 => absurd c12 (by rw [h_ok2]; decide)) (fun _ => ?_)
  refine z_iconst C (v := 1) dX5_pour_15 (by decide) ?_
  refine z_goto C (tgt := 20) dX5_pour_16 (by decide) ?_
  refine z_iload_n C dX5_pour_20 rfl 3 rfl ?_
  refine z_iconst C (v := 0) dX5_pour_21 (by decide) ?_
  refine z_bipush C (v := 20) dX5_pour_22 (by decide) ?_
  refine z_callSi (rest := [.int 1, .ref m]) (k' := 0) (n' := 0) C (c_X5_isIn (z_l X) (z_G X) ) (cs_X5_36 C (by decide)) rfl rfl (Nat.le_of_ble_eq_true rfl) rfl rfl (by decide) (by decide) dX5_pour_24 (fun x24 M' hq => ?_)
  obtain ⟨rfl, rfl⟩ := hq
  refine z_callVi (rest := []) (k' := 0) (n' := 0) C (c_X5_isLet (z_l X) (z_G X) hR.1) (cs_X5_59 C (by decide)) hR.1 rfl rfl rfl rfl (Nat.le_of_ble_eq_true rfl) rfl rfl (by decide) (by decide) dX5_pour_27 (fun x27 M' hq => ?_)
  obtain ⟨rfl, rfl⟩ := hq
  refine z_if_ne C (tgt := 35) dX5_pour_30 (by decide) (fun c30 => ?_) (fun c30 => ?_)
  · refine z_aload_n C dX5_pour_35 rfl 0 rfl ?_
    refine gf_X5_18 C (z_up_s _ _ _) dX5_pour_36 ?_
    refine z_iload_n C dX5_pour_39 rfl 1 rfl ?_
    refine z_aaldI (j := pane.toNatClampNeg) C ((z_up_n _ _ (z_ne hpn hR.1 (by intro h; cases h))).trans hpn) h_ip rfl (hfp _ hi) dX5_pour_40 ?_
    refine z_astore (lv' := [(4, .ref (K pane.toNatClampNeg)), (0, .ref m), (1, .int pane), (2, .int other), (3, .int many)]) C dX5_pour_41 (by decide) rfl ?_
    refine z_iconst C (v := 0) dX5_pour_43 (by decide) ?_
    refine z_istore (lv' := [(5, .int 0), (4, .ref (K pane.toNatClampNeg)), (0, .ref m), (1, .int pane), (2, .int other), (3, .int many)]) C dX5_pour_44 (by decide) rfl ?_
    refine z_at (M' := _) (lv' := [(5, .int (nI 0)), (4, .ref (K pane.toNatClampNeg)), (0, .ref m), (1, .int pane), (2, .int other), (3, .int many)]) rfl (by rw [nI_0]) rfl ?_
    refine lp_X5_pour2 C ht hi h_ip2 hi2 (z_rgN (z_lrN c30)).1 (z_r20 (z_lrN c30)) (fun Mq9 h9 => ?_) (fun Mq9 h9 => ?_) _ 0 u _ (Nat.zero_add _) hok (RI_th hR _) rfl
    · refine z_aload_n C dX5_pour_123 rfl 2 rfl ?_
      refine z_iload C dX5_pour_124 0 rfl ?_
      refine z_callVi (rest := []) (k' := 0) (n' := 0) C (c_X5_did (z_l X) (z_G X) h9.1) (cs_X5_63 C (by decide)) h9.1 rfl rfl rfl rfl (Nat.le_of_ble_eq_true rfl) rfl rfl (by decide) (by decide) dX5_pour_126 (fun x126 M' hq => ?_)
      obtain ⟨rfl, rfl⟩ := hq
      refine ret dX5_pour_129 rfl ?_ (by decide) (by decide)
      exact RP_ok (v := s_act (s_pour1 pane.toNatClampNeg other.toNatClampNeg many.toNatClampNeg 0 u).2) rfl (by rw [(show t_2 pane other = 1 from by unfold t_2; rw [h_ok, h_ok2]; decide)]; exact z_lr0 c30) (RI_ak h9 _ _ _) (by rw [(show t_2 pane other = 1 from by unfold t_2; rw [h_ok, h_ok2]; decide)])
    · refine z_aload_n C dX5_pour_110 rfl 2 rfl ?_
      refine z_iload C dX5_pour_111 0 rfl ?_
      refine z_callVi (rest := []) (k' := 0) (n' := 0) C (c_X5_did (z_l X) (z_G X) h9.1) (cs_X5_63 C (by decide)) h9.1 rfl rfl rfl rfl (Nat.le_of_ble_eq_true rfl) rfl rfl (by decide) (by decide) dX5_pour_113 (fun x113 M' hq => ?_)
      obtain ⟨rfl, rfl⟩ := hq
      refine ret dX5_pour_116 rfl ?_ (by decide) (by decide)
      exact RP_ok (v := s_act (s_pour1 pane.toNatClampNeg other.toNatClampNeg many.toNatClampNeg 0 u).2) rfl (by rw [(show t_2 pane other = 1 from by unfold t_2; rw [h_ok, h_ok2]; decide)]; exact z_lr0 c30) (RI_ak h9 _ _ _) (by rw [(show t_2 pane other = 1 from by unfold t_2; rw [h_ok, h_ok2]; decide)])
  · refine z_iconst C (v := 0) dX5_pour_33 (by decide) ?_
    refine ret dX5_pour_34 rfl ?_ (by decide) (by decide)
    exact RP_bad (by rw [(show t_2 pane other = 1 from by unfold t_2; rw [h_ok, h_ok2]; decide)]; exact z_lr1 c30) (RI_ak hR _ _ _) (by rw [(show t_2 pane other = 1 from by unfold t_2; rw [h_ok, h_ok2]; decide)])
theorem a_X5_pour (l : Launch) {G : zG} {u : sS} {m : Nat} {th : Int32} {K : Nat → Nat} {tp pn td : Nat} {Mw : zM} (hR : RI G u m th K tp pn td Mw) {t : Nat} (hok : s_ok t u) (ht : t ≤ 64) (pane other many : Int32) : z_Mi l G qX5_pour (z_rm 5 0 0) [.ref m, .int pane, .int other, .int many] Mw (RP G m pn td (z_lt (t_2 pane other) (z_is many 0 20)) u (s_pour u pane.toNatClampNeg other.toNatClampNeg many)) := by
  rcases z_pc pane with ⟨h_ok, h_ip, hi⟩ | ⟨h_bad, -⟩
  · rcases z_pc other with ⟨h_ok2, h_ip2, hi2⟩ | ⟨h_bad2, -⟩
    · exact g_X5_pour l hR hok ht h_ok h_ip hi h_ok2 h_ip2 hi2
    · have e9 : t_2 pane other = 0 := by unfold t_2; rw [h_ok, h_bad2]; decide
      rw [e9]
      refine z_Mi_mono (c_X5_pour_bad2 l G hR.1 h_ok h_bad2) ?_
      rintro r M' ⟨hr9, rfl⟩
      · exact RP_bad (z_lt0 rfl) (RI_ak hR _ _ _) (by rfl)
  · have e9 : t_2 pane other = 0 := by unfold t_2; rw [h_bad]; exact if_pos rfl
    rw [e9]
    refine z_Mi_mono (c_X5_pour_bad l G hR.1 h_bad) ?_
    rintro r M' ⟨hr9, rfl⟩
    · exact RP_bad (z_lt0 rfl) (RI_ak hR _ _ _) (by rfl)
set_option maxRecDepth 20000 in
theorem c_X5_ofPane_bad (l : Launch) (G : zG) {M : zM} {m : Nat} {pane : Int32} {wh : Int32} {tp : Nat} {nr : Int32} {pn : Nat} {td : Nat} {ac : Int32} {kn : Int32} {th : Int32}  (h_m : M m = some (cMd tp nr pn td ac kn th)) (h_bad : z_is pane 0 5 = 0) : z_Mi l G qX5_ofPane (z_rm 4 1 10) [.ref m, .int pane, .int wh] M (fun r M' => r = 0 ∧ M' = z_up M m (cMd tp nr pn td ac kn (z_lt (z_is pane 0 5) (z_is wh 0 9))))  := by
  refine z_Mi_of _ (plainFor_of_name rfl) rfl (Nat.le_of_ble_eq_true rfl) (fun X hl hG hnm C ret => ?_)
  subst hl; subst hG
  have C : z_C X cX5_ofPane RX5 5 (z_rm 4 1 10) := C
  show z_W X M 0 0 0 [(0, .ref m), (1, .int pane), (2, .int wh)] []
  refine z_aload_n C dX5_ofPane_0 rfl 0 rfl ?_
  refine z_iload_n C dX5_ofPane_1 rfl 1 rfl ?_
  refine z_callSi (rest := [.ref m]) (k' := 0) (n' := 0) C (c_X5_isPane (z_l X) (z_G X) ) (cs_X5_55 C (by decide)) rfl rfl (Nat.le_of_ble_eq_true rfl) rfl rfl (by decide) (by decide) dX5_ofPane_2 (fun x2 M' hq => ?_)
  obtain ⟨rfl, rfl⟩ := hq
  refine z_iload_n C dX5_ofPane_5 rfl 2 rfl ?_
  refine z_iconst C (v := 0) dX5_ofPane_6 (by decide) ?_
  refine z_bipush C (v := 9) dX5_ofPane_7 (by decide) ?_
  refine z_callSi (rest := [.int (z_is pane 0 5), .ref m]) (k' := 0) (n' := 0) C (c_X5_isIn (z_l X) (z_G X) ) (cs_X5_36 C (by decide)) rfl rfl (Nat.le_of_ble_eq_true rfl) rfl rfl (by decide) (by decide) dX5_ofPane_9 (fun x9 M' hq => ?_)
  obtain ⟨rfl, rfl⟩ := hq
  refine z_callVi (rest := []) (k' := 0) (n' := 0) C (c_X5_isLet (z_l X) (z_G X) h_m) (cs_X5_59 C (by decide)) h_m rfl rfl rfl rfl (Nat.le_of_ble_eq_true rfl) rfl rfl (by decide) (by decide) dX5_ofPane_12 (fun x12 M' hq => ?_)
  obtain ⟨rfl, rfl⟩ := hq
  refine z_if_ne C (tgt := 20) dX5_ofPane_15 (by decide) (fun c15 => absurd (by simp [z_lr, z_lt, h_bad]) c15) (fun _ => ?_)
  refine z_iconst C (v := 0) dX5_ofPane_18 (by decide) ?_
  exact ret dX5_ofPane_19 rfl (⟨rfl, rfl⟩) (by decide) (by decide)
set_option maxRecDepth 20000 in
theorem g_X5_ofPane (l : Launch) {G : zG} {u : sS} {m : Nat} {th : Int32} {K : Nat → Nat} {tp pn td : Nat} {Mw : zM} (hR : RI G u m th K tp pn td Mw) {t : Nat} (hok : s_ok t u) (ht : t ≤ 64) {pane wh : Int32} (h_ok : z_is pane 0 5 = 1) (h_ip : vp_in pane 6) (hi : pane.toNatClampNeg < 6) : z_Mi l G qX5_ofPane (z_rm 4 1 10) [.ref m, .int pane, .int wh] Mw (RP G m pn td (z_lt (z_is pane 0 5) (z_is wh 0 9)) u ((s_of u pane.toNatClampNeg wh, u)))  := by
  obtain ⟨ft, htp, hft⟩ := RI_tpf hR
  obtain ⟨fp, hpn, hfp⟩ := RI_pnf hR
  refine z_Mi_of _ (plainFor_of_name rfl) rfl (Nat.le_of_ble_eq_true rfl) (fun X hl hG hnm C ret => ?_)
  subst hl; subst hG
  have C : z_C X cX5_ofPane RX5 5 (z_rm 4 1 10) := C
  show z_W X Mw 0 0 0 [(0, .ref m), (1, .int pane), (2, .int wh)] []
  refine z_aload_n C dX5_ofPane_0 rfl 0 rfl ?_
  refine z_iload_n C dX5_ofPane_1 rfl 1 rfl ?_
  refine z_callSi (rest := [.ref m]) (k' := 0) (n' := 0) C (c_X5_isPane (z_l X) (z_G X) ) (cs_X5_55 C (by decide)) rfl rfl (Nat.le_of_ble_eq_true rfl) rfl rfl (by decide) (by decide) dX5_ofPane_2 (fun x2 M' hq => ?_)
  obtain ⟨rfl, rfl⟩ := hq
  refine z_iload_n C dX5_ofPane_5 rfl 2 rfl ?_
  refine z_iconst C (v := 0) dX5_ofPane_6 (by decide) ?_
  refine z_bipush C (v := 9) dX5_ofPane_7 (by decide) ?_
  refine z_callSi (rest := [.int (z_is pane 0 5), .ref m]) (k' := 0) (n' := 0) C (c_X5_isIn (z_l X) (z_G X) ) (cs_X5_36 C (by decide)) rfl rfl (Nat.le_of_ble_eq_true rfl) rfl rfl (by decide) (by decide) dX5_ofPane_9 (fun x9 M' hq => ?_)
  obtain ⟨rfl, rfl⟩ := hq
  refine z_callVi (rest := []) (k' := 0) (n' := 0) C (c_X5_isLet (z_l X) (z_G X) hR.1) (cs_X5_59 C (by decide)) hR.1 rfl rfl rfl rfl (Nat.le_of_ble_eq_true rfl) rfl rfl (by decide) (by decide) dX5_ofPane_12 (fun x12 M' hq => ?_)
  obtain ⟨rfl, rfl⟩ := hq
  refine z_if_ne C (tgt := 20) dX5_ofPane_15 (by decide) (fun c15 => ?_) (fun c15 => ?_)
  · refine z_aload_n C dX5_ofPane_20 rfl 0 rfl ?_
    refine gf_X5_18 C (z_up_s _ _ _) dX5_ofPane_21 ?_
    refine z_iload_n C dX5_ofPane_24 rfl 1 rfl ?_
    refine z_aaldI (j := pane.toNatClampNeg) C ((z_up_n _ _ (z_ne hpn hR.1 (by intro h; cases h))).trans hpn) h_ip rfl (hfp _ hi) dX5_ofPane_25 ?_
    refine z_astore_n (lv' := [(3, .ref (K pane.toNatClampNeg)), (0, .ref m), (1, .int pane), (2, .int wh)]) C dX5_ofPane_26 rfl (by decide) rfl ?_
    refine z_bipush C (v := 10) dX5_ofPane_27 (by decide) ?_
    refine z_newI (N := 10) C kw44 (by decide) (by decide) (by decide) (by decide) (by decide) dX5_ofPane_29 (fun q29 hq29 => ?_)
    refine z_kn (k' := 1) (n' := 10) rfl rfl ?_
    refine z_dup C dX5_ofPane_31 rfl ?_
    refine z_iconst C (v := 0) dX5_ofPane_32 (by decide) ?_
    refine z_aload_n C dX5_ofPane_33 rfl 0 rfl ?_
    refine z_iconst C (v := 4) dX5_ofPane_34 (by decide) ?_
    refine z_pl4 C ((z_up_n _ _ (z_neN ((z_up_n _ _ (z_ne (RI_K hR hi) hR.1 (by intro h; cases h))).trans (RI_K hR hi)) hq29)).trans ((z_up_n _ _ (z_ne (RI_K hR hi) hR.1 (by intro h; cases h))).trans (RI_K hR hi))) dX5_ofPane_35 ?_
    refine z_iast (j := 0) C (z_up_s _ _ _) (z_inL (by decide)) (by decide) dX5_ofPane_36 ?_
    rw [z_up_up]
    refine z_dup C dX5_ofPane_37 rfl ?_
    refine z_iconst C (v := 1) dX5_ofPane_38 (by decide) ?_
    refine z_aload_n C dX5_ofPane_39 rfl 0 rfl ?_
    refine z_iconst C (v := 5) dX5_ofPane_40 (by decide) ?_
    refine z_pl5 C ((z_up_n _ _ (z_neN ((z_up_n _ _ (z_ne (RI_K hR hi) hR.1 (by intro h; cases h))).trans (RI_K hR hi)) hq29)).trans ((z_up_n _ _ (z_ne (RI_K hR hi) hR.1 (by intro h; cases h))).trans (RI_K hR hi))) dX5_ofPane_41 ?_
    refine z_iast (j := 1) C (z_up_s _ _ _) (z_inL (by decide)) (by decide) dX5_ofPane_42 ?_
    rw [z_up_up]
    refine z_dup C dX5_ofPane_43 rfl ?_
    refine z_iconst C (v := 2) dX5_ofPane_44 (by decide) ?_
    refine z_aload_n C dX5_ofPane_45 rfl 0 rfl ?_
    refine z_iconst C (v := 3) dX5_ofPane_46 (by decide) ?_
    refine z_pl3 C ((z_up_n _ _ (z_neN ((z_up_n _ _ (z_ne (RI_K hR hi) hR.1 (by intro h; cases h))).trans (RI_K hR hi)) hq29)).trans ((z_up_n _ _ (z_ne (RI_K hR hi) hR.1 (by intro h; cases h))).trans (RI_K hR hi))) dX5_ofPane_47 ?_
    refine z_iast (j := 2) C (z_up_s _ _ _) (z_inL (by decide)) (by decide) dX5_ofPane_48 ?_
    rw [z_up_up]
    refine z_dup C dX5_ofPane_49 rfl ?_
    refine z_iconst C (v := 3) dX5_ofPane_50 (by decide) ?_
    refine z_aload_n C dX5_ofPane_51 rfl 0 rfl ?_
    refine z_callSi (rest := [.int 3, .ref q29, .ref q29]) (k' := 1) (n' := 10) C (c_X5_left (z_l X) (z_G X) ((z_up_n _ _ (z_neN ((z_up_n _ _ (z_ne (RI_K hR hi) hR.1 (by intro h; cases h))).trans (RI_K hR hi)) hq29)).trans ((z_up_n _ _ (z_ne (RI_K hR hi) hR.1 (by intro h; cases h))).trans (RI_K hR hi)))) (cs_X5_43 C (by decide)) rfl rfl (Nat.le_of_ble_eq_true rfl) rfl rfl (by decide) (by decide) dX5_ofPane_52 (fun x52 M' hq => ?_)
    obtain ⟨rfl, rfl⟩ := hq
    refine z_iast (j := 3) C (z_up_s _ _ _) (z_inL (by decide)) (by decide) dX5_ofPane_55 ?_
    rw [z_up_up]
    refine z_dup C dX5_ofPane_56 rfl ?_
    refine z_iconst C (v := 4) dX5_ofPane_57 (by decide) ?_
    refine z_aload_n C dX5_ofPane_58 rfl 0 rfl ?_
    refine z_bipush C (v := 6) dX5_ofPane_59 (by decide) ?_
    refine z_pl6 C ((z_up_n _ _ (z_neN ((z_up_n _ _ (z_ne (RI_K hR hi) hR.1 (by intro h; cases h))).trans (RI_K hR hi)) hq29)).trans ((z_up_n _ _ (z_ne (RI_K hR hi) hR.1 (by intro h; cases h))).trans (RI_K hR hi))) dX5_ofPane_61 ?_
    refine z_iast (j := 4) C (z_up_s _ _ _) (z_inL (by decide)) (by decide) dX5_ofPane_62 ?_
    rw [z_up_up]
    refine z_dup C dX5_ofPane_63 rfl ?_
    refine z_iconst C (v := 5) dX5_ofPane_64 (by decide) ?_
    refine z_aload_n C dX5_ofPane_65 rfl 0 rfl ?_
    refine z_bipush C (v := 7) dX5_ofPane_66 (by decide) ?_
    refine z_pl7 C ((z_up_n _ _ (z_neN ((z_up_n _ _ (z_ne (RI_K hR hi) hR.1 (by intro h; cases h))).trans (RI_K hR hi)) hq29)).trans ((z_up_n _ _ (z_ne (RI_K hR hi) hR.1 (by intro h; cases h))).trans (RI_K hR hi))) dX5_ofPane_68 ?_
    refine z_iconst C (v := 1) dX5_ofPane_69 (by decide) ?_
    refine z_icmp_ne C (tgt := 78) dX5_ofPane_70 (by decide) (fun c70 => ?_) (fun c70 => ?_)
    · refine z_aload_n C dX5_ofPane_78 rfl 0 rfl ?_
      refine z_iconst C (v := 2) dX5_ofPane_79 (by decide) ?_
      refine z_pl2 C ((z_up_n _ _ (z_neN ((z_up_n _ _ (z_ne (RI_K hR hi) hR.1 (by intro h; cases h))).trans (RI_K hR hi)) hq29)).trans ((z_up_n _ _ (z_ne (RI_K hR hi) hR.1 (by intro h; cases h))).trans (RI_K hR hi))) dX5_ofPane_80 ?_
      refine z_iast (j := 5) C (z_up_s _ _ _) (z_inL (by decide)) (by decide) dX5_ofPane_81 ?_
      rw [z_up_up]
      refine z_dup C dX5_ofPane_82 rfl ?_
      refine z_bipush C (v := 6) dX5_ofPane_83 (by decide) ?_
      refine z_aload_n C dX5_ofPane_85 rfl 0 rfl ?_
      refine z_callSi (rest := [.int 6, .ref q29, .ref q29]) (k' := 1) (n' := 10) C (c_X5_left (z_l X) (z_G X) ((z_up_n _ _ (z_neN ((z_up_n _ _ (z_ne (RI_K hR hi) hR.1 (by intro h; cases h))).trans (RI_K hR hi)) hq29)).trans ((z_up_n _ _ (z_ne (RI_K hR hi) hR.1 (by intro h; cases h))).trans (RI_K hR hi)))) (cs_X5_43 C (by decide)) rfl rfl (Nat.le_of_ble_eq_true rfl) rfl rfl (by decide) (by decide) dX5_ofPane_86 (fun x86 M' hq => ?_)
      obtain ⟨rfl, rfl⟩ := hq
      refine z_if_le C (tgt := 96) dX5_ofPane_89 (by decide) (fun c89 => ?_) (fun c89 => ?_)
      · refine z_iconst C (v := 0) dX5_ofPane_96 (by decide) ?_
        refine z_iast (j := 6) C (z_up_s _ _ _) (z_inL (by decide)) (by decide) dX5_ofPane_97 ?_
        rw [z_up_up]
        refine z_dup C dX5_ofPane_98 rfl ?_
        refine z_bipush C (v := 7) dX5_ofPane_99 (by decide) ?_
        refine z_aload_n C dX5_ofPane_101 rfl 0 rfl ?_
        refine z_bipush C (v := 7) dX5_ofPane_102 (by decide) ?_
        refine z_pl7 C ((z_up_n _ _ (z_neN ((z_up_n _ _ (z_ne (RI_K hR hi) hR.1 (by intro h; cases h))).trans (RI_K hR hi)) hq29)).trans ((z_up_n _ _ (z_ne (RI_K hR hi) hR.1 (by intro h; cases h))).trans (RI_K hR hi))) dX5_ofPane_104 ?_
        refine z_iast (j := 7) C (z_up_s _ _ _) (z_inL (by decide)) (by decide) dX5_ofPane_105 ?_
        rw [z_up_up]
        refine z_dup C dX5_ofPane_106 rfl ?_
        refine z_bipush C (v := 8) dX5_ofPane_107 (by decide) ?_
        refine z_iconst C (v := 1) dX5_ofPane_109 (by decide) ?_
        refine z_aload_n C dX5_ofPane_110 rfl 0 rfl ?_
        refine z_bipush C (v := 7) dX5_ofPane_111 (by decide) ?_
        refine z_pl7 C ((z_up_n _ _ (z_neN ((z_up_n _ _ (z_ne (RI_K hR hi) hR.1 (by intro h; cases h))).trans (RI_K hR hi)) hq29)).trans ((z_up_n _ _ (z_ne (RI_K hR hi) hR.1 (by intro h; cases h))).trans (RI_K hR hi))) dX5_ofPane_113 ?_
        refine z_isub C dX5_ofPane_114 ?_
        refine z_iast (j := 8) C (z_up_s _ _ _) (z_inL (by decide)) (by decide) dX5_ofPane_115 ?_
        rw [z_up_up]
        refine z_dup C dX5_ofPane_116 rfl ?_
        refine z_bipush C (v := 9) dX5_ofPane_117 (by decide) ?_
        refine z_aload_n C dX5_ofPane_119 rfl 0 rfl ?_
        refine z_iconst C (v := 3) dX5_ofPane_120 (by decide) ?_
        refine z_pl3 C ((z_up_n _ _ (z_neN ((z_up_n _ _ (z_ne (RI_K hR hi) hR.1 (by intro h; cases h))).trans (RI_K hR hi)) hq29)).trans ((z_up_n _ _ (z_ne (RI_K hR hi) hR.1 (by intro h; cases h))).trans (RI_K hR hi))) dX5_ofPane_121 ?_
        refine z_aload_n C dX5_ofPane_122 rfl 0 rfl ?_
        refine z_iconst C (v := 5) dX5_ofPane_123 (by decide) ?_
        refine z_pl5 C ((z_up_n _ _ (z_neN ((z_up_n _ _ (z_ne (RI_K hR hi) hR.1 (by intro h; cases h))).trans (RI_K hR hi)) hq29)).trans ((z_up_n _ _ (z_ne (RI_K hR hi) hR.1 (by intro h; cases h))).trans (RI_K hR hi))) dX5_ofPane_124 ?_
        refine z_isub C dX5_ofPane_125 ?_
        refine z_iast (j := 9) C (z_up_s _ _ _) (z_inL (by decide)) (by decide) dX5_ofPane_126 ?_
        rw [z_up_up]
        refine z_astore (lv' := [(4, .ref q29), (3, .ref (K pane.toNatClampNeg)), (0, .ref m), (1, .int pane), (2, .int wh)]) C dX5_ofPane_127 (by decide) rfl ?_
        refine z_aload C dX5_ofPane_129 0 rfl ?_
        refine z_iload_n C dX5_ofPane_131 rfl 4 rfl ?_
        refine z_iald (j := wh.toNatClampNeg) C (z_up_s _ _ _) (z_inT.mpr (by obtain ⟨jq, hjq, ejq, -⟩ := z_10 (z_lrN c15); rw [ejq, nI_T (by omega)]; omega)) rfl dX5_ofPane_132 ?_
        refine ret dX5_ofPane_133 rfl ?_ (by decide) (by decide)
        exact RP_ok (v := u) (by rw [s_of10 (if_pos ((s_rdn hok hi).mpr c70)) (if_pos c89) (z_lrN c15)]; rfl) (z_lr0 c15) (RI_junk (RI_th hR _) hq29)
      · refine z_iconst C (v := 1) dX5_ofPane_92 (by decide) ?_
        refine z_goto C (tgt := 97) dX5_ofPane_93 (by decide) ?_
        refine z_iast (j := 6) C (z_up_s _ _ _) (z_inL (by decide)) (by decide) dX5_ofPane_97 ?_
        rw [z_up_up]
        refine z_dup C dX5_ofPane_98 rfl ?_
        refine z_bipush C (v := 7) dX5_ofPane_99 (by decide) ?_
        refine z_aload_n C dX5_ofPane_101 rfl 0 rfl ?_
        refine z_bipush C (v := 7) dX5_ofPane_102 (by decide) ?_
        refine z_pl7 C ((z_up_n _ _ (z_neN ((z_up_n _ _ (z_ne (RI_K hR hi) hR.1 (by intro h; cases h))).trans (RI_K hR hi)) hq29)).trans ((z_up_n _ _ (z_ne (RI_K hR hi) hR.1 (by intro h; cases h))).trans (RI_K hR hi))) dX5_ofPane_104 ?_
        refine z_iast (j := 7) C (z_up_s _ _ _) (z_inL (by decide)) (by decide) dX5_ofPane_105 ?_
        rw [z_up_up]
        refine z_dup C dX5_ofPane_106 rfl ?_
        refine z_bipush C (v := 8) dX5_ofPane_107 (by decide) ?_
        refine z_iconst C (v := 1) dX5_ofPane_109 (by decide) ?_
        refine z_aload_n C dX5_ofPane_110 rfl 0 rfl ?_
        refine z_bipush C (v := 7) dX5_ofPane_111 (by decide) ?_
        refine z_pl7 C ((z_up_n _ _ (z_neN ((z_up_n _ _ (z_ne (RI_K hR hi) hR.1 (by intro h; cases h))).trans (RI_K hR hi)) hq29)).trans ((z_up_n _ _ (z_ne (RI_K hR hi) hR.1 (by intro h; cases h))).trans (RI_K hR hi))) dX5_ofPane_113 ?_
        refine z_isub C dX5_ofPane_114 ?_
        refine z_iast (j := 8) C (z_up_s _ _ _) (z_inL (by decide)) (by decide) dX5_ofPane_115 ?_
        rw [z_up_up]
        refine z_dup C dX5_ofPane_116 rfl ?_
        refine z_bipush C (v := 9) dX5_ofPane_117 (by decide) ?_
        refine z_aload_n C dX5_ofPane_119 rfl 0 rfl ?_
        refine z_iconst C (v := 3) dX5_ofPane_120 (by decide) ?_
        refine z_pl3 C ((z_up_n _ _ (z_neN ((z_up_n _ _ (z_ne (RI_K hR hi) hR.1 (by intro h; cases h))).trans (RI_K hR hi)) hq29)).trans ((z_up_n _ _ (z_ne (RI_K hR hi) hR.1 (by intro h; cases h))).trans (RI_K hR hi))) dX5_ofPane_121 ?_
        refine z_aload_n C dX5_ofPane_122 rfl 0 rfl ?_
        refine z_iconst C (v := 5) dX5_ofPane_123 (by decide) ?_
        refine z_pl5 C ((z_up_n _ _ (z_neN ((z_up_n _ _ (z_ne (RI_K hR hi) hR.1 (by intro h; cases h))).trans (RI_K hR hi)) hq29)).trans ((z_up_n _ _ (z_ne (RI_K hR hi) hR.1 (by intro h; cases h))).trans (RI_K hR hi))) dX5_ofPane_124 ?_
        refine z_isub C dX5_ofPane_125 ?_
        refine z_iast (j := 9) C (z_up_s _ _ _) (z_inL (by decide)) (by decide) dX5_ofPane_126 ?_
        rw [z_up_up]
        refine z_astore (lv' := [(4, .ref q29), (3, .ref (K pane.toNatClampNeg)), (0, .ref m), (1, .int pane), (2, .int wh)]) C dX5_ofPane_127 (by decide) rfl ?_
        refine z_aload C dX5_ofPane_129 0 rfl ?_
        refine z_iload_n C dX5_ofPane_131 rfl 4 rfl ?_
        refine z_iald (j := wh.toNatClampNeg) C (z_up_s _ _ _) (z_inT.mpr (by obtain ⟨jq, hjq, ejq, -⟩ := z_10 (z_lrN c15); rw [ejq, nI_T (by omega)]; omega)) rfl dX5_ofPane_132 ?_
        refine ret dX5_ofPane_133 rfl ?_ (by decide) (by decide)
        exact RP_ok (v := u) (by rw [s_of10 (if_pos ((s_rdn hok hi).mpr c70)) (if_neg c89) (z_lrN c15)]; rfl) (z_lr0 c15) (RI_junk (RI_th hR _) hq29)
    · refine z_bipush C (v := (-9)) dX5_ofPane_73 (by decide) ?_
      refine z_goto C (tgt := 81) dX5_ofPane_75 (by decide) ?_
      refine z_iast (j := 5) C (z_up_s _ _ _) (z_inL (by decide)) (by decide) dX5_ofPane_81 ?_
      rw [z_up_up]
      refine z_dup C dX5_ofPane_82 rfl ?_
      refine z_bipush C (v := 6) dX5_ofPane_83 (by decide) ?_
      refine z_aload_n C dX5_ofPane_85 rfl 0 rfl ?_
      refine z_callSi (rest := [.int 6, .ref q29, .ref q29]) (k' := 1) (n' := 10) C (c_X5_left (z_l X) (z_G X) ((z_up_n _ _ (z_neN ((z_up_n _ _ (z_ne (RI_K hR hi) hR.1 (by intro h; cases h))).trans (RI_K hR hi)) hq29)).trans ((z_up_n _ _ (z_ne (RI_K hR hi) hR.1 (by intro h; cases h))).trans (RI_K hR hi)))) (cs_X5_43 C (by decide)) rfl rfl (Nat.le_of_ble_eq_true rfl) rfl rfl (by decide) (by decide) dX5_ofPane_86 (fun x86 M' hq => ?_)
      obtain ⟨rfl, rfl⟩ := hq
      refine z_if_le C (tgt := 96) dX5_ofPane_89 (by decide) (fun c89 => ?_) (fun c89 => ?_)
      · refine z_iconst C (v := 0) dX5_ofPane_96 (by decide) ?_
        refine z_iast (j := 6) C (z_up_s _ _ _) (z_inL (by decide)) (by decide) dX5_ofPane_97 ?_
        rw [z_up_up]
        refine z_dup C dX5_ofPane_98 rfl ?_
        refine z_bipush C (v := 7) dX5_ofPane_99 (by decide) ?_
        refine z_aload_n C dX5_ofPane_101 rfl 0 rfl ?_
        refine z_bipush C (v := 7) dX5_ofPane_102 (by decide) ?_
        refine z_pl7 C ((z_up_n _ _ (z_neN ((z_up_n _ _ (z_ne (RI_K hR hi) hR.1 (by intro h; cases h))).trans (RI_K hR hi)) hq29)).trans ((z_up_n _ _ (z_ne (RI_K hR hi) hR.1 (by intro h; cases h))).trans (RI_K hR hi))) dX5_ofPane_104 ?_
        refine z_iast (j := 7) C (z_up_s _ _ _) (z_inL (by decide)) (by decide) dX5_ofPane_105 ?_
        rw [z_up_up]
        refine z_dup C dX5_ofPane_106 rfl ?_
        refine z_bipush C (v := 8) dX5_ofPane_107 (by decide) ?_
        refine z_iconst C (v := 1) dX5_ofPane_109 (by decide) ?_
        refine z_aload_n C dX5_ofPane_110 rfl 0 rfl ?_
        refine z_bipush C (v := 7) dX5_ofPane_111 (by decide) ?_
        refine z_pl7 C ((z_up_n _ _ (z_neN ((z_up_n _ _ (z_ne (RI_K hR hi) hR.1 (by intro h; cases h))).trans (RI_K hR hi)) hq29)).trans ((z_up_n _ _ (z_ne (RI_K hR hi) hR.1 (by intro h; cases h))).trans (RI_K hR hi))) dX5_ofPane_113 ?_
        refine z_isub C dX5_ofPane_114 ?_
        refine z_iast (j := 8) C (z_up_s _ _ _) (z_inL (by decide)) (by decide) dX5_ofPane_115 ?_
        rw [z_up_up]
        refine z_dup C dX5_ofPane_116 rfl ?_
        refine z_bipush C (v := 9) dX5_ofPane_117 (by decide) ?_
        refine z_aload_n C dX5_ofPane_119 rfl 0 rfl ?_
        refine z_iconst C (v := 3) dX5_ofPane_120 (by decide) ?_
        refine z_pl3 C ((z_up_n _ _ (z_neN ((z_up_n _ _ (z_ne (RI_K hR hi) hR.1 (by intro h; cases h))).trans (RI_K hR hi)) hq29)).trans ((z_up_n _ _ (z_ne (RI_K hR hi) hR.1 (by intro h; cases h))).trans (RI_K hR hi))) dX5_ofPane_121 ?_
        refine z_aload_n C dX5_ofPane_122 rfl 0 rfl ?_
        refine z_iconst C (v := 5) dX5_ofPane_123 (by decide) ?_
        refine z_pl5 C ((z_up_n _ _ (z_neN ((z_up_n _ _ (z_ne (RI_K hR hi) hR.1 (by intro h; cases h))).trans (RI_K hR hi)) hq29)).trans ((z_up_n _ _ (z_ne (RI_K hR hi) hR.1 (by intro h; cases h))).trans (RI_K hR hi))) dX5_ofPane_124 ?_
        refine z_isub C dX5_ofPane_125 ?_
        refine z_iast (j := 9) C (z_up_s _ _ _) (z_inL (by decide)) (by decide) dX5_ofPane_126 ?_
        rw [z_up_up]
        refine z_astore (lv' := [(4, .ref q29), (3, .ref (K pane.toNatClampNeg)), (0, .ref m), (1, .int pane), (2, .int wh)]) C dX5_ofPane_127 (by decide) rfl ?_
        refine z_aload C dX5_ofPane_129 0 rfl ?_
        refine z_iload_n C dX5_ofPane_131 rfl 4 rfl ?_
        refine z_iald (j := wh.toNatClampNeg) C (z_up_s _ _ _) (z_inT.mpr (by obtain ⟨jq, hjq, ejq, -⟩ := z_10 (z_lrN c15); rw [ejq, nI_T (by omega)]; omega)) rfl dX5_ofPane_132 ?_
        refine ret dX5_ofPane_133 rfl ?_ (by decide) (by decide)
        exact RP_ok (v := u) (by rw [s_of10 (if_neg ((s_rdn' hok hi).mp c70)) (if_pos c89) (z_lrN c15)]; rfl) (z_lr0 c15) (RI_junk (RI_th hR _) hq29)
      · refine z_iconst C (v := 1) dX5_ofPane_92 (by decide) ?_
        refine z_goto C (tgt := 97) dX5_ofPane_93 (by decide) ?_
        refine z_iast (j := 6) C (z_up_s _ _ _) (z_inL (by decide)) (by decide) dX5_ofPane_97 ?_
        rw [z_up_up]
        refine z_dup C dX5_ofPane_98 rfl ?_
        refine z_bipush C (v := 7) dX5_ofPane_99 (by decide) ?_
        refine z_aload_n C dX5_ofPane_101 rfl 0 rfl ?_
        refine z_bipush C (v := 7) dX5_ofPane_102 (by decide) ?_
        refine z_pl7 C ((z_up_n _ _ (z_neN ((z_up_n _ _ (z_ne (RI_K hR hi) hR.1 (by intro h; cases h))).trans (RI_K hR hi)) hq29)).trans ((z_up_n _ _ (z_ne (RI_K hR hi) hR.1 (by intro h; cases h))).trans (RI_K hR hi))) dX5_ofPane_104 ?_
        refine z_iast (j := 7) C (z_up_s _ _ _) (z_inL (by decide)) (by decide) dX5_ofPane_105 ?_
        rw [z_up_up]
        refine z_dup C dX5_ofPane_106 rfl ?_
        refine z_bipush C (v := 8) dX5_ofPane_107 (by decide) ?_
        refine z_iconst C (v := 1) dX5_ofPane_109 (by decide) ?_
        refine z_aload_n C dX5_ofPane_110 rfl 0 rfl ?_
        refine z_bipush C (v := 7) dX5_ofPane_111 (by decide) ?_
        refine z_pl7 C ((z_up_n _ _ (z_neN ((z_up_n _ _ (z_ne (RI_K hR hi) hR.1 (by intro h; cases h))).trans (RI_K hR hi)) hq29)).trans ((z_up_n _ _ (z_ne (RI_K hR hi) hR.1 (by intro h; cases h))).trans (RI_K hR hi))) dX5_ofPane_113 ?_
        refine z_isub C dX5_ofPane_114 ?_
        refine z_iast (j := 8) C (z_up_s _ _ _) (z_inL (by decide)) (by decide) dX5_ofPane_115 ?_
        rw [z_up_up]
        refine z_dup C dX5_ofPane_116 rfl ?_
        refine z_bipush C (v := 9) dX5_ofPane_117 (by decide) ?_
        refine z_aload_n C dX5_ofPane_119 rfl 0 rfl ?_
        refine z_iconst C (v := 3) dX5_ofPane_120 (by decide) ?_
        refine z_pl3 C ((z_up_n _ _ (z_neN ((z_up_n _ _ (z_ne (RI_K hR hi) hR.1 (by intro h; cases h))).trans (RI_K hR hi)) hq29)).trans ((z_up_n _ _ (z_ne (RI_K hR hi) hR.1 (by intro h; cases h))).trans (RI_K hR hi))) dX5_ofPane_121 ?_
        refine z_aload_n C dX5_ofPane_122 rfl 0 rfl ?_
        refine z_iconst C (v := 5) dX5_ofPane_123 (by decide) ?_
        refine z_pl5 C ((z_up_n _ _ (z_neN ((z_up_n _ _ (z_ne (RI_K hR hi) hR.1 (by intro h; cases h))).trans (RI_K hR hi)) hq29)).trans ((z_up_n _ _ (z_ne (RI_K hR hi) hR.1 (by intro h; cases h))).trans (RI_K hR hi))) dX5_ofPane_124 ?_
        refine z_isub C dX5_ofPane_125 ?_
        refine z_iast (j := 9) C (z_up_s _ _ _) (z_inL (by decide)) (by decide) dX5_ofPane_126 ?_
        rw [z_up_up]
        refine z_astore (lv' := [(4, .ref q29), (3, .ref (K pane.toNatClampNeg)), (0, .ref m), (1, .int pane), (2, .int wh)]) C dX5_ofPane_127 (by decide) rfl ?_
        refine z_aload C dX5_ofPane_129 0 rfl ?_
        refine z_iload_n C dX5_ofPane_131 rfl 4 rfl ?_
        refine z_iald (j := wh.toNatClampNeg) C (z_up_s _ _ _) (z_inT.mpr (by obtain ⟨jq, hjq, ejq, -⟩ := z_10 (z_lrN c15); rw [ejq, nI_T (by omega)]; omega)) rfl dX5_ofPane_132 ?_
        refine ret dX5_ofPane_133 rfl ?_ (by decide) (by decide)
        exact RP_ok (v := u) (by rw [s_of10 (if_neg ((s_rdn' hok hi).mp c70)) (if_neg c89) (z_lrN c15)]; rfl) (z_lr0 c15) (RI_junk (RI_th hR _) hq29)
  · refine z_iconst C (v := 0) dX5_ofPane_18 (by decide) ?_
    refine ret dX5_ofPane_19 rfl ?_ (by decide) (by decide)
    exact RP_bad (z_lr1 c15) (RI_ak hR _ _ _)
theorem a_X5_ofPane (l : Launch) {G : zG} {u : sS} {m : Nat} {th : Int32} {K : Nat → Nat} {tp pn td : Nat} {Mw : zM} (hR : RI G u m th K tp pn td Mw) {t : Nat} (hok : s_ok t u) (ht : t ≤ 64) (pane wh : Int32) : z_Mi l G qX5_ofPane (z_rm 4 1 10) [.ref m, .int pane, .int wh] Mw (RP G m pn td (z_lt (z_is pane 0 5) (z_is wh 0 9)) u ((s_of u pane.toNatClampNeg wh, u))) := by
  rcases z_pc pane with ⟨h_ok, h_ip, hi⟩ | ⟨h_bad, -⟩
  · exact g_X5_ofPane l hR hok ht h_ok h_ip hi
  · refine z_Mi_mono (c_X5_ofPane_bad l G hR.1 h_bad) ?_
    rintro r M' ⟨hr9, rfl⟩
    · exact RP_bad (z_lt0 h_bad) (RI_ak hR _ _ _) (by first | rfl | (rw [h_bad]; rfl))
