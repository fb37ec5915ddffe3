/-! PART 45: a long in digits -/
def j_dgl (v : Nat) : Nat := if v < 2 ^ 31 then sb_dg v else sb_dg (v / 100) + 2
theorem j_lT {v : Nat} (h : v < 2 ^ 62) : (-lN v).toInt = -(v : Int) := by
  rw [Int64.toInt_neg, pk_lT (by omega)]
  exact Int.bmod_eq_of_le (by omega) (by omega)
theorem j_lle {v k : Nat} {p : Int64} (hv : v < 2 ^ 62) (hk : k < 2 ^ 62) (hp : p = -lN k) : lg_cmp (-lN v) p ≤ 0 ↔ k ≤ v := by
  subst hp
  rw [lg_cmp_le, Int64.le_iff_toInt_le, j_lT hv, j_lT hk]
  omega
theorem j_lnn {v : Nat} (hv : v < 2 ^ 62) : 0 ≤ lg_cmp (lN v) 0 := by
  rw [lg_cmp_ge, Int64.le_iff_toInt_le, pk_lT (by omega)]
  show (0 : Int) ≤ _
  omega
theorem j_lgt {v k : Nat} {p : Int64} (hv : v < 2 ^ 62) (hk : k < 2 ^ 62) (hp : p = -lN k) : 0 < lg_cmp (-lN v) p ↔ v < k := by
  subst hp
  rw [lg_cmp_gt, Int64.lt_iff_toInt_lt, j_lT hv, j_lT hk]
  omega
theorem j_l2i (v : Nat) : (-lN v).toInt32 = -nI v := by rw [Int64.toInt32_neg, lN_i]
theorem j_ldiv {w : Nat} (hw : w < 2 ^ 62) : (-lN w) / 100 = -lN (w / 100) := by
  apply Int64.toInt_inj.mp
  have h100 : (100 : Int64).toInt = 100 := by decide
  rw [Int64.toInt_div, j_lT hw, h100, j_lT (by omega), Int.neg_tdiv, Int.tdiv_eq_ediv_of_nonneg (by omega), Int.bmod_eq_of_le (by omega) (by omega)]
  omega
theorem j_lrem {w : Nat} (hw : w < 2 ^ 62) : ((-lN (w / 100)) * 100 - (-lN w)).toInt32 = nI (w % 100) := by
  have e : (-lN (w / 100)) * 100 - (-lN w) = lN (w % 100) := by
    have h1 : lN w = lN (w / 100) * 100 + lN (w % 100) := by
      show lN w = lN (w / 100) * lN 100 + lN (w % 100)
      rw [lN_mul, lN_add]
      congr 1
      omega
    rw [h1, Int64.neg_mul, Int64.sub_neg, ← Int64.add_assoc, Int64.add_left_neg, Int64.zero_add]
  rw [e, lN_i]
theorem j_dgl_in {v : Nat} : 1 ≤ j_dgl v ∧ j_dgl v ≤ 12 := by
  unfold j_dgl
  have h1 := sb_dg_in v
  have h2 := sb_dg_in (v / 100)
  split <;> omega
theorem j_dgl_lo {v : Nat} (h : v < 2 ^ 31) : j_dgl v = sb_dg v := if_pos h
theorem j_dgl_hi {v : Nat} (h : ¬ v < 2 ^ 31) : j_dgl v = sb_dg (v / 100) + 2 := if_neg h
theorem j_sk1 {v : Nat} (h1 : v < 10) : sb_dg v = 1 := by
  unfold sb_dg
  (repeat' split) <;> omega
theorem j_dk1 {v : Nat} (h1 : v < 10) : j_dgl v = 1 := (j_dgl_lo (by omega)).trans (j_sk1  h1)
theorem j_sk2 {v : Nat} (h0 : 10 ≤ v) (h1 : v < 100) : sb_dg v = 2 := by
  unfold sb_dg
  (repeat' split) <;> omega
theorem j_dk2 {v : Nat} (h0 : 10 ≤ v) (h1 : v < 100) : j_dgl v = 2 := (j_dgl_lo (by omega)).trans (j_sk2 h0 h1)
theorem j_sk3 {v : Nat} (h0 : 100 ≤ v) (h1 : v < 1000) : sb_dg v = 3 := by
  unfold sb_dg
  (repeat' split) <;> omega
theorem j_dk3 {v : Nat} (h0 : 100 ≤ v) (h1 : v < 1000) : j_dgl v = 3 := (j_dgl_lo (by omega)).trans (j_sk3 h0 h1)
theorem j_sk4 {v : Nat} (h0 : 1000 ≤ v) (h1 : v < 10000) : sb_dg v = 4 := by
  unfold sb_dg
  (repeat' split) <;> omega
theorem j_dk4 {v : Nat} (h0 : 1000 ≤ v) (h1 : v < 10000) : j_dgl v = 4 := (j_dgl_lo (by omega)).trans (j_sk4 h0 h1)
theorem j_sk5 {v : Nat} (h0 : 10000 ≤ v) (h1 : v < 100000) : sb_dg v = 5 := by
  unfold sb_dg
  (repeat' split) <;> omega
theorem j_dk5 {v : Nat} (h0 : 10000 ≤ v) (h1 : v < 100000) : j_dgl v = 5 := (j_dgl_lo (by omega)).trans (j_sk5 h0 h1)
theorem j_sk6 {v : Nat} (h0 : 100000 ≤ v) (h1 : v < 1000000) : sb_dg v = 6 := by
  unfold sb_dg
  (repeat' split) <;> omega
theorem j_dk6 {v : Nat} (h0 : 100000 ≤ v) (h1 : v < 1000000) : j_dgl v = 6 := (j_dgl_lo (by omega)).trans (j_sk6 h0 h1)
theorem j_sk7 {v : Nat} (h0 : 1000000 ≤ v) (h1 : v < 10000000) : sb_dg v = 7 := by
  unfold sb_dg
  (repeat' split) <;> omega
theorem j_dk7 {v : Nat} (h0 : 1000000 ≤ v) (h1 : v < 10000000) : j_dgl v = 7 := (j_dgl_lo (by omega)).trans (j_sk7 h0 h1)
theorem j_sk8 {v : Nat} (h0 : 10000000 ≤ v) (h1 : v < 100000000) : sb_dg v = 8 := by
  unfold sb_dg
  (repeat' split) <;> omega
theorem j_dk8 {v : Nat} (h0 : 10000000 ≤ v) (h1 : v < 100000000) : j_dgl v = 8 := (j_dgl_lo (by omega)).trans (j_sk8 h0 h1)
theorem j_sk9 {v : Nat} (h0 : 100000000 ≤ v) (h1 : v < 1000000000) : sb_dg v = 9 := by
  unfold sb_dg
  (repeat' split) <;> omega
theorem j_dk9 {v : Nat} (h0 : 100000000 ≤ v) (h1 : v < 1000000000) : j_dgl v = 9 := (j_dgl_lo (by omega)).trans (j_sk9 h0 h1)
theorem j_sk10 {v : Nat} (h0 : 1000000000 ≤ v) : sb_dg v = 10 := by
  unfold sb_dg
  (repeat' split) <;> omega
theorem j_dk10 {v : Nat} (h0 : 1000000000 ≤ v) (h1 : v < 10000000000) : j_dgl v = 10 := by
  by_cases h : v < 2 ^ 31
  · exact (j_dgl_lo h).trans (j_sk10 h0)
  · rw [j_dgl_hi h, j_sk8 (v := v / 100) (by omega) (by omega)]
theorem j_dk11 {v : Nat} (h0 : 10000000000 ≤ v) (h1 : v < 35000000000) : j_dgl v = 11 := by
  rw [j_dgl_hi (by omega), j_sk9 (v := v / 100) (by omega) (by omega)]
theorem dJ13_stringSize_95d88_0 : decode cJ13_stringSize_95d88 0 = .ok (.iconst 1, 1) := by decide +kernel
theorem dJ13_stringSize_95d88_1 : decode cJ13_stringSize_95d88 1 = .ok (.istore_n 2, 1) := by decide +kernel
theorem dJ13_stringSize_95d88_2 : decode cJ13_stringSize_95d88 2 = .ok (.lload_n 0, 1) := by decide +kernel
theorem dJ13_stringSize_95d88_3 : decode cJ13_stringSize_95d88 3 = .ok (.lconst 0, 1) := by decide +kernel
theorem dJ13_stringSize_95d88_4 : decode cJ13_stringSize_95d88 4 = .ok (.lcmp, 1) := by decide +kernel
theorem dJ13_stringSize_95d88_5 : decode cJ13_stringSize_95d88 5 = .ok (.ifCond .lt 8, 3) := by decide +kernel
theorem dJ13_stringSize_95d88_8 : decode cJ13_stringSize_95d88 8 = .ok (.iconst 0, 1) := by decide +kernel
theorem dJ13_stringSize_95d88_9 : decode cJ13_stringSize_95d88 9 = .ok (.istore_n 2, 1) := by decide +kernel
theorem dJ13_stringSize_95d88_10 : decode cJ13_stringSize_95d88 10 = .ok (.lload_n 0, 1) := by decide +kernel
theorem dJ13_stringSize_95d88_11 : decode cJ13_stringSize_95d88 11 = .ok (.lneg, 1) := by decide +kernel
theorem dJ13_stringSize_95d88_12 : decode cJ13_stringSize_95d88 12 = .ok (.lstore_n 0, 1) := by decide +kernel
theorem dJ13_stringSize_95d88_13 : decode cJ13_stringSize_95d88 13 = .ok (.ldc2_w 140, 3) := by decide +kernel
theorem dJ13_stringSize_95d88_16 : decode cJ13_stringSize_95d88 16 = .ok (.lstore_n 3, 1) := by decide +kernel
theorem dJ13_stringSize_95d88_17 : decode cJ13_stringSize_95d88 17 = .ok (.iconst 1, 1) := by decide +kernel
theorem dJ13_stringSize_95d88_18 : decode cJ13_stringSize_95d88 18 = .ok (.istore 5, 2) := by decide +kernel
theorem dJ13_stringSize_95d88_20 : decode cJ13_stringSize_95d88 20 = .ok (.iload 5, 2) := by decide +kernel
theorem dJ13_stringSize_95d88_22 : decode cJ13_stringSize_95d88 22 = .ok (.bipush 19, 2) := by decide +kernel
theorem dJ13_stringSize_95d88_24 : decode cJ13_stringSize_95d88 24 = .ok (.if_icmp .ge 26, 3) := by decide +kernel
theorem dJ13_stringSize_95d88_27 : decode cJ13_stringSize_95d88 27 = .ok (.lload_n 0, 1) := by decide +kernel
theorem dJ13_stringSize_95d88_28 : decode cJ13_stringSize_95d88 28 = .ok (.lload_n 3, 1) := by decide +kernel
theorem dJ13_stringSize_95d88_29 : decode cJ13_stringSize_95d88 29 = .ok (.lcmp, 1) := by decide +kernel
theorem dJ13_stringSize_95d88_30 : decode cJ13_stringSize_95d88 30 = .ok (.ifCond .le 8, 3) := by decide +kernel
theorem dJ13_stringSize_95d88_33 : decode cJ13_stringSize_95d88 33 = .ok (.iload 5, 2) := by decide +kernel
theorem dJ13_stringSize_95d88_35 : decode cJ13_stringSize_95d88 35 = .ok (.iload_n 2, 1) := by decide +kernel
theorem dJ13_stringSize_95d88_36 : decode cJ13_stringSize_95d88 36 = .ok (.iadd, 1) := by decide +kernel
theorem dJ13_stringSize_95d88_37 : decode cJ13_stringSize_95d88 37 = .ok (.ireturn, 1) := by decide +kernel
theorem dJ13_stringSize_95d88_38 : decode cJ13_stringSize_95d88 38 = .ok (.ldc2_w 53, 3) := by decide +kernel
theorem dJ13_stringSize_95d88_41 : decode cJ13_stringSize_95d88 41 = .ok (.lload_n 3, 1) := by decide +kernel
theorem dJ13_stringSize_95d88_42 : decode cJ13_stringSize_95d88 42 = .ok (.lmul, 1) := by decide +kernel
theorem dJ13_stringSize_95d88_43 : decode cJ13_stringSize_95d88 43 = .ok (.lstore_n 3, 1) := by decide +kernel
theorem dJ13_stringSize_95d88_44 : decode cJ13_stringSize_95d88 44 = .ok (.iinc 5 1, 3) := by decide +kernel
theorem dJ13_stringSize_95d88_47 : decode cJ13_stringSize_95d88 47 = .ok (.goto (-27), 3) := by decide +kernel
theorem dJ13_getChars_11360_0 : decode cJ13_getChars_11360 0 = .ok (.iload_n 2, 1) := by decide +kernel
theorem dJ13_getChars_11360_1 : decode cJ13_getChars_11360 1 = .ok (.istore 7, 2) := by decide +kernel
theorem dJ13_getChars_11360_3 : decode cJ13_getChars_11360 3 = .ok (.lload_n 0, 1) := by decide +kernel
theorem dJ13_getChars_11360_4 : decode cJ13_getChars_11360 4 = .ok (.lconst 0, 1) := by decide +kernel
theorem dJ13_getChars_11360_5 : decode cJ13_getChars_11360 5 = .ok (.lcmp, 1) := by decide +kernel
theorem dJ13_getChars_11360_6 : decode cJ13_getChars_11360 6 = .ok (.ifCond .ge 7, 3) := by decide +kernel
theorem dJ13_getChars_11360_13 : decode cJ13_getChars_11360 13 = .ok (.iconst 0, 1) := by decide +kernel
theorem dJ13_getChars_11360_14 : decode cJ13_getChars_11360 14 = .ok (.istore 8, 2) := by decide +kernel
theorem dJ13_getChars_11360_16 : decode cJ13_getChars_11360 16 = .ok (.iload 8, 2) := by decide +kernel
theorem dJ13_getChars_11360_18 : decode cJ13_getChars_11360 18 = .ok (.ifCond .ne 6, 3) := by decide +kernel
theorem dJ13_getChars_11360_21 : decode cJ13_getChars_11360 21 = .ok (.lload_n 0, 1) := by decide +kernel
theorem dJ13_getChars_11360_22 : decode cJ13_getChars_11360 22 = .ok (.lneg, 1) := by decide +kernel
theorem dJ13_getChars_11360_23 : decode cJ13_getChars_11360 23 = .ok (.lstore_n 0, 1) := by decide +kernel
theorem dJ13_getChars_11360_24 : decode cJ13_getChars_11360 24 = .ok (.lload_n 0, 1) := by decide +kernel
theorem dJ13_getChars_11360_25 : decode cJ13_getChars_11360 25 = .ok (.ldc2_w 129, 3) := by decide +kernel
theorem dJ13_getChars_11360_28 : decode cJ13_getChars_11360 28 = .ok (.lcmp, 1) := by decide +kernel
theorem dJ13_getChars_11360_29 : decode cJ13_getChars_11360 29 = .ok (.ifCond .gt 53, 3) := by decide +kernel
theorem dJ13_getChars_11360_32 : decode cJ13_getChars_11360 32 = .ok (.lload_n 0, 1) := by decide +kernel
theorem dJ13_getChars_11360_33 : decode cJ13_getChars_11360 33 = .ok (.ldc2_w 131, 3) := by decide +kernel
theorem dJ13_getChars_11360_36 : decode cJ13_getChars_11360 36 = .ok (.ldiv, 1) := by decide +kernel
theorem dJ13_getChars_11360_37 : decode cJ13_getChars_11360 37 = .ok (.lstore 4, 2) := by decide +kernel
theorem dJ13_getChars_11360_39 : decode cJ13_getChars_11360 39 = .ok (.lload 4, 2) := by decide +kernel
theorem dJ13_getChars_11360_41 : decode cJ13_getChars_11360 41 = .ok (.ldc2_w 131, 3) := by decide +kernel
theorem dJ13_getChars_11360_44 : decode cJ13_getChars_11360 44 = .ok (.lmul, 1) := by decide +kernel
theorem dJ13_getChars_11360_45 : decode cJ13_getChars_11360 45 = .ok (.lload_n 0, 1) := by decide +kernel
theorem dJ13_getChars_11360_46 : decode cJ13_getChars_11360 46 = .ok (.lsub, 1) := by decide +kernel
theorem dJ13_getChars_11360_47 : decode cJ13_getChars_11360 47 = .ok (.l2i, 1) := by decide +kernel
theorem dJ13_getChars_11360_48 : decode cJ13_getChars_11360 48 = .ok (.istore 6, 2) := by decide +kernel
theorem dJ13_getChars_11360_50 : decode cJ13_getChars_11360 50 = .ok (.lload 4, 2) := by decide +kernel
theorem dJ13_getChars_11360_52 : decode cJ13_getChars_11360 52 = .ok (.lstore_n 0, 1) := by decide +kernel
theorem dJ13_getChars_11360_53 : decode cJ13_getChars_11360 53 = .ok (.aload_n 3, 1) := by decide +kernel
theorem dJ13_getChars_11360_54 : decode cJ13_getChars_11360 54 = .ok (.iinc 7 (-1), 3) := by decide +kernel
theorem dJ13_getChars_11360_57 : decode cJ13_getChars_11360 57 = .ok (.iload 7, 2) := by decide +kernel
theorem dJ13_getChars_11360_59 : decode cJ13_getChars_11360 59 = .ok (.getstatic 133, 3) := by decide +kernel
theorem dJ13_getChars_11360_62 : decode cJ13_getChars_11360 62 = .ok (.iload 6, 2) := by decide +kernel
theorem dJ13_getChars_11360_64 : decode cJ13_getChars_11360 64 = .ok (.baload, 1) := by decide +kernel
theorem dJ13_getChars_11360_65 : decode cJ13_getChars_11360 65 = .ok (.bastore, 1) := by decide +kernel
theorem dJ13_getChars_11360_66 : decode cJ13_getChars_11360 66 = .ok (.aload_n 3, 1) := by decide +kernel
theorem dJ13_getChars_11360_67 : decode cJ13_getChars_11360 67 = .ok (.iinc 7 (-1), 3) := by decide +kernel
theorem dJ13_getChars_11360_70 : decode cJ13_getChars_11360 70 = .ok (.iload 7, 2) := by decide +kernel
theorem dJ13_getChars_11360_72 : decode cJ13_getChars_11360 72 = .ok (.getstatic 137, 3) := by decide +kernel
theorem dJ13_getChars_11360_75 : decode cJ13_getChars_11360 75 = .ok (.iload 6, 2) := by decide +kernel
theorem dJ13_getChars_11360_77 : decode cJ13_getChars_11360 77 = .ok (.baload, 1) := by decide +kernel
theorem dJ13_getChars_11360_78 : decode cJ13_getChars_11360 78 = .ok (.bastore, 1) := by decide +kernel
theorem dJ13_getChars_11360_79 : decode cJ13_getChars_11360 79 = .ok (.goto (-55), 3) := by decide +kernel
theorem dJ13_getChars_11360_82 : decode cJ13_getChars_11360 82 = .ok (.lload_n 0, 1) := by decide +kernel
theorem dJ13_getChars_11360_83 : decode cJ13_getChars_11360 83 = .ok (.l2i, 1) := by decide +kernel
theorem dJ13_getChars_11360_84 : decode cJ13_getChars_11360 84 = .ok (.istore 10, 2) := by decide +kernel
theorem dJ13_getChars_11360_86 : decode cJ13_getChars_11360 86 = .ok (.iload 10, 2) := by decide +kernel
theorem dJ13_getChars_11360_88 : decode cJ13_getChars_11360 88 = .ok (.bipush (-100), 2) := by decide +kernel
theorem dJ13_getChars_11360_90 : decode cJ13_getChars_11360 90 = .ok (.if_icmp .gt 53, 3) := by decide +kernel
theorem dJ13_getChars_11360_93 : decode cJ13_getChars_11360 93 = .ok (.iload 10, 2) := by decide +kernel
theorem dJ13_getChars_11360_95 : decode cJ13_getChars_11360 95 = .ok (.bipush 100, 2) := by decide +kernel
theorem dJ13_getChars_11360_97 : decode cJ13_getChars_11360 97 = .ok (.idiv, 1) := by decide +kernel
theorem dJ13_getChars_11360_98 : decode cJ13_getChars_11360 98 = .ok (.istore 9, 2) := by decide +kernel
theorem dJ13_getChars_11360_100 : decode cJ13_getChars_11360 100 = .ok (.iload 9, 2) := by decide +kernel
theorem dJ13_getChars_11360_102 : decode cJ13_getChars_11360 102 = .ok (.bipush 100, 2) := by decide +kernel
theorem dJ13_getChars_11360_104 : decode cJ13_getChars_11360 104 = .ok (.imul, 1) := by decide +kernel
theorem dJ13_getChars_11360_105 : decode cJ13_getChars_11360 105 = .ok (.iload 10, 2) := by decide +kernel
theorem dJ13_getChars_11360_107 : decode cJ13_getChars_11360 107 = .ok (.isub, 1) := by decide +kernel
theorem dJ13_getChars_11360_108 : decode cJ13_getChars_11360 108 = .ok (.istore 6, 2) := by decide +kernel
theorem dJ13_getChars_11360_110 : decode cJ13_getChars_11360 110 = .ok (.iload 9, 2) := by decide +kernel
theorem dJ13_getChars_11360_112 : decode cJ13_getChars_11360 112 = .ok (.istore 10, 2) := by decide +kernel
theorem dJ13_getChars_11360_114 : decode cJ13_getChars_11360 114 = .ok (.aload_n 3, 1) := by decide +kernel
theorem dJ13_getChars_11360_115 : decode cJ13_getChars_11360 115 = .ok (.iinc 7 (-1), 3) := by decide +kernel
theorem dJ13_getChars_11360_118 : decode cJ13_getChars_11360 118 = .ok (.iload 7, 2) := by decide +kernel
theorem dJ13_getChars_11360_120 : decode cJ13_getChars_11360 120 = .ok (.getstatic 133, 3) := by decide +kernel
theorem dJ13_getChars_11360_123 : decode cJ13_getChars_11360 123 = .ok (.iload 6, 2) := by decide +kernel
theorem dJ13_getChars_11360_125 : decode cJ13_getChars_11360 125 = .ok (.baload, 1) := by decide +kernel
theorem dJ13_getChars_11360_126 : decode cJ13_getChars_11360 126 = .ok (.bastore, 1) := by decide +kernel
theorem dJ13_getChars_11360_127 : decode cJ13_getChars_11360 127 = .ok (.aload_n 3, 1) := by decide +kernel
theorem dJ13_getChars_11360_128 : decode cJ13_getChars_11360 128 = .ok (.iinc 7 (-1), 3) := by decide +kernel
theorem dJ13_getChars_11360_131 : decode cJ13_getChars_11360 131 = .ok (.iload 7, 2) := by decide +kernel
theorem dJ13_getChars_11360_133 : decode cJ13_getChars_11360 133 = .ok (.getstatic 137, 3) := by decide +kernel
theorem dJ13_getChars_11360_136 : decode cJ13_getChars_11360 136 = .ok (.iload 6, 2) := by decide +kernel
theorem dJ13_getChars_11360_138 : decode cJ13_getChars_11360 138 = .ok (.baload, 1) := by decide +kernel
theorem dJ13_getChars_11360_139 : decode cJ13_getChars_11360 139 = .ok (.bastore, 1) := by decide +kernel
theorem dJ13_getChars_11360_140 : decode cJ13_getChars_11360 140 = .ok (.goto (-54), 3) := by decide +kernel
theorem dJ13_getChars_11360_143 : decode cJ13_getChars_11360 143 = .ok (.aload_n 3, 1) := by decide +kernel
theorem dJ13_getChars_11360_144 : decode cJ13_getChars_11360 144 = .ok (.iinc 7 (-1), 3) := by decide +kernel
theorem dJ13_getChars_11360_147 : decode cJ13_getChars_11360 147 = .ok (.iload 7, 2) := by decide +kernel
theorem dJ13_getChars_11360_149 : decode cJ13_getChars_11360 149 = .ok (.getstatic 133, 3) := by decide +kernel
theorem dJ13_getChars_11360_152 : decode cJ13_getChars_11360 152 = .ok (.iload 10, 2) := by decide +kernel
theorem dJ13_getChars_11360_154 : decode cJ13_getChars_11360 154 = .ok (.ineg, 1) := by decide +kernel
theorem dJ13_getChars_11360_155 : decode cJ13_getChars_11360 155 = .ok (.baload, 1) := by decide +kernel
theorem dJ13_getChars_11360_156 : decode cJ13_getChars_11360 156 = .ok (.bastore, 1) := by decide +kernel
theorem dJ13_getChars_11360_157 : decode cJ13_getChars_11360 157 = .ok (.iload 10, 2) := by decide +kernel
theorem dJ13_getChars_11360_159 : decode cJ13_getChars_11360 159 = .ok (.bipush (-9), 2) := by decide +kernel
theorem dJ13_getChars_11360_161 : decode cJ13_getChars_11360 161 = .ok (.if_icmp .ge 17, 3) := by decide +kernel
theorem dJ13_getChars_11360_164 : decode cJ13_getChars_11360 164 = .ok (.aload_n 3, 1) := by decide +kernel
theorem dJ13_getChars_11360_165 : decode cJ13_getChars_11360 165 = .ok (.iinc 7 (-1), 3) := by decide +kernel
theorem dJ13_getChars_11360_168 : decode cJ13_getChars_11360 168 = .ok (.iload 7, 2) := by decide +kernel
theorem dJ13_getChars_11360_170 : decode cJ13_getChars_11360 170 = .ok (.getstatic 137, 3) := by decide +kernel
theorem dJ13_getChars_11360_173 : decode cJ13_getChars_11360 173 = .ok (.iload 10, 2) := by decide +kernel
theorem dJ13_getChars_11360_175 : decode cJ13_getChars_11360 175 = .ok (.ineg, 1) := by decide +kernel
theorem dJ13_getChars_11360_176 : decode cJ13_getChars_11360 176 = .ok (.baload, 1) := by decide +kernel
theorem dJ13_getChars_11360_177 : decode cJ13_getChars_11360 177 = .ok (.bastore, 1) := by decide +kernel
theorem dJ13_getChars_11360_178 : decode cJ13_getChars_11360 178 = .ok (.iload 8, 2) := by decide +kernel
theorem dJ13_getChars_11360_180 : decode cJ13_getChars_11360 180 = .ok (.ifCond .eq 12, 3) := by decide +kernel
theorem dJ13_getChars_11360_192 : decode cJ13_getChars_11360 192 = .ok (.iload 7, 2) := by decide +kernel
theorem dJ13_getChars_11360_194 : decode cJ13_getChars_11360 194 = .ok (.ireturn, 1) := by decide +kernel
theorem dJ5_append_66267_0 : decode cJ5_append_66267 0 = .ok (.aload_n 0, 1) := by decide +kernel
theorem dJ5_append_66267_1 : decode cJ5_append_66267 1 = .ok (.getfield 79, 3) := by decide +kernel
theorem dJ5_append_66267_4 : decode cJ5_append_66267 4 = .ok (.istore_n 3, 1) := by decide +kernel
theorem dJ5_append_66267_5 : decode cJ5_append_66267 5 = .ok (.iload_n 3, 1) := by decide +kernel
theorem dJ5_append_66267_6 : decode cJ5_append_66267 6 = .ok (.lload_n 1, 1) := by decide +kernel
theorem dJ5_append_66267_7 : decode cJ5_append_66267 7 = .ok (.invokestatic 254, 3) := by decide +kernel
theorem dJ5_append_66267_10 : decode cJ5_append_66267 10 = .ok (.iadd, 1) := by decide +kernel
theorem dJ5_append_66267_11 : decode cJ5_append_66267 11 = .ok (.istore 4, 2) := by decide +kernel
theorem dJ5_append_66267_13 : decode cJ5_append_66267 13 = .ok (.aload_n 0, 1) := by decide +kernel
theorem dJ5_append_66267_14 : decode cJ5_append_66267 14 = .ok (.iload 4, 2) := by decide +kernel
theorem dJ5_append_66267_16 : decode cJ5_append_66267 16 = .ok (.invokevirtual 100, 3) := by decide +kernel
theorem dJ5_append_66267_19 : decode cJ5_append_66267 19 = .ok (.aload_n 0, 1) := by decide +kernel
theorem dJ5_append_66267_20 : decode cJ5_append_66267 20 = .ok (.invokevirtual 83, 3) := by decide +kernel
theorem dJ5_append_66267_23 : decode cJ5_append_66267 23 = .ok (.ifCond .eq 17, 3) := by decide +kernel
theorem dJ5_append_66267_26 : decode cJ5_append_66267 26 = .ok (.lload_n 1, 1) := by decide +kernel
theorem dJ5_append_66267_27 : decode cJ5_append_66267 27 = .ok (.iload 4, 2) := by decide +kernel
theorem dJ5_append_66267_29 : decode cJ5_append_66267 29 = .ok (.aload_n 0, 1) := by decide +kernel
theorem dJ5_append_66267_30 : decode cJ5_append_66267 30 = .ok (.getfield 15, 3) := by decide +kernel
theorem dJ5_append_66267_33 : decode cJ5_append_66267 33 = .ok (.invokestatic 259, 3) := by decide +kernel
theorem dJ5_append_66267_36 : decode cJ5_append_66267 36 = .ok (.pop, 1) := by decide +kernel
theorem dJ5_append_66267_37 : decode cJ5_append_66267 37 = .ok (.goto 15, 3) := by decide +kernel
theorem dJ5_append_66267_52 : decode cJ5_append_66267 52 = .ok (.aload_n 0, 1) := by decide +kernel
theorem dJ5_append_66267_53 : decode cJ5_append_66267 53 = .ok (.iload 4, 2) := by decide +kernel
theorem dJ5_append_66267_55 : decode cJ5_append_66267 55 = .ok (.putfield 79, 3) := by decide +kernel
theorem dJ5_append_66267_58 : decode cJ5_append_66267 58 = .ok (.aload_n 0, 1) := by decide +kernel
theorem dJ5_append_66267_59 : decode cJ5_append_66267 59 = .ok (.areturn, 1) := by decide +kernel
theorem dJ4_append_f7089_0 : decode cJ4_append_f7089 0 = .ok (.aload_n 0, 1) := by decide +kernel
theorem dJ4_append_f7089_1 : decode cJ4_append_f7089 1 = .ok (.lload_n 1, 1) := by decide +kernel
theorem dJ4_append_f7089_2 : decode cJ4_append_f7089 2 = .ok (.invokespecial 56, 3) := by decide +kernel
theorem dJ4_append_f7089_5 : decode cJ4_append_f7089 5 = .ok (.pop, 1) := by decide +kernel
theorem dJ4_append_f7089_6 : decode cJ4_append_f7089 6 = .ok (.aload_n 0, 1) := by decide +kernel
theorem dJ4_append_f7089_7 : decode cJ4_append_f7089 7 = .ok (.areturn, 1) := by decide +kernel
set_option maxRecDepth 20000 in
theorem c_J13_stringSize_95d88 (l : Launch) (G : zG) {M : zM}  {v : Nat}  (hv : v < 35000000000) : z_Mi l G qJ13_stringSize_95d88 (z_rm 1 0 0) [.long (lN v)] M (fun r M' => r = nI (j_dgl v) ∧ M' = M)  := by
  refine z_Mi_of _ (by decide +kernel) rfl (Nat.le_of_ble_eq_true rfl) (fun X hl hG hnm C ret => ?_)
  subst hl; subst hG
  have C : z_C X cJ13_stringSize_95d88 RJ13 6 (z_rm 1 0 0) := C
  show z_W X M 0 0 0 [(0, .long (lN v))] []
  have hv62 : v < 2 ^ 62 := by omega
  refine z_iconst C (v := 1) dJ13_stringSize_95d88_0 (by decide) ?_
  refine z_istore_n (lv' := [(2, .int 1), (0, .long (lN v))]) C dJ13_stringSize_95d88_1 rfl (by decide) rfl ?_
  refine z_lload_n C dJ13_stringSize_95d88_2 rfl 1 rfl ?_
  refine z_lconst C (v := 0) dJ13_stringSize_95d88_3 (by decide) ?_
  refine z_lcmp C dJ13_stringSize_95d88_4 ?_
  refine z_if_lt C (tgt := 13) dJ13_stringSize_95d88_5 (by decide) (fun c5 => absurd c5 (Int32.not_lt.mpr (j_lnn hv62))) (fun _ => ?_)
  refine z_iconst C (v := 0) dJ13_stringSize_95d88_8 (by decide) ?_
  refine z_istore_n (lv' := [(2, .int 0), (0, .long (lN v))]) C dJ13_stringSize_95d88_9 rfl (by decide) rfl ?_
  refine z_lload_n C dJ13_stringSize_95d88_10 rfl 1 rfl ?_
  refine z_lneg C dJ13_stringSize_95d88_11 ?_
  refine z_lstore_n (lv' := [(0, .long (-(lN v))), (2, .int 0)]) C dJ13_stringSize_95d88_12 rfl (by decide) rfl ?_
  refine z_ldc2 C (v := (-10)) kw1270 dJ13_stringSize_95d88_13 ?_
  refine z_lstore_n (lv' := [(3, .long (-10)), (0, .long (-(lN v))), (2, .int 0)]) C dJ13_stringSize_95d88_16 rfl (by decide) rfl ?_
  refine z_iconst C (v := 1) dJ13_stringSize_95d88_17 (by decide) ?_
  refine z_istore (lv' := [(5, .int 1), (3, .long (-10)), (0, .long (-(lN v))), (2, .int 0)]) C dJ13_stringSize_95d88_18 (by decide) rfl ?_
  refine z_iload C dJ13_stringSize_95d88_20 0 rfl ?_
  refine z_bipush C (v := 19) dJ13_stringSize_95d88_22 (by decide) ?_
  refine z_icmp_ge C (tgt := 50) dJ13_stringSize_95d88_24 (by decide) (fun c24 => absurd c24 (by decide)) (fun _ => ?_)
  refine z_lload_n C dJ13_stringSize_95d88_27 rfl 2 rfl ?_
  refine z_lload_n C dJ13_stringSize_95d88_28 rfl 1 rfl ?_
  refine z_lcmp C dJ13_stringSize_95d88_29 ?_
  refine z_if_le C (tgt := 38) dJ13_stringSize_95d88_30 (by decide) (fun c30 => ?_) (fun c30 => ?_)
  · have e1 := (j_lle (k := 10) hv62 (by decide) (by decide)).mp c30
    refine z_ldc2 C (v := 10) kw1271 dJ13_stringSize_95d88_38 ?_
    refine z_lload_n C dJ13_stringSize_95d88_41 rfl 1 rfl ?_
    refine z_lmul C dJ13_stringSize_95d88_42 ?_
    rw [show ((10 * (-10)) : Int64) = (-100) from (by decide)]
    refine z_lstore_n (lv' := [(3, .long (-100)), (5, .int 1), (0, .long (-(lN v))), (2, .int 0)]) C dJ13_stringSize_95d88_43 rfl (by decide) rfl ?_
    refine z_iinc (v := 2) (lv' := [(5, .int 2), (3, .long (-100)), (0, .long (-(lN v))), (2, .int 0)]) C dJ13_stringSize_95d88_44 1 rfl (by decide) (by decide) rfl ?_
    refine z_goto C (tgt := 20) dJ13_stringSize_95d88_47 (by decide) ?_
    refine z_iload C dJ13_stringSize_95d88_20 0 rfl ?_
    refine z_bipush C (v := 19) dJ13_stringSize_95d88_22 (by decide) ?_
    refine z_icmp_ge C (tgt := 50) dJ13_stringSize_95d88_24 (by decide) (fun c24 => absurd c24 (by decide)) (fun _ => ?_)
    refine z_lload_n C dJ13_stringSize_95d88_27 rfl 2 rfl ?_
    refine z_lload_n C dJ13_stringSize_95d88_28 rfl 1 rfl ?_
    refine z_lcmp C dJ13_stringSize_95d88_29 ?_
    refine z_if_le C (tgt := 38) dJ13_stringSize_95d88_30 (by decide) (fun c30 => ?_) (fun c30 => ?_)
    · have e2 := (j_lle (k := 100) hv62 (by decide) (by decide)).mp c30
      refine z_ldc2 C (v := 10) kw1271 dJ13_stringSize_95d88_38 ?_
      refine z_lload_n C dJ13_stringSize_95d88_41 rfl 1 rfl ?_
      refine z_lmul C dJ13_stringSize_95d88_42 ?_
      rw [show ((10 * (-100)) : Int64) = (-1000) from (by decide)]
      refine z_lstore_n (lv' := [(3, .long (-1000)), (5, .int 2), (0, .long (-(lN v))), (2, .int 0)]) C dJ13_stringSize_95d88_43 rfl (by decide) rfl ?_
      refine z_iinc (v := 3) (lv' := [(5, .int 3), (3, .long (-1000)), (0, .long (-(lN v))), (2, .int 0)]) C dJ13_stringSize_95d88_44 1 rfl (by decide) (by decide) rfl ?_
      refine z_goto C (tgt := 20) dJ13_stringSize_95d88_47 (by decide) ?_
      refine z_iload C dJ13_stringSize_95d88_20 0 rfl ?_
      refine z_bipush C (v := 19) dJ13_stringSize_95d88_22 (by decide) ?_
      refine z_icmp_ge C (tgt := 50) dJ13_stringSize_95d88_24 (by decide) (fun c24 => absurd c24 (by decide)) (fun _ => ?_)
      refine z_lload_n C dJ13_stringSize_95d88_27 rfl 2 rfl ?_
      refine z_lload_n C dJ13_stringSize_95d88_28 rfl 1 rfl ?_
      refine z_lcmp C dJ13_stringSize_95d88_29 ?_
      refine z_if_le C (tgt := 38) dJ13_stringSize_95d88_30 (by decide) (fun c30 => ?_) (fun c30 => ?_)
      · have e3 := (j_lle (k := 1000) hv62 (by decide) (by decide)).mp c30
        refine z_ldc2 C (v := 10) kw1271 dJ13_stringSize_95d88_38 ?_
        refine z_lload_n C dJ13_stringSize_95d88_41 rfl 1 rfl ?_
        refine z_lmul C dJ13_stringSize_95d88_42 ?_
        rw [show ((10 * (-1000)) : Int64) = (-10000) from (by decide)]
        refine z_lstore_n (lv' := [(3, .long (-10000)), (5, .int 3), (0, .long (-(lN v))), (2, .int 0)]) C dJ13_stringSize_95d88_43 rfl (by decide) rfl ?_
        refine z_iinc (v := 4) (lv' := [(5, .int 4), (3, .long (-10000)), (0, .long (-(lN v))), (2, .int 0)]) C dJ13_stringSize_95d88_44 1 rfl (by decide) (by decide) rfl ?_
        refine z_goto C (tgt := 20) dJ13_stringSize_95d88_47 (by decide) ?_
        refine z_iload C dJ13_stringSize_95d88_20 0 rfl ?_
        refine z_bipush C (v := 19) dJ13_stringSize_95d88_22 (by decide) ?_
        refine z_icmp_ge C (tgt := 50) dJ13_stringSize_95d88_24 (by decide) (fun c24 => absurd c24 (by decide)) (fun _ => ?_)
        refine z_lload_n C dJ13_stringSize_95d88_27 rfl 2 rfl ?_
        refine z_lload_n C dJ13_stringSize_95d88_28 rfl 1 rfl ?_
        refine z_lcmp C dJ13_stringSize_95d88_29 ?_
        refine z_if_le C (tgt := 38) dJ13_stringSize_95d88_30 (by decide) (fun c30 => ?_) (fun c30 => ?_)
        · have e4 := (j_lle (k := 10000) hv62 (by decide) (by decide)).mp c30
          refine z_ldc2 C (v := 10) kw1271 dJ13_stringSize_95d88_38 ?_
          refine z_lload_n C dJ13_stringSize_95d88_41 rfl 1 rfl ?_
          refine z_lmul C dJ13_stringSize_95d88_42 ?_
          rw [show ((10 * (-10000)) : Int64) = (-100000) from (by decide)]
          refine z_lstore_n (lv' := [(3, .long (-100000)), (5, .int 4), (0, .long (-(lN v))), (2, .int 0)]) C dJ13_stringSize_95d88_43 rfl (by decide) rfl ?_
          refine z_iinc (v := 5) (lv' := [(5, .int 5), (3, .long (-100000)), (0, .long (-(lN v))), (2, .int 0)]) C dJ13_stringSize_95d88_44 1 rfl (by decide) (by decide) rfl ?_
          refine z_goto C (tgt := 20) dJ13_stringSize_95d88_47 (by decide) ?_
          refine z_iload C dJ13_stringSize_95d88_20 0 rfl ?_
          refine z_bipush C (v := 19) dJ13_stringSize_95d88_22 (by decide) ?_
          refine z_icmp_ge C (tgt := 50) dJ13_stringSize_95d88_24 (by decide) (fun c24 => absurd c24 (by decide)) (fun _ => ?_)
          refine z_lload_n C dJ13_stringSize_95d88_27 rfl 2 rfl ?_
          refine z_lload_n C dJ13_stringSize_95d88_28 rfl 1 rfl ?_
          refine z_lcmp C dJ13_stringSize_95d88_29 ?_
          refine z_if_le C (tgt := 38) dJ13_stringSize_95d88_30 (by decide) (fun c30 => ?_) (fun c30 => ?_)
          · have e5 := (j_lle (k := 100000) hv62 (by decide) (by decide)).mp c30
            refine z_ldc2 C (v := 10) kw1271 dJ13_stringSize_95d88_38 ?_
            refine z_lload_n C dJ13_stringSize_95d88_41 rfl 1 rfl ?_
            refine z_lmul C dJ13_stringSize_95d88_42 ?_
            rw [show ((10 * (-100000)) : Int64) = (-1000000) from (by decide)]
            refine z_lstore_n (lv' := [(3, .long (-1000000)), (5, .int 5), (0, .long (-(lN v))), (2, .int 0)]) C dJ13_stringSize_95d88_43 rfl (by decide) rfl ?_
            refine z_iinc (v := 6) (lv' := [(5, .int 6), (3, .long (-1000000)), (0, .long (-(lN v))), (2, .int 0)]) C dJ13_stringSize_95d88_44 1 rfl (by decide) (by decide) rfl ?_
            refine z_goto C (tgt := 20) dJ13_stringSize_95d88_47 (by decide) ?_
            refine z_iload C dJ13_stringSize_95d88_20 0 rfl ?_
            refine z_bipush C (v := 19) dJ13_stringSize_95d88_22 (by decide) ?_
            refine z_icmp_ge C (tgt := 50) dJ13_stringSize_95d88_24 (by decide) (fun c24 => absurd c24 (by decide)) (fun _ => ?_)
            refine z_lload_n C dJ13_stringSize_95d88_27 rfl 2 rfl ?_
            refine z_lload_n C dJ13_stringSize_95d88_28 rfl 1 rfl ?_
            refine z_lcmp C dJ13_stringSize_95d88_29 ?_
            refine z_if_le C (tgt := 38) dJ13_stringSize_95d88_30 (by decide) (fun c30 => ?_) (fun c30 => ?_)
            · have e6 := (j_lle (k := 1000000) hv62 (by decide) (by decide)).mp c30
              refine z_ldc2 C (v := 10) kw1271 dJ13_stringSize_95d88_38 ?_
              refine z_lload_n C dJ13_stringSize_95d88_41 rfl 1 rfl ?_
              refine z_lmul C dJ13_stringSize_95d88_42 ?_
              rw [show ((10 * (-1000000)) : Int64) = (-10000000) from (by decide)]
              refine z_lstore_n (lv' := [(3, .long (-10000000)), (5, .int 6), (0, .long (-(lN v))), (2, .int 0)]) C dJ13_stringSize_95d88_43 rfl (by decide) rfl ?_
              refine z_iinc (v := 7) (lv' := [(5, .int 7), (3, .long (-10000000)), (0, .long (-(lN v))), (2, .int 0)]) C dJ13_stringSize_95d88_44 1 rfl (by decide) (by decide) rfl ?_
              refine z_goto C (tgt := 20) dJ13_stringSize_95d88_47 (by decide) ?_
              refine z_iload C dJ13_stringSize_95d88_20 0 rfl ?_
              refine z_bipush C (v := 19) dJ13_stringSize_95d88_22 (by decide) ?_
              refine z_icmp_ge C (tgt := 50) dJ13_stringSize_95d88_24 (by decide) (fun c24 => absurd c24 (by decide)) (fun _ => ?_)
              refine z_lload_n C dJ13_stringSize_95d88_27 rfl 2 rfl ?_
              refine z_lload_n C dJ13_stringSize_95d88_28 rfl 1 rfl ?_
              refine z_lcmp C dJ13_stringSize_95d88_29 ?_
              refine z_if_le C (tgt := 38) dJ13_stringSize_95d88_30 (by decide) (fun c30 => ?_) (fun c30 => ?_)
              · have e7 := (j_lle (k := 10000000) hv62 (by decide) (by decide)).mp c30
                refine z_ldc2 C (v := 10) kw1271 dJ13_stringSize_95d88_38 ?_
                refine z_lload_n C dJ13_stringSize_95d88_41 rfl 1 rfl ?_
                refine z_lmul C dJ13_stringSize_95d88_42 ?_
                rw [show ((10 * (-10000000)) : Int64) = (-100000000) from (by decide)]
                refine z_lstore_n (lv' := [(3, .long (-100000000)), (5, .int 7), (0, .long (-(lN v))), (2, .int 0)]) C dJ13_stringSize_95d88_43 rfl (by decide) rfl ?_
                refine z_iinc (v := 8) (lv' := [(5, .int 8), (3, .long (-100000000)), (0, .long (-(lN v))), (2, .int 0)]) C dJ13_stringSize_95d88_44 1 rfl (by decide) (by decide) rfl ?_
                refine z_goto C (tgt := 20) dJ13_stringSize_95d88_47 (by decide) ?_
                refine z_iload C dJ13_stringSize_95d88_20 0 rfl ?_
                refine z_bipush C (v := 19) dJ13_stringSize_95d88_22 (by decide) ?_
                refine z_icmp_ge C (tgt := 50) dJ13_stringSize_95d88_24 (by decide) (fun c24 => absurd c24 (by decide)) (fun _ => ?_)
                refine z_lload_n C dJ13_stringSize_95d88_27 rfl 2 rfl ?_
                refine z_lload_n C dJ13_stringSize_95d88_28 rfl 1 rfl ?_
                refine z_lcmp C dJ13_stringSize_95d88_29 ?_
                refine z_if_le C (tgt := 38) dJ13_stringSize_95d88_30 (by decide) (fun c30 => ?_) (fun c30 => ?_)
                · have e8 := (j_lle (k := 100000000) hv62 (by decide) (by decide)).mp c30
                  refine z_ldc2 C (v := 10) kw1271 dJ13_stringSize_95d88_38 ?_
                  refine z_lload_n C dJ13_stringSize_95d88_41 rfl 1 rfl ?_
                  refine z_lmul C dJ13_stringSize_95d88_42 ?_
                  rw [show ((10 * (-100000000)) : Int64) = (-1000000000) from (by decide)]
                  refine z_lstore_n (lv' := [(3, .long (-1000000000)), (5, .int 8), (0, .long (-(lN v))), (2, .int 0)]) C dJ13_stringSize_95d88_43 rfl (by decide) rfl ?_
                  refine z_iinc (v := 9) (lv' := [(5, .int 9), (3, .long (-1000000000)), (0, .long (-(lN v))), (2, .int 0)]) C dJ13_stringSize_95d88_44 1 rfl (by decide) (by decide) rfl ?_
                  refine z_goto C (tgt := 20) dJ13_stringSize_95d88_47 (by decide) ?_
                  refine z_iload C dJ13_stringSize_95d88_20 0 rfl ?_
                  refine z_bipush C (v := 19) dJ13_stringSize_95d88_22 (by decide) ?_
                  refine z_icmp_ge C (tgt := 50) dJ13_stringSize_95d88_24 (by decide) (fun c24 => absurd c24 (by decide)) (fun _ => ?_)
                  refine z_lload_n C dJ13_stringSize_95d88_27 rfl 2 rfl ?_
                  refine z_lload_n C dJ13_stringSize_95d88_28 rfl 1 rfl ?_
                  refine z_lcmp C dJ13_stringSize_95d88_29 ?_
                  refine z_if_le C (tgt := 38) dJ13_stringSize_95d88_30 (by decide) (fun c30 => ?_) (fun c30 => ?_)
                  · have e9 := (j_lle (k := 1000000000) hv62 (by decide) (by decide)).mp c30
                    refine z_ldc2 C (v := 10) kw1271 dJ13_stringSize_95d88_38 ?_
                    refine z_lload_n C dJ13_stringSize_95d88_41 rfl 1 rfl ?_
                    refine z_lmul C dJ13_stringSize_95d88_42 ?_
                    rw [show ((10 * (-1000000000)) : Int64) = (-10000000000) from (by decide)]
                    refine z_lstore_n (lv' := [(3, .long (-10000000000)), (5, .int 9), (0, .long (-(lN v))), (2, .int 0)]) C dJ13_stringSize_95d88_43 rfl (by decide) rfl ?_
                    refine z_iinc (v := 10) (lv' := [(5, .int 10), (3, .long (-10000000000)), (0, .long (-(lN v))), (2, .int 0)]) C dJ13_stringSize_95d88_44 1 rfl (by decide) (by decide) rfl ?_
                    refine z_goto C (tgt := 20) dJ13_stringSize_95d88_47 (by decide) ?_
                    refine z_iload C dJ13_stringSize_95d88_20 0 rfl ?_
                    refine z_bipush C (v := 19) dJ13_stringSize_95d88_22 (by decide) ?_
                    refine z_icmp_ge C (tgt := 50) dJ13_stringSize_95d88_24 (by decide) (fun c24 => absurd c24 (by decide)) (fun _ => ?_)
                    refine z_lload_n C dJ13_stringSize_95d88_27 rfl 2 rfl ?_
                    refine z_lload_n C dJ13_stringSize_95d88_28 rfl 1 rfl ?_
                    refine z_lcmp C dJ13_stringSize_95d88_29 ?_
                    refine z_if_le C (tgt := 38) dJ13_stringSize_95d88_30 (by decide) (fun c30 => ?_) (fun c30 => ?_)
                    · have e10 := (j_lle (k := 10000000000) hv62 (by decide) (by decide)).mp c30
                      refine z_ldc2 C (v := 10) kw1271 dJ13_stringSize_95d88_38 ?_
                      refine z_lload_n C dJ13_stringSize_95d88_41 rfl 1 rfl ?_
                      refine z_lmul C dJ13_stringSize_95d88_42 ?_
                      rw [show ((10 * (-10000000000)) : Int64) = (-100000000000) from (by decide)]
                      refine z_lstore_n (lv' := [(3, .long (-100000000000)), (5, .int 10), (0, .long (-(lN v))), (2, .int 0)]) C dJ13_stringSize_95d88_43 rfl (by decide) rfl ?_
                      refine z_iinc (v := 11) (lv' := [(5, .int 11), (3, .long (-100000000000)), (0, .long (-(lN v))), (2, .int 0)]) C dJ13_stringSize_95d88_44 1 rfl (by decide) (by decide) rfl ?_
                      refine z_goto C (tgt := 20) dJ13_stringSize_95d88_47 (by decide) ?_
                      refine z_iload C dJ13_stringSize_95d88_20 0 rfl ?_
                      refine z_bipush C (v := 19) dJ13_stringSize_95d88_22 (by decide) ?_
                      refine z_icmp_ge C (tgt := 50) dJ13_stringSize_95d88_24 (by decide) (fun c24 => absurd c24 (by decide)) (fun _ => ?_)
                      refine z_lload_n C dJ13_stringSize_95d88_27 rfl 2 rfl ?_
                      refine z_lload_n C dJ13_stringSize_95d88_28 rfl 1 rfl ?_
                      refine z_lcmp C dJ13_stringSize_95d88_29 ?_
                      refine z_if_le C (tgt := 38) dJ13_stringSize_95d88_30 (by decide) (fun c30 => absurd c30 (mt (j_lle (k := 100000000000) hv62 (by decide) (by decide)).mp (by omega))) (fun _ => ?_)
                      refine z_iload C dJ13_stringSize_95d88_33 0 rfl ?_
                      refine z_iload_n C dJ13_stringSize_95d88_35 rfl 3 rfl ?_
                      refine z_iadd C dJ13_stringSize_95d88_36 ?_
                      refine ret dJ13_stringSize_95d88_37 rfl ?_ (by decide) (by decide)
                      refine ⟨?_, rfl⟩
                      rw [j_dk11 e10 hv]
                      rfl
                    · have g10 := Nat.not_le.mp (mt (j_lle (v := v) (k := 10000000000) hv62 (by decide) (by decide)).mpr c30)
                      refine z_iload C dJ13_stringSize_95d88_33 0 rfl ?_
                      refine z_iload_n C dJ13_stringSize_95d88_35 rfl 3 rfl ?_
                      refine z_iadd C dJ13_stringSize_95d88_36 ?_
                      refine ret dJ13_stringSize_95d88_37 rfl ?_ (by decide) (by decide)
                      refine ⟨?_, rfl⟩
                      rw [j_dk10 e9 g10]
                      rfl
                  · have g9 := Nat.not_le.mp (mt (j_lle (v := v) (k := 1000000000) hv62 (by decide) (by decide)).mpr c30)
                    refine z_iload C dJ13_stringSize_95d88_33 0 rfl ?_
                    refine z_iload_n C dJ13_stringSize_95d88_35 rfl 3 rfl ?_
                    refine z_iadd C dJ13_stringSize_95d88_36 ?_
                    refine ret dJ13_stringSize_95d88_37 rfl ?_ (by decide) (by decide)
                    refine ⟨?_, rfl⟩
                    rw [j_dk9 e8 g9]
                    rfl
                · have g8 := Nat.not_le.mp (mt (j_lle (v := v) (k := 100000000) hv62 (by decide) (by decide)).mpr c30)
                  refine z_iload C dJ13_stringSize_95d88_33 0 rfl ?_
                  refine z_iload_n C dJ13_stringSize_95d88_35 rfl 3 rfl ?_
                  refine z_iadd C dJ13_stringSize_95d88_36 ?_
                  refine ret dJ13_stringSize_95d88_37 rfl ?_ (by decide) (by decide)
                  refine ⟨?_, rfl⟩
                  rw [j_dk8 e7 g8]
                  rfl
              · have g7 := Nat.not_le.mp (mt (j_lle (v := v) (k := 10000000) hv62 (by decide) (by decide)).mpr c30)
                refine z_iload C dJ13_stringSize_95d88_33 0 rfl ?_
                refine z_iload_n C dJ13_stringSize_95d88_35 rfl 3 rfl ?_
                refine z_iadd C dJ13_stringSize_95d88_36 ?_
                refine ret dJ13_stringSize_95d88_37 rfl ?_ (by decide) (by decide)
                refine ⟨?_, rfl⟩
                rw [j_dk7 e6 g7]
                rfl
            · have g6 := Nat.not_le.mp (mt (j_lle (v := v) (k := 1000000) hv62 (by decide) (by decide)).mpr c30)
              refine z_iload C dJ13_stringSize_95d88_33 0 rfl ?_
              refine z_iload_n C dJ13_stringSize_95d88_35 rfl 3 rfl ?_
              refine z_iadd C dJ13_stringSize_95d88_36 ?_
              refine ret dJ13_stringSize_95d88_37 rfl ?_ (by decide) (by decide)
              refine ⟨?_, rfl⟩
              rw [j_dk6 e5 g6]
              rfl
          · have g5 := Nat.not_le.mp (mt (j_lle (v := v) (k := 100000) hv62 (by decide) (by decide)).mpr c30)
            refine z_iload C dJ13_stringSize_95d88_33 0 rfl ?_
            refine z_iload_n C dJ13_stringSize_95d88_35 rfl 3 rfl ?_
            refine z_iadd C dJ13_stringSize_95d88_36 ?_
            refine ret dJ13_stringSize_95d88_37 rfl ?_ (by decide) (by decide)
            refine ⟨?_, rfl⟩
            rw [j_dk5 e4 g5]
            rfl
        · have g4 := Nat.not_le.mp (mt (j_lle (v := v) (k := 10000) hv62 (by decide) (by decide)).mpr c30)
          refine z_iload C dJ13_stringSize_95d88_33 0 rfl ?_
          refine z_iload_n C dJ13_stringSize_95d88_35 rfl 3 rfl ?_
          refine z_iadd C dJ13_stringSize_95d88_36 ?_
          refine ret dJ13_stringSize_95d88_37 rfl ?_ (by decide) (by decide)
          refine ⟨?_, rfl⟩
          rw [j_dk4 e3 g4]
          rfl
      · have g3 := Nat.not_le.mp (mt (j_lle (v := v) (k := 1000) hv62 (by decide) (by decide)).mpr c30)
        refine z_iload C dJ13_stringSize_95d88_33 0 rfl ?_
        refine z_iload_n C dJ13_stringSize_95d88_35 rfl 3 rfl ?_
        refine z_iadd C dJ13_stringSize_95d88_36 ?_
        refine ret dJ13_stringSize_95d88_37 rfl ?_ (by decide) (by decide)
        refine ⟨?_, rfl⟩
        rw [j_dk3 e2 g3]
        rfl
    · have g2 := Nat.not_le.mp (mt (j_lle (v := v) (k := 100) hv62 (by decide) (by decide)).mpr c30)
      refine z_iload C dJ13_stringSize_95d88_33 0 rfl ?_
      refine z_iload_n C dJ13_stringSize_95d88_35 rfl 3 rfl ?_
      refine z_iadd C dJ13_stringSize_95d88_36 ?_
      refine ret dJ13_stringSize_95d88_37 rfl ?_ (by decide) (by decide)
      refine ⟨?_, rfl⟩
      rw [j_dk2 e1 g2]
      rfl
  · have g1 := Nat.not_le.mp (mt (j_lle (v := v) (k := 10) hv62 (by decide) (by decide)).mpr c30)
    refine z_iload C dJ13_stringSize_95d88_33 0 rfl ?_
    refine z_iload_n C dJ13_stringSize_95d88_35 rfl 3 rfl ?_
    refine z_iadd C dJ13_stringSize_95d88_36 ?_
    refine ret dJ13_stringSize_95d88_37 rfl ?_ (by decide) (by decide)
    refine ⟨?_, rfl⟩
    rw [j_dk1 g1]
    rfl
set_option maxRecDepth 20000 in
theorem lp_J13_getC {X : zX} (C : z_C X cJ13_getChars_11360 RJ13 11 (z_rm 1 0 0)) {M : zM} {vb n c : Nat} (hn : n ≤ 65536) : ∀ (fuel wv pp : Nat) (ff : Nat → Int32), wv < fuel → wv < 2 ^ 31 → pp = c + sb_dg wv → pp ≤ n → sb_Fit ff → (∀ (f9 : Nat → Int32) (p9 : Nat), sb_Fit f9 → j_Dg f9 ff c (sb_dg wv) wv → z_W X (z_up M vb (aB (z_G X) n f9)) 0 0 192 [(7, .int (nI p9))] []) → z_W X (z_up M vb (aB (z_G X) n ff)) 0 0 86 [(7, .int (nI pp)), (10, .int (-nI wv)), (3, .ref vb), (8, .int 0)] [] := by
  intro fuel
  induction fuel with
  | zero => intro wv pp ff h; exact absurd h (Nat.not_lt_zero _)
  | succ fuel ih =>
    intro wv pp ff hfu hw hp hpn hff kk
    refine z_iload C dJ13_getChars_11360_86 1 rfl ?_
    refine z_bipush C (v := (-100)) dJ13_getChars_11360_88 (by decide) ?_
    refine z_icmp_gt C (tgt := 143) dJ13_getChars_11360_90 (by decide) (fun c90 => ?_) (fun c90 => ?_)
    · have g1 := j_lt (k := 100) hw (by decide) (by decide) c90
      have g3 := sb_dg_in wv
      refine z_aload_n C dJ13_getChars_11360_143 rfl 2 rfl ?_
      refine z_iinc (v := nI (pp - 1)) (lv' := [(7, .int (nI (pp - 1))), (10, .int (-nI wv)), (3, .ref vb), (8, .int 0)]) C dJ13_getChars_11360_144 0 rfl (j_m1 (by omega)) (by decide) rfl ?_
      refine z_iload C dJ13_getChars_11360_147 0 rfl ?_
      refine z_gsD1 C kw1277 dJ13_getChars_11360_149 (fun t149 hT149 => ?_)
      refine z_iload C dJ13_getChars_11360_152 1 rfl ?_
      refine z_ineg C dJ13_getChars_11360_154 ?_
      rw [show ((-(-nI wv)) : Int32) = nI wv from (j_nn _)]
      refine z_tb1 (j := wv) C hT149 (nI_in (by omega) (by decide)) (nI_clamp (by omega)) rfl dJ13_getChars_11360_155 ?_
      refine z_bast (j := (pp - 1)) C (z_up_s _ _ _) (nI_in (by omega) (by omega)) (nI_clamp (by omega)) dJ13_getChars_11360_156 ?_
      rw [z_up_up]
      refine z_iload C dJ13_getChars_11360_157 1 rfl ?_
      refine z_bipush C (v := (-9)) dJ13_getChars_11360_159 (by decide) ?_
      refine z_icmp_ge C (tgt := 178) dJ13_getChars_11360_161 (by decide) (fun c161 => ?_) (fun c161 => ?_)
      · refine z_iload C dJ13_getChars_11360_178 3 rfl ?_
        refine z_if_eq C (tgt := 192) dJ13_getChars_11360_180 (by decide) (fun _ => ?_) (fun c180 => absurd (by decide) c180)
        refine z_fewer [0] rfl ?_
        have g2 := j_ple (k := 9) hw (by decide) (by decide) c161
        have e5 := j_dg1e g2
        exact kk _ _ (j_fitU hff _ _) (by rw [e5] at hp ⊢; exact j_Dg_1 hp (by omega))
      · have g2 := j_nle (k := 9) hw (by decide) (by decide) c161
        have g4 := j_dg2 (w := wv) (by omega)
        refine z_aload_n C dJ13_getChars_11360_164 rfl 2 rfl ?_
        refine z_iinc (v := nI (pp - 1 - 1)) (lv' := [(7, .int (nI (pp - 1 - 1))), (10, .int (-nI wv)), (3, .ref vb), (8, .int 0)]) C dJ13_getChars_11360_165 0 rfl (j_m1 (by omega)) (by decide) rfl ?_
        refine z_iload C dJ13_getChars_11360_168 0 rfl ?_
        refine z_gsD10 C kw1278 dJ13_getChars_11360_170 (fun t170 hT170 => ?_)
        refine z_iload C dJ13_getChars_11360_173 1 rfl ?_
        refine z_ineg C dJ13_getChars_11360_175 ?_
        rw [show ((-(-nI wv)) : Int32) = nI wv from (j_nn _)]
        refine z_tb10 (j := wv) C hT170 (nI_in (by omega) (by decide)) (nI_clamp (by omega)) rfl dJ13_getChars_11360_176 ?_
        refine z_bast (j := (pp - 1 - 1)) C (z_up_s _ _ _) (nI_in (by omega) (by omega)) (nI_clamp (by omega)) dJ13_getChars_11360_177 ?_
        rw [z_up_up]
        refine z_iload C dJ13_getChars_11360_178 3 rfl ?_
        refine z_if_eq C (tgt := 192) dJ13_getChars_11360_180 (by decide) (fun _ => ?_) (fun c180 => absurd (by decide) c180)
        refine z_fewer [0] rfl ?_
        have e5 := j_dg2e g2 g1
        exact kk _ _ (j_fitU (j_fitU hff _ _) _ _) (by rw [e5] at hp ⊢; exact j_Dg_2 hp (by omega))
    · have g1 := j_nlt (k := 100) hw (by decide) (by decide) c90
      have g3 := j_dg3 g1 hw
      refine z_iload C dJ13_getChars_11360_93 1 rfl ?_
      refine z_bipush C (v := 100) dJ13_getChars_11360_95 (by decide) ?_
      refine z_idiv C dJ13_getChars_11360_97 (by decide) ?_
      rw [show (((-nI wv) / 100) : Int32) = (-nI (wv / 100)) from (sb_ndiv hw)]
      refine z_istore (lv' := [(9, .int (-nI (wv / 100))), (7, .int (nI pp)), (10, .int (-nI wv)), (3, .ref vb), (8, .int 0)]) C dJ13_getChars_11360_98 (by decide) rfl ?_
      refine z_iload C dJ13_getChars_11360_100 0 rfl ?_
      refine z_bipush C (v := 100) dJ13_getChars_11360_102 (by decide) ?_
      refine z_imul C dJ13_getChars_11360_104 ?_
      refine z_iload C dJ13_getChars_11360_105 2 rfl ?_
      refine z_isub C dJ13_getChars_11360_107 ?_
      rw [show ((((-nI (wv / 100)) * 100) - (-nI wv)) : Int32) = nI (wv % 100) from (sb_nrem hw)]
      refine z_istore (lv' := [(6, .int (nI (wv % 100))), (9, .int (-nI (wv / 100))), (7, .int (nI pp)), (10, .int (-nI wv)), (3, .ref vb), (8, .int 0)]) C dJ13_getChars_11360_108 (by decide) rfl ?_
      refine z_iload C dJ13_getChars_11360_110 1 rfl ?_
      refine z_istore (lv' := [(10, .int (-nI (wv / 100))), (6, .int (nI (wv % 100))), (9, .int (-nI (wv / 100))), (7, .int (nI pp)), (3, .ref vb), (8, .int 0)]) C dJ13_getChars_11360_112 (by decide) rfl ?_
      refine z_aload_n C dJ13_getChars_11360_114 rfl 4 rfl ?_
      refine z_iinc (v := nI (pp - 1)) (lv' := [(7, .int (nI (pp - 1))), (10, .int (-nI (wv / 100))), (6, .int (nI (wv % 100))), (9, .int (-nI (wv / 100))), (3, .ref vb), (8, .int 0)]) C dJ13_getChars_11360_115 3 rfl (j_m1 (by omega)) (by decide) rfl ?_
      refine z_iload C dJ13_getChars_11360_118 0 rfl ?_
      refine z_gsD1 C kw1277 dJ13_getChars_11360_120 (fun t120 hT120 => ?_)
      refine z_iload C dJ13_getChars_11360_123 2 rfl ?_
      refine z_tb1 (j := (wv % 100)) C hT120 (nI_in (by omega) (by decide)) (nI_clamp (by omega)) rfl dJ13_getChars_11360_125 ?_
      refine z_bast (j := (pp - 1)) C (z_up_s _ _ _) (nI_in (by omega) (by omega)) (nI_clamp (by omega)) dJ13_getChars_11360_126 ?_
      rw [z_up_up]
      refine z_aload_n C dJ13_getChars_11360_127 rfl 4 rfl ?_
      refine z_iinc (v := nI (pp - 1 - 1)) (lv' := [(7, .int (nI (pp - 1 - 1))), (10, .int (-nI (wv / 100))), (6, .int (nI (wv % 100))), (9, .int (-nI (wv / 100))), (3, .ref vb), (8, .int 0)]) C dJ13_getChars_11360_128 0 rfl (j_m1 (by omega)) (by decide) rfl ?_
      refine z_iload C dJ13_getChars_11360_131 0 rfl ?_
      refine z_gsD10 C kw1278 dJ13_getChars_11360_133 (fun t133 hT133 => ?_)
      refine z_iload C dJ13_getChars_11360_136 2 rfl ?_
      refine z_tb10 (j := (wv % 100)) C hT133 (nI_in (by omega) (by decide)) (nI_clamp (by omega)) rfl dJ13_getChars_11360_138 ?_
      refine z_bast (j := (pp - 1 - 1)) C (z_up_s _ _ _) (nI_in (by omega) (by omega)) (nI_clamp (by omega)) dJ13_getChars_11360_139 ?_
      rw [z_up_up]
      refine z_goto C (tgt := 86) dJ13_getChars_11360_140 (by decide) ?_
      refine z_fewer [0, 1, 4, 5] rfl ?_
      exact ih (wv / 100) (pp - 1 - 1) _ (by omega) (by omega) (by omega) (by omega) (j_fitU (j_fitU hff _ _) _ _) (fun f9 p9 h9 h8 => kk f9 p9 h9 (by rw [g3.1]; exact j_Dg_st (by omega) h8))
set_option maxRecDepth 20000 in
theorem c_J13_getChars_11360 (l : Launch) (G : zG) {M : zM} {vb : Nat} {n : Nat} {f : Nat → Int32} {v c d : Nat} (h_vb : M vb = some (aB G n f)) (hv : v < 35000000000) (hd : d = c + j_dgl v) (hdn : d ≤ n) (hn : n ≤ 65536) (hf : sb_Fit f) : z_Mi l G qJ13_getChars_11360 (z_rm 1 0 0) [.long (lN v), .int (nI d), .ref vb] M (fun r M' => ∃ (f9 : Nat → Int32) (r9 : Int32), (sb_Fit f9) ∧ (j_Dg f9 f c (j_dgl v) v) ∧ r = r9 ∧ M' = z_up M vb (aB G n f9))  := by
  refine z_Mi_of _ (by decide +kernel) rfl (Nat.le_of_ble_eq_true rfl) (fun X hl hG hnm C ret => ?_)
  subst hl; subst hG
  have C : z_C X cJ13_getChars_11360 RJ13 11 (z_rm 1 0 0) := C
  show z_W X M 0 0 0 [(0, .long (lN v)), (2, .int (nI d)), (3, .ref vb)] []
  refine z_iload_n C dJ13_getChars_11360_0 rfl 1 rfl ?_
  refine z_istore (lv' := [(7, .int (nI d)), (0, .long (lN v)), (2, .int (nI d)), (3, .ref vb)]) C dJ13_getChars_11360_1 (by decide) rfl ?_
  refine z_lload_n C dJ13_getChars_11360_3 rfl 1 rfl ?_
  refine z_lconst C (v := 0) dJ13_getChars_11360_4 (by decide) ?_
  refine z_lcmp C dJ13_getChars_11360_5 ?_
  refine z_if_ge C (tgt := 13) dJ13_getChars_11360_6 (by decide) (fun _ => ?_) (fun c6 => absurd (j_lnn (by omega)) c6)
  refine z_iconst C (v := 0) dJ13_getChars_11360_13 (by decide) ?_
  refine z_istore (lv' := [(8, .int 0), (7, .int (nI d)), (0, .long (lN v)), (2, .int (nI d)), (3, .ref vb)]) C dJ13_getChars_11360_14 (by decide) rfl ?_
  refine z_iload C dJ13_getChars_11360_16 0 rfl ?_
  refine z_if_ne C (tgt := 24) dJ13_getChars_11360_18 (by decide) (fun c18 => absurd (by decide) c18) (fun _ => ?_)
  refine z_lload_n C dJ13_getChars_11360_21 rfl 2 rfl ?_
  refine z_lneg C dJ13_getChars_11360_22 ?_
  refine z_lstore_n (lv' := [(0, .long (-(lN v))), (8, .int 0), (7, .int (nI d)), (2, .int (nI d)), (3, .ref vb)]) C dJ13_getChars_11360_23 rfl (by decide) rfl ?_
  refine z_lload_n C dJ13_getChars_11360_24 rfl 0 rfl ?_
  refine z_ldc2 C (v := (-2147483648)) kw1275 dJ13_getChars_11360_25 ?_
  refine z_lcmp C dJ13_getChars_11360_28 ?_
  refine z_if_gt C (tgt := 82) dJ13_getChars_11360_29 (by decide) (fun c29 => ?_) (fun c29 => ?_)
  · have g0 : v < 2 ^ 31 := (j_lgt (v := v) (k := 2147483648) (by omega) (by decide) (by decide)).mp c29
    refine z_lload_n C dJ13_getChars_11360_82 rfl 0 rfl ?_
    refine z_l2i C dJ13_getChars_11360_83 ?_
    rw [show (((-(lN v)).toInt32) : Int32) = (-nI v) from (j_l2i _)]
    refine z_istore (lv' := [(10, .int (-nI v)), (0, .long (-(lN v))), (8, .int 0), (7, .int (nI d)), (2, .int (nI d)), (3, .ref vb)]) C dJ13_getChars_11360_84 (by decide) rfl ?_
    refine z_fewer [3, 0, 5, 2] rfl ?_
    refine z_at (M' := z_up M vb (aB (z_G X) n f)) (lv' := _) (z_up_id h_vb) rfl rfl ?_
    refine lp_J13_getC (c := c) C hn (v + 1) v d f (Nat.lt_succ_self _) g0 (by rw [hd, j_dgl_lo g0]) hdn hf (fun f9 p9 h9 h7 => ?_)
    have h8 : j_Dg f9 f c (j_dgl v) v := by
      rw [j_dgl_lo g0]
      exact h7
    refine z_iload C dJ13_getChars_11360_192 0 rfl ?_
    refine ret dJ13_getChars_11360_194 rfl ?_ (by decide) (by decide)
    exact ⟨f9, _, h9, h8, rfl, rfl⟩
  · have g0 := mt (j_lgt (v := v) (k := 2147483648) (by omega) (by decide) (by decide)).mpr c29
    have g5 := j_dgl_hi (v := v) (by omega)
    have g6 := sb_dg_in (v / 100)
    refine z_lload_n C dJ13_getChars_11360_32 rfl 0 rfl ?_
    refine z_ldc2 C (v := 100) kw1276 dJ13_getChars_11360_33 ?_
    refine z_ldiv C dJ13_getChars_11360_36 (by decide) ?_
    rw [show (((-(lN v)) / 100) : Int64) = (-lN (v / 100)) from (j_ldiv (by omega))]
    refine z_lstore (lv' := [(4, .long (-lN (v / 100))), (0, .long (-(lN v))), (8, .int 0), (7, .int (nI d)), (2, .int (nI d)), (3, .ref vb)]) C dJ13_getChars_11360_37 (by decide) rfl ?_
    refine z_lload C dJ13_getChars_11360_39 0 rfl ?_
    refine z_ldc2 C (v := 100) kw1276 dJ13_getChars_11360_41 ?_
    refine z_lmul C dJ13_getChars_11360_44 ?_
    refine z_lload_n C dJ13_getChars_11360_45 rfl 1 rfl ?_
    refine z_lsub C dJ13_getChars_11360_46 ?_
    refine z_l2i C dJ13_getChars_11360_47 ?_
    rw [show (((((-lN (v / 100)) * 100) - (-(lN v))).toInt32) : Int32) = nI (v % 100) from (j_lrem (by omega))]
    refine z_istore (lv' := [(6, .int (nI (v % 100))), (4, .long (-lN (v / 100))), (0, .long (-(lN v))), (8, .int 0), (7, .int (nI d)), (2, .int (nI d)), (3, .ref vb)]) C dJ13_getChars_11360_48 (by decide) rfl ?_
    refine z_lload C dJ13_getChars_11360_50 1 rfl ?_
    refine z_lstore_n (lv' := [(0, .long (-lN (v / 100))), (6, .int (nI (v % 100))), (4, .long (-lN (v / 100))), (8, .int 0), (7, .int (nI d)), (2, .int (nI d)), (3, .ref vb)]) C dJ13_getChars_11360_52 rfl (by decide) rfl ?_
    refine z_aload_n C dJ13_getChars_11360_53 rfl 6 rfl ?_
    refine z_iinc (v := nI (d - 1)) (lv' := [(7, .int (nI (d - 1))), (0, .long (-lN (v / 100))), (6, .int (nI (v % 100))), (4, .long (-lN (v / 100))), (8, .int 0), (2, .int (nI d)), (3, .ref vb)]) C dJ13_getChars_11360_54 4 rfl (j_m1 (by omega)) (by decide) rfl ?_
    refine z_iload C dJ13_getChars_11360_57 0 rfl ?_
    refine z_gsD1 C kw1277 dJ13_getChars_11360_59 (fun t59 hT59 => ?_)
    refine z_iload C dJ13_getChars_11360_62 2 rfl ?_
    refine z_tb1 (j := (v % 100)) C hT59 (nI_in (by omega) (by decide)) (nI_clamp (by omega)) rfl dJ13_getChars_11360_64 ?_
    refine z_bast (j := (d - 1)) C h_vb (nI_in (by omega) (by omega)) (nI_clamp (by omega)) dJ13_getChars_11360_65 ?_
    refine z_aload_n C dJ13_getChars_11360_66 rfl 6 rfl ?_
    refine z_iinc (v := nI (d - 1 - 1)) (lv' := [(7, .int (nI (d - 1 - 1))), (0, .long (-lN (v / 100))), (6, .int (nI (v % 100))), (4, .long (-lN (v / 100))), (8, .int 0), (2, .int (nI d)), (3, .ref vb)]) C dJ13_getChars_11360_67 0 rfl (j_m1 (by omega)) (by decide) rfl ?_
    refine z_iload C dJ13_getChars_11360_70 0 rfl ?_
    refine z_gsD10 C kw1278 dJ13_getChars_11360_72 (fun t72 hT72 => ?_)
    refine z_iload C dJ13_getChars_11360_75 2 rfl ?_
    refine z_tb10 (j := (v % 100)) C hT72 (nI_in (by omega) (by decide)) (nI_clamp (by omega)) rfl dJ13_getChars_11360_77 ?_
    refine z_bast (j := (d - 1 - 1)) C (z_up_s _ _ _) (nI_in (by omega) (by omega)) (nI_clamp (by omega)) dJ13_getChars_11360_78 ?_
    rw [z_up_up]
    refine z_goto C (tgt := 24) dJ13_getChars_11360_79 (by decide) ?_
    refine z_lload_n C dJ13_getChars_11360_24 rfl 1 rfl ?_
    refine z_ldc2 C (v := (-2147483648)) kw1275 dJ13_getChars_11360_25 ?_
    refine z_lcmp C dJ13_getChars_11360_28 ?_
    refine z_if_gt C (tgt := 82) dJ13_getChars_11360_29 (by decide) (fun _ => ?_) (fun c29 => absurd ((j_lgt (v := v / 100) (k := 2147483648) (by omega) (by decide) (by decide)).mpr (by omega)) c29)
    refine z_lload_n C dJ13_getChars_11360_82 rfl 1 rfl ?_
    refine z_l2i C dJ13_getChars_11360_83 ?_
    rw [show (((-lN (v / 100)).toInt32) : Int32) = (-nI (v / 100)) from (j_l2i _)]
    refine z_istore (lv' := [(10, .int (-nI (v / 100))), (7, .int (nI (d - 1 - 1))), (0, .long (-lN (v / 100))), (6, .int (nI (v % 100))), (4, .long (-lN (v / 100))), (8, .int 0), (2, .int (nI d)), (3, .ref vb)]) C dJ13_getChars_11360_84 (by decide) rfl ?_
    refine z_fewer [1, 0, 7, 5] rfl ?_
    refine lp_J13_getC (c := c) C hn (v / 100 + 1) (v / 100) (d - 1 - 1) _ (Nat.lt_succ_self _) (by omega) (by rw [hd, j_dgl_hi (by omega)]; omega) (by omega) (j_fitU (j_fitU hf _ _) _ _) (fun f9 p9 h9 h7 => ?_)
    have h8 : j_Dg f9 f c (j_dgl v) v := by
      rw [g5]
      exact j_Dg_st (by omega) h7
    refine z_iload C dJ13_getChars_11360_192 0 rfl ?_
    refine ret dJ13_getChars_11360_194 rfl ?_ (by decide) (by decide)
    exact ⟨f9, _, h9, h8, rfl, rfl⟩
set_option maxRecDepth 20000 in
theorem c_apJ5_fit (l : Launch) (G : zG) {M : zM} {sb : Nat} {vb : Nat} {ml : Int32} {n : Nat} {f : Nat → Int32} {c v : Nat} (h_sb : M sb = some (cSb vb 0 ml (nI c))) (h_vb : M vb = some (aB G n f)) (hv : v < 35000000000) (h0 : c + j_dgl v ≤ n) (hn : n ≤ 65536) (hf : sb_Fit f) : z_Mr l G qJ5_append_66267 (z_rm 2 0 0) [.ref sb, .long (lN v)] M (fun r M' => ∃ f9_33 : Nat → Int32, ∃ r9_33 : Int32, (sb_Fit f9_33) ∧ (j_Dg f9_33 f c (j_dgl v) v) ∧ r = sb ∧ M' = z_up (z_up M vb (aB G n f9_33)) sb (cSb vb 0 ml (nI (c + j_dgl v))))  := by
  refine z_Mr_of _ (by decide +kernel) rfl (by first | exact Or.inl ⟨_, rfl⟩ | exact Or.inr ⟨_, rfl⟩) (Nat.le_of_ble_eq_true rfl) (fun X hl hG hnm C ret => ?_)
  subst hl; subst hG
  have C : z_C X cJ5_append_66267 RJ5 5 (z_rm 2 0 0) := C
  show z_W X M 0 0 0 [(0, .ref sb), (1, .long (lN v))] []
  refine z_aload_n C dJ5_append_66267_0 rfl 0 rfl ?_
  refine gf_J5_79 C h_sb dJ5_append_66267_1 ?_
  refine z_istore_n (lv' := [(3, .int (nI c)), (0, .ref sb), (1, .long (lN v))]) C dJ5_append_66267_4 rfl (by decide) rfl ?_
  refine z_iload_n C dJ5_append_66267_5 rfl 0 rfl ?_
  refine z_lload_n C dJ5_append_66267_6 rfl 2 rfl ?_
  refine z_callSi (rest := [.int (nI c)]) (k' := 0) (n' := 0) C (c_J13_stringSize_95d88 (z_l X) (z_G X) hv) (cs_J5_254 C (by decide)) rfl rfl (Nat.le_of_ble_eq_true rfl) rfl rfl (by decide) (by decide) dJ5_append_66267_7 (fun x7 M' hq => ?_)
  obtain ⟨rfl, rfl⟩ := hq
  refine z_iadd C dJ5_append_66267_10 ?_
  rw [show (((nI c) + (nI (j_dgl v))) : Int32) = nI (c + j_dgl v) from (j_add _ _)]
  refine z_istore (lv' := [(4, .int (nI (c + j_dgl v))), (3, .int (nI c)), (0, .ref sb), (1, .long (lN v))]) C dJ5_append_66267_11 (by decide) rfl ?_
  refine z_aload_n C dJ5_append_66267_13 rfl 2 rfl ?_
  refine z_iload C dJ5_append_66267_14 0 rfl ?_
  refine z_callUv (rest := []) (k' := 0) (n' := 0) C (c_ens_fit (z_l X) (z_G X) h_sb h_vb h0 hn) (cs_J5_100 C (by decide)) h_sb trivial trivial rfl rfl (Nat.le_of_ble_eq_true rfl) rfl rfl (by decide) (by decide) dJ5_append_66267_16 (fun M' hq => ?_)
  obtain rfl := hq
  refine z_aload_n C dJ5_append_66267_19 rfl 2 rfl ?_
  refine z_callUi (rest := []) (k' := 0) (n' := 0) C (c_J5_isLatin1_aae02 (z_l X) (z_G X) h_sb) (cs_J5_83 C (by decide)) h_sb trivial trivial rfl rfl (Nat.le_of_ble_eq_true rfl) rfl rfl (by decide) (by decide) dJ5_append_66267_20 (fun x20 M' hq => ?_)
  obtain ⟨rfl, rfl⟩ := hq
  refine z_if_eq C (tgt := 40) dJ5_append_66267_23 (by decide) (fun c23 => absurd c23 (by decide)) (fun _ => ?_)
  refine z_lload_n C dJ5_append_66267_26 rfl 3 rfl ?_
  refine z_iload C dJ5_append_66267_27 0 rfl ?_
  refine z_aload_n C dJ5_append_66267_29 rfl 2 rfl ?_
  refine gf_J5_15 C h_sb dJ5_append_66267_30 ?_
  refine z_callSi (rest := []) (k' := 0) (n' := 0) C (c_J13_getChars_11360 (z_l X) (z_G X) h_vb hv rfl h0 hn hf) (cs_J5_259 C (by decide)) rfl rfl (Nat.le_of_ble_eq_true rfl) rfl rfl (by decide) (by decide) dJ5_append_66267_33 (fun x33 M' hq => ?_)
  obtain ⟨f9_33, r9_33, d33_2, d33_3, hr33, rfl⟩ := hq
  rw [hr33]
  refine z_pop C dJ5_append_66267_36 rfl ?_
  refine z_goto C (tgt := 52) dJ5_append_66267_37 (by decide) ?_
  refine z_aload_n C dJ5_append_66267_52 rfl 2 rfl ?_
  refine z_iload C dJ5_append_66267_53 0 rfl ?_
  refine pf_J5_79 C ((z_up_n _ _ (z_ne h_sb h_vb (by intro h; cases h))).trans h_sb) dJ5_append_66267_55 ?_
  refine z_aload_n C dJ5_append_66267_58 rfl 2 rfl ?_
  exact ret dJ5_append_66267_59 (⟨f9_33, r9_33, d33_2, d33_3, rfl, rfl⟩) (by decide) (by decide)
set_option maxRecDepth 20000 in
theorem c_apJ_fit (l : Launch) (G : zG) {M : zM} {sb : Nat} {vb : Nat} {ml : Int32} {n : Nat} {f : Nat → Int32} {c v : Nat} (h_sb : M sb = some (cSb vb 0 ml (nI c))) (h_vb : M vb = some (aB G n f)) (hv : v < 35000000000) (h0 : c + j_dgl v ≤ n) (hn : n ≤ 65536) (hf : sb_Fit f) : z_Mr l G qJ4_append_f7089 (z_rm 3 0 0) [.ref sb, .long (lN v)] M (fun r M' => ∃ f9_33_2 : Nat → Int32, ∃ r9_33_2 : Int32, (sb_Fit f9_33_2) ∧ (j_Dg f9_33_2 f c (j_dgl v) v) ∧ r = sb ∧ M' = z_up (z_up M vb (aB G n f9_33_2)) sb (cSb vb 0 ml (nI (c + j_dgl v))))  := by
  refine z_Mr_of _ (by decide +kernel) rfl (by first | exact Or.inl ⟨_, rfl⟩ | exact Or.inr ⟨_, rfl⟩) (Nat.le_of_ble_eq_true rfl) (fun X hl hG hnm C ret => ?_)
  subst hl; subst hG
  have C : z_C X cJ4_append_f7089 RJ4 3 (z_rm 3 0 0) := C
  show z_W X M 0 0 0 [(0, .ref sb), (1, .long (lN v))] []
  refine z_aload_n C dJ4_append_f7089_0 rfl 0 rfl ?_
  refine z_lload_n C dJ4_append_f7089_1 rfl 1 rfl ?_
  refine z_callPr (rest := []) (k' := 0) (n' := 0) C (c_apJ5_fit (z_l X) (z_G X) h_sb h_vb hv h0 hn hf) (cs_J4_56 C (by decide)) h_sb trivial trivial rfl rfl (Nat.le_of_ble_eq_true rfl) rfl rfl (by decide) (by decide) dJ4_append_f7089_2 (fun x2 M' hq => ?_)
  obtain ⟨f9_33_2, r9_33_2, d2_2, d2_3, hr2, rfl⟩ := hq
  rw [hr2]
  refine z_pop C dJ4_append_f7089_5 rfl ?_
  refine z_aload_n C dJ4_append_f7089_6 rfl 0 rfl ?_
  exact ret dJ4_append_f7089_7 (⟨f9_33_2, r9_33_2, d2_2, d2_3, rfl, rfl⟩) (by decide) (by decide)
