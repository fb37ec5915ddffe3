/-! PART 41: the JDK's builder and String: what is said of lengths and places, not of letters -/
section JC
variable {X : zX} {cc : ByteArray} {nL : Nat} {rm : Room} {rmc : Room}
theorem cs_J0_549 (C : z_C X cc RJ0 nL rm) (hR : rmc.frames + 1 ≤ rm.frames ∧ 8 + (1 + 11) + rmc.locals ≤ rm.locals) : va_CU (z_R X) (z_s X) (z_a X) RJ0 RJ4 (qJ5_length_8abf5).1.cls 549 (qJ5_length_8abf5).1 (qJ4_length_8abf5).1 (qJ4_length_8abf5).2.1 (qJ4_length_8abf5).2.2.1 (qJ4_length_8abf5).2.2.2 (z_ws qJ4_length_8abf5) rmc rmc.cells rmc.slots 0 := z_cwU (q := qJ4_length_8abf5) (x := (qJ5_length_8abf5).1) C kc_J4_length_8abf5 kw353 (z_tow C kw356) kw355 kw354 kc_J5_length_8abf5 kw357 kw6 (by decide +kernel) hR
theorem cs_J0_552 (C : z_C X cc RJ0 nL rm) (hR : rmc.frames + 1 ≤ rm.frames ∧ 8 + (1 + 11) + rmc.locals ≤ rm.locals) : va_CU (z_R X) (z_s X) (z_a X) RJ0 RJ4 (qJ5_getValue_6d5f1).1.cls 552 (qJ5_getValue_6d5f1).1 (qJ5_getValue_6d5f1).1 (qJ5_getValue_6d5f1).2.1 (qJ5_getValue_6d5f1).2.2.1 (qJ5_getValue_6d5f1).2.2.2 (z_ws qJ5_getValue_6d5f1) rmc rmc.cells rmc.slots 0 := z_cwU (q := qJ5_getValue_6d5f1) (x := (qJ5_getValue_6d5f1).1) C kc_J5_getValue_6d5f1 kw348 (z_tow C kw351) kw350 kw349 kc_J5_getValue_6d5f1 kw349 kw5 (by decide +kernel) hR
theorem cs_J0_1047 (C : z_C X cc RJ0 nL rm) (hR : rmc.frames + 1 ≤ rm.frames ∧ 8 + (1 + 11) + rmc.locals ≤ rm.locals) : va_CU (z_R X) (z_s X) (z_a X) RJ0 RJ4 (qJ5_isLatin1_aae02).1.cls 1047 (qJ5_isLatin1_aae02).1 (qJ5_isLatin1_aae02).1 (qJ5_isLatin1_aae02).2.1 (qJ5_isLatin1_aae02).2.2.1 (qJ5_isLatin1_aae02).2.2.2 (z_ws qJ5_isLatin1_aae02) rmc rmc.cells rmc.slots 0 := z_cwU (q := qJ5_isLatin1_aae02) (x := (qJ5_isLatin1_aae02).1) C kc_J5_isLatin1_aae02 kw361 (z_tow C kw239) kw238 kw237 kc_J5_isLatin1_aae02 kw237 kw5 (by decide +kernel) hR
theorem cs_J4_29 (C : z_C X cc RJ4 nL rm) (hR : rmc.frames + 1 ≤ rm.frames ∧ 8 + (3 + 11) + rmc.locals ≤ rm.locals) : va_CS (z_R X) (z_s X) (z_a X) RJ4 29 (qJ5_append_cf1ce).1 (qJ5_append_cf1ce).2.1 (qJ5_append_cf1ce).2.2.1 (qJ5_append_cf1ce).2.2.2 (z_ws qJ5_append_cf1ce) rmc rmc.cells rmc.slots 1 := z_cwP (q := qJ5_append_cf1ce) C kc_J5_append_cf1ce kw194 kw1381 kw126 kw195 kw5 (by decide +kernel) hR
theorem cs_J4_50 (C : z_C X cc RJ4 nL rm) (hR : rmc.frames + 1 ≤ rm.frames ∧ 8 + (2 + 11) + rmc.locals ≤ rm.locals) : va_CS (z_R X) (z_s X) (z_a X) RJ4 50 (qJ5_append_3fe6f).1 (qJ5_append_3fe6f).2.1 (qJ5_append_3fe6f).2.2.1 (qJ5_append_3fe6f).2.2.2 (z_ws qJ5_append_3fe6f) rmc rmc.cells rmc.slots 1 := z_cwP (q := qJ5_append_3fe6f) C kc_J5_append_3fe6f kw522 kw1390 kw126 kw523 kw5 (by decide +kernel) hR
theorem cs_J4_53 (C : z_C X cc RJ4 nL rm) (hR : rmc.frames + 1 ≤ rm.frames ∧ 8 + (4 + 11) + rmc.locals ≤ rm.locals) : va_CS (z_R X) (z_s X) (z_a X) RJ4 53 (qJ5_append_c97b9).1 (qJ5_append_c97b9).2.1 (qJ5_append_c97b9).2.2.1 (qJ5_append_c97b9).2.2.2 (z_ws qJ5_append_c97b9) rmc rmc.cells rmc.slots 1 := z_cwP (q := qJ5_append_c97b9) C kc_J5_append_c97b9 kw314 kw1388 kw126 kw315 kw5 (by decide +kernel) hR
theorem cs_J4_56 (C : z_C X cc RJ4 nL rm) (hR : rmc.frames + 1 ≤ rm.frames ∧ 8 + (5 + 11) + rmc.locals ≤ rm.locals) : va_CS (z_R X) (z_s X) (z_a X) RJ4 56 (qJ5_append_66267).1 (qJ5_append_66267).2.1 (qJ5_append_66267).2.2.1 (qJ5_append_66267).2.2.2 (z_ws qJ5_append_66267) rmc rmc.cells rmc.slots 1 := z_cwP (q := qJ5_append_66267) C kc_J5_append_66267 kw1264 kw1393 kw126 kw1265 kw5 (by decide +kernel) hR
theorem cs_J4_329 (C : z_C X cc RJ4 nL rm) (hR : rmc.frames + 1 ≤ rm.frames ∧ 8 + (5 + 11) + rmc.locals ≤ rm.locals) : va_CS (z_R X) (z_s X) (z_a X) RJ4 329 (qJ5_charAt_5068e).1 (qJ5_charAt_5068e).2.1 (qJ5_charAt_5068e).2.2.1 (qJ5_charAt_5068e).2.2.2 (z_ws qJ5_charAt_5068e) rmc rmc.cells rmc.slots 1 := z_cwP (q := qJ5_charAt_5068e) C kc_J5_charAt_5068e kw666 kw1392 kw126 kw667 kw5 (by decide +kernel) hR
theorem cs_J4_333 (C : z_C X cc RJ4 nL rm) (hR : rmc.frames + 1 ≤ rm.frames ∧ 8 + (2 + 11) + rmc.locals ≤ rm.locals) : va_CS (z_R X) (z_s X) (z_a X) RJ4 333 (qJ5_setLength_d00df).1 (qJ5_setLength_d00df).2.1 (qJ5_setLength_d00df).2.2.1 (qJ5_setLength_d00df).2.2.2 (z_ws qJ5_setLength_d00df) rmc rmc.cells rmc.slots 1 := z_cwP (q := qJ5_setLength_d00df) C kc_J5_setLength_d00df kw179 kw1380 kw126 kw180 kw5 (by decide +kernel) hR
theorem cs_J4_343 (C : z_C X cc RJ4 nL rm) (hR : rmc.frames + 1 ≤ rm.frames ∧ 8 + (1 + 11) + rmc.locals ≤ rm.locals) : va_CS (z_R X) (z_s X) (z_a X) RJ4 343 (qJ5_length_8abf5).1 (qJ5_length_8abf5).2.1 (qJ5_length_8abf5).2.2.1 (qJ5_length_8abf5).2.2.2 (z_ws qJ5_length_8abf5) rmc rmc.cells rmc.slots 0 := z_cwP (q := qJ5_length_8abf5) C kc_J5_length_8abf5 kw359 kw355 kw126 kw354 kw5 (by decide +kernel) hR
theorem cs_J5_83 (C : z_C X cc RJ5 nL rm) (hR : rmc.frames + 1 ≤ rm.frames ∧ 8 + (1 + 11) + rmc.locals ≤ rm.locals) : va_CU (z_R X) (z_s X) (z_a X) RJ5 RJ4 (qJ5_isLatin1_aae02).1.cls 83 (qJ5_isLatin1_aae02).1 (qJ5_isLatin1_aae02).1 (qJ5_isLatin1_aae02).2.1 (qJ5_isLatin1_aae02).2.2.1 (qJ5_isLatin1_aae02).2.2.2 (z_ws qJ5_isLatin1_aae02) rmc rmc.cells rmc.slots 0 := z_cwU (q := qJ5_isLatin1_aae02) (x := (qJ5_isLatin1_aae02).1) C kc_J5_isLatin1_aae02 kw236 (z_tow C kw239) kw238 kw237 kc_J5_isLatin1_aae02 kw237 kw5 (by decide +kernel) hR
theorem cs_J5_100 (C : z_C X cc RJ5 nL rm) (hR : rmc.frames + 1 ≤ rm.frames ∧ 8 + (3 + 11) + rmc.locals ≤ rm.locals) : va_CU (z_R X) (z_s X) (z_a X) RJ5 RJ4 (qJ5_ensureCapacityInternal_d00df).1.cls 100 (qJ5_ensureCapacityInternal_d00df).1 (qJ5_ensureCapacityInternal_d00df).1 (qJ5_ensureCapacityInternal_d00df).2.1 (qJ5_ensureCapacityInternal_d00df).2.2.1 (qJ5_ensureCapacityInternal_d00df).2.2.2 (z_ws qJ5_ensureCapacityInternal_d00df) rmc rmc.cells rmc.slots 1 := z_cwU (q := qJ5_ensureCapacityInternal_d00df) (x := (qJ5_ensureCapacityInternal_d00df).1) C kc_J5_ensureCapacityInternal_d00df kw201 (z_selP C (y := yJ5_ensureCapacityInternal_d00df) (by simp [z_pSB])) kw1383 kw203 kc_J5_ensureCapacityInternal_d00df kw203 kw5 (by decide +kernel) hR
theorem cs_J5_104 (C : z_C X cc RJ5 nL rm) (hR : rmc.frames + 1 ≤ rm.frames ∧ 8 + (6 + 11) + rmc.locals ≤ rm.locals) : va_CU (z_R X) (z_s X) (z_a X) RJ5 RJ4 (qJ5_newCapacity_0f7a4).1.cls 104 (qJ5_newCapacity_0f7a4).1 (qJ5_newCapacity_0f7a4).1 (qJ5_newCapacity_0f7a4).2.1 (qJ5_newCapacity_0f7a4).2.2.1 (qJ5_newCapacity_0f7a4).2.2.2 (z_ws qJ5_newCapacity_0f7a4) rmc rmc.cells rmc.slots 1 := z_cwU (q := qJ5_newCapacity_0f7a4) (x := (qJ5_newCapacity_0f7a4).1) C kc_J5_newCapacity_0f7a4 kw205 (z_selP C (y := yJ5_newCapacity_0f7a4) (by simp [z_pSB])) kw1384 kw207 kc_J5_newCapacity_0f7a4 kw207 kw5 (by decide +kernel) hR
theorem cs_J5_208 (C : z_C X cc RJ5 nL rm) (hR : rmc.frames + 1 ≤ rm.frames ∧ 8 + (3 + 11) + rmc.locals ≤ rm.locals) : va_CU (z_R X) (z_s X) (z_a X) RJ5 RJ4 (qJ5_putStringAt_47b60).1.cls 208 (qJ5_putStringAt_47b60).1 (qJ5_putStringAt_47b60).1 (qJ5_putStringAt_47b60).2.1 (qJ5_putStringAt_47b60).2.2.1 (qJ5_putStringAt_47b60).2.2.2 (z_ws qJ5_putStringAt_47b60) rmc rmc.cells rmc.slots 2 := z_cwU (q := qJ5_putStringAt_47b60) (x := (qJ5_putStringAt_47b60).1) C kc_J5_putStringAt_47b60 kw276 (z_selP C (y := yJ5_putStringAt_47b60) (by simp [z_pSB])) kw1385 kw278 kc_J5_putStringAt_47b60 kw278 kw5 (by decide +kernel) hR
theorem cs_J5_397 (C : z_C X cc RJ5 nL rm) (hR : rmc.frames + 1 ≤ rm.frames ∧ 8 + (2 + 11) + rmc.locals ≤ rm.locals) : va_CU (z_R X) (z_s X) (z_a X) RJ5 RJ4 (qJ5_inflateIfNeededFor_a7421).1.cls 397 (qJ5_inflateIfNeededFor_a7421).1 (qJ5_inflateIfNeededFor_a7421).1 (qJ5_inflateIfNeededFor_a7421).2.1 (qJ5_inflateIfNeededFor_a7421).2.2.1 (qJ5_inflateIfNeededFor_a7421).2.2.2 (z_ws qJ5_inflateIfNeededFor_a7421) rmc rmc.cells rmc.slots 1 := z_cwU (q := qJ5_inflateIfNeededFor_a7421) (x := (qJ5_inflateIfNeededFor_a7421).1) C kc_J5_inflateIfNeededFor_a7421 kw280 (z_selP C (y := yJ5_inflateIfNeededFor_a7421) (by simp [z_pSB])) kw1386 kw282 kc_J5_inflateIfNeededFor_a7421 kw282 kw5 (by decide +kernel) hR
end JC
theorem j_fit {c n : Nat} (h : c ≤ n) (hn : n ≤ 65536) : nI c - nI n ≤ 0 := by
  have h1 := nI_toInt (n := c) (by omega)
  have h2 := nI_toInt (n := n) (by omega)
  rw [z_le, z_t0, fb_subI (by omega) (by omega)]
  omega
theorem j_grow {c n : Nat} (h : n < c) (hc : c ≤ 65536) : ¬ nI c - nI n ≤ 0 := by
  have h1 := nI_toInt (n := c) (by omega)
  have h2 := nI_toInt (n := n) (by omega)
  rw [z_le, z_t0, fb_subI (by omega) (by omega)]
  omega
theorem j_max {c n : Nat} (h : n < c) (hc : c ≤ 2 * n + 2) (hn : n ≤ 30000) : nI c - nI n ≤ nI n + 2 := by
  have h1 := nI_toInt (n := c) (by omega)
  have h2 := nI_toInt (n := n) (by omega)
  have h3 : (2 : Int32).toInt = 2 := by decide
  rw [z_le, fb_subI (by omega) (by omega), fb_addI (by omega) (by omega)]
  omega
theorem j_two {n : Nat} (hn : n ≤ 30000) : nI n + (nI n + 2) = nI (2 * n + 2) := by
  have h2 := nI_toInt (n := n) (by omega)
  have h3 : (2 : Int32).toInt = 2 := by decide
  have h4 := nI_toInt (n := 2 * n + 2) (by omega)
  have h5 : (nI n + 2).toInt = n + 2 := by rw [fb_addI (by omega) (by omega), h2, h3]
  rw [z_eqI, fb_addI (by omega) (by omega)]
  omega
theorem j_nl0 {n : Nat} (hn : n ≤ 30000) : 0 < nI n + (nI n + 2) := by
  rw [j_two hn, z_ltI, nI_toInt (by omega), z_t0]
  omega
theorem j_nl1 {n : Nat} (hn : n ≤ 30000) : nI n + (nI n + 2) ≤ 2147483639 := by
  have h9 : (2147483639 : Int32).toInt = 2147483639 := by decide
  rw [j_two hn, z_le, nI_toInt (by omega), h9]
  omega
theorem j_ne {a b : Nat} (h : a ≠ b) (ha : a < 2 ^ 31) (hb : b < 2 ^ 31) : ¬ nI a = nI b := by
  intro q
  have h1 := nI_toInt ha
  have h2 := nI_toInt hb
  rw [q] at h1
  omega
theorem j_nc (x : Int32) : narrow .char (.int (x.toUInt32 % 65536).toInt32) = .int (x.toUInt32 % 65536).toInt32 := by
  show Value.int _ = Value.int _
  congr 1
  apply Int32.toBitVec_inj.mp
  apply BitVec.eq_of_toNat_eq
  simp [BitVec.toNat_setWidth, BitVec.toNat_umod]
theorem j_fitN (x : Int32) : fits .byte (.int (vp_nar .byte x)) = true := pk_fb _
theorem j_fitU {f : Nat → Int32} (h : sb_Fit f) (k : Nat) (x : Int32) : sb_Fit (upd f k (vp_nar .byte x)) := sb_fitU h (j_fitN x)
theorem j_fitG {f : Nat → Int32} (h : sb_Fit f) (n : Nat) : sb_Fit (va_cpy f (fun _ => 0) 0 0 n) := sb_fitC h sb_fit0
theorem dJ5_isLatin1_aae02_0 : decode cJ5_isLatin1_aae02 0 = .ok (.getstatic 18, 3) := by decide +kernel
theorem dJ5_isLatin1_aae02_3 : decode cJ5_isLatin1_aae02 3 = .ok (.ifCond .eq 14, 3) := by decide +kernel
theorem dJ5_isLatin1_aae02_6 : decode cJ5_isLatin1_aae02 6 = .ok (.aload_n 0, 1) := by decide +kernel
theorem dJ5_isLatin1_aae02_7 : decode cJ5_isLatin1_aae02 7 = .ok (.getfield 22, 3) := by decide +kernel
theorem dJ5_isLatin1_aae02_10 : decode cJ5_isLatin1_aae02 10 = .ok (.ifCond .ne 7, 3) := by decide +kernel
theorem dJ5_isLatin1_aae02_13 : decode cJ5_isLatin1_aae02 13 = .ok (.iconst 1, 1) := by decide +kernel
theorem dJ5_isLatin1_aae02_14 : decode cJ5_isLatin1_aae02 14 = .ok (.goto 4, 3) := by decide +kernel
theorem dJ5_isLatin1_aae02_18 : decode cJ5_isLatin1_aae02 18 = .ok (.ireturn, 1) := by decide +kernel
theorem dJ5_getValue_6d5f1_0 : decode cJ5_getValue_6d5f1 0 = .ok (.aload_n 0, 1) := by decide +kernel
theorem dJ5_getValue_6d5f1_1 : decode cJ5_getValue_6d5f1 1 = .ok (.getfield 15, 3) := by decide +kernel
theorem dJ5_getValue_6d5f1_4 : decode cJ5_getValue_6d5f1 4 = .ok (.areturn, 1) := by decide +kernel
theorem dJ5_length_8abf5_0 : decode cJ5_length_8abf5 0 = .ok (.aload_n 0, 1) := by decide +kernel
theorem dJ5_length_8abf5_1 : decode cJ5_length_8abf5 1 = .ok (.getfield 79, 3) := by decide +kernel
theorem dJ5_length_8abf5_4 : decode cJ5_length_8abf5 4 = .ok (.ireturn, 1) := by decide +kernel
theorem dJ4_length_8abf5_0 : decode cJ4_length_8abf5 0 = .ok (.aload_n 0, 1) := by decide +kernel
theorem dJ4_length_8abf5_1 : decode cJ4_length_8abf5 1 = .ok (.invokespecial 343, 3) := by decide +kernel
theorem dJ4_length_8abf5_4 : decode cJ4_length_8abf5 4 = .ok (.ireturn, 1) := by decide +kernel
theorem dJ1_canEncode_fc78d_0 : decode cJ1_canEncode_fc78d 0 = .ok (.iload_n 0, 1) := by decide +kernel
theorem dJ1_canEncode_fc78d_1 : decode cJ1_canEncode_fc78d 1 = .ok (.sipush 255, 3) := by decide +kernel
theorem dJ1_canEncode_fc78d_4 : decode cJ1_canEncode_fc78d 4 = .ok (.if_icmp .gt 7, 3) := by decide +kernel
theorem dJ1_canEncode_fc78d_7 : decode cJ1_canEncode_fc78d 7 = .ok (.iconst 1, 1) := by decide +kernel
theorem dJ1_canEncode_fc78d_8 : decode cJ1_canEncode_fc78d 8 = .ok (.goto 4, 3) := by decide +kernel
theorem dJ1_canEncode_fc78d_12 : decode cJ1_canEncode_fc78d 12 = .ok (.ireturn, 1) := by decide +kernel
theorem dJ9_max_7cf53_0 : decode cJ9_max_7cf53 0 = .ok (.iload_n 0, 1) := by decide +kernel
theorem dJ9_max_7cf53_1 : decode cJ9_max_7cf53 1 = .ok (.iload_n 1, 1) := by decide +kernel
theorem dJ9_max_7cf53_2 : decode cJ9_max_7cf53 2 = .ok (.if_icmp .lt 7, 3) := by decide +kernel
theorem dJ9_max_7cf53_5 : decode cJ9_max_7cf53 5 = .ok (.iload_n 0, 1) := by decide +kernel
theorem dJ9_max_7cf53_6 : decode cJ9_max_7cf53 6 = .ok (.goto 4, 3) := by decide +kernel
theorem dJ9_max_7cf53_9 : decode cJ9_max_7cf53 9 = .ok (.iload_n 1, 1) := by decide +kernel
theorem dJ9_max_7cf53_10 : decode cJ9_max_7cf53 10 = .ok (.ireturn, 1) := by decide +kernel
theorem dJ8_newLength_cabcc_0 : decode cJ8_newLength_cabcc 0 = .ok (.iload_n 0, 1) := by decide +kernel
theorem dJ8_newLength_cabcc_1 : decode cJ8_newLength_cabcc 1 = .ok (.iload_n 1, 1) := by decide +kernel
theorem dJ8_newLength_cabcc_2 : decode cJ8_newLength_cabcc 2 = .ok (.iload_n 2, 1) := by decide +kernel
theorem dJ8_newLength_cabcc_3 : decode cJ8_newLength_cabcc 3 = .ok (.invokestatic 194, 3) := by decide +kernel
theorem dJ8_newLength_cabcc_6 : decode cJ8_newLength_cabcc 6 = .ok (.iadd, 1) := by decide +kernel
theorem dJ8_newLength_cabcc_7 : decode cJ8_newLength_cabcc 7 = .ok (.istore_n 3, 1) := by decide +kernel
theorem dJ8_newLength_cabcc_8 : decode cJ8_newLength_cabcc 8 = .ok (.iconst 0, 1) := by decide +kernel
theorem dJ8_newLength_cabcc_9 : decode cJ8_newLength_cabcc 9 = .ok (.iload_n 3, 1) := by decide +kernel
theorem dJ8_newLength_cabcc_10 : decode cJ8_newLength_cabcc 10 = .ok (.if_icmp .ge 11, 3) := by decide +kernel
theorem dJ8_newLength_cabcc_13 : decode cJ8_newLength_cabcc 13 = .ok (.iload_n 3, 1) := by decide +kernel
theorem dJ8_newLength_cabcc_14 : decode cJ8_newLength_cabcc 14 = .ok (.ldc 200, 2) := by decide +kernel
theorem dJ8_newLength_cabcc_16 : decode cJ8_newLength_cabcc 16 = .ok (.if_icmp .gt 5, 3) := by decide +kernel
theorem dJ8_newLength_cabcc_19 : decode cJ8_newLength_cabcc 19 = .ok (.iload_n 3, 1) := by decide +kernel
theorem dJ8_newLength_cabcc_20 : decode cJ8_newLength_cabcc 20 = .ok (.ireturn, 1) := by decide +kernel
theorem dJ5_newCapacity_0f7a4_0 : decode cJ5_newCapacity_0f7a4 0 = .ok (.aload_n 0, 1) := by decide +kernel
theorem dJ5_newCapacity_0f7a4_1 : decode cJ5_newCapacity_0f7a4 1 = .ok (.getfield 15, 3) := by decide +kernel
theorem dJ5_newCapacity_0f7a4_4 : decode cJ5_newCapacity_0f7a4 4 = .ok (.arraylength, 1) := by decide +kernel
theorem dJ5_newCapacity_0f7a4_5 : decode cJ5_newCapacity_0f7a4 5 = .ok (.istore_n 2, 1) := by decide +kernel
theorem dJ5_newCapacity_0f7a4_6 : decode cJ5_newCapacity_0f7a4 6 = .ok (.iload_n 1, 1) := by decide +kernel
theorem dJ5_newCapacity_0f7a4_7 : decode cJ5_newCapacity_0f7a4 7 = .ok (.aload_n 0, 1) := by decide +kernel
theorem dJ5_newCapacity_0f7a4_8 : decode cJ5_newCapacity_0f7a4 8 = .ok (.getfield 22, 3) := by decide +kernel
theorem dJ5_newCapacity_0f7a4_11 : decode cJ5_newCapacity_0f7a4 11 = .ok (.ishl, 1) := by decide +kernel
theorem dJ5_newCapacity_0f7a4_12 : decode cJ5_newCapacity_0f7a4 12 = .ok (.istore_n 3, 1) := by decide +kernel
theorem dJ5_newCapacity_0f7a4_13 : decode cJ5_newCapacity_0f7a4 13 = .ok (.iload_n 3, 1) := by decide +kernel
theorem dJ5_newCapacity_0f7a4_14 : decode cJ5_newCapacity_0f7a4 14 = .ok (.iload_n 2, 1) := by decide +kernel
theorem dJ5_newCapacity_0f7a4_15 : decode cJ5_newCapacity_0f7a4 15 = .ok (.isub, 1) := by decide +kernel
theorem dJ5_newCapacity_0f7a4_16 : decode cJ5_newCapacity_0f7a4 16 = .ok (.istore 4, 2) := by decide +kernel
theorem dJ5_newCapacity_0f7a4_18 : decode cJ5_newCapacity_0f7a4 18 = .ok (.iload_n 2, 1) := by decide +kernel
theorem dJ5_newCapacity_0f7a4_19 : decode cJ5_newCapacity_0f7a4 19 = .ok (.iload 4, 2) := by decide +kernel
theorem dJ5_newCapacity_0f7a4_21 : decode cJ5_newCapacity_0f7a4 21 = .ok (.iload_n 2, 1) := by decide +kernel
theorem dJ5_newCapacity_0f7a4_22 : decode cJ5_newCapacity_0f7a4 22 = .ok (.iconst 2, 1) := by decide +kernel
theorem dJ5_newCapacity_0f7a4_23 : decode cJ5_newCapacity_0f7a4 23 = .ok (.aload_n 0, 1) := by decide +kernel
theorem dJ5_newCapacity_0f7a4_24 : decode cJ5_newCapacity_0f7a4 24 = .ok (.getfield 22, 3) := by decide +kernel
theorem dJ5_newCapacity_0f7a4_27 : decode cJ5_newCapacity_0f7a4 27 = .ok (.ishl, 1) := by decide +kernel
theorem dJ5_newCapacity_0f7a4_28 : decode cJ5_newCapacity_0f7a4 28 = .ok (.iadd, 1) := by decide +kernel
theorem dJ5_newCapacity_0f7a4_29 : decode cJ5_newCapacity_0f7a4 29 = .ok (.invokestatic 114, 3) := by decide +kernel
theorem dJ5_newCapacity_0f7a4_32 : decode cJ5_newCapacity_0f7a4 32 = .ok (.istore 5, 2) := by decide +kernel
theorem dJ5_newCapacity_0f7a4_34 : decode cJ5_newCapacity_0f7a4 34 = .ok (.iload 5, 2) := by decide +kernel
theorem dJ5_newCapacity_0f7a4_36 : decode cJ5_newCapacity_0f7a4 36 = .ok (.ldc 39, 2) := by decide +kernel
theorem dJ5_newCapacity_0f7a4_38 : decode cJ5_newCapacity_0f7a4 38 = .ok (.if_icmp .ne 13, 3) := by decide +kernel
theorem dJ5_newCapacity_0f7a4_51 : decode cJ5_newCapacity_0f7a4 51 = .ok (.iload 5, 2) := by decide +kernel
theorem dJ5_newCapacity_0f7a4_53 : decode cJ5_newCapacity_0f7a4 53 = .ok (.aload_n 0, 1) := by decide +kernel
theorem dJ5_newCapacity_0f7a4_54 : decode cJ5_newCapacity_0f7a4 54 = .ok (.getfield 22, 3) := by decide +kernel
theorem dJ5_newCapacity_0f7a4_57 : decode cJ5_newCapacity_0f7a4 57 = .ok (.ishr, 1) := by decide +kernel
theorem dJ5_newCapacity_0f7a4_58 : decode cJ5_newCapacity_0f7a4 58 = .ok (.ireturn, 1) := by decide +kernel
theorem dJ7_copyOf_9075b_0 : decode cJ7_copyOf_9075b 0 = .ok (.iload_n 1, 1) := by decide +kernel
theorem dJ7_copyOf_9075b_1 : decode cJ7_copyOf_9075b 1 = .ok (.aload_n 0, 1) := by decide +kernel
theorem dJ7_copyOf_9075b_2 : decode cJ7_copyOf_9075b 2 = .ok (.arraylength, 1) := by decide +kernel
theorem dJ7_copyOf_9075b_3 : decode cJ7_copyOf_9075b 3 = .ok (.if_icmp .ne 11, 3) := by decide +kernel
theorem dJ7_copyOf_9075b_14 : decode cJ7_copyOf_9075b 14 = .ok (.iload_n 1, 1) := by decide +kernel
theorem dJ7_copyOf_9075b_15 : decode cJ7_copyOf_9075b 15 = .ok (.newarray .byte, 2) := by decide +kernel
theorem dJ7_copyOf_9075b_17 : decode cJ7_copyOf_9075b 17 = .ok (.astore_n 2, 1) := by decide +kernel
theorem dJ7_copyOf_9075b_18 : decode cJ7_copyOf_9075b 18 = .ok (.aload_n 0, 1) := by decide +kernel
theorem dJ7_copyOf_9075b_19 : decode cJ7_copyOf_9075b 19 = .ok (.iconst 0, 1) := by decide +kernel
theorem dJ7_copyOf_9075b_20 : decode cJ7_copyOf_9075b 20 = .ok (.aload_n 2, 1) := by decide +kernel
theorem dJ7_copyOf_9075b_21 : decode cJ7_copyOf_9075b 21 = .ok (.iconst 0, 1) := by decide +kernel
theorem dJ7_copyOf_9075b_22 : decode cJ7_copyOf_9075b 22 = .ok (.aload_n 0, 1) := by decide +kernel
theorem dJ7_copyOf_9075b_23 : decode cJ7_copyOf_9075b 23 = .ok (.arraylength, 1) := by decide +kernel
theorem dJ7_copyOf_9075b_24 : decode cJ7_copyOf_9075b 24 = .ok (.iload_n 1, 1) := by decide +kernel
theorem dJ7_copyOf_9075b_25 : decode cJ7_copyOf_9075b 25 = .ok (.invokestatic 304, 3) := by decide +kernel
theorem dJ7_copyOf_9075b_28 : decode cJ7_copyOf_9075b 28 = .ok (.invokestatic 150, 3) := by decide +kernel
theorem dJ7_copyOf_9075b_31 : decode cJ7_copyOf_9075b 31 = .ok (.aload_n 2, 1) := by decide +kernel
theorem dJ7_copyOf_9075b_32 : decode cJ7_copyOf_9075b 32 = .ok (.areturn, 1) := by decide +kernel
theorem dJ5_ensureCapacityInternal_d00df_0 : decode cJ5_ensureCapacityInternal_d00df 0 = .ok (.aload_n 0, 1) := by decide +kernel
theorem dJ5_ensureCapacityInternal_d00df_1 : decode cJ5_ensureCapacityInternal_d00df 1 = .ok (.getfield 15, 3) := by decide +kernel
theorem dJ5_ensureCapacityInternal_d00df_4 : decode cJ5_ensureCapacityInternal_d00df 4 = .ok (.arraylength, 1) := by decide +kernel
theorem dJ5_ensureCapacityInternal_d00df_5 : decode cJ5_ensureCapacityInternal_d00df 5 = .ok (.aload_n 0, 1) := by decide +kernel
theorem dJ5_ensureCapacityInternal_d00df_6 : decode cJ5_ensureCapacityInternal_d00df 6 = .ok (.getfield 22, 3) := by decide +kernel
theorem dJ5_ensureCapacityInternal_d00df_9 : decode cJ5_ensureCapacityInternal_d00df 9 = .ok (.ishr, 1) := by decide +kernel
theorem dJ5_ensureCapacityInternal_d00df_10 : decode cJ5_ensureCapacityInternal_d00df 10 = .ok (.istore_n 2, 1) := by decide +kernel
theorem dJ5_ensureCapacityInternal_d00df_11 : decode cJ5_ensureCapacityInternal_d00df 11 = .ok (.iload_n 1, 1) := by decide +kernel
theorem dJ5_ensureCapacityInternal_d00df_12 : decode cJ5_ensureCapacityInternal_d00df 12 = .ok (.iload_n 2, 1) := by decide +kernel
theorem dJ5_ensureCapacityInternal_d00df_13 : decode cJ5_ensureCapacityInternal_d00df 13 = .ok (.isub, 1) := by decide +kernel
theorem dJ5_ensureCapacityInternal_d00df_14 : decode cJ5_ensureCapacityInternal_d00df 14 = .ok (.ifCond .le 24, 3) := by decide +kernel
theorem dJ5_ensureCapacityInternal_d00df_17 : decode cJ5_ensureCapacityInternal_d00df 17 = .ok (.aload_n 0, 1) := by decide +kernel
theorem dJ5_ensureCapacityInternal_d00df_18 : decode cJ5_ensureCapacityInternal_d00df 18 = .ok (.aload_n 0, 1) := by decide +kernel
theorem dJ5_ensureCapacityInternal_d00df_19 : decode cJ5_ensureCapacityInternal_d00df 19 = .ok (.getfield 15, 3) := by decide +kernel
theorem dJ5_ensureCapacityInternal_d00df_22 : decode cJ5_ensureCapacityInternal_d00df 22 = .ok (.aload_n 0, 1) := by decide +kernel
theorem dJ5_ensureCapacityInternal_d00df_23 : decode cJ5_ensureCapacityInternal_d00df 23 = .ok (.iload_n 1, 1) := by decide +kernel
theorem dJ5_ensureCapacityInternal_d00df_24 : decode cJ5_ensureCapacityInternal_d00df 24 = .ok (.invokevirtual 104, 3) := by decide +kernel
theorem dJ5_ensureCapacityInternal_d00df_27 : decode cJ5_ensureCapacityInternal_d00df 27 = .ok (.aload_n 0, 1) := by decide +kernel
theorem dJ5_ensureCapacityInternal_d00df_28 : decode cJ5_ensureCapacityInternal_d00df 28 = .ok (.getfield 22, 3) := by decide +kernel
theorem dJ5_ensureCapacityInternal_d00df_31 : decode cJ5_ensureCapacityInternal_d00df 31 = .ok (.ishl, 1) := by decide +kernel
theorem dJ5_ensureCapacityInternal_d00df_32 : decode cJ5_ensureCapacityInternal_d00df 32 = .ok (.invokestatic 108, 3) := by decide +kernel
theorem dJ5_ensureCapacityInternal_d00df_35 : decode cJ5_ensureCapacityInternal_d00df 35 = .ok (.putfield 15, 3) := by decide +kernel
theorem dJ5_ensureCapacityInternal_d00df_38 : decode cJ5_ensureCapacityInternal_d00df 38 = .ok (.return_, 1) := by decide +kernel
theorem dJ5_append_3fe6f_0 : decode cJ5_append_3fe6f 0 = .ok (.aload_n 0, 1) := by decide +kernel
theorem dJ5_append_3fe6f_1 : decode cJ5_append_3fe6f 1 = .ok (.aload_n 0, 1) := by decide +kernel
theorem dJ5_append_3fe6f_2 : decode cJ5_append_3fe6f 2 = .ok (.getfield 79, 3) := by decide +kernel
theorem dJ5_append_3fe6f_5 : decode cJ5_append_3fe6f 5 = .ok (.iconst 1, 1) := by decide +kernel
theorem dJ5_append_3fe6f_6 : decode cJ5_append_3fe6f 6 = .ok (.iadd, 1) := by decide +kernel
theorem dJ5_append_3fe6f_7 : decode cJ5_append_3fe6f 7 = .ok (.invokevirtual 100, 3) := by decide +kernel
theorem dJ5_append_3fe6f_10 : decode cJ5_append_3fe6f 10 = .ok (.aload_n 0, 1) := by decide +kernel
theorem dJ5_append_3fe6f_11 : decode cJ5_append_3fe6f 11 = .ok (.invokevirtual 83, 3) := by decide +kernel
theorem dJ5_append_3fe6f_14 : decode cJ5_append_3fe6f 14 = .ok (.ifCond .eq 31, 3) := by decide +kernel
theorem dJ5_append_3fe6f_17 : decode cJ5_append_3fe6f 17 = .ok (.iload_n 1, 1) := by decide +kernel
theorem dJ5_append_3fe6f_18 : decode cJ5_append_3fe6f 18 = .ok (.invokestatic 191, 3) := by decide +kernel
theorem dJ5_append_3fe6f_21 : decode cJ5_append_3fe6f 21 = .ok (.ifCond .eq 24, 3) := by decide +kernel
theorem dJ5_append_3fe6f_24 : decode cJ5_append_3fe6f 24 = .ok (.aload_n 0, 1) := by decide +kernel
theorem dJ5_append_3fe6f_25 : decode cJ5_append_3fe6f 25 = .ok (.getfield 15, 3) := by decide +kernel
theorem dJ5_append_3fe6f_28 : decode cJ5_append_3fe6f 28 = .ok (.aload_n 0, 1) := by decide +kernel
theorem dJ5_append_3fe6f_29 : decode cJ5_append_3fe6f 29 = .ok (.dup, 1) := by decide +kernel
theorem dJ5_append_3fe6f_30 : decode cJ5_append_3fe6f 30 = .ok (.getfield 79, 3) := by decide +kernel
theorem dJ5_append_3fe6f_33 : decode cJ5_append_3fe6f 33 = .ok (.dup_x1, 1) := by decide +kernel
theorem dJ5_append_3fe6f_34 : decode cJ5_append_3fe6f 34 = .ok (.iconst 1, 1) := by decide +kernel
theorem dJ5_append_3fe6f_35 : decode cJ5_append_3fe6f 35 = .ok (.iadd, 1) := by decide +kernel
theorem dJ5_append_3fe6f_36 : decode cJ5_append_3fe6f 36 = .ok (.putfield 79, 3) := by decide +kernel
theorem dJ5_append_3fe6f_39 : decode cJ5_append_3fe6f 39 = .ok (.iload_n 1, 1) := by decide +kernel
theorem dJ5_append_3fe6f_40 : decode cJ5_append_3fe6f 40 = .ok (.i2b, 1) := by decide +kernel
theorem dJ5_append_3fe6f_41 : decode cJ5_append_3fe6f 41 = .ok (.bastore, 1) := by decide +kernel
theorem dJ5_append_3fe6f_42 : decode cJ5_append_3fe6f 42 = .ok (.goto 33, 3) := by decide +kernel
theorem dJ5_append_3fe6f_75 : decode cJ5_append_3fe6f 75 = .ok (.aload_n 0, 1) := by decide +kernel
theorem dJ5_append_3fe6f_76 : decode cJ5_append_3fe6f 76 = .ok (.areturn, 1) := by decide +kernel
theorem dJ4_append_cf468_0 : decode cJ4_append_cf468 0 = .ok (.aload_n 0, 1) := by decide +kernel
theorem dJ4_append_cf468_1 : decode cJ4_append_cf468 1 = .ok (.iload_n 1, 1) := by decide +kernel
theorem dJ4_append_cf468_2 : decode cJ4_append_cf468 2 = .ok (.invokespecial 50, 3) := by decide +kernel
theorem dJ4_append_cf468_5 : decode cJ4_append_cf468 5 = .ok (.pop, 1) := by decide +kernel
theorem dJ4_append_cf468_6 : decode cJ4_append_cf468 6 = .ok (.aload_n 0, 1) := by decide +kernel
theorem dJ4_append_cf468_7 : decode cJ4_append_cf468 7 = .ok (.areturn, 1) := by decide +kernel
theorem dJ5_setLength_d00df_0 : decode cJ5_setLength_d00df 0 = .ok (.iload_n 1, 1) := by decide +kernel
theorem dJ5_setLength_d00df_1 : decode cJ5_setLength_d00df 1 = .ok (.ifCond .ge 12, 3) := by decide +kernel
theorem dJ5_setLength_d00df_13 : decode cJ5_setLength_d00df 13 = .ok (.aload_n 0, 1) := by decide +kernel
theorem dJ5_setLength_d00df_14 : decode cJ5_setLength_d00df 14 = .ok (.iload_n 1, 1) := by decide +kernel
theorem dJ5_setLength_d00df_15 : decode cJ5_setLength_d00df 15 = .ok (.invokevirtual 100, 3) := by decide +kernel
theorem dJ5_setLength_d00df_18 : decode cJ5_setLength_d00df 18 = .ok (.aload_n 0, 1) := by decide +kernel
theorem dJ5_setLength_d00df_19 : decode cJ5_setLength_d00df 19 = .ok (.getfield 79, 3) := by decide +kernel
theorem dJ5_setLength_d00df_22 : decode cJ5_setLength_d00df 22 = .ok (.iload_n 1, 1) := by decide +kernel
theorem dJ5_setLength_d00df_23 : decode cJ5_setLength_d00df 23 = .ok (.if_icmp .ge 40, 3) := by decide +kernel
theorem dJ5_setLength_d00df_63 : decode cJ5_setLength_d00df 63 = .ok (.aload_n 0, 1) := by decide +kernel
theorem dJ5_setLength_d00df_64 : decode cJ5_setLength_d00df 64 = .ok (.getfield 79, 3) := by decide +kernel
theorem dJ5_setLength_d00df_67 : decode cJ5_setLength_d00df 67 = .ok (.iload_n 1, 1) := by decide +kernel
theorem dJ5_setLength_d00df_68 : decode cJ5_setLength_d00df 68 = .ok (.if_icmp .le 8, 3) := by decide +kernel
theorem dJ5_setLength_d00df_71 : decode cJ5_setLength_d00df 71 = .ok (.aload_n 0, 1) := by decide +kernel
theorem dJ5_setLength_d00df_72 : decode cJ5_setLength_d00df 72 = .ok (.iconst 1, 1) := by decide +kernel
theorem dJ5_setLength_d00df_73 : decode cJ5_setLength_d00df 73 = .ok (.putfield 73, 3) := by decide +kernel
theorem dJ5_setLength_d00df_76 : decode cJ5_setLength_d00df 76 = .ok (.aload_n 0, 1) := by decide +kernel
theorem dJ5_setLength_d00df_77 : decode cJ5_setLength_d00df 77 = .ok (.iload_n 1, 1) := by decide +kernel
theorem dJ5_setLength_d00df_78 : decode cJ5_setLength_d00df 78 = .ok (.putfield 79, 3) := by decide +kernel
theorem dJ5_setLength_d00df_81 : decode cJ5_setLength_d00df 81 = .ok (.return_, 1) := by decide +kernel
theorem dJ4_setLength_d00df_0 : decode cJ4_setLength_d00df 0 = .ok (.aload_n 0, 1) := by decide +kernel
theorem dJ4_setLength_d00df_1 : decode cJ4_setLength_d00df 1 = .ok (.iload_n 1, 1) := by decide +kernel
theorem dJ4_setLength_d00df_2 : decode cJ4_setLength_d00df 2 = .ok (.invokespecial 333, 3) := by decide +kernel
theorem dJ4_setLength_d00df_5 : decode cJ4_setLength_d00df 5 = .ok (.return_, 1) := by decide +kernel
theorem dJ3_checkIndex_8e157_0 : decode cJ3_checkIndex_8e157 0 = .ok (.iload_n 0, 1) := by decide +kernel
theorem dJ3_checkIndex_8e157_1 : decode cJ3_checkIndex_8e157 1 = .ok (.ifCond .lt 8, 3) := by decide +kernel
theorem dJ3_checkIndex_8e157_4 : decode cJ3_checkIndex_8e157 4 = .ok (.iload_n 0, 1) := by decide +kernel
theorem dJ3_checkIndex_8e157_5 : decode cJ3_checkIndex_8e157 5 = .ok (.iload_n 1, 1) := by decide +kernel
theorem dJ3_checkIndex_8e157_6 : decode cJ3_checkIndex_8e157 6 = .ok (.if_icmp .lt 10, 3) := by decide +kernel
theorem dJ3_checkIndex_8e157_16 : decode cJ3_checkIndex_8e157 16 = .ok (.iload_n 0, 1) := by decide +kernel
theorem dJ3_checkIndex_8e157_17 : decode cJ3_checkIndex_8e157 17 = .ok (.ireturn, 1) := by decide +kernel
theorem dJ0_checkIndex_df160_0 : decode cJ0_checkIndex_df160 0 = .ok (.iload_n 0, 1) := by decide +kernel
theorem dJ0_checkIndex_df160_1 : decode cJ0_checkIndex_df160 1 = .ok (.iload_n 1, 1) := by decide +kernel
theorem dJ0_checkIndex_df160_2 : decode cJ0_checkIndex_df160 2 = .ok (.getstatic 1053, 3) := by decide +kernel
theorem dJ0_checkIndex_df160_5 : decode cJ0_checkIndex_df160 5 = .ok (.invokestatic 1059, 3) := by decide +kernel
theorem dJ0_checkIndex_df160_8 : decode cJ0_checkIndex_df160 8 = .ok (.pop, 1) := by decide +kernel
theorem dJ0_checkIndex_df160_9 : decode cJ0_checkIndex_df160 9 = .ok (.return_, 1) := by decide +kernel
theorem dJ5_charAt_5068e_0 : decode cJ5_charAt_5068e 0 = .ok (.aload_n 0, 1) := by decide +kernel
theorem dJ5_charAt_5068e_1 : decode cJ5_charAt_5068e 1 = .ok (.getfield 22, 3) := by decide +kernel
theorem dJ5_charAt_5068e_4 : decode cJ5_charAt_5068e 4 = .ok (.istore_n 2, 1) := by decide +kernel
theorem dJ5_charAt_5068e_5 : decode cJ5_charAt_5068e 5 = .ok (.aload_n 0, 1) := by decide +kernel
theorem dJ5_charAt_5068e_6 : decode cJ5_charAt_5068e 6 = .ok (.getfield 15, 3) := by decide +kernel
theorem dJ5_charAt_5068e_9 : decode cJ5_charAt_5068e 9 = .ok (.astore_n 3, 1) := by decide +kernel
theorem dJ5_charAt_5068e_10 : decode cJ5_charAt_5068e 10 = .ok (.aload_n 0, 1) := by decide +kernel
theorem dJ5_charAt_5068e_11 : decode cJ5_charAt_5068e 11 = .ok (.getfield 79, 3) := by decide +kernel
theorem dJ5_charAt_5068e_14 : decode cJ5_charAt_5068e 14 = .ok (.aload_n 3, 1) := by decide +kernel
theorem dJ5_charAt_5068e_15 : decode cJ5_charAt_5068e 15 = .ok (.arraylength, 1) := by decide +kernel
theorem dJ5_charAt_5068e_16 : decode cJ5_charAt_5068e 16 = .ok (.iload_n 2, 1) := by decide +kernel
theorem dJ5_charAt_5068e_17 : decode cJ5_charAt_5068e 17 = .ok (.ishr, 1) := by decide +kernel
theorem dJ5_charAt_5068e_18 : decode cJ5_charAt_5068e 18 = .ok (.invokestatic 138, 3) := by decide +kernel
theorem dJ5_charAt_5068e_21 : decode cJ5_charAt_5068e 21 = .ok (.istore 4, 2) := by decide +kernel
theorem dJ5_charAt_5068e_23 : decode cJ5_charAt_5068e 23 = .ok (.iload_n 1, 1) := by decide +kernel
theorem dJ5_charAt_5068e_24 : decode cJ5_charAt_5068e 24 = .ok (.iload 4, 2) := by decide +kernel
theorem dJ5_charAt_5068e_26 : decode cJ5_charAt_5068e 26 = .ok (.invokestatic 144, 3) := by decide +kernel
theorem dJ5_charAt_5068e_29 : decode cJ5_charAt_5068e 29 = .ok (.iload_n 2, 1) := by decide +kernel
theorem dJ5_charAt_5068e_30 : decode cJ5_charAt_5068e 30 = .ok (.ifCond .ne 12, 3) := by decide +kernel
theorem dJ5_charAt_5068e_33 : decode cJ5_charAt_5068e 33 = .ok (.aload_n 3, 1) := by decide +kernel
theorem dJ5_charAt_5068e_34 : decode cJ5_charAt_5068e 34 = .ok (.iload_n 1, 1) := by decide +kernel
theorem dJ5_charAt_5068e_35 : decode cJ5_charAt_5068e 35 = .ok (.baload, 1) := by decide +kernel
theorem dJ5_charAt_5068e_36 : decode cJ5_charAt_5068e 36 = .ok (.sipush 255, 3) := by decide +kernel
theorem dJ5_charAt_5068e_39 : decode cJ5_charAt_5068e 39 = .ok (.iand, 1) := by decide +kernel
theorem dJ5_charAt_5068e_40 : decode cJ5_charAt_5068e 40 = .ok (.i2c, 1) := by decide +kernel
theorem dJ5_charAt_5068e_41 : decode cJ5_charAt_5068e 41 = .ok (.ireturn, 1) := by decide +kernel
theorem dJ4_charAt_5068e_0 : decode cJ4_charAt_5068e 0 = .ok (.aload_n 0, 1) := by decide +kernel
theorem dJ4_charAt_5068e_1 : decode cJ4_charAt_5068e 1 = .ok (.iload_n 1, 1) := by decide +kernel
theorem dJ4_charAt_5068e_2 : decode cJ4_charAt_5068e 2 = .ok (.invokespecial 329, 3) := by decide +kernel
theorem dJ4_charAt_5068e_5 : decode cJ4_charAt_5068e 5 = .ok (.ireturn, 1) := by decide +kernel
set_option maxRecDepth 20000 in
theorem c_J5_isLatin1_aae02 (l : Launch) (G : zG) {M : zM} {sb : Nat} {vb : Nat} {ml : Int32} {ct : Int32}  (h_sb : M sb = some (cSb vb 0 ml ct))  : z_Mi l G qJ5_isLatin1_aae02 (z_rm 1 0 0) [.ref sb] M (fun r M' => r = 1 ∧ M' = M)  := by
  refine z_Mi_of _ (by decide +kernel) rfl (Nat.le_of_ble_eq_true rfl) (fun X hl hG hnm C ret => ?_)
  subst hl; subst hG
  have C : z_C X cJ5_isLatin1_aae02 RJ5 1 (z_rm 1 0 0) := C
  show z_W X M 0 0 0 [(0, .ref sb)] []
  refine z_gsZ C kw104 dJ5_isLatin1_aae02_0 ?_
  refine z_if_eq C (tgt := 17) dJ5_isLatin1_aae02_3 (by decide) (fun c3 => absurd c3 (by decide)) (fun _ => ?_)
  refine z_aload_n C dJ5_isLatin1_aae02_6 rfl 0 rfl ?_
  refine gf_J5_22 C h_sb dJ5_isLatin1_aae02_7 ?_
  refine z_if_ne C (tgt := 17) dJ5_isLatin1_aae02_10 (by decide) (fun c10 => absurd (by decide) c10) (fun _ => ?_)
  refine z_iconst C (v := 1) dJ5_isLatin1_aae02_13 (by decide) ?_
  refine z_goto C (tgt := 18) dJ5_isLatin1_aae02_14 (by decide) ?_
  exact ret dJ5_isLatin1_aae02_18 rfl (⟨rfl, rfl⟩) (by decide) (by decide)
set_option maxRecDepth 20000 in
theorem c_J5_getValue_6d5f1 (l : Launch) (G : zG) {M : zM} {sb : Nat} {vb : Nat} {co : Int32} {ml : Int32} {ct : Int32}  (h_sb : M sb = some (cSb vb co ml ct))  : z_Mr l G qJ5_getValue_6d5f1 (z_rm 1 0 0) [.ref sb] M (fun r M' => r = vb ∧ M' = M)  := by
  refine z_Mr_of _ (by decide +kernel) rfl (by first | exact Or.inl ⟨_, rfl⟩ | exact Or.inr ⟨_, rfl⟩) (Nat.le_of_ble_eq_true rfl) (fun X hl hG hnm C ret => ?_)
  subst hl; subst hG
  have C : z_C X cJ5_getValue_6d5f1 RJ5 1 (z_rm 1 0 0) := C
  show z_W X M 0 0 0 [(0, .ref sb)] []
  refine z_aload_n C dJ5_getValue_6d5f1_0 rfl 0 rfl ?_
  refine gf_J5_15 C h_sb dJ5_getValue_6d5f1_1 ?_
  exact ret dJ5_getValue_6d5f1_4 (⟨rfl, rfl⟩) (by decide) (by decide)
set_option maxRecDepth 20000 in
theorem c_J5_length_8abf5 (l : Launch) (G : zG) {M : zM} {sb : Nat} {vb : Nat} {co : Int32} {ml : Int32} {ct : Int32}  (h_sb : M sb = some (cSb vb co ml ct))  : z_Mi l G qJ5_length_8abf5 (z_rm 1 0 0) [.ref sb] M (fun r M' => r = ct ∧ M' = M)  := by
  refine z_Mi_of _ (by decide +kernel) rfl (Nat.le_of_ble_eq_true rfl) (fun X hl hG hnm C ret => ?_)
  subst hl; subst hG
  have C : z_C X cJ5_length_8abf5 RJ5 1 (z_rm 1 0 0) := C
  show z_W X M 0 0 0 [(0, .ref sb)] []
  refine z_aload_n C dJ5_length_8abf5_0 rfl 0 rfl ?_
  refine gf_J5_79 C h_sb dJ5_length_8abf5_1 ?_
  exact ret dJ5_length_8abf5_4 rfl (⟨rfl, rfl⟩) (by decide) (by decide)
set_option maxRecDepth 20000 in
theorem c_J4_length_8abf5 (l : Launch) (G : zG) {M : zM} {sb : Nat} {vb : Nat} {co : Int32} {ml : Int32} {ct : Int32}  (h_sb : M sb = some (cSb vb co ml ct))  : z_Mi l G qJ4_length_8abf5 (z_rm 2 0 0) [.ref sb] M (fun r M' => r = ct ∧ M' = M)  := by
  refine z_Mi_of _ (by decide +kernel) rfl (Nat.le_of_ble_eq_true rfl) (fun X hl hG hnm C ret => ?_)
  subst hl; subst hG
  have C : z_C X cJ4_length_8abf5 RJ4 1 (z_rm 2 0 0) := C
  show z_W X M 0 0 0 [(0, .ref sb)] []
  refine z_aload_n C dJ4_length_8abf5_0 rfl 0 rfl ?_
  refine z_callPi (rest := []) (k' := 0) (n' := 0) C (c_J5_length_8abf5 (z_l X) (z_G X) h_sb) (cs_J4_343 C (by decide)) h_sb trivial trivial rfl rfl (Nat.le_of_ble_eq_true rfl) rfl rfl (by decide) (by decide) dJ4_length_8abf5_1 (fun x1 M' hq => ?_)
  obtain ⟨hr1, rfl⟩ := hq
  rw [hr1]
  exact ret dJ4_length_8abf5_4 rfl (⟨rfl, rfl⟩) (by decide) (by decide)
set_option maxRecDepth 20000 in
theorem c_J1_canEncode_fc78d (l : Launch) (G : zG) {M : zM} {ch : Int32}   (hc : ch ≤ 255) : z_Mi l G qJ1_canEncode_fc78d (z_rm 1 0 0) [.int ch] M (fun r M' => r = 1 ∧ M' = M)  := by
  refine z_Mi_of _ (by decide +kernel) rfl (Nat.le_of_ble_eq_true rfl) (fun X hl hG hnm C ret => ?_)
  subst hl; subst hG
  have C : z_C X cJ1_canEncode_fc78d RJ1 1 (z_rm 1 0 0) := C
  show z_W X M 0 0 0 [(0, .int ch)] []
  refine z_iload_n C dJ1_canEncode_fc78d_0 rfl 0 rfl ?_
  refine z_sipush C (v := 255) dJ1_canEncode_fc78d_1 (by decide) ?_
  refine z_icmp_gt C (tgt := 11) dJ1_canEncode_fc78d_4 (by decide) (fun c4 => absurd c4 (Int32.not_lt.mpr hc)) (fun _ => ?_)
  refine z_iconst C (v := 1) dJ1_canEncode_fc78d_7 (by decide) ?_
  refine z_goto C (tgt := 12) dJ1_canEncode_fc78d_8 (by decide) ?_
  exact ret dJ1_canEncode_fc78d_12 rfl (⟨rfl, rfl⟩) (by decide) (by decide)
set_option maxRecDepth 20000 in
theorem c_J9_max_7cf53 (l : Launch) (G : zG) {M : zM} {a : Int32} {b : Int32}   (hm : a ≤ b) : z_Mi l G qJ9_max_7cf53 (z_rm 1 0 0) [.int a, .int b] M (fun r M' => r = b ∧ M' = M)  := by
  refine z_Mi_of _ (by decide +kernel) rfl (Nat.le_of_ble_eq_true rfl) (fun X hl hG hnm C ret => ?_)
  subst hl; subst hG
  have C : z_C X cJ9_max_7cf53 RJ9 2 (z_rm 1 0 0) := C
  show z_W X M 0 0 0 [(0, .int a), (1, .int b)] []
  refine z_iload_n C dJ9_max_7cf53_0 rfl 0 rfl ?_
  refine z_iload_n C dJ9_max_7cf53_1 rfl 1 rfl ?_
  refine z_icmp_lt C (tgt := 9) dJ9_max_7cf53_2 (by decide) (fun c2 => ?_) (fun c2 => ?_)
  · refine z_iload_n C dJ9_max_7cf53_9 rfl 1 rfl ?_
    refine ret dJ9_max_7cf53_10 rfl ?_ (by decide) (by decide)
    exact ⟨rfl, rfl⟩
  · refine z_iload_n C dJ9_max_7cf53_5 rfl 0 rfl ?_
    refine z_goto C (tgt := 10) dJ9_max_7cf53_6 (by decide) ?_
    refine ret dJ9_max_7cf53_10 rfl ?_ (by decide) (by decide)
    exact ⟨Int32.le_antisymm hm (Int32.not_lt.mp c2), rfl⟩
set_option maxRecDepth 20000 in
theorem c_min_l (l : Launch) (G : zG) {M : zM} {a : Int32} {b : Int32}   (hm : a ≤ b) : z_Mi l G qJ9_min_7cf53 (z_rm 1 0 0) [.int a, .int b] M (fun r M' => r = a ∧ M' = M)  := by
  refine z_Mi_of _ (by decide +kernel) rfl (Nat.le_of_ble_eq_true rfl) (fun X hl hG hnm C ret => ?_)
  subst hl; subst hG
  have C : z_C X cJ9_min_7cf53 RJ9 2 (z_rm 1 0 0) := C
  show z_W X M 0 0 0 [(0, .int a), (1, .int b)] []
  refine z_iload_n C dJ9_min_7cf53_0 rfl 0 rfl ?_
  refine z_iload_n C dJ9_min_7cf53_1 rfl 1 rfl ?_
  refine z_icmp_gt C (tgt := 9) dJ9_min_7cf53_2 (by decide) (fun c2 => absurd c2 (Int32.not_lt.mpr hm)) (fun _ => ?_)
  refine z_iload_n C dJ9_min_7cf53_5 rfl 0 rfl ?_
  refine z_goto C (tgt := 10) dJ9_min_7cf53_6 (by decide) ?_
  exact ret dJ9_min_7cf53_10 rfl (⟨rfl, rfl⟩) (by decide) (by decide)
set_option maxRecDepth 20000 in
theorem c_min_r (l : Launch) (G : zG) {M : zM} {a : Int32} {b : Int32}   (hm : b ≤ a) : z_Mi l G qJ9_min_7cf53 (z_rm 1 0 0) [.int a, .int b] M (fun r M' => r = b ∧ M' = M)  := by
  refine z_Mi_of _ (by decide +kernel) rfl (Nat.le_of_ble_eq_true rfl) (fun X hl hG hnm C ret => ?_)
  subst hl; subst hG
  have C : z_C X cJ9_min_7cf53 RJ9 2 (z_rm 1 0 0) := C
  show z_W X M 0 0 0 [(0, .int a), (1, .int b)] []
  refine z_iload_n C dJ9_min_7cf53_0 rfl 0 rfl ?_
  refine z_iload_n C dJ9_min_7cf53_1 rfl 1 rfl ?_
  refine z_icmp_gt C (tgt := 9) dJ9_min_7cf53_2 (by decide) (fun c2 => ?_) (fun c2 => ?_)
  · refine z_iload_n C dJ9_min_7cf53_9 rfl 1 rfl ?_
    refine ret dJ9_min_7cf53_10 rfl ?_ (by decide) (by decide)
    exact ⟨rfl, rfl⟩
  · refine z_iload_n C dJ9_min_7cf53_5 rfl 0 rfl ?_
    refine z_goto C (tgt := 10) dJ9_min_7cf53_6 (by decide) ?_
    refine ret dJ9_min_7cf53_10 rfl ?_ (by decide) (by decide)
    exact ⟨Int32.le_antisymm (Int32.not_lt.mp c2) hm, rfl⟩
set_option maxRecDepth 20000 in
theorem c_J8_newLength_cabcc (l : Launch) (G : zG) {M : zM} {a : Int32} {b : Int32} {e : Int32}   (hm : b ≤ e) (h0 : 0 < a + e) (h1 : a + e ≤ 2147483639) : z_Mi l G qJ8_newLength_cabcc (z_rm 2 0 0) [.int a, .int b, .int e] M (fun r M' => r = a + e ∧ M' = M)  := by
  refine z_Mi_of _ (by decide +kernel) rfl (Nat.le_of_ble_eq_true rfl) (fun X hl hG hnm C ret => ?_)
  subst hl; subst hG
  have C : z_C X cJ8_newLength_cabcc RJ8 4 (z_rm 2 0 0) := C
  show z_W X M 0 0 0 [(0, .int a), (1, .int b), (2, .int e)] []
  refine z_iload_n C dJ8_newLength_cabcc_0 rfl 0 rfl ?_
  refine z_iload_n C dJ8_newLength_cabcc_1 rfl 1 rfl ?_
  refine z_iload_n C dJ8_newLength_cabcc_2 rfl 2 rfl ?_
  refine z_callSi (rest := [.int a]) (k' := 0) (n' := 0) C (c_J9_max_7cf53 (z_l X) (z_G X) hm) (cs_J8_194 C (by decide)) rfl rfl (Nat.le_of_ble_eq_true rfl) rfl rfl (by decide) (by decide) dJ8_newLength_cabcc_3 (fun x3 M' hq => ?_)
  obtain ⟨hr3, rfl⟩ := hq
  rw [hr3]
  refine z_iadd C dJ8_newLength_cabcc_6 ?_
  refine z_istore_n (lv' := [(3, .int (a + e)), (0, .int a), (1, .int b), (2, .int e)]) C dJ8_newLength_cabcc_7 rfl (by decide) rfl ?_
  refine z_iconst C (v := 0) dJ8_newLength_cabcc_8 (by decide) ?_
  refine z_iload_n C dJ8_newLength_cabcc_9 rfl 0 rfl ?_
  refine z_icmp_ge C (tgt := 21) dJ8_newLength_cabcc_10 (by decide) (fun c10 => absurd c10 (Int32.not_le.mpr h0)) (fun _ => ?_)
  refine z_iload_n C dJ8_newLength_cabcc_13 rfl 0 rfl ?_
  refine z_ldc C (v := 2147483639) kw215 dJ8_newLength_cabcc_14 ?_
  refine z_icmp_gt C (tgt := 21) dJ8_newLength_cabcc_16 (by decide) (fun c16 => absurd c16 (Int32.not_lt.mpr h1)) (fun _ => ?_)
  refine z_iload_n C dJ8_newLength_cabcc_19 rfl 0 rfl ?_
  exact ret dJ8_newLength_cabcc_20 rfl (⟨rfl, rfl⟩) (by decide) (by decide)
set_option maxRecDepth 20000 in
theorem c_J5_newCapacity_0f7a4 (l : Launch) (G : zG) {M : zM} {sb : Nat} {vb : Nat} {ml : Int32} {n : Nat} {f : Nat → Int32} {c d : Nat} (h_sb : M sb = some (cSb vb 0 ml (nI c))) (h_vb : M vb = some (aB G n f)) (h0 : n < d) (h1 : d ≤ 2 * n + 2) (hn : n ≤ 30000) : z_Mi l G qJ5_newCapacity_0f7a4 (z_rm 3 0 0) [.ref sb, .int (nI d)] M (fun r M' => r = nI (2 * n + 2) ∧ M' = M)  := by
  refine z_Mi_of _ (by decide +kernel) rfl (Nat.le_of_ble_eq_true rfl) (fun X hl hG hnm C ret => ?_)
  subst hl; subst hG
  have C : z_C X cJ5_newCapacity_0f7a4 RJ5 6 (z_rm 3 0 0) := C
  show z_W X M 0 0 0 [(0, .ref sb), (1, .int (nI d))] []
  refine z_aload_n C dJ5_newCapacity_0f7a4_0 rfl 0 rfl ?_
  refine gf_J5_15 C h_sb dJ5_newCapacity_0f7a4_1 ?_
  refine z_alenB C (v := nI n) h_vb rfl dJ5_newCapacity_0f7a4_4 ?_
  refine z_istore_n (lv' := [(2, .int (nI n)), (0, .ref sb), (1, .int (nI d))]) C dJ5_newCapacity_0f7a4_5 rfl (by decide) rfl ?_
  refine z_iload_n C dJ5_newCapacity_0f7a4_6 rfl 2 rfl ?_
  refine z_aload_n C dJ5_newCapacity_0f7a4_7 rfl 1 rfl ?_
  refine gf_J5_22 C h_sb dJ5_newCapacity_0f7a4_8 ?_
  refine z_ishl C dJ5_newCapacity_0f7a4_11 ?_
  rw [sb_shl0]
  refine z_istore_n (lv' := [(3, .int (nI d)), (2, .int (nI n)), (0, .ref sb), (1, .int (nI d))]) C dJ5_newCapacity_0f7a4_12 rfl (by decide) rfl ?_
  refine z_iload_n C dJ5_newCapacity_0f7a4_13 rfl 0 rfl ?_
  refine z_iload_n C dJ5_newCapacity_0f7a4_14 rfl 1 rfl ?_
  refine z_isub C dJ5_newCapacity_0f7a4_15 ?_
  refine z_istore (lv' := [(4, .int ((nI d) - (nI n))), (3, .int (nI d)), (2, .int (nI n)), (0, .ref sb), (1, .int (nI d))]) C dJ5_newCapacity_0f7a4_16 (by decide) rfl ?_
  refine z_iload_n C dJ5_newCapacity_0f7a4_18 rfl 2 rfl ?_
  refine z_iload C dJ5_newCapacity_0f7a4_19 0 rfl ?_
  refine z_iload_n C dJ5_newCapacity_0f7a4_21 rfl 2 rfl ?_
  refine z_iconst C (v := 2) dJ5_newCapacity_0f7a4_22 (by decide) ?_
  refine z_aload_n C dJ5_newCapacity_0f7a4_23 rfl 3 rfl ?_
  refine gf_J5_22 C h_sb dJ5_newCapacity_0f7a4_24 ?_
  refine z_ishl C dJ5_newCapacity_0f7a4_27 ?_
  rw [sb_shl0]
  refine z_iadd C dJ5_newCapacity_0f7a4_28 ?_
  refine z_callSi (rest := []) (k' := 0) (n' := 0) C (c_J8_newLength_cabcc (z_l X) (z_G X) (j_max h0 h1 hn) (j_nl0 hn) (j_nl1 hn)) (cs_J5_114 C (by decide)) rfl rfl (Nat.le_of_ble_eq_true rfl) rfl rfl (by decide) (by decide) dJ5_newCapacity_0f7a4_29 (fun x29 M' hq => ?_)
  obtain ⟨rfl, rfl⟩ := hq
  rw [show (((nI n) + ((nI n) + 2)) : Int32) = nI (2 * n + 2) from (j_two hn)]
  refine z_istore (lv' := [(5, .int (nI (2 * n + 2))), (4, .int ((nI d) - (nI n))), (3, .int (nI d)), (2, .int (nI n)), (0, .ref sb), (1, .int (nI d))]) C dJ5_newCapacity_0f7a4_32 (by decide) rfl ?_
  refine z_iload C dJ5_newCapacity_0f7a4_34 0 rfl ?_
  refine z_ldc C (v := 2147483647) kw219 dJ5_newCapacity_0f7a4_36 ?_
  refine z_icmp_ne C (tgt := 51) dJ5_newCapacity_0f7a4_38 (by decide) (fun _ => ?_) (fun c38 => absurd c38 (j_ne (a := 2 * n + 2) (b := 2147483647) (by omega) (by omega) (by decide)))
  refine z_iload C dJ5_newCapacity_0f7a4_51 0 rfl ?_
  refine z_aload_n C dJ5_newCapacity_0f7a4_53 rfl 4 rfl ?_
  refine gf_J5_22 C h_sb dJ5_newCapacity_0f7a4_54 ?_
  refine z_ishr C dJ5_newCapacity_0f7a4_57 ?_
  rw [sb_shr0]
  exact ret dJ5_newCapacity_0f7a4_58 rfl (⟨rfl, rfl⟩) (by decide) (by decide)
set_option maxRecDepth 20000 in
theorem c_J7_copyOf_9075b (l : Launch) (G : zG) {M : zM} {vb : Nat} {n : Nat} {f : Nat → Int32} {d : Nat} (h_vb : M vb = some (aB G n f)) (h0 : n < d) (hd : d ≤ 65536) (hf : sb_Fit f) : z_Mr l G qJ7_copyOf_9075b (z_rm 2 1 d) [.ref vb, .int (nI d)] M (fun r M' => ∃ q15 : Nat, (M) q15 = none ∧ r = q15 ∧ M' = z_up M q15 (aB G d (va_cpy f (fun _ => 0) 0 0 n)))  := by
  refine z_Mr_of _ (by decide +kernel) rfl (by first | exact Or.inl ⟨_, rfl⟩ | exact Or.inr ⟨_, rfl⟩) (Nat.le_of_ble_eq_true rfl) (fun X hl hG hnm C ret => ?_)
  subst hl; subst hG
  have C : z_C X cJ7_copyOf_9075b RJ7 3 (z_rm 2 1 d) := C
  show z_W X M 0 0 0 [(0, .ref vb), (1, .int (nI d))] []
  refine z_iload_n C dJ7_copyOf_9075b_0 rfl 1 rfl ?_
  refine z_aload_n C dJ7_copyOf_9075b_1 rfl 0 rfl ?_
  refine z_alenB C (v := nI n) h_vb rfl dJ7_copyOf_9075b_2 ?_
  refine z_icmp_ne C (tgt := 14) dJ7_copyOf_9075b_3 (by decide) (fun _ => ?_) (fun c3 => absurd c3 (j_ne (by omega) (by omega) (by omega)))
  refine z_iload_n C dJ7_copyOf_9075b_14 rfl 1 rfl ?_
  refine z_newB (N := d) C kw127 (nI_pos (by omega)) (nI_clamp (by omega)) (by omega) (Nat.le_of_ble_eq_true rfl) (by show _ ≤ d; omega) dJ7_copyOf_9075b_15 (fun q15 hq15 => ?_)
  refine z_kn (k' := 1) (n' := 0 + d) rfl rfl ?_
  refine z_astore_n (lv' := [(2, .ref q15), (0, .ref vb), (1, .int (nI d))]) C dJ7_copyOf_9075b_17 rfl (by decide) rfl ?_
  refine z_aload_n C dJ7_copyOf_9075b_18 rfl 1 rfl ?_
  refine z_iconst C (v := 0) dJ7_copyOf_9075b_19 (by decide) ?_
  refine z_aload_n C dJ7_copyOf_9075b_20 rfl 0 rfl ?_
  refine z_iconst C (v := 0) dJ7_copyOf_9075b_21 (by decide) ?_
  refine z_aload_n C dJ7_copyOf_9075b_22 rfl 1 rfl ?_
  refine z_alenB C (v := nI n) ((z_up_n _ _ (z_neN h_vb hq15)).trans h_vb) rfl dJ7_copyOf_9075b_23 ?_
  refine z_iload_n C dJ7_copyOf_9075b_24 rfl 2 rfl ?_
  refine z_callSi (rest := [.int 0, .ref q15, .int 0, .ref vb]) (k' := 1) (n' := 0 + d) C (c_min_l (z_l X) (z_G X) (nI_le (by omega) (by omega))) (cs_J7_304 C ⟨Nat.le_of_ble_eq_true rfl, Nat.le_of_ble_eq_true rfl⟩) rfl rfl (Nat.le_of_ble_eq_true rfl) rfl rfl (Nat.le_of_ble_eq_true rfl) (by show _ ≤ d; omega) dJ7_copyOf_9075b_25 (fun x25 M' hq => ?_)
  obtain ⟨rfl, rfl⟩ := hq
  refine z_copyN 0 0 n C kw233 ((z_up_n _ _ (z_neN h_vb hq15)).trans h_vb) (z_up_s _ _ _) (by decide) (by decide) (nI_pos (by omega)) (by decide) (by decide) (nI_clamp (by omega)) (by omega) (by omega) hf ⟨Nat.le_of_ble_eq_true rfl, Nat.le_of_ble_eq_true rfl⟩ (Nat.le_of_ble_eq_true rfl) dJ7_copyOf_9075b_28 ?_
  rw [z_up_up]
  refine z_aload_n C dJ7_copyOf_9075b_31 rfl 0 rfl ?_
  exact ret dJ7_copyOf_9075b_32 (⟨q15, hq15, rfl, rfl⟩) (Nat.le_of_ble_eq_true rfl) (by show _ ≤ d; omega)
set_option maxRecDepth 20000 in
theorem c_ens_fit (l : Launch) (G : zG) {M : zM} {sb : Nat} {vb : Nat} {ml : Int32} {n : Nat} {f : Nat → Int32} {c d : Nat} (h_sb : M sb = some (cSb vb 0 ml (nI c))) (h_vb : M vb = some (aB G n f)) (h0 : d ≤ n) (hn : n ≤ 65536) : z_Mv l G qJ5_ensureCapacityInternal_d00df (z_rm 1 0 0) [.ref sb, .int (nI d)] M (fun M' => M' = M)  := by
  refine z_Mv_of _ (by decide +kernel) rfl (Nat.le_of_ble_eq_true rfl) (fun X hl hG hnm C ret => ?_)
  subst hl; subst hG
  have C : z_C X cJ5_ensureCapacityInternal_d00df RJ5 3 (z_rm 1 0 0) := C
  show z_W X M 0 0 0 [(0, .ref sb), (1, .int (nI d))] []
  refine z_aload_n C dJ5_ensureCapacityInternal_d00df_0 rfl 0 rfl ?_
  refine gf_J5_15 C h_sb dJ5_ensureCapacityInternal_d00df_1 ?_
  refine z_alenB C (v := nI n) h_vb rfl dJ5_ensureCapacityInternal_d00df_4 ?_
  refine z_aload_n C dJ5_ensureCapacityInternal_d00df_5 rfl 0 rfl ?_
  refine gf_J5_22 C h_sb dJ5_ensureCapacityInternal_d00df_6 ?_
  refine z_ishr C dJ5_ensureCapacityInternal_d00df_9 ?_
  rw [sb_shr0]
  refine z_istore_n (lv' := [(2, .int (nI n)), (0, .ref sb), (1, .int (nI d))]) C dJ5_ensureCapacityInternal_d00df_10 rfl (by decide) rfl ?_
  refine z_iload_n C dJ5_ensureCapacityInternal_d00df_11 rfl 2 rfl ?_
  refine z_iload_n C dJ5_ensureCapacityInternal_d00df_12 rfl 0 rfl ?_
  refine z_isub C dJ5_ensureCapacityInternal_d00df_13 ?_
  refine z_if_le C (tgt := 38) dJ5_ensureCapacityInternal_d00df_14 (by decide) (fun _ => ?_) (fun c14 => absurd (j_fit h0 hn) c14)
  exact ret dJ5_ensureCapacityInternal_d00df_38 (rfl) (by decide) (by decide)
set_option maxRecDepth 20000 in
theorem c_ens_0 (l : Launch) (G : zG) {M : zM} {sb : Nat} {vb : Nat} {ml : Int32} {n : Nat} {f : Nat → Int32} {c : Nat} (h_sb : M sb = some (cSb vb 0 ml (nI c))) (h_vb : M vb = some (aB G n f)) (hn : n ≤ 65536) : z_Mv l G qJ5_ensureCapacityInternal_d00df (z_rm 1 0 0) [.ref sb, .int 0] M (fun M' => M' = M)  := by
  refine z_Mv_of _ (by decide +kernel) rfl (Nat.le_of_ble_eq_true rfl) (fun X hl hG hnm C ret => ?_)
  subst hl; subst hG
  have C : z_C X cJ5_ensureCapacityInternal_d00df RJ5 3 (z_rm 1 0 0) := C
  show z_W X M 0 0 0 [(0, .ref sb), (1, .int 0)] []
  refine z_aload_n C dJ5_ensureCapacityInternal_d00df_0 rfl 0 rfl ?_
  refine gf_J5_15 C h_sb dJ5_ensureCapacityInternal_d00df_1 ?_
  refine z_alenB C (v := nI n) h_vb rfl dJ5_ensureCapacityInternal_d00df_4 ?_
  refine z_aload_n C dJ5_ensureCapacityInternal_d00df_5 rfl 0 rfl ?_
  refine gf_J5_22 C h_sb dJ5_ensureCapacityInternal_d00df_6 ?_
  refine z_ishr C dJ5_ensureCapacityInternal_d00df_9 ?_
  rw [sb_shr0]
  refine z_istore_n (lv' := [(2, .int (nI n)), (0, .ref sb), (1, .int 0)]) C dJ5_ensureCapacityInternal_d00df_10 rfl (by decide) rfl ?_
  refine z_iload_n C dJ5_ensureCapacityInternal_d00df_11 rfl 2 rfl ?_
  refine z_iload_n C dJ5_ensureCapacityInternal_d00df_12 rfl 0 rfl ?_
  refine z_isub C dJ5_ensureCapacityInternal_d00df_13 ?_
  refine z_if_le C (tgt := 38) dJ5_ensureCapacityInternal_d00df_14 (by decide) (fun _ => ?_) (fun c14 => absurd (j_fit (c := 0) (by omega) hn) c14)
  exact ret dJ5_ensureCapacityInternal_d00df_38 (rfl) (by decide) (by decide)
set_option maxRecDepth 20000 in
theorem c_ens_grow (l : Launch) (G : zG) {M : zM} {sb : Nat} {vb : Nat} {ml : Int32} {n : Nat} {f : Nat → Int32} {c d : Nat} (h_sb : M sb = some (cSb vb 0 ml (nI c))) (h_vb : M vb = some (aB G n f)) (h0 : n < d) (h1 : d ≤ 2 * n + 2) (hn : n ≤ 30000) (hf : sb_Fit f) : z_Mv l G qJ5_ensureCapacityInternal_d00df (z_rm 4 1 (2 * n + 2)) [.ref sb, .int (nI d)] M (fun M' => ∃ q15_32 : Nat, (M) q15_32 = none ∧ M' = z_up (z_up M q15_32 (aB G (2 * n + 2) (va_cpy f (fun _ => 0) 0 0 n))) sb (cSb q15_32 0 ml (nI c)))  := by
  refine z_Mv_of _ (by decide +kernel) rfl (Nat.le_of_ble_eq_true rfl) (fun X hl hG hnm C ret => ?_)
  subst hl; subst hG
  have C : z_C X cJ5_ensureCapacityInternal_d00df RJ5 3 (z_rm 4 1 (2 * n + 2)) := C
  show z_W X M 0 0 0 [(0, .ref sb), (1, .int (nI d))] []
  refine z_aload_n C dJ5_ensureCapacityInternal_d00df_0 rfl 0 rfl ?_
  refine gf_J5_15 C h_sb dJ5_ensureCapacityInternal_d00df_1 ?_
  refine z_alenB C (v := nI n) h_vb rfl dJ5_ensureCapacityInternal_d00df_4 ?_
  refine z_aload_n C dJ5_ensureCapacityInternal_d00df_5 rfl 0 rfl ?_
  refine gf_J5_22 C h_sb dJ5_ensureCapacityInternal_d00df_6 ?_
  refine z_ishr C dJ5_ensureCapacityInternal_d00df_9 ?_
  rw [sb_shr0]
  refine z_istore_n (lv' := [(2, .int (nI n)), (0, .ref sb), (1, .int (nI d))]) C dJ5_ensureCapacityInternal_d00df_10 rfl (by decide) rfl ?_
  refine z_iload_n C dJ5_ensureCapacityInternal_d00df_11 rfl 2 rfl ?_
  refine z_iload_n C dJ5_ensureCapacityInternal_d00df_12 rfl 0 rfl ?_
  refine z_isub C dJ5_ensureCapacityInternal_d00df_13 ?_
  refine z_if_le C (tgt := 38) dJ5_ensureCapacityInternal_d00df_14 (by decide) (fun c14 => absurd c14 (j_grow h0 (by omega))) (fun _ => ?_)
  refine z_aload_n C dJ5_ensureCapacityInternal_d00df_17 rfl 1 rfl ?_
  refine z_aload_n C dJ5_ensureCapacityInternal_d00df_18 rfl 1 rfl ?_
  refine gf_J5_15 C h_sb dJ5_ensureCapacityInternal_d00df_19 ?_
  refine z_aload_n C dJ5_ensureCapacityInternal_d00df_22 rfl 1 rfl ?_
  refine z_iload_n C dJ5_ensureCapacityInternal_d00df_23 rfl 2 rfl ?_
  refine z_callUi (rest := [.ref vb, .ref sb]) (k' := 0) (n' := 0) C (c_J5_newCapacity_0f7a4 (z_l X) (z_G X) h_sb h_vb h0 h1 hn) (cs_J5_104 C ⟨Nat.le_of_ble_eq_true rfl, Nat.le_of_ble_eq_true rfl⟩) h_sb trivial trivial rfl rfl (Nat.le_of_ble_eq_true rfl) rfl rfl (Nat.le_of_ble_eq_true rfl) (by show _ ≤ 2 * n + 2; omega) dJ5_ensureCapacityInternal_d00df_24 (fun x24 M' hq => ?_)
  obtain ⟨rfl, rfl⟩ := hq
  refine z_aload_n C dJ5_ensureCapacityInternal_d00df_27 rfl 1 rfl ?_
  refine gf_J5_22 C h_sb dJ5_ensureCapacityInternal_d00df_28 ?_
  refine z_ishl C dJ5_ensureCapacityInternal_d00df_31 ?_
  rw [sb_shl0]
  refine z_callSr (rest := [.ref sb]) (k' := 1) (n' := 0 + (2 * n + 2)) C (c_J7_copyOf_9075b (z_l X) (z_G X) h_vb (by omega) (by omega) hf) (cs_J5_108 C ⟨Nat.le_of_ble_eq_true rfl, Nat.le_of_ble_eq_true rfl⟩) rfl rfl (Nat.le_of_ble_eq_true rfl) rfl rfl (Nat.le_of_ble_eq_true rfl) (by show _ ≤ 2 * n + 2; omega) dJ5_ensureCapacityInternal_d00df_32 (fun x32 M' hq => ?_)
  obtain ⟨q15_32, hq15_32, hr32, rfl⟩ := hq
  rw [hr32]
  refine pf_J5_15 C ((z_up_n _ _ (z_neN h_sb hq15_32)).trans h_sb) dJ5_ensureCapacityInternal_d00df_35 ?_
  exact ret dJ5_ensureCapacityInternal_d00df_38 (⟨q15_32, hq15_32, rfl⟩) (Nat.le_of_ble_eq_true rfl) (by show _ ≤ 2 * n + 2; omega)
set_option maxRecDepth 20000 in
theorem c_app5_fit (l : Launch) (G : zG) {M : zM} {sb : Nat} {ch : Int32} {vb : Nat} {ml : Int32} {n : Nat} {f : Nat → Int32} {c : Nat} (h_sb : M sb = some (cSb vb 0 ml (nI c))) (h_vb : M vb = some (aB G n f)) (h0 : c < n) (hn : n ≤ 65536) (hc : ch ≤ 255) : z_Mr l G qJ5_append_3fe6f (z_rm 2 0 0) [.ref sb, .int ch] M (fun r M' => r = sb ∧ M' = z_up (z_up M sb (cSb vb 0 ml (nI (c + 1)))) vb (aB G n (upd f c (vp_nar .byte ch.toInt8.toInt32))))  := by
  refine z_Mr_of _ (by decide +kernel) rfl (by first | exact Or.inl ⟨_, rfl⟩ | exact Or.inr ⟨_, rfl⟩) (Nat.le_of_ble_eq_true rfl) (fun X hl hG hnm C ret => ?_)
  subst hl; subst hG
  have C : z_C X cJ5_append_3fe6f RJ5 2 (z_rm 2 0 0) := C
  show z_W X M 0 0 0 [(0, .ref sb), (1, .int ch)] []
  refine z_aload_n C dJ5_append_3fe6f_0 rfl 0 rfl ?_
  refine z_aload_n C dJ5_append_3fe6f_1 rfl 0 rfl ?_
  refine gf_J5_79 C h_sb dJ5_append_3fe6f_2 ?_
  refine z_iconst C (v := 1) dJ5_append_3fe6f_5 (by decide) ?_
  refine z_iadd C dJ5_append_3fe6f_6 ?_
  rw [show (((nI c) + 1) : Int32) = nI (c + 1) from (nI_1 c)]
  refine z_callUv (rest := []) (k' := 0) (n' := 0) C (c_ens_fit (z_l X) (z_G X) h_sb h_vb (by omega) hn) (cs_J5_100 C (by decide)) h_sb trivial trivial rfl rfl (Nat.le_of_ble_eq_true rfl) rfl rfl (by decide) (by decide) dJ5_append_3fe6f_7 (fun M' hq => ?_)
  obtain rfl := hq
  refine z_aload_n C dJ5_append_3fe6f_10 rfl 0 rfl ?_
  refine z_callUi (rest := []) (k' := 0) (n' := 0) C (c_J5_isLatin1_aae02 (z_l X) (z_G X) h_sb) (cs_J5_83 C (by decide)) h_sb trivial trivial rfl rfl (Nat.le_of_ble_eq_true rfl) rfl rfl (by decide) (by decide) dJ5_append_3fe6f_11 (fun x11 M' hq => ?_)
  obtain ⟨rfl, rfl⟩ := hq
  refine z_if_eq C (tgt := 45) dJ5_append_3fe6f_14 (by decide) (fun c14 => absurd c14 (by decide)) (fun _ => ?_)
  refine z_iload_n C dJ5_append_3fe6f_17 rfl 1 rfl ?_
  refine z_callSi (rest := []) (k' := 0) (n' := 0) C (c_J1_canEncode_fc78d (z_l X) (z_G X) hc) (cs_J5_191 C (by decide)) rfl rfl (Nat.le_of_ble_eq_true rfl) rfl rfl (by decide) (by decide) dJ5_append_3fe6f_18 (fun x18 M' hq => ?_)
  obtain ⟨rfl, rfl⟩ := hq
  refine z_if_eq C (tgt := 45) dJ5_append_3fe6f_21 (by decide) (fun c21 => absurd c21 (by decide)) (fun _ => ?_)
  refine z_aload_n C dJ5_append_3fe6f_24 rfl 0 rfl ?_
  refine gf_J5_15 C h_sb dJ5_append_3fe6f_25 ?_
  refine z_aload_n C dJ5_append_3fe6f_28 rfl 0 rfl ?_
  refine z_dup C dJ5_append_3fe6f_29 rfl ?_
  refine gf_J5_79 C h_sb dJ5_append_3fe6f_30 ?_
  refine z_dup_x1 C dJ5_append_3fe6f_33 rfl rfl ?_
  refine z_iconst C (v := 1) dJ5_append_3fe6f_34 (by decide) ?_
  refine z_iadd C dJ5_append_3fe6f_35 ?_
  rw [show (((nI c) + 1) : Int32) = nI (c + 1) from (nI_1 c)]
  refine pf_J5_79 C h_sb dJ5_append_3fe6f_36 ?_
  refine z_iload_n C dJ5_append_3fe6f_39 rfl 1 rfl ?_
  refine z_i2b C dJ5_append_3fe6f_40 ?_
  refine z_bast (j := c) C ((z_up_n _ _ (z_ne h_vb h_sb (by intro h; cases h))).trans h_vb) (nI_in h0 (by omega)) (nI_clamp (by omega)) dJ5_append_3fe6f_41 ?_
  refine z_goto C (tgt := 75) dJ5_append_3fe6f_42 (by decide) ?_
  refine z_aload_n C dJ5_append_3fe6f_75 rfl 0 rfl ?_
  exact ret dJ5_append_3fe6f_76 (⟨rfl, rfl⟩) (by decide) (by decide)
set_option maxRecDepth 20000 in
theorem c_app5_grow (l : Launch) (G : zG) {M : zM} {sb : Nat} {ch : Int32} {vb : Nat} {ml : Int32} {n : Nat} {f : Nat → Int32} {c : Nat} (h_sb : M sb = some (cSb vb 0 ml (nI c))) (h_vb : M vb = some (aB G n f)) (h0 : c = n) (hn : n ≤ 30000) (hc : ch ≤ 255) (hf : sb_Fit f) : z_Mr l G qJ5_append_3fe6f (z_rm 5 1 (2 * n + 2)) [.ref sb, .int ch] M (fun r M' => ∃ q15_32_7 : Nat, (M) q15_32_7 = none ∧ r = sb ∧ M' = z_up (z_up M sb (cSb q15_32_7 0 ml (nI (c + 1)))) q15_32_7 (aB G (2 * n + 2) (upd (va_cpy f (fun _ => 0) 0 0 n) c (vp_nar .byte ch.toInt8.toInt32))))  := by
  refine z_Mr_of _ (by decide +kernel) rfl (by first | exact Or.inl ⟨_, rfl⟩ | exact Or.inr ⟨_, rfl⟩) (Nat.le_of_ble_eq_true rfl) (fun X hl hG hnm C ret => ?_)
  subst hl; subst hG
  have C : z_C X cJ5_append_3fe6f RJ5 2 (z_rm 5 1 (2 * n + 2)) := C
  show z_W X M 0 0 0 [(0, .ref sb), (1, .int ch)] []
  refine z_aload_n C dJ5_append_3fe6f_0 rfl 0 rfl ?_
  refine z_aload_n C dJ5_append_3fe6f_1 rfl 0 rfl ?_
  refine gf_J5_79 C h_sb dJ5_append_3fe6f_2 ?_
  refine z_iconst C (v := 1) dJ5_append_3fe6f_5 (by decide) ?_
  refine z_iadd C dJ5_append_3fe6f_6 ?_
  rw [show (((nI c) + 1) : Int32) = nI (c + 1) from (nI_1 c)]
  refine z_callUv (rest := []) (k' := 1) (n' := 0 + (2 * n + 2)) C (c_ens_grow (z_l X) (z_G X) h_sb h_vb (by omega) (by omega) hn hf) (cs_J5_100 C ⟨Nat.le_of_ble_eq_true rfl, Nat.le_of_ble_eq_true rfl⟩) h_sb trivial trivial rfl rfl (Nat.le_of_ble_eq_true rfl) rfl rfl (Nat.le_of_ble_eq_true rfl) (by show _ ≤ 2 * n + 2; omega) dJ5_append_3fe6f_7 (fun M' hq => ?_)
  obtain ⟨q15_32_7, hq15_32_7, rfl⟩ := hq
  refine z_aload_n C dJ5_append_3fe6f_10 rfl 0 rfl ?_
  refine z_callUi (rest := []) (k' := 1) (n' := 0 + (2 * n + 2)) C (c_J5_isLatin1_aae02 (z_l X) (z_G X) (z_up_s _ _ _)) (cs_J5_83 C ⟨Nat.le_of_ble_eq_true rfl, Nat.le_of_ble_eq_true rfl⟩) (z_up_s _ _ _) trivial trivial rfl rfl (Nat.le_of_ble_eq_true rfl) rfl rfl (Nat.le_of_ble_eq_true rfl) (by show _ ≤ 2 * n + 2; omega) dJ5_append_3fe6f_11 (fun x11 M' hq => ?_)
  obtain ⟨rfl, rfl⟩ := hq
  refine z_if_eq C (tgt := 45) dJ5_append_3fe6f_14 (by decide) (fun c14 => absurd c14 (by decide)) (fun _ => ?_)
  refine z_iload_n C dJ5_append_3fe6f_17 rfl 1 rfl ?_
  refine z_callSi (rest := []) (k' := 1) (n' := 0 + (2 * n + 2)) C (c_J1_canEncode_fc78d (z_l X) (z_G X) hc) (cs_J5_191 C ⟨Nat.le_of_ble_eq_true rfl, Nat.le_of_ble_eq_true rfl⟩) rfl rfl (Nat.le_of_ble_eq_true rfl) rfl rfl (Nat.le_of_ble_eq_true rfl) (by show _ ≤ 2 * n + 2; omega) dJ5_append_3fe6f_18 (fun x18 M' hq => ?_)
  obtain ⟨rfl, rfl⟩ := hq
  refine z_if_eq C (tgt := 45) dJ5_append_3fe6f_21 (by decide) (fun c21 => absurd c21 (by decide)) (fun _ => ?_)
  refine z_aload_n C dJ5_append_3fe6f_24 rfl 0 rfl ?_
  refine gf_J5_15 C (z_up_s _ _ _) dJ5_append_3fe6f_25 ?_
  refine z_aload_n C dJ5_append_3fe6f_28 rfl 0 rfl ?_
  refine z_dup C dJ5_append_3fe6f_29 rfl ?_
  refine gf_J5_79 C (z_up_s _ _ _) dJ5_append_3fe6f_30 ?_
  refine z_dup_x1 C dJ5_append_3fe6f_33 rfl rfl ?_
  refine z_iconst C (v := 1) dJ5_append_3fe6f_34 (by decide) ?_
  refine z_iadd C dJ5_append_3fe6f_35 ?_
  rw [show (((nI c) + 1) : Int32) = nI (c + 1) from (nI_1 c)]
  refine pg_J5_79 C dJ5_append_3fe6f_36 ?_
  refine z_iload_n C dJ5_append_3fe6f_39 rfl 1 rfl ?_
  refine z_i2b C dJ5_append_3fe6f_40 ?_
  rw [z_up_swap _ (Ne.symm (z_neN h_sb hq15_32_7))]
  refine z_bast (j := c) C (z_up_s _ _ _) (nI_in (by omega) (by omega)) (nI_clamp (by omega)) dJ5_append_3fe6f_41 ?_
  rw [z_up_up]
  refine z_goto C (tgt := 75) dJ5_append_3fe6f_42 (by decide) ?_
  refine z_aload_n C dJ5_append_3fe6f_75 rfl 0 rfl ?_
  exact ret dJ5_append_3fe6f_76 (⟨q15_32_7, hq15_32_7, rfl, rfl⟩) (Nat.le_of_ble_eq_true rfl) (by show _ ≤ 2 * n + 2; omega)
set_option maxRecDepth 20000 in
theorem c_app_fit (l : Launch) (G : zG) {M : zM} {sb : Nat} {ch : Int32} {vb : Nat} {ml : Int32} {n : Nat} {f : Nat → Int32} {c : Nat} (h_sb : M sb = some (cSb vb 0 ml (nI c))) (h_vb : M vb = some (aB G n f)) (h0 : c < n) (hn : n ≤ 65536) (hc : ch ≤ 255) : z_Mr l G qJ4_append_cf468 (z_rm 3 0 0) [.ref sb, .int ch] M (fun r M' => r = sb ∧ M' = z_up (z_up M sb (cSb vb 0 ml (nI (c + 1)))) vb (aB G n (upd f c (vp_nar .byte ch.toInt8.toInt32))))  := by
  refine z_Mr_of _ (by decide +kernel) rfl (by first | exact Or.inl ⟨_, rfl⟩ | exact Or.inr ⟨_, rfl⟩) (Nat.le_of_ble_eq_true rfl) (fun X hl hG hnm C ret => ?_)
  subst hl; subst hG
  have C : z_C X cJ4_append_cf468 RJ4 2 (z_rm 3 0 0) := C
  show z_W X M 0 0 0 [(0, .ref sb), (1, .int ch)] []
  refine z_aload_n C dJ4_append_cf468_0 rfl 0 rfl ?_
  refine z_iload_n C dJ4_append_cf468_1 rfl 1 rfl ?_
  refine z_callPr (rest := []) (k' := 0) (n' := 0) C (c_app5_fit (z_l X) (z_G X) h_sb h_vb h0 hn hc) (cs_J4_50 C (by decide)) h_sb trivial trivial rfl rfl (Nat.le_of_ble_eq_true rfl) rfl rfl (by decide) (by decide) dJ4_append_cf468_2 (fun x2 M' hq => ?_)
  obtain ⟨hr2, rfl⟩ := hq
  rw [hr2]
  refine z_pop C dJ4_append_cf468_5 rfl ?_
  refine z_aload_n C dJ4_append_cf468_6 rfl 0 rfl ?_
  exact ret dJ4_append_cf468_7 (⟨rfl, rfl⟩) (by decide) (by decide)
set_option maxRecDepth 20000 in
theorem c_app_grow (l : Launch) (G : zG) {M : zM} {sb : Nat} {ch : Int32} {vb : Nat} {ml : Int32} {n : Nat} {f : Nat → Int32} {c : Nat} (h_sb : M sb = some (cSb vb 0 ml (nI c))) (h_vb : M vb = some (aB G n f)) (h0 : c = n) (hn : n ≤ 30000) (hc : ch ≤ 255) (hf : sb_Fit f) : z_Mr l G qJ4_append_cf468 (z_rm 6 1 (2 * n + 2)) [.ref sb, .int ch] M (fun r M' => ∃ q15_32_7_2 : Nat, (M) q15_32_7_2 = none ∧ r = sb ∧ M' = z_up (z_up M sb (cSb q15_32_7_2 0 ml (nI (c + 1)))) q15_32_7_2 (aB G (2 * n + 2) (upd (va_cpy f (fun _ => 0) 0 0 n) c (vp_nar .byte ch.toInt8.toInt32))))  := by
  refine z_Mr_of _ (by decide +kernel) rfl (by first | exact Or.inl ⟨_, rfl⟩ | exact Or.inr ⟨_, rfl⟩) (Nat.le_of_ble_eq_true rfl) (fun X hl hG hnm C ret => ?_)
  subst hl; subst hG
  have C : z_C X cJ4_append_cf468 RJ4 2 (z_rm 6 1 (2 * n + 2)) := C
  show z_W X M 0 0 0 [(0, .ref sb), (1, .int ch)] []
  refine z_aload_n C dJ4_append_cf468_0 rfl 0 rfl ?_
  refine z_iload_n C dJ4_append_cf468_1 rfl 1 rfl ?_
  refine z_callPr (rest := []) (k' := 1) (n' := 0 + (2 * n + 2)) C (c_app5_grow (z_l X) (z_G X) h_sb h_vb h0 hn hc hf) (cs_J4_50 C ⟨Nat.le_of_ble_eq_true rfl, Nat.le_of_ble_eq_true rfl⟩) h_sb trivial trivial rfl rfl (Nat.le_of_ble_eq_true rfl) rfl rfl (Nat.le_of_ble_eq_true rfl) (by show _ ≤ 2 * n + 2; omega) dJ4_append_cf468_2 (fun x2 M' hq => ?_)
  obtain ⟨q15_32_7_2, hq15_32_7_2, hr2, rfl⟩ := hq
  rw [hr2]
  refine z_pop C dJ4_append_cf468_5 rfl ?_
  refine z_aload_n C dJ4_append_cf468_6 rfl 0 rfl ?_
  exact ret dJ4_append_cf468_7 (⟨q15_32_7_2, hq15_32_7_2, rfl, rfl⟩) (Nat.le_of_ble_eq_true rfl) (by show _ ≤ 2 * n + 2; omega)
set_option maxRecDepth 20000 in
theorem c_J5_setLength_d00df (l : Launch) (G : zG) {M : zM} {sb : Nat} {vb : Nat} {ml : Int32} {n : Nat} {f : Nat → Int32} {c : Nat} (h_sb : M sb = some (cSb vb 0 ml (nI c))) (h_vb : M vb = some (aB G n f)) (hcn : c ≤ n) (hn : n ≤ 65536) : z_Mv l G qJ5_setLength_d00df (z_rm 2 0 0) [.ref sb, .int 0] M (fun M' => ∃ ml9 : Int32, M' = z_up M sb (cSb vb 0 ml9 (nI 0)))  := by
  refine z_Mv_of _ (by decide +kernel) rfl (Nat.le_of_ble_eq_true rfl) (fun X hl hG hnm C ret => ?_)
  subst hl; subst hG
  have C : z_C X cJ5_setLength_d00df RJ5 2 (z_rm 2 0 0) := C
  show z_W X M 0 0 0 [(0, .ref sb), (1, .int 0)] []
  refine z_iload_n C dJ5_setLength_d00df_0 rfl 1 rfl ?_
  refine z_if_ge C (tgt := 13) dJ5_setLength_d00df_1 (by decide) (fun _ => ?_) (fun c1 => absurd (by decide) c1)
  refine z_aload_n C dJ5_setLength_d00df_13 rfl 0 rfl ?_
  refine z_iload_n C dJ5_setLength_d00df_14 rfl 1 rfl ?_
  refine z_callUv (rest := []) (k' := 0) (n' := 0) C (c_ens_0 (z_l X) (z_G X) h_sb h_vb hn) (cs_J5_100 C (by decide)) h_sb trivial trivial rfl rfl (Nat.le_of_ble_eq_true rfl) rfl rfl (by decide) (by decide) dJ5_setLength_d00df_15 (fun M' hq => ?_)
  obtain rfl := hq
  refine z_aload_n C dJ5_setLength_d00df_18 rfl 0 rfl ?_
  refine gf_J5_79 C h_sb dJ5_setLength_d00df_19 ?_
  refine z_iload_n C dJ5_setLength_d00df_22 rfl 1 rfl ?_
  refine z_icmp_ge C (tgt := 63) dJ5_setLength_d00df_23 (by decide) (fun _ => ?_) (fun c23 => absurd (nI_pos' (by omega)) c23)
  refine z_aload_n C dJ5_setLength_d00df_63 rfl 0 rfl ?_
  refine gf_J5_79 C h_sb dJ5_setLength_d00df_64 ?_
  refine z_iload_n C dJ5_setLength_d00df_67 rfl 1 rfl ?_
  refine z_icmp_le C (tgt := 76) dJ5_setLength_d00df_68 (by decide) (fun c68 => ?_) (fun c68 => ?_)
  · refine z_aload_n C dJ5_setLength_d00df_76 rfl 0 rfl ?_
    refine z_iload_n C dJ5_setLength_d00df_77 rfl 1 rfl ?_
    refine pf_J5_79 C h_sb dJ5_setLength_d00df_78 ?_
    refine ret dJ5_setLength_d00df_81 ?_ (by decide) (by decide)
    exact ⟨_, rfl⟩
  · refine z_aload_n C dJ5_setLength_d00df_71 rfl 0 rfl ?_
    refine z_iconst C (v := 1) dJ5_setLength_d00df_72 (by decide) ?_
    refine pf_J5_73 C rfl rfl h_sb dJ5_setLength_d00df_73 ?_
    refine z_aload_n C dJ5_setLength_d00df_76 rfl 0 rfl ?_
    refine z_iload_n C dJ5_setLength_d00df_77 rfl 1 rfl ?_
    refine pg_J5_79 C dJ5_setLength_d00df_78 ?_
    refine ret dJ5_setLength_d00df_81 ?_ (by decide) (by decide)
    exact ⟨_, rfl⟩
set_option maxRecDepth 20000 in
theorem c_J4_setLength_d00df (l : Launch) (G : zG) {M : zM} {sb : Nat} {vb : Nat} {ml : Int32} {n : Nat} {f : Nat → Int32} {c : Nat} (h_sb : M sb = some (cSb vb 0 ml (nI c))) (h_vb : M vb = some (aB G n f)) (hcn : c ≤ n) (hn : n ≤ 65536) : z_Mv l G qJ4_setLength_d00df (z_rm 3 0 0) [.ref sb, .int 0] M (fun M' => ∃ ml9 : Int32, M' = z_up M sb (cSb vb 0 ml9 (nI 0)))  := by
  refine z_Mv_of _ (by decide +kernel) rfl (Nat.le_of_ble_eq_true rfl) (fun X hl hG hnm C ret => ?_)
  subst hl; subst hG
  have C : z_C X cJ4_setLength_d00df RJ4 2 (z_rm 3 0 0) := C
  show z_W X M 0 0 0 [(0, .ref sb), (1, .int 0)] []
  refine z_aload_n C dJ4_setLength_d00df_0 rfl 0 rfl ?_
  refine z_iload_n C dJ4_setLength_d00df_1 rfl 1 rfl ?_
  refine z_callPv (rest := []) (k' := 0) (n' := 0) C (c_J5_setLength_d00df (z_l X) (z_G X) h_sb h_vb hcn hn) (cs_J4_333 C (by decide)) h_sb trivial trivial rfl rfl (Nat.le_of_ble_eq_true rfl) rfl rfl (by decide) (by decide) dJ4_setLength_d00df_2 (fun M' hq => ?_)
  obtain ⟨ml9_2, rfl⟩ := hq
  refine ret dJ4_setLength_d00df_5 ?_ (by decide) (by decide)
  exact ⟨_, rfl⟩
set_option maxRecDepth 20000 in
theorem c_chk_n (l : Launch) (G : zG) {M : zM} {ix : Int32} {le : Int32}   (h0 : 0 ≤ ix) (h1 : ix < le) : z_Mi l G qJ3_checkIndex_8e157 (z_rm 1 0 0) [.int ix, .int le, .null] M (fun r M' => r = ix ∧ M' = M)  := by
  refine z_Mi_of _ (by decide +kernel) rfl (Nat.le_of_ble_eq_true rfl) (fun X hl hG hnm C ret => ?_)
  subst hl; subst hG
  have C : z_C X cJ3_checkIndex_8e157 RJ3 3 (z_rm 1 0 0) := C
  show z_W X M 0 0 0 [(0, .int ix), (1, .int le), (2, .null)] []
  refine z_iload_n C dJ3_checkIndex_8e157_0 rfl 0 rfl ?_
  refine z_if_lt C (tgt := 9) dJ3_checkIndex_8e157_1 (by decide) (fun c1 => absurd c1 (Int32.not_lt.mpr h0)) (fun _ => ?_)
  refine z_iload_n C dJ3_checkIndex_8e157_4 rfl 0 rfl ?_
  refine z_iload_n C dJ3_checkIndex_8e157_5 rfl 1 rfl ?_
  refine z_icmp_lt C (tgt := 16) dJ3_checkIndex_8e157_6 (by decide) (fun _ => ?_) (fun c6 => absurd h1 c6)
  refine z_iload_n C dJ3_checkIndex_8e157_16 rfl 0 rfl ?_
  exact ret dJ3_checkIndex_8e157_17 rfl (⟨rfl, rfl⟩) (by decide) (by decide)
set_option maxRecDepth 20000 in
theorem c_chk_r (l : Launch) (G : zG) {M : zM} {ix : Int32} {le : Int32} {fm : Nat}   (h0 : 0 ≤ ix) (h1 : ix < le) : z_Mi l G qJ3_checkIndex_8e157 (z_rm 1 0 0) [.int ix, .int le, .ref fm] M (fun r M' => r = ix ∧ M' = M)  := by
  refine z_Mi_of _ (by decide +kernel) rfl (Nat.le_of_ble_eq_true rfl) (fun X hl hG hnm C ret => ?_)
  subst hl; subst hG
  have C : z_C X cJ3_checkIndex_8e157 RJ3 3 (z_rm 1 0 0) := C
  show z_W X M 0 0 0 [(0, .int ix), (1, .int le), (2, .ref fm)] []
  refine z_iload_n C dJ3_checkIndex_8e157_0 rfl 0 rfl ?_
  refine z_if_lt C (tgt := 9) dJ3_checkIndex_8e157_1 (by decide) (fun c1 => absurd c1 (Int32.not_lt.mpr h0)) (fun _ => ?_)
  refine z_iload_n C dJ3_checkIndex_8e157_4 rfl 0 rfl ?_
  refine z_iload_n C dJ3_checkIndex_8e157_5 rfl 1 rfl ?_
  refine z_icmp_lt C (tgt := 16) dJ3_checkIndex_8e157_6 (by decide) (fun _ => ?_) (fun c6 => absurd h1 c6)
  refine z_iload_n C dJ3_checkIndex_8e157_16 rfl 0 rfl ?_
  exact ret dJ3_checkIndex_8e157_17 rfl (⟨rfl, rfl⟩) (by decide) (by decide)
set_option maxRecDepth 20000 in
theorem c_J0_checkIndex_df160 (l : Launch) (G : zG) {M : zM} {ix : Int32} {le : Int32}   (h0 : 0 ≤ ix) (h1 : ix < le) : z_Mv l G qJ0_checkIndex_df160 (z_rm 2 0 0) [.int ix, .int le] M (fun M' => M' = M)  := by
  refine z_Mv_of _ (by decide +kernel) rfl (Nat.le_of_ble_eq_true rfl) (fun X hl hG hnm C ret => ?_)
  subst hl; subst hG
  have C : z_C X cJ0_checkIndex_df160 RJ0 2 (z_rm 2 0 0) := C
  show z_W X M 0 0 0 [(0, .int ix), (1, .int le)] []
  refine z_iload_n C dJ0_checkIndex_df160_0 rfl 0 rfl ?_
  refine z_iload_n C dJ0_checkIndex_df160_1 rfl 1 rfl ?_
  refine z_gsF C kw253 dJ0_checkIndex_df160_2 ?_ (fun t2 => ?_)
  · refine z_callSi (rest := []) (k' := 0) (n' := 0) C (c_chk_n (z_l X) (z_G X) h0 h1) (cs_J0_1059 C (by decide)) rfl rfl (Nat.le_of_ble_eq_true rfl) rfl rfl (by decide) (by decide) dJ0_checkIndex_df160_5 (fun x5 M' hq => ?_)
    obtain ⟨hr5, rfl⟩ := hq
    rw [hr5]
    refine z_pop C dJ0_checkIndex_df160_8 rfl ?_
    refine ret dJ0_checkIndex_df160_9 ?_ (by decide) (by decide)
    exact rfl
  · refine z_callSi (rest := []) (k' := 0) (n' := 0) C (c_chk_r (z_l X) (z_G X) h0 h1) (cs_J0_1059 C (by decide)) rfl rfl (Nat.le_of_ble_eq_true rfl) rfl rfl (by decide) (by decide) dJ0_checkIndex_df160_5 (fun x5 M' hq => ?_)
    obtain ⟨hr5, rfl⟩ := hq
    rw [hr5]
    refine z_pop C dJ0_checkIndex_df160_8 rfl ?_
    refine ret dJ0_checkIndex_df160_9 ?_ (by decide) (by decide)
    exact rfl
set_option maxRecDepth 20000 in
theorem c_J5_charAt_5068e (l : Launch) (G : zG) {M : zM} {sb : Nat} {vb : Nat} {ml : Int32} {n : Nat} {f : Nat → Int32} {c i : Nat} (h_sb : M sb = some (cSb vb 0 ml (nI c))) (h_vb : M vb = some (aB G n f)) (hi : i < c) (hcn : c ≤ n) (hn : n ≤ 65536) : z_Mi l G qJ5_charAt_5068e (z_rm 3 0 0) [.ref sb, .int (nI i)] M (fun r M' => r = (((f i) &&& 255).toUInt32 % 65536).toInt32 ∧ M' = M)  := by
  refine z_Mi_of _ (by decide +kernel) rfl (Nat.le_of_ble_eq_true rfl) (fun X hl hG hnm C ret => ?_)
  subst hl; subst hG
  have C : z_C X cJ5_charAt_5068e RJ5 5 (z_rm 3 0 0) := C
  show z_W X M 0 0 0 [(0, .ref sb), (1, .int (nI i))] []
  refine z_aload_n C dJ5_charAt_5068e_0 rfl 0 rfl ?_
  refine gf_J5_22 C h_sb dJ5_charAt_5068e_1 ?_
  refine z_istore_n (lv' := [(2, .int 0), (0, .ref sb), (1, .int (nI i))]) C dJ5_charAt_5068e_4 rfl (by decide) rfl ?_
  refine z_aload_n C dJ5_charAt_5068e_5 rfl 1 rfl ?_
  refine gf_J5_15 C h_sb dJ5_charAt_5068e_6 ?_
  refine z_astore_n (lv' := [(3, .ref vb), (2, .int 0), (0, .ref sb), (1, .int (nI i))]) C dJ5_charAt_5068e_9 rfl (by decide) rfl ?_
  refine z_aload_n C dJ5_charAt_5068e_10 rfl 2 rfl ?_
  refine gf_J5_79 C h_sb dJ5_charAt_5068e_11 ?_
  refine z_aload_n C dJ5_charAt_5068e_14 rfl 0 rfl ?_
  refine z_alenB C (v := nI n) h_vb rfl dJ5_charAt_5068e_15 ?_
  refine z_iload_n C dJ5_charAt_5068e_16 rfl 1 rfl ?_
  refine z_ishr C dJ5_charAt_5068e_17 ?_
  rw [sb_shr0]
  refine z_callSi (rest := []) (k' := 0) (n' := 0) C (c_min_l (z_l X) (z_G X) (nI_le hcn (by omega))) (cs_J5_138 C (by decide)) rfl rfl (Nat.le_of_ble_eq_true rfl) rfl rfl (by decide) (by decide) dJ5_charAt_5068e_18 (fun x18 M' hq => ?_)
  obtain ⟨rfl, rfl⟩ := hq
  refine z_istore (lv' := [(4, .int (nI c)), (3, .ref vb), (2, .int 0), (0, .ref sb), (1, .int (nI i))]) C dJ5_charAt_5068e_21 (by decide) rfl ?_
  refine z_iload_n C dJ5_charAt_5068e_23 rfl 4 rfl ?_
  refine z_iload C dJ5_charAt_5068e_24 0 rfl ?_
  refine z_callSv (rest := []) (k' := 0) (n' := 0) C (c_J0_checkIndex_df160 (z_l X) (z_G X) (nI_pos' (by omega)) (nI_lt hi (by omega))) (cs_J5_144 C (by decide)) rfl rfl (Nat.le_of_ble_eq_true rfl) rfl rfl (by decide) (by decide) dJ5_charAt_5068e_26 (fun M' hq => ?_)
  obtain rfl := hq
  refine z_iload_n C dJ5_charAt_5068e_29 rfl 2 rfl ?_
  refine z_if_ne C (tgt := 42) dJ5_charAt_5068e_30 (by decide) (fun c30 => absurd (by decide) c30) (fun _ => ?_)
  refine z_aload_n C dJ5_charAt_5068e_33 rfl 1 rfl ?_
  refine z_iload_n C dJ5_charAt_5068e_34 rfl 4 rfl ?_
  refine z_bald (j := i) C h_vb (nI_in (by omega) (by omega)) (nI_clamp (by omega)) dJ5_charAt_5068e_35 ?_
  refine z_sipush C (v := 255) dJ5_charAt_5068e_36 (by decide) ?_
  refine z_iand C dJ5_charAt_5068e_39 ?_
  refine z_i2c C dJ5_charAt_5068e_40 ?_
  exact ret dJ5_charAt_5068e_41 (j_nc _) (⟨rfl, rfl⟩) (by decide) (by decide)
set_option maxRecDepth 20000 in
theorem c_J4_charAt_5068e (l : Launch) (G : zG) {M : zM} {sb : Nat} {vb : Nat} {ml : Int32} {n : Nat} {f : Nat → Int32} {c i : Nat} (h_sb : M sb = some (cSb vb 0 ml (nI c))) (h_vb : M vb = some (aB G n f)) (hi : i < c) (hcn : c ≤ n) (hn : n ≤ 65536) : z_Mi l G qJ4_charAt_5068e (z_rm 4 0 0) [.ref sb, .int (nI i)] M (fun r M' => r = (((f i) &&& 255).toUInt32 % 65536).toInt32 ∧ M' = M)  := by
  refine z_Mi_of _ (by decide +kernel) rfl (Nat.le_of_ble_eq_true rfl) (fun X hl hG hnm C ret => ?_)
  subst hl; subst hG
  have C : z_C X cJ4_charAt_5068e RJ4 2 (z_rm 4 0 0) := C
  show z_W X M 0 0 0 [(0, .ref sb), (1, .int (nI i))] []
  refine z_aload_n C dJ4_charAt_5068e_0 rfl 0 rfl ?_
  refine z_iload_n C dJ4_charAt_5068e_1 rfl 1 rfl ?_
  refine z_callPi (rest := []) (k' := 0) (n' := 0) C (c_J5_charAt_5068e (z_l X) (z_G X) h_sb h_vb hi hcn hn) (cs_J4_329 C (by decide)) h_sb trivial trivial rfl rfl (Nat.le_of_ble_eq_true rfl) rfl rfl (by decide) (by decide) dJ4_charAt_5068e_2 (fun x2 M' hq => ?_)
  obtain ⟨rfl, rfl⟩ := hq
  exact ret dJ4_charAt_5068e_5 (j_nc _) (⟨rfl, rfl⟩) (by decide) (by decide)
