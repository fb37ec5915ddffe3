section
/-! PART 41: the JDK's builder and String: what is said of lengths and places, not of letters -/
section JC
variable {X : zX} {cc : ByteArray} {nL : Nat} {rm : Room} {rmc : Room}
theorem cs_J0_549 (C : z_C X cc RJ0 nL rm) (hR : rmc.frames + 1 ≤ rm.frames ∧ 8 + (1 + 11) + rmc.locals ≤ rm.locals) : va_CU (z_R X) (z_s X) (z_a X) RJ0 RJ4 (qJ5_length_8abf5).1.cls 549 (qJ5_length_8abf5).1 (qJ4_length_8abf5).1 (qJ4_length_8abf5).2.1 (qJ4_length_8abf5).2.2.1 (qJ4_length_8abf5).2.2.2 (z_ws qJ4_length_8abf5) rmc rmc.cells rmc.slots 0 := z_cwU (q := qJ4_length_8abf5) (x := (qJ5_length_8abf5).1) C kc_J4_length_8abf5 kw353 (z_tow C kw356) kw355 kw354 kc_J5_length_8abf5 kw357 kw6 (by decide +kernel) hR
theorem cs_J0_552 (C : z_C X cc RJ0 nL rm) (hR : rmc.frames + 1 ≤ rm.frames ∧ 8 + (1 + 11) + rmc.locals ≤ rm.locals) : va_CU (z_R X) (z_s X) (z_a X) RJ0 RJ4 (qJ5_getValue_6d5f1).1.cls 552 (qJ5_getValue_6d5f1).1 (qJ5_getValue_6d5f1).1 (qJ5_getValue_6d5f1).2.1 (qJ5_getValue_6d5f1).2.2.1 (qJ5_getValue_6d5f1).2.2.2 (z_ws qJ5_getValue_6d5f1) rmc rmc.cells rmc.slots 0 := z_cwU (q := qJ5_getValue_6d5f1) (x := (qJ5_getValue_6d5f1).1) C kc_J5_getValue_6d5f1 kw348 (z_tow C kw351) kw350 kw349 kc_J5_getValue_6d5f1 kw349 kw5 (by decide +kernel) hR
theorem cs_J0_1047 (C : z_C X cc RJ0 nL rm) (hR : rmc.frames + 1 ≤ rm.frames ∧ 8 + (1 + 11) + rmc.locals ≤ rm.locals) : va_CU (z_R X) (z_s X) (z_a X) RJ0 RJ4 (qJ5_isLatin1_aae02).1.cls 1047 (qJ5_isLatin1_aae02).1 (qJ5_isLatin1_aae02).1 (qJ5_isLatin1_aae02).2.1 (qJ5_isLatin1_aae02).2.2.1 (qJ5_isLatin1_aae02).2.2.2 (z_ws qJ5_isLatin1_aae02) rmc rmc.cells rmc.slots 0 := z_cwU (q := qJ5_isLatin1_aae02) (x := (qJ5_isLatin1_aae02).1) C kc_J5_isLatin1_aae02 kw361 (z_tow C kw239) kw238 kw237 kc_J5_isLatin1_aae02 kw237 kw5 (by decide +kernel) hR
theorem cs_J4_29 (C : z_C X cc RJ4 nL rm) (hR : rmc.frames + 1 ≤ rm.frames ∧ 8 + (3 + 11) + rmc.locals ≤ rm.locals) : va_CS (z_R X) (z_s X) (z_a X) RJ4 29 (qJ5_append_cf1ce).1 (qJ5_append_cf1ce).2.1 (qJ5_append_cf1ce).2.2.1 (qJ5_append_cf1ce).2.2.2 (z_ws qJ5_append_cf1ce) rmc rmc.cells rmc.slots 1 := z_cwP (q := qJ5_append_cf1ce) C kc_J5_append_cf1ce kw194 kw1373 kw126 kw195 kw5 (by decide +kernel) hR
theorem cs_J4_50 (C : z_C X cc RJ4 nL rm) (hR : rmc.frames + 1 ≤ rm.frames ∧ 8 + (2 + 11) + rmc.locals ≤ rm.locals) : va_CS (z_R X) (z_s X) (z_a X) RJ4 50 (qJ5_append_3fe6f).1 (qJ5_append_3fe6f).2.1 (qJ5_append_3fe6f).2.2.1 (qJ5_append_3fe6f).2.2.2 (z_ws qJ5_append_3fe6f) rmc rmc.cells rmc.slots 1 := z_cwP (q := qJ5_append_3fe6f) C kc_J5_append_3fe6f kw522 kw1382 kw126 kw523 kw5 (by decide +kernel) hR
theorem cs_J4_53 (C : z_C X cc RJ4 nL rm) (hR : rmc.frames + 1 ≤ rm.frames ∧ 8 + (4 + 11) + rmc.locals ≤ rm.locals) : va_CS (z_R X) (z_s X) (z_a X) RJ4 53 (qJ5_append_c97b9).1 (qJ5_append_c97b9).2.1 (qJ5_append_c97b9).2.2.1 (qJ5_append_c97b9).2.2.2 (z_ws qJ5_append_c97b9) rmc rmc.cells rmc.slots 1 := z_cwP (q := qJ5_append_c97b9) C kc_J5_append_c97b9 kw314 kw1380 kw126 kw315 kw5 (by decide +kernel) hR
theorem cs_J4_56 (C : z_C X cc RJ4 nL rm) (hR : rmc.frames + 1 ≤ rm.frames ∧ 8 + (5 + 11) + rmc.locals ≤ rm.locals) : va_CS (z_R X) (z_s X) (z_a X) RJ4 56 (qJ5_append_66267).1 (qJ5_append_66267).2.1 (qJ5_append_66267).2.2.1 (qJ5_append_66267).2.2.2 (z_ws qJ5_append_66267) rmc rmc.cells rmc.slots 1 := z_cwP (q := qJ5_append_66267) C kc_J5_append_66267 kw1264 kw1385 kw126 kw1265 kw5 (by decide +kernel) hR
theorem cs_J4_329 (C : z_C X cc RJ4 nL rm) (hR : rmc.frames + 1 ≤ rm.frames ∧ 8 + (5 + 11) + rmc.locals ≤ rm.locals) : va_CS (z_R X) (z_s X) (z_a X) RJ4 329 (qJ5_charAt_5068e).1 (qJ5_charAt_5068e).2.1 (qJ5_charAt_5068e).2.2.1 (qJ5_charAt_5068e).2.2.2 (z_ws qJ5_charAt_5068e) rmc rmc.cells rmc.slots 1 := z_cwP (q := qJ5_charAt_5068e) C kc_J5_charAt_5068e kw666 kw1384 kw126 kw667 kw5 (by decide +kernel) hR
theorem cs_J4_333 (C : z_C X cc RJ4 nL rm) (hR : rmc.frames + 1 ≤ rm.frames ∧ 8 + (2 + 11) + rmc.locals ≤ rm.locals) : va_CS (z_R X) (z_s X) (z_a X) RJ4 333 (qJ5_setLength_d00df).1 (qJ5_setLength_d00df).2.1 (qJ5_setLength_d00df).2.2.1 (qJ5_setLength_d00df).2.2.2 (z_ws qJ5_setLength_d00df) rmc rmc.cells rmc.slots 1 := z_cwP (q := qJ5_setLength_d00df) C kc_J5_setLength_d00df kw179 kw1372 kw126 kw180 kw5 (by decide +kernel) hR
theorem cs_J4_343 (C : z_C X cc RJ4 nL rm) (hR : rmc.frames + 1 ≤ rm.frames ∧ 8 + (1 + 11) + rmc.locals ≤ rm.locals) : va_CS (z_R X) (z_s X) (z_a X) RJ4 343 (qJ5_length_8abf5).1 (qJ5_length_8abf5).2.1 (qJ5_length_8abf5).2.2.1 (qJ5_length_8abf5).2.2.2 (z_ws qJ5_length_8abf5) rmc rmc.cells rmc.slots 0 := z_cwP (q := qJ5_length_8abf5) C kc_J5_length_8abf5 kw359 kw355 kw126 kw354 kw5 (by decide +kernel) hR
theorem cs_J5_83 (C : z_C X cc RJ5 nL rm) (hR : rmc.frames + 1 ≤ rm.frames ∧ 8 + (1 + 11) + rmc.locals ≤ rm.locals) : va_CU (z_R X) (z_s X) (z_a X) RJ5 RJ4 (qJ5_isLatin1_aae02).1.cls 83 (qJ5_isLatin1_aae02).1 (qJ5_isLatin1_aae02).1 (qJ5_isLatin1_aae02).2.1 (qJ5_isLatin1_aae02).2.2.1 (qJ5_isLatin1_aae02).2.2.2 (z_ws qJ5_isLatin1_aae02) rmc rmc.cells rmc.slots 0 := z_cwU (q := qJ5_isLatin1_aae02) (x := (qJ5_isLatin1_aae02).1) C kc_J5_isLatin1_aae02 kw236 (z_tow C kw239) kw238 kw237 kc_J5_isLatin1_aae02 kw237 kw5 (by decide +kernel) hR
theorem cs_J5_100 (C : z_C X cc RJ5 nL rm) (hR : rmc.frames + 1 ≤ rm.frames ∧ 8 + (3 + 11) + rmc.locals ≤ rm.locals) : va_CU (z_R X) (z_s X) (z_a X) RJ5 RJ4 (qJ5_ensureCapacityInternal_d00df).1.cls 100 (qJ5_ensureCapacityInternal_d00df).1 (qJ5_ensureCapacityInternal_d00df).1 (qJ5_ensureCapacityInternal_d00df).2.1 (qJ5_ensureCapacityInternal_d00df).2.2.1 (qJ5_ensureCapacityInternal_d00df).2.2.2 (z_ws qJ5_ensureCapacityInternal_d00df) rmc rmc.cells rmc.slots 1 := z_cwU (q := qJ5_ensureCapacityInternal_d00df) (x := (qJ5_ensureCapacityInternal_d00df).1) C kc_J5_ensureCapacityInternal_d00df kw201 (z_selP C (y := yJ5_ensureCapacityInternal_d00df) (by simp [z_pSB])) kw1375 kw203 kc_J5_ensureCapacityInternal_d00df kw203 kw5 (by decide +kernel) hR
theorem cs_J5_104 (C : z_C X cc RJ5 nL rm) (hR : rmc.frames + 1 ≤ rm.frames ∧ 8 + (6 + 11) + rmc.locals ≤ rm.locals) : va_CU (z_R X) (z_s X) (z_a X) RJ5 RJ4 (qJ5_newCapacity_0f7a4).1.cls 104 (qJ5_newCapacity_0f7a4).1 (qJ5_newCapacity_0f7a4).1 (qJ5_newCapacity_0f7a4).2.1 (qJ5_newCapacity_0f7a4).2.2.1 (qJ5_newCapacity_0f7a4).2.2.2 (z_ws qJ5_newCapacity_0f7a4) rmc rmc.cells rmc.slots 1 := z_cwU (q := qJ5_newCapacity_0f7a4) (x := (qJ5_newCapacity_0f7a4).1) C kc_J5_newCapacity_0f7a4 kw205 (z_selP C (y := yJ5_newCapacity_0f7a4) (by simp [z_pSB])) kw1376 kw207 kc_J5_newCapacity_0f7a4 kw207 kw5 (by decide +kernel) hR
theorem cs_J5_208 (C : z_C X cc RJ5 nL rm) (hR : rmc.frames + 1 ≤ rm.frames ∧ 8 + (3 + 11) + rmc.locals ≤ rm.locals) : va_CU (z_R X) (z_s X) (z_a X) RJ5 RJ4 (qJ5_putStringAt_47b60).1.cls 208 (qJ5_putStringAt_47b60).1 (qJ5_putStringAt_47b60).1 (qJ5_putStringAt_47b60).2.1 (qJ5_putStringAt_47b60).2.2.1 (qJ5_putStringAt_47b60).2.2.2 (z_ws qJ5_putStringAt_47b60) rmc rmc.cells rmc.slots 2 := z_cwU (q := qJ5_putStringAt_47b60) (x := (qJ5_putStringAt_47b60).1) C kc_J5_putStringAt_47b60 kw276 (z_selP C (y := yJ5_putStringAt_47b60) (by simp [z_pSB])) kw1377 kw278 kc_J5_putStringAt_47b60 kw278 kw5 (by decide +kernel) hR
theorem cs_J5_397 (C : z_C X cc RJ5 nL rm) (hR : rmc.frames + 1 ≤ rm.frames ∧ 8 + (2 + 11) + rmc.locals ≤ rm.locals) : va_CU (z_R X) (z_s X) (z_a X) RJ5 RJ4 (qJ5_inflateIfNeededFor_a7421).1.cls 397 (qJ5_inflateIfNeededFor_a7421).1 (qJ5_inflateIfNeededFor_a7421).1 (qJ5_inflateIfNeededFor_a7421).2.1 (qJ5_inflateIfNeededFor_a7421).2.2.1 (qJ5_inflateIfNeededFor_a7421).2.2.2 (z_ws qJ5_inflateIfNeededFor_a7421) rmc rmc.cells rmc.slots 1 := z_cwU (q := qJ5_inflateIfNeededFor_a7421) (x := (qJ5_inflateIfNeededFor_a7421).1) C kc_J5_inflateIfNeededFor_a7421 kw280 (z_selP C (y := yJ5_inflateIfNeededFor_a7421) (by simp [z_pSB])) kw1378 kw282 kc_J5_inflateIfNeededFor_a7421 kw282 kw5 (by decide +kernel) hR
end JC
theorem j_fit {c n : Nat} (h : c ≤ n) (hn : n ≤ 65536) : nI c - nI n ≤ 0 := by
  have h1 := nI_toInt (n := c) (by omega)
  have h2 := nI_toInt (n := n) (by omega)
  rw [z_le, z_t0, fb_subI (by omega) (by omega)]
  omega
theorem j_grow {c n : Nat} (h : n < c) (hc : c ≤ 65536) : ¬ nI c - nI n ≤ 0 := by
  have h1 := nI_toInt (n := c) (by omega)
  have h2 := nI_toInt (n := n) (by omega)
  rw [z_le, z_t0, fb_subI (by omega) (by omega)]
  omega
theorem j_max {c n : Nat} (h : n < c) (hc : c ≤ 2 * n + 2) (hn : n ≤ 30000) : nI c - nI n ≤ nI n + 2 := by
  have h1 := nI_toInt (n := c) (by omega)
  have h2 := nI_toInt (n := n) (by omega)
  have h3 : (2 : Int32).toInt = 2 := by decide
  rw [z_le, fb_subI (by omega) (by omega), fb_addI (by omega) (by omega)]
  omega
theorem j_two {n : Nat} (hn : n ≤ 30000) : nI n + (nI n + 2) = nI (2 * n + 2) := by
  have h2 := nI_toInt (n := n) (by omega)
  have h3 : (2 : Int32).toInt = 2 := by decide
  have h4 := nI_toInt (n := 2 * n + 2) (by omega)
  have h5 : (nI n + 2).toInt = n + 2 := by rw [fb_addI (by omega) (by omega), h2, h3]
  rw [z_eqI, fb_addI (by omega) (by omega)]
  omega
theorem j_nl0 {n : Nat} (hn : n ≤ 30000) : 0 < nI n + (nI n + 2) := by
  rw [j_two hn, z_ltI, nI_toInt (by omega), z_t0]
  omega
theorem j_nl1 {n : Nat} (hn : n ≤ 30000) : nI n + (nI n + 2) ≤ 2147483639 := by
  have h9 : (2147483639 : Int32).toInt = 2147483639 := by decide
  rw [j_two hn, z_le, nI_toInt (by omega), h9]
  omega
theorem j_ne {a b : Nat} (h : a ≠ b) (ha : a < 2 ^ 31) (hb : b < 2 ^ 31) : ¬ nI a = nI b := by
  intro q
  have h1 := nI_toInt ha
  have h2 := nI_toInt hb
  rw [q] at h1
  omega
theorem j_nc (x : Int32) : narrow .char (.int (x.toUInt32 % 65536).toInt32) = .int (x.toUInt32 % 65536).toInt32 := by
  show Value.int _ = Value.int _
  congr 1
  apply Int32.toBitVec_inj.mp
  apply BitVec.eq_of_toNat_eq
  simp [BitVec.toNat_setWidth, BitVec.toNat_umod]
theorem j_fitN (x : Int32) : fits .byte (.int (vp_nar .byte x)) = true := pk_fb _
theorem j_fitU {f : Nat → Int32} (h : sb_Fit f) (k : Nat) (x : Int32) : sb_Fit (upd f k (vp_nar .byte x)) := sb_fitU h (j_fitN x)
theorem j_fitG {f : Nat → Int32} (h : sb_Fit f) (n : Nat) : sb_Fit (va_cpy f (fun _ => 0) 0 0 n) := sb_fitC h sb_fit0
theorem dJ5_isLatin1_aae02_0 : decode cJ5_isLatin1_aae02 0 = .ok (.getstatic 18, 3) := by decide +kernel
theorem dJ5_isLatin1_aae02_3 : decode cJ5_isLatin1_aae02 3 = .ok (.ifCond .eq 14, 3) := by decide +kernel
theorem dJ5_isLatin1_aae02_6 : decode cJ5_isLatin1_aae02 6 = .ok (.aload_n 0, 1) := by decide +kernel
theorem dJ5_isLatin1_aae02_7 : decode cJ5_isLatin1_aae02 7 = .ok (.getfield 22, 3) := by decide +kernel
theorem dJ5_isLatin1_aae02_10 : decode cJ5_isLatin1_aae02 10 = .ok (.ifCond .ne 7, 3) := by decide +kernel
theorem dJ5_isLatin1_aae02_13 : decode cJ5_isLatin1_aae02 13 = .ok (.iconst 1, 1) := by decide +kernel
theorem dJ5_isLatin1_aae02_14 : decode cJ5_isLatin1_aae02 14 = .ok (.goto 4, 3) := by decide +kernel
theorem dJ5_isLatin1_aae02_18 : decode cJ5_isLatin1_aae02 18 = .ok (.ireturn, 1) := by decide +kernel
theorem dJ5_getValue_6d5f1_0 : decode cJ5_getValue_6d5f1 0 = .ok (.aload_n 0, 1) := by decide +kernel
theorem dJ5_getValue_6d5f1_1 : decode cJ5_getValue_6d5f1 1 = .ok (.getfield 15, 3) := by decide +kernel
theorem dJ5_getValue_6d5f1_4 : decode cJ5_getValue_6d5f1 4 = .ok (.areturn, 1) := by decide +kernel
theorem dJ5_length_8abf5_0 : decode cJ5_length_8abf5 0 = .ok (.aload_n 0, 1) := by decide +kernel
theorem dJ5_length_8abf5_1 : decode cJ5_length_8abf5 1 = .ok (.getfield 79, 3) := by decide +kernel
theorem dJ5_length_8abf5_4 : decode cJ5_length_8abf5 4 = .ok (.ireturn, 1) := by decide +kernel
theorem dJ4_length_8abf5_0 : decode cJ4_length_8abf5 0 = .ok (.aload_n 0, 1) := by decide +kernel
theorem dJ4_length_8abf5_1 : decode cJ4_length_8abf5 1 = .ok (.invokespecial 343, 3) := by decide +kernel
theorem dJ4_length_8abf5_4 : decode cJ4_length_8abf5 4 = .ok (.ireturn, 1) := by decide +kernel
theorem dJ1_canEncode_fc78d_0 : decode cJ1_canEncode_fc78d 0 = .ok (.iload_n 0, 1) := by decide +kernel
theorem dJ1_canEncode_fc78d_1 : decode cJ1_canEncode_fc78d 1 = .ok (.sipush 255, 3) := by decide +kernel
theorem dJ1_canEncode_fc78d_4 : decode cJ1_canEncode_fc78d 4 = .ok (.if_icmp .gt 7, 3) := by decide +kernel
theorem dJ1_canEncode_fc78d_7 : decode cJ1_canEncode_fc78d 7 = .ok (.iconst 1, 1) := by decide +kernel
theorem dJ1_canEncode_fc78d_8 : decode cJ1_canEncode_fc78d 8 = .ok (.goto 4, 3) := by decide +kernel
theorem dJ1_canEncode_fc78d_12 : decode cJ1_canEncode_fc78d 12 = .ok (.ireturn, 1) := by decide +kernel
theorem dJ9_max_7cf53_0 : decode cJ9_max_7cf53 0 = .ok (.iload_n 0, 1) := by decide +kernel
theorem dJ9_max_7cf53_1 : decode cJ9_max_7cf53 1 = .ok (.iload_n 1, 1) := by decide +kernel
theorem dJ9_max_7cf53_2 : decode cJ9_max_7cf53 2 = .ok (.if_icmp .lt 7, 3) := by decide +kernel
theorem dJ9_max_7cf53_5 : decode cJ9_max_7cf53 5 = .ok (.iload_n 0, 1) := by decide +kernel
theorem dJ9_max_7cf53_6 : decode cJ9_max_7cf53 6 = .ok (.goto 4, 3) := by decide +kernel
theorem dJ9_max_7cf53_9 : decode cJ9_max_7cf53 9 = .ok (.iload_n 1, 1) := by decide +kernel
theorem dJ9_max_7cf53_10 : decode cJ9_max_7cf53 10 = .ok (.ireturn, 1) := by decide +kernel
theorem dJ8_newLength_cabcc_0 : decode cJ8_newLength_cabcc 0 = .ok (.iload_n 0, 1) := by decide +kernel
theorem dJ8_newLength_cabcc_1 : decode cJ8_newLength_cabcc 1 = .ok (.iload_n 1, 1) := by decide +kernel
theorem dJ8_newLength_cabcc_2 : decode cJ8_newLength_cabcc 2 = .ok (.iload_n 2, 1) := by decide +kernel
theorem dJ8_newLength_cabcc_3 : decode cJ8_newLength_cabcc 3 = .ok (.invokestatic 194, 3) := by decide +kernel
theorem dJ8_newLength_cabcc_6 : decode cJ8_newLength_cabcc 6 = .ok (.iadd, 1) := by decide +kernel
theorem dJ8_newLength_cabcc_7 : decode cJ8_newLength_cabcc 7 = .ok (.istore_n 3, 1) := by decide +kernel
theorem dJ8_newLength_cabcc_8 : decode cJ8_newLength_cabcc 8 = .ok (.iconst 0, 1) := by decide +kernel
theorem dJ8_newLength_cabcc_9 : decode cJ8_newLength_cabcc 9 = .ok (.iload_n 3, 1) := by decide +kernel
theorem dJ8_newLength_cabcc_10 : decode cJ8_newLength_cabcc 10 = .ok (.if_icmp .ge 11, 3) := by decide +kernel
theorem dJ8_newLength_cabcc_13 : decode cJ8_newLength_cabcc 13 = .ok (.iload_n 3, 1) := by decide +kernel
theorem dJ8_newLength_cabcc_14 : decode cJ8_newLength_cabcc 14 = .ok (.ldc 200, 2) := by decide +kernel
theorem dJ8_newLength_cabcc_16 : decode cJ8_newLength_cabcc 16 = .ok (.if_icmp .gt 5, 3) := by decide +kernel
theorem dJ8_newLength_cabcc_19 : decode cJ8_newLength_cabcc 19 = .ok (.iload_n 3, 1) := by decide +kernel
theorem dJ8_newLength_cabcc_20 : decode cJ8_newLength_cabcc 20 = .ok (.ireturn, 1) := by decide +kernel
theorem dJ5_newCapacity_0f7a4_0 : decode cJ5_newCapacity_0f7a4 0 = .ok (.aload_n 0, 1) := by decide +kernel
theorem dJ5_newCapacity_0f7a4_1 : decode cJ5_newCapacity_0f7a4 1 = .ok (.getfield 15, 3) := by decide +kernel
theorem dJ5_newCapacity_0f7a4_4 : decode cJ5_newCapacity_0f7a4 4 = .ok (.arraylength, 1) := by decide +kernel
theorem dJ5_newCapacity_0f7a4_5 : decode cJ5_newCapacity_0f7a4 5 = .ok (.istore_n 2, 1) := by decide +kernel
theorem dJ5_newCapacity_0f7a4_6 : decode cJ5_newCapacity_0f7a4 6 = .ok (.iload_n 1, 1) := by decide +kernel
theorem dJ5_newCapacity_0f7a4_7 : decode cJ5_newCapacity_0f7a4 7 = .ok (.aload_n 0, 1) := by decide +kernel
theorem dJ5_newCapacity_0f7a4_8 : decode cJ5_newCapacity_0f7a4 8 = .ok (.getfield 22, 3) := by decide +kernel
theorem dJ5_newCapacity_0f7a4_11 : decode cJ5_newCapacity_0f7a4 11 = .ok (.ishl, 1) := by decide +kernel
theorem dJ5_newCapacity_0f7a4_12 : decode cJ5_newCapacity_0f7a4 12 = .ok (.istore_n 3, 1) := by decide +kernel
theorem dJ5_newCapacity_0f7a4_13 : decode cJ5_newCapacity_0f7a4 13 = .ok (.iload_n 3, 1) := by decide +kernel
theorem dJ5_newCapacity_0f7a4_14 : decode cJ5_newCapacity_0f7a4 14 = .ok (.iload_n 2, 1) := by decide +kernel
theorem dJ5_newCapacity_0f7a4_15 : decode cJ5_newCapacity_0f7a4 15 = .ok (.isub, 1) := by decide +kernel
theorem dJ5_newCapacity_0f7a4_16 : decode cJ5_newCapacity_0f7a4 16 = .ok (.istore 4, 2) := by decide +kernel
theorem dJ5_newCapacity_0f7a4_18 : decode cJ5_newCapacity_0f7a4 18 = .ok (.iload_n 2, 1) := by decide +kernel
theorem dJ5_newCapacity_0f7a4_19 : decode cJ5_newCapacity_0f7a4 19 = .ok (.iload 4, 2) := by decide +kernel
theorem dJ5_newCapacity_0f7a4_21 : decode cJ5_newCapacity_0f7a4 21 = .ok (.iload_n 2, 1) := by decide +kernel
theorem dJ5_newCapacity_0f7a4_22 : decode cJ5_newCapacity_0f7a4 22 = .ok (.iconst 2, 1) := by decide +kernel
theorem dJ5_newCapacity_0f7a4_23 : decode cJ5_newCapacity_0f7a4 23 = .ok (.aload_n 0, 1) := by decide +kernel
theorem dJ5_newCapacity_0f7a4_24 : decode cJ5_newCapacity_0f7a4 24 = .ok (.getfield 22, 3) := by decide +kernel
theorem dJ5_newCapacity_0f7a4_27 : decode cJ5_newCapacity_0f7a4 27 = .ok (.ishl, 1) := by decide +kernel
theorem dJ5_newCapacity_0f7a4_28 : decode cJ5_newCapacity_0f7a4 28 = .ok (.iadd, 1) := by decide +kernel
theorem dJ5_newCapacity_0f7a4_29 : decode cJ5_newCapacity_0f7a4 29 = .ok (.invokestatic 114, 3) := by decide +kernel
theorem dJ5_newCapacity_0f7a4_32 : decode cJ5_newCapacity_0f7a4 32 = .ok (.istore 5, 2) := by decide +kernel
theorem dJ5_newCapacity_0f7a4_34 : decode cJ5_newCapacity_0f7a4 34 = .ok (.iload 5, 2) := by decide +kernel
theorem dJ5_newCapacity_0f7a4_36 : decode cJ5_newCapacity_0f7a4 36 = .ok (.ldc 39, 2) := by decide +kernel
theorem dJ5_newCapacity_0f7a4_38 : decode cJ5_newCapacity_0f7a4 38 = .ok (.if_icmp .ne 13, 3) := by decide +kernel
theorem dJ5_newCapacity_0f7a4_51 : decode cJ5_newCapacity_0f7a4 51 = .ok (.iload 5, 2) := by decide +kernel
theorem dJ5_newCapacity_0f7a4_53 : decode cJ5_newCapacity_0f7a4 53 = .ok (.aload_n 0, 1) := by decide +kernel
theorem dJ5_newCapacity_0f7a4_54 : decode cJ5_newCapacity_0f7a4 54 = .ok (.getfield 22, 3) := by decide +kernel
theorem dJ5_newCapacity_0f7a4_57 : decode cJ5_newCapacity_0f7a4 57 = .ok (.ishr, 1) := by decide +kernel
theorem dJ5_newCapacity_0f7a4_58 : decode cJ5_newCapacity_0f7a4 58 = .ok (.ireturn, 1) := by decide +kernel
theorem dJ7_copyOf_9075b_0 : decode cJ7_copyOf_9075b 0 = .ok (.iload_n 1, 1) := by decide +kernel
theorem dJ7_copyOf_9075b_1 : decode cJ7_copyOf_9075b 1 = .ok (.aload_n 0, 1) := by decide +kernel
theorem dJ7_copyOf_9075b_2 : decode cJ7_copyOf_9075b 2 = .ok (.arraylength, 1) := by decide +kernel
theorem dJ7_copyOf_9075b_3 : decode cJ7_copyOf_9075b 3 = .ok (.if_icmp .ne 11, 3) := by decide +kernel
theorem dJ7_copyOf_9075b_14 : decode cJ7_copyOf_9075b 14 = .ok (.iload_n 1, 1) := by decide +kernel
theorem dJ7_copyOf_9075b_15 : decode cJ7_copyOf_9075b 15 = .ok (.newarray .byte, 2) := by decide +kernel
theorem dJ7_copyOf_9075b_17 : decode cJ7_copyOf_9075b 17 = .ok (.astore_n 2, 1) := by decide +kernel
theorem dJ7_copyOf_9075b_18 : decode cJ7_copyOf_9075b 18 = .ok (.aload_n 0, 1) := by decide +kernel
theorem dJ7_copyOf_9075b_19 : decode cJ7_copyOf_9075b 19 = .ok (.iconst 0, 1) := by decide +kernel
theorem dJ7_copyOf_9075b_20 : decode cJ7_copyOf_9075b 20 = .ok (.aload_n 2, 1) := by decide +kernel
theorem dJ7_copyOf_9075b_21 : decode cJ7_copyOf_9075b 21 = .ok (.iconst 0, 1) := by decide +kernel
theorem dJ7_copyOf_9075b_22 : decode cJ7_copyOf_9075b 22 = .ok (.aload_n 0, 1) := by decide +kernel
theorem dJ7_copyOf_9075b_23 : decode cJ7_copyOf_9075b 23 = .ok (.arraylength, 1) := by decide +kernel
theorem dJ7_copyOf_9075b_24 : decode cJ7_copyOf_9075b 24 = .ok (.iload_n 1, 1) := by decide +kernel
theorem dJ7_copyOf_9075b_25 : decode cJ7_copyOf_9075b 25 = .ok (.invokestatic 304, 3) := by decide +kernel
theorem dJ7_copyOf_9075b_28 : decode cJ7_copyOf_9075b 28 = .ok (.invokestatic 150, 3) := by decide +kernel
theorem dJ7_copyOf_9075b_31 : decode cJ7_copyOf_9075b 31 = .ok (.aload_n 2, 1) := by decide +kernel
theorem dJ7_copyOf_9075b_32 : decode cJ7_copyOf_9075b 32 = .ok (.areturn, 1) := by decide +kernel
theorem dJ5_ensureCapacityInternal_d00df_0 : decode cJ5_ensureCapacityInternal_d00df 0 = .ok (.aload_n 0, 1) := by decide +kernel
theorem dJ5_ensureCapacityInternal_d00df_1 : decode cJ5_ensureCapacityInternal_d00df 1 = .ok (.getfield 15, 3) := by decide +kernel
theorem dJ5_ensureCapacityInternal_d00df_4 : decode cJ5_ensureCapacityInternal_d00df 4 = .ok (.arraylength, 1) := by decide +kernel
theorem dJ5_ensureCapacityInternal_d00df_5 : decode cJ5_ensureCapacityInternal_d00df 5 = .ok (.aload_n 0, 1) := by decide +kernel
theorem dJ5_ensureCapacityInternal_d00df_6 : decode cJ5_ensureCapacityInternal_d00df 6 = .ok (.getfield 22, 3) := by decide +kernel
theorem dJ5_ensureCapacityInternal_d00df_9 : decode cJ5_ensureCapacityInternal_d00df 9 = .ok (.ishr, 1) := by decide +kernel
theorem dJ5_ensureCapacityInternal_d00df_10 : decode cJ5_ensureCapacityInternal_d00df 10 = .ok (.istore_n 2, 1) := by decide +kernel
theorem dJ5_ensureCapacityInternal_d00df_11 : decode cJ5_ensureCapacityInternal_d00df 11 = .ok (.iload_n 1, 1) := by decide +kernel
theorem dJ5_ensureCapacityInternal_d00df_12 : decode cJ5_ensureCapacityInternal_d00df 12 = .ok (.iload_n 2, 1) := by decide +kernel
theorem dJ5_ensureCapacityInternal_d00df_13 : decode cJ5_ensureCapacityInternal_d00df 13 = .ok (.isub, 1) := by decide +kernel
theorem dJ5_ensureCapacityInternal_d00df_14 : decode cJ5_ensureCapacityInternal_d00df 14 = .ok (.ifCond .le 24, 3) := by decide +kernel
theorem dJ5_ensureCapacityInternal_d00df_17 : decode cJ5_ensureCapacityInternal_d00df 17 = .ok (.aload_n 0, 1) := by decide +kernel
theorem dJ5_ensureCapacityInternal_d00df_18 : decode cJ5_ensureCapacityInternal_d00df 18 = .ok (.aload_n 0, 1) := by decide +kernel
theorem dJ5_ensureCapacityInternal_d00df_19 : decode cJ5_ensureCapacityInternal_d00df 19 = .ok (.getfield 15, 3) := by decide +kernel
theorem dJ5_ensureCapacityInternal_d00df_22 : decode cJ5_ensureCapacityInternal_d00df 22 = .ok (.aload_n 0, 1) := by decide +kernel
theorem dJ5_ensureCapacityInternal_d00df_23 : decode cJ5_ensureCapacityInternal_d00df 23 = .ok (.iload_n 1, 1) := by decide +kernel
theorem dJ5_ensureCapacityInternal_d00df_24 : decode cJ5_ensureCapacityInternal_d00df 24 = .ok (.invokevirtual 104, 3) := by decide +kernel
theorem dJ5_ensureCapacityInternal_d00df_27 : decode cJ5_ensureCapacityInternal_d00df 27 = .ok (.aload_n 0, 1) := by decide +kernel
theorem dJ5_ensureCapacityInternal_d00df_28 : decode cJ5_ensureCapacityInternal_d00df 28 = .ok (.getfield 22, 3) := by decide +kernel
theorem dJ5_ensureCapacityInternal_d00df_31 : decode cJ5_ensureCapacityInternal_d00df 31 = .ok (.ishl, 1) := by decide +kernel
theorem dJ5_ensureCapacityInternal_d00df_32 : decode cJ5_ensureCapacityInternal_d00df 32 = .ok (.invokestatic 108, 3) := by decide +kernel
theorem dJ5_ensureCapacityInternal_d00df_35 : decode cJ5_ensureCapacityInternal_d00df 35 = .ok (.putfield 15, 3) := by decide +kernel
theorem dJ5_ensureCapacityInternal_d00df_38 : decode cJ5_ensureCapacityInternal_d00df 38 = .ok (.return_, 1) := by decide +kernel
theorem dJ5_append_3fe6f_0 : decode cJ5_append_3fe6f 0 = .ok (.aload_n 0, 1) := by decide +kernel
theorem dJ5_append_3fe6f_1 : decode cJ5_append_3fe6f 1 = .ok (.aload_n 0, 1) := by decide +kernel
theorem dJ5_append_3fe6f_2 : decode cJ5_append_3fe6f 2 = .ok (.getfield 79, 3) := by decide +kernel
theorem dJ5_append_3fe6f_5 : decode cJ5_append_3fe6f 5 = .ok (.iconst 1, 1) := by decide +kernel
theorem dJ5_append_3fe6f_6 : decode cJ5_append_3fe6f 6 = .ok (.iadd, 1) := by decide +kernel
theorem dJ5_append_3fe6f_7 : decode cJ5_append_3fe6f 7 = .ok (.invokevirtual 100, 3) := by decide +kernel
theorem dJ5_append_3fe6f_10 : decode cJ5_append_3fe6f 10 = .ok (.aload_n 0, 1) := by decide +kernel
theorem dJ5_append_3fe6f_11 : decode cJ5_append_3fe6f 11 = .ok (.invokevirtual 83, 3) := by decide +kernel
theorem dJ5_append_3fe6f_14 : decode cJ5_append_3fe6f 14 = .ok (.ifCond .eq 31, 3) := by decide +kernel
theorem dJ5_append_3fe6f_17 : decode cJ5_append_3fe6f 17 = .ok (.iload_n 1, 1) := by decide +kernel
theorem dJ5_append_3fe6f_18 : decode cJ5_append_3fe6f 18 = .ok (.invokestatic 191, 3) := by decide +kernel
theorem dJ5_append_3fe6f_21 : decode cJ5_append_3fe6f 21 = .ok (.ifCond .eq 24, 3) := by decide +kernel
theorem dJ5_append_3fe6f_24 : decode cJ5_append_3fe6f 24 = .ok (.aload_n 0, 1) := by decide +kernel
theorem dJ5_append_3fe6f_25 : decode cJ5_append_3fe6f 25 = .ok (.getfield 15, 3) := by decide +kernel
theorem dJ5_append_3fe6f_28 : decode cJ5_append_3fe6f 28 = .ok (.aload_n 0, 1) := by decide +kernel
theorem dJ5_append_3fe6f_29 : decode cJ5_append_3fe6f 29 = .ok (.dup, 1) := by decide +kernel
theorem dJ5_append_3fe6f_30 : decode cJ5_append_3fe6f 30 = .ok (.getfield 79, 3) := by decide +kernel
theorem dJ5_append_3fe6f_33 : decode cJ5_append_3fe6f 33 = .ok (.dup_x1, 1) := by decide +kernel
theorem dJ5_append_3fe6f_34 : decode cJ5_append_3fe6f 34 = .ok (.iconst 1, 1) := by decide +kernel
theorem dJ5_append_3fe6f_35 : decode cJ5_append_3fe6f 35 = .ok (.iadd, 1) := by decide +kernel
theorem dJ5_append_3fe6f_36 : decode cJ5_append_3fe6f 36 = .ok (.putfield 79, 3) := by decide +kernel
theorem dJ5_append_3fe6f_39 : decode cJ5_append_3fe6f 39 = .ok (.iload_n 1, 1) := by decide +kernel
theorem dJ5_append_3fe6f_40 : decode cJ5_append_3fe6f 40 = .ok (.i2b, 1) := by decide +kernel
theorem dJ5_append_3fe6f_41 : decode cJ5_append_3fe6f 41 = .ok (.bastore, 1) := by decide +kernel
theorem dJ5_append_3fe6f_42 : decode cJ5_append_3fe6f 42 = .ok (.goto 33, 3) := by decide +kernel
theorem dJ5_append_3fe6f_75 : decode cJ5_append_3fe6f 75 = .ok (.aload_n 0, 1) := by decide +kernel
theorem dJ5_append_3fe6f_76 : decode cJ5_append_3fe6f 76 = .ok (.areturn, 1) := by decide +kernel
theorem dJ4_append_cf468_0 : decode cJ4_append_cf468 0 = .ok (.aload_n 0, 1) := by decide +kernel
theorem dJ4_append_cf468_1 : decode cJ4_append_cf468 1 = .ok (.iload_n 1, 1) := by decide +kernel
theorem dJ4_append_cf468_2 : decode cJ4_append_cf468 2 = .ok (.invokespecial 50, 3) := by decide +kernel
theorem dJ4_append_cf468_5 : decode cJ4_append_cf468 5 = .ok (.pop, 1) := by decide +kernel
theorem dJ4_append_cf468_6 : decode cJ4_append_cf468 6 = .ok (.aload_n 0, 1) := by decide +kernel
theorem dJ4_append_cf468_7 : decode cJ4_append_cf468 7 = .ok (.areturn, 1) := by decide +kernel
theorem dJ5_setLength_d00df_0 : decode cJ5_setLength_d00df 0 = .ok (.iload_n 1, 1) := by decide +kernel
theorem dJ5_setLength_d00df_1 : decode cJ5_setLength_d00df 1 = .ok (.ifCond .ge 12, 3) := by decide +kernel
theorem dJ5_setLength_d00df_13 : decode cJ5_setLength_d00df 13 = .ok (.aload_n 0, 1) := by decide +kernel
theorem dJ5_setLength_d00df_14 : decode cJ5_setLength_d00df 14 = .ok (.iload_n 1, 1) := by decide +kernel
theorem dJ5_setLength_d00df_15 : decode cJ5_setLength_d00df 15 = .ok (.invokevirtual 100, 3) := by decide +kernel
theorem dJ5_setLength_d00df_18 : decode cJ5_setLength_d00df 18 = .ok (.aload_n 0, 1) := by decide +kernel
theorem dJ5_setLength_d00df_19 : decode cJ5_setLength_d00df 19 = .ok (.getfield 79, 3) := by decide +kernel
theorem dJ5_setLength_d00df_22 : decode cJ5_setLength_d00df 22 = .ok (.iload_n 1, 1) := by decide +kernel
theorem dJ5_setLength_d00df_23 : decode cJ5_setLength_d00df 23 = .ok (.if_icmp .ge 40, 3) := by decide +kernel
theorem dJ5_setLength_d00df_63 : decode cJ5_setLength_d00df 63 = .ok (.aload_n 0, 1) := by decide +kernel
theorem dJ5_setLength_d00df_64 : decode cJ5_setLength_d00df 64 = .ok (.getfield 79, 3) := by decide +kernel
theorem dJ5_setLength_d00df_67 : decode cJ5_setLength_d00df 67 = .ok (.iload_n 1, 1) := by decide +kernel
theorem dJ5_setLength_d00df_68 : decode cJ5_setLength_d00df 68 = .ok (.if_icmp .le 8, 3) := by decide +kernel
theorem dJ5_setLength_d00df_71 : decode cJ5_setLength_d00df 71 = .ok (.aload_n 0, 1) := by decide +kernel
theorem dJ5_setLength_d00df_72 : decode cJ5_setLength_d00df 72 = .ok (.iconst 1, 1) := by decide +kernel
theorem dJ5_setLength_d00df_73 : decode cJ5_setLength_d00df 73 = .ok (.putfield 73, 3) := by decide +kernel
theorem dJ5_setLength_d00df_76 : decode cJ5_setLength_d00df 76 = .ok (.aload_n 0, 1) := by decide +kernel
theorem dJ5_setLength_d00df_77 : decode cJ5_setLength_d00df 77 = .ok (.iload_n 1, 1) := by decide +kernel
theorem dJ5_setLength_d00df_78 : decode cJ5_setLength_d00df 78 = .ok (.putfield 79, 3) := by decide +kernel
theorem dJ5_setLength_d00df_81 : decode cJ5_setLength_d00df 81 = .ok (.return_, 1) := by decide +kernel
theorem dJ4_setLength_d00df_0 : decode cJ4_setLength_d00df 0 = .ok (.aload_n 0, 1) := by decide +kernel
theorem dJ4_setLength_d00df_1 : decode cJ4_setLength_d00df 1 = .ok (.iload_n 1, 1) := by decide +kernel
theorem dJ4_setLength_d00df_2 : decode cJ4_setLength_d00df 2 = .ok (.invokespecial 333, 3) := by decide +kernel
theorem dJ4_setLength_d00df_5 : decode cJ4_setLength_d00df 5 = .ok (.return_, 1) := by decide +kernel
theorem dJ3_checkIndex_8e157_0 : decode cJ3_checkIndex_8e157 0 = .ok (.iload_n 0, 1) := by decide +kernel
theorem dJ3_checkIndex_8e157_1 : decode cJ3_checkIndex_8e157 1 = .ok (.ifCond .lt 8, 3) := by decide +kernel
theorem dJ3_checkIndex_8e157_4 : decode cJ3_checkIndex_8e157 4 = .ok (.iload_n 0, 1) := by decide +kernel
theorem dJ3_checkIndex_8e157_5 : decode cJ3_checkIndex_8e157 5 = .ok (.iload_n 1, 1) := by decide +kernel
theorem dJ3_checkIndex_8e157_6 : decode cJ3_checkIndex_8e157 6 = .ok (.if_icmp .lt 10, 3) := by decide +kernel
theorem dJ3_checkIndex_8e157_16 : decode cJ3_checkIndex_8e157 16 = .ok (.iload_n 0, 1) := by decide +kernel
theorem dJ3_checkIndex_8e157_17 : decode cJ3_checkIndex_8e157 17 = .ok (.ireturn, 1) := by decide +kernel
theorem dJ0_checkIndex_df160_0 : decode cJ0_checkIndex_df160 0 = .ok (.iload_n 0, 1) := by decide +kernel
theorem dJ0_checkIndex_df160_1 : decode cJ0_checkIndex_df160 1 = .ok (.iload_n 1, 1) := by decide +kernel
theorem dJ0_checkIndex_df160_2 : decode cJ0_checkIndex_df160 2 = .ok (.getstatic 1053, 3) := by decide +kernel
theorem dJ0_checkIndex_df160_5 : decode cJ0_checkIndex_df160 5 = .ok (.invokestatic 1059, 3) := by decide +kernel
theorem dJ0_checkIndex_df160_8 : decode cJ0_checkIndex_df160 8 = .ok (.pop, 1) := by decide +kernel
theorem dJ0_checkIndex_df160_9 : decode cJ0_checkIndex_df160 9 = .ok (.return_, 1) := by decide +kernel
theorem dJ5_charAt_5068e_0 : decode cJ5_charAt_5068e 0 = .ok (.aload_n 0, 1) := by decide +kernel
theorem dJ5_charAt_5068e_1 : decode cJ5_charAt_5068e 1 = .ok (.getfield 22, 3) := by decide +kernel
theorem dJ5_charAt_5068e_4 : decode cJ5_charAt_5068e 4 = .ok (.istore_n 2, 1) := by decide +kernel
theorem dJ5_charAt_5068e_5 : decode cJ5_charAt_5068e 5 = .ok (.aload_n 0, 1) := by decide +kernel
theorem dJ5_charAt_5068e_6 : decode cJ5_charAt_5068e 6 = .ok (.getfield 15, 3) := by decide +kernel
theorem dJ5_charAt_5068e_9 : decode cJ5_charAt_5068e 9 = .ok (.astore_n 3, 1) := by decide +kernel
theorem dJ5_charAt_5068e_10 : decode cJ5_charAt_5068e 10 = .ok (.aload_n 0, 1) := by decide +kernel
theorem dJ5_charAt_5068e_11 : decode cJ5_charAt_5068e 11 = .ok (.getfield 79, 3) := by decide +kernel
theorem dJ5_charAt_5068e_14 : decode cJ5_charAt_5068e 14 = .ok (.aload_n 3, 1) := by decide +kernel
theorem dJ5_charAt_5068e_15 : decode cJ5_charAt_5068e 15 = .ok (.arraylength, 1) := by decide +kernel
theorem dJ5_charAt_5068e_16 : decode cJ5_charAt_5068e 16 = .ok (.iload_n 2, 1) := by decide +kernel
theorem dJ5_charAt_5068e_17 : decode cJ5_charAt_5068e 17 = .ok (.ishr, 1) := by decide +kernel
theorem dJ5_charAt_5068e_18 : decode cJ5_charAt_5068e 18 = .ok (.invokestatic 138, 3) := by decide +kernel
theorem dJ5_charAt_5068e_21 : decode cJ5_charAt_5068e 21 = .ok (.istore 4, 2) := by decide +kernel
theorem dJ5_charAt_5068e_23 : decode cJ5_charAt_5068e 23 = .ok (.iload_n 1, 1) := by decide +kernel
theorem dJ5_charAt_5068e_24 : decode cJ5_charAt_5068e 24 = .ok (.iload 4, 2) := by decide +kernel
theorem dJ5_charAt_5068e_26 : decode cJ5_charAt_5068e 26 = .ok (.invokestatic 144, 3) := by decide +kernel
theorem dJ5_charAt_5068e_29 : decode cJ5_charAt_5068e 29 = .ok (.iload_n 2, 1) := by decide +kernel
theorem dJ5_charAt_5068e_30 : decode cJ5_charAt_5068e 30 = .ok (.ifCond .ne 12, 3) := by decide +kernel
theorem dJ5_charAt_5068e_33 : decode cJ5_charAt_5068e 33 = .ok (.aload_n 3, 1) := by decide +kernel
theorem dJ5_charAt_5068e_34 : decode cJ5_charAt_5068e 34 = .ok (.iload_n 1, 1) := by decide +kernel
theorem dJ5_charAt_5068e_35 : decode cJ5_charAt_5068e 35 = .ok (.baload, 1) := by decide +kernel
theorem dJ5_charAt_5068e_36 : decode cJ5_charAt_5068e 36 = .ok (.sipush 255, 3) := by decide +kernel
theorem dJ5_charAt_5068e_39 : decode cJ5_charAt_5068e 39 = .ok (.iand, 1) := by decide +kernel
theorem dJ5_charAt_5068e_40 : decode cJ5_charAt_5068e 40 = .ok (.i2c, 1) := by decide +kernel
theorem dJ5_charAt_5068e_41 : decode cJ5_charAt_5068e 41 = .ok (.ireturn, 1) := by decide +kernel
theorem dJ4_charAt_5068e_0 : decode cJ4_charAt_5068e 0 = .ok (.aload_n 0, 1) := by decide +kernel
theorem dJ4_charAt_5068e_1 : decode cJ4_charAt_5068e 1 = .ok (.iload_n 1, 1) := by decide +kernel
theorem dJ4_charAt_5068e_2 : decode cJ4_charAt_5068e 2 = .ok (.invokespecial 329, 3) := by decide +kernel
theorem dJ4_charAt_5068e_5 : decode cJ4_charAt_5068e 5 = .ok (.ireturn, 1) := by decide +kernel
set_option maxRecDepth 20000 in
theorem c_J5_isLatin1_aae02 (l : Launch) (G : zG) {M : zM} {sb : Nat} {vb : Nat} {ml : Int32} {ct : Int32}  (h_sb : M sb = some (cSb vb 0 ml ct))  : z_Mi l G qJ5_isLatin1_aae02 (z_rm 1 0 0) [.ref sb] M (fun r M' => r = 1 ∧ M' = M)  := by
  refine z_Mi_of _ (by decide +kernel) rfl (Nat.le_of_ble_eq_true rfl) (fun X hl hG hnm C ret => ?_)
  subst hl; subst hG
  have C : z_C X cJ5_isLatin1_aae02 RJ5 1 (z_rm 1 0 0) := C
  show z_W X M 0 0 0 [(0, .ref sb)] []
  refine z_gsZ C kw104 dJ5_isLatin1_aae02_0 ?_
  refine z_if_eq C (tgt := 17) dJ5_isLatin1_aae02_3 (by decide) (fun c3 => absurd c3 (by decide)) (fun _ => ?_)
  refine z_aload_n C dJ5_isLatin1_aae02_6 rfl 0 rfl ?_
  refine gf_J5_22 C h_sb dJ5_isLatin1_aae02_7 ?_
  refine z_if_ne C (tgt := 17) dJ5_isLatin1_aae02_10 (by decide) (fun c10 => absurd (by decide) c10) (fun _ => ?_)
  refine z_iconst C (v := 1) dJ5_isLatin1_aae02_13 (by decide) ?_
  refine z_goto C (tgt := 18) dJ5_isLatin1_aae02_14 (by decide) ?_
  exact ret dJ5_isLatin1_aae02_18 rfl (⟨rfl, rfl⟩) (by decide) (by decide)
set_option maxRecDepth 20000 in
theorem c_J5_getValue_6d5f1 (l : Launch) (G : zG) {M : zM} {sb : Nat} {vb : Nat} {co : Int32} {ml : Int32} {ct : Int32}  (h_sb : M sb = some (cSb vb co ml ct))  : z_Mr l G qJ5_getValue_6d5f1 (z_rm 1 0 0) [.ref sb] M (fun r M' => r = vb ∧ M' = M)  := by
  refine z_Mr_of _ (by decide +kernel) rfl (by first | exact Or.inl ⟨_, rfl⟩ | exact Or.inr ⟨_, rfl⟩) (Nat.le_of_ble_eq_true rfl) (fun X hl hG hnm C ret => ?_)
  subst hl; subst hG
  have C : z_C X cJ5_getValue_6d5f1 RJ5 1 (z_rm 1 0 0) := C
  show z_W X M 0 0 0 [(0, .ref sb)] []
  refine z_aload_n C dJ5_getValue_6d5f1_0 rfl 0 rfl ?_
  refine gf_J5_15 C h_sb dJ5_getValue_6d5f1_1 ?_
  exact ret dJ5_getValue_6d5f1_4 (⟨rfl, rfl⟩) (by decide) (by decide)
set_option maxRecDepth 20000 in
theorem c_J5_length_8abf5 (l : Launch) (G : zG) {M : zM} {sb : Nat} {vb : Nat} {co : Int32} {ml : Int32} {ct : Int32}  (h_sb : M sb = some (cSb vb co ml ct))  : z_Mi l G qJ5_length_8abf5 (z_rm 1 0 0) [.ref sb] M (fun r M' => r = ct ∧ M' = M)  := by
  refine z_Mi_of _ (by decide +kernel) rfl (Nat.le_of_ble_eq_true rfl) (fun X hl hG hnm C ret => ?_)
  subst hl; subst hG
  have C : z_C X cJ5_length_8abf5 RJ5 1 (z_rm 1 0 0) := C
  show z_W X M 0 0 0 [(0, .ref sb)] []
  refine z_aload_n C dJ5_length_8abf5_0 rfl 0 rfl ?_
  refine gf_J5_79 C h_sb dJ5_length_8abf5_1 ?_
  exact ret dJ5_length_8abf5_4 rfl (⟨rfl, rfl⟩) (by decide) (by decide)
set_option maxRecDepth 20000 in
theorem c_J4_length_8abf5 (l : Launch) (G : zG) {M : zM} {sb : Nat} {vb : Nat} {co : Int32} {ml : Int32} {ct : Int32}  (h_sb : M sb = some (cSb vb co ml ct))  : z_Mi l G qJ4_length_8abf5 (z_rm 2 0 0) [.ref sb] M (fun r M' => r = ct ∧ M' = M)  := by
  refine z_Mi_of _ (by decide +kernel) rfl (Nat.le_of_ble_eq_true rfl) (fun X hl hG hnm C ret => ?_)
  subst hl; subst hG
  have C : z_C X cJ4_length_8abf5 RJ4 1 (z_rm 2 0 0) := C
  show z_W X M 0 0 0 [(0, .ref sb)] []
  refine z_aload_n C dJ4_length_8abf5_0 rfl 0 rfl ?_
  refine z_callPi (rest := []) (k' := 0) (n' := 0) C (c_J5_length_8abf5 (z_l X) (z_G X) h_sb) (cs_J4_343 C (by decide)) h_sb trivial trivial rfl rfl (Nat.le_of_ble_eq_true rfl) rfl rfl (by decide) (by decide) dJ4_length_8abf5_1 (fun x1 M' hq => ?_)
  obtain ⟨hr1, rfl⟩ := hq
  rw [hr1]
  exact ret dJ4_length_8abf5_4 rfl (⟨rfl, rfl⟩) (by decide) (by decide)
set_option maxRecDepth 20000 in
theorem c_J1_canEncode_fc78d (l : Launch) (G : zG) {M : zM} {ch : Int32}   (hc : ch ≤ 255) : z_Mi l G qJ1_canEncode_fc78d (z_rm 1 0 0) [.int ch] M (fun r M' => r = 1 ∧ M' = M)  := by
  refine z_Mi_of _ (by decide +kernel) rfl (Nat.le_of_ble_eq_true rfl) (fun X hl hG hnm C ret => ?_)
  subst hl; subst hG
  have C : z_C X cJ1_canEncode_fc78d RJ1 1 (z_rm 1 0 0) := C
  show z_W X M 0 0 0 [(0, .int ch)] []
  refine z_iload_n C dJ1_canEncode_fc78d_0 rfl 0 rfl ?_
  refine z_sipush C (v := 255) dJ1_canEncode_fc78d_1 (by decide) ?_
  refine z_icmp_gt C (tgt := 11) dJ1_canEncode_fc78d_4 (by decide) (fun c4 => absurd c4 (Int32.not_lt.mpr hc)) (fun _ => ?_)
  refine z_iconst C (v := 1) dJ1_canEncode_fc78d_7 (by decide) ?_
  refine z_goto C (tgt := 12) dJ1_canEncode_fc78d_8 (by decide) ?_
  exact ret dJ1_canEncode_fc78d_12 rfl (⟨rfl, rfl⟩) (by decide) (by decide)
set_option maxRecDepth 20000 in
theorem c_J9_max_7cf53 (l : Launch) (G : zG) {M : zM} {a : Int32} {b : Int32}   (hm : a ≤ b) : z_Mi l G qJ9_max_7cf53 (z_rm 1 0 0) [.int a, .int b] M (fun r M' => r = b ∧ M' = M)  := by
  refine z_Mi_of _ (by decide +kernel) rfl (Nat.le_of_ble_eq_true rfl) (fun X hl hG hnm C ret => ?_)
  subst hl; subst hG
  have C : z_C X cJ9_max_7cf53 RJ9 2 (z_rm 1 0 0) := C
  show z_W X M 0 0 0 [(0, .int a), (1, .int b)] []
  refine z_iload_n C dJ9_max_7cf53_0 rfl 0 rfl ?_
  refine z_iload_n C dJ9_max_7cf53_1 rfl 1 rfl ?_
  refine z_icmp_lt C (tgt := 9) dJ9_max_7cf53_2 (by decide) (fun c2 => ?_) (fun c2 => ?_)
  · refine z_iload_n C dJ9_max_7cf53_9 rfl 1 rfl ?_
    refine ret dJ9_max_7cf53_10 rfl ?_ (by decide) (by decide)
    exact ⟨rfl, rfl⟩
  · refine z_iload_n C dJ9_max_7cf53_5 rfl 0 rfl ?_
    refine z_goto C (tgt := 10) dJ9_max_7cf53_6 (by decide) ?_
    refine ret dJ9_max_7cf53_10 rfl ?_ (by decide) (by decide)
    exact ⟨Int32.le_antisymm hm (Int32.not_lt.mp c2), rfl⟩
set_option maxRecDepth 20000 in
theorem c_min_l (l : Launch) (G : zG) {M : zM} {a : Int32} {b : Int32}   (hm : a ≤ b) : z_Mi l G qJ9_min_7cf53 (z_rm 1 0 0) [.int a, .int b] M (fun r M' => r = a ∧ M' = M)  := by
  refine z_Mi_of _ (by decide +kernel) rfl (Nat.le_of_ble_eq_true rfl) (fun X hl hG hnm C ret => ?_)
  subst hl; subst hG
  have C : z_C X cJ9_min_7cf53 RJ9 2 (z_rm 1 0 0) := C
  show z_W X M 0 0 0 [(0, .int a), (1, .int b)] []
  refine z_iload_n C dJ9_min_7cf53_0 rfl 0 rfl ?_
  refine z_iload_n C dJ9_min_7cf53_1 rfl 1 rfl ?_
  refine z_icmp_gt C (tgt := 9) dJ9_min_7cf53_2 (by decide) (fun c2 => absurd c2 (Int32.not_lt.mpr hm)) (fun _ => ?_)
  refine z_iload_n C dJ9_min_7cf53_5 rfl 0 rfl ?_
  refine z_goto C (tgt := 10) dJ9_min_7cf53_6 (by decide) ?_
  exact ret dJ9_min_7cf53_10 rfl (⟨rfl, rfl⟩) (by decide) (by decide)
set_option maxRecDepth 20000 in
theorem c_min_r (l : Launch) (G : zG) {M : zM} {a : Int32} {b : Int32}   (hm : b ≤ a) : z_Mi l G qJ9_min_7cf53 (z_rm 1 0 0) [.int a, .int b] M (fun r M' => r = b ∧ M' = M)  := by
  refine z_Mi_of _ (by decide +kernel) rfl (Nat.le_of_ble_eq_true rfl) (fun X hl hG hnm C ret => ?_)
  subst hl; subst hG
  have C : z_C X cJ9_min_7cf53 RJ9 2 (z_rm 1 0 0) := C
  show z_W X M 0 0 0 [(0, .int a), (1, .int b)] []
  refine z_iload_n C dJ9_min_7cf53_0 rfl 0 rfl ?_
  refine z_iload_n C dJ9_min_7cf53_1 rfl 1 rfl ?_
  refine z_icmp_gt C (tgt := 9) dJ9_min_7cf53_2 (by decide) (fun c2 => ?_) (fun c2 => ?_)
  · refine z_iload_n C dJ9_min_7cf53_9 rfl 1 rfl ?_
    refine ret dJ9_min_7cf53_10 rfl ?_ (by decide) (by decide)
    exact ⟨rfl, rfl⟩
  · refine z_iload_n C dJ9_min_7cf53_5 rfl 0 rfl ?_
    refine z_goto C (tgt := 10) dJ9_min_7cf53_6 (by decide) ?_
    refine ret dJ9_min_7cf53_10 rfl ?_ (by decide) (by decide)
    exact ⟨Int32.le_antisymm (Int32.not_lt.mp c2) hm, rfl⟩
set_option maxRecDepth 20000 in
theorem c_J8_newLength_cabcc (l : Launch) (G : zG) {M : zM} {a : Int32} {b : Int32} {e : Int32}   (hm : b ≤ e) (h0 : 0 < a + e) (h1 : a + e ≤ 2147483639) : z_Mi l G qJ8_newLength_cabcc (z_rm 2 0 0) [.int a, .int b, .int e] M (fun r M' => r = a + e ∧ M' = M)  := by
  refine z_Mi_of _ (by decide +kernel) rfl (Nat.le_of_ble_eq_true rfl) (fun X hl hG hnm C ret => ?_)
  subst hl; subst hG
  have C : z_C X cJ8_newLength_cabcc RJ8 4 (z_rm 2 0 0) := C
  show z_W X M 0 0 0 [(0, .int a), (1, .int b), (2, .int e)] []
  refine z_iload_n C dJ8_newLength_cabcc_0 rfl 0 rfl ?_
  refine z_iload_n C dJ8_newLength_cabcc_1 rfl 1 rfl ?_
  refine z_iload_n C dJ8_newLength_cabcc_2 rfl 2 rfl ?_
  refine z_callSi (rest := [.int a]) (k' := 0) (n' := 0) C (c_J9_max_7cf53 (z_l X) (z_G X) hm) (cs_J8_194 C (by decide)) rfl rfl (Nat.le_of_ble_eq_true rfl) rfl rfl (by decide) (by decide) dJ8_newLength_cabcc_3 (fun x3 M' hq => ?_)
  obtain ⟨hr3, rfl⟩ := hq
  rw [hr3]
  refine z_iadd C dJ8_newLength_cabcc_6 ?_
  refine z_istore_n (lv' := [(3, .int (a + e)), (0, .int a), (1, .int b), (2, .int e)]) C dJ8_newLength_cabcc_7 rfl (by decide) rfl ?_
  refine z_iconst C (v := 0) dJ8_newLength_cabcc_8 (by decide) ?_
  refine z_iload_n C dJ8_newLength_cabcc_9 rfl 0 rfl ?_
  refine z_icmp_ge C (tgt := 21) dJ8_newLength_cabcc_10 (by decide) (fun c10 => absurd c10 (Int32.not_le.mpr h0)) (fun _ => ?_)
  refine z_iload_n C dJ8_newLength_cabcc_13 rfl 0 rfl ?_
  refine z_ldc C (v := 2147483639) kw215 dJ8_newLength_cabcc_14 ?_
  refine z_icmp_gt C (tgt := 21) dJ8_newLength_cabcc_16 (by decide) (fun c16 => absurd c16 (Int32.not_lt.mpr h1)) (fun _ => ?_)
  refine z_iload_n C dJ8_newLength_cabcc_19 rfl 0 rfl ?_
  exact ret dJ8_newLength_cabcc_20 rfl (⟨rfl, rfl⟩) (by decide) (by decide)
set_option maxRecDepth 20000 in
theorem c_J5_newCapacity_0f7a4 (l : Launch) (G : zG) {M : zM} {sb : Nat} {vb : Nat} {ml : Int32} {n : Nat} {f : Nat → Int32} {c d : Nat} (h_sb : M sb = some (cSb vb 0 ml (nI c))) (h_vb : M vb = some (aB G n f)) (h0 : n < d) (h1 : d ≤ 2 * n + 2) (hn : n ≤ 30000) : z_Mi l G qJ5_newCapacity_0f7a4 (z_rm 3 0 0) [.ref sb, .int (nI d)] M (fun r M' => r = nI (2 * n + 2) ∧ M' = M)  := by
  refine z_Mi_of _ (by decide +kernel) rfl (Nat.le_of_ble_eq_true rfl) (fun X hl hG hnm C ret => ?_)
  subst hl; subst hG
  have C : z_C X cJ5_newCapacity_0f7a4 RJ5 6 (z_rm 3 0 0) := C
  show z_W X M 0 0 0 [(0, .ref sb), (1, .int (nI d))] []
  refine z_aload_n C dJ5_newCapacity_0f7a4_0 rfl 0 rfl ?_
  refine gf_J5_15 C h_sb dJ5_newCapacity_0f7a4_1 ?_
  refine z_alenB C (v := nI n) h_vb rfl dJ5_newCapacity_0f7a4_4 ?_
  refine z_istore_n (lv' := [(2, .int (nI n)), (0, .ref sb), (1, .int (nI d))]) C dJ5_newCapacity_0f7a4_5 rfl (by decide) rfl ?_
  refine z_iload_n C dJ5_newCapacity_0f7a4_6 rfl 2 rfl ?_
  refine z_aload_n C dJ5_newCapacity_0f7a4_7 rfl 1 rfl ?_
  refine gf_J5_22 C h_sb dJ5_newCapacity_0f7a4_8 ?_
  refine z_ishl C dJ5_newCapacity_0f7a4_11 ?_
  rw [sb_shl0]
  refine z_istore_n (lv' := [(3, .int (nI d)), (2, .int (nI n)), (0, .ref sb), (1, .int (nI d))]) C dJ5_newCapacity_0f7a4_12 rfl (by decide) rfl ?_
  refine z_iload_n C dJ5_newCapacity_0f7a4_13 rfl 0 rfl ?_
  refine z_iload_n C dJ5_newCapacity_0f7a4_14 rfl 1 rfl ?_
  refine z_isub C dJ5_newCapacity_0f7a4_15 ?_
  refine z_istore (lv' := [(4, .int ((nI d) - (nI n))), (3, .int (nI d)), (2, .int (nI n)), (0, .ref sb), (1, .int (nI d))]) C dJ5_newCapacity_0f7a4_16 (by decide) rfl ?_
  refine z_iload_n C dJ5_newCapacity_0f7a4_18 rfl 2 rfl ?_
  refine z_iload C dJ5_newCapacity_0f7a4_19 0 rfl ?_
  refine z_iload_n C dJ5_newCapacity_0f7a4_21 rfl 2 rfl ?_
  refine z_iconst C (v := 2) dJ5_newCapacity_0f7a4_22 (by decide) ?_
  refine z_aload_n C dJ5_newCapacity_0f7a4_23 rfl 3 rfl ?_
  refine gf_J5_22 C h_sb dJ5_newCapacity_0f7a4_24 ?_
  refine z_ishl C dJ5_newCapacity_0f7a4_27 ?_
  rw [sb_shl0]
  refine z_iadd C dJ5_newCapacity_0f7a4_28 ?_
  refine z_callSi (rest := []) (k' := 0) (n' := 0) C (c_J8_newLength_cabcc (z_l X) (z_G X) (j_max h0 h1 hn) (j_nl0 hn) (j_nl1 hn)) (cs_J5_114 C (by decide)) rfl rfl (Nat.le_of_ble_eq_true rfl) rfl rfl (by decide) (by decide) dJ5_newCapacity_0f7a4_29 (fun x29 M' hq => ?_)
  obtain ⟨rfl, rfl⟩ := hq
  rw [show (((nI n) + ((nI n) + 2)) : Int32) = nI (2 * n + 2) from (j_two hn)]
  refine z_istore (lv' := [(5, .int (nI (2 * n + 2))), (4, .int ((nI d) - (nI n))), (3, .int (nI d)), (2, .int (nI n)), (0, .ref sb), (1, .int (nI d))]) C dJ5_newCapacity_0f7a4_32 (by decide) rfl ?_
  refine z_iload C dJ5_newCapacity_0f7a4_34 0 rfl ?_
  refine z_ldc C (v := 2147483647) kw219 dJ5_newCapacity_0f7a4_36 ?_
  refine z_icmp_ne C (tgt := 51) dJ5_newCapacity_0f7a4_38 (by decide) (fun _ => ?_) (fun c38 => absurd c38 (j_ne (a := 2 * n + 2) (b := 2147483647) (by omega) (by omega) (by decide)))
  refine z_iload C dJ5_newCapacity_0f7a4_51 0 rfl ?_
  refine z_aload_n C dJ5_newCapacity_0f7a4_53 rfl 4 rfl ?_
  refine gf_J5_22 C h_sb dJ5_newCapacity_0f7a4_54 ?_
  refine z_ishr C dJ5_newCapacity_0f7a4_57 ?_
  rw [sb_shr0]
  exact ret dJ5_newCapacity_0f7a4_58 rfl (⟨rfl, rfl⟩) (by decide) (by decide)
set_option maxRecDepth 20000 in
theorem c_J7_copyOf_9075b (l : Launch) (G : zG) {M : zM} {vb : Nat} {n : Nat} {f : Nat → Int32} {d : Nat} (h_vb : M vb = some (aB G n f)) (h0 : n < d) (hd : d ≤ 65536) (hf : sb_Fit f) : z_Mr l G qJ7_copyOf_9075b (z_rm 2 1 d) [.ref vb, .int (nI d)] M (fun r M' => ∃ q15 : Nat, (M) q15 = none ∧ r = q15 ∧ M' = z_up M q15 (aB G d (va_cpy f (fun _ => 0) 0 0 n)))  := by
  refine z_Mr_of _ (by decide +kernel) rfl (by first | exact Or.inl ⟨_, rfl⟩ | exact Or.inr ⟨_, rfl⟩) (Nat.le_of_ble_eq_true rfl) (fun X hl hG hnm C ret => ?_)
  subst hl; subst hG
  have C : z_C X cJ7_copyOf_9075b RJ7 3 (z_rm 2 1 d) := C
  show z_W X M 0 0 0 [(0, .ref vb), (1, .int (nI d))] []
  refine z_iload_n C dJ7_copyOf_9075b_0 rfl 1 rfl ?_
  refine z_aload_n C dJ7_copyOf_9075b_1 rfl 0 rfl ?_
  refine z_alenB C (v := nI n) h_vb rfl dJ7_copyOf_9075b_2 ?_
  refine z_icmp_ne C (tgt := 14) dJ7_copyOf_9075b_3 (by decide) (fun _ => ?_) (fun c3 => absurd c3 (j_ne (by omega) (by omega) (by omega)))
  refine z_iload_n C dJ7_copyOf_9075b_14 rfl 1 rfl ?_
  refine z_newB (N := d) C kw127 (nI_pos (by omega)) (nI_clamp (by omega)) (by omega) (Nat.le_of_ble_eq_true rfl) (by show _ ≤ d; omega) dJ7_copyOf_9075b_15 (fun q15 hq15 => ?_)
  refine z_kn (k' := 1) (n' := 0 + d) rfl rfl ?_
  refine z_astore_n (lv' := [(2, .ref q15), (0, .ref vb), (1, .int (nI d))]) C dJ7_copyOf_9075b_17 rfl (by decide) rfl ?_
  refine z_aload_n C dJ7_copyOf_9075b_18 rfl 1 rfl ?_
  refine z_iconst C (v := 0) dJ7_copyOf_9075b_19 (by decide) ?_
  refine z_aload_n C dJ7_copyOf_9075b_20 rfl 0 rfl ?_
  refine z_iconst C (v := 0) dJ7_copyOf_9075b_21 (by decide) ?_
  refine z_aload_n C dJ7_copyOf_9075b_22 rfl 1 rfl ?_
  refine z_alenB C (v := nI n) ((z_up_n _ _ (z_neN h_vb hq15)).trans h_vb) rfl dJ7_copyOf_9075b_23 ?_
  refine z_iload_n C dJ7_copyOf_9075b_24 rfl 2 rfl ?_
  refine z_callSi (rest := [.int 0, .ref q15, .int 0, .ref vb]) (k' := 1) (n' := 0 + d) C (c_min_l (z_l X) (z_G X) (nI_le (by omega) (by omega))) (cs_J7_304 C ⟨Nat.le_of_ble_eq_true rfl, Nat.le_of_ble_eq_true rfl⟩) rfl rfl (Nat.le_of_ble_eq_true rfl) rfl rfl (Nat.le_of_ble_eq_true rfl) (by show _ ≤ d; omega) dJ7_copyOf_9075b_25 (fun x25 M' hq => ?_)
  obtain ⟨rfl, rfl⟩ := hq
  refine z_copyN 0 0 n C kw233 ((z_up_n _ _ (z_neN h_vb hq15)).trans h_vb) (z_up_s _ _ _) (by decide) (by decide) (nI_pos (by omega)) (by decide) (by decide) (nI_clamp (by omega)) (by omega) (by omega) hf ⟨Nat.le_of_ble_eq_true rfl, Nat.le_of_ble_eq_true rfl⟩ (Nat.le_of_ble_eq_true rfl) dJ7_copyOf_9075b_28 ?_
  rw [z_up_up]
  refine z_aload_n C dJ7_copyOf_9075b_31 rfl 0 rfl ?_
  exact ret dJ7_copyOf_9075b_32 (⟨q15, hq15, rfl, rfl⟩) (Nat.le_of_ble_eq_true rfl) (by show _ ≤ d; omega)
set_option maxRecDepth 20000 in
theorem c_ens_fit (l : Launch) (G : zG) {M : zM} {sb : Nat} {vb : Nat} {ml : Int32} {n : Nat} {f : Nat → Int32} {c d : Nat} (h_sb : M sb = some (cSb vb 0 ml (nI c))) (h_vb : M vb = some (aB G n f)) (h0 : d ≤ n) (hn : n ≤ 65536) : z_Mv l G qJ5_ensureCapacityInternal_d00df (z_rm 1 0 0) [.ref sb, .int (nI d)] M (fun M' => M' = M)  := by
  refine z_Mv_of _ (by decide +kernel) rfl (Nat.le_of_ble_eq_true rfl) (fun X hl hG hnm C ret => ?_)
  subst hl; subst hG
  have C : z_C X cJ5_ensureCapacityInternal_d00df RJ5 3 (z_rm 1 0 0) := C
  show z_W X M 0 0 0 [(0, .ref sb), (1, .int (nI d))] []
  refine z_aload_n C dJ5_ensureCapacityInternal_d00df_0 rfl 0 rfl ?_
  refine gf_J5_15 C h_sb dJ5_ensureCapacityInternal_d00df_1 ?_
  refine z_alenB C (v := nI n) h_vb rfl dJ5_ensureCapacityInternal_d00df_4 ?_
  refine z_aload_n C dJ5_ensureCapacityInternal_d00df_5 rfl 0 rfl ?_
  refine gf_J5_22 C h_sb dJ5_ensureCapacityInternal_d00df_6 ?_
  refine z_ishr C dJ5_ensureCapacityInternal_d00df_9 ?_
  rw [sb_shr0]
  refine z_istore_n (lv' := [(2, .int (nI n)), (0, .ref sb), (1, .int (nI d))]) C dJ5_ensureCapacityInternal_d00df_10 rfl (by decide) rfl ?_
  refine z_iload_n C dJ5_ensureCapacityInternal_d00df_11 rfl 2 rfl ?_
  refine z_iload_n C dJ5_ensureCapacityInternal_d00df_12 rfl 0 rfl ?_
  refine z_isub C dJ5_ensureCapacityInternal_d00df_13 ?_
  refine z_if_le C (tgt := 38) dJ5_ensureCapacityInternal_d00df_14 (by decide) (fun _ => ?_) (fun c14 => absurd (j_fit h0 hn) c14)
  exact ret dJ5_ensureCapacityInternal_d00df_38 (rfl) (by decide) (by decide)
set_option maxRecDepth 20000 in
theorem c_ens_0 (l : Launch) (G : zG) {M : zM} {sb : Nat} {vb : Nat} {ml : Int32} {n : Nat} {f : Nat → Int32} {c : Nat} (h_sb : M sb = some (cSb vb 0 ml (nI c))) (h_vb : M vb = some (aB G n f)) (hn : n ≤ 65536) : z_Mv l G qJ5_ensureCapacityInternal_d00df (z_rm 1 0 0) [.ref sb, .int 0] M (fun M' => M' = M)  := by
  refine z_Mv_of _ (by decide +kernel) rfl (Nat.le_of_ble_eq_true rfl) (fun X hl hG hnm C ret => ?_)
  subst hl; subst hG
  have C : z_C X cJ5_ensureCapacityInternal_d00df RJ5 3 (z_rm 1 0 0) := C
  show z_W X M 0 0 0 [(0, .ref sb), (1, .int 0)] []
  refine z_aload_n C dJ5_ensureCapacityInternal_d00df_0 rfl 0 rfl ?_
  refine gf_J5_15 C h_sb dJ5_ensureCapacityInternal_d00df_1 ?_
  refine z_alenB C (v := nI n) h_vb rfl dJ5_ensureCapacityInternal_d00df_4 ?_
  refine z_aload_n C dJ5_ensureCapacityInternal_d00df_5 rfl 0 rfl ?_
  refine gf_J5_22 C h_sb dJ5_ensureCapacityInternal_d00df_6 ?_
  refine z_ishr C dJ5_ensureCapacityInternal_d00df_9 ?_
  rw [sb_shr0]
  refine z_istore_n (lv' := [(2, .int (nI n)), (0, .ref sb), (1, .int 0)]) C dJ5_ensureCapacityInternal_d00df_10 rfl (by decide) rfl ?_
  refine z_iload_n C dJ5_ensureCapacityInternal_d00df_11 rfl 2 rfl ?_
  refine z_iload_n C dJ5_ensureCapacityInternal_d00df_12 rfl 0 rfl ?_
  refine z_isub C dJ5_ensureCapacityInternal_d00df_13 ?_
  refine z_if_le C (tgt := 38) dJ5_ensureCapacityInternal_d00df_14 (by decide) (fun _ => ?_) (fun c14 => absurd (j_fit (c := 0) (by omega) hn) c14)
  exact ret dJ5_ensureCapacityInternal_d00df_38 (rfl) (by decide) (by decide)
set_option maxRecDepth 20000 in
theorem c_ens_grow (l : Launch) (G : zG) {M : zM} {sb : Nat} {vb : Nat} {ml : Int32} {n : Nat} {f : Nat → Int32} {c d : Nat} (h_sb : M sb = some (cSb vb 0 ml (nI c))) (h_vb : M vb = some (aB G n f)) (h0 : n < d) (h1 : d ≤ 2 * n + 2) (hn : n ≤ 30000) (hf : sb_Fit f) : z_Mv l G qJ5_ensureCapacityInternal_d00df (z_rm 4 1 (2 * n + 2)) [.ref sb, .int (nI d)] M (fun M' => ∃ q15_32 : Nat, (M) q15_32 = none ∧ M' = z_up (z_up M q15_32 (aB G (2 * n + 2) (va_cpy f (fun _ => 0) 0 0 n))) sb (cSb q15_32 0 ml (nI c)))  := by
  refine z_Mv_of _ (by decide +kernel) rfl (Nat.le_of_ble_eq_true rfl) (fun X hl hG hnm C ret => ?_)
  subst hl; subst hG
  have C : z_C X cJ5_ensureCapacityInternal_d00df RJ5 3 (z_rm 4 1 (2 * n + 2)) := C
  show z_W X M 0 0 0 [(0, .ref sb), (1, .int (nI d))] []
  refine z_aload_n C dJ5_ensureCapacityInternal_d00df_0 rfl 0 rfl ?_
  refine gf_J5_15 C h_sb dJ5_ensureCapacityInternal_d00df_1 ?_
  refine z_alenB C (v := nI n) h_vb rfl dJ5_ensureCapacityInternal_d00df_4 ?_
  refine z_aload_n C dJ5_ensureCapacityInternal_d00df_5 rfl 0 rfl ?_
  refine gf_J5_22 C h_sb dJ5_ensureCapacityInternal_d00df_6 ?_
  refine z_ishr C dJ5_ensureCapacityInternal_d00df_9 ?_
  rw [sb_shr0]
  refine z_istore_n (lv' := [(2, .int (nI n)), (0, .ref sb), (1, .int (nI d))]) C dJ5_ensureCapacityInternal_d00df_10 rfl (by decide) rfl ?_
  refine z_iload_n C dJ5_ensureCapacityInternal_d00df_11 rfl 2 rfl ?_
  refine z_iload_n C dJ5_ensureCapacityInternal_d00df_12 rfl 0 rfl ?_
  refine z_isub C dJ5_ensureCapacityInternal_d00df_13 ?_
  refine z_if_le C (tgt := 38) dJ5_ensureCapacityInternal_d00df_14 (by decide) (fun c14 => absurd c14 (j_grow h0 (by omega))) (fun _ => ?_)
  refine z_aload_n C dJ5_ensureCapacityInternal_d00df_17 rfl 1 rfl ?_
  refine z_aload_n C dJ5_ensureCapacityInternal_d00df_18 rfl 1 rfl ?_
  refine gf_J5_15 C h_sb dJ5_ensureCapacityInternal_d00df_19 ?_
  refine z_aload_n C dJ5_ensureCapacityInternal_d00df_22 rfl 1 rfl ?_
  refine z_iload_n C dJ5_ensureCapacityInternal_d00df_23 rfl 2 rfl ?_
  refine z_callUi (rest := [.ref vb, .ref sb]) (k' := 0) (n' := 0) C (c_J5_newCapacity_0f7a4 (z_l X) (z_G X) h_sb h_vb h0 h1 hn) (cs_J5_104 C ⟨Nat.le_of_ble_eq_true rfl, Nat.le_of_ble_eq_true rfl⟩) h_sb trivial trivial rfl rfl (Nat.le_of_ble_eq_true rfl) rfl rfl (Nat.le_of_ble_eq_true rfl) (by show _ ≤ 2 * n + 2; omega) dJ5_ensureCapacityInternal_d00df_24 (fun x24 M' hq => ?_)
  obtain ⟨rfl, rfl⟩ := hq
  refine z_aload_n C dJ5_ensureCapacityInternal_d00df_27 rfl 1 rfl ?_
  refine gf_J5_22 C h_sb dJ5_ensureCapacityInternal_d00df_28 ?_
  refine z_ishl C dJ5_ensureCapacityInternal_d00df_31 ?_
  rw [sb_shl0]
  refine z_callSr (rest := [.ref sb]) (k' := 1) (n' := 0 + (2 * n + 2)) C (c_J7_copyOf_9075b (z_l X) (z_G X) h_vb (by omega) (by omega) hf) (cs_J5_108 C ⟨Nat.le_of_ble_eq_true rfl, Nat.le_of_ble_eq_true rfl⟩) rfl rfl (Nat.le_of_ble_eq_true rfl) rfl rfl (Nat.le_of_ble_eq_true rfl) (by show _ ≤ 2 * n + 2; omega) dJ5_ensureCapacityInternal_d00df_32 (fun x32 M' hq => ?_)
  obtain ⟨q15_32, hq15_32, hr32, rfl⟩ := hq
  rw [hr32]
  refine pf_J5_15 C ((z_up_n _ _ (z_neN h_sb hq15_32)).trans h_sb) dJ5_ensureCapacityInternal_d00df_35 ?_
  exact ret dJ5_ensureCapacityInternal_d00df_38 (⟨q15_32, hq15_32, rfl⟩) (Nat.le_of_ble_eq_true rfl) (by show _ ≤ 2 * n + 2; omega)
set_option maxRecDepth 20000 in
theorem c_app5_fit (l : Launch) (G : zG) {M : zM} {sb : Nat} {ch : Int32} {vb : Nat} {ml : Int32} {n : Nat} {f : Nat → Int32} {c : Nat} (h_sb : M sb = some (cSb vb 0 ml (nI c))) (h_vb : M vb = some (aB G n f)) (h0 : c < n) (hn : n ≤ 65536) (hc : ch ≤ 255) : z_Mr l G qJ5_append_3fe6f (z_rm 2 0 0) [.ref sb, .int ch] M (fun r M' => r = sb ∧ M' = z_up (z_up M sb (cSb vb 0 ml (nI (c + 1)))) vb (aB G n (upd f c (vp_nar .byte ch.toInt8.toInt32))))  := by
  refine z_Mr_of _ (by decide +kernel) rfl (by first | exact Or.inl ⟨_, rfl⟩ | exact Or.inr ⟨_, rfl⟩) (Nat.le_of_ble_eq_true rfl) (fun X hl hG hnm C ret => ?_)
  subst hl; subst hG
  have C : z_C X cJ5_append_3fe6f RJ5 2 (z_rm 2 0 0) := C
  show z_W X M 0 0 0 [(0, .ref sb), (1, .int ch)] []
  refine z_aload_n C dJ5_append_3fe6f_0 rfl 0 rfl ?_
  refine z_aload_n C dJ5_append_3fe6f_1 rfl 0 rfl ?_
  refine gf_J5_79 C h_sb dJ5_append_3fe6f_2 ?_
  refine z_iconst C (v := 1) dJ5_append_3fe6f_5 (by decide) ?_
  refine z_iadd C dJ5_append_3fe6f_6 ?_
  rw [show (((nI c) + 1) : Int32) = nI (c + 1) from (nI_1 c)]
  refine z_callUv (rest := []) (k' := 0) (n' := 0) C (c_ens_fit (z_l X) (z_G X) h_sb h_vb (by omega) hn) (cs_J5_100 C (by decide)) h_sb trivial trivial rfl rfl (Nat.le_of_ble_eq_true rfl) rfl rfl (by decide) (by decide) dJ5_append_3fe6f_7 (fun M' hq => ?_)
  obtain rfl := hq
  refine z_aload_n C dJ5_append_3fe6f_10 rfl 0 rfl ?_
  refine z_callUi (rest := []) (k' := 0) (n' := 0) C (c_J5_isLatin1_aae02 (z_l X) (z_G X) h_sb) (cs_J5_83 C (by decide)) h_sb trivial trivial rfl rfl (Nat.le_of_ble_eq_true rfl) rfl rfl (by decide) (by decide) dJ5_append_3fe6f_11 (fun x11 M' hq => ?_)
  obtain ⟨rfl, rfl⟩ := hq
  refine z_if_eq C (tgt := 45) dJ5_append_3fe6f_14 (by decide) (fun c14 => absurd c14 (by decide)) (fun _ => ?_)
  refine z_iload_n C dJ5_append_3fe6f_17 rfl 1 rfl ?_
  refine z_callSi (rest := []) (k' := 0) (n' := 0) C (c_J1_canEncode_fc78d (z_l X) (z_G X) hc) (cs_J5_191 C (by decide)) rfl rfl (Nat.le_of_ble_eq_true rfl) rfl rfl (by decide) (by decide) dJ5_append_3fe6f_18 (fun x18 M' hq => ?_)
  obtain ⟨rfl, rfl⟩ := hq
  refine z_if_eq C (tgt := 45) dJ5_append_3fe6f_21 (by decide) (fun c21 => absurd c21 (by decide)) (fun _ => ?_)
  refine z_aload_n C dJ5_append_3fe6f_24 rfl 0 rfl ?_
  refine gf_J5_15 C h_sb dJ5_append_3fe6f_25 ?_
  refine z_aload_n C dJ5_append_3fe6f_28 rfl 0 rfl ?_
  refine z_dup C dJ5_append_3fe6f_29 rfl ?_
  refine gf_J5_79 C h_sb dJ5_append_3fe6f_30 ?_
  refine z_dup_x1 C dJ5_append_3fe6f_33 rfl rfl ?_
  refine z_iconst C (v := 1) dJ5_append_3fe6f_34 (by decide) ?_
  refine z_iadd C dJ5_append_3fe6f_35 ?_
  rw [show (((nI c) + 1) : Int32) = nI (c + 1) from (nI_1 c)]
  refine pf_J5_79 C h_sb dJ5_append_3fe6f_36 ?_
  refine z_iload_n C dJ5_append_3fe6f_39 rfl 1 rfl ?_
  refine z_i2b C dJ5_append_3fe6f_40 ?_
  refine z_bast (j := c) C ((z_up_n _ _ (z_ne h_vb h_sb (by intro h; cases h))).trans h_vb) (nI_in h0 (by omega)) (nI_clamp (by omega)) dJ5_append_3fe6f_41 ?_
  refine z_goto C (tgt := 75) dJ5_append_3fe6f_42 (by decide) ?_
  refine z_aload_n C dJ5_append_3fe6f_75 rfl 0 rfl ?_
  exact ret dJ5_append_3fe6f_76 (⟨rfl, rfl⟩) (by decide) (by decide)
set_option maxRecDepth 20000 in
theorem c_app5_grow (l : Launch) (G : zG) {M : zM} {sb : Nat} {ch : Int32} {vb : Nat} {ml : Int32} {n : Nat} {f : Nat → Int32} {c : Nat} (h_sb : M sb = some (cSb vb 0 ml (nI c))) (h_vb : M vb = some (aB G n f)) (h0 : c = n) (hn : n ≤ 30000) (hc : ch ≤ 255) (hf : sb_Fit f) : z_Mr l G qJ5_append_3fe6f (z_rm 5 1 (2 * n + 2)) [.ref sb, .int ch] M (fun r M' => ∃ q15_32_7 : Nat, (M) q15_32_7 = none ∧ r = sb ∧ M' = z_up (z_up M sb (cSb q15_32_7 0 ml (nI (c + 1)))) q15_32_7 (aB G (2 * n + 2) (upd (va_cpy f (fun _ => 0) 0 0 n) c (vp_nar .byte ch.toInt8.toInt32))))  := by
  refine z_Mr_of _ (by decide +kernel) rfl (by first | exact Or.inl ⟨_, rfl⟩ | exact Or.inr ⟨_, rfl⟩) (Nat.le_of_ble_eq_true rfl) (fun X hl hG hnm C ret => ?_)
  subst hl; subst hG
  have C : z_C X cJ5_append_3fe6f RJ5 2 (z_rm 5 1 (2 * n + 2)) := C
  show z_W X M 0 0 0 [(0, .ref sb), (1, .int ch)] []
  refine z_aload_n C dJ5_append_3fe6f_0 rfl 0 rfl ?_
  refine z_aload_n C dJ5_append_3fe6f_1 rfl 0 rfl ?_
  refine gf_J5_79 C h_sb dJ5_append_3fe6f_2 ?_
  refine z_iconst C (v := 1) dJ5_append_3fe6f_5 (by decide) ?_
  refine z_iadd C dJ5_append_3fe6f_6 ?_
  rw [show (((nI c) + 1) : Int32) = nI (c + 1) from (nI_1 c)]
  refine z_callUv (rest := []) (k' := 1) (n' := 0 + (2 * n + 2)) C (c_ens_grow (z_l X) (z_G X) h_sb h_vb (by omega) (by omega) hn hf) (cs_J5_100 C ⟨Nat.le_of_ble_eq_true rfl, Nat.le_of_ble_eq_true rfl⟩) h_sb trivial trivial rfl rfl (Nat.le_of_ble_eq_true rfl) rfl rfl (Nat.le_of_ble_eq_true rfl) (by show _ ≤ 2 * n + 2; omega) dJ5_append_3fe6f_7 (fun M' hq => ?_)
  obtain ⟨q15_32_7, hq15_32_7, rfl⟩ := hq
  refine z_aload_n C dJ5_append_3fe6f_10 rfl 0 rfl ?_
  refine z_callUi (rest := []) (k' := 1) (n' := 0 + (2 * n + 2)) C (c_J5_isLatin1_aae02 (z_l X) (z_G X) (z_up_s _ _ _)) (cs_J5_83 C ⟨Nat.le_of_ble_eq_true rfl, Nat.le_of_ble_eq_true rfl⟩) (z_up_s _ _ _) trivial trivial rfl rfl (Nat.le_of_ble_eq_true rfl) rfl rfl (Nat.le_of_ble_eq_true rfl) (by show _ ≤ 2 * n + 2; omega) dJ5_append_3fe6f_11 (fun x11 M' hq => ?_)
  obtain ⟨rfl, rfl⟩ := hq
  refine z_if_eq C (tgt := 45) dJ5_append_3fe6f_14 (by decide) (fun c14 => absurd c14 (by decide)) (fun _ => ?_)
  refine z_iload_n C dJ5_append_3fe6f_17 rfl 1 rfl ?_
  refine z_callSi (rest := []) (k' := 1) (n' := 0 + (2 * n + 2)) C (c_J1_canEncode_fc78d (z_l X) (z_G X) hc) (cs_J5_191 C ⟨Nat.le_of_ble_eq_true rfl, Nat.le_of_ble_eq_true rfl⟩) rfl rfl (Nat.le_of_ble_eq_true rfl) rfl rfl (Nat.le_of_ble_eq_true rfl) (by show _ ≤ 2 * n + 2; omega) dJ5_append_3fe6f_18 (fun x18 M' hq => ?_)
  obtain ⟨rfl, rfl⟩ := hq
  refine z_if_eq C (tgt := 45) dJ5_append_3fe6f_21 (by decide) (fun c21 => absurd c21 (by decide)) (fun _ => ?_)
  refine z_aload_n C dJ5_append_3fe6f_24 rfl 0 rfl ?_
  refine gf_J5_15 C (z_up_s _ _ _) dJ5_append_3fe6f_25 ?_
  refine z_aload_n C dJ5_append_3fe6f_28 rfl 0 rfl ?_
  refine z_dup C dJ5_append_3fe6f_29 rfl ?_
  refine gf_J5_79 C (z_up_s _ _ _) dJ5_append_3fe6f_30 ?_
  refine z_dup_x1 C dJ5_append_3fe6f_33 rfl rfl ?_
  refine z_iconst C (v := 1) dJ5_append_3fe6f_34 (by decide) ?_
  refine z_iadd C dJ5_append_3fe6f_35 ?_
  rw [show (((nI c) + 1) : Int32) = nI (c + 1) from (nI_1 c)]
  refine pg_J5_79 C dJ5_append_3fe6f_36 ?_
  refine z_iload_n C dJ5_append_3fe6f_39 rfl 1 rfl ?_
  refine z_i2b C dJ5_append_3fe6f_40 ?_
  rw [z_up_swap _ (Ne.symm (z_neN h_sb hq15_32_7))]
  refine z_bast (j := c) C (z_up_s _ _ _) (nI_in (by omega) (by omega)) (nI_clamp (by omega)) dJ5_append_3fe6f_41 ?_
  rw [z_up_up]
  refine z_goto C (tgt := 75) dJ5_append_3fe6f_42 (by decide) ?_
  refine z_aload_n C dJ5_append_3fe6f_75 rfl 0 rfl ?_
  exact ret dJ5_append_3fe6f_76 (⟨q15_32_7, hq15_32_7, rfl, rfl⟩) (Nat.le_of_ble_eq_true rfl) (by show _ ≤ 2 * n + 2; omega)
set_option maxRecDepth 20000 in
theorem c_app_fit (l : Launch) (G : zG) {M : zM} {sb : Nat} {ch : Int32} {vb : Nat} {ml : Int32} {n : Nat} {f : Nat → Int32} {c : Nat} (h_sb : M sb = some (cSb vb 0 ml (nI c))) (h_vb : M vb = some (aB G n f)) (h0 : c < n) (hn : n ≤ 65536) (hc : ch ≤ 255) : z_Mr l G qJ4_append_cf468 (z_rm 3 0 0) [.ref sb, .int ch] M (fun r M' => r = sb ∧ M' = z_up (z_up M sb (cSb vb 0 ml (nI (c + 1)))) vb (aB G n (upd f c (vp_nar .byte ch.toInt8.toInt32))))  := by
  refine z_Mr_of _ (by decide +kernel) rfl (by first | exact Or.inl ⟨_, rfl⟩ | exact Or.inr ⟨_, rfl⟩) (Nat.le_of_ble_eq_true rfl) (fun X hl hG hnm C ret => ?_)
  subst hl; subst hG
  have C : z_C X cJ4_append_cf468 RJ4 2 (z_rm 3 0 0) := C
  show z_W X M 0 0 0 [(0, .ref sb), (1, .int ch)] []
  refine z_aload_n C dJ4_append_cf468_0 rfl 0 rfl ?_
  refine z_iload_n C dJ4_append_cf468_1 rfl 1 rfl ?_
  refine z_callPr (rest := []) (k' := 0) (n' := 0) C (c_app5_fit (z_l X) (z_G X) h_sb h_vb h0 hn hc) (cs_J4_50 C (by decide)) h_sb trivial trivial rfl rfl (Nat.le_of_ble_eq_true rfl) rfl rfl (by decide) (by decide) dJ4_append_cf468_2 (fun x2 M' hq => ?_)
  obtain ⟨hr2, rfl⟩ := hq
  rw [hr2]
  refine z_pop C dJ4_append_cf468_5 rfl ?_
  refine z_aload_n C dJ4_append_cf468_6 rfl 0 rfl ?_
  exact ret dJ4_append_cf468_7 (⟨rfl, rfl⟩) (by decide) (by decide)
set_option maxRecDepth 20000 in
theorem c_app_grow (l : Launch) (G : zG) {M : zM} {sb : Nat} {ch : Int32} {vb : Nat} {ml : Int32} {n : Nat} {f : Nat → Int32} {c : Nat} (h_sb : M sb = some (cSb vb 0 ml (nI c))) (h_vb : M vb = some (aB G n f)) (h0 : c = n) (hn : n ≤ 30000) (hc : ch ≤ 255) (hf : sb_Fit f) : z_Mr l G qJ4_append_cf468 (z_rm 6 1 (2 * n + 2)) [.ref sb, .int ch] M (fun r M' => ∃ q15_32_7_2 : Nat, (M) q15_32_7_2 = none ∧ r = sb ∧ M' = z_up (z_up M sb (cSb q15_32_7_2 0 ml (nI (c + 1)))) q15_32_7_2 (aB G (2 * n + 2) (upd (va_cpy f (fun _ => 0) 0 0 n) c (vp_nar .byte ch.toInt8.toInt32))))  := by
  refine z_Mr_of _ (by decide +kernel) rfl (by first | exact Or.inl ⟨_, rfl⟩ | exact Or.inr ⟨_, rfl⟩) (Nat.le_of_ble_eq_true rfl) (fun X hl hG hnm C ret => ?_)
  subst hl; subst hG
  have C : z_C X cJ4_append_cf468 RJ4 2 (z_rm 6 1 (2 * n + 2)) := C
  show z_W X M 0 0 0 [(0, .ref sb), (1, .int ch)] []
  refine z_aload_n C dJ4_append_cf468_0 rfl 0 rfl ?_
  refine z_iload_n C dJ4_append_cf468_1 rfl 1 rfl ?_
  refine z_callPr (rest := []) (k' := 1) (n' := 0 + (2 * n + 2)) C (c_app5_grow (z_l X) (z_G X) h_sb h_vb h0 hn hc hf) (cs_J4_50 C ⟨Nat.le_of_ble_eq_true rfl, Nat.le_of_ble_eq_true rfl⟩) h_sb trivial trivial rfl rfl (Nat.le_of_ble_eq_true rfl) rfl rfl (Nat.le_of_ble_eq_true rfl) (by show _ ≤ 2 * n + 2; omega) dJ4_append_cf468_2 (fun x2 M' hq => ?_)
  obtain ⟨q15_32_7_2, hq15_32_7_2, hr2, rfl⟩ := hq
  rw [hr2]
  refine z_pop C dJ4_append_cf468_5 rfl ?_
  refine z_aload_n C dJ4_append_cf468_6 rfl 0 rfl ?_
  exact ret dJ4_append_cf468_7 (⟨q15_32_7_2, hq15_32_7_2, rfl, rfl⟩) (Nat.le_of_ble_eq_true rfl) (by show _ ≤ 2 * n + 2; omega)
set_option maxRecDepth 20000 in
theorem c_J5_setLength_d00df (l : Launch) (G : zG) {M : zM} {sb : Nat} {vb : Nat} {ml : Int32} {n : Nat} {f : Nat → Int32} {c : Nat} (h_sb : M sb = some (cSb vb 0 ml (nI c))) (h_vb : M vb = some (aB G n f)) (hcn : c ≤ n) (hn : n ≤ 65536) : z_Mv l G qJ5_setLength_d00df (z_rm 2 0 0) [.ref sb, .int 0] M (fun M' => ∃ ml9 : Int32, M' = z_up M sb (cSb vb 0 ml9 (nI 0)))  := by
  refine z_Mv_of _ (by decide +kernel) rfl (Nat.le_of_ble_eq_true rfl) (fun X hl hG hnm C ret => ?_)
  subst hl; subst hG
  have C : z_C X cJ5_setLength_d00df RJ5 2 (z_rm 2 0 0) := C
  show z_W X M 0 0 0 [(0, .ref sb), (1, .int 0)] []
  refine z_iload_n C dJ5_setLength_d00df_0 rfl 1 rfl ?_
  refine z_if_ge C (tgt := 13) dJ5_setLength_d00df_1 (by decide) (fun _ => ?_) (fun c1 => absurd (by decide) c1)
  refine z_aload_n C dJ5_setLength_d00df_13 rfl 0 rfl ?_
  refine z_iload_n C dJ5_setLength_d00df_14 rfl 1 rfl ?_
  refine z_callUv (rest := []) (k' := 0) (n' := 0) C (c_ens_0 (z_l X) (z_G X) h_sb h_vb hn) (cs_J5_100 C (by decide)) h_sb trivial trivial rfl rfl (Nat.le_of_ble_eq_true rfl) rfl rfl (by decide) (by decide) dJ5_setLength_d00df_15 (fun M' hq => ?_)
  obtain rfl := hq
  refine z_aload_n C dJ5_setLength_d00df_18 rfl 0 rfl ?_
  refine gf_J5_79 C h_sb dJ5_setLength_d00df_19 ?_
  refine z_iload_n C dJ5_setLength_d00df_22 rfl 1 rfl ?_
  refine z_icmp_ge C (tgt := 63) dJ5_setLength_d00df_23 (by decide) (fun _ => ?_) (fun c23 => absurd (nI_pos' (by omega)) c23)
  refine z_aload_n C dJ5_setLength_d00df_63 rfl 0 rfl ?_
  refine gf_J5_79 C h_sb dJ5_setLength_d00df_64 ?_
  refine z_iload_n C dJ5_setLength_d00df_67 rfl 1 rfl ?_
  refine z_icmp_le C (tgt := 76) dJ5_setLength_d00df_68 (by decide) (fun c68 => ?_) (fun c68 => ?_)
  · refine z_aload_n C dJ5_setLength_d00df_76 rfl 0 rfl ?_
    refine z_iload_n C dJ5_setLength_d00df_77 rfl 1 rfl ?_
    refine pf_J5_79 C h_sb dJ5_setLength_d00df_78 ?_
    refine ret dJ5_setLength_d00df_81 ?_ (by decide) (by decide)
    exact ⟨_, rfl⟩
  · refine z_aload_n C dJ5_setLength_d00df_71 rfl 0 rfl ?_
    refine z_iconst C (v := 1) dJ5_setLength_d00df_72 (by decide) ?_
    refine pf_J5_73 C rfl rfl h_sb dJ5_setLength_d00df_73 ?_
    refine z_aload_n C dJ5_setLength_d00df_76 rfl 0 rfl ?_
    refine z_iload_n C dJ5_setLength_d00df_77 rfl 1 rfl ?_
    refine pg_J5_79 C dJ5_setLength_d00df_78 ?_
    refine ret dJ5_setLength_d00df_81 ?_ (by decide) (by decide)
    exact ⟨_, rfl⟩
set_option maxRecDepth 20000 in
theorem c_J4_setLength_d00df (l : Launch) (G : zG) {M : zM} {sb : Nat} {vb : Nat} {ml : Int32} {n : Nat} {f : Nat → Int32} {c : Nat} (h_sb : M sb = some (cSb vb 0 ml (nI c))) (h_vb : M vb = some (aB G n f)) (hcn : c ≤ n) (hn : n ≤ 65536) : z_Mv l G qJ4_setLength_d00df (z_rm 3 0 0) [.ref sb, .int 0] M (fun M' => ∃ ml9 : Int32, M' = z_up M sb (cSb vb 0 ml9 (nI 0)))  := by
  refine z_Mv_of _ (by decide +kernel) rfl (Nat.le_of_ble_eq_true rfl) (fun X hl hG hnm C ret => ?_)
  subst hl; subst hG
  have C : z_C X cJ4_setLength_d00df RJ4 2 (z_rm 3 0 0) := C
  show z_W X M 0 0 0 [(0, .ref sb), (1, .int 0)] []
  refine z_aload_n C dJ4_setLength_d00df_0 rfl 0 rfl ?_
  refine z_iload_n C dJ4_setLength_d00df_1 rfl 1 rfl ?_
  refine z_callPv (rest := []) (k' := 0) (n' := 0) C (c_J5_setLength_d00df (z_l X) (z_G X) h_sb h_vb hcn hn) (cs_J4_333 C (by decide)) h_sb trivial trivial rfl rfl (Nat.le_of_ble_eq_true rfl) rfl rfl (by decide) (by decide) dJ4_setLength_d00df_2 (fun M' hq => ?_)
  obtain ⟨ml9_2, rfl⟩ := hq
  refine ret dJ4_setLength_d00df_5 ?_ (by decide) (by decide)
  exact ⟨_, rfl⟩
set_option maxRecDepth 20000 in
theorem c_chk_n (l : Launch) (G : zG) {M : zM} {ix : Int32} {le : Int32}   (h0 : 0 ≤ ix) (h1 : ix < le) : z_Mi l G qJ3_checkIndex_8e157 (z_rm 1 0 0) [.int ix, .int le, .null] M (fun r M' => r = ix ∧ M' = M)  := by
  refine z_Mi_of _ (by decide +kernel) rfl (Nat.le_of_ble_eq_true rfl) (fun X hl hG hnm C ret => ?_)
  subst hl; subst hG
  have C : z_C X cJ3_checkIndex_8e157 RJ3 3 (z_rm 1 0 0) := C
  show z_W X M 0 0 0 [(0, .int ix), (1, .int le), (2, .null)] []
  refine z_iload_n C dJ3_checkIndex_8e157_0 rfl 0 rfl ?_
  refine z_if_lt C (tgt := 9) dJ3_checkIndex_8e157_1 (by decide) (fun c1 => absurd c1 (Int32.not_lt.mpr h0)) (fun _ => ?_)
  refine z_iload_n C dJ3_checkIndex_8e157_4 rfl 0 rfl ?_
  refine z_iload_n C dJ3_checkIndex_8e157_5 rfl 1 rfl ?_
  refine z_icmp_lt C (tgt := 16) dJ3_checkIndex_8e157_6 (by decide) (fun _ => ?_) (fun c6 => absurd h1 c6)
  refine z_iload_n C dJ3_checkIndex_8e157_16 rfl 0 rfl ?_
  exact ret dJ3_checkIndex_8e157_17 rfl (⟨rfl, rfl⟩) (by decide) (by decide)
set_option maxRecDepth 20000 in
theorem c_chk_r (l : Launch) (G : zG) {M : zM} {ix : Int32} {le : Int32} {fm : Nat}   (h0 : 0 ≤ ix) (h1 : ix < le) : z_Mi l G qJ3_checkIndex_8e157 (z_rm 1 0 0) [.int ix, .int le, .ref fm] M (fun r M' => r = ix ∧ M' = M)  := by
  refine z_Mi_of _ (by decide +kernel) rfl (Nat.le_of_ble_eq_true rfl) (fun X hl hG hnm C ret => ?_)
  subst hl; subst hG
  have C : z_C X cJ3_checkIndex_8e157 RJ3 3 (z_rm 1 0 0) := C
  show z_W X M 0 0 0 [(0, .int ix), (1, .int le), (2, .ref fm)] []
  refine z_iload_n C dJ3_checkIndex_8e157_0 rfl 0 rfl ?_
  refine z_if_lt C (tgt := 9) dJ3_checkIndex_8e157_1 (by decide) (fun c1 => absurd c1 (Int32.not_lt.mpr h0)) (fun _ => ?_)
  refine z_iload_n C dJ3_checkIndex_8e157_4 rfl 0 rfl ?_
  refine z_iload_n C dJ3_checkIndex_8e157_5 rfl 1 rfl ?_
  refine z_icmp_lt C (tgt := 16) dJ3_checkIndex_8e157_6 (by decide) (fun _ => ?_) (fun c6 => absurd h1 c6)
  refine z_iload_n C dJ3_checkIndex_8e157_16 rfl 0 rfl ?_
  exact ret dJ3_checkIndex_8e157_17 rfl (⟨rfl, rfl⟩) (by decide) (by decide)
set_option maxRecDepth 20000 in
theorem c_J0_checkIndex_df160 (l : Launch) (G : zG) {M : zM} {ix : Int32} {le : Int32}   (h0 : 0 ≤ ix) (h1 : ix < le) : z_Mv l G qJ0_checkIndex_df160 (z_rm 2 0 0) [.int ix, .int le] M (fun M' => M' = M)  := by
  refine z_Mv_of _ (by decide +kernel) rfl (Nat.le_of_ble_eq_true rfl) (fun X hl hG hnm C ret => ?_)
  subst hl; subst hG
  have C : z_C X cJ0_checkIndex_df160 RJ0 2 (z_rm 2 0 0) := C
  show z_W X M 0 0 0 [(0, .int ix), (1, .int le)] []
  refine z_iload_n C dJ0_checkIndex_df160_0 rfl 0 rfl ?_
  refine z_iload_n C dJ0_checkIndex_df160_1 rfl 1 rfl ?_
  refine z_gsF C kw253 dJ0_checkIndex_df160_2 ?_ (fun t2 => ?_)
  · refine z_callSi (rest := []) (k' := 0) (n' := 0) C (c_chk_n (z_l X) (z_G X) h0 h1) (cs_J0_1059 C (by decide)) rfl rfl (Nat.le_of_ble_eq_true rfl) rfl rfl (by decide) (by decide) dJ0_checkIndex_df160_5 (fun x5 M' hq => ?_)
    obtain ⟨hr5, rfl⟩ := hq
    rw [hr5]
    refine z_pop C dJ0_checkIndex_df160_8 rfl ?_
    refine ret dJ0_checkIndex_df160_9 ?_ (by decide) (by decide)
    exact rfl
  · refine z_callSi (rest := []) (k' := 0) (n' := 0) C (c_chk_r (z_l X) (z_G X) h0 h1) (cs_J0_1059 C (by decide)) rfl rfl (Nat.le_of_ble_eq_true rfl) rfl rfl (by decide) (by decide) dJ0_checkIndex_df160_5 (fun x5 M' hq => ?_)
    obtain ⟨hr5, rfl⟩ := hq
    rw [hr5]
    refine z_pop C dJ0_checkIndex_df160_8 rfl ?_
    refine ret dJ0_checkIndex_df160_9 ?_ (by decide) (by decide)
    exact rfl
set_option maxRecDepth 20000 in
theorem c_J5_charAt_5068e (l : Launch) (G : zG) {M : zM} {sb : Nat} {vb : Nat} {ml : Int32} {n : Nat} {f : Nat → Int32} {c i : Nat} (h_sb : M sb = some (cSb vb 0 ml (nI c))) (h_vb : M vb = some (aB G n f)) (hi : i < c) (hcn : c ≤ n) (hn : n ≤ 65536) : z_Mi l G qJ5_charAt_5068e (z_rm 3 0 0) [.ref sb, .int (nI i)] M (fun r M' => r = (((f i) &&& 255).toUInt32 % 65536).toInt32 ∧ M' = M)  := by
  refine z_Mi_of _ (by decide +kernel) rfl (Nat.le_of_ble_eq_true rfl) (fun X hl hG hnm C ret => ?_)
  subst hl; subst hG
  have C : z_C X cJ5_charAt_5068e RJ5 5 (z_rm 3 0 0) := C
  show z_W X M 0 0 0 [(0, .ref sb), (1, .int (nI i))] []
  refine z_aload_n C dJ5_charAt_5068e_0 rfl 0 rfl ?_
  refine gf_J5_22 C h_sb dJ5_charAt_5068e_1 ?_
  refine z_istore_n (lv' := [(2, .int 0), (0, .ref sb), (1, .int (nI i))]) C dJ5_charAt_5068e_4 rfl (by decide) rfl ?_
  refine z_aload_n C dJ5_charAt_5068e_5 rfl 1 rfl ?_
  refine gf_J5_15 C h_sb dJ5_charAt_5068e_6 ?_
  refine z_astore_n (lv' := [(3, .ref vb), (2, .int 0), (0, .ref sb), (1, .int (nI i))]) C dJ5_charAt_5068e_9 rfl (by decide) rfl ?_
  refine z_aload_n C dJ5_charAt_5068e_10 rfl 2 rfl ?_
  refine gf_J5_79 C h_sb dJ5_charAt_5068e_11 ?_
  refine z_aload_n C dJ5_charAt_5068e_14 rfl 0 rfl ?_
  refine z_alenB C (v := nI n) h_vb rfl dJ5_charAt_5068e_15 ?_
  refine z_iload_n C dJ5_charAt_5068e_16 rfl 1 rfl ?_
  refine z_ishr C dJ5_charAt_5068e_17 ?_
  rw [sb_shr0]
  refine z_callSi (rest := []) (k' := 0) (n' := 0) C (c_min_l (z_l X) (z_G X) (nI_le hcn (by omega))) (cs_J5_138 C (by decide)) rfl rfl (Nat.le_of_ble_eq_true rfl) rfl rfl (by decide) (by decide) dJ5_charAt_5068e_18 (fun x18 M' hq => ?_)
  obtain ⟨rfl, rfl⟩ := hq
  refine z_istore (lv' := [(4, .int (nI c)), (3, .ref vb), (2, .int 0), (0, .ref sb), (1, .int (nI i))]) C dJ5_charAt_5068e_21 (by decide) rfl ?_
  refine z_iload_n C dJ5_charAt_5068e_23 rfl 4 rfl ?_
  refine z_iload C dJ5_charAt_5068e_24 0 rfl ?_
  refine z_callSv (rest := []) (k' := 0) (n' := 0) C (c_J0_checkIndex_df160 (z_l X) (z_G X) (nI_pos' (by omega)) (nI_lt hi (by omega))) (cs_J5_144 C (by decide)) rfl rfl (Nat.le_of_ble_eq_true rfl) rfl rfl (by decide) (by decide) dJ5_charAt_5068e_26 (fun M' hq => ?_)
  obtain rfl := hq
  refine z_iload_n C dJ5_charAt_5068e_29 rfl 2 rfl ?_
  refine z_if_ne C (tgt := 42) dJ5_charAt_5068e_30 (by decide) (fun c30 => absurd (by decide) c30) (fun _ => ?_)
  refine z_aload_n C dJ5_charAt_5068e_33 rfl 1 rfl ?_
  refine z_iload_n C dJ5_charAt_5068e_34 rfl 4 rfl ?_
  refine z_bald (j := i) C h_vb (nI_in (by omega) (by omega)) (nI_clamp (by omega)) dJ5_charAt_5068e_35 ?_
  refine z_sipush C (v := 255) dJ5_charAt_5068e_36 (by decide) ?_
  refine z_iand C dJ5_charAt_5068e_39 ?_
  refine z_i2c C dJ5_charAt_5068e_40 ?_
  exact ret dJ5_charAt_5068e_41 (j_nc _) (⟨rfl, rfl⟩) (by decide) (by decide)
set_option maxRecDepth 20000 in
theorem c_J4_charAt_5068e (l : Launch) (G : zG) {M : zM} {sb : Nat} {vb : Nat} {ml : Int32} {n : Nat} {f : Nat → Int32} {c i : Nat} (h_sb : M sb = some (cSb vb 0 ml (nI c))) (h_vb : M vb = some (aB G n f)) (hi : i < c) (hcn : c ≤ n) (hn : n ≤ 65536) : z_Mi l G qJ4_charAt_5068e (z_rm 4 0 0) [.ref sb, .int (nI i)] M (fun r M' => r = (((f i) &&& 255).toUInt32 % 65536).toInt32 ∧ M' = M)  := by
  refine z_Mi_of _ (by decide +kernel) rfl (Nat.le_of_ble_eq_true rfl) (fun X hl hG hnm C ret => ?_)
  subst hl; subst hG
  have C : z_C X cJ4_charAt_5068e RJ4 2 (z_rm 4 0 0) := C
  show z_W X M 0 0 0 [(0, .ref sb), (1, .int (nI i))] []
  refine z_aload_n C dJ4_charAt_5068e_0 rfl 0 rfl ?_
  refine z_iload_n C dJ4_charAt_5068e_1 rfl 1 rfl ?_
  refine z_callPi (rest := []) (k' := 0) (n' := 0) C (c_J5_charAt_5068e (z_l X) (z_G X) h_sb h_vb hi hcn hn) (cs_J4_329 C (by decide)) h_sb trivial trivial rfl rfl (Nat.le_of_ble_eq_true rfl) rfl rfl (by decide) (by decide) dJ4_charAt_5068e_2 (fun x2 M' hq => ?_)
  obtain ⟨rfl, rfl⟩ := hq
  exact ret dJ4_charAt_5068e_5 (j_nc _) (⟨rfl, rfl⟩) (by decide) (by decide)
end
section
/-! PART 42: String constants (cells outside of every world): where they stand is told by G -/
abbrev zK (G : zG) (i : Nat) : Nat := G.2.2.2.2.2.1 i
abbrev zV (G : zG) (i : Nat) : Nat := G.2.2.2.2.2.2 i
def z_kln (i : Nat) : Nat := [0, 1, 1, 1, 1].getD i 0
def z_kby (i : Nat) : Nat → Int32 := fun j => ([[], [32], [124], [62], [60]].getD i []).getD j 0
theorem z_kln_in : ∀ i, i < 5 → z_kln i ≤ 1 := by decide
theorem z_kfit : ∀ i, i < 5 → ∀ j, fits .byte (.int (z_kby i j)) = true := by
  intro i hi j
  rcases (show i = 0 ∨ i = 1 ∨ i = 2 ∨ i = 3 ∨ i = 4 by omega) with rfl | rfl | rfl | rfl | rfl <;> rcases j with _ | j <;> first | rfl | decide
section KR
variable {X : zX} {cc : ByteArray} {own : String} {nL : Nat} {rm : Room} {M : zM} {k n pc : Nat} {lv : List (Nat × Value)} {st rest : List Value} {q : zY} {rmc : Room} {index N i : Nat} {As : List Value}
theorem z_KS (C : z_C X cc own nL rm) : vk_S 5 [0, 1, 1, 1, 1] [[], [32], [124], [62], [60]] (zK (z_G X)) (zV (z_G X)) (z_F X) (z_s X) (z_s X).heap := C.2.2.2.2.2.2.1.2.1.1.1
theorem z_ldcK (C : z_C X cc RX5 nL rm) (hi : i < 5) (hix : (z_sK i).1 = index) (d : decode cc pc = .ok (.ldc index, 2)) (kk : z_W X M k n (pc + 2) lv (.ref (zK (z_G X) i) :: st)) : z_W X M k n pc lv st := by
  subst hix
  exact fun H locs ls h1 h2 h3 h4 => va_ldcS C.1 C.2.1 C.2.2.2.1 (C.2.2.2.2.2.2.1.2.1.1.2 i hi) d (kk H locs ls h1 h2 h3 h4)
theorem z_getKv (C : z_C X cc own nL rm) (hl : Cond.fieldLink own index "java/lang/String" "value" "[B" ∈ gw) (hi : i < 5) (d : decode cc pc = .ok (.getfield index, 3)) (kk : z_W X M k n (pc + 3) lv (.ref (zV (z_G X) i) :: st)) : z_W X M k n pc lv (.ref (zK (z_G X) i) :: st) :=
  fun H locs ls h1 h2 h3 h4 => vk_getf C.1 C.2.1 ((z_KS C).1 i hi).2.2.1 h3 C.2.2.2.1 (z_tow C hl) (fun _ h => h) d (kk H locs ls h1 h2 h3 h4)
theorem z_getKc (C : z_C X cc own nL rm) (hl : Cond.fieldLink own index "java/lang/String" "coder" "B" ∈ gw) (hi : i < 5) (d : decode cc pc = .ok (.getfield index, 3)) (kk : z_W X M k n (pc + 3) lv (.int 0 :: st)) : z_W X M k n pc lv (.ref (zK (z_G X) i) :: st) :=
  fun H locs ls h1 h2 h3 h4 => vk_getf C.1 C.2.1 ((z_KS C).1 i hi).2.1 h3 C.2.2.2.1 (z_tow C hl) (fun _ h => h) d (kk H locs ls h1 h2 h3 h4)
theorem z_alenK (C : z_C X cc own nL rm) (hi : i < 5) (d : decode cc pc = .ok (.arraylength, 1)) (kk : z_W X M k n (pc + 1) lv (.int (nI (z_kln i)) :: st)) : z_W X M k n pc lv (.ref (zV (z_G X) i) :: st) :=
  fun H locs ls h1 h2 h3 h4 => va_tlen C.1 C.2.1 ((z_KS C).1 i hi).2.2.2 h3 rfl d (kk H locs ls h1 h2 h3 h4)
theorem z_callKi {post : Int32 → zM → Prop} (C : z_C X cc own nL rm) (hM : z_Mi (z_l X) (z_G X) q rmc (.ref (zK (z_G X) i) :: As) M post) (cw : CallW (z_R X) (z_s X) (z_a X) own q.1.cls index q.1 q.2.1 q.2.2.1 q.2.2.2 (z_ws q) rmc rmc.cells rmc.slots N) (hi : i < 5) (hr : "java/lang/String" = q.1.cls) (_ : True) (hN : As.length = N) (hst : st = As.reverse ++ .ref (zK (z_G X) i) :: rest) (hcat : (rest.map fun v => v.category).sum ≤ 8) {k' n' : Nat} (ek : k + rmc.cells = k') (en : n + rmc.slots = n') (hk : k' ≤ rm.cells) (hn : n' ≤ rm.slots) (d : decode cc pc = .ok (.invokevirtual index, 3))
    (kk : ∀ (x : Int32) (M' : zM), post x M' → z_W X M' k' n' (pc + 3) lv (.int x :: rest)) : z_W X M k n pc lv st := by
  subst hst; subst ek; subst en
  intro H locs ls h1 h2 h3 h4
  have hs := z_sub C h2 h3
  exact va_calli (va_runV ⟨C.1, C.2.1, rfl, C.2.2.2.1, C.2.2.2.2.1⟩ (hM H.size) cw ⟨z_blind, by rw [← hr]; exact vk_recv (z_KS C) hi h3, fun U hU hW => ⟨rfl, z_pre C h1 h2 h3 hU hW⟩⟩ rfl hN h4.1 rfl (lv_room hcat) d (by rw [C.2.2.2.2.2.2.2.2]; exact ⟨hk, hn⟩)) h3 (fun q _ h => hs q h) hs
    (fun x M' t H1 locs1 ht hvm hp hB hz hk1 hS => kk x M' hp H1 locs1 ls (by rw [← ht]; exact hB.1) (fun a e h => hs a (hB.2 a e h)) hS h4)
theorem z_callKv {post : zM → Prop} (C : z_C X cc own nL rm) (hM : z_Mv (z_l X) (z_G X) q rmc (.ref (zK (z_G X) i) :: As) M post) (cw : CallW (z_R X) (z_s X) (z_a X) own q.1.cls index q.1 q.2.1 q.2.2.1 q.2.2.2 (z_ws q) rmc rmc.cells rmc.slots N) (hi : i < 5) (hr : "java/lang/String" = q.1.cls) (_ : True) (hN : As.length = N) (hst : st = As.reverse ++ .ref (zK (z_G X) i) :: rest) (hcat : (rest.map fun v => v.category).sum ≤ 8) {k' n' : Nat} (ek : k + rmc.cells = k') (en : n + rmc.slots = n') (hk : k' ≤ rm.cells) (hn : n' ≤ rm.slots) (d : decode cc pc = .ok (.invokevirtual index, 3))
    (kk : ∀ (M' : zM), post M' → z_W X M' k' n' (pc + 3) lv rest) : z_W X M k n pc lv st := by
  subst hst; subst ek; subst en
  intro H locs ls h1 h2 h3 h4
  have hs := z_sub C h2 h3
  exact va_callv (va_runV ⟨C.1, C.2.1, rfl, C.2.2.2.1, C.2.2.2.2.1⟩ (hM H.size) cw ⟨z_blind, by rw [← hr]; exact vk_recv (z_KS C) hi h3, fun U hU hW => ⟨rfl, z_pre C h1 h2 h3 hU hW⟩⟩ rfl hN h4.1 rfl (lv_room hcat) d (by rw [C.2.2.2.2.2.2.2.2]; exact ⟨hk, hn⟩)) h3 (fun q _ h => hs q h) hs
    (fun M' t H1 locs1 ht hvm hp hB hz hk1 hS => kk M' hp H1 locs1 ls (by rw [← ht]; exact hB.1) (fun a e h => hs a (hB.2 a e h)) hS h4)
/-- System.arraycopy of a constant's letters -/
theorem z_copyK (zn dn : Nat) (C : z_C X cc own nL rm) {a n1 : Nat} {g : Nat → Int32} (hi : i < 5) (hlk : Cond.methodLink own index arraycopyName ∈ gw) (hM1 : M a = some (aB (z_G X) n1 g)) {dp z : Int32} (h2 : ¬ dp < 0) (h3 : ¬ z < 0) (ed : dp.toNatClampNeg = dn) (ez : z.toNatClampNeg = zn) (h4 : zn ≤ z_kln i) (h5 : dn + zn ≤ n1) (hR : 1 ≤ rm.frames ∧ 30 ≤ rm.locals) (hcat : (rest.map fun v => v.category).sum ≤ 8) (d : decode cc pc = .ok (.invokestatic index, 3))
    (kk : z_W X (z_up M a (aB (z_G X) n1 (va_cpy (z_kby i) g 0 dn zn))) k n (pc + 3) lv rest) : z_W X M k n pc lv (.int z :: .int dp :: .ref a :: .int 0 :: .ref (zV (z_G X) i) :: rest) := by
  subst ed; subst ez
  have nn : ∀ z : Int32, ¬ z < 0 → z.toInt = (z.toNatClampNeg : Int) := fun z hz => (z_cl (Int32.not_lt.mp hz)).symm
  intro H locs ls g1 g2 g3 g4 T hT X9
  obtain ⟨scr, hs1, ⟨hs6, k0, hk0, cm0, hkk0⟩, hs3, hs4, -, hs5, hs7⟩ := ((z_KS C).1 i hi).2.2.2
  have hs5' : ∀ j : Nat, j < z_kln i → scr.slots[j]? = some (.int (z_kby i j)) := hs5
  have hc0 : H[zV (z_G X) i]? = some scr := by rw [g3.2.1 _ (Array.getElem?_eq_some_iff.mp hs1).1 hs7]; exact hs1
  have hc1 : H[a]? = some (vp_cell (z_G X).2.1 (n1, .inl g)) := g1 a _ hM1
  obtain ⟨-, k1, hk1, cm1, hkk1⟩ := (C.2.2.2.2.2.1.2 0 _ rfl).1 n1 (fun j => .int (g j))
  have h4' : (0 : Int32).toNatClampNeg + z.toNatClampNeg ≤ z_kln i := by rw [sb_cl0]; omega
  have hsz : z_kln i ≤ scr.slots.size := hs4
  obtain ⟨vm', X', step⟩ := X9.arraycopy C.1 C.2.2.2.1 (z_tow C hlk) (z_tow C kw235) (z_tow C kw234) (z_tow C kw20) (src := zV (z_G X) i) (dst := a) (cs := scr) (cd := vp_cell (z_G X).2.1 (n1, .inl g)) (srcPos := 0) (destPos := dp) (n := z) (by rw [hT]; exact hc0) (by rw [hT]; exact hc1)
    hs6 (fun _ h => by cases h) hs3 (fun h => by cases h) hk0 hk1 hkk0 hkk1 (by simp [refKind]) (by decide) h2 h3
    (by rw [nn 0 (by decide), nn z h3]; omega)
    (by rw [nn dp h2, nn z h3]; show ¬ _ > ((arrV _ n1 (fun j => .int (g j))).slots.size : Int); rw [arrV_size]; omega)
    (fun vm₁ _ j hj => by
      have e : scr.slots.getD ((0 : Int32).toNatClampNeg + j) .null = .int (z_kby i ((0 : Int32).toNatClampNeg + j)) := by
        rw [Array.getD_eq_getD_getElem?, hs5' _ (by omega)]
        rfl
      refine ⟨?_, ?_⟩
      · rw [e]
        exact z_kfit i hi _
      · rw [e]
        exact trivial)
    (g := F0 (z_m X) pc ls (.int z :: .int dp :: .ref a :: .int 0 :: .ref (zV (z_G X) i) :: rest)) rfl (by rw [← g4.1]) (rest := rest) rfl (by rw [C.2.1]; exact d) (by rw [C.2.2.2.2.2.2.2.2]; exact hR.1) (by
      have h9 := hR.2
      have e9 : nativeFrameWords "java/lang/System" "arraycopy" 5 = 7 := rfl
      rw [C.2.2.2.2.2.2.2.2, e9]
      show 2 * 0 + _ + _ ≤ _
      omega)
  have e1 : copied scr (vp_cell (z_G X).2.1 (n1, .inl g)) 0 dp z = vp_cell (z_G X).2.1 (n1, .inl (va_cpy (z_kby i) g 0 dp.toNatClampNeg z.toNatClampNeg)) := va_copiedX (fun z => .int z) scr _ (z_kby i) g hs5' h4'
  rw [e1] at X' step
  have hl : a < H.size := (Array.getElem?_eq_some_iff.mp hc1).1
  generalize hE : vp_cell (z_G X).2.1 (n1, .inl (va_cpy (z_kby i) g 0 dp.toNatClampNeg z.toNatClampNeg)) = cE at X' step
  have hheap : ((T.setVm vm').setCell a cE).heap = H.setIfInBounds a cE := by rw [← hT]; rfl
  have oq : ∀ q : Nat, q ≠ a → (H.setIfInBounds a cE)[q]? = H[q]? := fun q hq => by simp [Array.getElem?_setIfInBounds, Ne.symm hq]
  obtain ⟨t, a1, b1⟩ := kk (H.setIfInBounds a cE) _ ls (z_h_up g1 (show (H.setIfInBounds a cE)[a]? = some (vp_cell _ _) by rw [hE]; simp [Array.getElem?_setIfInBounds, hl]) oq) (z_in_up g2 (g2 a _ hM1)) ⟨by simp; exact g3.1, fun q e1 e2 => by
      rw [oq q (fun e => e2 (by rw [e]; exact g2 a _ hM1))]
      exact g3.2.1 q e1 e2, fun q hq => by
      rcases List.mem_append.mp hq with h | h
      · exact g3.2.2 q h
      · obtain ⟨z, -, hz⟩ := List.mem_map.mp h
        rw [← hz]
        exact g2 a _ hM1⟩ g4 _ hheap X'
  exact ⟨t, step t a1, b1⟩
/-- null, and whether a reference is null -/
theorem z_null (C : z_C X cc own nL rm) (d : decode cc pc = .ok (.aconst_null, 1)) (kk : z_W X M k n (pc + 1) lv (.null :: st)) : z_W X M k n pc lv st :=
  fun H locs ls h1 h2 h3 h4 => lv_null C.1 C.2.1 d (kk H locs ls h1 h2 h3 h4)
theorem z_ifnonnull (C : z_C X cc own nL rm) {x : Nat} {off : Int} {tgt : Nat} (d : decode cc pc = .ok (.ifnonnull off, 3)) (ht : (pc : Int) + off = (tgt : Int)) (kk : z_W X M k n tgt lv st) : z_W X M k n pc lv (.ref x :: st) :=
  fun H locs ls h1 h2 h3 h4 => lv_ifnonnull C.1 C.2.1 d ht (kk H locs ls h1 h2 h3 h4)
theorem z_lneg (C : z_C X cc own nL rm) {x : Int64} (d : decode cc pc = .ok (.lneg, 1)) (kk : z_W X M k n (pc + 1) lv (.long (-x) :: st)) : z_W X M k n pc lv (.long x :: st) :=
  fun H locs ls h1 h2 h3 h4 => lv_lneg C.1 C.2.1 d (kk H locs ls h1 h2 h3 h4)
end KR
end
section
/-! PART 43: new Strings, constants appended, numbers in digits -/
theorem j_nb0 : narrow .byte (.int 0) = .int 0 := rfl
theorem j_gt {v k : Nat} {p : Int32} (hv : v < 2 ^ 31) (hk : k < 2 ^ 31) (hp : p = -nI k) (h : ¬ -nI v ≤ p) : v < k := by
  subst hp
  have := mt (sb_nle hv hk).mpr h
  omega
theorem j_le {v k : Nat} {p : Int32} (hv : v < 2 ^ 31) (hk : k < 2 ^ 31) (hp : p = -nI k) (h : -nI v ≤ p) : k ≤ v := by
  subst hp
  exact (sb_nle hv hk).mp h
theorem j_m1 {p : Nat} (h : 0 < p) : nI p + Int32.ofInt (-1) = nI (p - 1) := (congrArg (nI p + ·) (by decide : Int32.ofInt (-1) = -1)).trans (sb_m1 h)
theorem j_add (a b : Nat) : nI a + nI b = nI (a + b) := by
  show Int32.ofNat a + Int32.ofNat b = Int32.ofNat (a + b)
  rw [Int32.ofNat_add]
theorem j_sub0 (x : Int32) : x - 0 = x := by simp
theorem j_nn (x : Int32) : - -x = x := Int32.neg_neg
theorem j_inj {a b : Nat} (ha : a < 2 ^ 31) (hb : b < 2 ^ 31) (h : nI a = nI b) : a = b := by
  have h1 := nI_toInt ha
  have h2 := nI_toInt hb
  rw [h] at h1
  omega
theorem j_lt {v k : Nat} {p : Int32} (hv : v < 2 ^ 31) (hk : k < 2 ^ 31) (hp : p = -nI k) (h : p < -nI v) : v < k := by
  subst hp
  exact (sb_nlt hk hv).mp h
theorem j_nlt {v k : Nat} {p : Int32} (hv : v < 2 ^ 31) (hk : k < 2 ^ 31) (hp : p = -nI k) (h : ¬ p < -nI v) : k ≤ v := by
  subst hp
  have := mt (sb_nlt hk hv).mpr h
  omega
theorem j_nle {v k : Nat} {p : Int32} (hv : v < 2 ^ 31) (hk : k < 2 ^ 31) (hp : p = -nI k) (h : ¬ p ≤ -nI v) : k < v := by
  subst hp
  have := mt (sb_nle hk hv).mpr h
  omega
theorem j_dg2 {w : Nat} (h : 10 ≤ w) : 2 ≤ sb_dg w := by
  unfold sb_dg
  (repeat' split) <;> omega
theorem j_dg3 {w : Nat} (h : 100 ≤ w) (hw : w < 2 ^ 31) : sb_dg w = sb_dg (w / 100) + 2 ∧ 1 ≤ sb_dg (w / 100) := ⟨sb_dg100 h hw, (sb_dg_in _).1⟩
theorem dJ7_checkLength_df160_0 : decode cJ7_checkLength_df160 0 = .ok (.iload_n 1, 1) := by decide +kernel
theorem dJ7_checkLength_df160_1 : decode cJ7_checkLength_df160 1 = .ok (.iload_n 0, 1) := by decide +kernel
theorem dJ7_checkLength_df160_2 : decode cJ7_checkLength_df160 2 = .ok (.if_icmp .ge 35, 3) := by decide +kernel
theorem dJ7_checkLength_df160_37 : decode cJ7_checkLength_df160 37 = .ok (.return_, 1) := by decide +kernel
theorem dJ7_copyOfRangeByte_39247_0 : decode cJ7_copyOfRangeByte_39247 0 = .ok (.iload_n 1, 1) := by decide +kernel
theorem dJ7_copyOfRangeByte_39247_1 : decode cJ7_copyOfRangeByte_39247 1 = .ok (.iload_n 2, 1) := by decide +kernel
theorem dJ7_copyOfRangeByte_39247_2 : decode cJ7_copyOfRangeByte_39247 2 = .ok (.invokestatic 343, 3) := by decide +kernel
theorem dJ7_copyOfRangeByte_39247_5 : decode cJ7_copyOfRangeByte_39247 5 = .ok (.iload_n 2, 1) := by decide +kernel
theorem dJ7_copyOfRangeByte_39247_6 : decode cJ7_copyOfRangeByte_39247 6 = .ok (.iload_n 1, 1) := by decide +kernel
theorem dJ7_copyOfRangeByte_39247_7 : decode cJ7_copyOfRangeByte_39247 7 = .ok (.isub, 1) := by decide +kernel
theorem dJ7_copyOfRangeByte_39247_8 : decode cJ7_copyOfRangeByte_39247 8 = .ok (.istore_n 3, 1) := by decide +kernel
theorem dJ7_copyOfRangeByte_39247_9 : decode cJ7_copyOfRangeByte_39247 9 = .ok (.iload_n 3, 1) := by decide +kernel
theorem dJ7_copyOfRangeByte_39247_10 : decode cJ7_copyOfRangeByte_39247 10 = .ok (.newarray .byte, 2) := by decide +kernel
theorem dJ7_copyOfRangeByte_39247_12 : decode cJ7_copyOfRangeByte_39247 12 = .ok (.astore 4, 2) := by decide +kernel
theorem dJ7_copyOfRangeByte_39247_14 : decode cJ7_copyOfRangeByte_39247 14 = .ok (.aload_n 0, 1) := by decide +kernel
theorem dJ7_copyOfRangeByte_39247_15 : decode cJ7_copyOfRangeByte_39247 15 = .ok (.iload_n 1, 1) := by decide +kernel
theorem dJ7_copyOfRangeByte_39247_16 : decode cJ7_copyOfRangeByte_39247 16 = .ok (.aload 4, 2) := by decide +kernel
theorem dJ7_copyOfRangeByte_39247_18 : decode cJ7_copyOfRangeByte_39247 18 = .ok (.iconst 0, 1) := by decide +kernel
theorem dJ7_copyOfRangeByte_39247_19 : decode cJ7_copyOfRangeByte_39247 19 = .ok (.aload_n 0, 1) := by decide +kernel
theorem dJ7_copyOfRangeByte_39247_20 : decode cJ7_copyOfRangeByte_39247 20 = .ok (.arraylength, 1) := by decide +kernel
theorem dJ7_copyOfRangeByte_39247_21 : decode cJ7_copyOfRangeByte_39247 21 = .ok (.iload_n 1, 1) := by decide +kernel
theorem dJ7_copyOfRangeByte_39247_22 : decode cJ7_copyOfRangeByte_39247 22 = .ok (.isub, 1) := by decide +kernel
theorem dJ7_copyOfRangeByte_39247_23 : decode cJ7_copyOfRangeByte_39247 23 = .ok (.iload_n 3, 1) := by decide +kernel
theorem dJ7_copyOfRangeByte_39247_24 : decode cJ7_copyOfRangeByte_39247 24 = .ok (.invokestatic 304, 3) := by decide +kernel
theorem dJ7_copyOfRangeByte_39247_27 : decode cJ7_copyOfRangeByte_39247 27 = .ok (.invokestatic 150, 3) := by decide +kernel
theorem dJ7_copyOfRangeByte_39247_30 : decode cJ7_copyOfRangeByte_39247 30 = .ok (.aload 4, 2) := by decide +kernel
theorem dJ7_copyOfRangeByte_39247_32 : decode cJ7_copyOfRangeByte_39247 32 = .ok (.areturn, 1) := by decide +kernel
theorem dJ7_copyOfRange_39247_0 : decode cJ7_copyOfRange_39247 0 = .ok (.iload_n 1, 1) := by decide +kernel
theorem dJ7_copyOfRange_39247_1 : decode cJ7_copyOfRange_39247 1 = .ok (.ifCond .ne 9, 3) := by decide +kernel
theorem dJ7_copyOfRange_39247_4 : decode cJ7_copyOfRange_39247 4 = .ok (.iload_n 2, 1) := by decide +kernel
theorem dJ7_copyOfRange_39247_5 : decode cJ7_copyOfRange_39247 5 = .ok (.aload_n 0, 1) := by decide +kernel
theorem dJ7_copyOfRange_39247_6 : decode cJ7_copyOfRange_39247 6 = .ok (.arraylength, 1) := by decide +kernel
theorem dJ7_copyOfRange_39247_7 : decode cJ7_copyOfRange_39247 7 = .ok (.if_icmp .eq 10, 3) := by decide +kernel
theorem dJ7_copyOfRange_39247_10 : decode cJ7_copyOfRange_39247 10 = .ok (.aload_n 0, 1) := by decide +kernel
theorem dJ7_copyOfRange_39247_11 : decode cJ7_copyOfRange_39247 11 = .ok (.iload_n 1, 1) := by decide +kernel
theorem dJ7_copyOfRange_39247_12 : decode cJ7_copyOfRange_39247 12 = .ok (.iload_n 2, 1) := by decide +kernel
theorem dJ7_copyOfRange_39247_13 : decode cJ7_copyOfRange_39247 13 = .ok (.invokestatic 339, 3) := by decide +kernel
theorem dJ7_copyOfRange_39247_16 : decode cJ7_copyOfRange_39247 16 = .ok (.areturn, 1) := by decide +kernel
theorem dJ7_copyOfRange_39247_17 : decode cJ7_copyOfRange_39247 17 = .ok (.aload_n 0, 1) := by decide +kernel
theorem dJ7_copyOfRange_39247_18 : decode cJ7_copyOfRange_39247 18 = .ok (.invokevirtual 310, 3) := by decide +kernel
theorem dJ7_copyOfRange_39247_21 : decode cJ7_copyOfRange_39247 21 = .ok (.checkcast 311, 3) := by decide +kernel
theorem dJ7_copyOfRange_39247_24 : decode cJ7_copyOfRange_39247 24 = .ok (.areturn, 1) := by decide +kernel
theorem dJ0_coder_7d493_0 : decode cJ0_coder_7d493 0 = .ok (.getstatic 38, 3) := by decide +kernel
theorem dJ0_coder_7d493_3 : decode cJ0_coder_7d493 3 = .ok (.ifCond .eq 10, 3) := by decide +kernel
theorem dJ0_coder_7d493_6 : decode cJ0_coder_7d493 6 = .ok (.aload_n 0, 1) := by decide +kernel
theorem dJ0_coder_7d493_7 : decode cJ0_coder_7d493 7 = .ok (.getfield 15, 3) := by decide +kernel
theorem dJ0_coder_7d493_10 : decode cJ0_coder_7d493 10 = .ok (.goto 4, 3) := by decide +kernel
theorem dJ0_coder_7d493_14 : decode cJ0_coder_7d493 14 = .ok (.ireturn, 1) := by decide +kernel
theorem dJ0_length_8abf5_0 : decode cJ0_length_8abf5 0 = .ok (.aload_n 0, 1) := by decide +kernel
theorem dJ0_length_8abf5_1 : decode cJ0_length_8abf5 1 = .ok (.getfield 9, 3) := by decide +kernel
theorem dJ0_length_8abf5_4 : decode cJ0_length_8abf5 4 = .ok (.arraylength, 1) := by decide +kernel
theorem dJ0_length_8abf5_5 : decode cJ0_length_8abf5 5 = .ok (.aload_n 0, 1) := by decide +kernel
theorem dJ0_length_8abf5_6 : decode cJ0_length_8abf5 6 = .ok (.invokevirtual 335, 3) := by decide +kernel
theorem dJ0_length_8abf5_9 : decode cJ0_length_8abf5 9 = .ok (.ishr, 1) := by decide +kernel
theorem dJ0_length_8abf5_10 : decode cJ0_length_8abf5 10 = .ok (.ireturn, 1) := by decide +kernel
theorem dJ5_inflateIfNeededFor_a7421_0 : decode cJ5_inflateIfNeededFor_a7421 0 = .ok (.getstatic 18, 3) := by decide +kernel
theorem dJ5_inflateIfNeededFor_a7421_3 : decode cJ5_inflateIfNeededFor_a7421 3 = .ok (.ifCond .eq 18, 3) := by decide +kernel
theorem dJ5_inflateIfNeededFor_a7421_6 : decode cJ5_inflateIfNeededFor_a7421 6 = .ok (.aload_n 0, 1) := by decide +kernel
theorem dJ5_inflateIfNeededFor_a7421_7 : decode cJ5_inflateIfNeededFor_a7421 7 = .ok (.getfield 22, 3) := by decide +kernel
theorem dJ5_inflateIfNeededFor_a7421_10 : decode cJ5_inflateIfNeededFor_a7421 10 = .ok (.aload_n 1, 1) := by decide +kernel
theorem dJ5_inflateIfNeededFor_a7421_11 : decode cJ5_inflateIfNeededFor_a7421 11 = .ok (.invokevirtual 40, 3) := by decide +kernel
theorem dJ5_inflateIfNeededFor_a7421_14 : decode cJ5_inflateIfNeededFor_a7421 14 = .ok (.if_icmp .eq 7, 3) := by decide +kernel
theorem dJ5_inflateIfNeededFor_a7421_21 : decode cJ5_inflateIfNeededFor_a7421 21 = .ok (.return_, 1) := by decide +kernel
theorem dJ0_getBytes_840e7_0 : decode cJ0_getBytes_840e7 0 = .ok (.aload_n 0, 1) := by decide +kernel
theorem dJ0_getBytes_840e7_1 : decode cJ0_getBytes_840e7 1 = .ok (.invokevirtual 335, 3) := by decide +kernel
theorem dJ0_getBytes_840e7_4 : decode cJ0_getBytes_840e7 4 = .ok (.iload_n 3, 1) := by decide +kernel
theorem dJ0_getBytes_840e7_5 : decode cJ0_getBytes_840e7 5 = .ok (.if_icmp .ne 23, 3) := by decide +kernel
theorem dJ0_getBytes_840e7_8 : decode cJ0_getBytes_840e7 8 = .ok (.aload_n 0, 1) := by decide +kernel
theorem dJ0_getBytes_840e7_9 : decode cJ0_getBytes_840e7 9 = .ok (.getfield 9, 3) := by decide +kernel
theorem dJ0_getBytes_840e7_12 : decode cJ0_getBytes_840e7 12 = .ok (.iconst 0, 1) := by decide +kernel
theorem dJ0_getBytes_840e7_13 : decode cJ0_getBytes_840e7 13 = .ok (.aload_n 1, 1) := by decide +kernel
theorem dJ0_getBytes_840e7_14 : decode cJ0_getBytes_840e7 14 = .ok (.iload_n 2, 1) := by decide +kernel
theorem dJ0_getBytes_840e7_15 : decode cJ0_getBytes_840e7 15 = .ok (.iload_n 3, 1) := by decide +kernel
theorem dJ0_getBytes_840e7_16 : decode cJ0_getBytes_840e7 16 = .ok (.ishl, 1) := by decide +kernel
theorem dJ0_getBytes_840e7_17 : decode cJ0_getBytes_840e7 17 = .ok (.aload_n 0, 1) := by decide +kernel
theorem dJ0_getBytes_840e7_18 : decode cJ0_getBytes_840e7 18 = .ok (.getfield 9, 3) := by decide +kernel
theorem dJ0_getBytes_840e7_21 : decode cJ0_getBytes_840e7 21 = .ok (.arraylength, 1) := by decide +kernel
theorem dJ0_getBytes_840e7_22 : decode cJ0_getBytes_840e7 22 = .ok (.invokestatic 212, 3) := by decide +kernel
theorem dJ0_getBytes_840e7_25 : decode cJ0_getBytes_840e7 25 = .ok (.goto 18, 3) := by decide +kernel
theorem dJ0_getBytes_840e7_43 : decode cJ0_getBytes_840e7 43 = .ok (.return_, 1) := by decide +kernel
theorem dJ5_putStringAt_47b60_0 : decode cJ5_putStringAt_47b60 0 = .ok (.aload_n 0, 1) := by decide +kernel
theorem dJ5_putStringAt_47b60_1 : decode cJ5_putStringAt_47b60 1 = .ok (.aload_n 2, 1) := by decide +kernel
theorem dJ5_putStringAt_47b60_2 : decode cJ5_putStringAt_47b60 2 = .ok (.invokevirtual 397, 3) := by decide +kernel
theorem dJ5_putStringAt_47b60_5 : decode cJ5_putStringAt_47b60 5 = .ok (.aload_n 2, 1) := by decide +kernel
theorem dJ5_putStringAt_47b60_6 : decode cJ5_putStringAt_47b60 6 = .ok (.aload_n 0, 1) := by decide +kernel
theorem dJ5_putStringAt_47b60_7 : decode cJ5_putStringAt_47b60 7 = .ok (.getfield 15, 3) := by decide +kernel
theorem dJ5_putStringAt_47b60_10 : decode cJ5_putStringAt_47b60 10 = .ok (.iload_n 1, 1) := by decide +kernel
theorem dJ5_putStringAt_47b60_11 : decode cJ5_putStringAt_47b60 11 = .ok (.aload_n 0, 1) := by decide +kernel
theorem dJ5_putStringAt_47b60_12 : decode cJ5_putStringAt_47b60 12 = .ok (.getfield 22, 3) := by decide +kernel
theorem dJ5_putStringAt_47b60_15 : decode cJ5_putStringAt_47b60 15 = .ok (.invokevirtual 399, 3) := by decide +kernel
theorem dJ5_putStringAt_47b60_18 : decode cJ5_putStringAt_47b60 18 = .ok (.return_, 1) := by decide +kernel
theorem dJ5_append_cf1ce_0 : decode cJ5_append_cf1ce 0 = .ok (.aload_n 1, 1) := by decide +kernel
theorem dJ5_append_cf1ce_1 : decode cJ5_append_cf1ce 1 = .ok (.ifnonnull 8, 3) := by decide +kernel
theorem dJ5_append_cf1ce_9 : decode cJ5_append_cf1ce 9 = .ok (.aload_n 1, 1) := by decide +kernel
theorem dJ5_append_cf1ce_10 : decode cJ5_append_cf1ce 10 = .ok (.invokevirtual 32, 3) := by decide +kernel
theorem dJ5_append_cf1ce_13 : decode cJ5_append_cf1ce 13 = .ok (.istore_n 2, 1) := by decide +kernel
theorem dJ5_append_cf1ce_14 : decode cJ5_append_cf1ce 14 = .ok (.aload_n 0, 1) := by decide +kernel
theorem dJ5_append_cf1ce_15 : decode cJ5_append_cf1ce 15 = .ok (.aload_n 0, 1) := by decide +kernel
theorem dJ5_append_cf1ce_16 : decode cJ5_append_cf1ce 16 = .ok (.getfield 79, 3) := by decide +kernel
theorem dJ5_append_cf1ce_19 : decode cJ5_append_cf1ce 19 = .ok (.iload_n 2, 1) := by decide +kernel
theorem dJ5_append_cf1ce_20 : decode cJ5_append_cf1ce 20 = .ok (.iadd, 1) := by decide +kernel
theorem dJ5_append_cf1ce_21 : decode cJ5_append_cf1ce 21 = .ok (.invokevirtual 100, 3) := by decide +kernel
theorem dJ5_append_cf1ce_24 : decode cJ5_append_cf1ce 24 = .ok (.aload_n 0, 1) := by decide +kernel
theorem dJ5_append_cf1ce_25 : decode cJ5_append_cf1ce 25 = .ok (.aload_n 0, 1) := by decide +kernel
theorem dJ5_append_cf1ce_26 : decode cJ5_append_cf1ce 26 = .ok (.getfield 79, 3) := by decide +kernel
theorem dJ5_append_cf1ce_29 : decode cJ5_append_cf1ce 29 = .ok (.aload_n 1, 1) := by decide +kernel
theorem dJ5_append_cf1ce_30 : decode cJ5_append_cf1ce 30 = .ok (.invokevirtual 208, 3) := by decide +kernel
theorem dJ5_append_cf1ce_33 : decode cJ5_append_cf1ce 33 = .ok (.aload_n 0, 1) := by decide +kernel
theorem dJ5_append_cf1ce_34 : decode cJ5_append_cf1ce 34 = .ok (.dup, 1) := by decide +kernel
theorem dJ5_append_cf1ce_35 : decode cJ5_append_cf1ce 35 = .ok (.getfield 79, 3) := by decide +kernel
theorem dJ5_append_cf1ce_38 : decode cJ5_append_cf1ce 38 = .ok (.iload_n 2, 1) := by decide +kernel
theorem dJ5_append_cf1ce_39 : decode cJ5_append_cf1ce 39 = .ok (.iadd, 1) := by decide +kernel
theorem dJ5_append_cf1ce_40 : decode cJ5_append_cf1ce 40 = .ok (.putfield 79, 3) := by decide +kernel
theorem dJ5_append_cf1ce_43 : decode cJ5_append_cf1ce 43 = .ok (.aload_n 0, 1) := by decide +kernel
theorem dJ5_append_cf1ce_44 : decode cJ5_append_cf1ce 44 = .ok (.areturn, 1) := by decide +kernel
theorem dJ4_append_15ec4_0 : decode cJ4_append_15ec4 0 = .ok (.aload_n 0, 1) := by decide +kernel
theorem dJ4_append_15ec4_1 : decode cJ4_append_15ec4 1 = .ok (.aload_n 1, 1) := by decide +kernel
theorem dJ4_append_15ec4_2 : decode cJ4_append_15ec4 2 = .ok (.invokespecial 29, 3) := by decide +kernel
theorem dJ4_append_15ec4_5 : decode cJ4_append_15ec4 5 = .ok (.pop, 1) := by decide +kernel
theorem dJ4_append_15ec4_6 : decode cJ4_append_15ec4 6 = .ok (.aload_n 0, 1) := by decide +kernel
theorem dJ4_append_15ec4_7 : decode cJ4_append_15ec4 7 = .ok (.areturn, 1) := by decide +kernel
theorem dJ6_stringSize_0f7a4_0 : decode cJ6_stringSize_0f7a4 0 = .ok (.iconst 1, 1) := by decide +kernel
theorem dJ6_stringSize_0f7a4_1 : decode cJ6_stringSize_0f7a4 1 = .ok (.istore_n 1, 1) := by decide +kernel
theorem dJ6_stringSize_0f7a4_2 : decode cJ6_stringSize_0f7a4 2 = .ok (.iload_n 0, 1) := by decide +kernel
theorem dJ6_stringSize_0f7a4_3 : decode cJ6_stringSize_0f7a4 3 = .ok (.ifCond .lt 8, 3) := by decide +kernel
theorem dJ6_stringSize_0f7a4_6 : decode cJ6_stringSize_0f7a4 6 = .ok (.iconst 0, 1) := by decide +kernel
theorem dJ6_stringSize_0f7a4_7 : decode cJ6_stringSize_0f7a4 7 = .ok (.istore_n 1, 1) := by decide +kernel
theorem dJ6_stringSize_0f7a4_8 : decode cJ6_stringSize_0f7a4 8 = .ok (.iload_n 0, 1) := by decide +kernel
theorem dJ6_stringSize_0f7a4_9 : decode cJ6_stringSize_0f7a4 9 = .ok (.ineg, 1) := by decide +kernel
theorem dJ6_stringSize_0f7a4_10 : decode cJ6_stringSize_0f7a4 10 = .ok (.istore_n 0, 1) := by decide +kernel
theorem dJ6_stringSize_0f7a4_11 : decode cJ6_stringSize_0f7a4 11 = .ok (.bipush (-10), 2) := by decide +kernel
theorem dJ6_stringSize_0f7a4_13 : decode cJ6_stringSize_0f7a4 13 = .ok (.istore_n 2, 1) := by decide +kernel
theorem dJ6_stringSize_0f7a4_14 : decode cJ6_stringSize_0f7a4 14 = .ok (.iconst 1, 1) := by decide +kernel
theorem dJ6_stringSize_0f7a4_15 : decode cJ6_stringSize_0f7a4 15 = .ok (.istore_n 3, 1) := by decide +kernel
theorem dJ6_stringSize_0f7a4_16 : decode cJ6_stringSize_0f7a4 16 = .ok (.iload_n 3, 1) := by decide +kernel
theorem dJ6_stringSize_0f7a4_17 : decode cJ6_stringSize_0f7a4 17 = .ok (.bipush 10, 2) := by decide +kernel
theorem dJ6_stringSize_0f7a4_19 : decode cJ6_stringSize_0f7a4 19 = .ok (.if_icmp .ge 23, 3) := by decide +kernel
theorem dJ6_stringSize_0f7a4_22 : decode cJ6_stringSize_0f7a4 22 = .ok (.iload_n 0, 1) := by decide +kernel
theorem dJ6_stringSize_0f7a4_23 : decode cJ6_stringSize_0f7a4 23 = .ok (.iload_n 2, 1) := by decide +kernel
theorem dJ6_stringSize_0f7a4_24 : decode cJ6_stringSize_0f7a4 24 = .ok (.if_icmp .le 7, 3) := by decide +kernel
theorem dJ6_stringSize_0f7a4_27 : decode cJ6_stringSize_0f7a4 27 = .ok (.iload_n 3, 1) := by decide +kernel
theorem dJ6_stringSize_0f7a4_28 : decode cJ6_stringSize_0f7a4 28 = .ok (.iload_n 1, 1) := by decide +kernel
theorem dJ6_stringSize_0f7a4_29 : decode cJ6_stringSize_0f7a4 29 = .ok (.iadd, 1) := by decide +kernel
theorem dJ6_stringSize_0f7a4_30 : decode cJ6_stringSize_0f7a4 30 = .ok (.ireturn, 1) := by decide +kernel
theorem dJ6_stringSize_0f7a4_31 : decode cJ6_stringSize_0f7a4 31 = .ok (.bipush 10, 2) := by decide +kernel
theorem dJ6_stringSize_0f7a4_33 : decode cJ6_stringSize_0f7a4 33 = .ok (.iload_n 2, 1) := by decide +kernel
theorem dJ6_stringSize_0f7a4_34 : decode cJ6_stringSize_0f7a4 34 = .ok (.imul, 1) := by decide +kernel
theorem dJ6_stringSize_0f7a4_35 : decode cJ6_stringSize_0f7a4 35 = .ok (.istore_n 2, 1) := by decide +kernel
theorem dJ6_stringSize_0f7a4_36 : decode cJ6_stringSize_0f7a4 36 = .ok (.iinc 3 1, 3) := by decide +kernel
theorem dJ6_stringSize_0f7a4_39 : decode cJ6_stringSize_0f7a4 39 = .ok (.goto (-23), 3) := by decide +kernel
theorem dJ6_stringSize_0f7a4_42 : decode cJ6_stringSize_0f7a4 42 = .ok (.bipush 10, 2) := by decide +kernel
theorem dJ6_stringSize_0f7a4_44 : decode cJ6_stringSize_0f7a4 44 = .ok (.iload_n 1, 1) := by decide +kernel
theorem dJ6_stringSize_0f7a4_45 : decode cJ6_stringSize_0f7a4 45 = .ok (.iadd, 1) := by decide +kernel
theorem dJ6_stringSize_0f7a4_46 : decode cJ6_stringSize_0f7a4 46 = .ok (.ireturn, 1) := by decide +kernel
theorem dJ6_getChars_ba4f3_0 : decode cJ6_getChars_ba4f3 0 = .ok (.iload_n 1, 1) := by decide +kernel
theorem dJ6_getChars_ba4f3_1 : decode cJ6_getChars_ba4f3 1 = .ok (.istore 5, 2) := by decide +kernel
theorem dJ6_getChars_ba4f3_3 : decode cJ6_getChars_ba4f3 3 = .ok (.iload_n 0, 1) := by decide +kernel
theorem dJ6_getChars_ba4f3_4 : decode cJ6_getChars_ba4f3 4 = .ok (.ifCond .ge 7, 3) := by decide +kernel
theorem dJ6_getChars_ba4f3_11 : decode cJ6_getChars_ba4f3 11 = .ok (.iconst 0, 1) := by decide +kernel
theorem dJ6_getChars_ba4f3_12 : decode cJ6_getChars_ba4f3 12 = .ok (.istore 6, 2) := by decide +kernel
theorem dJ6_getChars_ba4f3_14 : decode cJ6_getChars_ba4f3 14 = .ok (.iload 6, 2) := by decide +kernel
theorem dJ6_getChars_ba4f3_16 : decode cJ6_getChars_ba4f3 16 = .ok (.ifCond .ne 6, 3) := by decide +kernel
theorem dJ6_getChars_ba4f3_19 : decode cJ6_getChars_ba4f3 19 = .ok (.iload_n 0, 1) := by decide +kernel
theorem dJ6_getChars_ba4f3_20 : decode cJ6_getChars_ba4f3 20 = .ok (.ineg, 1) := by decide +kernel
theorem dJ6_getChars_ba4f3_21 : decode cJ6_getChars_ba4f3 21 = .ok (.istore_n 0, 1) := by decide +kernel
theorem dJ6_getChars_ba4f3_22 : decode cJ6_getChars_ba4f3 22 = .ok (.iload_n 0, 1) := by decide +kernel
theorem dJ6_getChars_ba4f3_23 : decode cJ6_getChars_ba4f3 23 = .ok (.bipush (-100), 2) := by decide +kernel
theorem dJ6_getChars_ba4f3_25 : decode cJ6_getChars_ba4f3 25 = .ok (.if_icmp .gt 47, 3) := by decide +kernel
theorem dJ6_getChars_ba4f3_28 : decode cJ6_getChars_ba4f3 28 = .ok (.iload_n 0, 1) := by decide +kernel
theorem dJ6_getChars_ba4f3_29 : decode cJ6_getChars_ba4f3 29 = .ok (.bipush 100, 2) := by decide +kernel
theorem dJ6_getChars_ba4f3_31 : decode cJ6_getChars_ba4f3 31 = .ok (.idiv, 1) := by decide +kernel
theorem dJ6_getChars_ba4f3_32 : decode cJ6_getChars_ba4f3 32 = .ok (.istore_n 3, 1) := by decide +kernel
theorem dJ6_getChars_ba4f3_33 : decode cJ6_getChars_ba4f3 33 = .ok (.iload_n 3, 1) := by decide +kernel
theorem dJ6_getChars_ba4f3_34 : decode cJ6_getChars_ba4f3 34 = .ok (.bipush 100, 2) := by decide +kernel
theorem dJ6_getChars_ba4f3_36 : decode cJ6_getChars_ba4f3 36 = .ok (.imul, 1) := by decide +kernel
theorem dJ6_getChars_ba4f3_37 : decode cJ6_getChars_ba4f3 37 = .ok (.iload_n 0, 1) := by decide +kernel
theorem dJ6_getChars_ba4f3_38 : decode cJ6_getChars_ba4f3 38 = .ok (.isub, 1) := by decide +kernel
theorem dJ6_getChars_ba4f3_39 : decode cJ6_getChars_ba4f3 39 = .ok (.istore 4, 2) := by decide +kernel
theorem dJ6_getChars_ba4f3_41 : decode cJ6_getChars_ba4f3 41 = .ok (.iload_n 3, 1) := by decide +kernel
theorem dJ6_getChars_ba4f3_42 : decode cJ6_getChars_ba4f3 42 = .ok (.istore_n 0, 1) := by decide +kernel
theorem dJ6_getChars_ba4f3_43 : decode cJ6_getChars_ba4f3 43 = .ok (.aload_n 2, 1) := by decide +kernel
theorem dJ6_getChars_ba4f3_44 : decode cJ6_getChars_ba4f3 44 = .ok (.iinc 5 (-1), 3) := by decide +kernel
theorem dJ6_getChars_ba4f3_47 : decode cJ6_getChars_ba4f3 47 = .ok (.iload 5, 2) := by decide +kernel
theorem dJ6_getChars_ba4f3_49 : decode cJ6_getChars_ba4f3 49 = .ok (.getstatic 83, 3) := by decide +kernel
theorem dJ6_getChars_ba4f3_52 : decode cJ6_getChars_ba4f3 52 = .ok (.iload 4, 2) := by decide +kernel
theorem dJ6_getChars_ba4f3_54 : decode cJ6_getChars_ba4f3 54 = .ok (.baload, 1) := by decide +kernel
theorem dJ6_getChars_ba4f3_55 : decode cJ6_getChars_ba4f3 55 = .ok (.bastore, 1) := by decide +kernel
theorem dJ6_getChars_ba4f3_56 : decode cJ6_getChars_ba4f3 56 = .ok (.aload_n 2, 1) := by decide +kernel
theorem dJ6_getChars_ba4f3_57 : decode cJ6_getChars_ba4f3 57 = .ok (.iinc 5 (-1), 3) := by decide +kernel
theorem dJ6_getChars_ba4f3_60 : decode cJ6_getChars_ba4f3 60 = .ok (.iload 5, 2) := by decide +kernel
theorem dJ6_getChars_ba4f3_62 : decode cJ6_getChars_ba4f3 62 = .ok (.getstatic 87, 3) := by decide +kernel
theorem dJ6_getChars_ba4f3_65 : decode cJ6_getChars_ba4f3 65 = .ok (.iload 4, 2) := by decide +kernel
theorem dJ6_getChars_ba4f3_67 : decode cJ6_getChars_ba4f3 67 = .ok (.baload, 1) := by decide +kernel
theorem dJ6_getChars_ba4f3_68 : decode cJ6_getChars_ba4f3 68 = .ok (.bastore, 1) := by decide +kernel
theorem dJ6_getChars_ba4f3_69 : decode cJ6_getChars_ba4f3 69 = .ok (.goto (-47), 3) := by decide +kernel
theorem dJ6_getChars_ba4f3_72 : decode cJ6_getChars_ba4f3 72 = .ok (.aload_n 2, 1) := by decide +kernel
theorem dJ6_getChars_ba4f3_73 : decode cJ6_getChars_ba4f3 73 = .ok (.iinc 5 (-1), 3) := by decide +kernel
theorem dJ6_getChars_ba4f3_76 : decode cJ6_getChars_ba4f3 76 = .ok (.iload 5, 2) := by decide +kernel
theorem dJ6_getChars_ba4f3_78 : decode cJ6_getChars_ba4f3 78 = .ok (.getstatic 83, 3) := by decide +kernel
theorem dJ6_getChars_ba4f3_81 : decode cJ6_getChars_ba4f3 81 = .ok (.iload_n 0, 1) := by decide +kernel
theorem dJ6_getChars_ba4f3_82 : decode cJ6_getChars_ba4f3 82 = .ok (.ineg, 1) := by decide +kernel
theorem dJ6_getChars_ba4f3_83 : decode cJ6_getChars_ba4f3 83 = .ok (.baload, 1) := by decide +kernel
theorem dJ6_getChars_ba4f3_84 : decode cJ6_getChars_ba4f3 84 = .ok (.bastore, 1) := by decide +kernel
theorem dJ6_getChars_ba4f3_85 : decode cJ6_getChars_ba4f3 85 = .ok (.iload_n 0, 1) := by decide +kernel
theorem dJ6_getChars_ba4f3_86 : decode cJ6_getChars_ba4f3 86 = .ok (.bipush (-9), 2) := by decide +kernel
theorem dJ6_getChars_ba4f3_88 : decode cJ6_getChars_ba4f3 88 = .ok (.if_icmp .ge 16, 3) := by decide +kernel
theorem dJ6_getChars_ba4f3_91 : decode cJ6_getChars_ba4f3 91 = .ok (.aload_n 2, 1) := by decide +kernel
theorem dJ6_getChars_ba4f3_92 : decode cJ6_getChars_ba4f3 92 = .ok (.iinc 5 (-1), 3) := by decide +kernel
theorem dJ6_getChars_ba4f3_95 : decode cJ6_getChars_ba4f3 95 = .ok (.iload 5, 2) := by decide +kernel
theorem dJ6_getChars_ba4f3_97 : decode cJ6_getChars_ba4f3 97 = .ok (.getstatic 87, 3) := by decide +kernel
theorem dJ6_getChars_ba4f3_100 : decode cJ6_getChars_ba4f3 100 = .ok (.iload_n 0, 1) := by decide +kernel
theorem dJ6_getChars_ba4f3_101 : decode cJ6_getChars_ba4f3 101 = .ok (.ineg, 1) := by decide +kernel
theorem dJ6_getChars_ba4f3_102 : decode cJ6_getChars_ba4f3 102 = .ok (.baload, 1) := by decide +kernel
theorem dJ6_getChars_ba4f3_103 : decode cJ6_getChars_ba4f3 103 = .ok (.bastore, 1) := by decide +kernel
theorem dJ6_getChars_ba4f3_104 : decode cJ6_getChars_ba4f3 104 = .ok (.iload 6, 2) := by decide +kernel
theorem dJ6_getChars_ba4f3_106 : decode cJ6_getChars_ba4f3 106 = .ok (.ifCond .eq 12, 3) := by decide +kernel
theorem dJ6_getChars_ba4f3_118 : decode cJ6_getChars_ba4f3 118 = .ok (.iload 5, 2) := by decide +kernel
theorem dJ6_getChars_ba4f3_120 : decode cJ6_getChars_ba4f3 120 = .ok (.ireturn, 1) := by decide +kernel
theorem dJ5_append_c97b9_0 : decode cJ5_append_c97b9 0 = .ok (.aload_n 0, 1) := by decide +kernel
theorem dJ5_append_c97b9_1 : decode cJ5_append_c97b9 1 = .ok (.getfield 79, 3) := by decide +kernel
theorem dJ5_append_c97b9_4 : decode cJ5_append_c97b9 4 = .ok (.istore_n 2, 1) := by decide +kernel
theorem dJ5_append_c97b9_5 : decode cJ5_append_c97b9 5 = .ok (.iload_n 2, 1) := by decide +kernel
theorem dJ5_append_c97b9_6 : decode cJ5_append_c97b9 6 = .ok (.iload_n 1, 1) := by decide +kernel
theorem dJ5_append_c97b9_7 : decode cJ5_append_c97b9 7 = .ok (.invokestatic 245, 3) := by decide +kernel
theorem dJ5_append_c97b9_10 : decode cJ5_append_c97b9 10 = .ok (.iadd, 1) := by decide +kernel
theorem dJ5_append_c97b9_11 : decode cJ5_append_c97b9 11 = .ok (.istore_n 3, 1) := by decide +kernel
theorem dJ5_append_c97b9_12 : decode cJ5_append_c97b9 12 = .ok (.aload_n 0, 1) := by decide +kernel
theorem dJ5_append_c97b9_13 : decode cJ5_append_c97b9 13 = .ok (.iload_n 3, 1) := by decide +kernel
theorem dJ5_append_c97b9_14 : decode cJ5_append_c97b9 14 = .ok (.invokevirtual 100, 3) := by decide +kernel
theorem dJ5_append_c97b9_17 : decode cJ5_append_c97b9 17 = .ok (.aload_n 0, 1) := by decide +kernel
theorem dJ5_append_c97b9_18 : decode cJ5_append_c97b9 18 = .ok (.invokevirtual 83, 3) := by decide +kernel
theorem dJ5_append_c97b9_21 : decode cJ5_append_c97b9 21 = .ok (.ifCond .eq 16, 3) := by decide +kernel
theorem dJ5_append_c97b9_24 : decode cJ5_append_c97b9 24 = .ok (.iload_n 1, 1) := by decide +kernel
theorem dJ5_append_c97b9_25 : decode cJ5_append_c97b9 25 = .ok (.iload_n 3, 1) := by decide +kernel
theorem dJ5_append_c97b9_26 : decode cJ5_append_c97b9 26 = .ok (.aload_n 0, 1) := by decide +kernel
theorem dJ5_append_c97b9_27 : decode cJ5_append_c97b9 27 = .ok (.getfield 15, 3) := by decide +kernel
theorem dJ5_append_c97b9_30 : decode cJ5_append_c97b9 30 = .ok (.invokestatic 248, 3) := by decide +kernel
theorem dJ5_append_c97b9_33 : decode cJ5_append_c97b9 33 = .ok (.pop, 1) := by decide +kernel
theorem dJ5_append_c97b9_34 : decode cJ5_append_c97b9 34 = .ok (.goto 14, 3) := by decide +kernel
theorem dJ5_append_c97b9_48 : decode cJ5_append_c97b9 48 = .ok (.aload_n 0, 1) := by decide +kernel
theorem dJ5_append_c97b9_49 : decode cJ5_append_c97b9 49 = .ok (.iload_n 3, 1) := by decide +kernel
theorem dJ5_append_c97b9_50 : decode cJ5_append_c97b9 50 = .ok (.putfield 79, 3) := by decide +kernel
theorem dJ5_append_c97b9_53 : decode cJ5_append_c97b9 53 = .ok (.aload_n 0, 1) := by decide +kernel
theorem dJ5_append_c97b9_54 : decode cJ5_append_c97b9 54 = .ok (.areturn, 1) := by decide +kernel
theorem dJ4_append_bf812_0 : decode cJ4_append_bf812 0 = .ok (.aload_n 0, 1) := by decide +kernel
theorem dJ4_append_bf812_1 : decode cJ4_append_bf812 1 = .ok (.iload_n 1, 1) := by decide +kernel
theorem dJ4_append_bf812_2 : decode cJ4_append_bf812 2 = .ok (.invokespecial 53, 3) := by decide +kernel
theorem dJ4_append_bf812_5 : decode cJ4_append_bf812 5 = .ok (.pop, 1) := by decide +kernel
theorem dJ4_append_bf812_6 : decode cJ4_append_bf812 6 = .ok (.aload_n 0, 1) := by decide +kernel
theorem dJ4_append_bf812_7 : decode cJ4_append_bf812 7 = .ok (.areturn, 1) := by decide +kernel
set_option maxRecDepth 20000 in
theorem c_J7_checkLength_df160 (l : Launch) (G : zG) {M : zM}  {d : Nat}  (hd : d ≤ 65536) : z_Mv l G qJ7_checkLength_df160 (z_rm 1 0 0) [.int 0, .int (nI d)] M (fun M' => M' = M)  := by
  refine z_Mv_of _ (by decide +kernel) rfl (Nat.le_of_ble_eq_true rfl) (fun X hl hG hnm C ret => ?_)
  subst hl; subst hG
  have C : z_C X cJ7_checkLength_df160 RJ7 2 (z_rm 1 0 0) := C
  show z_W X M 0 0 0 [(0, .int 0), (1, .int (nI d))] []
  refine z_iload_n C dJ7_checkLength_df160_0 rfl 1 rfl ?_
  refine z_iload_n C dJ7_checkLength_df160_1 rfl 0 rfl ?_
  refine z_icmp_ge C (tgt := 37) dJ7_checkLength_df160_2 (by decide) (fun _ => ?_) (fun c2 => absurd (nI_pos' (by omega)) c2)
  exact ret dJ7_checkLength_df160_37 (rfl) (by decide) (by decide)
set_option maxRecDepth 20000 in
theorem c_J7_copyOfRangeByte_39247 (l : Launch) (G : zG) {M : zM} {vb : Nat} {n : Nat} {f : Nat → Int32} {d : Nat} (h_vb : M vb = some (aB G n f)) (h0 : d ≤ n) (hn : n ≤ 65536) (hf : sb_Fit f) : z_Mr l G qJ7_copyOfRangeByte_39247 (z_rm 2 1 d) [.ref vb, .int 0, .int (nI d)] M (fun r M' => ∃ q10 : Nat, (M) q10 = none ∧ r = q10 ∧ M' = z_up M q10 (aB G d (va_cpy f (fun _ => 0) 0 0 d)))  := by
  refine z_Mr_of _ (by decide +kernel) rfl (by first | exact Or.inl ⟨_, rfl⟩ | exact Or.inr ⟨_, rfl⟩) (Nat.le_of_ble_eq_true rfl) (fun X hl hG hnm C ret => ?_)
  subst hl; subst hG
  have C : z_C X cJ7_copyOfRangeByte_39247 RJ7 5 (z_rm 2 1 d) := C
  show z_W X M 0 0 0 [(0, .ref vb), (1, .int 0), (2, .int (nI d))] []
  refine z_iload_n C dJ7_copyOfRangeByte_39247_0 rfl 1 rfl ?_
  refine z_iload_n C dJ7_copyOfRangeByte_39247_1 rfl 2 rfl ?_
  refine z_callSv (rest := []) (k' := 0) (n' := 0) C (c_J7_checkLength_df160 (z_l X) (z_G X) (by omega)) (cs_J7_343 C ⟨Nat.le_of_ble_eq_true rfl, Nat.le_of_ble_eq_true rfl⟩) rfl rfl (Nat.le_of_ble_eq_true rfl) rfl rfl (Nat.le_of_ble_eq_true rfl) (by show _ ≤ d; omega) dJ7_copyOfRangeByte_39247_2 (fun M' hq => ?_)
  obtain rfl := hq
  refine z_iload_n C dJ7_copyOfRangeByte_39247_5 rfl 2 rfl ?_
  refine z_iload_n C dJ7_copyOfRangeByte_39247_6 rfl 1 rfl ?_
  refine z_isub C dJ7_copyOfRangeByte_39247_7 ?_
  rw [show (((nI d) - 0) : Int32) = nI d from (j_sub0 _)]
  refine z_istore_n (lv' := [(3, .int (nI d)), (0, .ref vb), (1, .int 0), (2, .int (nI d))]) C dJ7_copyOfRangeByte_39247_8 rfl (by decide) rfl ?_
  refine z_iload_n C dJ7_copyOfRangeByte_39247_9 rfl 0 rfl ?_
  refine z_newB (N := d) C kw127 (nI_pos (by omega)) (nI_clamp (by omega)) (by omega) (Nat.le_of_ble_eq_true rfl) (by show _ ≤ d; omega) dJ7_copyOfRangeByte_39247_10 (fun q10 hq10 => ?_)
  refine z_kn (k' := 1) (n' := 0 + d) rfl rfl ?_
  refine z_astore (lv' := [(4, .ref q10), (3, .int (nI d)), (0, .ref vb), (1, .int 0), (2, .int (nI d))]) C dJ7_copyOfRangeByte_39247_12 (by decide) rfl ?_
  refine z_aload_n C dJ7_copyOfRangeByte_39247_14 rfl 2 rfl ?_
  refine z_iload_n C dJ7_copyOfRangeByte_39247_15 rfl 3 rfl ?_
  refine z_aload C dJ7_copyOfRangeByte_39247_16 0 rfl ?_
  refine z_iconst C (v := 0) dJ7_copyOfRangeByte_39247_18 (by decide) ?_
  refine z_aload_n C dJ7_copyOfRangeByte_39247_19 rfl 2 rfl ?_
  refine z_alenB C (v := nI n) ((z_up_n _ _ (z_neN h_vb hq10)).trans h_vb) rfl dJ7_copyOfRangeByte_39247_20 ?_
  refine z_iload_n C dJ7_copyOfRangeByte_39247_21 rfl 3 rfl ?_
  refine z_isub C dJ7_copyOfRangeByte_39247_22 ?_
  rw [show (((nI n) - 0) : Int32) = nI n from (j_sub0 _)]
  refine z_iload_n C dJ7_copyOfRangeByte_39247_23 rfl 1 rfl ?_
  refine z_callSi (rest := [.int 0, .ref q10, .int 0, .ref vb]) (k' := 1) (n' := 0 + d) C (c_min_r (z_l X) (z_G X) (nI_le h0 (by omega))) (cs_J7_304 C ⟨Nat.le_of_ble_eq_true rfl, Nat.le_of_ble_eq_true rfl⟩) rfl rfl (Nat.le_of_ble_eq_true rfl) rfl rfl (Nat.le_of_ble_eq_true rfl) (by show _ ≤ d; omega) dJ7_copyOfRangeByte_39247_24 (fun x24 M' hq => ?_)
  obtain ⟨rfl, rfl⟩ := hq
  refine z_copyN 0 0 d C kw233 ((z_up_n _ _ (z_neN h_vb hq10)).trans h_vb) (z_up_s _ _ _) (by decide) (by decide) (nI_pos (by omega)) (by decide) (by decide) (nI_clamp (by omega)) (by omega) (by omega) hf ⟨Nat.le_of_ble_eq_true rfl, Nat.le_of_ble_eq_true rfl⟩ (Nat.le_of_ble_eq_true rfl) dJ7_copyOfRangeByte_39247_27 ?_
  rw [z_up_up]
  refine z_aload C dJ7_copyOfRangeByte_39247_30 0 rfl ?_
  exact ret dJ7_copyOfRangeByte_39247_32 (⟨q10, hq10, rfl, rfl⟩) (Nat.le_of_ble_eq_true rfl) (by show _ ≤ d; omega)
set_option maxRecDepth 20000 in
theorem c_J7_copyOfRange_39247 (l : Launch) (G : zG) {M : zM} {vb : Nat} {n : Nat} {f : Nat → Int32} {d : Nat} (h_vb : M vb = some (aB G n f)) (h0 : d ≤ n) (hn : n ≤ 65536) (hf : sb_Fit f) : z_Mr l G qJ7_copyOfRange_39247 (z_rm 3 1 d) [.ref vb, .int 0, .int (nI d)] M (fun r M' => ∃ (f9 : Nat → Int32) (q9 : Nat), M q9 = none ∧ (sb_Fit f9) ∧ r = q9 ∧ M' = z_up M q9 (aB G d f9))  := by
  refine z_Mr_of _ (by decide +kernel) rfl (by first | exact Or.inl ⟨_, rfl⟩ | exact Or.inr ⟨_, rfl⟩) (Nat.le_of_ble_eq_true rfl) (fun X hl hG hnm C ret => ?_)
  subst hl; subst hG
  have C : z_C X cJ7_copyOfRange_39247 RJ7 3 (z_rm 3 1 d) := C
  show z_W X M 0 0 0 [(0, .ref vb), (1, .int 0), (2, .int (nI d))] []
  refine z_iload_n C dJ7_copyOfRange_39247_0 rfl 1 rfl ?_
  refine z_if_ne C (tgt := 10) dJ7_copyOfRange_39247_1 (by decide) (fun c1 => absurd (by decide) c1) (fun _ => ?_)
  refine z_iload_n C dJ7_copyOfRange_39247_4 rfl 2 rfl ?_
  refine z_aload_n C dJ7_copyOfRange_39247_5 rfl 0 rfl ?_
  refine z_alenB C (v := nI n) h_vb rfl dJ7_copyOfRange_39247_6 ?_
  refine z_icmp_eq C (tgt := 17) dJ7_copyOfRange_39247_7 (by decide) (fun c7 => ?_) (fun c7 => ?_)
  · refine z_aload_n C dJ7_copyOfRange_39247_17 rfl 0 rfl ?_
    refine z_clone (rest := []) C kw223 h_vb hf ⟨Nat.le_of_ble_eq_true rfl, Nat.le_of_ble_eq_true rfl⟩ (Nat.le_of_ble_eq_true rfl) (Nat.le_of_ble_eq_true rfl) (by show _ ≤ d; have e9 := j_inj (by omega) (by omega) c7; omega) dJ7_copyOfRange_39247_18 (fun q18 hq18 => ?_)
    refine z_kn (k' := 1) (n' := 0 + n) rfl rfl ?_
    refine z_castB C kw229 (z_up_s _ _ _) dJ7_copyOfRange_39247_21 ?_
    refine ret dJ7_copyOfRange_39247_24 ?_ (Nat.le_of_ble_eq_true rfl) (by show _ ≤ d; have e9 := j_inj (by omega) (by omega) c7; omega)
    have e9 := j_inj (a := d) (b := n) (by omega) (by omega) c7
    exact ⟨f, _, hq18, hf, rfl, by rw [e9]⟩
  · refine z_aload_n C dJ7_copyOfRange_39247_10 rfl 0 rfl ?_
    refine z_iload_n C dJ7_copyOfRange_39247_11 rfl 1 rfl ?_
    refine z_iload_n C dJ7_copyOfRange_39247_12 rfl 2 rfl ?_
    refine z_callSr (rest := []) (k' := 1) (n' := 0 + d) C (c_J7_copyOfRangeByte_39247 (z_l X) (z_G X) h_vb h0 hn hf) (cs_J7_339 C ⟨Nat.le_of_ble_eq_true rfl, Nat.le_of_ble_eq_true rfl⟩) rfl rfl (Nat.le_of_ble_eq_true rfl) rfl rfl (Nat.le_of_ble_eq_true rfl) (by show _ ≤ d; omega) dJ7_copyOfRange_39247_13 (fun x13 M' hq => ?_)
    obtain ⟨q10_13, hq10_13, hr13, rfl⟩ := hq
    rw [hr13]
    refine ret dJ7_copyOfRange_39247_16 ?_ (Nat.le_of_ble_eq_true rfl) (by show _ ≤ d; omega)
    exact ⟨_, _, hq10_13, sb_fitC hf sb_fit0, rfl, rfl⟩
set_option maxRecDepth 20000 in
theorem c_coderK (l : Launch) (G : zG) {M : zM}  {i : Nat}  (hi : i < 5) : z_Mi l G qJ0_coder_7d493 (z_rm 1 0 0) [.ref (zK G i)] M (fun r M' => r = 0 ∧ M' = M)  := by
  refine z_Mi_of _ (by decide +kernel) rfl (Nat.le_of_ble_eq_true rfl) (fun X hl hG hnm C ret => ?_)
  subst hl; subst hG
  have C : z_C X cJ0_coder_7d493 RJ0 1 (z_rm 1 0 0) := C
  show z_W X M 0 0 0 [(0, .ref (zK (z_G X) i))] []
  refine z_gsZ C kw275 dJ0_coder_7d493_0 ?_
  refine z_if_eq C (tgt := 13) dJ0_coder_7d493_3 (by decide) (fun c3 => absurd c3 (by decide)) (fun _ => ?_)
  refine z_aload_n C dJ0_coder_7d493_6 rfl 0 rfl ?_
  refine z_getKc C kw458 hi dJ0_coder_7d493_7 ?_
  refine z_goto C (tgt := 14) dJ0_coder_7d493_10 (by decide) ?_
  exact ret dJ0_coder_7d493_14 rfl (⟨rfl, rfl⟩) (by decide) (by decide)
set_option maxRecDepth 20000 in
theorem c_lenK (l : Launch) (G : zG) {M : zM}  {i : Nat}  (hi : i < 5) : z_Mi l G qJ0_length_8abf5 (z_rm 2 0 0) [.ref (zK G i)] M (fun r M' => r = nI (z_kln i) ∧ M' = M)  := by
  refine z_Mi_of _ (by decide +kernel) rfl (Nat.le_of_ble_eq_true rfl) (fun X hl hG hnm C ret => ?_)
  subst hl; subst hG
  have C : z_C X cJ0_length_8abf5 RJ0 1 (z_rm 2 0 0) := C
  show z_W X M 0 0 0 [(0, .ref (zK (z_G X) i))] []
  refine z_aload_n C dJ0_length_8abf5_0 rfl 0 rfl ?_
  refine z_getKv C kw457 hi dJ0_length_8abf5_1 ?_
  refine z_alenK C hi dJ0_length_8abf5_4 ?_
  refine z_aload_n C dJ0_length_8abf5_5 rfl 0 rfl ?_
  refine z_callKi (rest := [.int (nI (z_kln i))]) (k' := 0) (n' := 0) C (c_coderK (z_l X) (z_G X) hi) (cs_J0_335 C (by decide)) hi rfl trivial rfl rfl (Nat.le_of_ble_eq_true rfl) rfl rfl (by decide) (by decide) dJ0_length_8abf5_6 (fun x6 M' hq => ?_)
  obtain ⟨rfl, rfl⟩ := hq
  refine z_ishr C dJ0_length_8abf5_9 ?_
  rw [sb_shr0]
  exact ret dJ0_length_8abf5_10 rfl (⟨rfl, rfl⟩) (by decide) (by decide)
set_option maxRecDepth 20000 in
theorem c_J5_inflateIfNeededFor_a7421 (l : Launch) (G : zG) {M : zM} {sb : Nat} {vb : Nat} {ml : Int32} {i c : Nat} (h_sb : M sb = some (cSb vb 0 ml (nI c))) (hi : i < 5) : z_Mv l G qJ5_inflateIfNeededFor_a7421 (z_rm 2 0 0) [.ref sb, .ref (zK G i)] M (fun M' => M' = M)  := by
  refine z_Mv_of _ (by decide +kernel) rfl (Nat.le_of_ble_eq_true rfl) (fun X hl hG hnm C ret => ?_)
  subst hl; subst hG
  have C : z_C X cJ5_inflateIfNeededFor_a7421 RJ5 2 (z_rm 2 0 0) := C
  show z_W X M 0 0 0 [(0, .ref sb), (1, .ref (zK (z_G X) i))] []
  refine z_gsZ C kw104 dJ5_inflateIfNeededFor_a7421_0 ?_
  refine z_if_eq C (tgt := 21) dJ5_inflateIfNeededFor_a7421_3 (by decide) (fun c3 => absurd c3 (by decide)) (fun _ => ?_)
  refine z_aload_n C dJ5_inflateIfNeededFor_a7421_6 rfl 0 rfl ?_
  refine gf_J5_22 C h_sb dJ5_inflateIfNeededFor_a7421_7 ?_
  refine z_aload_n C dJ5_inflateIfNeededFor_a7421_10 rfl 1 rfl ?_
  refine z_callKi (rest := [.int 0]) (k' := 0) (n' := 0) C (c_coderK (z_l X) (z_G X) hi) (cs_J5_40 C (by decide)) hi rfl trivial rfl rfl (Nat.le_of_ble_eq_true rfl) rfl rfl (by decide) (by decide) dJ5_inflateIfNeededFor_a7421_11 (fun x11 M' hq => ?_)
  obtain ⟨rfl, rfl⟩ := hq
  refine z_icmp_eq C (tgt := 21) dJ5_inflateIfNeededFor_a7421_14 (by decide) (fun _ => ?_) (fun c14 => absurd (by decide) c14)
  exact ret dJ5_inflateIfNeededFor_a7421_21 (rfl) (by decide) (by decide)
set_option maxRecDepth 20000 in
theorem c_J0_getBytes_840e7 (l : Launch) (G : zG) {M : zM} {vb : Nat} {n : Nat} {f : Nat → Int32} {i c : Nat} (h_vb : M vb = some (aB G n f)) (hi : i < 5) (h0 : c + z_kln i ≤ n) (hn : n ≤ 65536) : z_Mv l G qJ0_getBytes_840e7 (z_rm 2 0 0) [.ref (zK G i), .ref vb, .int (nI c), .int 0] M (fun M' => M' = z_up M vb (aB G n (va_cpy (z_kby i) f 0 c (z_kln i))))  := by
  refine z_Mv_of _ (by decide +kernel) rfl (Nat.le_of_ble_eq_true rfl) (fun X hl hG hnm C ret => ?_)
  subst hl; subst hG
  have C : z_C X cJ0_getBytes_840e7 RJ0 4 (z_rm 2 0 0) := C
  show z_W X M 0 0 0 [(0, .ref (zK (z_G X) i)), (1, .ref vb), (2, .int (nI c)), (3, .int 0)] []
  refine z_aload_n C dJ0_getBytes_840e7_0 rfl 0 rfl ?_
  refine z_callKi (rest := []) (k' := 0) (n' := 0) C (c_coderK (z_l X) (z_G X) hi) (cs_J0_335 C (by decide)) hi rfl trivial rfl rfl (Nat.le_of_ble_eq_true rfl) rfl rfl (by decide) (by decide) dJ0_getBytes_840e7_1 (fun x1 M' hq => ?_)
  obtain ⟨rfl, rfl⟩ := hq
  refine z_iload_n C dJ0_getBytes_840e7_4 rfl 3 rfl ?_
  refine z_icmp_ne C (tgt := 28) dJ0_getBytes_840e7_5 (by decide) (fun c5 => absurd (by decide) c5) (fun _ => ?_)
  refine z_aload_n C dJ0_getBytes_840e7_8 rfl 0 rfl ?_
  refine z_getKv C kw457 hi dJ0_getBytes_840e7_9 ?_
  refine z_iconst C (v := 0) dJ0_getBytes_840e7_12 (by decide) ?_
  refine z_aload_n C dJ0_getBytes_840e7_13 rfl 1 rfl ?_
  refine z_iload_n C dJ0_getBytes_840e7_14 rfl 2 rfl ?_
  refine z_iload_n C dJ0_getBytes_840e7_15 rfl 3 rfl ?_
  refine z_ishl C dJ0_getBytes_840e7_16 ?_
  rw [sb_shl0]
  refine z_aload_n C dJ0_getBytes_840e7_17 rfl 0 rfl ?_
  refine z_getKv C kw457 hi dJ0_getBytes_840e7_18 ?_
  refine z_alenK C hi dJ0_getBytes_840e7_21 ?_
  refine z_copyK (z_kln i) c C hi kw308 h_vb (nI_pos (by omega)) (nI_pos (by omega)) (nI_clamp (by omega)) (nI_clamp (by omega)) (Nat.le_refl _) h0 ⟨Nat.le_of_ble_eq_true rfl, Nat.le_of_ble_eq_true rfl⟩ (Nat.le_of_ble_eq_true rfl) dJ0_getBytes_840e7_22 ?_
  refine z_goto C (tgt := 43) dJ0_getBytes_840e7_25 (by decide) ?_
  exact ret dJ0_getBytes_840e7_43 (rfl) (by decide) (by decide)
set_option maxRecDepth 20000 in
theorem c_J5_putStringAt_47b60 (l : Launch) (G : zG) {M : zM} {sb : Nat} {vb : Nat} {ml : Int32} {n : Nat} {f : Nat → Int32} {i c : Nat} (h_sb : M sb = some (cSb vb 0 ml (nI c))) (h_vb : M vb = some (aB G n f)) (hi : i < 5) (h0 : c + z_kln i ≤ n) (hn : n ≤ 65536) : z_Mv l G qJ5_putStringAt_47b60 (z_rm 3 0 0) [.ref sb, .int (nI c), .ref (zK G i)] M (fun M' => M' = z_up M vb (aB G n (va_cpy (z_kby i) f 0 c (z_kln i))))  := by
  refine z_Mv_of _ (by decide +kernel) rfl (Nat.le_of_ble_eq_true rfl) (fun X hl hG hnm C ret => ?_)
  subst hl; subst hG
  have C : z_C X cJ5_putStringAt_47b60 RJ5 3 (z_rm 3 0 0) := C
  show z_W X M 0 0 0 [(0, .ref sb), (1, .int (nI c)), (2, .ref (zK (z_G X) i))] []
  refine z_aload_n C dJ5_putStringAt_47b60_0 rfl 0 rfl ?_
  refine z_aload_n C dJ5_putStringAt_47b60_1 rfl 2 rfl ?_
  refine z_callUv (rest := []) (k' := 0) (n' := 0) C (c_J5_inflateIfNeededFor_a7421 (z_l X) (z_G X) h_sb hi) (cs_J5_397 C (by decide)) h_sb trivial trivial rfl rfl (Nat.le_of_ble_eq_true rfl) rfl rfl (by decide) (by decide) dJ5_putStringAt_47b60_2 (fun M' hq => ?_)
  obtain rfl := hq
  refine z_aload_n C dJ5_putStringAt_47b60_5 rfl 2 rfl ?_
  refine z_aload_n C dJ5_putStringAt_47b60_6 rfl 0 rfl ?_
  refine gf_J5_15 C h_sb dJ5_putStringAt_47b60_7 ?_
  refine z_iload_n C dJ5_putStringAt_47b60_10 rfl 1 rfl ?_
  refine z_aload_n C dJ5_putStringAt_47b60_11 rfl 0 rfl ?_
  refine gf_J5_22 C h_sb dJ5_putStringAt_47b60_12 ?_
  refine z_callKv (rest := []) (k' := 0) (n' := 0) C (c_J0_getBytes_840e7 (z_l X) (z_G X) h_vb hi h0 hn) (cs_J5_399 C (by decide)) hi rfl trivial rfl rfl (Nat.le_of_ble_eq_true rfl) rfl rfl (by decide) (by decide) dJ5_putStringAt_47b60_15 (fun M' hq => ?_)
  obtain rfl := hq
  exact ret dJ5_putStringAt_47b60_18 (rfl) (by decide) (by decide)
set_option maxRecDepth 20000 in
theorem c_apS5_fit (l : Launch) (G : zG) {M : zM} {sb : Nat} {vb : Nat} {ml : Int32} {n : Nat} {f : Nat → Int32} {i c : Nat} (h_sb : M sb = some (cSb vb 0 ml (nI c))) (h_vb : M vb = some (aB G n f)) (hi : i < 5) (h0 : c + z_kln i ≤ n) (hn : n ≤ 65536) : z_Mr l G qJ5_append_cf1ce (z_rm 4 0 0) [.ref sb, .ref (zK G i)] M (fun r M' => r = sb ∧ M' = z_up (z_up M vb (aB G n (va_cpy (z_kby i) f 0 c (z_kln i)))) sb (cSb vb 0 ml (nI (c + z_kln i))))  := by
  refine z_Mr_of _ (by decide +kernel) rfl (by first | exact Or.inl ⟨_, rfl⟩ | exact Or.inr ⟨_, rfl⟩) (Nat.le_of_ble_eq_true rfl) (fun X hl hG hnm C ret => ?_)
  subst hl; subst hG
  have C : z_C X cJ5_append_cf1ce RJ5 3 (z_rm 4 0 0) := C
  show z_W X M 0 0 0 [(0, .ref sb), (1, .ref (zK (z_G X) i))] []
  refine z_aload_n C dJ5_append_cf1ce_0 rfl 1 rfl ?_
  refine z_ifnonnull C (tgt := 9) dJ5_append_cf1ce_1 (by decide) ?_
  refine z_aload_n C dJ5_append_cf1ce_9 rfl 1 rfl ?_
  refine z_callKi (rest := []) (k' := 0) (n' := 0) C (c_lenK (z_l X) (z_G X) hi) (cs_J5_32 C (by decide)) hi rfl trivial rfl rfl (Nat.le_of_ble_eq_true rfl) rfl rfl (by decide) (by decide) dJ5_append_cf1ce_10 (fun x10 M' hq => ?_)
  obtain ⟨rfl, rfl⟩ := hq
  refine z_istore_n (lv' := [(2, .int (nI (z_kln i))), (0, .ref sb), (1, .ref (zK (z_G X) i))]) C dJ5_append_cf1ce_13 rfl (by decide) rfl ?_
  refine z_aload_n C dJ5_append_cf1ce_14 rfl 1 rfl ?_
  refine z_aload_n C dJ5_append_cf1ce_15 rfl 1 rfl ?_
  refine gf_J5_79 C h_sb dJ5_append_cf1ce_16 ?_
  refine z_iload_n C dJ5_append_cf1ce_19 rfl 0 rfl ?_
  refine z_iadd C dJ5_append_cf1ce_20 ?_
  rw [show (((nI c) + (nI (z_kln i))) : Int32) = nI (c + z_kln i) from (j_add _ _)]
  refine z_callUv (rest := []) (k' := 0) (n' := 0) C (c_ens_fit (z_l X) (z_G X) h_sb h_vb h0 hn) (cs_J5_100 C (by decide)) h_sb trivial trivial rfl rfl (Nat.le_of_ble_eq_true rfl) rfl rfl (by decide) (by decide) dJ5_append_cf1ce_21 (fun M' hq => ?_)
  obtain rfl := hq
  refine z_aload_n C dJ5_append_cf1ce_24 rfl 1 rfl ?_
  refine z_aload_n C dJ5_append_cf1ce_25 rfl 1 rfl ?_
  refine gf_J5_79 C h_sb dJ5_append_cf1ce_26 ?_
  refine z_aload_n C dJ5_append_cf1ce_29 rfl 2 rfl ?_
  refine z_callUv (rest := []) (k' := 0) (n' := 0) C (c_J5_putStringAt_47b60 (z_l X) (z_G X) h_sb h_vb hi h0 hn) (cs_J5_208 C (by decide)) h_sb trivial trivial rfl rfl (Nat.le_of_ble_eq_true rfl) rfl rfl (by decide) (by decide) dJ5_append_cf1ce_30 (fun M' hq => ?_)
  obtain rfl := hq
  refine z_aload_n C dJ5_append_cf1ce_33 rfl 1 rfl ?_
  refine z_dup C dJ5_append_cf1ce_34 rfl ?_
  refine gf_J5_79 C ((z_up_n _ _ (z_ne h_sb h_vb (by intro h; cases h))).trans h_sb) dJ5_append_cf1ce_35 ?_
  refine z_iload_n C dJ5_append_cf1ce_38 rfl 0 rfl ?_
  refine z_iadd C dJ5_append_cf1ce_39 ?_
  rw [show (((nI c) + (nI (z_kln i))) : Int32) = nI (c + z_kln i) from (j_add _ _)]
  refine pf_J5_79 C ((z_up_n _ _ (z_ne h_sb h_vb (by intro h; cases h))).trans h_sb) dJ5_append_cf1ce_40 ?_
  refine z_aload_n C dJ5_append_cf1ce_43 rfl 1 rfl ?_
  exact ret dJ5_append_cf1ce_44 (⟨rfl, rfl⟩) (by decide) (by decide)
set_option maxRecDepth 20000 in
theorem c_apS5_grow (l : Launch) (G : zG) {M : zM} {sb : Nat} {vb : Nat} {ml : Int32} {n : Nat} {f : Nat → Int32} {i c : Nat} (h_sb : M sb = some (cSb vb 0 ml (nI c))) (h_vb : M vb = some (aB G n f)) (hi : i < 5) (h0 : n < c + z_kln i) (hcn : c ≤ n) (hn : n ≤ 30000) (hf : sb_Fit f) : z_Mr l G qJ5_append_cf1ce (z_rm 5 1 (2 * n + 2)) [.ref sb, .ref (zK G i)] M (fun r M' => ∃ q15_32_21 : Nat, (M) q15_32_21 = none ∧ r = sb ∧ M' = z_up (z_up M q15_32_21 (aB G (2 * n + 2) (va_cpy (z_kby i) (va_cpy f (fun _ => 0) 0 0 n) 0 c (z_kln i)))) sb (cSb q15_32_21 0 ml (nI (c + z_kln i))))  := by
  refine z_Mr_of _ (by decide +kernel) rfl (by first | exact Or.inl ⟨_, rfl⟩ | exact Or.inr ⟨_, rfl⟩) (Nat.le_of_ble_eq_true rfl) (fun X hl hG hnm C ret => ?_)
  subst hl; subst hG
  have C : z_C X cJ5_append_cf1ce RJ5 3 (z_rm 5 1 (2 * n + 2)) := C
  show z_W X M 0 0 0 [(0, .ref sb), (1, .ref (zK (z_G X) i))] []
  have kl9 : z_kln i ≤ 1 := z_kln_in i hi
  refine z_aload_n C dJ5_append_cf1ce_0 rfl 1 rfl ?_
  refine z_ifnonnull C (tgt := 9) dJ5_append_cf1ce_1 (by decide) ?_
  refine z_aload_n C dJ5_append_cf1ce_9 rfl 1 rfl ?_
  refine z_callKi (rest := []) (k' := 0) (n' := 0) C (c_lenK (z_l X) (z_G X) hi) (cs_J5_32 C ⟨Nat.le_of_ble_eq_true rfl, Nat.le_of_ble_eq_true rfl⟩) hi rfl trivial rfl rfl (Nat.le_of_ble_eq_true rfl) rfl rfl (Nat.le_of_ble_eq_true rfl) (by show _ ≤ 2 * n + 2; omega) dJ5_append_cf1ce_10 (fun x10 M' hq => ?_)
  obtain ⟨rfl, rfl⟩ := hq
  refine z_istore_n (lv' := [(2, .int (nI (z_kln i))), (0, .ref sb), (1, .ref (zK (z_G X) i))]) C dJ5_append_cf1ce_13 rfl (by decide) rfl ?_
  refine z_aload_n C dJ5_append_cf1ce_14 rfl 1 rfl ?_
  refine z_aload_n C dJ5_append_cf1ce_15 rfl 1 rfl ?_
  refine gf_J5_79 C h_sb dJ5_append_cf1ce_16 ?_
  refine z_iload_n C dJ5_append_cf1ce_19 rfl 0 rfl ?_
  refine z_iadd C dJ5_append_cf1ce_20 ?_
  rw [show (((nI c) + (nI (z_kln i))) : Int32) = nI (c + z_kln i) from (j_add _ _)]
  refine z_callUv (rest := []) (k' := 1) (n' := 0 + (2 * n + 2)) C (c_ens_grow (z_l X) (z_G X) h_sb h_vb h0 (by omega) hn hf) (cs_J5_100 C ⟨Nat.le_of_ble_eq_true rfl, Nat.le_of_ble_eq_true rfl⟩) h_sb trivial trivial rfl rfl (Nat.le_of_ble_eq_true rfl) rfl rfl (Nat.le_of_ble_eq_true rfl) (by show _ ≤ 2 * n + 2; omega) dJ5_append_cf1ce_21 (fun M' hq => ?_)
  obtain ⟨q15_32_21, hq15_32_21, rfl⟩ := hq
  refine z_aload_n C dJ5_append_cf1ce_24 rfl 1 rfl ?_
  refine z_aload_n C dJ5_append_cf1ce_25 rfl 1 rfl ?_
  refine gf_J5_79 C (z_up_s _ _ _) dJ5_append_cf1ce_26 ?_
  refine z_aload_n C dJ5_append_cf1ce_29 rfl 2 rfl ?_
  refine z_callUv (rest := []) (k' := 1) (n' := 0 + (2 * n + 2)) C (c_J5_putStringAt_47b60 (z_l X) (z_G X) (z_up_s _ _ _) ((z_up_n _ _ (Ne.symm (z_neN h_sb hq15_32_21))).trans (z_up_s _ _ _)) hi (by omega) (by omega)) (cs_J5_208 C ⟨Nat.le_of_ble_eq_true rfl, Nat.le_of_ble_eq_true rfl⟩) (z_up_s _ _ _) trivial trivial rfl rfl (Nat.le_of_ble_eq_true rfl) rfl rfl (Nat.le_of_ble_eq_true rfl) (by show _ ≤ 2 * n + 2; omega) dJ5_append_cf1ce_30 (fun M' hq => ?_)
  obtain rfl := hq
  rw [z_up_swap _ (Ne.symm (z_neN h_sb hq15_32_21))]
  rw [z_up_up]
  refine z_aload_n C dJ5_append_cf1ce_33 rfl 1 rfl ?_
  refine z_dup C dJ5_append_cf1ce_34 rfl ?_
  refine gf_J5_79 C ((z_up_n _ _ (z_neN h_sb hq15_32_21)).trans (z_up_s _ _ _)) dJ5_append_cf1ce_35 ?_
  refine z_iload_n C dJ5_append_cf1ce_38 rfl 0 rfl ?_
  refine z_iadd C dJ5_append_cf1ce_39 ?_
  rw [show (((nI c) + (nI (z_kln i))) : Int32) = nI (c + z_kln i) from (j_add _ _)]
  rw [z_up_swap _ (z_neN h_sb hq15_32_21)]
  refine pg_J5_79 C dJ5_append_cf1ce_40 ?_
  refine z_aload_n C dJ5_append_cf1ce_43 rfl 1 rfl ?_
  exact ret dJ5_append_cf1ce_44 (⟨q15_32_21, hq15_32_21, rfl, rfl⟩) (Nat.le_of_ble_eq_true rfl) (by show _ ≤ 2 * n + 2; omega)
set_option maxRecDepth 20000 in
theorem c_apS_fit (l : Launch) (G : zG) {M : zM} {sb : Nat} {vb : Nat} {ml : Int32} {n : Nat} {f : Nat → Int32} {i c : Nat} (h_sb : M sb = some (cSb vb 0 ml (nI c))) (h_vb : M vb = some (aB G n f)) (hi : i < 5) (h0 : c + z_kln i ≤ n) (hn : n ≤ 65536) : z_Mr l G qJ4_append_15ec4 (z_rm 5 0 0) [.ref sb, .ref (zK G i)] M (fun r M' => r = sb ∧ M' = z_up (z_up M vb (aB G n (va_cpy (z_kby i) f 0 c (z_kln i)))) sb (cSb vb 0 ml (nI (c + z_kln i))))  := by
  refine z_Mr_of _ (by decide +kernel) rfl (by first | exact Or.inl ⟨_, rfl⟩ | exact Or.inr ⟨_, rfl⟩) (Nat.le_of_ble_eq_true rfl) (fun X hl hG hnm C ret => ?_)
  subst hl; subst hG
  have C : z_C X cJ4_append_15ec4 RJ4 2 (z_rm 5 0 0) := C
  show z_W X M 0 0 0 [(0, .ref sb), (1, .ref (zK (z_G X) i))] []
  refine z_aload_n C dJ4_append_15ec4_0 rfl 0 rfl ?_
  refine z_aload_n C dJ4_append_15ec4_1 rfl 1 rfl ?_
  refine z_callPr (rest := []) (k' := 0) (n' := 0) C (c_apS5_fit (z_l X) (z_G X) h_sb h_vb hi h0 hn) (cs_J4_29 C (by decide)) h_sb trivial trivial rfl rfl (Nat.le_of_ble_eq_true rfl) rfl rfl (by decide) (by decide) dJ4_append_15ec4_2 (fun x2 M' hq => ?_)
  obtain ⟨hr2, rfl⟩ := hq
  rw [hr2]
  refine z_pop C dJ4_append_15ec4_5 rfl ?_
  refine z_aload_n C dJ4_append_15ec4_6 rfl 0 rfl ?_
  exact ret dJ4_append_15ec4_7 (⟨rfl, rfl⟩) (by decide) (by decide)
set_option maxRecDepth 20000 in
theorem c_apS_grow (l : Launch) (G : zG) {M : zM} {sb : Nat} {vb : Nat} {ml : Int32} {n : Nat} {f : Nat → Int32} {i c : Nat} (h_sb : M sb = some (cSb vb 0 ml (nI c))) (h_vb : M vb = some (aB G n f)) (hi : i < 5) (h0 : n < c + z_kln i) (hcn : c ≤ n) (hn : n ≤ 30000) (hf : sb_Fit f) : z_Mr l G qJ4_append_15ec4 (z_rm 6 1 (2 * n + 2)) [.ref sb, .ref (zK G i)] M (fun r M' => ∃ q15_32_21_2 : Nat, (M) q15_32_21_2 = none ∧ r = sb ∧ M' = z_up (z_up M q15_32_21_2 (aB G (2 * n + 2) (va_cpy (z_kby i) (va_cpy f (fun _ => 0) 0 0 n) 0 c (z_kln i)))) sb (cSb q15_32_21_2 0 ml (nI (c + z_kln i))))  := by
  refine z_Mr_of _ (by decide +kernel) rfl (by first | exact Or.inl ⟨_, rfl⟩ | exact Or.inr ⟨_, rfl⟩) (Nat.le_of_ble_eq_true rfl) (fun X hl hG hnm C ret => ?_)
  subst hl; subst hG
  have C : z_C X cJ4_append_15ec4 RJ4 2 (z_rm 6 1 (2 * n + 2)) := C
  show z_W X M 0 0 0 [(0, .ref sb), (1, .ref (zK (z_G X) i))] []
  refine z_aload_n C dJ4_append_15ec4_0 rfl 0 rfl ?_
  refine z_aload_n C dJ4_append_15ec4_1 rfl 1 rfl ?_
  refine z_callPr (rest := []) (k' := 1) (n' := 0 + (2 * n + 2)) C (c_apS5_grow (z_l X) (z_G X) h_sb h_vb hi h0 hcn hn hf) (cs_J4_29 C ⟨Nat.le_of_ble_eq_true rfl, Nat.le_of_ble_eq_true rfl⟩) h_sb trivial trivial rfl rfl (Nat.le_of_ble_eq_true rfl) rfl rfl (Nat.le_of_ble_eq_true rfl) (by show _ ≤ 2 * n + 2; omega) dJ4_append_15ec4_2 (fun x2 M' hq => ?_)
  obtain ⟨q15_32_21_2, hq15_32_21_2, hr2, rfl⟩ := hq
  rw [hr2]
  refine z_pop C dJ4_append_15ec4_5 rfl ?_
  refine z_aload_n C dJ4_append_15ec4_6 rfl 0 rfl ?_
  exact ret dJ4_append_15ec4_7 (⟨q15_32_21_2, hq15_32_21_2, rfl, rfl⟩) (Nat.le_of_ble_eq_true rfl) (by show _ ≤ 2 * n + 2; omega)
set_option maxRecDepth 20000 in
theorem c_J6_stringSize_0f7a4 (l : Launch) (G : zG) {M : zM}  {v : Nat}  (hv : v < 2 ^ 31) : z_Mi l G qJ6_stringSize_0f7a4 (z_rm 1 0 0) [.int (nI v)] M (fun r M' => r = nI (sb_dg v) ∧ M' = M)  := by
  refine z_Mi_of _ (by decide +kernel) rfl (Nat.le_of_ble_eq_true rfl) (fun X hl hG hnm C ret => ?_)
  subst hl; subst hG
  have C : z_C X cJ6_stringSize_0f7a4 RJ6 4 (z_rm 1 0 0) := C
  show z_W X M 0 0 0 [(0, .int (nI v))] []
  refine z_iconst C (v := 1) dJ6_stringSize_0f7a4_0 (by decide) ?_
  refine z_istore_n (lv' := [(1, .int 1), (0, .int (nI v))]) C dJ6_stringSize_0f7a4_1 rfl (by decide) rfl ?_
  refine z_iload_n C dJ6_stringSize_0f7a4_2 rfl 1 rfl ?_
  refine z_if_lt C (tgt := 11) dJ6_stringSize_0f7a4_3 (by decide) (fun c3 => absurd c3 (nI_pos hv)) (fun _ => ?_)
  refine z_iconst C (v := 0) dJ6_stringSize_0f7a4_6 (by decide) ?_
  refine z_istore_n (lv' := [(1, .int 0), (0, .int (nI v))]) C dJ6_stringSize_0f7a4_7 rfl (by decide) rfl ?_
  refine z_iload_n C dJ6_stringSize_0f7a4_8 rfl 1 rfl ?_
  refine z_ineg C dJ6_stringSize_0f7a4_9 ?_
  refine z_istore_n (lv' := [(0, .int (-(nI v))), (1, .int 0)]) C dJ6_stringSize_0f7a4_10 rfl (by decide) rfl ?_
  refine z_bipush C (v := (-10)) dJ6_stringSize_0f7a4_11 (by decide) ?_
  refine z_istore_n (lv' := [(2, .int (-10)), (0, .int (-(nI v))), (1, .int 0)]) C dJ6_stringSize_0f7a4_13 rfl (by decide) rfl ?_
  refine z_iconst C (v := 1) dJ6_stringSize_0f7a4_14 (by decide) ?_
  refine z_istore_n (lv' := [(3, .int 1), (2, .int (-10)), (0, .int (-(nI v))), (1, .int 0)]) C dJ6_stringSize_0f7a4_15 rfl (by decide) rfl ?_
  refine z_iload_n C dJ6_stringSize_0f7a4_16 rfl 0 rfl ?_
  refine z_bipush C (v := 10) dJ6_stringSize_0f7a4_17 (by decide) ?_
  refine z_icmp_ge C (tgt := 42) dJ6_stringSize_0f7a4_19 (by decide) (fun c19 => absurd c19 (by decide)) (fun _ => ?_)
  refine z_iload_n C dJ6_stringSize_0f7a4_22 rfl 2 rfl ?_
  refine z_iload_n C dJ6_stringSize_0f7a4_23 rfl 1 rfl ?_
  refine z_icmp_le C (tgt := 31) dJ6_stringSize_0f7a4_24 (by decide) (fun c24 => ?_) (fun c24 => ?_)
  · have e1 := j_le (k := 10) hv (by decide) (by decide) c24
    refine z_bipush C (v := 10) dJ6_stringSize_0f7a4_31 (by decide) ?_
    refine z_iload_n C dJ6_stringSize_0f7a4_33 rfl 1 rfl ?_
    refine z_imul C dJ6_stringSize_0f7a4_34 ?_
    rw [show ((10 * (-10)) : Int32) = (-100) from (by decide)]
    refine z_istore_n (lv' := [(2, .int (-100)), (3, .int 1), (0, .int (-(nI v))), (1, .int 0)]) C dJ6_stringSize_0f7a4_35 rfl (by decide) rfl ?_
    refine z_iinc (v := 2) (lv' := [(3, .int 2), (2, .int (-100)), (0, .int (-(nI v))), (1, .int 0)]) C dJ6_stringSize_0f7a4_36 1 rfl (by decide) (by decide) rfl ?_
    refine z_goto C (tgt := 16) dJ6_stringSize_0f7a4_39 (by decide) ?_
    refine z_iload_n C dJ6_stringSize_0f7a4_16 rfl 0 rfl ?_
    refine z_bipush C (v := 10) dJ6_stringSize_0f7a4_17 (by decide) ?_
    refine z_icmp_ge C (tgt := 42) dJ6_stringSize_0f7a4_19 (by decide) (fun c19 => absurd c19 (by decide)) (fun _ => ?_)
    refine z_iload_n C dJ6_stringSize_0f7a4_22 rfl 2 rfl ?_
    refine z_iload_n C dJ6_stringSize_0f7a4_23 rfl 1 rfl ?_
    refine z_icmp_le C (tgt := 31) dJ6_stringSize_0f7a4_24 (by decide) (fun c24 => ?_) (fun c24 => ?_)
    · have e2 := j_le (k := 100) hv (by decide) (by decide) c24
      refine z_bipush C (v := 10) dJ6_stringSize_0f7a4_31 (by decide) ?_
      refine z_iload_n C dJ6_stringSize_0f7a4_33 rfl 1 rfl ?_
      refine z_imul C dJ6_stringSize_0f7a4_34 ?_
      rw [show ((10 * (-100)) : Int32) = (-1000) from (by decide)]
      refine z_istore_n (lv' := [(2, .int (-1000)), (3, .int 2), (0, .int (-(nI v))), (1, .int 0)]) C dJ6_stringSize_0f7a4_35 rfl (by decide) rfl ?_
      refine z_iinc (v := 3) (lv' := [(3, .int 3), (2, .int (-1000)), (0, .int (-(nI v))), (1, .int 0)]) C dJ6_stringSize_0f7a4_36 1 rfl (by decide) (by decide) rfl ?_
      refine z_goto C (tgt := 16) dJ6_stringSize_0f7a4_39 (by decide) ?_
      refine z_iload_n C dJ6_stringSize_0f7a4_16 rfl 0 rfl ?_
      refine z_bipush C (v := 10) dJ6_stringSize_0f7a4_17 (by decide) ?_
      refine z_icmp_ge C (tgt := 42) dJ6_stringSize_0f7a4_19 (by decide) (fun c19 => absurd c19 (by decide)) (fun _ => ?_)
      refine z_iload_n C dJ6_stringSize_0f7a4_22 rfl 2 rfl ?_
      refine z_iload_n C dJ6_stringSize_0f7a4_23 rfl 1 rfl ?_
      refine z_icmp_le C (tgt := 31) dJ6_stringSize_0f7a4_24 (by decide) (fun c24 => ?_) (fun c24 => ?_)
      · have e3 := j_le (k := 1000) hv (by decide) (by decide) c24
        refine z_bipush C (v := 10) dJ6_stringSize_0f7a4_31 (by decide) ?_
        refine z_iload_n C dJ6_stringSize_0f7a4_33 rfl 1 rfl ?_
        refine z_imul C dJ6_stringSize_0f7a4_34 ?_
        rw [show ((10 * (-1000)) : Int32) = (-10000) from (by decide)]
        refine z_istore_n (lv' := [(2, .int (-10000)), (3, .int 3), (0, .int (-(nI v))), (1, .int 0)]) C dJ6_stringSize_0f7a4_35 rfl (by decide) rfl ?_
        refine z_iinc (v := 4) (lv' := [(3, .int 4), (2, .int (-10000)), (0, .int (-(nI v))), (1, .int 0)]) C dJ6_stringSize_0f7a4_36 1 rfl (by decide) (by decide) rfl ?_
        refine z_goto C (tgt := 16) dJ6_stringSize_0f7a4_39 (by decide) ?_
        refine z_iload_n C dJ6_stringSize_0f7a4_16 rfl 0 rfl ?_
        refine z_bipush C (v := 10) dJ6_stringSize_0f7a4_17 (by decide) ?_
        refine z_icmp_ge C (tgt := 42) dJ6_stringSize_0f7a4_19 (by decide) (fun c19 => absurd c19 (by decide)) (fun _ => ?_)
        refine z_iload_n C dJ6_stringSize_0f7a4_22 rfl 2 rfl ?_
        refine z_iload_n C dJ6_stringSize_0f7a4_23 rfl 1 rfl ?_
        refine z_icmp_le C (tgt := 31) dJ6_stringSize_0f7a4_24 (by decide) (fun c24 => ?_) (fun c24 => ?_)
        · have e4 := j_le (k := 10000) hv (by decide) (by decide) c24
          refine z_bipush C (v := 10) dJ6_stringSize_0f7a4_31 (by decide) ?_
          refine z_iload_n C dJ6_stringSize_0f7a4_33 rfl 1 rfl ?_
          refine z_imul C dJ6_stringSize_0f7a4_34 ?_
          rw [show ((10 * (-10000)) : Int32) = (-100000) from (by decide)]
          refine z_istore_n (lv' := [(2, .int (-100000)), (3, .int 4), (0, .int (-(nI v))), (1, .int 0)]) C dJ6_stringSize_0f7a4_35 rfl (by decide) rfl ?_
          refine z_iinc (v := 5) (lv' := [(3, .int 5), (2, .int (-100000)), (0, .int (-(nI v))), (1, .int 0)]) C dJ6_stringSize_0f7a4_36 1 rfl (by decide) (by decide) rfl ?_
          refine z_goto C (tgt := 16) dJ6_stringSize_0f7a4_39 (by decide) ?_
          refine z_iload_n C dJ6_stringSize_0f7a4_16 rfl 0 rfl ?_
          refine z_bipush C (v := 10) dJ6_stringSize_0f7a4_17 (by decide) ?_
          refine z_icmp_ge C (tgt := 42) dJ6_stringSize_0f7a4_19 (by decide) (fun c19 => absurd c19 (by decide)) (fun _ => ?_)
          refine z_iload_n C dJ6_stringSize_0f7a4_22 rfl 2 rfl ?_
          refine z_iload_n C dJ6_stringSize_0f7a4_23 rfl 1 rfl ?_
          refine z_icmp_le C (tgt := 31) dJ6_stringSize_0f7a4_24 (by decide) (fun c24 => ?_) (fun c24 => ?_)
          · have e5 := j_le (k := 100000) hv (by decide) (by decide) c24
            refine z_bipush C (v := 10) dJ6_stringSize_0f7a4_31 (by decide) ?_
            refine z_iload_n C dJ6_stringSize_0f7a4_33 rfl 1 rfl ?_
            refine z_imul C dJ6_stringSize_0f7a4_34 ?_
            rw [show ((10 * (-100000)) : Int32) = (-1000000) from (by decide)]
            refine z_istore_n (lv' := [(2, .int (-1000000)), (3, .int 5), (0, .int (-(nI v))), (1, .int 0)]) C dJ6_stringSize_0f7a4_35 rfl (by decide) rfl ?_
            refine z_iinc (v := 6) (lv' := [(3, .int 6), (2, .int (-1000000)), (0, .int (-(nI v))), (1, .int 0)]) C dJ6_stringSize_0f7a4_36 1 rfl (by decide) (by decide) rfl ?_
            refine z_goto C (tgt := 16) dJ6_stringSize_0f7a4_39 (by decide) ?_
            refine z_iload_n C dJ6_stringSize_0f7a4_16 rfl 0 rfl ?_
            refine z_bipush C (v := 10) dJ6_stringSize_0f7a4_17 (by decide) ?_
            refine z_icmp_ge C (tgt := 42) dJ6_stringSize_0f7a4_19 (by decide) (fun c19 => absurd c19 (by decide)) (fun _ => ?_)
            refine z_iload_n C dJ6_stringSize_0f7a4_22 rfl 2 rfl ?_
            refine z_iload_n C dJ6_stringSize_0f7a4_23 rfl 1 rfl ?_
            refine z_icmp_le C (tgt := 31) dJ6_stringSize_0f7a4_24 (by decide) (fun c24 => ?_) (fun c24 => ?_)
            · have e6 := j_le (k := 1000000) hv (by decide) (by decide) c24
              refine z_bipush C (v := 10) dJ6_stringSize_0f7a4_31 (by decide) ?_
              refine z_iload_n C dJ6_stringSize_0f7a4_33 rfl 1 rfl ?_
              refine z_imul C dJ6_stringSize_0f7a4_34 ?_
              rw [show ((10 * (-1000000)) : Int32) = (-10000000) from (by decide)]
              refine z_istore_n (lv' := [(2, .int (-10000000)), (3, .int 6), (0, .int (-(nI v))), (1, .int 0)]) C dJ6_stringSize_0f7a4_35 rfl (by decide) rfl ?_
              refine z_iinc (v := 7) (lv' := [(3, .int 7), (2, .int (-10000000)), (0, .int (-(nI v))), (1, .int 0)]) C dJ6_stringSize_0f7a4_36 1 rfl (by decide) (by decide) rfl ?_
              refine z_goto C (tgt := 16) dJ6_stringSize_0f7a4_39 (by decide) ?_
              refine z_iload_n C dJ6_stringSize_0f7a4_16 rfl 0 rfl ?_
              refine z_bipush C (v := 10) dJ6_stringSize_0f7a4_17 (by decide) ?_
              refine z_icmp_ge C (tgt := 42) dJ6_stringSize_0f7a4_19 (by decide) (fun c19 => absurd c19 (by decide)) (fun _ => ?_)
              refine z_iload_n C dJ6_stringSize_0f7a4_22 rfl 2 rfl ?_
              refine z_iload_n C dJ6_stringSize_0f7a4_23 rfl 1 rfl ?_
              refine z_icmp_le C (tgt := 31) dJ6_stringSize_0f7a4_24 (by decide) (fun c24 => ?_) (fun c24 => ?_)
              · have e7 := j_le (k := 10000000) hv (by decide) (by decide) c24
                refine z_bipush C (v := 10) dJ6_stringSize_0f7a4_31 (by decide) ?_
                refine z_iload_n C dJ6_stringSize_0f7a4_33 rfl 1 rfl ?_
                refine z_imul C dJ6_stringSize_0f7a4_34 ?_
                rw [show ((10 * (-10000000)) : Int32) = (-100000000) from (by decide)]
                refine z_istore_n (lv' := [(2, .int (-100000000)), (3, .int 7), (0, .int (-(nI v))), (1, .int 0)]) C dJ6_stringSize_0f7a4_35 rfl (by decide) rfl ?_
                refine z_iinc (v := 8) (lv' := [(3, .int 8), (2, .int (-100000000)), (0, .int (-(nI v))), (1, .int 0)]) C dJ6_stringSize_0f7a4_36 1 rfl (by decide) (by decide) rfl ?_
                refine z_goto C (tgt := 16) dJ6_stringSize_0f7a4_39 (by decide) ?_
                refine z_iload_n C dJ6_stringSize_0f7a4_16 rfl 0 rfl ?_
                refine z_bipush C (v := 10) dJ6_stringSize_0f7a4_17 (by decide) ?_
                refine z_icmp_ge C (tgt := 42) dJ6_stringSize_0f7a4_19 (by decide) (fun c19 => absurd c19 (by decide)) (fun _ => ?_)
                refine z_iload_n C dJ6_stringSize_0f7a4_22 rfl 2 rfl ?_
                refine z_iload_n C dJ6_stringSize_0f7a4_23 rfl 1 rfl ?_
                refine z_icmp_le C (tgt := 31) dJ6_stringSize_0f7a4_24 (by decide) (fun c24 => ?_) (fun c24 => ?_)
                · have e8 := j_le (k := 100000000) hv (by decide) (by decide) c24
                  refine z_bipush C (v := 10) dJ6_stringSize_0f7a4_31 (by decide) ?_
                  refine z_iload_n C dJ6_stringSize_0f7a4_33 rfl 1 rfl ?_
                  refine z_imul C dJ6_stringSize_0f7a4_34 ?_
                  rw [show ((10 * (-100000000)) : Int32) = (-1000000000) from (by decide)]
                  refine z_istore_n (lv' := [(2, .int (-1000000000)), (3, .int 8), (0, .int (-(nI v))), (1, .int 0)]) C dJ6_stringSize_0f7a4_35 rfl (by decide) rfl ?_
                  refine z_iinc (v := 9) (lv' := [(3, .int 9), (2, .int (-1000000000)), (0, .int (-(nI v))), (1, .int 0)]) C dJ6_stringSize_0f7a4_36 1 rfl (by decide) (by decide) rfl ?_
                  refine z_goto C (tgt := 16) dJ6_stringSize_0f7a4_39 (by decide) ?_
                  refine z_iload_n C dJ6_stringSize_0f7a4_16 rfl 0 rfl ?_
                  refine z_bipush C (v := 10) dJ6_stringSize_0f7a4_17 (by decide) ?_
                  refine z_icmp_ge C (tgt := 42) dJ6_stringSize_0f7a4_19 (by decide) (fun c19 => absurd c19 (by decide)) (fun _ => ?_)
                  refine z_iload_n C dJ6_stringSize_0f7a4_22 rfl 2 rfl ?_
                  refine z_iload_n C dJ6_stringSize_0f7a4_23 rfl 1 rfl ?_
                  refine z_icmp_le C (tgt := 31) dJ6_stringSize_0f7a4_24 (by decide) (fun c24 => ?_) (fun c24 => ?_)
                  · have e9 := j_le (k := 1000000000) hv (by decide) (by decide) c24
                    refine z_bipush C (v := 10) dJ6_stringSize_0f7a4_31 (by decide) ?_
                    refine z_iload_n C dJ6_stringSize_0f7a4_33 rfl 1 rfl ?_
                    refine z_imul C dJ6_stringSize_0f7a4_34 ?_
                    rw [show ((10 * (-1000000000)) : Int32) = (-10000000000) from (by decide)]
                    refine z_istore_n (lv' := [(2, .int (-10000000000)), (3, .int 9), (0, .int (-(nI v))), (1, .int 0)]) C dJ6_stringSize_0f7a4_35 rfl (by decide) rfl ?_
                    refine z_iinc (v := 10) (lv' := [(3, .int 10), (2, .int (-10000000000)), (0, .int (-(nI v))), (1, .int 0)]) C dJ6_stringSize_0f7a4_36 1 rfl (by decide) (by decide) rfl ?_
                    refine z_goto C (tgt := 16) dJ6_stringSize_0f7a4_39 (by decide) ?_
                    refine z_iload_n C dJ6_stringSize_0f7a4_16 rfl 0 rfl ?_
                    refine z_bipush C (v := 10) dJ6_stringSize_0f7a4_17 (by decide) ?_
                    refine z_icmp_ge C (tgt := 42) dJ6_stringSize_0f7a4_19 (by decide) (fun _ => ?_) (fun c19 => absurd (by decide) c19)
                    refine z_bipush C (v := 10) dJ6_stringSize_0f7a4_42 (by decide) ?_
                    refine z_iload_n C dJ6_stringSize_0f7a4_44 rfl 3 rfl ?_
                    refine z_iadd C dJ6_stringSize_0f7a4_45 ?_
                    refine ret dJ6_stringSize_0f7a4_46 rfl ?_ (by decide) (by decide)
                    refine ⟨?_, rfl⟩
                    rw [show sb_dg v = 10 from by unfold sb_dg; (repeat' split) <;> omega]
                    rfl
                  · have g9 := j_gt (k := 1000000000) hv (by decide) (by decide) c24
                    refine z_iload_n C dJ6_stringSize_0f7a4_27 rfl 0 rfl ?_
                    refine z_iload_n C dJ6_stringSize_0f7a4_28 rfl 3 rfl ?_
                    refine z_iadd C dJ6_stringSize_0f7a4_29 ?_
                    refine ret dJ6_stringSize_0f7a4_30 rfl ?_ (by decide) (by decide)
                    refine ⟨?_, rfl⟩
                    rw [show sb_dg v = 9 from by unfold sb_dg; (repeat' split) <;> omega]
                    rfl
                · have g8 := j_gt (k := 100000000) hv (by decide) (by decide) c24
                  refine z_iload_n C dJ6_stringSize_0f7a4_27 rfl 0 rfl ?_
                  refine z_iload_n C dJ6_stringSize_0f7a4_28 rfl 3 rfl ?_
                  refine z_iadd C dJ6_stringSize_0f7a4_29 ?_
                  refine ret dJ6_stringSize_0f7a4_30 rfl ?_ (by decide) (by decide)
                  refine ⟨?_, rfl⟩
                  rw [show sb_dg v = 8 from by unfold sb_dg; (repeat' split) <;> omega]
                  rfl
              · have g7 := j_gt (k := 10000000) hv (by decide) (by decide) c24
                refine z_iload_n C dJ6_stringSize_0f7a4_27 rfl 0 rfl ?_
                refine z_iload_n C dJ6_stringSize_0f7a4_28 rfl 3 rfl ?_
                refine z_iadd C dJ6_stringSize_0f7a4_29 ?_
                refine ret dJ6_stringSize_0f7a4_30 rfl ?_ (by decide) (by decide)
                refine ⟨?_, rfl⟩
                rw [show sb_dg v = 7 from by unfold sb_dg; (repeat' split) <;> omega]
                rfl
            · have g6 := j_gt (k := 1000000) hv (by decide) (by decide) c24
              refine z_iload_n C dJ6_stringSize_0f7a4_27 rfl 0 rfl ?_
              refine z_iload_n C dJ6_stringSize_0f7a4_28 rfl 3 rfl ?_
              refine z_iadd C dJ6_stringSize_0f7a4_29 ?_
              refine ret dJ6_stringSize_0f7a4_30 rfl ?_ (by decide) (by decide)
              refine ⟨?_, rfl⟩
              rw [show sb_dg v = 6 from by unfold sb_dg; (repeat' split) <;> omega]
              rfl
          · have g5 := j_gt (k := 100000) hv (by decide) (by decide) c24
            refine z_iload_n C dJ6_stringSize_0f7a4_27 rfl 0 rfl ?_
            refine z_iload_n C dJ6_stringSize_0f7a4_28 rfl 3 rfl ?_
            refine z_iadd C dJ6_stringSize_0f7a4_29 ?_
            refine ret dJ6_stringSize_0f7a4_30 rfl ?_ (by decide) (by decide)
            refine ⟨?_, rfl⟩
            rw [show sb_dg v = 5 from by unfold sb_dg; (repeat' split) <;> omega]
            rfl
        · have g4 := j_gt (k := 10000) hv (by decide) (by decide) c24
          refine z_iload_n C dJ6_stringSize_0f7a4_27 rfl 0 rfl ?_
          refine z_iload_n C dJ6_stringSize_0f7a4_28 rfl 3 rfl ?_
          refine z_iadd C dJ6_stringSize_0f7a4_29 ?_
          refine ret dJ6_stringSize_0f7a4_30 rfl ?_ (by decide) (by decide)
          refine ⟨?_, rfl⟩
          rw [show sb_dg v = 4 from by unfold sb_dg; (repeat' split) <;> omega]
          rfl
      · have g3 := j_gt (k := 1000) hv (by decide) (by decide) c24
        refine z_iload_n C dJ6_stringSize_0f7a4_27 rfl 0 rfl ?_
        refine z_iload_n C dJ6_stringSize_0f7a4_28 rfl 3 rfl ?_
        refine z_iadd C dJ6_stringSize_0f7a4_29 ?_
        refine ret dJ6_stringSize_0f7a4_30 rfl ?_ (by decide) (by decide)
        refine ⟨?_, rfl⟩
        rw [show sb_dg v = 3 from by unfold sb_dg; (repeat' split) <;> omega]
        rfl
    · have g2 := j_gt (k := 100) hv (by decide) (by decide) c24
      refine z_iload_n C dJ6_stringSize_0f7a4_27 rfl 0 rfl ?_
      refine z_iload_n C dJ6_stringSize_0f7a4_28 rfl 3 rfl ?_
      refine z_iadd C dJ6_stringSize_0f7a4_29 ?_
      refine ret dJ6_stringSize_0f7a4_30 rfl ?_ (by decide) (by decide)
      refine ⟨?_, rfl⟩
      rw [show sb_dg v = 2 from by unfold sb_dg; (repeat' split) <;> omega]
      rfl
  · have g1 := j_gt (k := 10) hv (by decide) (by decide) c24
    refine z_iload_n C dJ6_stringSize_0f7a4_27 rfl 0 rfl ?_
    refine z_iload_n C dJ6_stringSize_0f7a4_28 rfl 3 rfl ?_
    refine z_iadd C dJ6_stringSize_0f7a4_29 ?_
    refine ret dJ6_stringSize_0f7a4_30 rfl ?_ (by decide) (by decide)
    refine ⟨?_, rfl⟩
    rw [show sb_dg v = 1 from by unfold sb_dg; (repeat' split) <;> omega]
    rfl
set_option maxRecDepth 20000 in
theorem lp_J6_getC {X : zX} (C : z_C X cJ6_getChars_ba4f3 RJ6 7 (z_rm 1 0 0)) {M : zM} {vb n c : Nat} {ix : Int32} (hn : n ≤ 65536) (kk : ∀ (f9 : Nat → Int32) (p9 : Nat), sb_Fit f9 → z_W X (z_up M vb (aB (z_G X) n f9)) 0 0 118 [(5, .int (nI p9))] []) : ∀ (fuel wv pp : Nat) (ff : Nat → Int32), wv < fuel → wv < 2 ^ 31 → pp = c + sb_dg wv → pp ≤ n → sb_Fit ff → z_W X (z_up M vb (aB (z_G X) n ff)) 0 0 22 [(5, .int (nI pp)), (0, .int (-nI wv)), (1, .int ix), (2, .ref vb), (6, .int 0)] [] := by
  intro fuel
  induction fuel with
  | zero => intro wv pp ff h; exact absurd h (Nat.not_lt_zero _)
  | succ fuel ih =>
    intro wv pp ff hfu hw hp hpn hff
    refine z_iload_n C dJ6_getChars_ba4f3_22 rfl 1 rfl ?_
    refine z_bipush C (v := (-100)) dJ6_getChars_ba4f3_23 (by decide) ?_
    refine z_icmp_gt C (tgt := 72) dJ6_getChars_ba4f3_25 (by decide) (fun c25 => ?_) (fun c25 => ?_)
    · have g1 := j_lt (k := 100) hw (by decide) (by decide) c25
      have g3 := sb_dg_in wv
      refine z_aload_n C dJ6_getChars_ba4f3_72 rfl 3 rfl ?_
      refine z_iinc (v := nI (pp - 1)) (lv' := [(5, .int (nI (pp - 1))), (0, .int (-nI wv)), (1, .int ix), (2, .ref vb), (6, .int 0)]) C dJ6_getChars_ba4f3_73 0 rfl (j_m1 (by omega)) (by decide) rfl ?_
      refine z_iload C dJ6_getChars_ba4f3_76 0 rfl ?_
      refine z_gsD1 C kw323 dJ6_getChars_ba4f3_78 (fun t78 hT78 => ?_)
      refine z_iload_n C dJ6_getChars_ba4f3_81 rfl 1 rfl ?_
      refine z_ineg C dJ6_getChars_ba4f3_82 ?_
      rw [show ((-(-nI wv)) : Int32) = nI wv from (j_nn _)]
      refine z_tb1 (j := wv) C hT78 (nI_in (by omega) (by decide)) (nI_clamp (by omega)) rfl dJ6_getChars_ba4f3_83 ?_
      refine z_bast (j := (pp - 1)) C (z_up_s _ _ _) (nI_in (by omega) (by omega)) (nI_clamp (by omega)) dJ6_getChars_ba4f3_84 ?_
      rw [z_up_up]
      refine z_iload_n C dJ6_getChars_ba4f3_85 rfl 1 rfl ?_
      refine z_bipush C (v := (-9)) dJ6_getChars_ba4f3_86 (by decide) ?_
      refine z_icmp_ge C (tgt := 104) dJ6_getChars_ba4f3_88 (by decide) (fun c88 => ?_) (fun c88 => ?_)
      · refine z_iload C dJ6_getChars_ba4f3_104 4 rfl ?_
        refine z_if_eq C (tgt := 118) dJ6_getChars_ba4f3_106 (by decide) (fun _ => ?_) (fun c106 => absurd (by decide) c106)
        refine z_fewer [0] rfl ?_
        exact kk _ _ (j_fitU hff _ _)
      · have g2 := j_nle (k := 9) hw (by decide) (by decide) c88
        have g4 := j_dg2 (w := wv) (by omega)
        refine z_aload_n C dJ6_getChars_ba4f3_91 rfl 3 rfl ?_
        refine z_iinc (v := nI (pp - 1 - 1)) (lv' := [(5, .int (nI (pp - 1 - 1))), (0, .int (-nI wv)), (1, .int ix), (2, .ref vb), (6, .int 0)]) C dJ6_getChars_ba4f3_92 0 rfl (j_m1 (by omega)) (by decide) rfl ?_
        refine z_iload C dJ6_getChars_ba4f3_95 0 rfl ?_
        refine z_gsD10 C kw325 dJ6_getChars_ba4f3_97 (fun t97 hT97 => ?_)
        refine z_iload_n C dJ6_getChars_ba4f3_100 rfl 1 rfl ?_
        refine z_ineg C dJ6_getChars_ba4f3_101 ?_
        rw [show ((-(-nI wv)) : Int32) = nI wv from (j_nn _)]
        refine z_tb10 (j := wv) C hT97 (nI_in (by omega) (by decide)) (nI_clamp (by omega)) rfl dJ6_getChars_ba4f3_102 ?_
        refine z_bast (j := (pp - 1 - 1)) C (z_up_s _ _ _) (nI_in (by omega) (by omega)) (nI_clamp (by omega)) dJ6_getChars_ba4f3_103 ?_
        rw [z_up_up]
        refine z_iload C dJ6_getChars_ba4f3_104 4 rfl ?_
        refine z_if_eq C (tgt := 118) dJ6_getChars_ba4f3_106 (by decide) (fun _ => ?_) (fun c106 => absurd (by decide) c106)
        refine z_fewer [0] rfl ?_
        exact kk _ _ (j_fitU (j_fitU hff _ _) _ _)
    · have g1 := j_nlt (k := 100) hw (by decide) (by decide) c25
      have g3 := j_dg3 g1 hw
      refine z_iload_n C dJ6_getChars_ba4f3_28 rfl 1 rfl ?_
      refine z_bipush C (v := 100) dJ6_getChars_ba4f3_29 (by decide) ?_
      refine z_idiv C dJ6_getChars_ba4f3_31 (by decide) ?_
      rw [show (((-nI wv) / 100) : Int32) = (-nI (wv / 100)) from (sb_ndiv hw)]
      refine z_istore_n (lv' := [(3, .int (-nI (wv / 100))), (5, .int (nI pp)), (0, .int (-nI wv)), (1, .int ix), (2, .ref vb), (6, .int 0)]) C dJ6_getChars_ba4f3_32 rfl (by decide) rfl ?_
      refine z_iload_n C dJ6_getChars_ba4f3_33 rfl 0 rfl ?_
      refine z_bipush C (v := 100) dJ6_getChars_ba4f3_34 (by decide) ?_
      refine z_imul C dJ6_getChars_ba4f3_36 ?_
      refine z_iload_n C dJ6_getChars_ba4f3_37 rfl 2 rfl ?_
      refine z_isub C dJ6_getChars_ba4f3_38 ?_
      rw [show ((((-nI (wv / 100)) * 100) - (-nI wv)) : Int32) = nI (wv % 100) from (sb_nrem hw)]
      refine z_istore (lv' := [(4, .int (nI (wv % 100))), (3, .int (-nI (wv / 100))), (5, .int (nI pp)), (0, .int (-nI wv)), (1, .int ix), (2, .ref vb), (6, .int 0)]) C dJ6_getChars_ba4f3_39 (by decide) rfl ?_
      refine z_iload_n C dJ6_getChars_ba4f3_41 rfl 1 rfl ?_
      refine z_istore_n (lv' := [(0, .int (-nI (wv / 100))), (4, .int (nI (wv % 100))), (3, .int (-nI (wv / 100))), (5, .int (nI pp)), (1, .int ix), (2, .ref vb), (6, .int 0)]) C dJ6_getChars_ba4f3_42 rfl (by decide) rfl ?_
      refine z_aload_n C dJ6_getChars_ba4f3_43 rfl 5 rfl ?_
      refine z_iinc (v := nI (pp - 1)) (lv' := [(5, .int (nI (pp - 1))), (0, .int (-nI (wv / 100))), (4, .int (nI (wv % 100))), (3, .int (-nI (wv / 100))), (1, .int ix), (2, .ref vb), (6, .int 0)]) C dJ6_getChars_ba4f3_44 3 rfl (j_m1 (by omega)) (by decide) rfl ?_
      refine z_iload C dJ6_getChars_ba4f3_47 0 rfl ?_
      refine z_gsD1 C kw323 dJ6_getChars_ba4f3_49 (fun t49 hT49 => ?_)
      refine z_iload C dJ6_getChars_ba4f3_52 2 rfl ?_
      refine z_tb1 (j := (wv % 100)) C hT49 (nI_in (by omega) (by decide)) (nI_clamp (by omega)) rfl dJ6_getChars_ba4f3_54 ?_
      refine z_bast (j := (pp - 1)) C (z_up_s _ _ _) (nI_in (by omega) (by omega)) (nI_clamp (by omega)) dJ6_getChars_ba4f3_55 ?_
      rw [z_up_up]
      refine z_aload_n C dJ6_getChars_ba4f3_56 rfl 5 rfl ?_
      refine z_iinc (v := nI (pp - 1 - 1)) (lv' := [(5, .int (nI (pp - 1 - 1))), (0, .int (-nI (wv / 100))), (4, .int (nI (wv % 100))), (3, .int (-nI (wv / 100))), (1, .int ix), (2, .ref vb), (6, .int 0)]) C dJ6_getChars_ba4f3_57 0 rfl (j_m1 (by omega)) (by decide) rfl ?_
      refine z_iload C dJ6_getChars_ba4f3_60 0 rfl ?_
      refine z_gsD10 C kw325 dJ6_getChars_ba4f3_62 (fun t62 hT62 => ?_)
      refine z_iload C dJ6_getChars_ba4f3_65 2 rfl ?_
      refine z_tb10 (j := (wv % 100)) C hT62 (nI_in (by omega) (by decide)) (nI_clamp (by omega)) rfl dJ6_getChars_ba4f3_67 ?_
      refine z_bast (j := (pp - 1 - 1)) C (z_up_s _ _ _) (nI_in (by omega) (by omega)) (nI_clamp (by omega)) dJ6_getChars_ba4f3_68 ?_
      rw [z_up_up]
      refine z_goto C (tgt := 22) dJ6_getChars_ba4f3_69 (by decide) ?_
      refine z_fewer [0, 1, 4, 5, 6] rfl ?_
      exact ih (wv / 100) (pp - 1 - 1) _ (by omega) (by omega) (by omega) (by omega) (j_fitU (j_fitU hff _ _) _ _)
set_option maxRecDepth 20000 in
theorem c_J6_getChars_ba4f3 (l : Launch) (G : zG) {M : zM} {vb : Nat} {n : Nat} {f : Nat → Int32} {v c d : Nat} (h_vb : M vb = some (aB G n f)) (hv : v < 2 ^ 31) (hd : d = c + sb_dg v) (hdn : d ≤ n) (hn : n ≤ 65536) (hf : sb_Fit f) : z_Mi l G qJ6_getChars_ba4f3 (z_rm 1 0 0) [.int (nI v), .int (nI d), .ref vb] M (fun r M' => ∃ (f9 : Nat → Int32) (r9 : Int32), (sb_Fit f9) ∧ r = r9 ∧ M' = z_up M vb (aB G n f9))  := by
  refine z_Mi_of _ (by decide +kernel) rfl (Nat.le_of_ble_eq_true rfl) (fun X hl hG hnm C ret => ?_)
  subst hl; subst hG
  have C : z_C X cJ6_getChars_ba4f3 RJ6 7 (z_rm 1 0 0) := C
  show z_W X M 0 0 0 [(0, .int (nI v)), (1, .int (nI d)), (2, .ref vb)] []
  refine z_iload_n C dJ6_getChars_ba4f3_0 rfl 1 rfl ?_
  refine z_istore (lv' := [(5, .int (nI d)), (0, .int (nI v)), (1, .int (nI d)), (2, .ref vb)]) C dJ6_getChars_ba4f3_1 (by decide) rfl ?_
  refine z_iload_n C dJ6_getChars_ba4f3_3 rfl 1 rfl ?_
  refine z_if_ge C (tgt := 11) dJ6_getChars_ba4f3_4 (by decide) (fun _ => ?_) (fun c4 => absurd (nI_pos' hv) c4)
  refine z_iconst C (v := 0) dJ6_getChars_ba4f3_11 (by decide) ?_
  refine z_istore (lv' := [(6, .int 0), (5, .int (nI d)), (0, .int (nI v)), (1, .int (nI d)), (2, .ref vb)]) C dJ6_getChars_ba4f3_12 (by decide) rfl ?_
  refine z_iload C dJ6_getChars_ba4f3_14 0 rfl ?_
  refine z_if_ne C (tgt := 22) dJ6_getChars_ba4f3_16 (by decide) (fun c16 => absurd (by decide) c16) (fun _ => ?_)
  refine z_iload_n C dJ6_getChars_ba4f3_19 rfl 2 rfl ?_
  refine z_ineg C dJ6_getChars_ba4f3_20 ?_
  refine z_istore_n (lv' := [(0, .int (-(nI v))), (6, .int 0), (5, .int (nI d)), (1, .int (nI d)), (2, .ref vb)]) C dJ6_getChars_ba4f3_21 rfl (by decide) rfl ?_
  refine z_fewer [2, 0, 3, 4, 1] rfl ?_
  refine z_at (M' := z_up M vb (aB (z_G X) n f)) (lv' := _) (z_up_id h_vb) rfl rfl ?_
  refine lp_J6_getC (c := c) C hn (fun f9 p9 h9 => ?_) (v + 1) v d f (Nat.lt_succ_self _) hv hd hdn hf
  refine z_iload C dJ6_getChars_ba4f3_118 0 rfl ?_
  refine ret dJ6_getChars_ba4f3_120 rfl ?_ (by decide) (by decide)
  exact ⟨f9, _, h9, rfl, rfl⟩
set_option maxRecDepth 20000 in
theorem c_apI5_fit (l : Launch) (G : zG) {M : zM} {sb : Nat} {vb : Nat} {ml : Int32} {n : Nat} {f : Nat → Int32} {c v : Nat} (h_sb : M sb = some (cSb vb 0 ml (nI c))) (h_vb : M vb = some (aB G n f)) (hv : v < 2 ^ 31) (h0 : c + sb_dg v ≤ n) (hn : n ≤ 65536) (hf : sb_Fit f) : z_Mr l G qJ5_append_c97b9 (z_rm 2 0 0) [.ref sb, .int (nI v)] M (fun r M' => ∃ f9_30 : Nat → Int32, ∃ r9_30 : Int32, (sb_Fit f9_30) ∧ r = sb ∧ M' = z_up (z_up M vb (aB G n f9_30)) sb (cSb vb 0 ml (nI (c + sb_dg v))))  := by
  refine z_Mr_of _ (by decide +kernel) rfl (by first | exact Or.inl ⟨_, rfl⟩ | exact Or.inr ⟨_, rfl⟩) (Nat.le_of_ble_eq_true rfl) (fun X hl hG hnm C ret => ?_)
  subst hl; subst hG
  have C : z_C X cJ5_append_c97b9 RJ5 4 (z_rm 2 0 0) := C
  show z_W X M 0 0 0 [(0, .ref sb), (1, .int (nI v))] []
  refine z_aload_n C dJ5_append_c97b9_0 rfl 0 rfl ?_
  refine gf_J5_79 C h_sb dJ5_append_c97b9_1 ?_
  refine z_istore_n (lv' := [(2, .int (nI c)), (0, .ref sb), (1, .int (nI v))]) C dJ5_append_c97b9_4 rfl (by decide) rfl ?_
  refine z_iload_n C dJ5_append_c97b9_5 rfl 0 rfl ?_
  refine z_iload_n C dJ5_append_c97b9_6 rfl 2 rfl ?_
  refine z_callSi (rest := [.int (nI c)]) (k' := 0) (n' := 0) C (c_J6_stringSize_0f7a4 (z_l X) (z_G X) hv) (cs_J5_245 C (by decide)) rfl rfl (Nat.le_of_ble_eq_true rfl) rfl rfl (by decide) (by decide) dJ5_append_c97b9_7 (fun x7 M' hq => ?_)
  obtain ⟨rfl, rfl⟩ := hq
  refine z_iadd C dJ5_append_c97b9_10 ?_
  rw [show (((nI c) + (nI (sb_dg v))) : Int32) = nI (c + sb_dg v) from (j_add _ _)]
  refine z_istore_n (lv' := [(3, .int (nI (c + sb_dg v))), (2, .int (nI c)), (0, .ref sb), (1, .int (nI v))]) C dJ5_append_c97b9_11 rfl (by decide) rfl ?_
  refine z_aload_n C dJ5_append_c97b9_12 rfl 2 rfl ?_
  refine z_iload_n C dJ5_append_c97b9_13 rfl 0 rfl ?_
  refine z_callUv (rest := []) (k' := 0) (n' := 0) C (c_ens_fit (z_l X) (z_G X) h_sb h_vb h0 hn) (cs_J5_100 C (by decide)) h_sb trivial trivial rfl rfl (Nat.le_of_ble_eq_true rfl) rfl rfl (by decide) (by decide) dJ5_append_c97b9_14 (fun M' hq => ?_)
  obtain rfl := hq
  refine z_aload_n C dJ5_append_c97b9_17 rfl 2 rfl ?_
  refine z_callUi (rest := []) (k' := 0) (n' := 0) C (c_J5_isLatin1_aae02 (z_l X) (z_G X) h_sb) (cs_J5_83 C (by decide)) h_sb trivial trivial rfl rfl (Nat.le_of_ble_eq_true rfl) rfl rfl (by decide) (by decide) dJ5_append_c97b9_18 (fun x18 M' hq => ?_)
  obtain ⟨rfl, rfl⟩ := hq
  refine z_if_eq C (tgt := 37) dJ5_append_c97b9_21 (by decide) (fun c21 => absurd c21 (by decide)) (fun _ => ?_)
  refine z_iload_n C dJ5_append_c97b9_24 rfl 3 rfl ?_
  refine z_iload_n C dJ5_append_c97b9_25 rfl 0 rfl ?_
  refine z_aload_n C dJ5_append_c97b9_26 rfl 2 rfl ?_
  refine gf_J5_15 C h_sb dJ5_append_c97b9_27 ?_
  refine z_callSi (rest := []) (k' := 0) (n' := 0) C (c_J6_getChars_ba4f3 (z_l X) (z_G X) h_vb hv rfl h0 hn hf) (cs_J5_248 C (by decide)) rfl rfl (Nat.le_of_ble_eq_true rfl) rfl rfl (by decide) (by decide) dJ5_append_c97b9_30 (fun x30 M' hq => ?_)
  obtain ⟨f9_30, r9_30, d30_2, hr30, rfl⟩ := hq
  rw [hr30]
  refine z_pop C dJ5_append_c97b9_33 rfl ?_
  refine z_goto C (tgt := 48) dJ5_append_c97b9_34 (by decide) ?_
  refine z_aload_n C dJ5_append_c97b9_48 rfl 2 rfl ?_
  refine z_iload_n C dJ5_append_c97b9_49 rfl 0 rfl ?_
  refine pf_J5_79 C ((z_up_n _ _ (z_ne h_sb h_vb (by intro h; cases h))).trans h_sb) dJ5_append_c97b9_50 ?_
  refine z_aload_n C dJ5_append_c97b9_53 rfl 2 rfl ?_
  exact ret dJ5_append_c97b9_54 (⟨f9_30, r9_30, d30_2, rfl, rfl⟩) (by decide) (by decide)
set_option maxRecDepth 20000 in
theorem c_apI5_grow (l : Launch) (G : zG) {M : zM} {sb : Nat} {vb : Nat} {ml : Int32} {n : Nat} {f : Nat → Int32} {c v : Nat} (h_sb : M sb = some (cSb vb 0 ml (nI c))) (h_vb : M vb = some (aB G n f)) (hv : v < 2 ^ 31) (h0 : n < c + sb_dg v) (hcn : c ≤ n) (hn : n ≤ 30000) (h16 : 16 ≤ n) (hf : sb_Fit f) : z_Mr l G qJ5_append_c97b9 (z_rm 5 1 (2 * n + 2)) [.ref sb, .int (nI v)] M (fun r M' => ∃ f9_30 : Nat → Int32, ∃ r9_30 : Int32, ∃ q15_32_14 : Nat, (M) q15_32_14 = none ∧ (sb_Fit f9_30) ∧ r = sb ∧ M' = z_up (z_up M q15_32_14 (aB G (2 * n + 2) f9_30)) sb (cSb q15_32_14 0 ml (nI (c + sb_dg v))))  := by
  refine z_Mr_of _ (by decide +kernel) rfl (by first | exact Or.inl ⟨_, rfl⟩ | exact Or.inr ⟨_, rfl⟩) (Nat.le_of_ble_eq_true rfl) (fun X hl hG hnm C ret => ?_)
  subst hl; subst hG
  have C : z_C X cJ5_append_c97b9 RJ5 4 (z_rm 5 1 (2 * n + 2)) := C
  show z_W X M 0 0 0 [(0, .ref sb), (1, .int (nI v))] []
  have kl9 := sb_dg_in v
  refine z_aload_n C dJ5_append_c97b9_0 rfl 0 rfl ?_
  refine gf_J5_79 C h_sb dJ5_append_c97b9_1 ?_
  refine z_istore_n (lv' := [(2, .int (nI c)), (0, .ref sb), (1, .int (nI v))]) C dJ5_append_c97b9_4 rfl (by decide) rfl ?_
  refine z_iload_n C dJ5_append_c97b9_5 rfl 0 rfl ?_
  refine z_iload_n C dJ5_append_c97b9_6 rfl 2 rfl ?_
  refine z_callSi (rest := [.int (nI c)]) (k' := 0) (n' := 0) C (c_J6_stringSize_0f7a4 (z_l X) (z_G X) hv) (cs_J5_245 C ⟨Nat.le_of_ble_eq_true rfl, Nat.le_of_ble_eq_true rfl⟩) rfl rfl (Nat.le_of_ble_eq_true rfl) rfl rfl (Nat.le_of_ble_eq_true rfl) (by show _ ≤ 2 * n + 2; omega) dJ5_append_c97b9_7 (fun x7 M' hq => ?_)
  obtain ⟨rfl, rfl⟩ := hq
  refine z_iadd C dJ5_append_c97b9_10 ?_
  rw [show (((nI c) + (nI (sb_dg v))) : Int32) = nI (c + sb_dg v) from (j_add _ _)]
  refine z_istore_n (lv' := [(3, .int (nI (c + sb_dg v))), (2, .int (nI c)), (0, .ref sb), (1, .int (nI v))]) C dJ5_append_c97b9_11 rfl (by decide) rfl ?_
  refine z_aload_n C dJ5_append_c97b9_12 rfl 2 rfl ?_
  refine z_iload_n C dJ5_append_c97b9_13 rfl 0 rfl ?_
  refine z_callUv (rest := []) (k' := 1) (n' := 0 + (2 * n + 2)) C (c_ens_grow (z_l X) (z_G X) h_sb h_vb h0 (by omega) hn hf) (cs_J5_100 C ⟨Nat.le_of_ble_eq_true rfl, Nat.le_of_ble_eq_true rfl⟩) h_sb trivial trivial rfl rfl (Nat.le_of_ble_eq_true rfl) rfl rfl (Nat.le_of_ble_eq_true rfl) (by show _ ≤ 2 * n + 2; omega) dJ5_append_c97b9_14 (fun M' hq => ?_)
  obtain ⟨q15_32_14, hq15_32_14, rfl⟩ := hq
  refine z_aload_n C dJ5_append_c97b9_17 rfl 2 rfl ?_
  refine z_callUi (rest := []) (k' := 1) (n' := 0 + (2 * n + 2)) C (c_J5_isLatin1_aae02 (z_l X) (z_G X) (z_up_s _ _ _)) (cs_J5_83 C ⟨Nat.le_of_ble_eq_true rfl, Nat.le_of_ble_eq_true rfl⟩) (z_up_s _ _ _) trivial trivial rfl rfl (Nat.le_of_ble_eq_true rfl) rfl rfl (Nat.le_of_ble_eq_true rfl) (by show _ ≤ 2 * n + 2; omega) dJ5_append_c97b9_18 (fun x18 M' hq => ?_)
  obtain ⟨rfl, rfl⟩ := hq
  refine z_if_eq C (tgt := 37) dJ5_append_c97b9_21 (by decide) (fun c21 => absurd c21 (by decide)) (fun _ => ?_)
  refine z_iload_n C dJ5_append_c97b9_24 rfl 3 rfl ?_
  refine z_iload_n C dJ5_append_c97b9_25 rfl 0 rfl ?_
  refine z_aload_n C dJ5_append_c97b9_26 rfl 2 rfl ?_
  refine gf_J5_15 C (z_up_s _ _ _) dJ5_append_c97b9_27 ?_
  refine z_callSi (rest := []) (k' := 1) (n' := 0 + (2 * n + 2)) C (c_J6_getChars_ba4f3 (z_l X) (z_G X) ((z_up_n _ _ (Ne.symm (z_neN h_sb hq15_32_14))).trans (z_up_s _ _ _)) hv rfl (by omega) (by omega) (sb_fitC hf sb_fit0)) (cs_J5_248 C ⟨Nat.le_of_ble_eq_true rfl, Nat.le_of_ble_eq_true rfl⟩) rfl rfl (Nat.le_of_ble_eq_true rfl) rfl rfl (Nat.le_of_ble_eq_true rfl) (by show _ ≤ 2 * n + 2; omega) dJ5_append_c97b9_30 (fun x30 M' hq => ?_)
  obtain ⟨f9_30, r9_30, d30_2, hr30, rfl⟩ := hq
  rw [hr30]
  rw [z_up_swap _ (Ne.symm (z_neN h_sb hq15_32_14))]
  rw [z_up_up]
  refine z_pop C dJ5_append_c97b9_33 rfl ?_
  refine z_goto C (tgt := 48) dJ5_append_c97b9_34 (by decide) ?_
  refine z_aload_n C dJ5_append_c97b9_48 rfl 2 rfl ?_
  refine z_iload_n C dJ5_append_c97b9_49 rfl 0 rfl ?_
  rw [z_up_swap _ (z_neN h_sb hq15_32_14)]
  refine pg_J5_79 C dJ5_append_c97b9_50 ?_
  refine z_aload_n C dJ5_append_c97b9_53 rfl 2 rfl ?_
  exact ret dJ5_append_c97b9_54 (⟨f9_30, r9_30, q15_32_14, hq15_32_14, d30_2, rfl, rfl⟩) (Nat.le_of_ble_eq_true rfl) (by show _ ≤ 2 * n + 2; omega)
set_option maxRecDepth 20000 in
theorem c_apI_fit (l : Launch) (G : zG) {M : zM} {sb : Nat} {vb : Nat} {ml : Int32} {n : Nat} {f : Nat → Int32} {c v : Nat} (h_sb : M sb = some (cSb vb 0 ml (nI c))) (h_vb : M vb = some (aB G n f)) (hv : v < 2 ^ 31) (h0 : c + sb_dg v ≤ n) (hn : n ≤ 65536) (hf : sb_Fit f) : z_Mr l G qJ4_append_bf812 (z_rm 3 0 0) [.ref sb, .int (nI v)] M (fun r M' => ∃ f9_30_2 : Nat → Int32, ∃ r9_30_2 : Int32, (sb_Fit f9_30_2) ∧ r = sb ∧ M' = z_up (z_up M vb (aB G n f9_30_2)) sb (cSb vb 0 ml (nI (c + sb_dg v))))  := by
  refine z_Mr_of _ (by decide +kernel) rfl (by first | exact Or.inl ⟨_, rfl⟩ | exact Or.inr ⟨_, rfl⟩) (Nat.le_of_ble_eq_true rfl) (fun X hl hG hnm C ret => ?_)
  subst hl; subst hG
  have C : z_C X cJ4_append_bf812 RJ4 2 (z_rm 3 0 0) := C
  show z_W X M 0 0 0 [(0, .ref sb), (1, .int (nI v))] []
  refine z_aload_n C dJ4_append_bf812_0 rfl 0 rfl ?_
  refine z_iload_n C dJ4_append_bf812_1 rfl 1 rfl ?_
  refine z_callPr (rest := []) (k' := 0) (n' := 0) C (c_apI5_fit (z_l X) (z_G X) h_sb h_vb hv h0 hn hf) (cs_J4_53 C (by decide)) h_sb trivial trivial rfl rfl (Nat.le_of_ble_eq_true rfl) rfl rfl (by decide) (by decide) dJ4_append_bf812_2 (fun x2 M' hq => ?_)
  obtain ⟨f9_30_2, r9_30_2, d2_2, hr2, rfl⟩ := hq
  rw [hr2]
  refine z_pop C dJ4_append_bf812_5 rfl ?_
  refine z_aload_n C dJ4_append_bf812_6 rfl 0 rfl ?_
  exact ret dJ4_append_bf812_7 (⟨f9_30_2, r9_30_2, d2_2, rfl, rfl⟩) (by decide) (by decide)
set_option maxRecDepth 20000 in
theorem c_apI_grow (l : Launch) (G : zG) {M : zM} {sb : Nat} {vb : Nat} {ml : Int32} {n : Nat} {f : Nat → Int32} {c v : Nat} (h_sb : M sb = some (cSb vb 0 ml (nI c))) (h_vb : M vb = some (aB G n f)) (hv : v < 2 ^ 31) (h0 : n < c + sb_dg v) (hcn : c ≤ n) (hn : n ≤ 30000) (h16 : 16 ≤ n) (hf : sb_Fit f) : z_Mr l G qJ4_append_bf812 (z_rm 6 1 (2 * n + 2)) [.ref sb, .int (nI v)] M (fun r M' => ∃ f9_30_2 : Nat → Int32, ∃ r9_30_2 : Int32, ∃ q15_32_14_2 : Nat, (M) q15_32_14_2 = none ∧ (sb_Fit f9_30_2) ∧ r = sb ∧ M' = z_up (z_up M q15_32_14_2 (aB G (2 * n + 2) f9_30_2)) sb (cSb q15_32_14_2 0 ml (nI (c + sb_dg v))))  := by
  refine z_Mr_of _ (by decide +kernel) rfl (by first | exact Or.inl ⟨_, rfl⟩ | exact Or.inr ⟨_, rfl⟩) (Nat.le_of_ble_eq_true rfl) (fun X hl hG hnm C ret => ?_)
  subst hl; subst hG
  have C : z_C X cJ4_append_bf812 RJ4 2 (z_rm 6 1 (2 * n + 2)) := C
  show z_W X M 0 0 0 [(0, .ref sb), (1, .int (nI v))] []
  refine z_aload_n C dJ4_append_bf812_0 rfl 0 rfl ?_
  refine z_iload_n C dJ4_append_bf812_1 rfl 1 rfl ?_
  refine z_callPr (rest := []) (k' := 1) (n' := 0 + (2 * n + 2)) C (c_apI5_grow (z_l X) (z_G X) h_sb h_vb hv h0 hcn hn h16 hf) (cs_J4_53 C ⟨Nat.le_of_ble_eq_true rfl, Nat.le_of_ble_eq_true rfl⟩) h_sb trivial trivial rfl rfl (Nat.le_of_ble_eq_true rfl) rfl rfl (Nat.le_of_ble_eq_true rfl) (by show _ ≤ 2 * n + 2; omega) dJ4_append_bf812_2 (fun x2 M' hq => ?_)
  obtain ⟨f9_30_2, r9_30_2, q15_32_14_2, hq15_32_14_2, d2_4, hr2, rfl⟩ := hq
  rw [hr2]
  refine z_pop C dJ4_append_bf812_5 rfl ?_
  refine z_aload_n C dJ4_append_bf812_6 rfl 0 rfl ?_
  exact ret dJ4_append_bf812_7 (⟨f9_30_2, r9_30_2, q15_32_14_2, hq15_32_14_2, d2_4, rfl, rfl⟩) (Nat.le_of_ble_eq_true rfl) (by show _ ≤ 2 * n + 2; omega)
end
section
/-! PART 44: new builders, new Strings, their letters -/
theorem dJ0_init_db425_0 : decode cJ0_init_db425 0 = .ok (.aload_n 0, 1) := by decide +kernel
theorem dJ0_init_db425_1 : decode cJ0_init_db425 1 = .ok (.invokespecial 1, 3) := by decide +kernel
theorem dJ0_init_db425_4 : decode cJ0_init_db425 4 = .ok (.aload_n 1, 1) := by decide +kernel
theorem dJ0_init_db425_5 : decode cJ0_init_db425 5 = .ok (.invokevirtual 552, 3) := by decide +kernel
theorem dJ0_init_db425_8 : decode cJ0_init_db425 8 = .ok (.astore_n 3, 1) := by decide +kernel
theorem dJ0_init_db425_9 : decode cJ0_init_db425 9 = .ok (.aload_n 1, 1) := by decide +kernel
theorem dJ0_init_db425_10 : decode cJ0_init_db425 10 = .ok (.invokevirtual 549, 3) := by decide +kernel
theorem dJ0_init_db425_13 : decode cJ0_init_db425 13 = .ok (.istore 4, 2) := by decide +kernel
theorem dJ0_init_db425_15 : decode cJ0_init_db425 15 = .ok (.aload_n 1, 1) := by decide +kernel
theorem dJ0_init_db425_16 : decode cJ0_init_db425 16 = .ok (.invokevirtual 1047, 3) := by decide +kernel
theorem dJ0_init_db425_19 : decode cJ0_init_db425 19 = .ok (.ifCond .eq 22, 3) := by decide +kernel
theorem dJ0_init_db425_22 : decode cJ0_init_db425 22 = .ok (.aload_n 0, 1) := by decide +kernel
theorem dJ0_init_db425_23 : decode cJ0_init_db425 23 = .ok (.iconst 0, 1) := by decide +kernel
theorem dJ0_init_db425_24 : decode cJ0_init_db425 24 = .ok (.putfield 15, 3) := by decide +kernel
theorem dJ0_init_db425_27 : decode cJ0_init_db425 27 = .ok (.aload_n 0, 1) := by decide +kernel
theorem dJ0_init_db425_28 : decode cJ0_init_db425 28 = .ok (.aload_n 3, 1) := by decide +kernel
theorem dJ0_init_db425_29 : decode cJ0_init_db425 29 = .ok (.iconst 0, 1) := by decide +kernel
theorem dJ0_init_db425_30 : decode cJ0_init_db425 30 = .ok (.iload 4, 2) := by decide +kernel
theorem dJ0_init_db425_32 : decode cJ0_init_db425 32 = .ok (.invokestatic 54, 3) := by decide +kernel
theorem dJ0_init_db425_35 : decode cJ0_init_db425 35 = .ok (.putfield 9, 3) := by decide +kernel
theorem dJ0_init_db425_38 : decode cJ0_init_db425 38 = .ok (.goto 59, 3) := by decide +kernel
theorem dJ0_init_db425_97 : decode cJ0_init_db425 97 = .ok (.return_, 1) := by decide +kernel
theorem dJ0_init_81219_0 : decode cJ0_init_81219 0 = .ok (.aload_n 0, 1) := by decide +kernel
theorem dJ0_init_81219_1 : decode cJ0_init_81219 1 = .ok (.aload_n 1, 1) := by decide +kernel
theorem dJ0_init_81219_2 : decode cJ0_init_81219 2 = .ok (.aconst_null, 1) := by decide +kernel
theorem dJ0_init_81219_3 : decode cJ0_init_81219 3 = .ok (.invokespecial 489, 3) := by decide +kernel
theorem dJ0_init_81219_6 : decode cJ0_init_81219 6 = .ok (.return_, 1) := by decide +kernel
theorem dJ4_toString_0e30d_0 : decode cJ4_toString_0e30d 0 = .ok (.new 18, 3) := by decide +kernel
theorem dJ4_toString_0e30d_3 : decode cJ4_toString_0e30d 3 = .ok (.dup, 1) := by decide +kernel
theorem dJ4_toString_0e30d_4 : decode cJ4_toString_0e30d 4 = .ok (.aload_n 0, 1) := by decide +kernel
theorem dJ4_toString_0e30d_5 : decode cJ4_toString_0e30d 5 = .ok (.invokespecial 137, 3) := by decide +kernel
theorem dJ4_toString_0e30d_8 : decode cJ4_toString_0e30d 8 = .ok (.areturn, 1) := by decide +kernel
theorem dJ0_isLatin1_aae02_0 : decode cJ0_isLatin1_aae02 0 = .ok (.getstatic 38, 3) := by decide +kernel
theorem dJ0_isLatin1_aae02_3 : decode cJ0_isLatin1_aae02 3 = .ok (.ifCond .eq 14, 3) := by decide +kernel
theorem dJ0_isLatin1_aae02_6 : decode cJ0_isLatin1_aae02 6 = .ok (.aload_n 0, 1) := by decide +kernel
theorem dJ0_isLatin1_aae02_7 : decode cJ0_isLatin1_aae02 7 = .ok (.getfield 15, 3) := by decide +kernel
theorem dJ0_isLatin1_aae02_10 : decode cJ0_isLatin1_aae02 10 = .ok (.ifCond .ne 7, 3) := by decide +kernel
theorem dJ0_isLatin1_aae02_13 : decode cJ0_isLatin1_aae02 13 = .ok (.iconst 1, 1) := by decide +kernel
theorem dJ0_isLatin1_aae02_14 : decode cJ0_isLatin1_aae02 14 = .ok (.goto 4, 3) := by decide +kernel
theorem dJ0_isLatin1_aae02_18 : decode cJ0_isLatin1_aae02 18 = .ok (.ireturn, 1) := by decide +kernel
theorem dJ1_charAt_3b067_0 : decode cJ1_charAt_3b067 0 = .ok (.iload_n 1, 1) := by decide +kernel
theorem dJ1_charAt_3b067_1 : decode cJ1_charAt_3b067 1 = .ok (.aload_n 0, 1) := by decide +kernel
theorem dJ1_charAt_3b067_2 : decode cJ1_charAt_3b067 2 = .ok (.arraylength, 1) := by decide +kernel
theorem dJ1_charAt_3b067_3 : decode cJ1_charAt_3b067 3 = .ok (.invokestatic 9, 3) := by decide +kernel
theorem dJ1_charAt_3b067_6 : decode cJ1_charAt_3b067 6 = .ok (.aload_n 0, 1) := by decide +kernel
theorem dJ1_charAt_3b067_7 : decode cJ1_charAt_3b067 7 = .ok (.iload_n 1, 1) := by decide +kernel
theorem dJ1_charAt_3b067_8 : decode cJ1_charAt_3b067 8 = .ok (.baload, 1) := by decide +kernel
theorem dJ1_charAt_3b067_9 : decode cJ1_charAt_3b067 9 = .ok (.sipush 255, 3) := by decide +kernel
theorem dJ1_charAt_3b067_12 : decode cJ1_charAt_3b067 12 = .ok (.iand, 1) := by decide +kernel
theorem dJ1_charAt_3b067_13 : decode cJ1_charAt_3b067 13 = .ok (.i2c, 1) := by decide +kernel
theorem dJ1_charAt_3b067_14 : decode cJ1_charAt_3b067 14 = .ok (.ireturn, 1) := by decide +kernel
theorem dJ0_charAt_5068e_0 : decode cJ0_charAt_5068e 0 = .ok (.aload_n 0, 1) := by decide +kernel
theorem dJ0_charAt_5068e_1 : decode cJ0_charAt_5068e 1 = .ok (.invokevirtual 492, 3) := by decide +kernel
theorem dJ0_charAt_5068e_4 : decode cJ0_charAt_5068e 4 = .ok (.ifCond .eq 12, 3) := by decide +kernel
theorem dJ0_charAt_5068e_7 : decode cJ0_charAt_5068e 7 = .ok (.aload_n 0, 1) := by decide +kernel
theorem dJ0_charAt_5068e_8 : decode cJ0_charAt_5068e 8 = .ok (.getfield 9, 3) := by decide +kernel
theorem dJ0_charAt_5068e_11 : decode cJ0_charAt_5068e 11 = .ok (.iload_n 1, 1) := by decide +kernel
theorem dJ0_charAt_5068e_12 : decode cJ0_charAt_5068e 12 = .ok (.invokestatic 495, 3) := by decide +kernel
theorem dJ0_charAt_5068e_15 : decode cJ0_charAt_5068e 15 = .ok (.ireturn, 1) := by decide +kernel
theorem dJ5_init_d00df_0 : decode cJ5_init_d00df 0 = .ok (.aload_n 0, 1) := by decide +kernel
theorem dJ5_init_d00df_1 : decode cJ5_init_d00df 1 = .ok (.invokespecial 3, 3) := by decide +kernel
theorem dJ5_init_d00df_4 : decode cJ5_init_d00df 4 = .ok (.getstatic 18, 3) := by decide +kernel
theorem dJ5_init_d00df_7 : decode cJ5_init_d00df 7 = .ok (.ifCond .eq 18, 3) := by decide +kernel
theorem dJ5_init_d00df_10 : decode cJ5_init_d00df 10 = .ok (.aload_n 0, 1) := by decide +kernel
theorem dJ5_init_d00df_11 : decode cJ5_init_d00df 11 = .ok (.iload_n 1, 1) := by decide +kernel
theorem dJ5_init_d00df_12 : decode cJ5_init_d00df 12 = .ok (.newarray .byte, 2) := by decide +kernel
theorem dJ5_init_d00df_14 : decode cJ5_init_d00df 14 = .ok (.putfield 15, 3) := by decide +kernel
theorem dJ5_init_d00df_17 : decode cJ5_init_d00df 17 = .ok (.aload_n 0, 1) := by decide +kernel
theorem dJ5_init_d00df_18 : decode cJ5_init_d00df 18 = .ok (.iconst 0, 1) := by decide +kernel
theorem dJ5_init_d00df_19 : decode cJ5_init_d00df 19 = .ok (.putfield 22, 3) := by decide +kernel
theorem dJ5_init_d00df_22 : decode cJ5_init_d00df 22 = .ok (.goto 16, 3) := by decide +kernel
theorem dJ5_init_d00df_38 : decode cJ5_init_d00df 38 = .ok (.return_, 1) := by decide +kernel
theorem dJ4_init_da8c8_0 : decode cJ4_init_da8c8 0 = .ok (.aload_n 0, 1) := by decide +kernel
theorem dJ4_init_da8c8_1 : decode cJ4_init_da8c8 1 = .ok (.bipush 16, 2) := by decide +kernel
theorem dJ4_init_da8c8_3 : decode cJ4_init_da8c8 3 = .ok (.invokespecial 1, 3) := by decide +kernel
theorem dJ4_init_da8c8_6 : decode cJ4_init_da8c8 6 = .ok (.return_, 1) := by decide +kernel
set_option maxRecDepth 20000 in
theorem c_J0_init_db425 (l : Launch) (G : zG) {M : zM} {sx : Nat} {sb : Nat} {vb : Nat} {ml : Int32} {n : Nat} {f : Nat → Int32} {c : Nat} (h_sx : M sx = some (.inr (0, [.null, .int 0, .int 0, .int 0]))) (h_sb : M sb = some (cSb vb 0 ml (nI c))) (h_vb : M vb = some (aB G n f)) (hcn : c ≤ n) (hn : n ≤ 65536) (hf : sb_Fit f) : z_Mv l G qJ0_init_db425 (z_rm 4 1 c) [.ref sx, .ref sb, .null] M (fun M' => ∃ f9_32 : Nat → Int32, ∃ q9_32 : Nat, (z_up M sx (.inr (0, [.null, .int 0, .int 0, .int 0]))) q9_32 = none ∧ (sb_Fit f9_32) ∧ M' = z_up (z_up M q9_32 (aB G c f9_32)) sx (.inr (0, [.ref q9_32, .int 0, .int 0, .int 0])))  := by
  refine z_Mv_of _ (by decide +kernel) rfl (Nat.le_of_ble_eq_true rfl) (fun X hl hG hnm C ret => ?_)
  subst hl; subst hG
  have C : z_C X cJ0_init_db425 RJ0 5 (z_rm 4 1 c) := C
  show z_W X M 0 0 0 [(0, .ref sx), (1, .ref sb), (2, .null)] []
  refine z_aload_n C dJ0_init_db425_0 rfl 0 rfl ?_
  refine z_objInit (rest := []) C kw347 kw32 kw33 ⟨Nat.le_of_ble_eq_true rfl, Nat.le_of_ble_eq_true rfl⟩ (Nat.le_of_ble_eq_true rfl) dJ0_init_db425_1 ?_
  refine z_aload_n C dJ0_init_db425_4 rfl 1 rfl ?_
  refine z_callUr (rest := []) (k' := 0) (n' := 0) C (c_J5_getValue_6d5f1 (z_l X) (z_G X) h_sb) (cs_J0_552 C ⟨Nat.le_of_ble_eq_true rfl, Nat.le_of_ble_eq_true rfl⟩) h_sb trivial trivial rfl rfl (Nat.le_of_ble_eq_true rfl) rfl rfl (Nat.le_of_ble_eq_true rfl) (by show _ ≤ c; omega) dJ0_init_db425_5 (fun x5 M' hq => ?_)
  obtain ⟨hr5, rfl⟩ := hq
  rw [hr5]
  refine z_astore_n (lv' := [(3, .ref vb), (0, .ref sx), (1, .ref sb), (2, .null)]) C dJ0_init_db425_8 rfl (by decide) rfl ?_
  refine z_aload_n C dJ0_init_db425_9 rfl 2 rfl ?_
  refine z_callUi (rest := []) (k' := 0) (n' := 0) C (c_J4_length_8abf5 (z_l X) (z_G X) h_sb) (cs_J0_549 C ⟨Nat.le_of_ble_eq_true rfl, Nat.le_of_ble_eq_true rfl⟩) h_sb trivial trivial rfl rfl (Nat.le_of_ble_eq_true rfl) rfl rfl (Nat.le_of_ble_eq_true rfl) (by show _ ≤ c; omega) dJ0_init_db425_10 (fun x10 M' hq => ?_)
  obtain ⟨rfl, rfl⟩ := hq
  refine z_istore (lv' := [(4, .int (nI c)), (3, .ref vb), (0, .ref sx), (1, .ref sb), (2, .null)]) C dJ0_init_db425_13 (by decide) rfl ?_
  refine z_aload_n C dJ0_init_db425_15 rfl 3 rfl ?_
  refine z_callUi (rest := []) (k' := 0) (n' := 0) C (c_J5_isLatin1_aae02 (z_l X) (z_G X) h_sb) (cs_J0_1047 C ⟨Nat.le_of_ble_eq_true rfl, Nat.le_of_ble_eq_true rfl⟩) h_sb trivial trivial rfl rfl (Nat.le_of_ble_eq_true rfl) rfl rfl (Nat.le_of_ble_eq_true rfl) (by show _ ≤ c; omega) dJ0_init_db425_16 (fun x16 M' hq => ?_)
  obtain ⟨rfl, rfl⟩ := hq
  refine z_if_eq C (tgt := 41) dJ0_init_db425_19 (by decide) (fun c19 => absurd c19 (by decide)) (fun _ => ?_)
  refine z_aload_n C dJ0_init_db425_22 rfl 2 rfl ?_
  refine z_iconst C (v := 0) dJ0_init_db425_23 (by decide) ?_
  refine pr_J0_15 C hnm rfl rfl h_sx dJ0_init_db425_24 ?_
  refine z_aload_n C dJ0_init_db425_27 rfl 2 rfl ?_
  refine z_aload_n C dJ0_init_db425_28 rfl 1 rfl ?_
  refine z_iconst C (v := 0) dJ0_init_db425_29 (by decide) ?_
  refine z_iload C dJ0_init_db425_30 0 rfl ?_
  refine z_callSr (rest := [.ref sx]) (k' := 1) (n' := 0 + c) C (c_J7_copyOfRange_39247 (z_l X) (z_G X) ((z_up_n _ _ (z_ne h_vb h_sx (by intro h; cases h))).trans h_vb) hcn hn hf) (cs_J0_54 C ⟨Nat.le_of_ble_eq_true rfl, Nat.le_of_ble_eq_true rfl⟩) rfl rfl (Nat.le_of_ble_eq_true rfl) rfl rfl (Nat.le_of_ble_eq_true rfl) (by show _ ≤ c; omega) dJ0_init_db425_32 (fun x32 M' hq => ?_)
  obtain ⟨f9_32, q9_32, hq9_32, d32_3, hr32, rfl⟩ := hq
  rw [hr32]
  rw [z_up_swap _ (z_neN (z_up_s _ _ _) hq9_32)]
  refine pq_J0_9 C hnm rfl rfl dJ0_init_db425_35 ?_
  refine z_goto C (tgt := 97) dJ0_init_db425_38 (by decide) ?_
  exact ret dJ0_init_db425_97 (⟨f9_32, q9_32, hq9_32, d32_3, rfl⟩) (Nat.le_of_ble_eq_true rfl) (by show _ ≤ c; omega)
set_option maxRecDepth 20000 in
theorem c_J0_init_81219 (l : Launch) (G : zG) {M : zM} {sx : Nat} {sb : Nat} {vb : Nat} {ml : Int32} {n : Nat} {f : Nat → Int32} {c : Nat} (h_sx : M sx = some (.inr (0, [.null, .int 0, .int 0, .int 0]))) (h_sb : M sb = some (cSb vb 0 ml (nI c))) (h_vb : M vb = some (aB G n f)) (hcn : c ≤ n) (hn : n ≤ 65536) (hf : sb_Fit f) : z_Mv l G qJ0_init_81219 (z_rm 5 1 c) [.ref sx, .ref sb] M (fun M' => ∃ f9_32_3 : Nat → Int32, ∃ q9_32_3 : Nat, (z_up M sx (.inr (0, [.null, .int 0, .int 0, .int 0]))) q9_32_3 = none ∧ (sb_Fit f9_32_3) ∧ M' = z_up (z_up M q9_32_3 (aB G c f9_32_3)) sx (.inr (0, [.ref q9_32_3, .int 0, .int 0, .int 0])))  := by
  refine z_Mv_of _ (by decide +kernel) rfl (Nat.le_of_ble_eq_true rfl) (fun X hl hG hnm C ret => ?_)
  subst hl; subst hG
  have C : z_C X cJ0_init_81219 RJ0 2 (z_rm 5 1 c) := C
  show z_W X M 0 0 0 [(0, .ref sx), (1, .ref sb)] []
  refine z_aload_n C dJ0_init_81219_0 rfl 0 rfl ?_
  refine z_aload_n C dJ0_init_81219_1 rfl 1 rfl ?_
  refine z_null C dJ0_init_81219_2 ?_
  refine z_callI (rest := []) (k' := 1) (n' := 0 + c) C (c_J0_init_db425 (z_l X) (z_G X) h_sx h_sb h_vb hcn hn hf) (cs_J0_489 C ⟨Nat.le_of_ble_eq_true rfl, Nat.le_of_ble_eq_true rfl⟩) rfl rfl (Nat.le_of_ble_eq_true rfl) rfl rfl (Nat.le_of_ble_eq_true rfl) (by show _ ≤ c; omega) dJ0_init_81219_3 (fun M' hq => ?_)
  obtain ⟨f9_32_3, q9_32_3, hq9_32_3, d3_3, rfl⟩ := hq
  exact ret dJ0_init_81219_6 (⟨f9_32_3, q9_32_3, hq9_32_3, d3_3, rfl⟩) (Nat.le_of_ble_eq_true rfl) (by show _ ≤ c; omega)
set_option maxRecDepth 20000 in
theorem c_J4_toString_0e30d (l : Launch) (G : zG) {M : zM} {sb : Nat} {vb : Nat} {ml : Int32} {n : Nat} {f : Nat → Int32} {c : Nat} (h_sb : M sb = some (cSb vb 0 ml (nI c))) (h_vb : M vb = some (aB G n f)) (hcn : c ≤ n) (hn : n ≤ 65536) (hf : sb_Fit f) : z_Mr l G qJ4_toString_0e30d (z_rm 6 2 (4 + c)) [.ref sb] M (fun r M' => ∃ f9_32_3_5 : Nat → Int32, ∃ q0 : Nat, (M) q0 = none ∧ ∃ q9_32_3_5 : Nat, (z_up (z_up M q0 (.inr (0, [.null, .int 0, .int 0, .int 0]))) q0 (.inr (0, [.null, .int 0, .int 0, .int 0]))) q9_32_3_5 = none ∧ (sb_Fit f9_32_3_5) ∧ r = q0 ∧ M' = z_up (z_up M q9_32_3_5 (aB G c f9_32_3_5)) q0 (.inr (0, [.ref q9_32_3_5, .int 0, .int 0, .int 0])))  := by
  refine z_Mr_of _ (by decide +kernel) rfl (by first | exact Or.inl ⟨_, rfl⟩ | exact Or.inr ⟨_, rfl⟩) (Nat.le_of_ble_eq_true rfl) (fun X hl hG hnm C ret => ?_)
  subst hl; subst hG
  have C : z_C X cJ4_toString_0e30d RJ4 1 (z_rm 6 2 (4 + c)) := C
  show z_W X M 0 0 0 [(0, .ref sb)] []
  refine z_new (ci := 0) (fs := [.null, .int 0, .int 0, .int 0]) C rfl inJ0 tyJ0 tyJ0_ok kw339 kw340 kw7 (fun j hj => by rcases (show j = 0 ∨ j = 1 ∨ j = 2 ∨ j = 3 by omega) with rfl | rfl | rfl | rfl <;> rfl) (Nat.le_of_ble_eq_true rfl) (by show _ ≤ 4 + c; omega) dJ4_toString_0e30d_0 (fun q0 hq0 => ?_)
  refine z_kn (k' := 1) (n' := 4) rfl rfl ?_
  refine z_dup C dJ4_toString_0e30d_3 rfl ?_
  refine z_aload_n C dJ4_toString_0e30d_4 rfl 0 rfl ?_
  refine z_callI (rest := [.ref q0]) (k' := 2) (n' := 4 + c) C (c_J0_init_81219 (z_l X) (z_G X) (z_up_s _ _ _) ((z_up_n _ _ (z_neN h_sb hq0)).trans h_sb) ((z_up_n _ _ (z_neN h_vb hq0)).trans h_vb) hcn hn hf) (cs_J4_137 C ⟨Nat.le_of_ble_eq_true rfl, Nat.le_of_ble_eq_true rfl⟩) rfl rfl (Nat.le_of_ble_eq_true rfl) rfl rfl (Nat.le_of_ble_eq_true rfl) (by show _ ≤ 4 + c; omega) dJ4_toString_0e30d_5 (fun M' hq => ?_)
  obtain ⟨f9_32_3_5, q9_32_3_5, hq9_32_3_5, d5_3, rfl⟩ := hq
  rw [z_up_swap _ (z_neN (z_up_s _ _ _) hq9_32_3_5)]
  rw [z_up_up]
  exact ret dJ4_toString_0e30d_8 (⟨f9_32_3_5, q0, hq0, q9_32_3_5, hq9_32_3_5, d5_3, rfl, rfl⟩) (Nat.le_of_ble_eq_true rfl) (by show _ ≤ 4 + c; omega)
set_option maxRecDepth 20000 in
theorem c_coderS (l : Launch) (G : zG) {M : zM} {sx : Nat} {vb : Nat} {ha : Int32} {hz : Int32}  (h_sx : M sx = some (cSt vb 0 ha hz))  : z_Mi l G qJ0_coder_7d493 (z_rm 1 0 0) [.ref sx] M (fun r M' => r = 0 ∧ M' = M)  := by
  refine z_Mi_of _ (by decide +kernel) rfl (Nat.le_of_ble_eq_true rfl) (fun X hl hG hnm C ret => ?_)
  subst hl; subst hG
  have C : z_C X cJ0_coder_7d493 RJ0 1 (z_rm 1 0 0) := C
  show z_W X M 0 0 0 [(0, .ref sx)] []
  refine z_gsZ C kw275 dJ0_coder_7d493_0 ?_
  refine z_if_eq C (tgt := 13) dJ0_coder_7d493_3 (by decide) (fun c3 => absurd c3 (by decide)) (fun _ => ?_)
  refine z_aload_n C dJ0_coder_7d493_6 rfl 0 rfl ?_
  refine gf_J0_15 C h_sx dJ0_coder_7d493_7 ?_
  refine z_goto C (tgt := 14) dJ0_coder_7d493_10 (by decide) ?_
  exact ret dJ0_coder_7d493_14 rfl (⟨rfl, rfl⟩) (by decide) (by decide)
set_option maxRecDepth 20000 in
theorem c_J0_isLatin1_aae02 (l : Launch) (G : zG) {M : zM} {sx : Nat} {vb : Nat} {ha : Int32} {hz : Int32}  (h_sx : M sx = some (cSt vb 0 ha hz))  : z_Mi l G qJ0_isLatin1_aae02 (z_rm 1 0 0) [.ref sx] M (fun r M' => r = 1 ∧ M' = M)  := by
  refine z_Mi_of _ (by decide +kernel) rfl (Nat.le_of_ble_eq_true rfl) (fun X hl hG hnm C ret => ?_)
  subst hl; subst hG
  have C : z_C X cJ0_isLatin1_aae02 RJ0 1 (z_rm 1 0 0) := C
  show z_W X M 0 0 0 [(0, .ref sx)] []
  refine z_gsZ C kw275 dJ0_isLatin1_aae02_0 ?_
  refine z_if_eq C (tgt := 17) dJ0_isLatin1_aae02_3 (by decide) (fun c3 => absurd c3 (by decide)) (fun _ => ?_)
  refine z_aload_n C dJ0_isLatin1_aae02_6 rfl 0 rfl ?_
  refine gf_J0_15 C h_sx dJ0_isLatin1_aae02_7 ?_
  refine z_if_ne C (tgt := 17) dJ0_isLatin1_aae02_10 (by decide) (fun c10 => absurd (by decide) c10) (fun _ => ?_)
  refine z_iconst C (v := 1) dJ0_isLatin1_aae02_13 (by decide) ?_
  refine z_goto C (tgt := 18) dJ0_isLatin1_aae02_14 (by decide) ?_
  exact ret dJ0_isLatin1_aae02_18 rfl (⟨rfl, rfl⟩) (by decide) (by decide)
set_option maxRecDepth 20000 in
theorem c_lenS (l : Launch) (G : zG) {M : zM} {sx : Nat} {vb : Nat} {ha : Int32} {hz : Int32} {n : Nat} {f : Nat → Int32}  (h_sx : M sx = some (cSt vb 0 ha hz)) (h_vb : M vb = some (aB G n f))  : z_Mi l G qJ0_length_8abf5 (z_rm 2 0 0) [.ref sx] M (fun r M' => r = nI n ∧ M' = M)  := by
  refine z_Mi_of _ (by decide +kernel) rfl (Nat.le_of_ble_eq_true rfl) (fun X hl hG hnm C ret => ?_)
  subst hl; subst hG
  have C : z_C X cJ0_length_8abf5 RJ0 1 (z_rm 2 0 0) := C
  show z_W X M 0 0 0 [(0, .ref sx)] []
  refine z_aload_n C dJ0_length_8abf5_0 rfl 0 rfl ?_
  refine gf_J0_9 C h_sx dJ0_length_8abf5_1 ?_
  refine z_alenB C (v := nI n) h_vb rfl dJ0_length_8abf5_4 ?_
  refine z_aload_n C dJ0_length_8abf5_5 rfl 0 rfl ?_
  refine z_callVi (rest := [.int (nI n)]) (k' := 0) (n' := 0) C (c_coderS (z_l X) (z_G X) h_sx) (cs_J0_335 C (by decide)) h_sx rfl rfl rfl rfl (Nat.le_of_ble_eq_true rfl) rfl rfl (by decide) (by decide) dJ0_length_8abf5_6 (fun x6 M' hq => ?_)
  obtain ⟨rfl, rfl⟩ := hq
  refine z_ishr C dJ0_length_8abf5_9 ?_
  rw [sb_shr0]
  exact ret dJ0_length_8abf5_10 rfl (⟨rfl, rfl⟩) (by decide) (by decide)
set_option maxRecDepth 20000 in
theorem c_J1_charAt_3b067 (l : Launch) (G : zG) {M : zM} {vb : Nat} {n : Nat} {f : Nat → Int32} {i : Nat} (h_vb : M vb = some (aB G n f)) (hi : i < n) (hn : n ≤ 65536) : z_Mi l G qJ1_charAt_3b067 (z_rm 3 0 0) [.ref vb, .int (nI i)] M (fun r M' => r = (((f i) &&& 255).toUInt32 % 65536).toInt32 ∧ M' = M)  := by
  refine z_Mi_of _ (by decide +kernel) rfl (Nat.le_of_ble_eq_true rfl) (fun X hl hG hnm C ret => ?_)
  subst hl; subst hG
  have C : z_C X cJ1_charAt_3b067 RJ1 2 (z_rm 3 0 0) := C
  show z_W X M 0 0 0 [(0, .ref vb), (1, .int (nI i))] []
  refine z_iload_n C dJ1_charAt_3b067_0 rfl 1 rfl ?_
  refine z_aload_n C dJ1_charAt_3b067_1 rfl 0 rfl ?_
  refine z_alenB C (v := nI n) h_vb rfl dJ1_charAt_3b067_2 ?_
  refine z_callSv (rest := []) (k' := 0) (n' := 0) C (c_J0_checkIndex_df160 (z_l X) (z_G X) (nI_pos' (by omega)) (nI_lt hi (by omega))) (cs_J1_9 C (by decide)) rfl rfl (Nat.le_of_ble_eq_true rfl) rfl rfl (by decide) (by decide) dJ1_charAt_3b067_3 (fun M' hq => ?_)
  obtain rfl := hq
  refine z_aload_n C dJ1_charAt_3b067_6 rfl 0 rfl ?_
  refine z_iload_n C dJ1_charAt_3b067_7 rfl 1 rfl ?_
  refine z_bald (j := i) C h_vb (nI_in hi (by omega)) (nI_clamp (by omega)) dJ1_charAt_3b067_8 ?_
  refine z_sipush C (v := 255) dJ1_charAt_3b067_9 (by decide) ?_
  refine z_iand C dJ1_charAt_3b067_12 ?_
  refine z_i2c C dJ1_charAt_3b067_13 ?_
  exact ret dJ1_charAt_3b067_14 (j_nc _) (⟨rfl, rfl⟩) (by decide) (by decide)
set_option maxRecDepth 20000 in
theorem c_J0_charAt_5068e (l : Launch) (G : zG) {M : zM} {sx : Nat} {vb : Nat} {ha : Int32} {hz : Int32} {n : Nat} {f : Nat → Int32} {i : Nat} (h_sx : M sx = some (cSt vb 0 ha hz)) (h_vb : M vb = some (aB G n f)) (hi : i < n) (hn : n ≤ 65536) : z_Mi l G qJ0_charAt_5068e (z_rm 4 0 0) [.ref sx, .int (nI i)] M (fun r M' => r = (((f i) &&& 255).toUInt32 % 65536).toInt32 ∧ M' = M)  := by
  refine z_Mi_of _ (by decide +kernel) rfl (Nat.le_of_ble_eq_true rfl) (fun X hl hG hnm C ret => ?_)
  subst hl; subst hG
  have C : z_C X cJ0_charAt_5068e RJ0 2 (z_rm 4 0 0) := C
  show z_W X M 0 0 0 [(0, .ref sx), (1, .int (nI i))] []
  refine z_aload_n C dJ0_charAt_5068e_0 rfl 0 rfl ?_
  refine z_callVi (rest := []) (k' := 0) (n' := 0) C (c_J0_isLatin1_aae02 (z_l X) (z_G X) h_sx) (cs_J0_492 C (by decide)) h_sx rfl rfl rfl rfl (Nat.le_of_ble_eq_true rfl) rfl rfl (by decide) (by decide) dJ0_charAt_5068e_1 (fun x1 M' hq => ?_)
  obtain ⟨rfl, rfl⟩ := hq
  refine z_if_eq C (tgt := 16) dJ0_charAt_5068e_4 (by decide) (fun c4 => absurd c4 (by decide)) (fun _ => ?_)
  refine z_aload_n C dJ0_charAt_5068e_7 rfl 0 rfl ?_
  refine gf_J0_9 C h_sx dJ0_charAt_5068e_8 ?_
  refine z_iload_n C dJ0_charAt_5068e_11 rfl 1 rfl ?_
  refine z_callSi (rest := []) (k' := 0) (n' := 0) C (c_J1_charAt_3b067 (z_l X) (z_G X) h_vb hi hn) (cs_J0_495 C (by decide)) rfl rfl (Nat.le_of_ble_eq_true rfl) rfl rfl (by decide) (by decide) dJ0_charAt_5068e_12 (fun x12 M' hq => ?_)
  obtain ⟨rfl, rfl⟩ := hq
  exact ret dJ0_charAt_5068e_15 (j_nc _) (⟨rfl, rfl⟩) (by decide) (by decide)
set_option maxRecDepth 20000 in
theorem c_J5_init_d00df (l : Launch) (G : zG) {M : zM} {sb : Nat}  (h_sb : M sb = some (.inr (1, [.null, .int 0, .int 0, .int 0])))  : z_Mv l G qJ5_init_d00df (z_rm 2 1 16) [.ref sb, .int 16] M (fun M' => ∃ q12 : Nat, (M) q12 = none ∧ M' = z_up (z_up M q12 (aB G 16 (fun _ => 0))) sb (.inr (1, [.ref q12, .int 0, .int 0, .int 0])))  := by
  refine z_Mv_of _ (by decide +kernel) rfl (Nat.le_of_ble_eq_true rfl) (fun X hl hG hnm C ret => ?_)
  subst hl; subst hG
  have C : z_C X cJ5_init_d00df RJ5 2 (z_rm 2 1 16) := C
  show z_W X M 0 0 0 [(0, .ref sb), (1, .int 16)] []
  refine z_aload_n C dJ5_init_d00df_0 rfl 0 rfl ?_
  refine z_objInit (rest := []) C kw103 kw32 kw33 (by decide) (Nat.le_of_ble_eq_true rfl) dJ5_init_d00df_1 ?_
  refine z_gsZ C kw104 dJ5_init_d00df_4 ?_
  refine z_if_eq C (tgt := 25) dJ5_init_d00df_7 (by decide) (fun c7 => absurd c7 (by decide)) (fun _ => ?_)
  refine z_aload_n C dJ5_init_d00df_10 rfl 0 rfl ?_
  refine z_iload_n C dJ5_init_d00df_11 rfl 1 rfl ?_
  refine z_newB (N := 16) C kw127 (by decide) (by decide) (by decide) (by decide) (by decide) dJ5_init_d00df_12 (fun q12 hq12 => ?_)
  refine z_kn (k' := 1) (n' := 16) rfl rfl ?_
  refine pr_J5_15 C rfl rfl ((z_up_n _ _ (z_neN h_sb hq12)).trans h_sb) dJ5_init_d00df_14 ?_
  refine z_aload_n C dJ5_init_d00df_17 rfl 0 rfl ?_
  refine z_iconst C (v := 0) dJ5_init_d00df_18 (by decide) ?_
  refine pq_J5_22 C rfl rfl dJ5_init_d00df_19 ?_
  refine z_goto C (tgt := 38) dJ5_init_d00df_22 (by decide) ?_
  exact ret dJ5_init_d00df_38 (⟨q12, hq12, rfl⟩) (by decide) (by decide)
set_option maxRecDepth 20000 in
theorem c_J4_init_da8c8 (l : Launch) (G : zG) {M : zM} {sb : Nat}  (h_sb : M sb = some (.inr (1, [.null, .int 0, .int 0, .int 0])))  : z_Mv l G qJ4_init_da8c8 (z_rm 3 1 16) [.ref sb] M (fun M' => ∃ q12_3 : Nat, (M) q12_3 = none ∧ M' = z_up (z_up M q12_3 (aB G 16 (fun _ => 0))) sb (.inr (1, [.ref q12_3, .int 0, .int 0, .int 0])))  := by
  refine z_Mv_of _ (by decide +kernel) rfl (Nat.le_of_ble_eq_true rfl) (fun X hl hG hnm C ret => ?_)
  subst hl; subst hG
  have C : z_C X cJ4_init_da8c8 RJ4 1 (z_rm 3 1 16) := C
  show z_W X M 0 0 0 [(0, .ref sb)] []
  refine z_aload_n C dJ4_init_da8c8_0 rfl 0 rfl ?_
  refine z_bipush C (v := 16) dJ4_init_da8c8_1 (by decide) ?_
  refine z_callI (rest := []) (k' := 1) (n' := 16) C (c_J5_init_d00df (z_l X) (z_G X) h_sb) (cs_J4_1 C (by decide)) rfl rfl (Nat.le_of_ble_eq_true rfl) rfl rfl (by decide) (by decide) dJ4_init_da8c8_3 (fun M' hq => ?_)
  obtain ⟨q12_3, hq12_3, rfl⟩ := hq
  exact ret dJ4_init_da8c8_6 (⟨q12_3, hq12_3, rfl⟩) (by decide) (by decide)
end
section
/-! PART 45: a long in digits -/
def j_dgl (v : Nat) : Nat := if v < 2 ^ 31 then sb_dg v else sb_dg (v / 100) + 2
theorem j_lT {v : Nat} (h : v < 2 ^ 62) : (-lN v).toInt = -(v : Int) := by
  rw [Int64.toInt_neg, pk_lT (by omega)]
  exact Int.bmod_eq_of_le (by omega) (by omega)
theorem j_lle {v k : Nat} {p : Int64} (hv : v < 2 ^ 62) (hk : k < 2 ^ 62) (hp : p = -lN k) : lg_cmp (-lN v) p ≤ 0 ↔ k ≤ v := by
  subst hp
  rw [lg_cmp_le, Int64.le_iff_toInt_le, j_lT hv, j_lT hk]
  omega
theorem j_lnn {v : Nat} (hv : v < 2 ^ 62) : 0 ≤ lg_cmp (lN v) 0 := by
  rw [lg_cmp_ge, Int64.le_iff_toInt_le, pk_lT (by omega)]
  show (0 : Int) ≤ _
  omega
theorem j_lgt {v k : Nat} {p : Int64} (hv : v < 2 ^ 62) (hk : k < 2 ^ 62) (hp : p = -lN k) : 0 < lg_cmp (-lN v) p ↔ v < k := by
  subst hp
  rw [lg_cmp_gt, Int64.lt_iff_toInt_lt, j_lT hv, j_lT hk]
  omega
theorem j_l2i (v : Nat) : (-lN v).toInt32 = -nI v := by rw [Int64.toInt32_neg, lN_i]
theorem j_ldiv {w : Nat} (hw : w < 2 ^ 62) : (-lN w) / 100 = -lN (w / 100) := by
  apply Int64.toInt_inj.mp
  have h100 : (100 : Int64).toInt = 100 := by decide
  rw [Int64.toInt_div, j_lT hw, h100, j_lT (by omega), Int.neg_tdiv, Int.tdiv_eq_ediv_of_nonneg (by omega), Int.bmod_eq_of_le (by omega) (by omega)]
  omega
theorem j_lrem {w : Nat} (hw : w < 2 ^ 62) : ((-lN (w / 100)) * 100 - (-lN w)).toInt32 = nI (w % 100) := by
  have e : (-lN (w / 100)) * 100 - (-lN w) = lN (w % 100) := by
    have h1 : lN w = lN (w / 100) * 100 + lN (w % 100) := by
      show lN w = lN (w / 100) * lN 100 + lN (w % 100)
      rw [lN_mul, lN_add]
      congr 1
      omega
    rw [h1, Int64.neg_mul, Int64.sub_neg, ← Int64.add_assoc, Int64.add_left_neg, Int64.zero_add]
  rw [e, lN_i]
theorem j_dgl_in {v : Nat} : 1 ≤ j_dgl v ∧ j_dgl v ≤ 12 := by
  unfold j_dgl
  have h1 := sb_dg_in v
  have h2 := sb_dg_in (v / 100)
  split <;> omega
theorem j_dgl_lo {v : Nat} (h : v < 2 ^ 31) : j_dgl v = sb_dg v := if_pos h
theorem j_dgl_hi {v : Nat} (h : ¬ v < 2 ^ 31) : j_dgl v = sb_dg (v / 100) + 2 := if_neg h
theorem j_sk1 {v : Nat} (h1 : v < 10) : sb_dg v = 1 := by
  unfold sb_dg
  (repeat' split) <;> omega
theorem j_dk1 {v : Nat} (h1 : v < 10) : j_dgl v = 1 := (j_dgl_lo (by omega)).trans (j_sk1  h1)
theorem j_sk2 {v : Nat} (h0 : 10 ≤ v) (h1 : v < 100) : sb_dg v = 2 := by
  unfold sb_dg
  (repeat' split) <;> omega
theorem j_dk2 {v : Nat} (h0 : 10 ≤ v) (h1 : v < 100) : j_dgl v = 2 := (j_dgl_lo (by omega)).trans (j_sk2 h0 h1)
theorem j_sk3 {v : Nat} (h0 : 100 ≤ v) (h1 : v < 1000) : sb_dg v = 3 := by
  unfold sb_dg
  (repeat' split) <;> omega
theorem j_dk3 {v : Nat} (h0 : 100 ≤ v) (h1 : v < 1000) : j_dgl v = 3 := (j_dgl_lo (by omega)).trans (j_sk3 h0 h1)
theorem j_sk4 {v : Nat} (h0 : 1000 ≤ v) (h1 : v < 10000) : sb_dg v = 4 := by
  unfold sb_dg
  (repeat' split) <;> omega
theorem j_dk4 {v : Nat} (h0 : 1000 ≤ v) (h1 : v < 10000) : j_dgl v = 4 := (j_dgl_lo (by omega)).trans (j_sk4 h0 h1)
theorem j_sk5 {v : Nat} (h0 : 10000 ≤ v) (h1 : v < 100000) : sb_dg v = 5 := by
  unfold sb_dg
  (repeat' split) <;> omega
theorem j_dk5 {v : Nat} (h0 : 10000 ≤ v) (h1 : v < 100000) : j_dgl v = 5 := (j_dgl_lo (by omega)).trans (j_sk5 h0 h1)
theorem j_sk6 {v : Nat} (h0 : 100000 ≤ v) (h1 : v < 1000000) : sb_dg v = 6 := by
  unfold sb_dg
  (repeat' split) <;> omega
theorem j_dk6 {v : Nat} (h0 : 100000 ≤ v) (h1 : v < 1000000) : j_dgl v = 6 := (j_dgl_lo (by omega)).trans (j_sk6 h0 h1)
theorem j_sk7 {v : Nat} (h0 : 1000000 ≤ v) (h1 : v < 10000000) : sb_dg v = 7 := by
  unfold sb_dg
  (repeat' split) <;> omega
theorem j_dk7 {v : Nat} (h0 : 1000000 ≤ v) (h1 : v < 10000000) : j_dgl v = 7 := (j_dgl_lo (by omega)).trans (j_sk7 h0 h1)
theorem j_sk8 {v : Nat} (h0 : 10000000 ≤ v) (h1 : v < 100000000) : sb_dg v = 8 := by
  unfold sb_dg
  (repeat' split) <;> omega
theorem j_dk8 {v : Nat} (h0 : 10000000 ≤ v) (h1 : v < 100000000) : j_dgl v = 8 := (j_dgl_lo (by omega)).trans (j_sk8 h0 h1)
theorem j_sk9 {v : Nat} (h0 : 100000000 ≤ v) (h1 : v < 1000000000) : sb_dg v = 9 := by
  unfold sb_dg
  (repeat' split) <;> omega
theorem j_dk9 {v : Nat} (h0 : 100000000 ≤ v) (h1 : v < 1000000000) : j_dgl v = 9 := (j_dgl_lo (by omega)).trans (j_sk9 h0 h1)
theorem j_sk10 {v : Nat} (h0 : 1000000000 ≤ v) : sb_dg v = 10 := by
  unfold sb_dg
  (repeat' split) <;> omega
theorem j_dk10 {v : Nat} (h0 : 1000000000 ≤ v) (h1 : v < 10000000000) : j_dgl v = 10 := by
  by_cases h : v < 2 ^ 31
  · exact (j_dgl_lo h).trans (j_sk10 h0)
  · rw [j_dgl_hi h, j_sk8 (v := v / 100) (by omega) (by omega)]
theorem j_dk11 {v : Nat} (h0 : 10000000000 ≤ v) (h1 : v < 35000000000) : j_dgl v = 11 := by
  rw [j_dgl_hi (by omega), j_sk9 (v := v / 100) (by omega) (by omega)]
theorem dJ13_stringSize_95d88_0 : decode cJ13_stringSize_95d88 0 = .ok (.iconst 1, 1) := by decide +kernel
theorem dJ13_stringSize_95d88_1 : decode cJ13_stringSize_95d88 1 = .ok (.istore_n 2, 1) := by decide +kernel
theorem dJ13_stringSize_95d88_2 : decode cJ13_stringSize_95d88 2 = .ok (.lload_n 0, 1) := by decide +kernel
theorem dJ13_stringSize_95d88_3 : decode cJ13_stringSize_95d88 3 = .ok (.lconst 0, 1) := by decide +kernel
theorem dJ13_stringSize_95d88_4 : decode cJ13_stringSize_95d88 4 = .ok (.lcmp, 1) := by decide +kernel
theorem dJ13_stringSize_95d88_5 : decode cJ13_stringSize_95d88 5 = .ok (.ifCond .lt 8, 3) := by decide +kernel
theorem dJ13_stringSize_95d88_8 : decode cJ13_stringSize_95d88 8 = .ok (.iconst 0, 1) := by decide +kernel
theorem dJ13_stringSize_95d88_9 : decode cJ13_stringSize_95d88 9 = .ok (.istore_n 2, 1) := by decide +kernel
theorem dJ13_stringSize_95d88_10 : decode cJ13_stringSize_95d88 10 = .ok (.lload_n 0, 1) := by decide +kernel
theorem dJ13_stringSize_95d88_11 : decode cJ13_stringSize_95d88 11 = .ok (.lneg, 1) := by decide +kernel
theorem dJ13_stringSize_95d88_12 : decode cJ13_stringSize_95d88 12 = .ok (.lstore_n 0, 1) := by decide +kernel
theorem dJ13_stringSize_95d88_13 : decode cJ13_stringSize_95d88 13 = .ok (.ldc2_w 140, 3) := by decide +kernel
theorem dJ13_stringSize_95d88_16 : decode cJ13_stringSize_95d88 16 = .ok (.lstore_n 3, 1) := by decide +kernel
theorem dJ13_stringSize_95d88_17 : decode cJ13_stringSize_95d88 17 = .ok (.iconst 1, 1) := by decide +kernel
theorem dJ13_stringSize_95d88_18 : decode cJ13_stringSize_95d88 18 = .ok (.istore 5, 2) := by decide +kernel
theorem dJ13_stringSize_95d88_20 : decode cJ13_stringSize_95d88 20 = .ok (.iload 5, 2) := by decide +kernel
theorem dJ13_stringSize_95d88_22 : decode cJ13_stringSize_95d88 22 = .ok (.bipush 19, 2) := by decide +kernel
theorem dJ13_stringSize_95d88_24 : decode cJ13_stringSize_95d88 24 = .ok (.if_icmp .ge 26, 3) := by decide +kernel
theorem dJ13_stringSize_95d88_27 : decode cJ13_stringSize_95d88 27 = .ok (.lload_n 0, 1) := by decide +kernel
theorem dJ13_stringSize_95d88_28 : decode cJ13_stringSize_95d88 28 = .ok (.lload_n 3, 1) := by decide +kernel
theorem dJ13_stringSize_95d88_29 : decode cJ13_stringSize_95d88 29 = .ok (.lcmp, 1) := by decide +kernel
theorem dJ13_stringSize_95d88_30 : decode cJ13_stringSize_95d88 30 = .ok (.ifCond .le 8, 3) := by decide +kernel
theorem dJ13_stringSize_95d88_33 : decode cJ13_stringSize_95d88 33 = .ok (.iload 5, 2) := by decide +kernel
theorem dJ13_stringSize_95d88_35 : decode cJ13_stringSize_95d88 35 = .ok (.iload_n 2, 1) := by decide +kernel
theorem dJ13_stringSize_95d88_36 : decode cJ13_stringSize_95d88 36 = .ok (.iadd, 1) := by decide +kernel
theorem dJ13_stringSize_95d88_37 : decode cJ13_stringSize_95d88 37 = .ok (.ireturn, 1) := by decide +kernel
theorem dJ13_stringSize_95d88_38 : decode cJ13_stringSize_95d88 38 = .ok (.ldc2_w 53, 3) := by decide +kernel
theorem dJ13_stringSize_95d88_41 : decode cJ13_stringSize_95d88 41 = .ok (.lload_n 3, 1) := by decide +kernel
theorem dJ13_stringSize_95d88_42 : decode cJ13_stringSize_95d88 42 = .ok (.lmul, 1) := by decide +kernel
theorem dJ13_stringSize_95d88_43 : decode cJ13_stringSize_95d88 43 = .ok (.lstore_n 3, 1) := by decide +kernel
theorem dJ13_stringSize_95d88_44 : decode cJ13_stringSize_95d88 44 = .ok (.iinc 5 1, 3) := by decide +kernel
theorem dJ13_stringSize_95d88_47 : decode cJ13_stringSize_95d88 47 = .ok (.goto (-27), 3) := by decide +kernel
theorem dJ13_getChars_11360_0 : decode cJ13_getChars_11360 0 = .ok (.iload_n 2, 1) := by decide +kernel
theorem dJ13_getChars_11360_1 : decode cJ13_getChars_11360 1 = .ok (.istore 7, 2) := by decide +kernel
theorem dJ13_getChars_11360_3 : decode cJ13_getChars_11360 3 = .ok (.lload_n 0, 1) := by decide +kernel
theorem dJ13_getChars_11360_4 : decode cJ13_getChars_11360 4 = .ok (.lconst 0, 1) := by decide +kernel
theorem dJ13_getChars_11360_5 : decode cJ13_getChars_11360 5 = .ok (.lcmp, 1) := by decide +kernel
theorem dJ13_getChars_11360_6 : decode cJ13_getChars_11360 6 = .ok (.ifCond .ge 7, 3) := by decide +kernel
theorem dJ13_getChars_11360_13 : decode cJ13_getChars_11360 13 = .ok (.iconst 0, 1) := by decide +kernel
theorem dJ13_getChars_11360_14 : decode cJ13_getChars_11360 14 = .ok (.istore 8, 2) := by decide +kernel
theorem dJ13_getChars_11360_16 : decode cJ13_getChars_11360 16 = .ok (.iload 8, 2) := by decide +kernel
theorem dJ13_getChars_11360_18 : decode cJ13_getChars_11360 18 = .ok (.ifCond .ne 6, 3) := by decide +kernel
theorem dJ13_getChars_11360_21 : decode cJ13_getChars_11360 21 = .ok (.lload_n 0, 1) := by decide +kernel
theorem dJ13_getChars_11360_22 : decode cJ13_getChars_11360 22 = .ok (.lneg, 1) := by decide +kernel
theorem dJ13_getChars_11360_23 : decode cJ13_getChars_11360 23 = .ok (.lstore_n 0, 1) := by decide +kernel
theorem dJ13_getChars_11360_24 : decode cJ13_getChars_11360 24 = .ok (.lload_n 0, 1) := by decide +kernel
theorem dJ13_getChars_11360_25 : decode cJ13_getChars_11360 25 = .ok (.ldc2_w 129, 3) := by decide +kernel
theorem dJ13_getChars_11360_28 : decode cJ13_getChars_11360 28 = .ok (.lcmp, 1) := by decide +kernel
theorem dJ13_getChars_11360_29 : decode cJ13_getChars_11360 29 = .ok (.ifCond .gt 53, 3) := by decide +kernel
theorem dJ13_getChars_11360_32 : decode cJ13_getChars_11360 32 = .ok (.lload_n 0, 1) := by decide +kernel
theorem dJ13_getChars_11360_33 : decode cJ13_getChars_11360 33 = .ok (.ldc2_w 131, 3) := by decide +kernel
theorem dJ13_getChars_11360_36 : decode cJ13_getChars_11360 36 = .ok (.ldiv, 1) := by decide +kernel
theorem dJ13_getChars_11360_37 : decode cJ13_getChars_11360 37 = .ok (.lstore 4, 2) := by decide +kernel
theorem dJ13_getChars_11360_39 : decode cJ13_getChars_11360 39 = .ok (.lload 4, 2) := by decide +kernel
theorem dJ13_getChars_11360_41 : decode cJ13_getChars_11360 41 = .ok (.ldc2_w 131, 3) := by decide +kernel
theorem dJ13_getChars_11360_44 : decode cJ13_getChars_11360 44 = .ok (.lmul, 1) := by decide +kernel
theorem dJ13_getChars_11360_45 : decode cJ13_getChars_11360 45 = .ok (.lload_n 0, 1) := by decide +kernel
theorem dJ13_getChars_11360_46 : decode cJ13_getChars_11360 46 = .ok (.lsub, 1) := by decide +kernel
theorem dJ13_getChars_11360_47 : decode cJ13_getChars_11360 47 = .ok (.l2i, 1) := by decide +kernel
theorem dJ13_getChars_11360_48 : decode cJ13_getChars_11360 48 = .ok (.istore 6, 2) := by decide +kernel
theorem dJ13_getChars_11360_50 : decode cJ13_getChars_11360 50 = .ok (.lload 4, 2) := by decide +kernel
theorem dJ13_getChars_11360_52 : decode cJ13_getChars_11360 52 = .ok (.lstore_n 0, 1) := by decide +kernel
theorem dJ13_getChars_11360_53 : decode cJ13_getChars_11360 53 = .ok (.aload_n 3, 1) := by decide +kernel
theorem dJ13_getChars_11360_54 : decode cJ13_getChars_11360 54 = .ok (.iinc 7 (-1), 3) := by decide +kernel
theorem dJ13_getChars_11360_57 : decode cJ13_getChars_11360 57 = .ok (.iload 7, 2) := by decide +kernel
theorem dJ13_getChars_11360_59 : decode cJ13_getChars_11360 59 = .ok (.getstatic 133, 3) := by decide +kernel
theorem dJ13_getChars_11360_62 : decode cJ13_getChars_11360 62 = .ok (.iload 6, 2) := by decide +kernel
theorem dJ13_getChars_11360_64 : decode cJ13_getChars_11360 64 = .ok (.baload, 1) := by decide +kernel
theorem dJ13_getChars_11360_65 : decode cJ13_getChars_11360 65 = .ok (.bastore, 1) := by decide +kernel
theorem dJ13_getChars_11360_66 : decode cJ13_getChars_11360 66 = .ok (.aload_n 3, 1) := by decide +kernel
theorem dJ13_getChars_11360_67 : decode cJ13_getChars_11360 67 = .ok (.iinc 7 (-1), 3) := by decide +kernel
theorem dJ13_getChars_11360_70 : decode cJ13_getChars_11360 70 = .ok (.iload 7, 2) := by decide +kernel
theorem dJ13_getChars_11360_72 : decode cJ13_getChars_11360 72 = .ok (.getstatic 137, 3) := by decide +kernel
theorem dJ13_getChars_11360_75 : decode cJ13_getChars_11360 75 = .ok (.iload 6, 2) := by decide +kernel
theorem dJ13_getChars_11360_77 : decode cJ13_getChars_11360 77 = .ok (.baload, 1) := by decide +kernel
theorem dJ13_getChars_11360_78 : decode cJ13_getChars_11360 78 = .ok (.bastore, 1) := by decide +kernel
theorem dJ13_getChars_11360_79 : decode cJ13_getChars_11360 79 = .ok (.goto (-55), 3) := by decide +kernel
theorem dJ13_getChars_11360_82 : decode cJ13_getChars_11360 82 = .ok (.lload_n 0, 1) := by decide +kernel
theorem dJ13_getChars_11360_83 : decode cJ13_getChars_11360 83 = .ok (.l2i, 1) := by decide +kernel
theorem dJ13_getChars_11360_84 : decode cJ13_getChars_11360 84 = .ok (.istore 10, 2) := by decide +kernel
theorem dJ13_getChars_11360_86 : decode cJ13_getChars_11360 86 = .ok (.iload 10, 2) := by decide +kernel
theorem dJ13_getChars_11360_88 : decode cJ13_getChars_11360 88 = .ok (.bipush (-100), 2) := by decide +kernel
theorem dJ13_getChars_11360_90 : decode cJ13_getChars_11360 90 = .ok (.if_icmp .gt 53, 3) := by decide +kernel
theorem dJ13_getChars_11360_93 : decode cJ13_getChars_11360 93 = .ok (.iload 10, 2) := by decide +kernel
theorem dJ13_getChars_11360_95 : decode cJ13_getChars_11360 95 = .ok (.bipush 100, 2) := by decide +kernel
theorem dJ13_getChars_11360_97 : decode cJ13_getChars_11360 97 = .ok (.idiv, 1) := by decide +kernel
theorem dJ13_getChars_11360_98 : decode cJ13_getChars_11360 98 = .ok (.istore 9, 2) := by decide +kernel
theorem dJ13_getChars_11360_100 : decode cJ13_getChars_11360 100 = .ok (.iload 9, 2) := by decide +kernel
theorem dJ13_getChars_11360_102 : decode cJ13_getChars_11360 102 = .ok (.bipush 100, 2) := by decide +kernel
theorem dJ13_getChars_11360_104 : decode cJ13_getChars_11360 104 = .ok (.imul, 1) := by decide +kernel
theorem dJ13_getChars_11360_105 : decode cJ13_getChars_11360 105 = .ok (.iload 10, 2) := by decide +kernel
theorem dJ13_getChars_11360_107 : decode cJ13_getChars_11360 107 = .ok (.isub, 1) := by decide +kernel
theorem dJ13_getChars_11360_108 : decode cJ13_getChars_11360 108 = .ok (.istore 6, 2) := by decide +kernel
theorem dJ13_getChars_11360_110 : decode cJ13_getChars_11360 110 = .ok (.iload 9, 2) := by decide +kernel
theorem dJ13_getChars_11360_112 : decode cJ13_getChars_11360 112 = .ok (.istore 10, 2) := by decide +kernel
theorem dJ13_getChars_11360_114 : decode cJ13_getChars_11360 114 = .ok (.aload_n 3, 1) := by decide +kernel
theorem dJ13_getChars_11360_115 : decode cJ13_getChars_11360 115 = .ok (.iinc 7 (-1), 3) := by decide +kernel
theorem dJ13_getChars_11360_118 : decode cJ13_getChars_11360 118 = .ok (.iload 7, 2) := by decide +kernel
theorem dJ13_getChars_11360_120 : decode cJ13_getChars_11360 120 = .ok (.getstatic 133, 3) := by decide +kernel
theorem dJ13_getChars_11360_123 : decode cJ13_getChars_11360 123 = .ok (.iload 6, 2) := by decide +kernel
theorem dJ13_getChars_11360_125 : decode cJ13_getChars_11360 125 = .ok (.baload, 1) := by decide +kernel
theorem dJ13_getChars_11360_126 : decode cJ13_getChars_11360 126 = .ok (.bastore, 1) := by decide +kernel
theorem dJ13_getChars_11360_127 : decode cJ13_getChars_11360 127 = .ok (.aload_n 3, 1) := by decide +kernel
theorem dJ13_getChars_11360_128 : decode cJ13_getChars_11360 128 = .ok (.iinc 7 (-1), 3) := by decide +kernel
theorem dJ13_getChars_11360_131 : decode cJ13_getChars_11360 131 = .ok (.iload 7, 2) := by decide +kernel
theorem dJ13_getChars_11360_133 : decode cJ13_getChars_11360 133 = .ok (.getstatic 137, 3) := by decide +kernel
theorem dJ13_getChars_11360_136 : decode cJ13_getChars_11360 136 = .ok (.iload 6, 2) := by decide +kernel
theorem dJ13_getChars_11360_138 : decode cJ13_getChars_11360 138 = .ok (.baload, 1) := by decide +kernel
theorem dJ13_getChars_11360_139 : decode cJ13_getChars_11360 139 = .ok (.bastore, 1) := by decide +kernel
theorem dJ13_getChars_11360_140 : decode cJ13_getChars_11360 140 = .ok (.goto (-54), 3) := by decide +kernel
theorem dJ13_getChars_11360_143 : decode cJ13_getChars_11360 143 = .ok (.aload_n 3, 1) := by decide +kernel
theorem dJ13_getChars_11360_144 : decode cJ13_getChars_11360 144 = .ok (.iinc 7 (-1), 3) := by decide +kernel
theorem dJ13_getChars_11360_147 : decode cJ13_getChars_11360 147 = .ok (.iload 7, 2) := by decide +kernel
theorem dJ13_getChars_11360_149 : decode cJ13_getChars_11360 149 = .ok (.getstatic 133, 3) := by decide +kernel
theorem dJ13_getChars_11360_152 : decode cJ13_getChars_11360 152 = .ok (.iload 10, 2) := by decide +kernel
theorem dJ13_getChars_11360_154 : decode cJ13_getChars_11360 154 = .ok (.ineg, 1) := by decide +kernel
theorem dJ13_getChars_11360_155 : decode cJ13_getChars_11360 155 = .ok (.baload, 1) := by decide +kernel
theorem dJ13_getChars_11360_156 : decode cJ13_getChars_11360 156 = .ok (.bastore, 1) := by decide +kernel
theorem dJ13_getChars_11360_157 : decode cJ13_getChars_11360 157 = .ok (.iload 10, 2) := by decide +kernel
theorem dJ13_getChars_11360_159 : decode cJ13_getChars_11360 159 = .ok (.bipush (-9), 2) := by decide +kernel
theorem dJ13_getChars_11360_161 : decode cJ13_getChars_11360 161 = .ok (.if_icmp .ge 17, 3) := by decide +kernel
theorem dJ13_getChars_11360_164 : decode cJ13_getChars_11360 164 = .ok (.aload_n 3, 1) := by decide +kernel
theorem dJ13_getChars_11360_165 : decode cJ13_getChars_11360 165 = .ok (.iinc 7 (-1), 3) := by decide +kernel
theorem dJ13_getChars_11360_168 : decode cJ13_getChars_11360 168 = .ok (.iload 7, 2) := by decide +kernel
theorem dJ13_getChars_11360_170 : decode cJ13_getChars_11360 170 = .ok (.getstatic 137, 3) := by decide +kernel
theorem dJ13_getChars_11360_173 : decode cJ13_getChars_11360 173 = .ok (.iload 10, 2) := by decide +kernel
theorem dJ13_getChars_11360_175 : decode cJ13_getChars_11360 175 = .ok (.ineg, 1) := by decide +kernel
theorem dJ13_getChars_11360_176 : decode cJ13_getChars_11360 176 = .ok (.baload, 1) := by decide +kernel
theorem dJ13_getChars_11360_177 : decode cJ13_getChars_11360 177 = .ok (.bastore, 1) := by decide +kernel
theorem dJ13_getChars_11360_178 : decode cJ13_getChars_11360 178 = .ok (.iload 8, 2) := by decide +kernel
theorem dJ13_getChars_11360_180 : decode cJ13_getChars_11360 180 = .ok (.ifCond .eq 12, 3) := by decide +kernel
theorem dJ13_getChars_11360_192 : decode cJ13_getChars_11360 192 = .ok (.iload 7, 2) := by decide +kernel
theorem dJ13_getChars_11360_194 : decode cJ13_getChars_11360 194 = .ok (.ireturn, 1) := by decide +kernel
theorem dJ5_append_66267_0 : decode cJ5_append_66267 0 = .ok (.aload_n 0, 1) := by decide +kernel
theorem dJ5_append_66267_1 : decode cJ5_append_66267 1 = .ok (.getfield 79, 3) := by decide +kernel
theorem dJ5_append_66267_4 : decode cJ5_append_66267 4 = .ok (.istore_n 3, 1) := by decide +kernel
theorem dJ5_append_66267_5 : decode cJ5_append_66267 5 = .ok (.iload_n 3, 1) := by decide +kernel
theorem dJ5_append_66267_6 : decode cJ5_append_66267 6 = .ok (.lload_n 1, 1) := by decide +kernel
theorem dJ5_append_66267_7 : decode cJ5_append_66267 7 = .ok (.invokestatic 254, 3) := by decide +kernel
theorem dJ5_append_66267_10 : decode cJ5_append_66267 10 = .ok (.iadd, 1) := by decide +kernel
theorem dJ5_append_66267_11 : decode cJ5_append_66267 11 = .ok (.istore 4, 2) := by decide +kernel
theorem dJ5_append_66267_13 : decode cJ5_append_66267 13 = .ok (.aload_n 0, 1) := by decide +kernel
theorem dJ5_append_66267_14 : decode cJ5_append_66267 14 = .ok (.iload 4, 2) := by decide +kernel
theorem dJ5_append_66267_16 : decode cJ5_append_66267 16 = .ok (.invokevirtual 100, 3) := by decide +kernel
theorem dJ5_append_66267_19 : decode cJ5_append_66267 19 = .ok (.aload_n 0, 1) := by decide +kernel
theorem dJ5_append_66267_20 : decode cJ5_append_66267 20 = .ok (.invokevirtual 83, 3) := by decide +kernel
theorem dJ5_append_66267_23 : decode cJ5_append_66267 23 = .ok (.ifCond .eq 17, 3) := by decide +kernel
theorem dJ5_append_66267_26 : decode cJ5_append_66267 26 = .ok (.lload_n 1, 1) := by decide +kernel
theorem dJ5_append_66267_27 : decode cJ5_append_66267 27 = .ok (.iload 4, 2) := by decide +kernel
theorem dJ5_append_66267_29 : decode cJ5_append_66267 29 = .ok (.aload_n 0, 1) := by decide +kernel
theorem dJ5_append_66267_30 : decode cJ5_append_66267 30 = .ok (.getfield 15, 3) := by decide +kernel
theorem dJ5_append_66267_33 : decode cJ5_append_66267 33 = .ok (.invokestatic 259, 3) := by decide +kernel
theorem dJ5_append_66267_36 : decode cJ5_append_66267 36 = .ok (.pop, 1) := by decide +kernel
theorem dJ5_append_66267_37 : decode cJ5_append_66267 37 = .ok (.goto 15, 3) := by decide +kernel
theorem dJ5_append_66267_52 : decode cJ5_append_66267 52 = .ok (.aload_n 0, 1) := by decide +kernel
theorem dJ5_append_66267_53 : decode cJ5_append_66267 53 = .ok (.iload 4, 2) := by decide +kernel
theorem dJ5_append_66267_55 : decode cJ5_append_66267 55 = .ok (.putfield 79, 3) := by decide +kernel
theorem dJ5_append_66267_58 : decode cJ5_append_66267 58 = .ok (.aload_n 0, 1) := by decide +kernel
theorem dJ5_append_66267_59 : decode cJ5_append_66267 59 = .ok (.areturn, 1) := by decide +kernel
theorem dJ4_append_f7089_0 : decode cJ4_append_f7089 0 = .ok (.aload_n 0, 1) := by decide +kernel
theorem dJ4_append_f7089_1 : decode cJ4_append_f7089 1 = .ok (.lload_n 1, 1) := by decide +kernel
theorem dJ4_append_f7089_2 : decode cJ4_append_f7089 2 = .ok (.invokespecial 56, 3) := by decide +kernel
theorem dJ4_append_f7089_5 : decode cJ4_append_f7089 5 = .ok (.pop, 1) := by decide +kernel
theorem dJ4_append_f7089_6 : decode cJ4_append_f7089 6 = .ok (.aload_n 0, 1) := by decide +kernel
theorem dJ4_append_f7089_7 : decode cJ4_append_f7089 7 = .ok (.areturn, 1) := by decide +kernel
set_option maxRecDepth 20000 in
theorem c_J13_stringSize_95d88 (l : Launch) (G : zG) {M : zM}  {v : Nat}  (hv : v < 35000000000) : z_Mi l G qJ13_stringSize_95d88 (z_rm 1 0 0) [.long (lN v)] M (fun r M' => r = nI (j_dgl v) ∧ M' = M)  := by
  refine z_Mi_of _ (by decide +kernel) rfl (Nat.le_of_ble_eq_true rfl) (fun X hl hG hnm C ret => ?_)
  subst hl; subst hG
  have C : z_C X cJ13_stringSize_95d88 RJ13 6 (z_rm 1 0 0) := C
  show z_W X M 0 0 0 [(0, .long (lN v))] []
  have hv62 : v < 2 ^ 62 := by omega
  refine z_iconst C (v := 1) dJ13_stringSize_95d88_0 (by decide) ?_
  refine z_istore_n (lv' := [(2, .int 1), (0, .long (lN v))]) C dJ13_stringSize_95d88_1 rfl (by decide) rfl ?_
  refine z_lload_n C dJ13_stringSize_95d88_2 rfl 1 rfl ?_
  refine z_lconst C (v := 0) dJ13_stringSize_95d88_3 (by decide) ?_
  refine z_lcmp C dJ13_stringSize_95d88_4 ?_
  refine z_if_lt C (tgt := 13) dJ13_stringSize_95d88_5 (by decide) (fun c5 => absurd c5 (Int32.not_lt.mpr (j_lnn hv62))) (fun _ => ?_)
  refine z_iconst C (v := 0) dJ13_stringSize_95d88_8 (by decide) ?_
  refine z_istore_n (lv' := [(2, .int 0), (0, .long (lN v))]) C dJ13_stringSize_95d88_9 rfl (by decide) rfl ?_
  refine z_lload_n C dJ13_stringSize_95d88_10 rfl 1 rfl ?_
  refine z_lneg C dJ13_stringSize_95d88_11 ?_
  refine z_lstore_n (lv' := [(0, .long (-(lN v))), (2, .int 0)]) C dJ13_stringSize_95d88_12 rfl (by decide) rfl ?_
  refine z_ldc2 C (v := (-10)) kw1270 dJ13_stringSize_95d88_13 ?_
  refine z_lstore_n (lv' := [(3, .long (-10)), (0, .long (-(lN v))), (2, .int 0)]) C dJ13_stringSize_95d88_16 rfl (by decide) rfl ?_
  refine z_iconst C (v := 1) dJ13_stringSize_95d88_17 (by decide) ?_
  refine z_istore (lv' := [(5, .int 1), (3, .long (-10)), (0, .long (-(lN v))), (2, .int 0)]) C dJ13_stringSize_95d88_18 (by decide) rfl ?_
  refine z_iload C dJ13_stringSize_95d88_20 0 rfl ?_
  refine z_bipush C (v := 19) dJ13_stringSize_95d88_22 (by decide) ?_
  refine z_icmp_ge C (tgt := 50) dJ13_stringSize_95d88_24 (by decide) (fun c24 => absurd c24 (by decide)) (fun _ => ?_)
  refine z_lload_n C dJ13_stringSize_95d88_27 rfl 2 rfl ?_
  refine z_lload_n C dJ13_stringSize_95d88_28 rfl 1 rfl ?_
  refine z_lcmp C dJ13_stringSize_95d88_29 ?_
  refine z_if_le C (tgt := 38) dJ13_stringSize_95d88_30 (by decide) (fun c30 => ?_) (fun c30 => ?_)
  · have e1 := (j_lle (k := 10) hv62 (by decide) (by decide)).mp c30
    refine z_ldc2 C (v := 10) kw1271 dJ13_stringSize_95d88_38 ?_
    refine z_lload_n C dJ13_stringSize_95d88_41 rfl 1 rfl ?_
    refine z_lmul C dJ13_stringSize_95d88_42 ?_
    rw [show ((10 * (-10)) : Int64) = (-100) from (by decide)]
    refine z_lstore_n (lv' := [(3, .long (-100)), (5, .int 1), (0, .long (-(lN v))), (2, .int 0)]) C dJ13_stringSize_95d88_43 rfl (by decide) rfl ?_
    refine z_iinc (v := 2) (lv' := [(5, .int 2), (3, .long (-100)), (0, .long (-(lN v))), (2, .int 0)]) C dJ13_stringSize_95d88_44 1 rfl (by decide) (by decide) rfl ?_
    refine z_goto C (tgt := 20) dJ13_stringSize_95d88_47 (by decide) ?_
    refine z_iload C dJ13_stringSize_95d88_20 0 rfl ?_
    refine z_bipush C (v := 19) dJ13_stringSize_95d88_22 (by decide) ?_
    refine z_icmp_ge C (tgt := 50) dJ13_stringSize_95d88_24 (by decide) (fun c24 => absurd c24 (by decide)) (fun _ => ?_)
    refine z_lload_n C dJ13_stringSize_95d88_27 rfl 2 rfl ?_
    refine z_lload_n C dJ13_stringSize_95d88_28 rfl 1 rfl ?_
    refine z_lcmp C dJ13_stringSize_95d88_29 ?_
    refine z_if_le C (tgt := 38) dJ13_stringSize_95d88_30 (by decide) (fun c30 => ?_) (fun c30 => ?_)
    · have e2 := (j_lle (k := 100) hv62 (by decide) (by decide)).mp c30
      refine z_ldc2 C (v := 10) kw1271 dJ13_stringSize_95d88_38 ?_
      refine z_lload_n C dJ13_stringSize_95d88_41 rfl 1 rfl ?_
      refine z_lmul C dJ13_stringSize_95d88_42 ?_
      rw [show ((10 * (-100)) : Int64) = (-1000) from (by decide)]
      refine z_lstore_n (lv' := [(3, .long (-1000)), (5, .int 2), (0, .long (-(lN v))), (2, .int 0)]) C dJ13_stringSize_95d88_43 rfl (by decide) rfl ?_
      refine z_iinc (v := 3) (lv' := [(5, .int 3), (3, .long (-1000)), (0, .long (-(lN v))), (2, .int 0)]) C dJ13_stringSize_95d88_44 1 rfl (by decide) (by decide) rfl ?_
      refine z_goto C (tgt := 20) dJ13_stringSize_95d88_47 (by decide) ?_
      refine z_iload C dJ13_stringSize_95d88_20 0 rfl ?_
      refine z_bipush C (v := 19) dJ13_stringSize_95d88_22 (by decide) ?_
      refine z_icmp_ge C (tgt := 50) dJ13_stringSize_95d88_24 (by decide) (fun c24 => absurd c24 (by decide)) (fun _ => ?_)
      refine z_lload_n C dJ13_stringSize_95d88_27 rfl 2 rfl ?_
      refine z_lload_n C dJ13_stringSize_95d88_28 rfl 1 rfl ?_
      refine z_lcmp C dJ13_stringSize_95d88_29 ?_
      refine z_if_le C (tgt := 38) dJ13_stringSize_95d88_30 (by decide) (fun c30 => ?_) (fun c30 => ?_)
      · have e3 := (j_lle (k := 1000) hv62 (by decide) (by decide)).mp c30
        refine z_ldc2 C (v := 10) kw1271 dJ13_stringSize_95d88_38 ?_
        refine z_lload_n C dJ13_stringSize_95d88_41 rfl 1 rfl ?_
        refine z_lmul C dJ13_stringSize_95d88_42 ?_
        rw [show ((10 * (-1000)) : Int64) = (-10000) from (by decide)]
        refine z_lstore_n (lv' := [(3, .long (-10000)), (5, .int 3), (0, .long (-(lN v))), (2, .int 0)]) C dJ13_stringSize_95d88_43 rfl (by decide) rfl ?_
        refine z_iinc (v := 4) (lv' := [(5, .int 4), (3, .long (-10000)), (0, .long (-(lN v))), (2, .int 0)]) C dJ13_stringSize_95d88_44 1 rfl (by decide) (by decide) rfl ?_
        refine z_goto C (tgt := 20) dJ13_stringSize_95d88_47 (by decide) ?_
        refine z_iload C dJ13_stringSize_95d88_20 0 rfl ?_
        refine z_bipush C (v := 19) dJ13_stringSize_95d88_22 (by decide) ?_
        refine z_icmp_ge C (tgt := 50) dJ13_stringSize_95d88_24 (by decide) (fun c24 => absurd c24 (by decide)) (fun _ => ?_)
        refine z_lload_n C dJ13_stringSize_95d88_27 rfl 2 rfl ?_
        refine z_lload_n C dJ13_stringSize_95d88_28 rfl 1 rfl ?_
        refine z_lcmp C dJ13_stringSize_95d88_29 ?_
        refine z_if_le C (tgt := 38) dJ13_stringSize_95d88_30 (by decide) (fun c30 => ?_) (fun c30 => ?_)
        · have e4 := (j_lle (k := 10000) hv62 (by decide) (by decide)).mp c30
          refine z_ldc2 C (v := 10) kw1271 dJ13_stringSize_95d88_38 ?_
          refine z_lload_n C dJ13_stringSize_95d88_41 rfl 1 rfl ?_
          refine z_lmul C dJ13_stringSize_95d88_42 ?_
          rw [show ((10 * (-10000)) : Int64) = (-100000) from (by decide)]
          refine z_lstore_n (lv' := [(3, .long (-100000)), (5, .int 4), (0, .long (-(lN v))), (2, .int 0)]) C dJ13_stringSize_95d88_43 rfl (by decide) rfl ?_
          refine z_iinc (v := 5) (lv' := [(5, .int 5), (3, .long (-100000)), (0, .long (-(lN v))), (2, .int 0)]) C dJ13_stringSize_95d88_44 1 rfl (by decide) (by decide) rfl ?_
          refine z_goto C (tgt := 20) dJ13_stringSize_95d88_47 (by decide) ?_
          refine z_iload C dJ13_stringSize_95d88_20 0 rfl ?_
          refine z_bipush C (v := 19) dJ13_stringSize_95d88_22 (by decide) ?_
          refine z_icmp_ge C (tgt := 50) dJ13_stringSize_95d88_24 (by decide) (fun c24 => absurd c24 (by decide)) (fun _ => ?_)
          refine z_lload_n C dJ13_stringSize_95d88_27 rfl 2 rfl ?_
          refine z_lload_n C dJ13_stringSize_95d88_28 rfl 1 rfl ?_
          refine z_lcmp C dJ13_stringSize_95d88_29 ?_
          refine z_if_le C (tgt := 38) dJ13_stringSize_95d88_30 (by decide) (fun c30 => ?_) (fun c30 => ?_)
          · have e5 := (j_lle (k := 100000) hv62 (by decide) (by decide)).mp c30
            refine z_ldc2 C (v := 10) kw1271 dJ13_stringSize_95d88_38 ?_
            refine z_lload_n C dJ13_stringSize_95d88_41 rfl 1 rfl ?_
            refine z_lmul C dJ13_stringSize_95d88_42 ?_
            rw [show ((10 * (-100000)) : Int64) = (-1000000) from (by decide)]
            refine z_lstore_n (lv' := [(3, .long (-1000000)), (5, .int 5), (0, .long (-(lN v))), (2, .int 0)]) C dJ13_stringSize_95d88_43 rfl (by decide) rfl ?_
            refine z_iinc (v := 6) (lv' := [(5, .int 6), (3, .long (-1000000)), (0, .long (-(lN v))), (2, .int 0)]) C dJ13_stringSize_95d88_44 1 rfl (by decide) (by decide) rfl ?_
            refine z_goto C (tgt := 20) dJ13_stringSize_95d88_47 (by decide) ?_
            refine z_iload C dJ13_stringSize_95d88_20 0 rfl ?_
            refine z_bipush C (v := 19) dJ13_stringSize_95d88_22 (by decide) ?_
            refine z_icmp_ge C (tgt := 50) dJ13_stringSize_95d88_24 (by decide) (fun c24 => absurd c24 (by decide)) (fun _ => ?_)
            refine z_lload_n C dJ13_stringSize_95d88_27 rfl 2 rfl ?_
            refine z_lload_n C dJ13_stringSize_95d88_28 rfl 1 rfl ?_
            refine z_lcmp C dJ13_stringSize_95d88_29 ?_
            refine z_if_le C (tgt := 38) dJ13_stringSize_95d88_30 (by decide) (fun c30 => ?_) (fun c30 => ?_)
            · have e6 := (j_lle (k := 1000000) hv62 (by decide) (by decide)).mp c30
              refine z_ldc2 C (v := 10) kw1271 dJ13_stringSize_95d88_38 ?_
              refine z_lload_n C dJ13_stringSize_95d88_41 rfl 1 rfl ?_
              refine z_lmul C dJ13_stringSize_95d88_42 ?_
              rw [show ((10 * (-1000000)) : Int64) = (-10000000) from (by decide)]
              refine z_lstore_n (lv' := [(3, .long (-10000000)), (5, .int 6), (0, .long (-(lN v))), (2, .int 0)]) C dJ13_stringSize_95d88_43 rfl (by decide) rfl ?_
              refine z_iinc (v := 7) (lv' := [(5, .int 7), (3, .long (-10000000)), (0, .long (-(lN v))), (2, .int 0)]) C dJ13_stringSize_95d88_44 1 rfl (by decide) (by decide) rfl ?_
              refine z_goto C (tgt := 20) dJ13_stringSize_95d88_47 (by decide) ?_
              refine z_iload C dJ13_stringSize_95d88_20 0 rfl ?_
              refine z_bipush C (v := 19) dJ13_stringSize_95d88_22 (by decide) ?_
              refine z_icmp_ge C (tgt := 50) dJ13_stringSize_95d88_24 (by decide) (fun c24 => absurd c24 (by decide)) (fun _ => ?_)
              refine z_lload_n C dJ13_stringSize_95d88_27 rfl 2 rfl ?_
              refine z_lload_n C dJ13_stringSize_95d88_28 rfl 1 rfl ?_
              refine z_lcmp C dJ13_stringSize_95d88_29 ?_
              refine z_if_le C (tgt := 38) dJ13_stringSize_95d88_30 (by decide) (fun c30 => ?_) (fun c30 => ?_)
              · have e7 := (j_lle (k := 10000000) hv62 (by decide) (by decide)).mp c30
                refine z_ldc2 C (v := 10) kw1271 dJ13_stringSize_95d88_38 ?_
                refine z_lload_n C dJ13_stringSize_95d88_41 rfl 1 rfl ?_
                refine z_lmul C dJ13_stringSize_95d88_42 ?_
                rw [show ((10 * (-10000000)) : Int64) = (-100000000) from (by decide)]
                refine z_lstore_n (lv' := [(3, .long (-100000000)), (5, .int 7), (0, .long (-(lN v))), (2, .int 0)]) C dJ13_stringSize_95d88_43 rfl (by decide) rfl ?_
                refine z_iinc (v := 8) (lv' := [(5, .int 8), (3, .long (-100000000)), (0, .long (-(lN v))), (2, .int 0)]) C dJ13_stringSize_95d88_44 1 rfl (by decide) (by decide) rfl ?_
                refine z_goto C (tgt := 20) dJ13_stringSize_95d88_47 (by decide) ?_
                refine z_iload C dJ13_stringSize_95d88_20 0 rfl ?_
                refine z_bipush C (v := 19) dJ13_stringSize_95d88_22 (by decide) ?_
                refine z_icmp_ge C (tgt := 50) dJ13_stringSize_95d88_24 (by decide) (fun c24 => absurd c24 (by decide)) (fun _ => ?_)
                refine z_lload_n C dJ13_stringSize_95d88_27 rfl 2 rfl ?_
                refine z_lload_n C dJ13_stringSize_95d88_28 rfl 1 rfl ?_
                refine z_lcmp C dJ13_stringSize_95d88_29 ?_
                refine z_if_le C (tgt := 38) dJ13_stringSize_95d88_30 (by decide) (fun c30 => ?_) (fun c30 => ?_)
                · have e8 := (j_lle (k := 100000000) hv62 (by decide) (by decide)).mp c30
                  refine z_ldc2 C (v := 10) kw1271 dJ13_stringSize_95d88_38 ?_
                  refine z_lload_n C dJ13_stringSize_95d88_41 rfl 1 rfl ?_
                  refine z_lmul C dJ13_stringSize_95d88_42 ?_
                  rw [show ((10 * (-100000000)) : Int64) = (-1000000000) from (by decide)]
                  refine z_lstore_n (lv' := [(3, .long (-1000000000)), (5, .int 8), (0, .long (-(lN v))), (2, .int 0)]) C dJ13_stringSize_95d88_43 rfl (by decide) rfl ?_
                  refine z_iinc (v := 9) (lv' := [(5, .int 9), (3, .long (-1000000000)), (0, .long (-(lN v))), (2, .int 0)]) C dJ13_stringSize_95d88_44 1 rfl (by decide) (by decide) rfl ?_
                  refine z_goto C (tgt := 20) dJ13_stringSize_95d88_47 (by decide) ?_
                  refine z_iload C dJ13_stringSize_95d88_20 0 rfl ?_
                  refine z_bipush C (v := 19) dJ13_stringSize_95d88_22 (by decide) ?_
                  refine z_icmp_ge C (tgt := 50) dJ13_stringSize_95d88_24 (by decide) (fun c24 => absurd c24 (by decide)) (fun _ => ?_)
                  refine z_lload_n C dJ13_stringSize_95d88_27 rfl 2 rfl ?_
                  refine z_lload_n C dJ13_stringSize_95d88_28 rfl 1 rfl ?_
                  refine z_lcmp C dJ13_stringSize_95d88_29 ?_
                  refine z_if_le C (tgt := 38) dJ13_stringSize_95d88_30 (by decide) (fun c30 => ?_) (fun c30 => ?_)
                  · have e9 := (j_lle (k := 1000000000) hv62 (by decide) (by decide)).mp c30
                    refine z_ldc2 C (v := 10) kw1271 dJ13_stringSize_95d88_38 ?_
                    refine z_lload_n C dJ13_stringSize_95d88_41 rfl 1 rfl ?_
                    refine z_lmul C dJ13_stringSize_95d88_42 ?_
                    rw [show ((10 * (-1000000000)) : Int64) = (-10000000000) from (by decide)]
                    refine z_lstore_n (lv' := [(3, .long (-10000000000)), (5, .int 9), (0, .long (-(lN v))), (2, .int 0)]) C dJ13_stringSize_95d88_43 rfl (by decide) rfl ?_
                    refine z_iinc (v := 10) (lv' := [(5, .int 10), (3, .long (-10000000000)), (0, .long (-(lN v))), (2, .int 0)]) C dJ13_stringSize_95d88_44 1 rfl (by decide) (by decide) rfl ?_
                    refine z_goto C (tgt := 20) dJ13_stringSize_95d88_47 (by decide) ?_
                    refine z_iload C dJ13_stringSize_95d88_20 0 rfl ?_
                    refine z_bipush C (v := 19) dJ13_stringSize_95d88_22 (by decide) ?_
                    refine z_icmp_ge C (tgt := 50) dJ13_stringSize_95d88_24 (by decide) (fun c24 => absurd c24 (by decide)) (fun _ => ?_)
                    refine z_lload_n C dJ13_stringSize_95d88_27 rfl 2 rfl ?_
                    refine z_lload_n C dJ13_stringSize_95d88_28 rfl 1 rfl ?_
                    refine z_lcmp C dJ13_stringSize_95d88_29 ?_
                    refine z_if_le C (tgt := 38) dJ13_stringSize_95d88_30 (by decide) (fun c30 => ?_) (fun c30 => ?_)
                    · have e10 := (j_lle (k := 10000000000) hv62 (by decide) (by decide)).mp c30
                      refine z_ldc2 C (v := 10) kw1271 dJ13_stringSize_95d88_38 ?_
                      refine z_lload_n C dJ13_stringSize_95d88_41 rfl 1 rfl ?_
                      refine z_lmul C dJ13_stringSize_95d88_42 ?_
                      rw [show ((10 * (-10000000000)) : Int64) = (-100000000000) from (by decide)]
                      refine z_lstore_n (lv' := [(3, .long (-100000000000)), (5, .int 10), (0, .long (-(lN v))), (2, .int 0)]) C dJ13_stringSize_95d88_43 rfl (by decide) rfl ?_
                      refine z_iinc (v := 11) (lv' := [(5, .int 11), (3, .long (-100000000000)), (0, .long (-(lN v))), (2, .int 0)]) C dJ13_stringSize_95d88_44 1 rfl (by decide) (by decide) rfl ?_
                      refine z_goto C (tgt := 20) dJ13_stringSize_95d88_47 (by decide) ?_
                      refine z_iload C dJ13_stringSize_95d88_20 0 rfl ?_
                      refine z_bipush C (v := 19) dJ13_stringSize_95d88_22 (by decide) ?_
                      refine z_icmp_ge C (tgt := 50) dJ13_stringSize_95d88_24 (by decide) (fun c24 => absurd c24 (by decide)) (fun _ => ?_)
                      refine z_lload_n C dJ13_stringSize_95d88_27 rfl 2 rfl ?_
                      refine z_lload_n C dJ13_stringSize_95d88_28 rfl 1 rfl ?_
                      refine z_lcmp C dJ13_stringSize_95d88_29 ?_
                      refine z_if_le C (tgt := 38) dJ13_stringSize_95d88_30 (by decide) (fun c30 => absurd c30 (mt (j_lle (k := 100000000000) hv62 (by decide) (by decide)).mp (by omega))) (fun _ => ?_)
                      refine z_iload C dJ13_stringSize_95d88_33 0 rfl ?_
                      refine z_iload_n C dJ13_stringSize_95d88_35 rfl 3 rfl ?_
                      refine z_iadd C dJ13_stringSize_95d88_36 ?_
                      refine ret dJ13_stringSize_95d88_37 rfl ?_ (by decide) (by decide)
                      refine ⟨?_, rfl⟩
                      rw [j_dk11 e10 hv]
                      rfl
                    · have g10 := Nat.not_le.mp (mt (j_lle (v := v) (k := 10000000000) hv62 (by decide) (by decide)).mpr c30)
                      refine z_iload C dJ13_stringSize_95d88_33 0 rfl ?_
                      refine z_iload_n C dJ13_stringSize_95d88_35 rfl 3 rfl ?_
                      refine z_iadd C dJ13_stringSize_95d88_36 ?_
                      refine ret dJ13_stringSize_95d88_37 rfl ?_ (by decide) (by decide)
                      refine ⟨?_, rfl⟩
                      rw [j_dk10 e9 g10]
                      rfl
                  · have g9 := Nat.not_le.mp (mt (j_lle (v := v) (k := 1000000000) hv62 (by decide) (by decide)).mpr c30)
                    refine z_iload C dJ13_stringSize_95d88_33 0 rfl ?_
                    refine z_iload_n C dJ13_stringSize_95d88_35 rfl 3 rfl ?_
                    refine z_iadd C dJ13_stringSize_95d88_36 ?_
                    refine ret dJ13_stringSize_95d88_37 rfl ?_ (by decide) (by decide)
                    refine ⟨?_, rfl⟩
                    rw [j_dk9 e8 g9]
                    rfl
                · have g8 := Nat.not_le.mp (mt (j_lle (v := v) (k := 100000000) hv62 (by decide) (by decide)).mpr c30)
                  refine z_iload C dJ13_stringSize_95d88_33 0 rfl ?_
                  refine z_iload_n C dJ13_stringSize_95d88_35 rfl 3 rfl ?_
                  refine z_iadd C dJ13_stringSize_95d88_36 ?_
                  refine ret dJ13_stringSize_95d88_37 rfl ?_ (by decide) (by decide)
                  refine ⟨?_, rfl⟩
                  rw [j_dk8 e7 g8]
                  rfl
              · have g7 := Nat.not_le.mp (mt (j_lle (v := v) (k := 10000000) hv62 (by decide) (by decide)).mpr c30)
                refine z_iload C dJ13_stringSize_95d88_33 0 rfl ?_
                refine z_iload_n C dJ13_stringSize_95d88_35 rfl 3 rfl ?_
                refine z_iadd C dJ13_stringSize_95d88_36 ?_
                refine ret dJ13_stringSize_95d88_37 rfl ?_ (by decide) (by decide)
                refine ⟨?_, rfl⟩
                rw [j_dk7 e6 g7]
                rfl
            · have g6 := Nat.not_le.mp (mt (j_lle (v := v) (k := 1000000) hv62 (by decide) (by decide)).mpr c30)
              refine z_iload C dJ13_stringSize_95d88_33 0 rfl ?_
              refine z_iload_n C dJ13_stringSize_95d88_35 rfl 3 rfl ?_
              refine z_iadd C dJ13_stringSize_95d88_36 ?_
              refine ret dJ13_stringSize_95d88_37 rfl ?_ (by decide) (by decide)
              refine ⟨?_, rfl⟩
              rw [j_dk6 e5 g6]
              rfl
          · have g5 := Nat.not_le.mp (mt (j_lle (v := v) (k := 100000) hv62 (by decide) (by decide)).mpr c30)
            refine z_iload C dJ13_stringSize_95d88_33 0 rfl ?_
            refine z_iload_n C dJ13_stringSize_95d88_35 rfl 3 rfl ?_
            refine z_iadd C dJ13_stringSize_95d88_36 ?_
            refine ret dJ13_stringSize_95d88_37 rfl ?_ (by decide) (by decide)
            refine ⟨?_, rfl⟩
            rw [j_dk5 e4 g5]
            rfl
        · have g4 := Nat.not_le.mp (mt (j_lle (v := v) (k := 10000) hv62 (by decide) (by decide)).mpr c30)
          refine z_iload C dJ13_stringSize_95d88_33 0 rfl ?_
          refine z_iload_n C dJ13_stringSize_95d88_35 rfl 3 rfl ?_
          refine z_iadd C dJ13_stringSize_95d88_36 ?_
          refine ret dJ13_stringSize_95d88_37 rfl ?_ (by decide) (by decide)
          refine ⟨?_, rfl⟩
          rw [j_dk4 e3 g4]
          rfl
      · have g3 := Nat.not_le.mp (mt (j_lle (v := v) (k := 1000) hv62 (by decide) (by decide)).mpr c30)
        refine z_iload C dJ13_stringSize_95d88_33 0 rfl ?_
        refine z_iload_n C dJ13_stringSize_95d88_35 rfl 3 rfl ?_
        refine z_iadd C dJ13_stringSize_95d88_36 ?_
        refine ret dJ13_stringSize_95d88_37 rfl ?_ (by decide) (by decide)
        refine ⟨?_, rfl⟩
        rw [j_dk3 e2 g3]
        rfl
    · have g2 := Nat.not_le.mp (mt (j_lle (v := v) (k := 100) hv62 (by decide) (by decide)).mpr c30)
      refine z_iload C dJ13_stringSize_95d88_33 0 rfl ?_
      refine z_iload_n C dJ13_stringSize_95d88_35 rfl 3 rfl ?_
      refine z_iadd C dJ13_stringSize_95d88_36 ?_
      refine ret dJ13_stringSize_95d88_37 rfl ?_ (by decide) (by decide)
      refine ⟨?_, rfl⟩
      rw [j_dk2 e1 g2]
      rfl
  · have g1 := Nat.not_le.mp (mt (j_lle (v := v) (k := 10) hv62 (by decide) (by decide)).mpr c30)
    refine z_iload C dJ13_stringSize_95d88_33 0 rfl ?_
    refine z_iload_n C dJ13_stringSize_95d88_35 rfl 3 rfl ?_
    refine z_iadd C dJ13_stringSize_95d88_36 ?_
    refine ret dJ13_stringSize_95d88_37 rfl ?_ (by decide) (by decide)
    refine ⟨?_, rfl⟩
    rw [j_dk1 g1]
    rfl
set_option maxRecDepth 20000 in
theorem lp_J13_getC {X : zX} (C : z_C X cJ13_getChars_11360 RJ13 11 (z_rm 1 0 0)) {M : zM} {vb n c : Nat} (hn : n ≤ 65536) (kk : ∀ (f9 : Nat → Int32) (p9 : Nat), sb_Fit f9 → z_W X (z_up M vb (aB (z_G X) n f9)) 0 0 192 [(7, .int (nI p9))] []) : ∀ (fuel wv pp : Nat) (ff : Nat → Int32), wv < fuel → wv < 2 ^ 31 → pp = c + sb_dg wv → pp ≤ n → sb_Fit ff → z_W X (z_up M vb (aB (z_G X) n ff)) 0 0 86 [(7, .int (nI pp)), (10, .int (-nI wv)), (3, .ref vb), (8, .int 0)] [] := by
  intro fuel
  induction fuel with
  | zero => intro wv pp ff h; exact absurd h (Nat.not_lt_zero _)
  | succ fuel ih =>
    intro wv pp ff hfu hw hp hpn hff
    refine z_iload C dJ13_getChars_11360_86 1 rfl ?_
    refine z_bipush C (v := (-100)) dJ13_getChars_11360_88 (by decide) ?_
    refine z_icmp_gt C (tgt := 143) dJ13_getChars_11360_90 (by decide) (fun c90 => ?_) (fun c90 => ?_)
    · have g1 := j_lt (k := 100) hw (by decide) (by decide) c90
      have g3 := sb_dg_in wv
      refine z_aload_n C dJ13_getChars_11360_143 rfl 2 rfl ?_
      refine z_iinc (v := nI (pp - 1)) (lv' := [(7, .int (nI (pp - 1))), (10, .int (-nI wv)), (3, .ref vb), (8, .int 0)]) C dJ13_getChars_11360_144 0 rfl (j_m1 (by omega)) (by decide) rfl ?_
      refine z_iload C dJ13_getChars_11360_147 0 rfl ?_
      refine z_gsD1 C kw1277 dJ13_getChars_11360_149 (fun t149 hT149 => ?_)
      refine z_iload C dJ13_getChars_11360_152 1 rfl ?_
      refine z_ineg C dJ13_getChars_11360_154 ?_
      rw [show ((-(-nI wv)) : Int32) = nI wv from (j_nn _)]
      refine z_tb1 (j := wv) C hT149 (nI_in (by omega) (by decide)) (nI_clamp (by omega)) rfl dJ13_getChars_11360_155 ?_
      refine z_bast (j := (pp - 1)) C (z_up_s _ _ _) (nI_in (by omega) (by omega)) (nI_clamp (by omega)) dJ13_getChars_11360_156 ?_
      rw [z_up_up]
      refine z_iload C dJ13_getChars_11360_157 1 rfl ?_
      refine z_bipush C (v := (-9)) dJ13_getChars_11360_159 (by decide) ?_
      refine z_icmp_ge C (tgt := 178) dJ13_getChars_11360_161 (by decide) (fun c161 => ?_) (fun c161 => ?_)
      · refine z_iload C dJ13_getChars_11360_178 3 rfl ?_
        refine z_if_eq C (tgt := 192) dJ13_getChars_11360_180 (by decide) (fun _ => ?_) (fun c180 => absurd (by decide) c180)
        refine z_fewer [0] rfl ?_
        exact kk _ _ (j_fitU hff _ _)
      · have g2 := j_nle (k := 9) hw (by decide) (by decide) c161
        have g4 := j_dg2 (w := wv) (by omega)
        refine z_aload_n C dJ13_getChars_11360_164 rfl 2 rfl ?_
        refine z_iinc (v := nI (pp - 1 - 1)) (lv' := [(7, .int (nI (pp - 1 - 1))), (10, .int (-nI wv)), (3, .ref vb), (8, .int 0)]) C dJ13_getChars_11360_165 0 rfl (j_m1 (by omega)) (by decide) rfl ?_
        refine z_iload C dJ13_getChars_11360_168 0 rfl ?_
        refine z_gsD10 C kw1278 dJ13_getChars_11360_170 (fun t170 hT170 => ?_)
        refine z_iload C dJ13_getChars_11360_173 1 rfl ?_
        refine z_ineg C dJ13_getChars_11360_175 ?_
        rw [show ((-(-nI wv)) : Int32) = nI wv from (j_nn _)]
        refine z_tb10 (j := wv) C hT170 (nI_in (by omega) (by decide)) (nI_clamp (by omega)) rfl dJ13_getChars_11360_176 ?_
        refine z_bast (j := (pp - 1 - 1)) C (z_up_s _ _ _) (nI_in (by omega) (by omega)) (nI_clamp (by omega)) dJ13_getChars_11360_177 ?_
        rw [z_up_up]
        refine z_iload C dJ13_getChars_11360_178 3 rfl ?_
        refine z_if_eq C (tgt := 192) dJ13_getChars_11360_180 (by decide) (fun _ => ?_) (fun c180 => absurd (by decide) c180)
        refine z_fewer [0] rfl ?_
        exact kk _ _ (j_fitU (j_fitU hff _ _) _ _)
    · have g1 := j_nlt (k := 100) hw (by decide) (by decide) c90
      have g3 := j_dg3 g1 hw
      refine z_iload C dJ13_getChars_11360_93 1 rfl ?_
      refine z_bipush C (v := 100) dJ13_getChars_11360_95 (by decide) ?_
      refine z_idiv C dJ13_getChars_11360_97 (by decide) ?_
      rw [show (((-nI wv) / 100) : Int32) = (-nI (wv / 100)) from (sb_ndiv hw)]
      refine z_istore (lv' := [(9, .int (-nI (wv / 100))), (7, .int (nI pp)), (10, .int (-nI wv)), (3, .ref vb), (8, .int 0)]) C dJ13_getChars_11360_98 (by decide) rfl ?_
      refine z_iload C dJ13_getChars_11360_100 0 rfl ?_
      refine z_bipush C (v := 100) dJ13_getChars_11360_102 (by decide) ?_
      refine z_imul C dJ13_getChars_11360_104 ?_
      refine z_iload C dJ13_getChars_11360_105 2 rfl ?_
      refine z_isub C dJ13_getChars_11360_107 ?_
      rw [show ((((-nI (wv / 100)) * 100) - (-nI wv)) : Int32) = nI (wv % 100) from (sb_nrem hw)]
      refine z_istore (lv' := [(6, .int (nI (wv % 100))), (9, .int (-nI (wv / 100))), (7, .int (nI pp)), (10, .int (-nI wv)), (3, .ref vb), (8, .int 0)]) C dJ13_getChars_11360_108 (by decide) rfl ?_
      refine z_iload C dJ13_getChars_11360_110 1 rfl ?_
      refine z_istore (lv' := [(10, .int (-nI (wv / 100))), (6, .int (nI (wv % 100))), (9, .int (-nI (wv / 100))), (7, .int (nI pp)), (3, .ref vb), (8, .int 0)]) C dJ13_getChars_11360_112 (by decide) rfl ?_
      refine z_aload_n C dJ13_getChars_11360_114 rfl 4 rfl ?_
      refine z_iinc (v := nI (pp - 1)) (lv' := [(7, .int (nI (pp - 1))), (10, .int (-nI (wv / 100))), (6, .int (nI (wv % 100))), (9, .int (-nI (wv / 100))), (3, .ref vb), (8, .int 0)]) C dJ13_getChars_11360_115 3 rfl (j_m1 (by omega)) (by decide) rfl ?_
      refine z_iload C dJ13_getChars_11360_118 0 rfl ?_
      refine z_gsD1 C kw1277 dJ13_getChars_11360_120 (fun t120 hT120 => ?_)
      refine z_iload C dJ13_getChars_11360_123 2 rfl ?_
      refine z_tb1 (j := (wv % 100)) C hT120 (nI_in (by omega) (by decide)) (nI_clamp (by omega)) rfl dJ13_getChars_11360_125 ?_
      refine z_bast (j := (pp - 1)) C (z_up_s _ _ _) (nI_in (by omega) (by omega)) (nI_clamp (by omega)) dJ13_getChars_11360_126 ?_
      rw [z_up_up]
      refine z_aload_n C dJ13_getChars_11360_127 rfl 4 rfl ?_
      refine z_iinc (v := nI (pp - 1 - 1)) (lv' := [(7, .int (nI (pp - 1 - 1))), (10, .int (-nI (wv / 100))), (6, .int (nI (wv % 100))), (9, .int (-nI (wv / 100))), (3, .ref vb), (8, .int 0)]) C dJ13_getChars_11360_128 0 rfl (j_m1 (by omega)) (by decide) rfl ?_
      refine z_iload C dJ13_getChars_11360_131 0 rfl ?_
      refine z_gsD10 C kw1278 dJ13_getChars_11360_133 (fun t133 hT133 => ?_)
      refine z_iload C dJ13_getChars_11360_136 2 rfl ?_
      refine z_tb10 (j := (wv % 100)) C hT133 (nI_in (by omega) (by decide)) (nI_clamp (by omega)) rfl dJ13_getChars_11360_138 ?_
      refine z_bast (j := (pp - 1 - 1)) C (z_up_s _ _ _) (nI_in (by omega) (by omega)) (nI_clamp (by omega)) dJ13_getChars_11360_139 ?_
      rw [z_up_up]
      refine z_goto C (tgt := 86) dJ13_getChars_11360_140 (by decide) ?_
      refine z_fewer [0, 1, 4, 5] rfl ?_
      exact ih (wv / 100) (pp - 1 - 1) _ (by omega) (by omega) (by omega) (by omega) (j_fitU (j_fitU hff _ _) _ _)
set_option maxRecDepth 20000 in
theorem c_J13_getChars_11360 (l : Launch) (G : zG) {M : zM} {vb : Nat} {n : Nat} {f : Nat → Int32} {v c d : Nat} (h_vb : M vb = some (aB G n f)) (hv : v < 35000000000) (hd : d = c + j_dgl v) (hdn : d ≤ n) (hn : n ≤ 65536) (hf : sb_Fit f) : z_Mi l G qJ13_getChars_11360 (z_rm 1 0 0) [.long (lN v), .int (nI d), .ref vb] M (fun r M' => ∃ (f9 : Nat → Int32) (r9 : Int32), (sb_Fit f9) ∧ r = r9 ∧ M' = z_up M vb (aB G n f9))  := by
  refine z_Mi_of _ (by decide +kernel) rfl (Nat.le_of_ble_eq_true rfl) (fun X hl hG hnm C ret => ?_)
  subst hl; subst hG
  have C : z_C X cJ13_getChars_11360 RJ13 11 (z_rm 1 0 0) := C
  show z_W X M 0 0 0 [(0, .long (lN v)), (2, .int (nI d)), (3, .ref vb)] []
  refine z_iload_n C dJ13_getChars_11360_0 rfl 1 rfl ?_
  refine z_istore (lv' := [(7, .int (nI d)), (0, .long (lN v)), (2, .int (nI d)), (3, .ref vb)]) C dJ13_getChars_11360_1 (by decide) rfl ?_
  refine z_lload_n C dJ13_getChars_11360_3 rfl 1 rfl ?_
  refine z_lconst C (v := 0) dJ13_getChars_11360_4 (by decide) ?_
  refine z_lcmp C dJ13_getChars_11360_5 ?_
  refine z_if_ge C (tgt := 13) dJ13_getChars_11360_6 (by decide) (fun _ => ?_) (fun c6 => absurd (j_lnn (by omega)) c6)
  refine z_iconst C (v := 0) dJ13_getChars_11360_13 (by decide) ?_
  refine z_istore (lv' := [(8, .int 0), (7, .int (nI d)), (0, .long (lN v)), (2, .int (nI d)), (3, .ref vb)]) C dJ13_getChars_11360_14 (by decide) rfl ?_
  refine z_iload C dJ13_getChars_11360_16 0 rfl ?_
  refine z_if_ne C (tgt := 24) dJ13_getChars_11360_18 (by decide) (fun c18 => absurd (by decide) c18) (fun _ => ?_)
  refine z_lload_n C dJ13_getChars_11360_21 rfl 2 rfl ?_
  refine z_lneg C dJ13_getChars_11360_22 ?_
  refine z_lstore_n (lv' := [(0, .long (-(lN v))), (8, .int 0), (7, .int (nI d)), (2, .int (nI d)), (3, .ref vb)]) C dJ13_getChars_11360_23 rfl (by decide) rfl ?_
  refine z_lload_n C dJ13_getChars_11360_24 rfl 0 rfl ?_
  refine z_ldc2 C (v := (-2147483648)) kw1275 dJ13_getChars_11360_25 ?_
  refine z_lcmp C dJ13_getChars_11360_28 ?_
  refine z_if_gt C (tgt := 82) dJ13_getChars_11360_29 (by decide) (fun c29 => ?_) (fun c29 => ?_)
  · have g0 : v < 2 ^ 31 := (j_lgt (v := v) (k := 2147483648) (by omega) (by decide) (by decide)).mp c29
    refine z_lload_n C dJ13_getChars_11360_82 rfl 0 rfl ?_
    refine z_l2i C dJ13_getChars_11360_83 ?_
    rw [show (((-(lN v)).toInt32) : Int32) = (-nI v) from (j_l2i _)]
    refine z_istore (lv' := [(10, .int (-nI v)), (0, .long (-(lN v))), (8, .int 0), (7, .int (nI d)), (2, .int (nI d)), (3, .ref vb)]) C dJ13_getChars_11360_84 (by decide) rfl ?_
    refine z_fewer [3, 0, 5, 2] rfl ?_
    refine z_at (M' := z_up M vb (aB (z_G X) n f)) (lv' := _) (z_up_id h_vb) rfl rfl ?_
    refine lp_J13_getC (c := c) C hn (fun f9 p9 h9 => ?_) (v + 1) v d f (Nat.lt_succ_self _) g0 (by rw [hd, j_dgl_lo g0]) hdn hf
    refine z_iload C dJ13_getChars_11360_192 0 rfl ?_
    refine ret dJ13_getChars_11360_194 rfl ?_ (by decide) (by decide)
    exact ⟨f9, _, h9, rfl, rfl⟩
  · have g0 := mt (j_lgt (v := v) (k := 2147483648) (by omega) (by decide) (by decide)).mpr c29
    have g5 := j_dgl_hi (v := v) (by omega)
    have g6 := sb_dg_in (v / 100)
    refine z_lload_n C dJ13_getChars_11360_32 rfl 0 rfl ?_
    refine z_ldc2 C (v := 100) kw1276 dJ13_getChars_11360_33 ?_
    refine z_ldiv C dJ13_getChars_11360_36 (by decide) ?_
    rw [show (((-(lN v)) / 100) : Int64) = (-lN (v / 100)) from (j_ldiv (by omega))]
    refine z_lstore (lv' := [(4, .long (-lN (v / 100))), (0, .long (-(lN v))), (8, .int 0), (7, .int (nI d)), (2, .int (nI d)), (3, .ref vb)]) C dJ13_getChars_11360_37 (by decide) rfl ?_
    refine z_lload C dJ13_getChars_11360_39 0 rfl ?_
    refine z_ldc2 C (v := 100) kw1276 dJ13_getChars_11360_41 ?_
    refine z_lmul C dJ13_getChars_11360_44 ?_
    refine z_lload_n C dJ13_getChars_11360_45 rfl 1 rfl ?_
    refine z_lsub C dJ13_getChars_11360_46 ?_
    refine z_l2i C dJ13_getChars_11360_47 ?_
    rw [show (((((-lN (v / 100)) * 100) - (-(lN v))).toInt32) : Int32) = nI (v % 100) from (j_lrem (by omega))]
    refine z_istore (lv' := [(6, .int (nI (v % 100))), (4, .long (-lN (v / 100))), (0, .long (-(lN v))), (8, .int 0), (7, .int (nI d)), (2, .int (nI d)), (3, .ref vb)]) C dJ13_getChars_11360_48 (by decide) rfl ?_
    refine z_lload C dJ13_getChars_11360_50 1 rfl ?_
    refine z_lstore_n (lv' := [(0, .long (-lN (v / 100))), (6, .int (nI (v % 100))), (4, .long (-lN (v / 100))), (8, .int 0), (7, .int (nI d)), (2, .int (nI d)), (3, .ref vb)]) C dJ13_getChars_11360_52 rfl (by decide) rfl ?_
    refine z_aload_n C dJ13_getChars_11360_53 rfl 6 rfl ?_
    refine z_iinc (v := nI (d - 1)) (lv' := [(7, .int (nI (d - 1))), (0, .long (-lN (v / 100))), (6, .int (nI (v % 100))), (4, .long (-lN (v / 100))), (8, .int 0), (2, .int (nI d)), (3, .ref vb)]) C dJ13_getChars_11360_54 4 rfl (j_m1 (by omega)) (by decide) rfl ?_
    refine z_iload C dJ13_getChars_11360_57 0 rfl ?_
    refine z_gsD1 C kw1277 dJ13_getChars_11360_59 (fun t59 hT59 => ?_)
    refine z_iload C dJ13_getChars_11360_62 2 rfl ?_
    refine z_tb1 (j := (v % 100)) C hT59 (nI_in (by omega) (by decide)) (nI_clamp (by omega)) rfl dJ13_getChars_11360_64 ?_
    refine z_bast (j := (d - 1)) C h_vb (nI_in (by omega) (by omega)) (nI_clamp (by omega)) dJ13_getChars_11360_65 ?_
    refine z_aload_n C dJ13_getChars_11360_66 rfl 6 rfl ?_
    refine z_iinc (v := nI (d - 1 - 1)) (lv' := [(7, .int (nI (d - 1 - 1))), (0, .long (-lN (v / 100))), (6, .int (nI (v % 100))), (4, .long (-lN (v / 100))), (8, .int 0), (2, .int (nI d)), (3, .ref vb)]) C dJ13_getChars_11360_67 0 rfl (j_m1 (by omega)) (by decide) rfl ?_
    refine z_iload C dJ13_getChars_11360_70 0 rfl ?_
    refine z_gsD10 C kw1278 dJ13_getChars_11360_72 (fun t72 hT72 => ?_)
    refine z_iload C dJ13_getChars_11360_75 2 rfl ?_
    refine z_tb10 (j := (v % 100)) C hT72 (nI_in (by omega) (by decide)) (nI_clamp (by omega)) rfl dJ13_getChars_11360_77 ?_
    refine z_bast (j := (d - 1 - 1)) C (z_up_s _ _ _) (nI_in (by omega) (by omega)) (nI_clamp (by omega)) dJ13_getChars_11360_78 ?_
    rw [z_up_up]
    refine z_goto C (tgt := 24) dJ13_getChars_11360_79 (by decide) ?_
    refine z_lload_n C dJ13_getChars_11360_24 rfl 1 rfl ?_
    refine z_ldc2 C (v := (-2147483648)) kw1275 dJ13_getChars_11360_25 ?_
    refine z_lcmp C dJ13_getChars_11360_28 ?_
    refine z_if_gt C (tgt := 82) dJ13_getChars_11360_29 (by decide) (fun _ => ?_) (fun c29 => absurd ((j_lgt (v := v / 100) (k := 2147483648) (by omega) (by decide) (by decide)).mpr (by omega)) c29)
    refine z_lload_n C dJ13_getChars_11360_82 rfl 1 rfl ?_
    refine z_l2i C dJ13_getChars_11360_83 ?_
    rw [show (((-lN (v / 100)).toInt32) : Int32) = (-nI (v / 100)) from (j_l2i _)]
    refine z_istore (lv' := [(10, .int (-nI (v / 100))), (7, .int (nI (d - 1 - 1))), (0, .long (-lN (v / 100))), (6, .int (nI (v % 100))), (4, .long (-lN (v / 100))), (8, .int 0), (2, .int (nI d)), (3, .ref vb)]) C dJ13_getChars_11360_84 (by decide) rfl ?_
    refine z_fewer [1, 0, 7, 5] rfl ?_
    refine lp_J13_getC (c := c) C hn (fun f9 p9 h9 => ?_) (v / 100 + 1) (v / 100) (d - 1 - 1) _ (Nat.lt_succ_self _) (by omega) (by rw [hd, j_dgl_hi (by omega)]; omega) (by omega) (j_fitU (j_fitU hf _ _) _ _)
    refine z_iload C dJ13_getChars_11360_192 0 rfl ?_
    refine ret dJ13_getChars_11360_194 rfl ?_ (by decide) (by decide)
    exact ⟨f9, _, h9, rfl, rfl⟩
set_option maxRecDepth 20000 in
theorem c_apJ5_fit (l : Launch) (G : zG) {M : zM} {sb : Nat} {vb : Nat} {ml : Int32} {n : Nat} {f : Nat → Int32} {c v : Nat} (h_sb : M sb = some (cSb vb 0 ml (nI c))) (h_vb : M vb = some (aB G n f)) (hv : v < 35000000000) (h0 : c + j_dgl v ≤ n) (hn : n ≤ 65536) (hf : sb_Fit f) : z_Mr l G qJ5_append_66267 (z_rm 2 0 0) [.ref sb, .long (lN v)] M (fun r M' => ∃ f9_33 : Nat → Int32, ∃ r9_33 : Int32, (sb_Fit f9_33) ∧ r = sb ∧ M' = z_up (z_up M vb (aB G n f9_33)) sb (cSb vb 0 ml (nI (c + j_dgl v))))  := by
  refine z_Mr_of _ (by decide +kernel) rfl (by first | exact Or.inl ⟨_, rfl⟩ | exact Or.inr ⟨_, rfl⟩) (Nat.le_of_ble_eq_true rfl) (fun X hl hG hnm C ret => ?_)
  subst hl; subst hG
  have C : z_C X cJ5_append_66267 RJ5 5 (z_rm 2 0 0) := C
  show z_W X M 0 0 0 [(0, .ref sb), (1, .long (lN v))] []
  refine z_aload_n C dJ5_append_66267_0 rfl 0 rfl ?_
  refine gf_J5_79 C h_sb dJ5_append_66267_1 ?_
  refine z_istore_n (lv' := [(3, .int (nI c)), (0, .ref sb), (1, .long (lN v))]) C dJ5_append_66267_4 rfl (by decide) rfl ?_
  refine z_iload_n C dJ5_append_66267_5 rfl 0 rfl ?_
  refine z_lload_n C dJ5_append_66267_6 rfl 2 rfl ?_
  refine z_callSi (rest := [.int (nI c)]) (k' := 0) (n' := 0) C (c_J13_stringSize_95d88 (z_l X) (z_G X) hv) (cs_J5_254 C (by decide)) rfl rfl (Nat.le_of_ble_eq_true rfl) rfl rfl (by decide) (by decide) dJ5_append_66267_7 (fun x7 M' hq => ?_)
  obtain ⟨rfl, rfl⟩ := hq
  refine z_iadd C dJ5_append_66267_10 ?_
  rw [show (((nI c) + (nI (j_dgl v))) : Int32) = nI (c + j_dgl v) from (j_add _ _)]
  refine z_istore (lv' := [(4, .int (nI (c + j_dgl v))), (3, .int (nI c)), (0, .ref sb), (1, .long (lN v))]) C dJ5_append_66267_11 (by decide) rfl ?_
  refine z_aload_n C dJ5_append_66267_13 rfl 2 rfl ?_
  refine z_iload C dJ5_append_66267_14 0 rfl ?_
  refine z_callUv (rest := []) (k' := 0) (n' := 0) C (c_ens_fit (z_l X) (z_G X) h_sb h_vb h0 hn) (cs_J5_100 C (by decide)) h_sb trivial trivial rfl rfl (Nat.le_of_ble_eq_true rfl) rfl rfl (by decide) (by decide) dJ5_append_66267_16 (fun M' hq => ?_)
  obtain rfl := hq
  refine z_aload_n C dJ5_append_66267_19 rfl 2 rfl ?_
  refine z_callUi (rest := []) (k' := 0) (n' := 0) C (c_J5_isLatin1_aae02 (z_l X) (z_G X) h_sb) (cs_J5_83 C (by decide)) h_sb trivial trivial rfl rfl (Nat.le_of_ble_eq_true rfl) rfl rfl (by decide) (by decide) dJ5_append_66267_20 (fun x20 M' hq => ?_)
  obtain ⟨rfl, rfl⟩ := hq
  refine z_if_eq C (tgt := 40) dJ5_append_66267_23 (by decide) (fun c23 => absurd c23 (by decide)) (fun _ => ?_)
  refine z_lload_n C dJ5_append_66267_26 rfl 3 rfl ?_
  refine z_iload C dJ5_append_66267_27 0 rfl ?_
  refine z_aload_n C dJ5_append_66267_29 rfl 2 rfl ?_
  refine gf_J5_15 C h_sb dJ5_append_66267_30 ?_
  refine z_callSi (rest := []) (k' := 0) (n' := 0) C (c_J13_getChars_11360 (z_l X) (z_G X) h_vb hv rfl h0 hn hf) (cs_J5_259 C (by decide)) rfl rfl (Nat.le_of_ble_eq_true rfl) rfl rfl (by decide) (by decide) dJ5_append_66267_33 (fun x33 M' hq => ?_)
  obtain ⟨f9_33, r9_33, d33_2, hr33, rfl⟩ := hq
  rw [hr33]
  refine z_pop C dJ5_append_66267_36 rfl ?_
  refine z_goto C (tgt := 52) dJ5_append_66267_37 (by decide) ?_
  refine z_aload_n C dJ5_append_66267_52 rfl 2 rfl ?_
  refine z_iload C dJ5_append_66267_53 0 rfl ?_
  refine pf_J5_79 C ((z_up_n _ _ (z_ne h_sb h_vb (by intro h; cases h))).trans h_sb) dJ5_append_66267_55 ?_
  refine z_aload_n C dJ5_append_66267_58 rfl 2 rfl ?_
  exact ret dJ5_append_66267_59 (⟨f9_33, r9_33, d33_2, rfl, rfl⟩) (by decide) (by decide)
set_option maxRecDepth 20000 in
theorem c_apJ_fit (l : Launch) (G : zG) {M : zM} {sb : Nat} {vb : Nat} {ml : Int32} {n : Nat} {f : Nat → Int32} {c v : Nat} (h_sb : M sb = some (cSb vb 0 ml (nI c))) (h_vb : M vb = some (aB G n f)) (hv : v < 35000000000) (h0 : c + j_dgl v ≤ n) (hn : n ≤ 65536) (hf : sb_Fit f) : z_Mr l G qJ4_append_f7089 (z_rm 3 0 0) [.ref sb, .long (lN v)] M (fun r M' => ∃ f9_33_2 : Nat → Int32, ∃ r9_33_2 : Int32, (sb_Fit f9_33_2) ∧ r = sb ∧ M' = z_up (z_up M vb (aB G n f9_33_2)) sb (cSb vb 0 ml (nI (c + j_dgl v))))  := by
  refine z_Mr_of _ (by decide +kernel) rfl (by first | exact Or.inl ⟨_, rfl⟩ | exact Or.inr ⟨_, rfl⟩) (Nat.le_of_ble_eq_true rfl) (fun X hl hG hnm C ret => ?_)
  subst hl; subst hG
  have C : z_C X cJ4_append_f7089 RJ4 3 (z_rm 3 0 0) := C
  show z_W X M 0 0 0 [(0, .ref sb), (1, .long (lN v))] []
  refine z_aload_n C dJ4_append_f7089_0 rfl 0 rfl ?_
  refine z_lload_n C dJ4_append_f7089_1 rfl 1 rfl ?_
  refine z_callPr (rest := []) (k' := 0) (n' := 0) C (c_apJ5_fit (z_l X) (z_G X) h_sb h_vb hv h0 hn hf) (cs_J4_56 C (by decide)) h_sb trivial trivial rfl rfl (Nat.le_of_ble_eq_true rfl) rfl rfl (by decide) (by decide) dJ4_append_f7089_2 (fun x2 M' hq => ?_)
  obtain ⟨f9_33_2, r9_33_2, d2_2, hr2, rfl⟩ := hq
  rw [hr2]
  refine z_pop C dJ4_append_f7089_5 rfl ?_
  refine z_aload_n C dJ4_append_f7089_6 rfl 0 rfl ?_
  exact ret dJ4_append_f7089_7 (⟨f9_33_2, r9_33_2, d2_2, rfl, rfl⟩) (by decide) (by decide)
end
section
/-! PART 46: a builder that grows: its cells, what an append keeps, what it costs -/
/-- the room of n bytes, after an append that brings the count to q -/
def j_cap (n q : Nat) : Nat := if q ≤ n then n else 2 * n + 2
theorem j_cap_fit {n q : Nat} (h : q ≤ n) : j_cap n q = n := if_pos h
theorem j_cap_grow {n q : Nat} (h : n < q) : j_cap n q = 2 * n + 2 := if_neg (by omega)
theorem j_cap_ge (n q : Nat) : n ≤ j_cap n q := by unfold j_cap; split <;> omega
theorem j_cap_le {n q : Nat} (hn : n ≤ 600) (hq : q ≤ 280) : j_cap n q ≤ 600 := by unfold j_cap; split <;> omega
theorem j_cap_q {n q : Nat} (h : q ≤ 2 * n + 2) : q ≤ j_cap n q := by unfold j_cap; split <;> omega
theorem j_cap_cap {n c d e : Nat} (hc : c ≤ n) (h : d + e ≤ n + 2) : j_cap (j_cap n (c + d)) (c + d + e) = j_cap n (c + d + e) := by
  unfold j_cap
  split <;> split <;> (try split) <;> omega
/-- a builder and its bytes: c letters, n places -/
def j_B (G : zG) (Mw : zM) (sb vb c n : Nat) : Prop := ∃ (ml : Int32) (f : Nat → Int32), Mw sb = some (cSb vb 0 ml (nI c)) ∧ Mw vb = some (aB G n f) ∧ sb_Fit f ∧ c ≤ n ∧ 16 ≤ n ∧ n ≤ 600
/-- what an append keeps -/
def j_Fr (Mw : zM) (sb vb vb' : Nat) (Mz : zM) : Prop := (vb' = vb ∨ Mw vb' = none) ∧ ∀ a e, Mw a = some e → a ≠ sb → a ≠ vb → Mz a = some e
theorem j_Fr_refl (Mw : zM) (sb vb : Nat) : j_Fr Mw sb vb vb Mw := ⟨Or.inl rfl, fun _ _ h _ _ => h⟩
theorem j_Fr_trans {M0 M1 M2 : zM} {sb v0 v1 v2 : Nat} (h1 : j_Fr M0 sb v0 v1 M1) (h2 : j_Fr M1 sb v1 v2 M2) (hs : M1 sb ≠ none) : j_Fr M0 sb v0 v2 M2 := by
  refine ⟨?_, fun a e ha n1 n2 => h2.2 a e (h1.2 a e ha n1 n2) n1 ?_⟩
  · rcases h2.1 with rfl | h
    · exact h1.1
    · by_cases e0 : v2 = v0
      · exact Or.inl e0
      · right
        cases hm : M0 v2 with
        | none => rfl
        | some e =>
          by_cases e1 : v2 = sb
          · subst e1; exact absurd h hs
          · rw [h1.2 v2 e hm e1 e0] at h; cases h
  · rcases h1.1 with rfl | h
    · exact n2
    · intro q; subst q; rw [h] at ha; cases ha
theorem j_B_ne {G : zG} {Mw : zM} {sb vb c n : Nat} (h : j_B G Mw sb vb c n) : sb ≠ vb := by
  obtain ⟨ml, f, h1, h2, -⟩ := h
  exact z_ne h1 h2 (by intro h; cases h)
theorem j_B_some {G : zG} {Mw : zM} {sb vb c n : Nat} (h : j_B G Mw sb vb c n) : Mw sb ≠ none := by
  obtain ⟨ml, f, h1, -⟩ := h
  rw [h1]; intro q; cases q
theorem j_of1 {G : zG} {Mw : zM} {sb vb v c n : Nat} {ml : Int32} {f : Nat → Int32} (hne : v ≠ sb) (hv : v = vb ∨ Mw v = none) (hf : sb_Fit f) (hc : c ≤ n) (h1 : 16 ≤ n) (h2 : n ≤ 600) : j_B G (z_up (z_up Mw sb (cSb v 0 ml (nI c))) v (aB G n f)) sb v c n ∧ j_Fr Mw sb vb v (z_up (z_up Mw sb (cSb v 0 ml (nI c))) v (aB G n f)) := by
  refine ⟨⟨ml, f, by rw [z_up_n _ _ hne.symm, z_up_s], z_up_s _ _ _, hf, hc, h1, h2⟩, hv, fun a e ha n1 n2 => ?_⟩
  have n3 : a ≠ v := by
    rcases hv with rfl | hv
    · exact n2
    · intro q; subst q; rw [hv] at ha; cases ha
  rw [z_up_n _ _ n3, z_up_n _ _ n1]; exact ha
theorem j_of2 {G : zG} {Mw : zM} {sb vb v c n : Nat} {ml : Int32} {f : Nat → Int32} (hne : v ≠ sb) (hv : v = vb ∨ Mw v = none) (hf : sb_Fit f) (hc : c ≤ n) (h1 : 16 ≤ n) (h2 : n ≤ 600) : j_B G (z_up (z_up Mw v (aB G n f)) sb (cSb v 0 ml (nI c))) sb v c n ∧ j_Fr Mw sb vb v (z_up (z_up Mw v (aB G n f)) sb (cSb v 0 ml (nI c))) := by
  rw [z_up_swap _ hne]
  exact j_of1 hne hv hf hc h1 h2
theorem j_neF {Mw : zM} {v sb : Nat} {e : va_E} (h : Mw sb = some e) (hv : Mw v = none) : v ≠ sb := (z_neN h hv).symm
section AP
variable {l : Launch} {G : zG} {Mw : zM} {sb vb c n : Nat}
abbrev j_P (G : zG) (Mw : zM) (sb vb c n : Nat) : Nat → zM → Prop := fun r Mz => r = sb ∧ ∃ vb', j_B G Mz sb vb' c n ∧ j_Fr Mw sb vb vb' Mz
theorem j_C_fit (hB : j_B G Mw sb vb c n) {ch : Int32} (hc : ch ≤ 255) (h0 : c + 1 ≤ n) : z_Mr l G qJ4_append_cf468 (z_rm 3 0 0) [.ref sb, .int ch] Mw (j_P G Mw sb vb (c + 1) n) := by
  have hne := j_B_ne hB
  obtain ⟨ml, f, h1, h2, hf, g1, g2, g3⟩ := hB
  refine z_Mr_mono (c_app_fit l G h1 h2 (by omega) (by omega) hc) ?_
  rintro r Mz ⟨hr9, rfl⟩
  exact ⟨hr9, vb, j_of1 hne.symm (Or.inl rfl) (j_fitU hf _ _) h0 g2 g3⟩
theorem j_C_grow (hB : j_B G Mw sb vb c n) {ch : Int32} (hc : ch ≤ 255) (hq : c + 1 ≤ 280) (h0 : n < c + 1) : z_Mr l G qJ4_append_cf468 (z_rm 6 1 (2 * n + 2)) [.ref sb, .int ch] Mw (j_P G Mw sb vb (c + 1) (2 * n + 2)) := by
  obtain ⟨ml, f, h1, h2, hf, g1, g2, g3⟩ := hB
  refine z_Mr_mono (c_app_grow l G h1 h2 (by omega) (by omega) hc hf) ?_
  rintro r Mz ⟨v, hv, hr9, rfl⟩
  exact ⟨hr9, v, j_of1 (j_neF h1 hv) (Or.inr hv) (j_fitU (j_fitG hf _) _ _) (by omega) (by omega) (by omega)⟩
theorem j_S_fit (hB : j_B G Mw sb vb c n) {i : Nat} (hi : i < 5) (h0 : c + z_kln i ≤ n) : z_Mr l G qJ4_append_15ec4 (z_rm 5 0 0) [.ref sb, .ref (zK G i)] Mw (j_P G Mw sb vb (c + z_kln i) n) := by
  have hne := j_B_ne hB
  obtain ⟨ml, f, h1, h2, hf, g1, g2, g3⟩ := hB
  refine z_Mr_mono (c_apS_fit l G h1 h2 hi h0 (by omega)) ?_
  rintro r Mz ⟨hr9, rfl⟩
  exact ⟨hr9, vb, j_of2 hne.symm (Or.inl rfl) (sb_fitC (z_kfit i hi) hf) h0 g2 g3⟩
theorem j_S_grow (hB : j_B G Mw sb vb c n) {i : Nat} (hi : i < 5) (hq : c + z_kln i ≤ 280) (h0 : n < c + z_kln i) : z_Mr l G qJ4_append_15ec4 (z_rm 6 1 (2 * n + 2)) [.ref sb, .ref (zK G i)] Mw (j_P G Mw sb vb (c + z_kln i) (2 * n + 2)) := by
  have hk := z_kln_in i hi
  obtain ⟨ml, f, h1, h2, hf, g1, g2, g3⟩ := hB
  refine z_Mr_mono (c_apS_grow l G h1 h2 hi h0 g1 (by omega) hf) ?_
  rintro r Mz ⟨v, hv, hr9, rfl⟩
  exact ⟨hr9, v, j_of2 (j_neF h1 hv) (Or.inr hv) (sb_fitC (z_kfit i hi) (j_fitG hf _)) (by omega) (by omega) (by omega)⟩
theorem j_I_fit (hB : j_B G Mw sb vb c n) {v : Nat} (hv : v < 2 ^ 31) (h0 : c + sb_dg v ≤ n) : z_Mr l G qJ4_append_bf812 (z_rm 3 0 0) [.ref sb, .int (nI v)] Mw (j_P G Mw sb vb (c + sb_dg v) n) := by
  have hne := j_B_ne hB
  obtain ⟨ml, f, h1, h2, hf, g1, g2, g3⟩ := hB
  refine z_Mr_mono (c_apI_fit l G h1 h2 hv h0 (by omega) hf) ?_
  rintro r Mz ⟨f9, r9, hf9, hr9, rfl⟩
  exact ⟨hr9, vb, j_of2 hne.symm (Or.inl rfl) hf9 h0 g2 g3⟩
theorem j_I_grow (hB : j_B G Mw sb vb c n) {v : Nat} (hv : v < 2 ^ 31) (hq : c + sb_dg v ≤ 280) (h0 : n < c + sb_dg v) : z_Mr l G qJ4_append_bf812 (z_rm 6 1 (2 * n + 2)) [.ref sb, .int (nI v)] Mw (j_P G Mw sb vb (c + sb_dg v) (2 * n + 2)) := by
  have hk := sb_dg_in v
  obtain ⟨ml, f, h1, h2, hf, g1, g2, g3⟩ := hB
  refine z_Mr_mono (c_apI_grow l G h1 h2 hv h0 g1 (by omega) g2 hf) ?_
  rintro r Mz ⟨f9, r9, a, ha, hf9, hr9, rfl⟩
  exact ⟨hr9, a, j_of2 (j_neF h1 ha) (Or.inr ha) hf9 (by omega) (by omega) (by omega)⟩
end AP
/-- a place where something is appended: k and n tell what was made since the builder had n0 places -/
theorem j_site {X : zX} {cc : ByteArray} {own : String} {nL : Nat} {rm : Room} {Mw : zM} {q : zY} {index N sb vb c n w F k0 s0 n0 pc : Nat} {As rest st : List Value} {lv : List (Nat × Value)} (C : z_C X cc own nL rm) (hB : j_B (z_G X) Mw sb vb c n) (hcls : RJ4 = q.1.cls)
    (cs : ∀ {rmc : Room}, rmc.frames + 1 ≤ rm.frames ∧ 8 + (q.2.2.1 + 11) + rmc.locals ≤ rm.locals → CallW (z_R X) (z_s X) (z_a X) own q.1.cls index q.1 q.2.1 q.2.2.1 q.2.2.2 (z_ws q) rmc rmc.cells rmc.slots N)
    (hR : 7 ≤ rm.frames ∧ 420 ≤ rm.locals) (hL : q.2.2.1 ≤ 3) (hF : F ≤ 6)
    (hfit : c + w ≤ n → z_Mr (z_l X) (z_G X) q (z_rm F 0 0) (.ref sb :: As) Mw (j_P (z_G X) Mw sb vb (c + w) n))
    (hgrow : n < c + w → z_Mr (z_l X) (z_G X) q (z_rm 6 1 (2 * n + 2)) (.ref sb :: As) Mw (j_P (z_G X) Mw sb vb (c + w) (2 * n + 2)))
    (hN : As.length = N) (hst : st = As.reverse ++ .ref sb :: rest) (hcat : (rest.map fun v => v.category).sum ≤ 8) (hn0 : n0 ≤ n) (hk : k0 + (j_cap n (c + w) - n0) / 16 ≤ rm.cells) (hn : s0 + 2 * (j_cap n (c + w) - n0) ≤ rm.slots) (d : decode cc pc = .ok (.invokevirtual index, 3))
    (kk : ∀ vb' Mz, j_B (z_G X) Mz sb vb' (c + w) (j_cap n (c + w)) → j_Fr Mw sb vb vb' Mz → z_W X Mz (k0 + (j_cap n (c + w) - n0) / 16) (s0 + 2 * (j_cap n (c + w) - n0)) (pc + 3) lv (.ref sb :: rest)) : z_W X Mw (k0 + (n - n0) / 16) (s0 + 2 * (n - n0)) pc lv st := by
  have hsb : ∃ ml, Mw sb = some (cSb vb 0 ml (nI c)) := by obtain ⟨ml, f, h1, -⟩ := hB; exact ⟨ml, h1⟩
  have hn9 : 16 ≤ n := by obtain ⟨ml, f, -, -, -, -, h, -⟩ := hB; exact h
  obtain ⟨ml, hsb⟩ := hsb
  by_cases h : c + w ≤ n
  · rw [j_cap_fit h] at hk hn kk
    refine z_callVr C (hfit h) (cs ⟨by show F + 1 ≤ _; omega, by show 8 + (q.2.2.1 + 11) + 64 * F ≤ _; omega⟩) hsb rfl hcls hN hst hcat (k' := k0 + (n - n0) / 16) (n' := s0 + 2 * (n - n0)) rfl rfl hk hn d ?_
    rintro r Mz ⟨hr9, vb', hB', hF'⟩
    rw [hr9]
    exact kk vb' Mz hB' hF'
  · have h : n < c + w := by omega
    rw [j_cap_grow h] at hk hn kk
    refine z_callVr C (hgrow h) (cs ⟨by show 6 + 1 ≤ _; omega, by show 8 + (q.2.2.1 + 11) + 64 * 6 ≤ _; omega⟩) hsb rfl hcls hN hst hcat (k' := k0 + (n - n0) / 16 + 1) (n' := s0 + 2 * (n - n0) + (2 * n + 2)) rfl rfl (by omega) (by omega) d ?_
    rintro r Mz ⟨hr9, vb', hB', hF'⟩
    rw [hr9]
    exact z_widen (by omega) (by omega) (kk vb' Mz hB' hF')
end
