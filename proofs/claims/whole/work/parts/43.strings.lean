/-! PART 43: new Strings, constants appended, numbers in digits -/
theorem j_nb0 : narrow .byte (.int 0) = .int 0 := rfl
theorem j_gt {v k : Nat} {p : Int32} (hv : v < 2 ^ 31) (hk : k < 2 ^ 31) (hp : p = -nI k) (h : ¬ -nI v ≤ p) : v < k := by
  subst hp
  have := mt (sb_nle hv hk).mpr h
  omega
theorem j_le {v k : Nat} {p : Int32} (hv : v < 2 ^ 31) (hk : k < 2 ^ 31) (hp : p = -nI k) (h : -nI v ≤ p) : k ≤ v := by
  subst hp
  exact (sb_nle hv hk).mp h
theorem j_m1 {p : Nat} (h : 0 < p) : nI p + Int32.ofInt (-1) = nI (p - 1) := (congrArg (nI p + ·) (by decide : Int32.ofInt (-1) = -1)).trans (sb_m1 h)
theorem j_add (a b : Nat) : nI a + nI b = nI (a + b) := by
  show Int32.ofNat a + Int32.ofNat b = Int32.ofNat (a + b)
  rw [Int32.ofNat_add]
theorem j_sub0 (x : Int32) : x - 0 = x := by simp
theorem j_nn (x : Int32) : - -x = x := Int32.neg_neg
theorem j_inj {a b : Nat} (ha : a < 2 ^ 31) (hb : b < 2 ^ 31) (h : nI a = nI b) : a = b := by
  have h1 := nI_toInt ha
  have h2 := nI_toInt hb
  rw [h] at h1
  omega
theorem j_lt {v k : Nat} {p : Int32} (hv : v < 2 ^ 31) (hk : k < 2 ^ 31) (hp : p = -nI k) (h : p < -nI v) : v < k := by
  subst hp
  exact (sb_nlt hk hv).mp h
theorem j_nlt {v k : Nat} {p : Int32} (hv : v < 2 ^ 31) (hk : k < 2 ^ 31) (hp : p = -nI k) (h : ¬ p < -nI v) : k ≤ v := by
  subst hp
  have := mt (sb_nlt hk hv).mpr h
  omega
theorem j_nle {v k : Nat} {p : Int32} (hv : v < 2 ^ 31) (hk : k < 2 ^ 31) (hp : p = -nI k) (h : ¬ p ≤ -nI v) : k < v := by
  subst hp
  have := mt (sb_nle hk hv).mpr h
  omega
theorem j_ple {v k : Nat} {p : Int32} (hv : v < 2 ^ 31) (hk : k < 2 ^ 31) (hp : p = -nI k) (h : p ≤ -nI v) : v ≤ k := by
  subst hp
  exact (sb_nle hk hv).mp h
theorem j_dg1e {w : Nat} (h : w ≤ 9) : sb_dg w = 1 := by
  unfold sb_dg
  (repeat' split) <;> omega
theorem j_dg2e {w : Nat} (h : 9 < w) (h2 : w < 100) : sb_dg w = 2 := by
  unfold sb_dg
  (repeat' split) <;> omega
theorem j_dg2 {w : Nat} (h : 10 ≤ w) : 2 ≤ sb_dg w := by
  unfold sb_dg
  (repeat' split) <;> omega
theorem j_dg3 {w : Nat} (h : 100 ≤ w) (hw : w < 2 ^ 31) : sb_dg w = sb_dg (w / 100) + 2 ∧ 1 ≤ sb_dg (w / 100) := ⟨sb_dg100 h hw, (sb_dg_in _).1⟩
theorem dJ7_checkLength_df160_0 : decode cJ7_checkLength_df160 0 = .ok (.iload_n 1, 1) := by decide +kernel
theorem dJ7_checkLength_df160_1 : decode cJ7_checkLength_df160 1 = .ok (.iload_n 0, 1) := by decide +kernel
theorem dJ7_checkLength_df160_2 : decode cJ7_checkLength_df160 2 = .ok (.if_icmp .ge 35, 3) := by decide +kernel
theorem dJ7_checkLength_df160_37 : decode cJ7_checkLength_df160 37 = .ok (.return_, 1) := by decide +kernel
theorem dJ7_copyOfRangeByte_39247_0 : decode cJ7_copyOfRangeByte_39247 0 = .ok (.iload_n 1, 1) := by decide +kernel
theorem dJ7_copyOfRangeByte_39247_1 : decode cJ7_copyOfRangeByte_39247 1 = .ok (.iload_n 2, 1) := by decide +kernel
theorem dJ7_copyOfRangeByte_39247_2 : decode cJ7_copyOfRangeByte_39247 2 = .ok (.invokestatic 343, 3) := by decide +kernel
theorem dJ7_copyOfRangeByte_39247_5 : decode cJ7_copyOfRangeByte_39247 5 = .ok (.iload_n 2, 1) := by decide +kernel
theorem dJ7_copyOfRangeByte_39247_6 : decode cJ7_copyOfRangeByte_39247 6 = .ok (.iload_n 1, 1) := by decide +kernel
theorem dJ7_copyOfRangeByte_39247_7 : decode cJ7_copyOfRangeByte_39247 7 = .ok (.isub, 1) := by decide +kernel
theorem dJ7_copyOfRangeByte_39247_8 : decode cJ7_copyOfRangeByte_39247 8 = .ok (.istore_n 3, 1) := by decide +kernel
theorem dJ7_copyOfRangeByte_39247_9 : decode cJ7_copyOfRangeByte_39247 9 = .ok (.iload_n 3, 1) := by decide +kernel
theorem dJ7_copyOfRangeByte_39247_10 : decode cJ7_copyOfRangeByte_39247 10 = .ok (.newarray .byte, 2) := by decide +kernel
theorem dJ7_copyOfRangeByte_39247_12 : decode cJ7_copyOfRangeByte_39247 12 = .ok (.astore 4, 2) := by decide +kernel
theorem dJ7_copyOfRangeByte_39247_14 : decode cJ7_copyOfRangeByte_39247 14 = .ok (.aload_n 0, 1) := by decide +kernel
theorem dJ7_copyOfRangeByte_39247_15 : decode cJ7_copyOfRangeByte_39247 15 = .ok (.iload_n 1, 1) := by decide +kernel
theorem dJ7_copyOfRangeByte_39247_16 : decode cJ7_copyOfRangeByte_39247 16 = .ok (.aload 4, 2) := by decide +kernel
theorem dJ7_copyOfRangeByte_39247_18 : decode cJ7_copyOfRangeByte_39247 18 = .ok (.iconst 0, 1) := by decide +kernel
theorem dJ7_copyOfRangeByte_39247_19 : decode cJ7_copyOfRangeByte_39247 19 = .ok (.aload_n 0, 1) := by decide +kernel
theorem dJ7_copyOfRangeByte_39247_20 : decode cJ7_copyOfRangeByte_39247 20 = .ok (.arraylength, 1) := by decide +kernel
theorem dJ7_copyOfRangeByte_39247_21 : decode cJ7_copyOfRangeByte_39247 21 = .ok (.iload_n 1, 1) := by decide +kernel
theorem dJ7_copyOfRangeByte_39247_22 : decode cJ7_copyOfRangeByte_39247 22 = .ok (.isub, 1) := by decide +kernel
theorem dJ7_copyOfRangeByte_39247_23 : decode cJ7_copyOfRangeByte_39247 23 = .ok (.iload_n 3, 1) := by decide +kernel
theorem dJ7_copyOfRangeByte_39247_24 : decode cJ7_copyOfRangeByte_39247 24 = .ok (.invokestatic 304, 3) := by decide +kernel
theorem dJ7_copyOfRangeByte_39247_27 : decode cJ7_copyOfRangeByte_39247 27 = .ok (.invokestatic 150, 3) := by decide +kernel
theorem dJ7_copyOfRangeByte_39247_30 : decode cJ7_copyOfRangeByte_39247 30 = .ok (.aload 4, 2) := by decide +kernel
theorem dJ7_copyOfRangeByte_39247_32 : decode cJ7_copyOfRangeByte_39247 32 = .ok (.areturn, 1) := by decide +kernel
theorem dJ7_copyOfRange_39247_0 : decode cJ7_copyOfRange_39247 0 = .ok (.iload_n 1, 1) := by decide +kernel
theorem dJ7_copyOfRange_39247_1 : decode cJ7_copyOfRange_39247 1 = .ok (.ifCond .ne 9, 3) := by decide +kernel
theorem dJ7_copyOfRange_39247_4 : decode cJ7_copyOfRange_39247 4 = .ok (.iload_n 2, 1) := by decide +kernel
theorem dJ7_copyOfRange_39247_5 : decode cJ7_copyOfRange_39247 5 = .ok (.aload_n 0, 1) := by decide +kernel
theorem dJ7_copyOfRange_39247_6 : decode cJ7_copyOfRange_39247 6 = .ok (.arraylength, 1) := by decide +kernel
theorem dJ7_copyOfRange_39247_7 : decode cJ7_copyOfRange_39247 7 = .ok (.if_icmp .eq 10, 3) := by decide +kernel
theorem dJ7_copyOfRange_39247_10 : decode cJ7_copyOfRange_39247 10 = .ok (.aload_n 0, 1) := by decide +kernel
theorem dJ7_copyOfRange_39247_11 : decode cJ7_copyOfRange_39247 11 = .ok (.iload_n 1, 1) := by decide +kernel
theorem dJ7_copyOfRange_39247_12 : decode cJ7_copyOfRange_39247 12 = .ok (.iload_n 2, 1) := by decide +kernel
theorem dJ7_copyOfRange_39247_13 : decode cJ7_copyOfRange_39247 13 = .ok (.invokestatic 339, 3) := by decide +kernel
theorem dJ7_copyOfRange_39247_16 : decode cJ7_copyOfRange_39247 16 = .ok (.areturn, 1) := by decide +kernel
theorem dJ7_copyOfRange_39247_17 : decode cJ7_copyOfRange_39247 17 = .ok (.aload_n 0, 1) := by decide +kernel
theorem dJ7_copyOfRange_39247_18 : decode cJ7_copyOfRange_39247 18 = .ok (.invokevirtual 310, 3) := by decide +kernel
theorem dJ7_copyOfRange_39247_21 : decode cJ7_copyOfRange_39247 21 = .ok (.checkcast 311, 3) := by decide +kernel
theorem dJ7_copyOfRange_39247_24 : decode cJ7_copyOfRange_39247 24 = .ok (.areturn, 1) := by decide +kernel
theorem dJ0_coder_7d493_0 : decode cJ0_coder_7d493 0 = .ok (.getstatic 38, 3) := by decide +kernel
theorem dJ0_coder_7d493_3 : decode cJ0_coder_7d493 3 = .ok (.ifCond .eq 10, 3) := by decide +kernel
theorem dJ0_coder_7d493_6 : decode cJ0_coder_7d493 6 = .ok (.aload_n 0, 1) := by decide +kernel
theorem dJ0_coder_7d493_7 : decode cJ0_coder_7d493 7 = .ok (.getfield 15, 3) := by decide +kernel
theorem dJ0_coder_7d493_10 : decode cJ0_coder_7d493 10 = .ok (.goto 4, 3) := by decide +kernel
theorem dJ0_coder_7d493_14 : decode cJ0_coder_7d493 14 = .ok (.ireturn, 1) := by decide +kernel
theorem dJ0_length_8abf5_0 : decode cJ0_length_8abf5 0 = .ok (.aload_n 0, 1) := by decide +kernel
theorem dJ0_length_8abf5_1 : decode cJ0_length_8abf5 1 = .ok (.getfield 9, 3) := by decide +kernel
theorem dJ0_length_8abf5_4 : decode cJ0_length_8abf5 4 = .ok (.arraylength, 1) := by decide +kernel
theorem dJ0_length_8abf5_5 : decode cJ0_length_8abf5 5 = .ok (.aload_n 0, 1) := by decide +kernel
theorem dJ0_length_8abf5_6 : decode cJ0_length_8abf5 6 = .ok (.invokevirtual 335, 3) := by decide +kernel
theorem dJ0_length_8abf5_9 : decode cJ0_length_8abf5 9 = .ok (.ishr, 1) := by decide +kernel
theorem dJ0_length_8abf5_10 : decode cJ0_length_8abf5 10 = .ok (.ireturn, 1) := by decide +kernel
theorem dJ5_inflateIfNeededFor_a7421_0 : decode cJ5_inflateIfNeededFor_a7421 0 = .ok (.getstatic 18, 3) := by decide +kernel
theorem dJ5_inflateIfNeededFor_a7421_3 : decode cJ5_inflateIfNeededFor_a7421 3 = .ok (.ifCond .eq 18, 3) := by decide +kernel
theorem dJ5_inflateIfNeededFor_a7421_6 : decode cJ5_inflateIfNeededFor_a7421 6 = .ok (.aload_n 0, 1) := by decide +kernel
theorem dJ5_inflateIfNeededFor_a7421_7 : decode cJ5_inflateIfNeededFor_a7421 7 = .ok (.getfield 22, 3) := by decide +kernel
theorem dJ5_inflateIfNeededFor_a7421_10 : decode cJ5_inflateIfNeededFor_a7421 10 = .ok (.aload_n 1, 1) := by decide +kernel
theorem dJ5_inflateIfNeededFor_a7421_11 : decode cJ5_inflateIfNeededFor_a7421 11 = .ok (.invokevirtual 40, 3) := by decide +kernel
theorem dJ5_inflateIfNeededFor_a7421_14 : decode cJ5_inflateIfNeededFor_a7421 14 = .ok (.if_icmp .eq 7, 3) := by decide +kernel
theorem dJ5_inflateIfNeededFor_a7421_21 : decode cJ5_inflateIfNeededFor_a7421 21 = .ok (.return_, 1) := by decide +kernel
theorem dJ0_getBytes_840e7_0 : decode cJ0_getBytes_840e7 0 = .ok (.aload_n 0, 1) := by decide +kernel
theorem dJ0_getBytes_840e7_1 : decode cJ0_getBytes_840e7 1 = .ok (.invokevirtual 335, 3) := by decide +kernel
theorem dJ0_getBytes_840e7_4 : decode cJ0_getBytes_840e7 4 = .ok (.iload_n 3, 1) := by decide +kernel
theorem dJ0_getBytes_840e7_5 : decode cJ0_getBytes_840e7 5 = .ok (.if_icmp .ne 23, 3) := by decide +kernel
theorem dJ0_getBytes_840e7_8 : decode cJ0_getBytes_840e7 8 = .ok (.aload_n 0, 1) := by decide +kernel
theorem dJ0_getBytes_840e7_9 : decode cJ0_getBytes_840e7 9 = .ok (.getfield 9, 3) := by decide +kernel
theorem dJ0_getBytes_840e7_12 : decode cJ0_getBytes_840e7 12 = .ok (.iconst 0, 1) := by decide +kernel
theorem dJ0_getBytes_840e7_13 : decode cJ0_getBytes_840e7 13 = .ok (.aload_n 1, 1) := by decide +kernel
theorem dJ0_getBytes_840e7_14 : decode cJ0_getBytes_840e7 14 = .ok (.iload_n 2, 1) := by decide +kernel
theorem dJ0_getBytes_840e7_15 : decode cJ0_getBytes_840e7 15 = .ok (.iload_n 3, 1) := by decide +kernel
theorem dJ0_getBytes_840e7_16 : decode cJ0_getBytes_840e7 16 = .ok (.ishl, 1) := by decide +kernel
theorem dJ0_getBytes_840e7_17 : decode cJ0_getBytes_840e7 17 = .ok (.aload_n 0, 1) := by decide +kernel
theorem dJ0_getBytes_840e7_18 : decode cJ0_getBytes_840e7 18 = .ok (.getfield 9, 3) := by decide +kernel
theorem dJ0_getBytes_840e7_21 : decode cJ0_getBytes_840e7 21 = .ok (.arraylength, 1) := by decide +kernel
theorem dJ0_getBytes_840e7_22 : decode cJ0_getBytes_840e7 22 = .ok (.invokestatic 212, 3) := by decide +kernel
theorem dJ0_getBytes_840e7_25 : decode cJ0_getBytes_840e7 25 = .ok (.goto 18, 3) := by decide +kernel
theorem dJ0_getBytes_840e7_43 : decode cJ0_getBytes_840e7 43 = .ok (.return_, 1) := by decide +kernel
theorem dJ5_putStringAt_47b60_0 : decode cJ5_putStringAt_47b60 0 = .ok (.aload_n 0, 1) := by decide +kernel
theorem dJ5_putStringAt_47b60_1 : decode cJ5_putStringAt_47b60 1 = .ok (.aload_n 2, 1) := by decide +kernel
theorem dJ5_putStringAt_47b60_2 : decode cJ5_putStringAt_47b60 2 = .ok (.invokevirtual 397, 3) := by decide +kernel
theorem dJ5_putStringAt_47b60_5 : decode cJ5_putStringAt_47b60 5 = .ok (.aload_n 2, 1) := by decide +kernel
theorem dJ5_putStringAt_47b60_6 : decode cJ5_putStringAt_47b60 6 = .ok (.aload_n 0, 1) := by decide +kernel
theorem dJ5_putStringAt_47b60_7 : decode cJ5_putStringAt_47b60 7 = .ok (.getfield 15, 3) := by decide +kernel
theorem dJ5_putStringAt_47b60_10 : decode cJ5_putStringAt_47b60 10 = .ok (.iload_n 1, 1) := by decide +kernel
theorem dJ5_putStringAt_47b60_11 : decode cJ5_putStringAt_47b60 11 = .ok (.aload_n 0, 1) := by decide +kernel
theorem dJ5_putStringAt_47b60_12 : decode cJ5_putStringAt_47b60 12 = .ok (.getfield 22, 3) := by decide +kernel
theorem dJ5_putStringAt_47b60_15 : decode cJ5_putStringAt_47b60 15 = .ok (.invokevirtual 399, 3) := by decide +kernel
theorem dJ5_putStringAt_47b60_18 : decode cJ5_putStringAt_47b60 18 = .ok (.return_, 1) := by decide +kernel
theorem dJ5_append_cf1ce_0 : decode cJ5_append_cf1ce 0 = .ok (.aload_n 1, 1) := by decide +kernel
theorem dJ5_append_cf1ce_1 : decode cJ5_append_cf1ce 1 = .ok (.ifnonnull 8, 3) := by decide +kernel
theorem dJ5_append_cf1ce_9 : decode cJ5_append_cf1ce 9 = .ok (.aload_n 1, 1) := by decide +kernel
theorem dJ5_append_cf1ce_10 : decode cJ5_append_cf1ce 10 = .ok (.invokevirtual 32, 3) := by decide +kernel
theorem dJ5_append_cf1ce_13 : decode cJ5_append_cf1ce 13 = .ok (.istore_n 2, 1) := by decide +kernel
theorem dJ5_append_cf1ce_14 : decode cJ5_append_cf1ce 14 = .ok (.aload_n 0, 1) := by decide +kernel
theorem dJ5_append_cf1ce_15 : decode cJ5_append_cf1ce 15 = .ok (.aload_n 0, 1) := by decide +kernel
theorem dJ5_append_cf1ce_16 : decode cJ5_append_cf1ce 16 = .ok (.getfield 79, 3) := by decide +kernel
theorem dJ5_append_cf1ce_19 : decode cJ5_append_cf1ce 19 = .ok (.iload_n 2, 1) := by decide +kernel
theorem dJ5_append_cf1ce_20 : decode cJ5_append_cf1ce 20 = .ok (.iadd, 1) := by decide +kernel
theorem dJ5_append_cf1ce_21 : decode cJ5_append_cf1ce 21 = .ok (.invokevirtual 100, 3) := by decide +kernel
theorem dJ5_append_cf1ce_24 : decode cJ5_append_cf1ce 24 = .ok (.aload_n 0, 1) := by decide +kernel
theorem dJ5_append_cf1ce_25 : decode cJ5_append_cf1ce 25 = .ok (.aload_n 0, 1) := by decide +kernel
theorem dJ5_append_cf1ce_26 : decode cJ5_append_cf1ce 26 = .ok (.getfield 79, 3) := by decide +kernel
theorem dJ5_append_cf1ce_29 : decode cJ5_append_cf1ce 29 = .ok (.aload_n 1, 1) := by decide +kernel
theorem dJ5_append_cf1ce_30 : decode cJ5_append_cf1ce 30 = .ok (.invokevirtual 208, 3) := by decide +kernel
theorem dJ5_append_cf1ce_33 : decode cJ5_append_cf1ce 33 = .ok (.aload_n 0, 1) := by decide +kernel
theorem dJ5_append_cf1ce_34 : decode cJ5_append_cf1ce 34 = .ok (.dup, 1) := by decide +kernel
theorem dJ5_append_cf1ce_35 : decode cJ5_append_cf1ce 35 = .ok (.getfield 79, 3) := by decide +kernel
theorem dJ5_append_cf1ce_38 : decode cJ5_append_cf1ce 38 = .ok (.iload_n 2, 1) := by decide +kernel
theorem dJ5_append_cf1ce_39 : decode cJ5_append_cf1ce 39 = .ok (.iadd, 1) := by decide +kernel
theorem dJ5_append_cf1ce_40 : decode cJ5_append_cf1ce 40 = .ok (.putfield 79, 3) := by decide +kernel
theorem dJ5_append_cf1ce_43 : decode cJ5_append_cf1ce 43 = .ok (.aload_n 0, 1) := by decide +kernel
theorem dJ5_append_cf1ce_44 : decode cJ5_append_cf1ce 44 = .ok (.areturn, 1) := by decide +kernel
theorem dJ4_append_15ec4_0 : decode cJ4_append_15ec4 0 = .ok (.aload_n 0, 1) := by decide +kernel
theorem dJ4_append_15ec4_1 : decode cJ4_append_15ec4 1 = .ok (.aload_n 1, 1) := by decide +kernel
theorem dJ4_append_15ec4_2 : decode cJ4_append_15ec4 2 = .ok (.invokespecial 29, 3) := by decide +kernel
theorem dJ4_append_15ec4_5 : decode cJ4_append_15ec4 5 = .ok (.pop, 1) := by decide +kernel
theorem dJ4_append_15ec4_6 : decode cJ4_append_15ec4 6 = .ok (.aload_n 0, 1) := by decide +kernel
theorem dJ4_append_15ec4_7 : decode cJ4_append_15ec4 7 = .ok (.areturn, 1) := by decide +kernel
theorem dJ6_stringSize_0f7a4_0 : decode cJ6_stringSize_0f7a4 0 = .ok (.iconst 1, 1) := by decide +kernel
theorem dJ6_stringSize_0f7a4_1 : decode cJ6_stringSize_0f7a4 1 = .ok (.istore_n 1, 1) := by decide +kernel
theorem dJ6_stringSize_0f7a4_2 : decode cJ6_stringSize_0f7a4 2 = .ok (.iload_n 0, 1) := by decide +kernel
theorem dJ6_stringSize_0f7a4_3 : decode cJ6_stringSize_0f7a4 3 = .ok (.ifCond .lt 8, 3) := by decide +kernel
theorem dJ6_stringSize_0f7a4_6 : decode cJ6_stringSize_0f7a4 6 = .ok (.iconst 0, 1) := by decide +kernel
theorem dJ6_stringSize_0f7a4_7 : decode cJ6_stringSize_0f7a4 7 = .ok (.istore_n 1, 1) := by decide +kernel
theorem dJ6_stringSize_0f7a4_8 : decode cJ6_stringSize_0f7a4 8 = .ok (.iload_n 0, 1) := by decide +kernel
theorem dJ6_stringSize_0f7a4_9 : decode cJ6_stringSize_0f7a4 9 = .ok (.ineg, 1) := by decide +kernel
theorem dJ6_stringSize_0f7a4_10 : decode cJ6_stringSize_0f7a4 10 = .ok (.istore_n 0, 1) := by decide +kernel
theorem dJ6_stringSize_0f7a4_11 : decode cJ6_stringSize_0f7a4 11 = .ok (.bipush (-10), 2) := by decide +kernel
theorem dJ6_stringSize_0f7a4_13 : decode cJ6_stringSize_0f7a4 13 = .ok (.istore_n 2, 1) := by decide +kernel
theorem dJ6_stringSize_0f7a4_14 : decode cJ6_stringSize_0f7a4 14 = .ok (.iconst 1, 1) := by decide +kernel
theorem dJ6_stringSize_0f7a4_15 : decode cJ6_stringSize_0f7a4 15 = .ok (.istore_n 3, 1) := by decide +kernel
theorem dJ6_stringSize_0f7a4_16 : decode cJ6_stringSize_0f7a4 16 = .ok (.iload_n 3, 1) := by decide +kernel
theorem dJ6_stringSize_0f7a4_17 : decode cJ6_stringSize_0f7a4 17 = .ok (.bipush 10, 2) := by decide +kernel
theorem dJ6_stringSize_0f7a4_19 : decode cJ6_stringSize_0f7a4 19 = .ok (.if_icmp .ge 23, 3) := by decide +kernel
theorem dJ6_stringSize_0f7a4_22 : decode cJ6_stringSize_0f7a4 22 = .ok (.iload_n 0, 1) := by decide +kernel
theorem dJ6_stringSize_0f7a4_23 : decode cJ6_stringSize_0f7a4 23 = .ok (.iload_n 2, 1) := by decide +kernel
theorem dJ6_stringSize_0f7a4_24 : decode cJ6_stringSize_0f7a4 24 = .ok (.if_icmp .le 7, 3) := by decide +kernel
theorem dJ6_stringSize_0f7a4_27 : decode cJ6_stringSize_0f7a4 27 = .ok (.iload_n 3, 1) := by decide +kernel
theorem dJ6_stringSize_0f7a4_28 : decode cJ6_stringSize_0f7a4 28 = .ok (.iload_n 1, 1) := by decide +kernel
theorem dJ6_stringSize_0f7a4_29 : decode cJ6_stringSize_0f7a4 29 = .ok (.iadd, 1) := by decide +kernel
theorem dJ6_stringSize_0f7a4_30 : decode cJ6_stringSize_0f7a4 30 = .ok (.ireturn, 1) := by decide +kernel
theorem dJ6_stringSize_0f7a4_31 : decode cJ6_stringSize_0f7a4 31 = .ok (.bipush 10, 2) := by decide +kernel
theorem dJ6_stringSize_0f7a4_33 : decode cJ6_stringSize_0f7a4 33 = .ok (.iload_n 2, 1) := by decide +kernel
theorem dJ6_stringSize_0f7a4_34 : decode cJ6_stringSize_0f7a4 34 = .ok (.imul, 1) := by decide +kernel
theorem dJ6_stringSize_0f7a4_35 : decode cJ6_stringSize_0f7a4 35 = .ok (.istore_n 2, 1) := by decide +kernel
theorem dJ6_stringSize_0f7a4_36 : decode cJ6_stringSize_0f7a4 36 = .ok (.iinc 3 1, 3) := by decide +kernel
theorem dJ6_stringSize_0f7a4_39 : decode cJ6_stringSize_0f7a4 39 = .ok (.goto (-23), 3) := by decide +kernel
theorem dJ6_stringSize_0f7a4_42 : decode cJ6_stringSize_0f7a4 42 = .ok (.bipush 10, 2) := by decide +kernel
theorem dJ6_stringSize_0f7a4_44 : decode cJ6_stringSize_0f7a4 44 = .ok (.iload_n 1, 1) := by decide +kernel
theorem dJ6_stringSize_0f7a4_45 : decode cJ6_stringSize_0f7a4 45 = .ok (.iadd, 1) := by decide +kernel
theorem dJ6_stringSize_0f7a4_46 : decode cJ6_stringSize_0f7a4 46 = .ok (.ireturn, 1) := by decide +kernel
theorem dJ6_getChars_ba4f3_0 : decode cJ6_getChars_ba4f3 0 = .ok (.iload_n 1, 1) := by decide +kernel
theorem dJ6_getChars_ba4f3_1 : decode cJ6_getChars_ba4f3 1 = .ok (.istore 5, 2) := by decide +kernel
theorem dJ6_getChars_ba4f3_3 : decode cJ6_getChars_ba4f3 3 = .ok (.iload_n 0, 1) := by decide +kernel
theorem dJ6_getChars_ba4f3_4 : decode cJ6_getChars_ba4f3 4 = .ok (.ifCond .ge 7, 3) := by decide +kernel
theorem dJ6_getChars_ba4f3_11 : decode cJ6_getChars_ba4f3 11 = .ok (.iconst 0, 1) := by decide +kernel
theorem dJ6_getChars_ba4f3_12 : decode cJ6_getChars_ba4f3 12 = .ok (.istore 6, 2) := by decide +kernel
theorem dJ6_getChars_ba4f3_14 : decode cJ6_getChars_ba4f3 14 = .ok (.iload 6, 2) := by decide +kernel
theorem dJ6_getChars_ba4f3_16 : decode cJ6_getChars_ba4f3 16 = .ok (.ifCond .ne 6, 3) := by decide +kernel
theorem dJ6_getChars_ba4f3_19 : decode cJ6_getChars_ba4f3 19 = .ok (.iload_n 0, 1) := by decide +kernel
theorem dJ6_getChars_ba4f3_20 : decode cJ6_getChars_ba4f3 20 = .ok (.ineg, 1) := by decide +kernel
theorem dJ6_getChars_ba4f3_21 : decode cJ6_getChars_ba4f3 21 = .ok (.istore_n 0, 1) := by decide +kernel
theorem dJ6_getChars_ba4f3_22 : decode cJ6_getChars_ba4f3 22 = .ok (.iload_n 0, 1) := by decide +kernel
theorem dJ6_getChars_ba4f3_23 : decode cJ6_getChars_ba4f3 23 = .ok (.bipush (-100), 2) := by decide +kernel
theorem dJ6_getChars_ba4f3_25 : decode cJ6_getChars_ba4f3 25 = .ok (.if_icmp .gt 47, 3) := by decide +kernel
theorem dJ6_getChars_ba4f3_28 : decode cJ6_getChars_ba4f3 28 = .ok (.iload_n 0, 1) := by decide +kernel
theorem dJ6_getChars_ba4f3_29 : decode cJ6_getChars_ba4f3 29 = .ok (.bipush 100, 2) := by decide +kernel
theorem dJ6_getChars_ba4f3_31 : decode cJ6_getChars_ba4f3 31 = .ok (.idiv, 1) := by decide +kernel
theorem dJ6_getChars_ba4f3_32 : decode cJ6_getChars_ba4f3 32 = .ok (.istore_n 3, 1) := by decide +kernel
theorem dJ6_getChars_ba4f3_33 : decode cJ6_getChars_ba4f3 33 = .ok (.iload_n 3, 1) := by decide +kernel
theorem dJ6_getChars_ba4f3_34 : decode cJ6_getChars_ba4f3 34 = .ok (.bipush 100, 2) := by decide +kernel
theorem dJ6_getChars_ba4f3_36 : decode cJ6_getChars_ba4f3 36 = .ok (.imul, 1) := by decide +kernel
theorem dJ6_getChars_ba4f3_37 : decode cJ6_getChars_ba4f3 37 = .ok (.iload_n 0, 1) := by decide +kernel
theorem dJ6_getChars_ba4f3_38 : decode cJ6_getChars_ba4f3 38 = .ok (.isub, 1) := by decide +kernel
theorem dJ6_getChars_ba4f3_39 : decode cJ6_getChars_ba4f3 39 = .ok (.istore 4, 2) := by decide +kernel
theorem dJ6_getChars_ba4f3_41 : decode cJ6_getChars_ba4f3 41 = .ok (.iload_n 3, 1) := by decide +kernel
theorem dJ6_getChars_ba4f3_42 : decode cJ6_getChars_ba4f3 42 = .ok (.istore_n 0, 1) := by decide +kernel
theorem dJ6_getChars_ba4f3_43 : decode cJ6_getChars_ba4f3 43 = .ok (.aload_n 2, 1) := by decide +kernel
theorem dJ6_getChars_ba4f3_44 : decode cJ6_getChars_ba4f3 44 = .ok (.iinc 5 (-1), 3) := by decide +kernel
theorem dJ6_getChars_ba4f3_47 : decode cJ6_getChars_ba4f3 47 = .ok (.iload 5, 2) := by decide +kernel
theorem dJ6_getChars_ba4f3_49 : decode cJ6_getChars_ba4f3 49 = .ok (.getstatic 83, 3) := by decide +kernel
theorem dJ6_getChars_ba4f3_52 : decode cJ6_getChars_ba4f3 52 = .ok (.iload 4, 2) := by decide +kernel
theorem dJ6_getChars_ba4f3_54 : decode cJ6_getChars_ba4f3 54 = .ok (.baload, 1) := by decide +kernel
theorem dJ6_getChars_ba4f3_55 : decode cJ6_getChars_ba4f3 55 = .ok (.bastore, 1) := by decide +kernel
theorem dJ6_getChars_ba4f3_56 : decode cJ6_getChars_ba4f3 56 = .ok (.aload_n 2, 1) := by decide +kernel
theorem dJ6_getChars_ba4f3_57 : decode cJ6_getChars_ba4f3 57 = .ok (.iinc 5 (-1), 3) := by decide +kernel
theorem dJ6_getChars_ba4f3_60 : decode cJ6_getChars_ba4f3 60 = .ok (.iload 5, 2) := by decide +kernel
theorem dJ6_getChars_ba4f3_62 : decode cJ6_getChars_ba4f3 62 = .ok (.getstatic 87, 3) := by decide +kernel
theorem dJ6_getChars_ba4f3_65 : decode cJ6_getChars_ba4f3 65 = .ok (.iload 4, 2) := by decide +kernel
theorem dJ6_getChars_ba4f3_67 : decode cJ6_getChars_ba4f3 67 = .ok (.baload, 1) := by decide +kernel
theorem dJ6_getChars_ba4f3_68 : decode cJ6_getChars_ba4f3 68 = .ok (.bastore, 1) := by decide +kernel
theorem dJ6_getChars_ba4f3_69 : decode cJ6_getChars_ba4f3 69 = .ok (.goto (-47), 3) := by decide +kernel
theorem dJ6_getChars_ba4f3_72 : decode cJ6_getChars_ba4f3 72 = .ok (.aload_n 2, 1) := by decide +kernel
theorem dJ6_getChars_ba4f3_73 : decode cJ6_getChars_ba4f3 73 = .ok (.iinc 5 (-1), 3) := by decide +kernel
theorem dJ6_getChars_ba4f3_76 : decode cJ6_getChars_ba4f3 76 = .ok (.iload 5, 2) := by decide +kernel
theorem dJ6_getChars_ba4f3_78 : decode cJ6_getChars_ba4f3 78 = .ok (.getstatic 83, 3) := by decide +kernel
theorem dJ6_getChars_ba4f3_81 : decode cJ6_getChars_ba4f3 81 = .ok (.iload_n 0, 1) := by decide +kernel
theorem dJ6_getChars_ba4f3_82 : decode cJ6_getChars_ba4f3 82 = .ok (.ineg, 1) := by decide +kernel
theorem dJ6_getChars_ba4f3_83 : decode cJ6_getChars_ba4f3 83 = .ok (.baload, 1) := by decide +kernel
theorem dJ6_getChars_ba4f3_84 : decode cJ6_getChars_ba4f3 84 = .ok (.bastore, 1) := by decide +kernel
theorem dJ6_getChars_ba4f3_85 : decode cJ6_getChars_ba4f3 85 = .ok (.iload_n 0, 1) := by decide +kernel
theorem dJ6_getChars_ba4f3_86 : decode cJ6_getChars_ba4f3 86 = .ok (.bipush (-9), 2) := by decide +kernel
theorem dJ6_getChars_ba4f3_88 : decode cJ6_getChars_ba4f3 88 = .ok (.if_icmp .ge 16, 3) := by decide +kernel
theorem dJ6_getChars_ba4f3_91 : decode cJ6_getChars_ba4f3 91 = .ok (.aload_n 2, 1) := by decide +kernel
theorem dJ6_getChars_ba4f3_92 : decode cJ6_getChars_ba4f3 92 = .ok (.iinc 5 (-1), 3) := by decide +kernel
theorem dJ6_getChars_ba4f3_95 : decode cJ6_getChars_ba4f3 95 = .ok (.iload 5, 2) := by decide +kernel
theorem dJ6_getChars_ba4f3_97 : decode cJ6_getChars_ba4f3 97 = .ok (.getstatic 87, 3) := by decide +kernel
theorem dJ6_getChars_ba4f3_100 : decode cJ6_getChars_ba4f3 100 = .ok (.iload_n 0, 1) := by decide +kernel
theorem dJ6_getChars_ba4f3_101 : decode cJ6_getChars_ba4f3 101 = .ok (.ineg, 1) := by decide +kernel
theorem dJ6_getChars_ba4f3_102 : decode cJ6_getChars_ba4f3 102 = .ok (.baload, 1) := by decide +kernel
theorem dJ6_getChars_ba4f3_103 : decode cJ6_getChars_ba4f3 103 = .ok (.bastore, 1) := by decide +kernel
theorem dJ6_getChars_ba4f3_104 : decode cJ6_getChars_ba4f3 104 = .ok (.iload 6, 2) := by decide +kernel
theorem dJ6_getChars_ba4f3_106 : decode cJ6_getChars_ba4f3 106 = .ok (.ifCond .eq 12, 3) := by decide +kernel
theorem dJ6_getChars_ba4f3_118 : decode cJ6_getChars_ba4f3 118 = .ok (.iload 5, 2) := by decide +kernel
theorem dJ6_getChars_ba4f3_120 : decode cJ6_getChars_ba4f3 120 = .ok (.ireturn, 1) := by decide +kernel
theorem dJ5_append_c97b9_0 : decode cJ5_append_c97b9 0 = .ok (.aload_n 0, 1) := by decide +kernel
theorem dJ5_append_c97b9_1 : decode cJ5_append_c97b9 1 = .ok (.getfield 79, 3) := by decide +kernel
theorem dJ5_append_c97b9_4 : decode cJ5_append_c97b9 4 = .ok (.istore_n 2, 1) := by decide +kernel
theorem dJ5_append_c97b9_5 : decode cJ5_append_c97b9 5 = .ok (.iload_n 2, 1) := by decide +kernel
theorem dJ5_append_c97b9_6 : decode cJ5_append_c97b9 6 = .ok (.iload_n 1, 1) := by decide +kernel
theorem dJ5_append_c97b9_7 : decode cJ5_append_c97b9 7 = .ok (.invokestatic 245, 3) := by decide +kernel
theorem dJ5_append_c97b9_10 : decode cJ5_append_c97b9 10 = .ok (.iadd, 1) := by decide +kernel
theorem dJ5_append_c97b9_11 : decode cJ5_append_c97b9 11 = .ok (.istore_n 3, 1) := by decide +kernel
theorem dJ5_append_c97b9_12 : decode cJ5_append_c97b9 12 = .ok (.aload_n 0, 1) := by decide +kernel
theorem dJ5_append_c97b9_13 : decode cJ5_append_c97b9 13 = .ok (.iload_n 3, 1) := by decide +kernel
theorem dJ5_append_c97b9_14 : decode cJ5_append_c97b9 14 = .ok (.invokevirtual 100, 3) := by decide +kernel
theorem dJ5_append_c97b9_17 : decode cJ5_append_c97b9 17 = .ok (.aload_n 0, 1) := by decide +kernel
theorem dJ5_append_c97b9_18 : decode cJ5_append_c97b9 18 = .ok (.invokevirtual 83, 3) := by decide +kernel
theorem dJ5_append_c97b9_21 : decode cJ5_append_c97b9 21 = .ok (.ifCond .eq 16, 3) := by decide +kernel
theorem dJ5_append_c97b9_24 : decode cJ5_append_c97b9 24 = .ok (.iload_n 1, 1) := by decide +kernel
theorem dJ5_append_c97b9_25 : decode cJ5_append_c97b9 25 = .ok (.iload_n 3, 1) := by decide +kernel
theorem dJ5_append_c97b9_26 : decode cJ5_append_c97b9 26 = .ok (.aload_n 0, 1) := by decide +kernel
theorem dJ5_append_c97b9_27 : decode cJ5_append_c97b9 27 = .ok (.getfield 15, 3) := by decide +kernel
theorem dJ5_append_c97b9_30 : decode cJ5_append_c97b9 30 = .ok (.invokestatic 248, 3) := by decide +kernel
theorem dJ5_append_c97b9_33 : decode cJ5_append_c97b9 33 = .ok (.pop, 1) := by decide +kernel
theorem dJ5_append_c97b9_34 : decode cJ5_append_c97b9 34 = .ok (.goto 14, 3) := by decide +kernel
theorem dJ5_append_c97b9_48 : decode cJ5_append_c97b9 48 = .ok (.aload_n 0, 1) := by decide +kernel
theorem dJ5_append_c97b9_49 : decode cJ5_append_c97b9 49 = .ok (.iload_n 3, 1) := by decide +kernel
theorem dJ5_append_c97b9_50 : decode cJ5_append_c97b9 50 = .ok (.putfield 79, 3) := by decide +kernel
theorem dJ5_append_c97b9_53 : decode cJ5_append_c97b9 53 = .ok (.aload_n 0, 1) := by decide +kernel
theorem dJ5_append_c97b9_54 : decode cJ5_append_c97b9 54 = .ok (.areturn, 1) := by decide +kernel
theorem dJ4_append_bf812_0 : decode cJ4_append_bf812 0 = .ok (.aload_n 0, 1) := by decide +kernel
theorem dJ4_append_bf812_1 : decode cJ4_append_bf812 1 = .ok (.iload_n 1, 1) := by decide +kernel
theorem dJ4_append_bf812_2 : decode cJ4_append_bf812 2 = .ok (.invokespecial 53, 3) := by decide +kernel
theorem dJ4_append_bf812_5 : decode cJ4_append_bf812 5 = .ok (.pop, 1) := by decide +kernel
theorem dJ4_append_bf812_6 : decode cJ4_append_bf812 6 = .ok (.aload_n 0, 1) := by decide +kernel
theorem dJ4_append_bf812_7 : decode cJ4_append_bf812 7 = .ok (.areturn, 1) := by decide +kernel
set_option maxRecDepth 20000 in
theorem c_J7_checkLength_df160 (l : Launch) (G : zG) {M : zM}  {d : Nat}  (hd : d ≤ 65536) : z_Mv l G qJ7_checkLength_df160 (z_rm 1 0 0) [.int 0, .int (nI d)] M (fun M' => M' = M)  := by
  refine z_Mv_of _ (by decide +kernel) rfl (Nat.le_of_ble_eq_true rfl) (fun X hl hG hnm C ret => ?_)
  subst hl; subst hG
  have C : z_C X cJ7_checkLength_df160 RJ7 2 (z_rm 1 0 0) := C
  show z_W X M 0 0 0 [(0, .int 0), (1, .int (nI d))] []
  refine z_iload_n C dJ7_checkLength_df160_0 rfl 1 rfl ?_
  refine z_iload_n C dJ7_checkLength_df160_1 rfl 0 rfl ?_
  refine z_icmp_ge C (tgt := 37) dJ7_checkLength_df160_2 (by decide) (fun _ => ?_) (fun c2 => absurd (nI_pos' (by omega)) c2)
  exact ret dJ7_checkLength_df160_37 (rfl) (by decide) (by decide)
set_option maxRecDepth 20000 in
theorem c_J7_copyOfRangeByte_39247 (l : Launch) (G : zG) {M : zM} {vb : Nat} {n : Nat} {f : Nat → Int32} {d : Nat} (h_vb : M vb = some (aB G n f)) (h0 : d ≤ n) (hn : n ≤ 65536) (hf : sb_Fit f) : z_Mr l G qJ7_copyOfRangeByte_39247 (z_rm 2 1 d) [.ref vb, .int 0, .int (nI d)] M (fun r M' => ∃ q10 : Nat, (M) q10 = none ∧ r = q10 ∧ M' = z_up M q10 (aB G d (va_cpy f (fun _ => 0) 0 0 d)))  := by
  refine z_Mr_of _ (by decide +kernel) rfl (by first | exact Or.inl ⟨_, rfl⟩ | exact Or.inr ⟨_, rfl⟩) (Nat.le_of_ble_eq_true rfl) (fun X hl hG hnm C ret => ?_)
  subst hl; subst hG
  have C : z_C X cJ7_copyOfRangeByte_39247 RJ7 5 (z_rm 2 1 d) := C
  show z_W X M 0 0 0 [(0, .ref vb), (1, .int 0), (2, .int (nI d))] []
  refine z_iload_n C dJ7_copyOfRangeByte_39247_0 rfl 1 rfl ?_
  refine z_iload_n C dJ7_copyOfRangeByte_39247_1 rfl 2 rfl ?_
  refine z_callSv (rest := []) (k' := 0) (n' := 0) C (c_J7_checkLength_df160 (z_l X) (z_G X) (by omega)) (cs_J7_343 C ⟨Nat.le_of_ble_eq_true rfl, Nat.le_of_ble_eq_true rfl⟩) rfl rfl (Nat.le_of_ble_eq_true rfl) rfl rfl (Nat.le_of_ble_eq_true rfl) (by show _ ≤ d; omega) dJ7_copyOfRangeByte_39247_2 (fun M' hq => ?_)
  obtain rfl := hq
  refine z_iload_n C dJ7_copyOfRangeByte_39247_5 rfl 2 rfl ?_
  refine z_iload_n C dJ7_copyOfRangeByte_39247_6 rfl 1 rfl ?_
  refine z_isub C dJ7_copyOfRangeByte_39247_7 ?_
  rw [show (((nI d) - 0) : Int32) = nI d from (j_sub0 _)]
  refine z_istore_n (lv' := [(3, .int (nI d)), (0, .ref vb), (1, .int 0), (2, .int (nI d))]) C dJ7_copyOfRangeByte_39247_8 rfl (by decide) rfl ?_
  refine z_iload_n C dJ7_copyOfRangeByte_39247_9 rfl 0 rfl ?_
  refine z_newB (N := d) C kw127 (nI_pos (by omega)) (nI_clamp (by omega)) (by omega) (Nat.le_of_ble_eq_true rfl) (by show _ ≤ d; omega) dJ7_copyOfRangeByte_39247_10 (fun q10 hq10 => ?_)
  refine z_kn (k' := 1) (n' := 0 + d) rfl rfl ?_
  refine z_astore (lv' := [(4, .ref q10), (3, .int (nI d)), (0, .ref vb), (1, .int 0), (2, .int (nI d))]) C dJ7_copyOfRangeByte_39247_12 (by decide) rfl ?_
  refine z_aload_n C dJ7_copyOfRangeByte_39247_14 rfl 2 rfl ?_
  refine z_iload_n C dJ7_copyOfRangeByte_39247_15 rfl 3 rfl ?_
  refine z_aload C dJ7_copyOfRangeByte_39247_16 0 rfl ?_
  refine z_iconst C (v := 0) dJ7_copyOfRangeByte_39247_18 (by decide) ?_
  refine z_aload_n C dJ7_copyOfRangeByte_39247_19 rfl 2 rfl ?_
  refine z_alenB C (v := nI n) ((z_up_n _ _ (z_neN h_vb hq10)).trans h_vb) rfl dJ7_copyOfRangeByte_39247_20 ?_
  refine z_iload_n C dJ7_copyOfRangeByte_39247_21 rfl 3 rfl ?_
  refine z_isub C dJ7_copyOfRangeByte_39247_22 ?_
  rw [show (((nI n) - 0) : Int32) = nI n from (j_sub0 _)]
  refine z_iload_n C dJ7_copyOfRangeByte_39247_23 rfl 1 rfl ?_
  refine z_callSi (rest := [.int 0, .ref q10, .int 0, .ref vb]) (k' := 1) (n' := 0 + d) C (c_min_r (z_l X) (z_G X) (nI_le h0 (by omega))) (cs_J7_304 C ⟨Nat.le_of_ble_eq_true rfl, Nat.le_of_ble_eq_true rfl⟩) rfl rfl (Nat.le_of_ble_eq_true rfl) rfl rfl (Nat.le_of_ble_eq_true rfl) (by show _ ≤ d; omega) dJ7_copyOfRangeByte_39247_24 (fun x24 M' hq => ?_)
  obtain ⟨rfl, rfl⟩ := hq
  refine z_copyN 0 0 d C kw233 ((z_up_n _ _ (z_neN h_vb hq10)).trans h_vb) (z_up_s _ _ _) (by decide) (by decide) (nI_pos (by omega)) (by decide) (by decide) (nI_clamp (by omega)) (by omega) (by omega) hf ⟨Nat.le_of_ble_eq_true rfl, Nat.le_of_ble_eq_true rfl⟩ (Nat.le_of_ble_eq_true rfl) dJ7_copyOfRangeByte_39247_27 ?_
  rw [z_up_up]
  refine z_aload C dJ7_copyOfRangeByte_39247_30 0 rfl ?_
  exact ret dJ7_copyOfRangeByte_39247_32 (⟨q10, hq10, rfl, rfl⟩) (Nat.le_of_ble_eq_true rfl) (by show _ ≤ d; omega)
set_option maxRecDepth 20000 in
theorem c_J7_copyOfRange_39247 (l : Launch) (G : zG) {M : zM} {vb : Nat} {n : Nat} {f : Nat → Int32} {d : Nat} (h_vb : M vb = some (aB G n f)) (h0 : d ≤ n) (hn : n ≤ 65536) (hf : sb_Fit f) : z_Mr l G qJ7_copyOfRange_39247 (z_rm 3 1 d) [.ref vb, .int 0, .int (nI d)] M (fun r M' => ∃ (f9 : Nat → Int32) (q9 : Nat), M q9 = none ∧ (sb_Fit f9) ∧ (j_Cp f9 f d) ∧ r = q9 ∧ M' = z_up M q9 (aB G d f9))  := by
  refine z_Mr_of _ (by decide +kernel) rfl (by first | exact Or.inl ⟨_, rfl⟩ | exact Or.inr ⟨_, rfl⟩) (Nat.le_of_ble_eq_true rfl) (fun X hl hG hnm C ret => ?_)
  subst hl; subst hG
  have C : z_C X cJ7_copyOfRange_39247 RJ7 3 (z_rm 3 1 d) := C
  show z_W X M 0 0 0 [(0, .ref vb), (1, .int 0), (2, .int (nI d))] []
  refine z_iload_n C dJ7_copyOfRange_39247_0 rfl 1 rfl ?_
  refine z_if_ne C (tgt := 10) dJ7_copyOfRange_39247_1 (by decide) (fun c1 => absurd (by decide) c1) (fun _ => ?_)
  refine z_iload_n C dJ7_copyOfRange_39247_4 rfl 2 rfl ?_
  refine z_aload_n C dJ7_copyOfRange_39247_5 rfl 0 rfl ?_
  refine z_alenB C (v := nI n) h_vb rfl dJ7_copyOfRange_39247_6 ?_
  refine z_icmp_eq C (tgt := 17) dJ7_copyOfRange_39247_7 (by decide) (fun c7 => ?_) (fun c7 => ?_)
  · refine z_aload_n C dJ7_copyOfRange_39247_17 rfl 0 rfl ?_
    refine z_clone (rest := []) C kw223 h_vb hf ⟨Nat.le_of_ble_eq_true rfl, Nat.le_of_ble_eq_true rfl⟩ (Nat.le_of_ble_eq_true rfl) (Nat.le_of_ble_eq_true rfl) (by show _ ≤ d; have e9 := j_inj (by omega) (by omega) c7; omega) dJ7_copyOfRange_39247_18 (fun q18 hq18 => ?_)
    refine z_kn (k' := 1) (n' := 0 + n) rfl rfl ?_
    refine z_castB C kw229 (z_up_s _ _ _) dJ7_copyOfRange_39247_21 ?_
    refine ret dJ7_copyOfRange_39247_24 ?_ (Nat.le_of_ble_eq_true rfl) (by show _ ≤ d; have e9 := j_inj (by omega) (by omega) c7; omega)
    have e9 := j_inj (a := d) (b := n) (by omega) (by omega) c7
    exact ⟨f, _, hq18, hf, j_Cp_rf _ _, rfl, by rw [e9]⟩
  · refine z_aload_n C dJ7_copyOfRange_39247_10 rfl 0 rfl ?_
    refine z_iload_n C dJ7_copyOfRange_39247_11 rfl 1 rfl ?_
    refine z_iload_n C dJ7_copyOfRange_39247_12 rfl 2 rfl ?_
    refine z_callSr (rest := []) (k' := 1) (n' := 0 + d) C (c_J7_copyOfRangeByte_39247 (z_l X) (z_G X) h_vb h0 hn hf) (cs_J7_339 C ⟨Nat.le_of_ble_eq_true rfl, Nat.le_of_ble_eq_true rfl⟩) rfl rfl (Nat.le_of_ble_eq_true rfl) rfl rfl (Nat.le_of_ble_eq_true rfl) (by show _ ≤ d; omega) dJ7_copyOfRange_39247_13 (fun x13 M' hq => ?_)
    obtain ⟨q10_13, hq10_13, hr13, rfl⟩ := hq
    rw [hr13]
    refine ret dJ7_copyOfRange_39247_16 ?_ (Nat.le_of_ble_eq_true rfl) (by show _ ≤ d; omega)
    exact ⟨_, _, hq10_13, sb_fitC hf sb_fit0, j_Cp_cpy _ _, rfl, rfl⟩
set_option maxRecDepth 20000 in
theorem c_coderK (l : Launch) (G : zG) {M : zM}  {i : Nat}  (hi : i < 5) : z_Mi l G qJ0_coder_7d493 (z_rm 1 0 0) [.ref (zK G i)] M (fun r M' => r = 0 ∧ M' = M)  := by
  refine z_Mi_of _ (by decide +kernel) rfl (Nat.le_of_ble_eq_true rfl) (fun X hl hG hnm C ret => ?_)
  subst hl; subst hG
  have C : z_C X cJ0_coder_7d493 RJ0 1 (z_rm 1 0 0) := C
  show z_W X M 0 0 0 [(0, .ref (zK (z_G X) i))] []
  refine z_gsZ C kw275 dJ0_coder_7d493_0 ?_
  refine z_if_eq C (tgt := 13) dJ0_coder_7d493_3 (by decide) (fun c3 => absurd c3 (by decide)) (fun _ => ?_)
  refine z_aload_n C dJ0_coder_7d493_6 rfl 0 rfl ?_
  refine z_getKc C kw458 hi dJ0_coder_7d493_7 ?_
  refine z_goto C (tgt := 14) dJ0_coder_7d493_10 (by decide) ?_
  exact ret dJ0_coder_7d493_14 rfl (⟨rfl, rfl⟩) (by decide) (by decide)
set_option maxRecDepth 20000 in
theorem c_lenK (l : Launch) (G : zG) {M : zM}  {i : Nat}  (hi : i < 5) : z_Mi l G qJ0_length_8abf5 (z_rm 2 0 0) [.ref (zK G i)] M (fun r M' => r = nI (z_kln i) ∧ M' = M)  := by
  refine z_Mi_of _ (by decide +kernel) rfl (Nat.le_of_ble_eq_true rfl) (fun X hl hG hnm C ret => ?_)
  subst hl; subst hG
  have C : z_C X cJ0_length_8abf5 RJ0 1 (z_rm 2 0 0) := C
  show z_W X M 0 0 0 [(0, .ref (zK (z_G X) i))] []
  refine z_aload_n C dJ0_length_8abf5_0 rfl 0 rfl ?_
  refine z_getKv C kw457 hi dJ0_length_8abf5_1 ?_
  refine z_alenK C hi dJ0_length_8abf5_4 ?_
  refine z_aload_n C dJ0_length_8abf5_5 rfl 0 rfl ?_
  refine z_callKi (rest := [.int (nI (z_kln i))]) (k' := 0) (n' := 0) C (c_coderK (z_l X) (z_G X) hi) (cs_J0_335 C (by decide)) hi rfl trivial rfl rfl (Nat.le_of_ble_eq_true rfl) rfl rfl (by decide) (by decide) dJ0_length_8abf5_6 (fun x6 M' hq => ?_)
  obtain ⟨rfl, rfl⟩ := hq
  refine z_ishr C dJ0_length_8abf5_9 ?_
  rw [sb_shr0]
  exact ret dJ0_length_8abf5_10 rfl (⟨rfl, rfl⟩) (by decide) (by decide)
set_option maxRecDepth 20000 in
theorem c_J5_inflateIfNeededFor_a7421 (l : Launch) (G : zG) {M : zM} {sb : Nat} {vb : Nat} {ml : Int32} {i c : Nat} (h_sb : M sb = some (cSb vb 0 ml (nI c))) (hi : i < 5) : z_Mv l G qJ5_inflateIfNeededFor_a7421 (z_rm 2 0 0) [.ref sb, .ref (zK G i)] M (fun M' => M' = M)  := by
  refine z_Mv_of _ (by decide +kernel) rfl (Nat.le_of_ble_eq_true rfl) (fun X hl hG hnm C ret => ?_)
  subst hl; subst hG
  have C : z_C X cJ5_inflateIfNeededFor_a7421 RJ5 2 (z_rm 2 0 0) := C
  show z_W X M 0 0 0 [(0, .ref sb), (1, .ref (zK (z_G X) i))] []
  refine z_gsZ C kw104 dJ5_inflateIfNeededFor_a7421_0 ?_
  refine z_if_eq C (tgt := 21) dJ5_inflateIfNeededFor_a7421_3 (by decide) (fun c3 => absurd c3 (by decide)) (fun _ => ?_)
  refine z_aload_n C dJ5_inflateIfNeededFor_a7421_6 rfl 0 rfl ?_
  refine gf_J5_22 C h_sb dJ5_inflateIfNeededFor_a7421_7 ?_
  refine z_aload_n C dJ5_inflateIfNeededFor_a7421_10 rfl 1 rfl ?_
  refine z_callKi (rest := [.int 0]) (k' := 0) (n' := 0) C (c_coderK (z_l X) (z_G X) hi) (cs_J5_40 C (by decide)) hi rfl trivial rfl rfl (Nat.le_of_ble_eq_true rfl) rfl rfl (by decide) (by decide) dJ5_inflateIfNeededFor_a7421_11 (fun x11 M' hq => ?_)
  obtain ⟨rfl, rfl⟩ := hq
  refine z_icmp_eq C (tgt := 21) dJ5_inflateIfNeededFor_a7421_14 (by decide) (fun _ => ?_) (fun c14 => absurd (by decide) c14)
  exact ret dJ5_inflateIfNeededFor_a7421_21 (rfl) (by decide) (by decide)
set_option maxRecDepth 20000 in
theorem c_J0_getBytes_840e7 (l : Launch) (G : zG) {M : zM} {vb : Nat} {n : Nat} {f : Nat → Int32} {i c : Nat} (h_vb : M vb = some (aB G n f)) (hi : i < 5) (h0 : c + z_kln i ≤ n) (hn : n ≤ 65536) : z_Mv l G qJ0_getBytes_840e7 (z_rm 2 0 0) [.ref (zK G i), .ref vb, .int (nI c), .int 0] M (fun M' => M' = z_up M vb (aB G n (va_cpy (z_kby i) f 0 c (z_kln i))))  := by
  refine z_Mv_of _ (by decide +kernel) rfl (Nat.le_of_ble_eq_true rfl) (fun X hl hG hnm C ret => ?_)
  subst hl; subst hG
  have C : z_C X cJ0_getBytes_840e7 RJ0 4 (z_rm 2 0 0) := C
  show z_W X M 0 0 0 [(0, .ref (zK (z_G X) i)), (1, .ref vb), (2, .int (nI c)), (3, .int 0)] []
  refine z_aload_n C dJ0_getBytes_840e7_0 rfl 0 rfl ?_
  refine z_callKi (rest := []) (k' := 0) (n' := 0) C (c_coderK (z_l X) (z_G X) hi) (cs_J0_335 C (by decide)) hi rfl trivial rfl rfl (Nat.le_of_ble_eq_true rfl) rfl rfl (by decide) (by decide) dJ0_getBytes_840e7_1 (fun x1 M' hq => ?_)
  obtain ⟨rfl, rfl⟩ := hq
  refine z_iload_n C dJ0_getBytes_840e7_4 rfl 3 rfl ?_
  refine z_icmp_ne C (tgt := 28) dJ0_getBytes_840e7_5 (by decide) (fun c5 => absurd (by decide) c5) (fun _ => ?_)
  refine z_aload_n C dJ0_getBytes_840e7_8 rfl 0 rfl ?_
  refine z_getKv C kw457 hi dJ0_getBytes_840e7_9 ?_
  refine z_iconst C (v := 0) dJ0_getBytes_840e7_12 (by decide) ?_
  refine z_aload_n C dJ0_getBytes_840e7_13 rfl 1 rfl ?_
  refine z_iload_n C dJ0_getBytes_840e7_14 rfl 2 rfl ?_
  refine z_iload_n C dJ0_getBytes_840e7_15 rfl 3 rfl ?_
  refine z_ishl C dJ0_getBytes_840e7_16 ?_
  rw [sb_shl0]
  refine z_aload_n C dJ0_getBytes_840e7_17 rfl 0 rfl ?_
  refine z_getKv C kw457 hi dJ0_getBytes_840e7_18 ?_
  refine z_alenK C hi dJ0_getBytes_840e7_21 ?_
  refine z_copyK (z_kln i) c C hi kw308 h_vb (nI_pos (by omega)) (nI_pos (by omega)) (nI_clamp (by omega)) (nI_clamp (by omega)) (Nat.le_refl _) h0 ⟨Nat.le_of_ble_eq_true rfl, Nat.le_of_ble_eq_true rfl⟩ (Nat.le_of_ble_eq_true rfl) dJ0_getBytes_840e7_22 ?_
  refine z_goto C (tgt := 43) dJ0_getBytes_840e7_25 (by decide) ?_
  exact ret dJ0_getBytes_840e7_43 (rfl) (by decide) (by decide)
set_option maxRecDepth 20000 in
theorem c_J5_putStringAt_47b60 (l : Launch) (G : zG) {M : zM} {sb : Nat} {vb : Nat} {ml : Int32} {n : Nat} {f : Nat → Int32} {i c : Nat} (h_sb : M sb = some (cSb vb 0 ml (nI c))) (h_vb : M vb = some (aB G n f)) (hi : i < 5) (h0 : c + z_kln i ≤ n) (hn : n ≤ 65536) : z_Mv l G qJ5_putStringAt_47b60 (z_rm 3 0 0) [.ref sb, .int (nI c), .ref (zK G i)] M (fun M' => M' = z_up M vb (aB G n (va_cpy (z_kby i) f 0 c (z_kln i))))  := by
  refine z_Mv_of _ (by decide +kernel) rfl (Nat.le_of_ble_eq_true rfl) (fun X hl hG hnm C ret => ?_)
  subst hl; subst hG
  have C : z_C X cJ5_putStringAt_47b60 RJ5 3 (z_rm 3 0 0) := C
  show z_W X M 0 0 0 [(0, .ref sb), (1, .int (nI c)), (2, .ref (zK (z_G X) i))] []
  refine z_aload_n C dJ5_putStringAt_47b60_0 rfl 0 rfl ?_
  refine z_aload_n C dJ5_putStringAt_47b60_1 rfl 2 rfl ?_
  refine z_callUv (rest := []) (k' := 0) (n' := 0) C (c_J5_inflateIfNeededFor_a7421 (z_l X) (z_G X) h_sb hi) (cs_J5_397 C (by decide)) h_sb trivial trivial rfl rfl (Nat.le_of_ble_eq_true rfl) rfl rfl (by decide) (by decide) dJ5_putStringAt_47b60_2 (fun M' hq => ?_)
  obtain rfl := hq
  refine z_aload_n C dJ5_putStringAt_47b60_5 rfl 2 rfl ?_
  refine z_aload_n C dJ5_putStringAt_47b60_6 rfl 0 rfl ?_
  refine gf_J5_15 C h_sb dJ5_putStringAt_47b60_7 ?_
  refine z_iload_n C dJ5_putStringAt_47b60_10 rfl 1 rfl ?_
  refine z_aload_n C dJ5_putStringAt_47b60_11 rfl 0 rfl ?_
  refine gf_J5_22 C h_sb dJ5_putStringAt_47b60_12 ?_
  refine z_callKv (rest := []) (k' := 0) (n' := 0) C (c_J0_getBytes_840e7 (z_l X) (z_G X) h_vb hi h0 hn) (cs_J5_399 C (by decide)) hi rfl trivial rfl rfl (Nat.le_of_ble_eq_true rfl) rfl rfl (by decide) (by decide) dJ5_putStringAt_47b60_15 (fun M' hq => ?_)
  obtain rfl := hq
  exact ret dJ5_putStringAt_47b60_18 (rfl) (by decide) (by decide)
set_option maxRecDepth 20000 in
theorem c_apS5_fit (l : Launch) (G : zG) {M : zM} {sb : Nat} {vb : Nat} {ml : Int32} {n : Nat} {f : Nat → Int32} {i c : Nat} (h_sb : M sb = some (cSb vb 0 ml (nI c))) (h_vb : M vb = some (aB G n f)) (hi : i < 5) (h0 : c + z_kln i ≤ n) (hn : n ≤ 65536) : z_Mr l G qJ5_append_cf1ce (z_rm 4 0 0) [.ref sb, .ref (zK G i)] M (fun r M' => r = sb ∧ M' = z_up (z_up M vb (aB G n (va_cpy (z_kby i) f 0 c (z_kln i)))) sb (cSb vb 0 ml (nI (c + z_kln i))))  := by
  refine z_Mr_of _ (by decide +kernel) rfl (by first | exact Or.inl ⟨_, rfl⟩ | exact Or.inr ⟨_, rfl⟩) (Nat.le_of_ble_eq_true rfl) (fun X hl hG hnm C ret => ?_)
  subst hl; subst hG
  have C : z_C X cJ5_append_cf1ce RJ5 3 (z_rm 4 0 0) := C
  show z_W X M 0 0 0 [(0, .ref sb), (1, .ref (zK (z_G X) i))] []
  refine z_aload_n C dJ5_append_cf1ce_0 rfl 1 rfl ?_
  refine z_ifnonnull C (tgt := 9) dJ5_append_cf1ce_1 (by decide) ?_
  refine z_aload_n C dJ5_append_cf1ce_9 rfl 1 rfl ?_
  refine z_callKi (rest := []) (k' := 0) (n' := 0) C (c_lenK (z_l X) (z_G X) hi) (cs_J5_32 C (by decide)) hi rfl trivial rfl rfl (Nat.le_of_ble_eq_true rfl) rfl rfl (by decide) (by decide) dJ5_append_cf1ce_10 (fun x10 M' hq => ?_)
  obtain ⟨rfl, rfl⟩ := hq
  refine z_istore_n (lv' := [(2, .int (nI (z_kln i))), (0, .ref sb), (1, .ref (zK (z_G X) i))]) C dJ5_append_cf1ce_13 rfl (by decide) rfl ?_
  refine z_aload_n C dJ5_append_cf1ce_14 rfl 1 rfl ?_
  refine z_aload_n C dJ5_append_cf1ce_15 rfl 1 rfl ?_
  refine gf_J5_79 C h_sb dJ5_append_cf1ce_16 ?_
  refine z_iload_n C dJ5_append_cf1ce_19 rfl 0 rfl ?_
  refine z_iadd C dJ5_append_cf1ce_20 ?_
  rw [show (((nI c) + (nI (z_kln i))) : Int32) = nI (c + z_kln i) from (j_add _ _)]
  refine z_callUv (rest := []) (k' := 0) (n' := 0) C (c_ens_fit (z_l X) (z_G X) h_sb h_vb h0 hn) (cs_J5_100 C (by decide)) h_sb trivial trivial rfl rfl (Nat.le_of_ble_eq_true rfl) rfl rfl (by decide) (by decide) dJ5_append_cf1ce_21 (fun M' hq => ?_)
  obtain rfl := hq
  refine z_aload_n C dJ5_append_cf1ce_24 rfl 1 rfl ?_
  refine z_aload_n C dJ5_append_cf1ce_25 rfl 1 rfl ?_
  refine gf_J5_79 C h_sb dJ5_append_cf1ce_26 ?_
  refine z_aload_n C dJ5_append_cf1ce_29 rfl 2 rfl ?_
  refine z_callUv (rest := []) (k' := 0) (n' := 0) C (c_J5_putStringAt_47b60 (z_l X) (z_G X) h_sb h_vb hi h0 hn) (cs_J5_208 C (by decide)) h_sb trivial trivial rfl rfl (Nat.le_of_ble_eq_true rfl) rfl rfl (by decide) (by decide) dJ5_append_cf1ce_30 (fun M' hq => ?_)
  obtain rfl := hq
  refine z_aload_n C dJ5_append_cf1ce_33 rfl 1 rfl ?_
  refine z_dup C dJ5_append_cf1ce_34 rfl ?_
  refine gf_J5_79 C ((z_up_n _ _ (z_ne h_sb h_vb (by intro h; cases h))).trans h_sb) dJ5_append_cf1ce_35 ?_
  refine z_iload_n C dJ5_append_cf1ce_38 rfl 0 rfl ?_
  refine z_iadd C dJ5_append_cf1ce_39 ?_
  rw [show (((nI c) + (nI (z_kln i))) : Int32) = nI (c + z_kln i) from (j_add _ _)]
  refine pf_J5_79 C ((z_up_n _ _ (z_ne h_sb h_vb (by intro h; cases h))).trans h_sb) dJ5_append_cf1ce_40 ?_
  refine z_aload_n C dJ5_append_cf1ce_43 rfl 1 rfl ?_
  exact ret dJ5_append_cf1ce_44 (⟨rfl, rfl⟩) (by decide) (by decide)
set_option maxRecDepth 20000 in
theorem c_apS5_grow (l : Launch) (G : zG) {M : zM} {sb : Nat} {vb : Nat} {ml : Int32} {n : Nat} {f : Nat → Int32} {i c : Nat} (h_sb : M sb = some (cSb vb 0 ml (nI c))) (h_vb : M vb = some (aB G n f)) (hi : i < 5) (h0 : n < c + z_kln i) (hcn : c ≤ n) (hn : n ≤ 30000) (hf : sb_Fit f) : z_Mr l G qJ5_append_cf1ce (z_rm 5 1 (2 * n + 2)) [.ref sb, .ref (zK G i)] M (fun r M' => ∃ q15_32_21 : Nat, (M) q15_32_21 = none ∧ r = sb ∧ M' = z_up (z_up M q15_32_21 (aB G (2 * n + 2) (va_cpy (z_kby i) (va_cpy f (fun _ => 0) 0 0 n) 0 c (z_kln i)))) sb (cSb q15_32_21 0 ml (nI (c + z_kln i))))  := by
  refine z_Mr_of _ (by decide +kernel) rfl (by first | exact Or.inl ⟨_, rfl⟩ | exact Or.inr ⟨_, rfl⟩) (Nat.le_of_ble_eq_true rfl) (fun X hl hG hnm C ret => ?_)
  subst hl; subst hG
  have C : z_C X cJ5_append_cf1ce RJ5 3 (z_rm 5 1 (2 * n + 2)) := C
  show z_W X M 0 0 0 [(0, .ref sb), (1, .ref (zK (z_G X) i))] []
  have kl9 : z_kln i ≤ 1 := z_kln_in i hi
  refine z_aload_n C dJ5_append_cf1ce_0 rfl 1 rfl ?_
  refine z_ifnonnull C (tgt := 9) dJ5_append_cf1ce_1 (by decide) ?_
  refine z_aload_n C dJ5_append_cf1ce_9 rfl 1 rfl ?_
  refine z_callKi (rest := []) (k' := 0) (n' := 0) C (c_lenK (z_l X) (z_G X) hi) (cs_J5_32 C ⟨Nat.le_of_ble_eq_true rfl, Nat.le_of_ble_eq_true rfl⟩) hi rfl trivial rfl rfl (Nat.le_of_ble_eq_true rfl) rfl rfl (Nat.le_of_ble_eq_true rfl) (by show _ ≤ 2 * n + 2; omega) dJ5_append_cf1ce_10 (fun x10 M' hq => ?_)
  obtain ⟨rfl, rfl⟩ := hq
  refine z_istore_n (lv' := [(2, .int (nI (z_kln i))), (0, .ref sb), (1, .ref (zK (z_G X) i))]) C dJ5_append_cf1ce_13 rfl (by decide) rfl ?_
  refine z_aload_n C dJ5_append_cf1ce_14 rfl 1 rfl ?_
  refine z_aload_n C dJ5_append_cf1ce_15 rfl 1 rfl ?_
  refine gf_J5_79 C h_sb dJ5_append_cf1ce_16 ?_
  refine z_iload_n C dJ5_append_cf1ce_19 rfl 0 rfl ?_
  refine z_iadd C dJ5_append_cf1ce_20 ?_
  rw [show (((nI c) + (nI (z_kln i))) : Int32) = nI (c + z_kln i) from (j_add _ _)]
  refine z_callUv (rest := []) (k' := 1) (n' := 0 + (2 * n + 2)) C (c_ens_grow (z_l X) (z_G X) h_sb h_vb h0 (by omega) hn hf) (cs_J5_100 C ⟨Nat.le_of_ble_eq_true rfl, Nat.le_of_ble_eq_true rfl⟩) h_sb trivial trivial rfl rfl (Nat.le_of_ble_eq_true rfl) rfl rfl (Nat.le_of_ble_eq_true rfl) (by show _ ≤ 2 * n + 2; omega) dJ5_append_cf1ce_21 (fun M' hq => ?_)
  obtain ⟨q15_32_21, hq15_32_21, rfl⟩ := hq
  refine z_aload_n C dJ5_append_cf1ce_24 rfl 1 rfl ?_
  refine z_aload_n C dJ5_append_cf1ce_25 rfl 1 rfl ?_
  refine gf_J5_79 C (z_up_s _ _ _) dJ5_append_cf1ce_26 ?_
  refine z_aload_n C dJ5_append_cf1ce_29 rfl 2 rfl ?_
  refine z_callUv (rest := []) (k' := 1) (n' := 0 + (2 * n + 2)) C (c_J5_putStringAt_47b60 (z_l X) (z_G X) (z_up_s _ _ _) ((z_up_n _ _ (Ne.symm (z_neN h_sb hq15_32_21))).trans (z_up_s _ _ _)) hi (by omega) (by omega)) (cs_J5_208 C ⟨Nat.le_of_ble_eq_true rfl, Nat.le_of_ble_eq_true rfl⟩) (z_up_s _ _ _) trivial trivial rfl rfl (Nat.le_of_ble_eq_true rfl) rfl rfl (Nat.le_of_ble_eq_true rfl) (by show _ ≤ 2 * n + 2; omega) dJ5_append_cf1ce_30 (fun M' hq => ?_)
  obtain rfl := hq
  rw [z_up_swap _ (Ne.symm (z_neN h_sb hq15_32_21))]
  rw [z_up_up]
  refine z_aload_n C dJ5_append_cf1ce_33 rfl 1 rfl ?_
  refine z_dup C dJ5_append_cf1ce_34 rfl ?_
  refine gf_J5_79 C ((z_up_n _ _ (z_neN h_sb hq15_32_21)).trans (z_up_s _ _ _)) dJ5_append_cf1ce_35 ?_
  refine z_iload_n C dJ5_append_cf1ce_38 rfl 0 rfl ?_
  refine z_iadd C dJ5_append_cf1ce_39 ?_
  rw [show (((nI c) + (nI (z_kln i))) : Int32) = nI (c + z_kln i) from (j_add _ _)]
  rw [z_up_swap _ (z_neN h_sb hq15_32_21)]
  refine pg_J5_79 C dJ5_append_cf1ce_40 ?_
  refine z_aload_n C dJ5_append_cf1ce_43 rfl 1 rfl ?_
  exact ret dJ5_append_cf1ce_44 (⟨q15_32_21, hq15_32_21, rfl, rfl⟩) (Nat.le_of_ble_eq_true rfl) (by show _ ≤ 2 * n + 2; omega)
set_option maxRecDepth 20000 in
theorem c_apS_fit (l : Launch) (G : zG) {M : zM} {sb : Nat} {vb : Nat} {ml : Int32} {n : Nat} {f : Nat → Int32} {i c : Nat} (h_sb : M sb = some (cSb vb 0 ml (nI c))) (h_vb : M vb = some (aB G n f)) (hi : i < 5) (h0 : c + z_kln i ≤ n) (hn : n ≤ 65536) : z_Mr l G qJ4_append_15ec4 (z_rm 5 0 0) [.ref sb, .ref (zK G i)] M (fun r M' => r = sb ∧ M' = z_up (z_up M vb (aB G n (va_cpy (z_kby i) f 0 c (z_kln i)))) sb (cSb vb 0 ml (nI (c + z_kln i))))  := by
  refine z_Mr_of _ (by decide +kernel) rfl (by first | exact Or.inl ⟨_, rfl⟩ | exact Or.inr ⟨_, rfl⟩) (Nat.le_of_ble_eq_true rfl) (fun X hl hG hnm C ret => ?_)
  subst hl; subst hG
  have C : z_C X cJ4_append_15ec4 RJ4 2 (z_rm 5 0 0) := C
  show z_W X M 0 0 0 [(0, .ref sb), (1, .ref (zK (z_G X) i))] []
  refine z_aload_n C dJ4_append_15ec4_0 rfl 0 rfl ?_
  refine z_aload_n C dJ4_append_15ec4_1 rfl 1 rfl ?_
  refine z_callPr (rest := []) (k' := 0) (n' := 0) C (c_apS5_fit (z_l X) (z_G X) h_sb h_vb hi h0 hn) (cs_J4_29 C (by decide)) h_sb trivial trivial rfl rfl (Nat.le_of_ble_eq_true rfl) rfl rfl (by decide) (by decide) dJ4_append_15ec4_2 (fun x2 M' hq => ?_)
  obtain ⟨hr2, rfl⟩ := hq
  rw [hr2]
  refine z_pop C dJ4_append_15ec4_5 rfl ?_
  refine z_aload_n C dJ4_append_15ec4_6 rfl 0 rfl ?_
  exact ret dJ4_append_15ec4_7 (⟨rfl, rfl⟩) (by decide) (by decide)
set_option maxRecDepth 20000 in
theorem c_apS_grow (l : Launch) (G : zG) {M : zM} {sb : Nat} {vb : Nat} {ml : Int32} {n : Nat} {f : Nat → Int32} {i c : Nat} (h_sb : M sb = some (cSb vb 0 ml (nI c))) (h_vb : M vb = some (aB G n f)) (hi : i < 5) (h0 : n < c + z_kln i) (hcn : c ≤ n) (hn : n ≤ 30000) (hf : sb_Fit f) : z_Mr l G qJ4_append_15ec4 (z_rm 6 1 (2 * n + 2)) [.ref sb, .ref (zK G i)] M (fun r M' => ∃ q15_32_21_2 : Nat, (M) q15_32_21_2 = none ∧ r = sb ∧ M' = z_up (z_up M q15_32_21_2 (aB G (2 * n + 2) (va_cpy (z_kby i) (va_cpy f (fun _ => 0) 0 0 n) 0 c (z_kln i)))) sb (cSb q15_32_21_2 0 ml (nI (c + z_kln i))))  := by
  refine z_Mr_of _ (by decide +kernel) rfl (by first | exact Or.inl ⟨_, rfl⟩ | exact Or.inr ⟨_, rfl⟩) (Nat.le_of_ble_eq_true rfl) (fun X hl hG hnm C ret => ?_)
  subst hl; subst hG
  have C : z_C X cJ4_append_15ec4 RJ4 2 (z_rm 6 1 (2 * n + 2)) := C
  show z_W X M 0 0 0 [(0, .ref sb), (1, .ref (zK (z_G X) i))] []
  refine z_aload_n C dJ4_append_15ec4_0 rfl 0 rfl ?_
  refine z_aload_n C dJ4_append_15ec4_1 rfl 1 rfl ?_
  refine z_callPr (rest := []) (k' := 1) (n' := 0 + (2 * n + 2)) C (c_apS5_grow (z_l X) (z_G X) h_sb h_vb hi h0 hcn hn hf) (cs_J4_29 C ⟨Nat.le_of_ble_eq_true rfl, Nat.le_of_ble_eq_true rfl⟩) h_sb trivial trivial rfl rfl (Nat.le_of_ble_eq_true rfl) rfl rfl (Nat.le_of_ble_eq_true rfl) (by show _ ≤ 2 * n + 2; omega) dJ4_append_15ec4_2 (fun x2 M' hq => ?_)
  obtain ⟨q15_32_21_2, hq15_32_21_2, hr2, rfl⟩ := hq
  rw [hr2]
  refine z_pop C dJ4_append_15ec4_5 rfl ?_
  refine z_aload_n C dJ4_append_15ec4_6 rfl 0 rfl ?_
  exact ret dJ4_append_15ec4_7 (⟨q15_32_21_2, hq15_32_21_2, rfl, rfl⟩) (Nat.le_of_ble_eq_true rfl) (by show _ ≤ 2 * n + 2; omega)
set_option maxRecDepth 20000 in
theorem c_J6_stringSize_0f7a4 (l : Launch) (G : zG) {M : zM}  {v : Nat}  (hv : v < 2 ^ 31) : z_Mi l G qJ6_stringSize_0f7a4 (z_rm 1 0 0) [.int (nI v)] M (fun r M' => r = nI (sb_dg v) ∧ M' = M)  := by
  refine z_Mi_of _ (by decide +kernel) rfl (Nat.le_of_ble_eq_true rfl) (fun X hl hG hnm C ret => ?_)
  subst hl; subst hG
  have C : z_C X cJ6_stringSize_0f7a4 RJ6 4 (z_rm 1 0 0) := C
  show z_W X M 0 0 0 [(0, .int (nI v))] []
  refine z_iconst C (v := 1) dJ6_stringSize_0f7a4_0 (by decide) ?_
  refine z_istore_n (lv' := [(1, .int 1), (0, .int (nI v))]) C dJ6_stringSize_0f7a4_1 rfl (by decide) rfl ?_
  refine z_iload_n C dJ6_stringSize_0f7a4_2 rfl 1 rfl ?_
  refine z_if_lt C (tgt := 11) dJ6_stringSize_0f7a4_3 (by decide) (fun c3 => absurd c3 (nI_pos hv)) (fun _ => ?_)
  refine z_iconst C (v := 0) dJ6_stringSize_0f7a4_6 (by decide) ?_
  refine z_istore_n (lv' := [(1, .int 0), (0, .int (nI v))]) C dJ6_stringSize_0f7a4_7 rfl (by decide) rfl ?_
  refine z_iload_n C dJ6_stringSize_0f7a4_8 rfl 1 rfl ?_
  refine z_ineg C dJ6_stringSize_0f7a4_9 ?_
  refine z_istore_n (lv' := [(0, .int (-(nI v))), (1, .int 0)]) C dJ6_stringSize_0f7a4_10 rfl (by decide) rfl ?_
  refine z_bipush C (v := (-10)) dJ6_stringSize_0f7a4_11 (by decide) ?_
  refine z_istore_n (lv' := [(2, .int (-10)), (0, .int (-(nI v))), (1, .int 0)]) C dJ6_stringSize_0f7a4_13 rfl (by decide) rfl ?_
  refine z_iconst C (v := 1) dJ6_stringSize_0f7a4_14 (by decide) ?_
  refine z_istore_n (lv' := [(3, .int 1), (2, .int (-10)), (0, .int (-(nI v))), (1, .int 0)]) C dJ6_stringSize_0f7a4_15 rfl (by decide) rfl ?_
  refine z_iload_n C dJ6_stringSize_0f7a4_16 rfl 0 rfl ?_
  refine z_bipush C (v := 10) dJ6_stringSize_0f7a4_17 (by decide) ?_
  refine z_icmp_ge C (tgt := 42) dJ6_stringSize_0f7a4_19 (by decide) (fun c19 => absurd c19 (by decide)) (fun _ => ?_)
  refine z_iload_n C dJ6_stringSize_0f7a4_22 rfl 2 rfl ?_
  refine z_iload_n C dJ6_stringSize_0f7a4_23 rfl 1 rfl ?_
  refine z_icmp_le C (tgt := 31) dJ6_stringSize_0f7a4_24 (by decide) (fun c24 => ?_) (fun c24 => ?_)
  · have e1 := j_le (k := 10) hv (by decide) (by decide) c24
    refine z_bipush C (v := 10) dJ6_stringSize_0f7a4_31 (by decide) ?_
    refine z_iload_n C dJ6_stringSize_0f7a4_33 rfl 1 rfl ?_
    refine z_imul C dJ6_stringSize_0f7a4_34 ?_
    rw [show ((10 * (-10)) : Int32) = (-100) from (by decide)]
    refine z_istore_n (lv' := [(2, .int (-100)), (3, .int 1), (0, .int (-(nI v))), (1, .int 0)]) C dJ6_stringSize_0f7a4_35 rfl (by decide) rfl ?_
    refine z_iinc (v := 2) (lv' := [(3, .int 2), (2, .int (-100)), (0, .int (-(nI v))), (1, .int 0)]) C dJ6_stringSize_0f7a4_36 1 rfl (by decide) (by decide) rfl ?_
    refine z_goto C (tgt := 16) dJ6_stringSize_0f7a4_39 (by decide) ?_
    refine z_iload_n C dJ6_stringSize_0f7a4_16 rfl 0 rfl ?_
    refine z_bipush C (v := 10) dJ6_stringSize_0f7a4_17 (by decide) ?_
    refine z_icmp_ge C (tgt := 42) dJ6_stringSize_0f7a4_19 (by decide) (fun c19 => absurd c19 (by decide)) (fun _ => ?_)
    refine z_iload_n C dJ6_stringSize_0f7a4_22 rfl 2 rfl ?_
    refine z_iload_n C dJ6_stringSize_0f7a4_23 rfl 1 rfl ?_
    refine z_icmp_le C (tgt := 31) dJ6_stringSize_0f7a4_24 (by decide) (fun c24 => ?_) (fun c24 => ?_)
    · have e2 := j_le (k := 100) hv (by decide) (by decide) c24
      refine z_bipush C (v := 10) dJ6_stringSize_0f7a4_31 (by decide) ?_
      refine z_iload_n C dJ6_stringSize_0f7a4_33 rfl 1 rfl ?_
      refine z_imul C dJ6_stringSize_0f7a4_34 ?_
      rw [show ((10 * (-100)) : Int32) = (-1000) from (by decide)]
      refine z_istore_n (lv' := [(2, .int (-1000)), (3, .int 2), (0, .int (-(nI v))), (1, .int 0)]) C dJ6_stringSize_0f7a4_35 rfl (by decide) rfl ?_
      refine z_iinc (v := 3) (lv' := [(3, .int 3), (2, .int (-1000)), (0, .int (-(nI v))), (1, .int 0)]) C dJ6_stringSize_0f7a4_36 1 rfl (by decide) (by decide) rfl ?_
      refine z_goto C (tgt := 16) dJ6_stringSize_0f7a4_39 (by decide) ?_
      refine z_iload_n C dJ6_stringSize_0f7a4_16 rfl 0 rfl ?_
      refine z_bipush C (v := 10) dJ6_stringSize_0f7a4_17 (by decide) ?_
      refine z_icmp_ge C (tgt := 42) dJ6_stringSize_0f7a4_19 (by decide) (fun c19 => absurd c19 (by decide)) (fun _ => ?_)
      refine z_iload_n C dJ6_stringSize_0f7a4_22 rfl 2 rfl ?_
      refine z_iload_n C dJ6_stringSize_0f7a4_23 rfl 1 rfl ?_
      refine z_icmp_le C (tgt := 31) dJ6_stringSize_0f7a4_24 (by decide) (fun c24 => ?_) (fun c24 => ?_)
      · have e3 := j_le (k := 1000) hv (by decide) (by decide) c24
        refine z_bipush C (v := 10) dJ6_stringSize_0f7a4_31 (by decide) ?_
        refine z_iload_n C dJ6_stringSize_0f7a4_33 rfl 1 rfl ?_
        refine z_imul C dJ6_stringSize_0f7a4_34 ?_
        rw [show ((10 * (-1000)) : Int32) = (-10000) from (by decide)]
        refine z_istore_n (lv' := [(2, .int (-10000)), (3, .int 3), (0, .int (-(nI v))), (1, .int 0)]) C dJ6_stringSize_0f7a4_35 rfl (by decide) rfl ?_
        refine z_iinc (v := 4) (lv' := [(3, .int 4), (2, .int (-10000)), (0, .int (-(nI v))), (1, .int 0)]) C dJ6_stringSize_0f7a4_36 1 rfl (by decide) (by decide) rfl ?_
        refine z_goto C (tgt := 16) dJ6_stringSize_0f7a4_39 (by decide) ?_
        refine z_iload_n C dJ6_stringSize_0f7a4_16 rfl 0 rfl ?_
        refine z_bipush C (v := 10) dJ6_stringSize_0f7a4_17 (by decide) ?_
        refine z_icmp_ge C (tgt := 42) dJ6_stringSize_0f7a4_19 (by decide) (fun c19 => absurd c19 (by decide)) (fun _ => ?_)
        refine z_iload_n C dJ6_stringSize_0f7a4_22 rfl 2 rfl ?_
        refine z_iload_n C dJ6_stringSize_0f7a4_23 rfl 1 rfl ?_
        refine z_icmp_le C (tgt := 31) dJ6_stringSize_0f7a4_24 (by decide) (fun c24 => ?_) (fun c24 => ?_)
        · have e4 := j_le (k := 10000) hv (by decide) (by decide) c24
          refine z_bipush C (v := 10) dJ6_stringSize_0f7a4_31 (by decide) ?_
          refine z_iload_n C dJ6_stringSize_0f7a4_33 rfl 1 rfl ?_
          refine z_imul C dJ6_stringSize_0f7a4_34 ?_
          rw [show ((10 * (-10000)) : Int32) = (-100000) from (by decide)]
          refine z_istore_n (lv' := [(2, .int (-100000)), (3, .int 4), (0, .int (-(nI v))), (1, .int 0)]) C dJ6_stringSize_0f7a4_35 rfl (by decide) rfl ?_
          refine z_iinc (v := 5) (lv' := [(3, .int 5), (2, .int (-100000)), (0, .int (-(nI v))), (1, .int 0)]) C dJ6_stringSize_0f7a4_36 1 rfl (by decide) (by decide) rfl ?_
          refine z_goto C (tgt := 16) dJ6_stringSize_0f7a4_39 (by decide) ?_
          refine z_iload_n C dJ6_stringSize_0f7a4_16 rfl 0 rfl ?_
          refine z_bipush C (v := 10) dJ6_stringSize_0f7a4_17 (by decide) ?_
          refine z_icmp_ge C (tgt := 42) dJ6_stringSize_0f7a4_19 (by decide) (fun c19 => absurd c19 (by decide)) (fun _ => ?_)
          refine z_iload_n C dJ6_stringSize_0f7a4_22 rfl 2 rfl ?_
          refine z_iload_n C dJ6_stringSize_0f7a4_23 rfl 1 rfl ?_
          refine z_icmp_le C (tgt := 31) dJ6_stringSize_0f7a4_24 (by decide) (fun c24 => ?_) (fun c24 => ?_)
          · have e5 := j_le (k := 100000) hv (by decide) (by decide) c24
            refine z_bipush C (v := 10) dJ6_stringSize_0f7a4_31 (by decide) ?_
            refine z_iload_n C dJ6_stringSize_0f7a4_33 rfl 1 rfl ?_
            refine z_imul C dJ6_stringSize_0f7a4_34 ?_
            rw [show ((10 * (-100000)) : Int32) = (-1000000) from (by decide)]
            refine z_istore_n (lv' := [(2, .int (-1000000)), (3, .int 5), (0, .int (-(nI v))), (1, .int 0)]) C dJ6_stringSize_0f7a4_35 rfl (by decide) rfl ?_
            refine z_iinc (v := 6) (lv' := [(3, .int 6), (2, .int (-1000000)), (0, .int (-(nI v))), (1, .int 0)]) C dJ6_stringSize_0f7a4_36 1 rfl (by decide) (by decide) rfl ?_
            refine z_goto C (tgt := 16) dJ6_stringSize_0f7a4_39 (by decide) ?_
            refine z_iload_n C dJ6_stringSize_0f7a4_16 rfl 0 rfl ?_
            refine z_bipush C (v := 10) dJ6_stringSize_0f7a4_17 (by decide) ?_
            refine z_icmp_ge C (tgt := 42) dJ6_stringSize_0f7a4_19 (by decide) (fun c19 => absurd c19 (by decide)) (fun _ => ?_)
            refine z_iload_n C dJ6_stringSize_0f7a4_22 rfl 2 rfl ?_
            refine z_iload_n C dJ6_stringSize_0f7a4_23 rfl 1 rfl ?_
            refine z_icmp_le C (tgt := 31) dJ6_stringSize_0f7a4_24 (by decide) (fun c24 => ?_) (fun c24 => ?_)
            · have e6 := j_le (k := 1000000) hv (by decide) (by decide) c24
              refine z_bipush C (v := 10) dJ6_stringSize_0f7a4_31 (by decide) ?_
              refine z_iload_n C dJ6_stringSize_0f7a4_33 rfl 1 rfl ?_
              refine z_imul C dJ6_stringSize_0f7a4_34 ?_
              rw [show ((10 * (-1000000)) : Int32) = (-10000000) from (by decide)]
              refine z_istore_n (lv' := [(2, .int (-10000000)), (3, .int 6), (0, .int (-(nI v))), (1, .int 0)]) C dJ6_stringSize_0f7a4_35 rfl (by decide) rfl ?_
              refine z_iinc (v := 7) (lv' := [(3, .int 7), (2, .int (-10000000)), (0, .int (-(nI v))), (1, .int 0)]) C dJ6_stringSize_0f7a4_36 1 rfl (by decide) (by decide) rfl ?_
              refine z_goto C (tgt := 16) dJ6_stringSize_0f7a4_39 (by decide) ?_
              refine z_iload_n C dJ6_stringSize_0f7a4_16 rfl 0 rfl ?_
              refine z_bipush C (v := 10) dJ6_stringSize_0f7a4_17 (by decide) ?_
              refine z_icmp_ge C (tgt := 42) dJ6_stringSize_0f7a4_19 (by decide) (fun c19 => absurd c19 (by decide)) (fun _ => ?_)
              refine z_iload_n C dJ6_stringSize_0f7a4_22 rfl 2 rfl ?_
              refine z_iload_n C dJ6_stringSize_0f7a4_23 rfl 1 rfl ?_
              refine z_icmp_le C (tgt := 31) dJ6_stringSize_0f7a4_24 (by decide) (fun c24 => ?_) (fun c24 => ?_)
              · have e7 := j_le (k := 10000000) hv (by decide) (by decide) c24
                refine z_bipush C (v := 10) dJ6_stringSize_0f7a4_31 (by decide) ?_
                refine z_iload_n C dJ6_stringSize_0f7a4_33 rfl 1 rfl ?_
                refine z_imul C dJ6_stringSize_0f7a4_34 ?_
                rw [show ((10 * (-10000000)) : Int32) = (-100000000) from (by decide)]
                refine z_istore_n (lv' := [(2, .int (-100000000)), (3, .int 7), (0, .int (-(nI v))), (1, .int 0)]) C dJ6_stringSize_0f7a4_35 rfl (by decide) rfl ?_
                refine z_iinc (v := 8) (lv' := [(3, .int 8), (2, .int (-100000000)), (0, .int (-(nI v))), (1, .int 0)]) C dJ6_stringSize_0f7a4_36 1 rfl (by decide) (by decide) rfl ?_
                refine z_goto C (tgt := 16) dJ6_stringSize_0f7a4_39 (by decide) ?_
                refine z_iload_n C dJ6_stringSize_0f7a4_16 rfl 0 rfl ?_
                refine z_bipush C (v := 10) dJ6_stringSize_0f7a4_17 (by decide) ?_
                refine z_icmp_ge C (tgt := 42) dJ6_stringSize_0f7a4_19 (by decide) (fun c19 => absurd c19 (by decide)) (fun _ => ?_)
                refine z_iload_n C dJ6_stringSize_0f7a4_22 rfl 2 rfl ?_
                refine z_iload_n C dJ6_stringSize_0f7a4_23 rfl 1 rfl ?_
                refine z_icmp_le C (tgt := 31) dJ6_stringSize_0f7a4_24 (by decide) (fun c24 => ?_) (fun c24 => ?_)
                · have e8 := j_le (k := 100000000) hv (by decide) (by decide) c24
                  refine z_bipush C (v := 10) dJ6_stringSize_0f7a4_31 (by decide) ?_
                  refine z_iload_n C dJ6_stringSize_0f7a4_33 rfl 1 rfl ?_
                  refine z_imul C dJ6_stringSize_0f7a4_34 ?_
                  rw [show ((10 * (-100000000)) : Int32) = (-1000000000) from (by decide)]
                  refine z_istore_n (lv' := [(2, .int (-1000000000)), (3, .int 8), (0, .int (-(nI v))), (1, .int 0)]) C dJ6_stringSize_0f7a4_35 rfl (by decide) rfl ?_
                  refine z_iinc (v := 9) (lv' := [(3, .int 9), (2, .int (-1000000000)), (0, .int (-(nI v))), (1, .int 0)]) C dJ6_stringSize_0f7a4_36 1 rfl (by decide) (by decide) rfl ?_
                  refine z_goto C (tgt := 16) dJ6_stringSize_0f7a4_39 (by decide) ?_
                  refine z_iload_n C dJ6_stringSize_0f7a4_16 rfl 0 rfl ?_
                  refine z_bipush C (v := 10) dJ6_stringSize_0f7a4_17 (by decide) ?_
                  refine z_icmp_ge C (tgt := 42) dJ6_stringSize_0f7a4_19 (by decide) (fun c19 => absurd c19 (by decide)) (fun _ => ?_)
                  refine z_iload_n C dJ6_stringSize_0f7a4_22 rfl 2 rfl ?_
                  refine z_iload_n C dJ6_stringSize_0f7a4_23 rfl 1 rfl ?_
                  refine z_icmp_le C (tgt := 31) dJ6_stringSize_0f7a4_24 (by decide) (fun c24 => ?_) (fun c24 => ?_)
                  · have e9 := j_le (k := 1000000000) hv (by decide) (by decide) c24
                    refine z_bipush C (v := 10) dJ6_stringSize_0f7a4_31 (by decide) ?_
                    refine z_iload_n C dJ6_stringSize_0f7a4_33 rfl 1 rfl ?_
                    refine z_imul C dJ6_stringSize_0f7a4_34 ?_
                    rw [show ((10 * (-1000000000)) : Int32) = (-10000000000) from (by decide)]
                    refine z_istore_n (lv' := [(2, .int (-10000000000)), (3, .int 9), (0, .int (-(nI v))), (1, .int 0)]) C dJ6_stringSize_0f7a4_35 rfl (by decide) rfl ?_
                    refine z_iinc (v := 10) (lv' := [(3, .int 10), (2, .int (-10000000000)), (0, .int (-(nI v))), (1, .int 0)]) C dJ6_stringSize_0f7a4_36 1 rfl (by decide) (by decide) rfl ?_
                    refine z_goto C (tgt := 16) dJ6_stringSize_0f7a4_39 (by decide) ?_
                    refine z_iload_n C dJ6_stringSize_0f7a4_16 rfl 0 rfl ?_
                    refine z_bipush C (v := 10) dJ6_stringSize_0f7a4_17 (by decide) ?_
                    refine z_icmp_ge C (tgt := 42) dJ6_stringSize_0f7a4_19 (by decide) (fun _ => ?_) (fun c19 => absurd (by decide) c19)
                    refine z_bipush C (v := 10) dJ6_stringSize_0f7a4_42 (by decide) ?_
                    refine z_iload_n C dJ6_stringSize_0f7a4_44 rfl 3 rfl ?_
                    refine z_iadd C dJ6_stringSize_0f7a4_45 ?_
                    refine ret dJ6_stringSize_0f7a4_46 rfl ?_ (by decide) (by decide)
                    refine ⟨?_, rfl⟩
                    rw [show sb_dg v = 10 from by unfold sb_dg; (repeat' split) <;> omega]
                    rfl
                  · have g9 := j_gt (k := 1000000000) hv (by decide) (by decide) c24
                    refine z_iload_n C dJ6_stringSize_0f7a4_27 rfl 0 rfl ?_
                    refine z_iload_n C dJ6_stringSize_0f7a4_28 rfl 3 rfl ?_
                    refine z_iadd C dJ6_stringSize_0f7a4_29 ?_
                    refine ret dJ6_stringSize_0f7a4_30 rfl ?_ (by decide) (by decide)
                    refine ⟨?_, rfl⟩
                    rw [show sb_dg v = 9 from by unfold sb_dg; (repeat' split) <;> omega]
                    rfl
                · have g8 := j_gt (k := 100000000) hv (by decide) (by decide) c24
                  refine z_iload_n C dJ6_stringSize_0f7a4_27 rfl 0 rfl ?_
                  refine z_iload_n C dJ6_stringSize_0f7a4_28 rfl 3 rfl ?_
                  refine z_iadd C dJ6_stringSize_0f7a4_29 ?_
                  refine ret dJ6_stringSize_0f7a4_30 rfl ?_ (by decide) (by decide)
                  refine ⟨?_, rfl⟩
                  rw [show sb_dg v = 8 from by unfold sb_dg; (repeat' split) <;> omega]
                  rfl
              · have g7 := j_gt (k := 10000000) hv (by decide) (by decide) c24
                refine z_iload_n C dJ6_stringSize_0f7a4_27 rfl 0 rfl ?_
                refine z_iload_n C dJ6_stringSize_0f7a4_28 rfl 3 rfl ?_
                refine z_iadd C dJ6_stringSize_0f7a4_29 ?_
                refine ret dJ6_stringSize_0f7a4_30 rfl ?_ (by decide) (by decide)
                refine ⟨?_, rfl⟩
                rw [show sb_dg v = 7 from by unfold sb_dg; (repeat' split) <;> omega]
                rfl
            · have g6 := j_gt (k := 1000000) hv (by decide) (by decide) c24
              refine z_iload_n C dJ6_stringSize_0f7a4_27 rfl 0 rfl ?_
              refine z_iload_n C dJ6_stringSize_0f7a4_28 rfl 3 rfl ?_
              refine z_iadd C dJ6_stringSize_0f7a4_29 ?_
              refine ret dJ6_stringSize_0f7a4_30 rfl ?_ (by decide) (by decide)
              refine ⟨?_, rfl⟩
              rw [show sb_dg v = 6 from by unfold sb_dg; (repeat' split) <;> omega]
              rfl
          · have g5 := j_gt (k := 100000) hv (by decide) (by decide) c24
            refine z_iload_n C dJ6_stringSize_0f7a4_27 rfl 0 rfl ?_
            refine z_iload_n C dJ6_stringSize_0f7a4_28 rfl 3 rfl ?_
            refine z_iadd C dJ6_stringSize_0f7a4_29 ?_
            refine ret dJ6_stringSize_0f7a4_30 rfl ?_ (by decide) (by decide)
            refine ⟨?_, rfl⟩
            rw [show sb_dg v = 5 from by unfold sb_dg; (repeat' split) <;> omega]
            rfl
        · have g4 := j_gt (k := 10000) hv (by decide) (by decide) c24
          refine z_iload_n C dJ6_stringSize_0f7a4_27 rfl 0 rfl ?_
          refine z_iload_n C dJ6_stringSize_0f7a4_28 rfl 3 rfl ?_
          refine z_iadd C dJ6_stringSize_0f7a4_29 ?_
          refine ret dJ6_stringSize_0f7a4_30 rfl ?_ (by decide) (by decide)
          refine ⟨?_, rfl⟩
          rw [show sb_dg v = 4 from by unfold sb_dg; (repeat' split) <;> omega]
          rfl
      · have g3 := j_gt (k := 1000) hv (by decide) (by decide) c24
        refine z_iload_n C dJ6_stringSize_0f7a4_27 rfl 0 rfl ?_
        refine z_iload_n C dJ6_stringSize_0f7a4_28 rfl 3 rfl ?_
        refine z_iadd C dJ6_stringSize_0f7a4_29 ?_
        refine ret dJ6_stringSize_0f7a4_30 rfl ?_ (by decide) (by decide)
        refine ⟨?_, rfl⟩
        rw [show sb_dg v = 3 from by unfold sb_dg; (repeat' split) <;> omega]
        rfl
    · have g2 := j_gt (k := 100) hv (by decide) (by decide) c24
      refine z_iload_n C dJ6_stringSize_0f7a4_27 rfl 0 rfl ?_
      refine z_iload_n C dJ6_stringSize_0f7a4_28 rfl 3 rfl ?_
      refine z_iadd C dJ6_stringSize_0f7a4_29 ?_
      refine ret dJ6_stringSize_0f7a4_30 rfl ?_ (by decide) (by decide)
      refine ⟨?_, rfl⟩
      rw [show sb_dg v = 2 from by unfold sb_dg; (repeat' split) <;> omega]
      rfl
  · have g1 := j_gt (k := 10) hv (by decide) (by decide) c24
    refine z_iload_n C dJ6_stringSize_0f7a4_27 rfl 0 rfl ?_
    refine z_iload_n C dJ6_stringSize_0f7a4_28 rfl 3 rfl ?_
    refine z_iadd C dJ6_stringSize_0f7a4_29 ?_
    refine ret dJ6_stringSize_0f7a4_30 rfl ?_ (by decide) (by decide)
    refine ⟨?_, rfl⟩
    rw [show sb_dg v = 1 from by unfold sb_dg; (repeat' split) <;> omega]
    rfl
set_option maxRecDepth 20000 in
theorem lp_J6_getC {X : zX} (C : z_C X cJ6_getChars_ba4f3 RJ6 7 (z_rm 1 0 0)) {M : zM} {vb n c : Nat} {ix : Int32} (hn : n ≤ 65536) : ∀ (fuel wv pp : Nat) (ff : Nat → Int32), wv < fuel → wv < 2 ^ 31 → pp = c + sb_dg wv → pp ≤ n → sb_Fit ff → (∀ (f9 : Nat → Int32) (p9 : Nat), sb_Fit f9 → j_Dg f9 ff c (sb_dg wv) wv → z_W X (z_up M vb (aB (z_G X) n f9)) 0 0 118 [(5, .int (nI p9))] []) → z_W X (z_up M vb (aB (z_G X) n ff)) 0 0 22 [(5, .int (nI pp)), (0, .int (-nI wv)), (1, .int ix), (2, .ref vb), (6, .int 0)] [] := by
  intro fuel
  induction fuel with
  | zero => intro wv pp ff h; exact absurd h (Nat.not_lt_zero _)
  | succ fuel ih =>
    intro wv pp ff hfu hw hp hpn hff kk
    refine z_iload_n C dJ6_getChars_ba4f3_22 rfl 1 rfl ?_
    refine z_bipush C (v := (-100)) dJ6_getChars_ba4f3_23 (by decide) ?_
    refine z_icmp_gt C (tgt := 72) dJ6_getChars_ba4f3_25 (by decide) (fun c25 => ?_) (fun c25 => ?_)
    · have g1 := j_lt (k := 100) hw (by decide) (by decide) c25
      have g3 := sb_dg_in wv
      refine z_aload_n C dJ6_getChars_ba4f3_72 rfl 3 rfl ?_
      refine z_iinc (v := nI (pp - 1)) (lv' := [(5, .int (nI (pp - 1))), (0, .int (-nI wv)), (1, .int ix), (2, .ref vb), (6, .int 0)]) C dJ6_getChars_ba4f3_73 0 rfl (j_m1 (by omega)) (by decide) rfl ?_
      refine z_iload C dJ6_getChars_ba4f3_76 0 rfl ?_
      refine z_gsD1 C kw323 dJ6_getChars_ba4f3_78 (fun t78 hT78 => ?_)
      refine z_iload_n C dJ6_getChars_ba4f3_81 rfl 1 rfl ?_
      refine z_ineg C dJ6_getChars_ba4f3_82 ?_
      rw [show ((-(-nI wv)) : Int32) = nI wv from (j_nn _)]
      refine z_tb1 (j := wv) C hT78 (nI_in (by omega) (by decide)) (nI_clamp (by omega)) rfl dJ6_getChars_ba4f3_83 ?_
      refine z_bast (j := (pp - 1)) C (z_up_s _ _ _) (nI_in (by omega) (by omega)) (nI_clamp (by omega)) dJ6_getChars_ba4f3_84 ?_
      rw [z_up_up]
      refine z_iload_n C dJ6_getChars_ba4f3_85 rfl 1 rfl ?_
      refine z_bipush C (v := (-9)) dJ6_getChars_ba4f3_86 (by decide) ?_
      refine z_icmp_ge C (tgt := 104) dJ6_getChars_ba4f3_88 (by decide) (fun c88 => ?_) (fun c88 => ?_)
      · refine z_iload C dJ6_getChars_ba4f3_104 4 rfl ?_
        refine z_if_eq C (tgt := 118) dJ6_getChars_ba4f3_106 (by decide) (fun _ => ?_) (fun c106 => absurd (by decide) c106)
        refine z_fewer [0] rfl ?_
        have g2 := j_ple (k := 9) hw (by decide) (by decide) c88
        have e5 := j_dg1e g2
        exact kk _ _ (j_fitU hff _ _) (by rw [e5] at hp ⊢; exact j_Dg_1 hp (by omega))
      · have g2 := j_nle (k := 9) hw (by decide) (by decide) c88
        have g4 := j_dg2 (w := wv) (by omega)
        refine z_aload_n C dJ6_getChars_ba4f3_91 rfl 3 rfl ?_
        refine z_iinc (v := nI (pp - 1 - 1)) (lv' := [(5, .int (nI (pp - 1 - 1))), (0, .int (-nI wv)), (1, .int ix), (2, .ref vb), (6, .int 0)]) C dJ6_getChars_ba4f3_92 0 rfl (j_m1 (by omega)) (by decide) rfl ?_
        refine z_iload C dJ6_getChars_ba4f3_95 0 rfl ?_
        refine z_gsD10 C kw325 dJ6_getChars_ba4f3_97 (fun t97 hT97 => ?_)
        refine z_iload_n C dJ6_getChars_ba4f3_100 rfl 1 rfl ?_
        refine z_ineg C dJ6_getChars_ba4f3_101 ?_
        rw [show ((-(-nI wv)) : Int32) = nI wv from (j_nn _)]
        refine z_tb10 (j := wv) C hT97 (nI_in (by omega) (by decide)) (nI_clamp (by omega)) rfl dJ6_getChars_ba4f3_102 ?_
        refine z_bast (j := (pp - 1 - 1)) C (z_up_s _ _ _) (nI_in (by omega) (by omega)) (nI_clamp (by omega)) dJ6_getChars_ba4f3_103 ?_
        rw [z_up_up]
        refine z_iload C dJ6_getChars_ba4f3_104 4 rfl ?_
        refine z_if_eq C (tgt := 118) dJ6_getChars_ba4f3_106 (by decide) (fun _ => ?_) (fun c106 => absurd (by decide) c106)
        refine z_fewer [0] rfl ?_
        have e5 := j_dg2e g2 g1
        exact kk _ _ (j_fitU (j_fitU hff _ _) _ _) (by rw [e5] at hp ⊢; exact j_Dg_2 hp (by omega))
    · have g1 := j_nlt (k := 100) hw (by decide) (by decide) c25
      have g3 := j_dg3 g1 hw
      refine z_iload_n C dJ6_getChars_ba4f3_28 rfl 1 rfl ?_
      refine z_bipush C (v := 100) dJ6_getChars_ba4f3_29 (by decide) ?_
      refine z_idiv C dJ6_getChars_ba4f3_31 (by decide) ?_
      rw [show (((-nI wv) / 100) : Int32) = (-nI (wv / 100)) from (sb_ndiv hw)]
      refine z_istore_n (lv' := [(3, .int (-nI (wv / 100))), (5, .int (nI pp)), (0, .int (-nI wv)), (1, .int ix), (2, .ref vb), (6, .int 0)]) C dJ6_getChars_ba4f3_32 rfl (by decide) rfl ?_
      refine z_iload_n C dJ6_getChars_ba4f3_33 rfl 0 rfl ?_
      refine z_bipush C (v := 100) dJ6_getChars_ba4f3_34 (by decide) ?_
      refine z_imul C dJ6_getChars_ba4f3_36 ?_
      refine z_iload_n C dJ6_getChars_ba4f3_37 rfl 2 rfl ?_
      refine z_isub C dJ6_getChars_ba4f3_38 ?_
      rw [show ((((-nI (wv / 100)) * 100) - (-nI wv)) : Int32) = nI (wv % 100) from (sb_nrem hw)]
      refine z_istore (lv' := [(4, .int (nI (wv % 100))), (3, .int (-nI (wv / 100))), (5, .int (nI pp)), (0, .int (-nI wv)), (1, .int ix), (2, .ref vb), (6, .int 0)]) C dJ6_getChars_ba4f3_39 (by decide) rfl ?_
      refine z_iload_n C dJ6_getChars_ba4f3_41 rfl 1 rfl ?_
      refine z_istore_n (lv' := [(0, .int (-nI (wv / 100))), (4, .int (nI (wv % 100))), (3, .int (-nI (wv / 100))), (5, .int (nI pp)), (1, .int ix), (2, .ref vb), (6, .int 0)]) C dJ6_getChars_ba4f3_42 rfl (by decide) rfl ?_
      refine z_aload_n C dJ6_getChars_ba4f3_43 rfl 5 rfl ?_
      refine z_iinc (v := nI (pp - 1)) (lv' := [(5, .int (nI (pp - 1))), (0, .int (-nI (wv / 100))), (4, .int (nI (wv % 100))), (3, .int (-nI (wv / 100))), (1, .int ix), (2, .ref vb), (6, .int 0)]) C dJ6_getChars_ba4f3_44 3 rfl (j_m1 (by omega)) (by decide) rfl ?_
      refine z_iload C dJ6_getChars_ba4f3_47 0 rfl ?_
      refine z_gsD1 C kw323 dJ6_getChars_ba4f3_49 (fun t49 hT49 => ?_)
      refine z_iload C dJ6_getChars_ba4f3_52 2 rfl ?_
      refine z_tb1 (j := (wv % 100)) C hT49 (nI_in (by omega) (by decide)) (nI_clamp (by omega)) rfl dJ6_getChars_ba4f3_54 ?_
      refine z_bast (j := (pp - 1)) C (z_up_s _ _ _) (nI_in (by omega) (by omega)) (nI_clamp (by omega)) dJ6_getChars_ba4f3_55 ?_
      rw [z_up_up]
      refine z_aload_n C dJ6_getChars_ba4f3_56 rfl 5 rfl ?_
      refine z_iinc (v := nI (pp - 1 - 1)) (lv' := [(5, .int (nI (pp - 1 - 1))), (0, .int (-nI (wv / 100))), (4, .int (nI (wv % 100))), (3, .int (-nI (wv / 100))), (1, .int ix), (2, .ref vb), (6, .int 0)]) C dJ6_getChars_ba4f3_57 0 rfl (j_m1 (by omega)) (by decide) rfl ?_
      refine z_iload C dJ6_getChars_ba4f3_60 0 rfl ?_
      refine z_gsD10 C kw325 dJ6_getChars_ba4f3_62 (fun t62 hT62 => ?_)
      refine z_iload C dJ6_getChars_ba4f3_65 2 rfl ?_
      refine z_tb10 (j := (wv % 100)) C hT62 (nI_in (by omega) (by decide)) (nI_clamp (by omega)) rfl dJ6_getChars_ba4f3_67 ?_
      refine z_bast (j := (pp - 1 - 1)) C (z_up_s _ _ _) (nI_in (by omega) (by omega)) (nI_clamp (by omega)) dJ6_getChars_ba4f3_68 ?_
      rw [z_up_up]
      refine z_goto C (tgt := 22) dJ6_getChars_ba4f3_69 (by decide) ?_
      refine z_fewer [0, 1, 4, 5, 6] rfl ?_
      exact ih (wv / 100) (pp - 1 - 1) _ (by omega) (by omega) (by omega) (by omega) (j_fitU (j_fitU hff _ _) _ _) (fun f9 p9 h9 h8 => kk f9 p9 h9 (by rw [g3.1]; exact j_Dg_st (by omega) h8))
set_option maxRecDepth 20000 in
theorem c_J6_getChars_ba4f3 (l : Launch) (G : zG) {M : zM} {vb : Nat} {n : Nat} {f : Nat → Int32} {v c d : Nat} (h_vb : M vb = some (aB G n f)) (hv : v < 2 ^ 31) (hd : d = c + sb_dg v) (hdn : d ≤ n) (hn : n ≤ 65536) (hf : sb_Fit f) : z_Mi l G qJ6_getChars_ba4f3 (z_rm 1 0 0) [.int (nI v), .int (nI d), .ref vb] M (fun r M' => ∃ (f9 : Nat → Int32) (r9 : Int32), (sb_Fit f9) ∧ (j_Dg f9 f c (sb_dg v) v) ∧ r = r9 ∧ M' = z_up M vb (aB G n f9))  := by
  refine z_Mi_of _ (by decide +kernel) rfl (Nat.le_of_ble_eq_true rfl) (fun X hl hG hnm C ret => ?_)
  subst hl; subst hG
  have C : z_C X cJ6_getChars_ba4f3 RJ6 7 (z_rm 1 0 0) := C
  show z_W X M 0 0 0 [(0, .int (nI v)), (1, .int (nI d)), (2, .ref vb)] []
  refine z_iload_n C dJ6_getChars_ba4f3_0 rfl 1 rfl ?_
  refine z_istore (lv' := [(5, .int (nI d)), (0, .int (nI v)), (1, .int (nI d)), (2, .ref vb)]) C dJ6_getChars_ba4f3_1 (by decide) rfl ?_
  refine z_iload_n C dJ6_getChars_ba4f3_3 rfl 1 rfl ?_
  refine z_if_ge C (tgt := 11) dJ6_getChars_ba4f3_4 (by decide) (fun _ => ?_) (fun c4 => absurd (nI_pos' hv) c4)
  refine z_iconst C (v := 0) dJ6_getChars_ba4f3_11 (by decide) ?_
  refine z_istore (lv' := [(6, .int 0), (5, .int (nI d)), (0, .int (nI v)), (1, .int (nI d)), (2, .ref vb)]) C dJ6_getChars_ba4f3_12 (by decide) rfl ?_
  refine z_iload C dJ6_getChars_ba4f3_14 0 rfl ?_
  refine z_if_ne C (tgt := 22) dJ6_getChars_ba4f3_16 (by decide) (fun c16 => absurd (by decide) c16) (fun _ => ?_)
  refine z_iload_n C dJ6_getChars_ba4f3_19 rfl 2 rfl ?_
  refine z_ineg C dJ6_getChars_ba4f3_20 ?_
  refine z_istore_n (lv' := [(0, .int (-(nI v))), (6, .int 0), (5, .int (nI d)), (1, .int (nI d)), (2, .ref vb)]) C dJ6_getChars_ba4f3_21 rfl (by decide) rfl ?_
  refine z_fewer [2, 0, 3, 4, 1] rfl ?_
  refine z_at (M' := z_up M vb (aB (z_G X) n f)) (lv' := _) (z_up_id h_vb) rfl rfl ?_
  refine lp_J6_getC (c := c) C hn (v + 1) v d f (Nat.lt_succ_self _) hv hd hdn hf (fun f9 p9 h9 h8 => ?_)
  refine z_iload C dJ6_getChars_ba4f3_118 0 rfl ?_
  refine ret dJ6_getChars_ba4f3_120 rfl ?_ (by decide) (by decide)
  exact ⟨f9, _, h9, h8, rfl, rfl⟩
set_option maxRecDepth 20000 in
theorem c_apI5_fit (l : Launch) (G : zG) {M : zM} {sb : Nat} {vb : Nat} {ml : Int32} {n : Nat} {f : Nat → Int32} {c v : Nat} (h_sb : M sb = some (cSb vb 0 ml (nI c))) (h_vb : M vb = some (aB G n f)) (hv : v < 2 ^ 31) (h0 : c + sb_dg v ≤ n) (hn : n ≤ 65536) (hf : sb_Fit f) : z_Mr l G qJ5_append_c97b9 (z_rm 2 0 0) [.ref sb, .int (nI v)] M (fun r M' => ∃ f9_30 : Nat → Int32, ∃ r9_30 : Int32, (sb_Fit f9_30) ∧ (j_Dg f9_30 f c (sb_dg v) v) ∧ r = sb ∧ M' = z_up (z_up M vb (aB G n f9_30)) sb (cSb vb 0 ml (nI (c + sb_dg v))))  := by
  refine z_Mr_of _ (by decide +kernel) rfl (by first | exact Or.inl ⟨_, rfl⟩ | exact Or.inr ⟨_, rfl⟩) (Nat.le_of_ble_eq_true rfl) (fun X hl hG hnm C ret => ?_)
  subst hl; subst hG
  have C : z_C X cJ5_append_c97b9 RJ5 4 (z_rm 2 0 0) := C
  show z_W X M 0 0 0 [(0, .ref sb), (1, .int (nI v))] []
  refine z_aload_n C dJ5_append_c97b9_0 rfl 0 rfl ?_
  refine gf_J5_79 C h_sb dJ5_append_c97b9_1 ?_
  refine z_istore_n (lv' := [(2, .int (nI c)), (0, .ref sb), (1, .int (nI v))]) C dJ5_append_c97b9_4 rfl (by decide) rfl ?_
  refine z_iload_n C dJ5_append_c97b9_5 rfl 0 rfl ?_
  refine z_iload_n C dJ5_append_c97b9_6 rfl 2 rfl ?_
  refine z_callSi (rest := [.int (nI c)]) (k' := 0) (n' := 0) C (c_J6_stringSize_0f7a4 (z_l X) (z_G X) hv) (cs_J5_245 C (by decide)) rfl rfl (Nat.le_of_ble_eq_true rfl) rfl rfl (by decide) (by decide) dJ5_append_c97b9_7 (fun x7 M' hq => ?_)
  obtain ⟨rfl, rfl⟩ := hq
  refine z_iadd C dJ5_append_c97b9_10 ?_
  rw [show (((nI c) + (nI (sb_dg v))) : Int32) = nI (c + sb_dg v) from (j_add _ _)]
  refine z_istore_n (lv' := [(3, .int (nI (c + sb_dg v))), (2, .int (nI c)), (0, .ref sb), (1, .int (nI v))]) C dJ5_append_c97b9_11 rfl (by decide) rfl ?_
  refine z_aload_n C dJ5_append_c97b9_12 rfl 2 rfl ?_
  refine z_iload_n C dJ5_append_c97b9_13 rfl 0 rfl ?_
  refine z_callUv (rest := []) (k' := 0) (n' := 0) C (c_ens_fit (z_l X) (z_G X) h_sb h_vb h0 hn) (cs_J5_100 C (by decide)) h_sb trivial trivial rfl rfl (Nat.le_of_ble_eq_true rfl) rfl rfl (by decide) (by decide) dJ5_append_c97b9_14 (fun M' hq => ?_)
  obtain rfl := hq
  refine z_aload_n C dJ5_append_c97b9_17 rfl 2 rfl ?_
  refine z_callUi (rest := []) (k' := 0) (n' := 0) C (c_J5_isLatin1_aae02 (z_l X) (z_G X) h_sb) (cs_J5_83 C (by decide)) h_sb trivial trivial rfl rfl (Nat.le_of_ble_eq_true rfl) rfl rfl (by decide) (by decide) dJ5_append_c97b9_18 (fun x18 M' hq => ?_)
  obtain ⟨rfl, rfl⟩ := hq
  refine z_if_eq C (tgt := 37) dJ5_append_c97b9_21 (by decide) (fun c21 => absurd c21 (by decide)) (fun _ => ?_)
  refine z_iload_n C dJ5_append_c97b9_24 rfl 3 rfl ?_
  refine z_iload_n C dJ5_append_c97b9_25 rfl 0 rfl ?_
  refine z_aload_n C dJ5_append_c97b9_26 rfl 2 rfl ?_
  refine gf_J5_15 C h_sb dJ5_append_c97b9_27 ?_
  refine z_callSi (rest := []) (k' := 0) (n' := 0) C (c_J6_getChars_ba4f3 (z_l X) (z_G X) h_vb hv rfl h0 hn hf) (cs_J5_248 C (by decide)) rfl rfl (Nat.le_of_ble_eq_true rfl) rfl rfl (by decide) (by decide) dJ5_append_c97b9_30 (fun x30 M' hq => ?_)
  obtain ⟨f9_30, r9_30, d30_2, d30_3, hr30, rfl⟩ := hq
  rw [hr30]
  refine z_pop C dJ5_append_c97b9_33 rfl ?_
  refine z_goto C (tgt := 48) dJ5_append_c97b9_34 (by decide) ?_
  refine z_aload_n C dJ5_append_c97b9_48 rfl 2 rfl ?_
  refine z_iload_n C dJ5_append_c97b9_49 rfl 0 rfl ?_
  refine pf_J5_79 C ((z_up_n _ _ (z_ne h_sb h_vb (by intro h; cases h))).trans h_sb) dJ5_append_c97b9_50 ?_
  refine z_aload_n C dJ5_append_c97b9_53 rfl 2 rfl ?_
  exact ret dJ5_append_c97b9_54 (⟨f9_30, r9_30, d30_2, d30_3, rfl, rfl⟩) (by decide) (by decide)
set_option maxRecDepth 20000 in
theorem c_apI5_grow (l : Launch) (G : zG) {M : zM} {sb : Nat} {vb : Nat} {ml : Int32} {n : Nat} {f : Nat → Int32} {c v : Nat} (h_sb : M sb = some (cSb vb 0 ml (nI c))) (h_vb : M vb = some (aB G n f)) (hv : v < 2 ^ 31) (h0 : n < c + sb_dg v) (hcn : c ≤ n) (hn : n ≤ 30000) (h16 : 16 ≤ n) (hf : sb_Fit f) : z_Mr l G qJ5_append_c97b9 (z_rm 5 1 (2 * n + 2)) [.ref sb, .int (nI v)] M (fun r M' => ∃ f9_30 : Nat → Int32, ∃ r9_30 : Int32, ∃ q15_32_14 : Nat, (M) q15_32_14 = none ∧ (sb_Fit f9_30) ∧ (j_Dg f9_30 (va_cpy f (fun _ => 0) 0 0 n) c (sb_dg v) v) ∧ r = sb ∧ M' = z_up (z_up M q15_32_14 (aB G (2 * n + 2) f9_30)) sb (cSb q15_32_14 0 ml (nI (c + sb_dg v))))  := by
  refine z_Mr_of _ (by decide +kernel) rfl (by first | exact Or.inl ⟨_, rfl⟩ | exact Or.inr ⟨_, rfl⟩) (Nat.le_of_ble_eq_true rfl) (fun X hl hG hnm C ret => ?_)
  subst hl; subst hG
  have C : z_C X cJ5_append_c97b9 RJ5 4 (z_rm 5 1 (2 * n + 2)) := C
  show z_W X M 0 0 0 [(0, .ref sb), (1, .int (nI v))] []
  have kl9 := sb_dg_in v
  refine z_aload_n C dJ5_append_c97b9_0 rfl 0 rfl ?_
  refine gf_J5_79 C h_sb dJ5_append_c97b9_1 ?_
  refine z_istore_n (lv' := [(2, .int (nI c)), (0, .ref sb), (1, .int (nI v))]) C dJ5_append_c97b9_4 rfl (by decide) rfl ?_
  refine z_iload_n C dJ5_append_c97b9_5 rfl 0 rfl ?_
  refine z_iload_n C dJ5_append_c97b9_6 rfl 2 rfl ?_
  refine z_callSi (rest := [.int (nI c)]) (k' := 0) (n' := 0) C (c_J6_stringSize_0f7a4 (z_l X) (z_G X) hv) (cs_J5_245 C ⟨Nat.le_of_ble_eq_true rfl, Nat.le_of_ble_eq_true rfl⟩) rfl rfl (Nat.le_of_ble_eq_true rfl) rfl rfl (Nat.le_of_ble_eq_true rfl) (by show _ ≤ 2 * n + 2; omega) dJ5_append_c97b9_7 (fun x7 M' hq => ?_)
  obtain ⟨rfl, rfl⟩ := hq
  refine z_iadd C dJ5_append_c97b9_10 ?_
  rw [show (((nI c) + (nI (sb_dg v))) : Int32) = nI (c + sb_dg v) from (j_add _ _)]
  refine z_istore_n (lv' := [(3, .int (nI (c + sb_dg v))), (2, .int (nI c)), (0, .ref sb), (1, .int (nI v))]) C dJ5_append_c97b9_11 rfl (by decide) rfl ?_
  refine z_aload_n C dJ5_append_c97b9_12 rfl 2 rfl ?_
  refine z_iload_n C dJ5_append_c97b9_13 rfl 0 rfl ?_
  refine z_callUv (rest := []) (k' := 1) (n' := 0 + (2 * n + 2)) C (c_ens_grow (z_l X) (z_G X) h_sb h_vb h0 (by omega) hn hf) (cs_J5_100 C ⟨Nat.le_of_ble_eq_true rfl, Nat.le_of_ble_eq_true rfl⟩) h_sb trivial trivial rfl rfl (Nat.le_of_ble_eq_true rfl) rfl rfl (Nat.le_of_ble_eq_true rfl) (by show _ ≤ 2 * n + 2; omega) dJ5_append_c97b9_14 (fun M' hq => ?_)
  obtain ⟨q15_32_14, hq15_32_14, rfl⟩ := hq
  refine z_aload_n C dJ5_append_c97b9_17 rfl 2 rfl ?_
  refine z_callUi (rest := []) (k' := 1) (n' := 0 + (2 * n + 2)) C (c_J5_isLatin1_aae02 (z_l X) (z_G X) (z_up_s _ _ _)) (cs_J5_83 C ⟨Nat.le_of_ble_eq_true rfl, Nat.le_of_ble_eq_true rfl⟩) (z_up_s _ _ _) trivial trivial rfl rfl (Nat.le_of_ble_eq_true rfl) rfl rfl (Nat.le_of_ble_eq_true rfl) (by show _ ≤ 2 * n + 2; omega) dJ5_append_c97b9_18 (fun x18 M' hq => ?_)
  obtain ⟨rfl, rfl⟩ := hq
  refine z_if_eq C (tgt := 37) dJ5_append_c97b9_21 (by decide) (fun c21 => absurd c21 (by decide)) (fun _ => ?_)
  refine z_iload_n C dJ5_append_c97b9_24 rfl 3 rfl ?_
  refine z_iload_n C dJ5_append_c97b9_25 rfl 0 rfl ?_
  refine z_aload_n C dJ5_append_c97b9_26 rfl 2 rfl ?_
  refine gf_J5_15 C (z_up_s _ _ _) dJ5_append_c97b9_27 ?_
  refine z_callSi (rest := []) (k' := 1) (n' := 0 + (2 * n + 2)) C (c_J6_getChars_ba4f3 (z_l X) (z_G X) ((z_up_n _ _ (Ne.symm (z_neN h_sb hq15_32_14))).trans (z_up_s _ _ _)) hv rfl (by omega) (by omega) (sb_fitC hf sb_fit0)) (cs_J5_248 C ⟨Nat.le_of_ble_eq_true rfl, Nat.le_of_ble_eq_true rfl⟩) rfl rfl (Nat.le_of_ble_eq_true rfl) rfl rfl (Nat.le_of_ble_eq_true rfl) (by show _ ≤ 2 * n + 2; omega) dJ5_append_c97b9_30 (fun x30 M' hq => ?_)
  obtain ⟨f9_30, r9_30, d30_2, d30_3, hr30, rfl⟩ := hq
  rw [hr30]
  rw [z_up_swap _ (Ne.symm (z_neN h_sb hq15_32_14))]
  rw [z_up_up]
  refine z_pop C dJ5_append_c97b9_33 rfl ?_
  refine z_goto C (tgt := 48) dJ5_append_c97b9_34 (by decide) ?_
  refine z_aload_n C dJ5_append_c97b9_48 rfl 2 rfl ?_
  refine z_iload_n C dJ5_append_c97b9_49 rfl 0 rfl ?_
  rw [z_up_swap _ (z_neN h_sb hq15_32_14)]
  refine pg_J5_79 C dJ5_append_c97b9_50 ?_
  refine z_aload_n C dJ5_append_c97b9_53 rfl 2 rfl ?_
  exact ret dJ5_append_c97b9_54 (⟨f9_30, r9_30, q15_32_14, hq15_32_14, d30_2, d30_3, rfl, rfl⟩) (Nat.le_of_ble_eq_true rfl) (by show _ ≤ 2 * n + 2; omega)
set_option maxRecDepth 20000 in
theorem c_apI_fit (l : Launch) (G : zG) {M : zM} {sb : Nat} {vb : Nat} {ml : Int32} {n : Nat} {f : Nat → Int32} {c v : Nat} (h_sb : M sb = some (cSb vb 0 ml (nI c))) (h_vb : M vb = some (aB G n f)) (hv : v < 2 ^ 31) (h0 : c + sb_dg v ≤ n) (hn : n ≤ 65536) (hf : sb_Fit f) : z_Mr l G qJ4_append_bf812 (z_rm 3 0 0) [.ref sb, .int (nI v)] M (fun r M' => ∃ f9_30_2 : Nat → Int32, ∃ r9_30_2 : Int32, (sb_Fit f9_30_2) ∧ (j_Dg f9_30_2 f c (sb_dg v) v) ∧ r = sb ∧ M' = z_up (z_up M vb (aB G n f9_30_2)) sb (cSb vb 0 ml (nI (c + sb_dg v))))  := by
  refine z_Mr_of _ (by decide +kernel) rfl (by first | exact Or.inl ⟨_, rfl⟩ | exact Or.inr ⟨_, rfl⟩) (Nat.le_of_ble_eq_true rfl) (fun X hl hG hnm C ret => ?_)
  subst hl; subst hG
  have C : z_C X cJ4_append_bf812 RJ4 2 (z_rm 3 0 0) := C
  show z_W X M 0 0 0 [(0, .ref sb), (1, .int (nI v))] []
  refine z_aload_n C dJ4_append_bf812_0 rfl 0 rfl ?_
  refine z_iload_n C dJ4_append_bf812_1 rfl 1 rfl ?_
  refine z_callPr (rest := []) (k' := 0) (n' := 0) C (c_apI5_fit (z_l X) (z_G X) h_sb h_vb hv h0 hn hf) (cs_J4_53 C (by decide)) h_sb trivial trivial rfl rfl (Nat.le_of_ble_eq_true rfl) rfl rfl (by decide) (by decide) dJ4_append_bf812_2 (fun x2 M' hq => ?_)
  obtain ⟨f9_30_2, r9_30_2, d2_2, d2_3, hr2, rfl⟩ := hq
  rw [hr2]
  refine z_pop C dJ4_append_bf812_5 rfl ?_
  refine z_aload_n C dJ4_append_bf812_6 rfl 0 rfl ?_
  exact ret dJ4_append_bf812_7 (⟨f9_30_2, r9_30_2, d2_2, d2_3, rfl, rfl⟩) (by decide) (by decide)
set_option maxRecDepth 20000 in
theorem c_apI_grow (l : Launch) (G : zG) {M : zM} {sb : Nat} {vb : Nat} {ml : Int32} {n : Nat} {f : Nat → Int32} {c v : Nat} (h_sb : M sb = some (cSb vb 0 ml (nI c))) (h_vb : M vb = some (aB G n f)) (hv : v < 2 ^ 31) (h0 : n < c + sb_dg v) (hcn : c ≤ n) (hn : n ≤ 30000) (h16 : 16 ≤ n) (hf : sb_Fit f) : z_Mr l G qJ4_append_bf812 (z_rm 6 1 (2 * n + 2)) [.ref sb, .int (nI v)] M (fun r M' => ∃ f9_30_2 : Nat → Int32, ∃ r9_30_2 : Int32, ∃ q15_32_14_2 : Nat, (M) q15_32_14_2 = none ∧ (sb_Fit f9_30_2) ∧ (j_Dg f9_30_2 (va_cpy f (fun _ => 0) 0 0 n) c (sb_dg v) v) ∧ r = sb ∧ M' = z_up (z_up M q15_32_14_2 (aB G (2 * n + 2) f9_30_2)) sb (cSb q15_32_14_2 0 ml (nI (c + sb_dg v))))  := by
  refine z_Mr_of _ (by decide +kernel) rfl (by first | exact Or.inl ⟨_, rfl⟩ | exact Or.inr ⟨_, rfl⟩) (Nat.le_of_ble_eq_true rfl) (fun X hl hG hnm C ret => ?_)
  subst hl; subst hG
  have C : z_C X cJ4_append_bf812 RJ4 2 (z_rm 6 1 (2 * n + 2)) := C
  show z_W X M 0 0 0 [(0, .ref sb), (1, .int (nI v))] []
  refine z_aload_n C dJ4_append_bf812_0 rfl 0 rfl ?_
  refine z_iload_n C dJ4_append_bf812_1 rfl 1 rfl ?_
  refine z_callPr (rest := []) (k' := 1) (n' := 0 + (2 * n + 2)) C (c_apI5_grow (z_l X) (z_G X) h_sb h_vb hv h0 hcn hn h16 hf) (cs_J4_53 C ⟨Nat.le_of_ble_eq_true rfl, Nat.le_of_ble_eq_true rfl⟩) h_sb trivial trivial rfl rfl (Nat.le_of_ble_eq_true rfl) rfl rfl (Nat.le_of_ble_eq_true rfl) (by show _ ≤ 2 * n + 2; omega) dJ4_append_bf812_2 (fun x2 M' hq => ?_)
  obtain ⟨f9_30_2, r9_30_2, q15_32_14_2, hq15_32_14_2, d2_4, d2_5, hr2, rfl⟩ := hq
  rw [hr2]
  refine z_pop C dJ4_append_bf812_5 rfl ?_
  refine z_aload_n C dJ4_append_bf812_6 rfl 0 rfl ?_
  exact ret dJ4_append_bf812_7 (⟨f9_30_2, r9_30_2, q15_32_14_2, hq15_32_14_2, d2_4, d2_5, rfl, rfl⟩) (Nat.le_of_ble_eq_true rfl) (by show _ ≤ 2 * n + 2; omega)
