/-- the first j places of a row copied -/
def z_cp (f : Nat → Int32) (j : Nat) : Nat → Int32 := fun i => if i < j then f i else 0
theorem z_cp0 (f : Nat → Int32) : z_cp f 0 = fun _ => 0 := by
  funext i
  simp [z_cp]
theorem z_cpS (f : Nat → Int32) (j : Nat) : upd (z_cp f j) j (f j) = z_cp f (j + 1) := by
  funext i
  by_cases h : i = j
  · subst h; simp [z_cp, upd]
  · by_cases h1 : i < j
    · simp [z_cp, upd, h, h1, Nat.lt_succ_of_lt h1]
    · have h2 : ¬ i < j + 1 := by omega
      simp [z_cp, upd, h, h1, h2]
theorem z_rgN {x B : Int32} (h : ¬ z_is x 0 B = 0) : x = nI x.toNatClampNeg ∧ (x.toNatClampNeg : Int) ≤ B.toInt := by
  obtain ⟨h1, h2⟩ := z_is1 h
  have h3 := z_cl h1
  rw [z_le] at h2
  have h4 := fb_rng x
  refine ⟨?_, by omega⟩
  rw [z_eqI, nI_toInt (by omega)]
  omega
theorem z_lrN {t f : Int32} (h : ¬ z_lr t f = 0) : ¬ f = 0 := fun e => h (by
  unfold z_lr z_lt
  by_cases ht : t = 0 <;> simp [ht, e])
theorem z_r12 {x : Int32} (h : ¬ z_is x 0 12 = 0) : x.toNatClampNeg ≤ 12 := by
  have := (z_rgN h).2
  rw [show (12 : Int32).toInt = 12 from by decide] at this
  omega
theorem z_r20 {x : Int32} (h : ¬ z_is x 0 20 = 0) : x.toNatClampNeg ≤ 20 := by
  have := (z_rgN h).2
  rw [show (20 : Int32).toInt = 20 from by decide] at this
  omega
theorem z_exch {f : Nat → Option Nat} {i j p q : Nat} (h1 : f i = some p) (h2 : f j = some q) : va_up (va_up f i (some q)) j (some p) i = some q := by
  by_cases h : i = j
  · subst h
    rw [h1] at h2
    rw [va_up_self, h2]
  · simp [va_up, h]
theorem dX5_over_0 : decode cX5_over 0 = .ok (.bipush 8, 2) := by decide +kernel
theorem dX5_over_2 : decode cX5_over 2 = .ok (.newarray .int, 2) := by decide +kernel
theorem dX5_over_4 : decode cX5_over 4 = .ok (.dup, 1) := by decide +kernel
theorem dX5_over_5 : decode cX5_over 5 = .ok (.iconst 0, 1) := by decide +kernel
theorem dX5_over_6 : decode cX5_over 6 = .ok (.iload_n 0, 1) := by decide +kernel
theorem dX5_over_7 : decode cX5_over 7 = .ok (.iastore, 1) := by decide +kernel
theorem dX5_over_8 : decode cX5_over 8 = .ok (.dup, 1) := by decide +kernel
theorem dX5_over_9 : decode cX5_over 9 = .ok (.iconst 1, 1) := by decide +kernel
theorem dX5_over_10 : decode cX5_over 10 = .ok (.iload_n 1, 1) := by decide +kernel
theorem dX5_over_11 : decode cX5_over 11 = .ok (.iastore, 1) := by decide +kernel
theorem dX5_over_12 : decode cX5_over 12 = .ok (.dup, 1) := by decide +kernel
theorem dX5_over_13 : decode cX5_over 13 = .ok (.iconst 2, 1) := by decide +kernel
theorem dX5_over_14 : decode cX5_over 14 = .ok (.iload_n 2, 1) := by decide +kernel
theorem dX5_over_15 : decode cX5_over 15 = .ok (.iastore, 1) := by decide +kernel
theorem dX5_over_16 : decode cX5_over 16 = .ok (.dup, 1) := by decide +kernel
theorem dX5_over_17 : decode cX5_over 17 = .ok (.iconst 3, 1) := by decide +kernel
theorem dX5_over_18 : decode cX5_over 18 = .ok (.iload_n 3, 1) := by decide +kernel
theorem dX5_over_19 : decode cX5_over 19 = .ok (.iastore, 1) := by decide +kernel
theorem dX5_over_20 : decode cX5_over 20 = .ok (.dup, 1) := by decide +kernel
theorem dX5_over_21 : decode cX5_over 21 = .ok (.iconst 4, 1) := by decide +kernel
theorem dX5_over_22 : decode cX5_over 22 = .ok (.iconst 0, 1) := by decide +kernel
theorem dX5_over_23 : decode cX5_over 23 = .ok (.iastore, 1) := by decide +kernel
theorem dX5_over_24 : decode cX5_over 24 = .ok (.dup, 1) := by decide +kernel
theorem dX5_over_25 : decode cX5_over 25 = .ok (.iconst 5, 1) := by decide +kernel
theorem dX5_over_26 : decode cX5_over 26 = .ok (.iload_n 3, 1) := by decide +kernel
theorem dX5_over_27 : decode cX5_over 27 = .ok (.iastore, 1) := by decide +kernel
theorem dX5_over_28 : decode cX5_over 28 = .ok (.dup, 1) := by decide +kernel
theorem dX5_over_29 : decode cX5_over 29 = .ok (.bipush 6, 2) := by decide +kernel
theorem dX5_over_31 : decode cX5_over 31 = .ok (.iconst (-1), 1) := by decide +kernel
theorem dX5_over_32 : decode cX5_over 32 = .ok (.iastore, 1) := by decide +kernel
theorem dX5_over_33 : decode cX5_over 33 = .ok (.dup, 1) := by decide +kernel
theorem dX5_over_34 : decode cX5_over 34 = .ok (.bipush 7, 2) := by decide +kernel
theorem dX5_over_36 : decode cX5_over 36 = .ok (.iconst 0, 1) := by decide +kernel
theorem dX5_over_37 : decode cX5_over 37 = .ok (.iastore, 1) := by decide +kernel
theorem dX5_over_38 : decode cX5_over 38 = .ok (.areturn, 1) := by decide +kernel
theorem dX5_like_0 : decode cX5_like 0 = .ok (.bipush 8, 2) := by decide +kernel
theorem dX5_like_2 : decode cX5_like 2 = .ok (.newarray .int, 2) := by decide +kernel
theorem dX5_like_4 : decode cX5_like 4 = .ok (.astore_n 1, 1) := by decide +kernel
theorem dX5_like_5 : decode cX5_like 5 = .ok (.iconst 0, 1) := by decide +kernel
theorem dX5_like_6 : decode cX5_like 6 = .ok (.istore_n 2, 1) := by decide +kernel
theorem dX5_like_7 : decode cX5_like 7 = .ok (.iload_n 2, 1) := by decide +kernel
theorem dX5_like_8 : decode cX5_like 8 = .ok (.bipush 8, 2) := by decide +kernel
theorem dX5_like_10 : decode cX5_like 10 = .ok (.if_icmp .ge 15, 3) := by decide +kernel
theorem dX5_like_13 : decode cX5_like 13 = .ok (.aload_n 1, 1) := by decide +kernel
theorem dX5_like_14 : decode cX5_like 14 = .ok (.iload_n 2, 1) := by decide +kernel
theorem dX5_like_15 : decode cX5_like 15 = .ok (.aload_n 0, 1) := by decide +kernel
theorem dX5_like_16 : decode cX5_like 16 = .ok (.iload_n 2, 1) := by decide +kernel
theorem dX5_like_17 : decode cX5_like 17 = .ok (.iaload, 1) := by decide +kernel
theorem dX5_like_18 : decode cX5_like 18 = .ok (.iastore, 1) := by decide +kernel
theorem dX5_like_19 : decode cX5_like 19 = .ok (.iinc 2 1, 3) := by decide +kernel
theorem dX5_like_22 : decode cX5_like 22 = .ok (.goto (-15), 3) := by decide +kernel
theorem dX5_like_25 : decode cX5_like 25 = .ok (.aload_n 1, 1) := by decide +kernel
theorem dX5_like_26 : decode cX5_like 26 = .ok (.areturn, 1) := by decide +kernel
theorem dX5_made_0 : decode cX5_made 0 = .ok (.aload_n 0, 1) := by decide +kernel
theorem dX5_made_1 : decode cX5_made 1 = .ok (.getfield 9, 3) := by decide +kernel
theorem dX5_made_4 : decode cX5_made 4 = .ok (.arraylength, 1) := by decide +kernel
theorem dX5_made_5 : decode cX5_made 5 = .ok (.iload_n 1, 1) := by decide +kernel
theorem dX5_made_6 : decode cX5_made 6 = .ok (.iadd, 1) := by decide +kernel
theorem dX5_made_7 : decode cX5_made 7 = .ok (.newarray .int, 2) := by decide +kernel
theorem dX5_made_9 : decode cX5_made 9 = .ok (.astore_n 2, 1) := by decide +kernel
theorem dX5_made_10 : decode cX5_made 10 = .ok (.iconst 0, 1) := by decide +kernel
theorem dX5_made_11 : decode cX5_made 11 = .ok (.istore_n 3, 1) := by decide +kernel
theorem dX5_made_12 : decode cX5_made 12 = .ok (.iload_n 3, 1) := by decide +kernel
theorem dX5_made_13 : decode cX5_made 13 = .ok (.aload_n 0, 1) := by decide +kernel
theorem dX5_made_14 : decode cX5_made 14 = .ok (.getfield 9, 3) := by decide +kernel
theorem dX5_made_17 : decode cX5_made 17 = .ok (.arraylength, 1) := by decide +kernel
theorem dX5_made_18 : decode cX5_made 18 = .ok (.if_icmp .ge 18, 3) := by decide +kernel
theorem dX5_made_21 : decode cX5_made 21 = .ok (.aload_n 2, 1) := by decide +kernel
theorem dX5_made_22 : decode cX5_made 22 = .ok (.iload_n 3, 1) := by decide +kernel
theorem dX5_made_23 : decode cX5_made 23 = .ok (.aload_n 0, 1) := by decide +kernel
theorem dX5_made_24 : decode cX5_made 24 = .ok (.getfield 9, 3) := by decide +kernel
theorem dX5_made_27 : decode cX5_made 27 = .ok (.iload_n 3, 1) := by decide +kernel
theorem dX5_made_28 : decode cX5_made 28 = .ok (.iaload, 1) := by decide +kernel
theorem dX5_made_29 : decode cX5_made 29 = .ok (.iastore, 1) := by decide +kernel
theorem dX5_made_30 : decode cX5_made 30 = .ok (.iinc 3 1, 3) := by decide +kernel
theorem dX5_made_33 : decode cX5_made 33 = .ok (.goto (-21), 3) := by decide +kernel
theorem dX5_made_36 : decode cX5_made 36 = .ok (.aload_n 0, 1) := by decide +kernel
theorem dX5_made_37 : decode cX5_made 37 = .ok (.getfield 13, 3) := by decide +kernel
theorem dX5_made_40 : decode cX5_made 40 = .ok (.aload_n 0, 1) := by decide +kernel
theorem dX5_made_41 : decode cX5_made 41 = .ok (.getfield 9, 3) := by decide +kernel
theorem dX5_made_44 : decode cX5_made 44 = .ok (.arraylength, 1) := by decide +kernel
theorem dX5_made_45 : decode cX5_made 45 = .ok (.iconst 0, 1) := by decide +kernel
theorem dX5_made_46 : decode cX5_made 46 = .ok (.iload_n 1, 1) := by decide +kernel
theorem dX5_made_47 : decode cX5_made 47 = .ok (.invokestatic 25, 3) := by decide +kernel
theorem dX5_made_50 : decode cX5_made 50 = .ok (.astore_n 3, 1) := by decide +kernel
theorem dX5_made_51 : decode cX5_made 51 = .ok (.aload_n 0, 1) := by decide +kernel
theorem dX5_made_52 : decode cX5_made 52 = .ok (.aload_n 2, 1) := by decide +kernel
theorem dX5_made_53 : decode cX5_made 53 = .ok (.putfield 9, 3) := by decide +kernel
theorem dX5_made_56 : decode cX5_made 56 = .ok (.aload_n 0, 1) := by decide +kernel
theorem dX5_made_57 : decode cX5_made 57 = .ok (.dup, 1) := by decide +kernel
theorem dX5_made_58 : decode cX5_made 58 = .ok (.getfield 13, 3) := by decide +kernel
theorem dX5_made_61 : decode cX5_made 61 = .ok (.iconst 1, 1) := by decide +kernel
theorem dX5_made_62 : decode cX5_made 62 = .ok (.iadd, 1) := by decide +kernel
theorem dX5_made_63 : decode cX5_made 63 = .ok (.putfield 13, 3) := by decide +kernel
theorem dX5_made_66 : decode cX5_made 66 = .ok (.aload_n 3, 1) := by decide +kernel
theorem dX5_made_67 : decode cX5_made 67 = .ok (.areturn, 1) := by decide +kernel
theorem dX5_cut_0 : decode cX5_cut 0 = .ok (.aload_n 2, 1) := by decide +kernel
theorem dX5_cut_1 : decode cX5_cut 1 = .ok (.iconst 0, 1) := by decide +kernel
theorem dX5_cut_2 : decode cX5_cut 2 = .ok (.iaload, 1) := by decide +kernel
theorem dX5_cut_3 : decode cX5_cut 3 = .ok (.aload_n 2, 1) := by decide +kernel
theorem dX5_cut_4 : decode cX5_cut 4 = .ok (.iconst 1, 1) := by decide +kernel
theorem dX5_cut_5 : decode cX5_cut 5 = .ok (.iaload, 1) := by decide +kernel
theorem dX5_cut_6 : decode cX5_cut 6 = .ok (.aload_n 2, 1) := by decide +kernel
theorem dX5_cut_7 : decode cX5_cut 7 = .ok (.iconst 2, 1) := by decide +kernel
theorem dX5_cut_8 : decode cX5_cut 8 = .ok (.iaload, 1) := by decide +kernel
theorem dX5_cut_9 : decode cX5_cut 9 = .ok (.iload_n 3, 1) := by decide +kernel
theorem dX5_cut_10 : decode cX5_cut 10 = .ok (.iadd, 1) := by decide +kernel
theorem dX5_cut_11 : decode cX5_cut 11 = .ok (.iload 4, 2) := by decide +kernel
theorem dX5_cut_13 : decode cX5_cut 13 = .ok (.invokestatic 25, 3) := by decide +kernel
theorem dX5_cut_16 : decode cX5_cut 16 = .ok (.astore 5, 2) := by decide +kernel
theorem dX5_cut_18 : decode cX5_cut 18 = .ok (.aload 5, 2) := by decide +kernel
theorem dX5_cut_20 : decode cX5_cut 20 = .ok (.bipush 7, 2) := by decide +kernel
theorem dX5_cut_22 : decode cX5_cut 22 = .ok (.aload_n 2, 1) := by decide +kernel
theorem dX5_cut_23 : decode cX5_cut 23 = .ok (.bipush 7, 2) := by decide +kernel
theorem dX5_cut_25 : decode cX5_cut 25 = .ok (.iaload, 1) := by decide +kernel
theorem dX5_cut_26 : decode cX5_cut 26 = .ok (.iastore, 1) := by decide +kernel
theorem dX5_cut_27 : decode cX5_cut 27 = .ok (.aload_n 0, 1) := by decide +kernel
theorem dX5_cut_28 : decode cX5_cut 28 = .ok (.getfield 18, 3) := by decide +kernel
theorem dX5_cut_31 : decode cX5_cut 31 = .ok (.iload_n 1, 1) := by decide +kernel
theorem dX5_cut_32 : decode cX5_cut 32 = .ok (.aload 5, 2) := by decide +kernel
theorem dX5_cut_34 : decode cX5_cut 34 = .ok (.aastore, 1) := by decide +kernel
theorem dX5_cut_35 : decode cX5_cut 35 = .ok (.aload_n 0, 1) := by decide +kernel
theorem dX5_cut_36 : decode cX5_cut 36 = .ok (.iload 4, 2) := by decide +kernel
theorem dX5_cut_38 : decode cX5_cut 38 = .ok (.invokevirtual 63, 3) := by decide +kernel
theorem dX5_cut_41 : decode cX5_cut 41 = .ok (.ireturn, 1) := by decide +kernel
theorem dX5_wrap_0 : decode cX5_wrap 0 = .ok (.aload_n 0, 1) := by decide +kernel
theorem dX5_wrap_1 : decode cX5_wrap 1 = .ok (.iload_n 1, 1) := by decide +kernel
theorem dX5_wrap_2 : decode cX5_wrap 2 = .ok (.invokestatic 55, 3) := by decide +kernel
theorem dX5_wrap_5 : decode cX5_wrap 5 = .ok (.iload_n 2, 1) := by decide +kernel
theorem dX5_wrap_6 : decode cX5_wrap 6 = .ok (.iconst 0, 1) := by decide +kernel
theorem dX5_wrap_7 : decode cX5_wrap 7 = .ok (.bipush 16, 2) := by decide +kernel
theorem dX5_wrap_9 : decode cX5_wrap 9 = .ok (.invokestatic 36, 3) := by decide +kernel
theorem dX5_wrap_12 : decode cX5_wrap 12 = .ok (.ifCond .eq 19, 3) := by decide +kernel
theorem dX5_wrap_15 : decode cX5_wrap 15 = .ok (.iload_n 3, 1) := by decide +kernel
theorem dX5_wrap_16 : decode cX5_wrap 16 = .ok (.iconst 0, 1) := by decide +kernel
theorem dX5_wrap_17 : decode cX5_wrap 17 = .ok (.bipush 16, 2) := by decide +kernel
theorem dX5_wrap_19 : decode cX5_wrap 19 = .ok (.iload_n 2, 1) := by decide +kernel
theorem dX5_wrap_20 : decode cX5_wrap 20 = .ok (.isub, 1) := by decide +kernel
theorem dX5_wrap_21 : decode cX5_wrap 21 = .ok (.invokestatic 36, 3) := by decide +kernel
theorem dX5_wrap_24 : decode cX5_wrap 24 = .ok (.ifCond .eq 7, 3) := by decide +kernel
theorem dX5_wrap_27 : decode cX5_wrap 27 = .ok (.iconst 1, 1) := by decide +kernel
theorem dX5_wrap_28 : decode cX5_wrap 28 = .ok (.goto 4, 3) := by decide +kernel
theorem dX5_wrap_31 : decode cX5_wrap 31 = .ok (.iconst 0, 1) := by decide +kernel
theorem dX5_wrap_32 : decode cX5_wrap 32 = .ok (.invokevirtual 59, 3) := by decide +kernel
theorem dX5_wrap_35 : decode cX5_wrap 35 = .ok (.ifCond .ne 5, 3) := by decide +kernel
theorem dX5_wrap_38 : decode cX5_wrap 38 = .ok (.iconst 0, 1) := by decide +kernel
theorem dX5_wrap_39 : decode cX5_wrap 39 = .ok (.ireturn, 1) := by decide +kernel
theorem dX5_wrap_40 : decode cX5_wrap 40 = .ok (.aload_n 0, 1) := by decide +kernel
theorem dX5_wrap_41 : decode cX5_wrap 41 = .ok (.getfield 18, 3) := by decide +kernel
theorem dX5_wrap_44 : decode cX5_wrap 44 = .ok (.iload_n 1, 1) := by decide +kernel
theorem dX5_wrap_45 : decode cX5_wrap 45 = .ok (.iconst 0, 1) := by decide +kernel
theorem dX5_wrap_46 : decode cX5_wrap 46 = .ok (.iconst 0, 1) := by decide +kernel
theorem dX5_wrap_47 : decode cX5_wrap 47 = .ok (.iconst 0, 1) := by decide +kernel
theorem dX5_wrap_48 : decode cX5_wrap 48 = .ok (.bipush 16, 2) := by decide +kernel
theorem dX5_wrap_50 : decode cX5_wrap 50 = .ok (.invokestatic 25, 3) := by decide +kernel
theorem dX5_wrap_53 : decode cX5_wrap 53 = .ok (.aastore, 1) := by decide +kernel
theorem dX5_wrap_54 : decode cX5_wrap 54 = .ok (.aload_n 0, 1) := by decide +kernel
theorem dX5_wrap_55 : decode cX5_wrap 55 = .ok (.getfield 18, 3) := by decide +kernel
theorem dX5_wrap_58 : decode cX5_wrap 58 = .ok (.iload_n 1, 1) := by decide +kernel
theorem dX5_wrap_59 : decode cX5_wrap 59 = .ok (.aaload, 1) := by decide +kernel
theorem dX5_wrap_60 : decode cX5_wrap 60 = .ok (.iconst 4, 1) := by decide +kernel
theorem dX5_wrap_61 : decode cX5_wrap 61 = .ok (.iload_n 2, 1) := by decide +kernel
theorem dX5_wrap_62 : decode cX5_wrap 62 = .ok (.iastore, 1) := by decide +kernel
theorem dX5_wrap_63 : decode cX5_wrap 63 = .ok (.aload_n 0, 1) := by decide +kernel
theorem dX5_wrap_64 : decode cX5_wrap 64 = .ok (.getfield 18, 3) := by decide +kernel
theorem dX5_wrap_67 : decode cX5_wrap 67 = .ok (.iload_n 1, 1) := by decide +kernel
theorem dX5_wrap_68 : decode cX5_wrap 68 = .ok (.aaload, 1) := by decide +kernel
theorem dX5_wrap_69 : decode cX5_wrap 69 = .ok (.iconst 5, 1) := by decide +kernel
theorem dX5_wrap_70 : decode cX5_wrap 70 = .ok (.iload_n 2, 1) := by decide +kernel
theorem dX5_wrap_71 : decode cX5_wrap 71 = .ok (.iload_n 3, 1) := by decide +kernel
theorem dX5_wrap_72 : decode cX5_wrap 72 = .ok (.iadd, 1) := by decide +kernel
theorem dX5_wrap_73 : decode cX5_wrap 73 = .ok (.iastore, 1) := by decide +kernel
theorem dX5_wrap_74 : decode cX5_wrap 74 = .ok (.aload_n 0, 1) := by decide +kernel
theorem dX5_wrap_75 : decode cX5_wrap 75 = .ok (.iload_n 2, 1) := by decide +kernel
theorem dX5_wrap_76 : decode cX5_wrap 76 = .ok (.iload_n 3, 1) := by decide +kernel
theorem dX5_wrap_77 : decode cX5_wrap 77 = .ok (.iadd, 1) := by decide +kernel
theorem dX5_wrap_78 : decode cX5_wrap 78 = .ok (.invokevirtual 63, 3) := by decide +kernel
theorem dX5_wrap_81 : decode cX5_wrap 81 = .ok (.ireturn, 1) := by decide +kernel
theorem dX5_fresh_0 : decode cX5_fresh 0 = .ok (.aload_n 0, 1) := by decide +kernel
theorem dX5_fresh_1 : decode cX5_fresh 1 = .ok (.iload_n 1, 1) := by decide +kernel
theorem dX5_fresh_2 : decode cX5_fresh 2 = .ok (.invokestatic 55, 3) := by decide +kernel
theorem dX5_fresh_5 : decode cX5_fresh 5 = .ok (.iload_n 2, 1) := by decide +kernel
theorem dX5_fresh_6 : decode cX5_fresh 6 = .ok (.iconst 0, 1) := by decide +kernel
theorem dX5_fresh_7 : decode cX5_fresh 7 = .ok (.bipush 12, 2) := by decide +kernel
theorem dX5_fresh_9 : decode cX5_fresh 9 = .ok (.invokestatic 36, 3) := by decide +kernel
theorem dX5_fresh_12 : decode cX5_fresh 12 = .ok (.invokevirtual 59, 3) := by decide +kernel
theorem dX5_fresh_15 : decode cX5_fresh 15 = .ok (.ifCond .ne 5, 3) := by decide +kernel
theorem dX5_fresh_18 : decode cX5_fresh 18 = .ok (.iconst 0, 1) := by decide +kernel
theorem dX5_fresh_19 : decode cX5_fresh 19 = .ok (.ireturn, 1) := by decide +kernel
theorem dX5_fresh_20 : decode cX5_fresh 20 = .ok (.aload_n 0, 1) := by decide +kernel
theorem dX5_fresh_21 : decode cX5_fresh 21 = .ok (.getfield 18, 3) := by decide +kernel
theorem dX5_fresh_24 : decode cX5_fresh 24 = .ok (.iload_n 1, 1) := by decide +kernel
theorem dX5_fresh_25 : decode cX5_fresh 25 = .ok (.aload_n 0, 1) := by decide +kernel
theorem dX5_fresh_26 : decode cX5_fresh 26 = .ok (.iload_n 2, 1) := by decide +kernel
theorem dX5_fresh_27 : decode cX5_fresh 27 = .ok (.invokevirtual 29, 3) := by decide +kernel
theorem dX5_fresh_30 : decode cX5_fresh 30 = .ok (.aastore, 1) := by decide +kernel
theorem dX5_fresh_31 : decode cX5_fresh 31 = .ok (.aload_n 0, 1) := by decide +kernel
theorem dX5_fresh_32 : decode cX5_fresh 32 = .ok (.iload_n 2, 1) := by decide +kernel
theorem dX5_fresh_33 : decode cX5_fresh 33 = .ok (.invokevirtual 63, 3) := by decide +kernel
theorem dX5_fresh_36 : decode cX5_fresh 36 = .ok (.ireturn, 1) := by decide +kernel
theorem dX5_twin_0 : decode cX5_twin 0 = .ok (.aload_n 0, 1) := by decide +kernel
theorem dX5_twin_1 : decode cX5_twin 1 = .ok (.iload_n 1, 1) := by decide +kernel
theorem dX5_twin_2 : decode cX5_twin 2 = .ok (.invokestatic 55, 3) := by decide +kernel
theorem dX5_twin_5 : decode cX5_twin 5 = .ok (.ifCond .eq 14, 3) := by decide +kernel
theorem dX5_twin_8 : decode cX5_twin 8 = .ok (.iload_n 2, 1) := by decide +kernel
theorem dX5_twin_9 : decode cX5_twin 9 = .ok (.invokestatic 55, 3) := by decide +kernel
theorem dX5_twin_12 : decode cX5_twin 12 = .ok (.ifCond .eq 7, 3) := by decide +kernel
theorem dX5_twin_15 : decode cX5_twin 15 = .ok (.iconst 1, 1) := by decide +kernel
theorem dX5_twin_16 : decode cX5_twin 16 = .ok (.goto 4, 3) := by decide +kernel
theorem dX5_twin_19 : decode cX5_twin 19 = .ok (.iconst 0, 1) := by decide +kernel
theorem dX5_twin_20 : decode cX5_twin 20 = .ok (.iconst 1, 1) := by decide +kernel
theorem dX5_twin_21 : decode cX5_twin 21 = .ok (.invokevirtual 59, 3) := by decide +kernel
theorem dX5_twin_24 : decode cX5_twin 24 = .ok (.ifCond .ne 5, 3) := by decide +kernel
theorem dX5_twin_27 : decode cX5_twin 27 = .ok (.iconst 0, 1) := by decide +kernel
theorem dX5_twin_28 : decode cX5_twin 28 = .ok (.ireturn, 1) := by decide +kernel
theorem dX5_twin_29 : decode cX5_twin 29 = .ok (.aload_n 0, 1) := by decide +kernel
theorem dX5_twin_30 : decode cX5_twin 30 = .ok (.getfield 18, 3) := by decide +kernel
theorem dX5_twin_33 : decode cX5_twin 33 = .ok (.iload_n 1, 1) := by decide +kernel
theorem dX5_twin_34 : decode cX5_twin 34 = .ok (.aload_n 0, 1) := by decide +kernel
theorem dX5_twin_35 : decode cX5_twin 35 = .ok (.getfield 18, 3) := by decide +kernel
theorem dX5_twin_38 : decode cX5_twin 38 = .ok (.iload_n 2, 1) := by decide +kernel
theorem dX5_twin_39 : decode cX5_twin 39 = .ok (.aaload, 1) := by decide +kernel
theorem dX5_twin_40 : decode cX5_twin 40 = .ok (.invokestatic 66, 3) := by decide +kernel
theorem dX5_twin_43 : decode cX5_twin 43 = .ok (.aastore, 1) := by decide +kernel
theorem dX5_twin_44 : decode cX5_twin 44 = .ok (.aload_n 0, 1) := by decide +kernel
theorem dX5_twin_45 : decode cX5_twin 45 = .ok (.aload_n 0, 1) := by decide +kernel
theorem dX5_twin_46 : decode cX5_twin 46 = .ok (.getfield 18, 3) := by decide +kernel
theorem dX5_twin_49 : decode cX5_twin 49 = .ok (.iload_n 1, 1) := by decide +kernel
theorem dX5_twin_50 : decode cX5_twin 50 = .ok (.aaload, 1) := by decide +kernel
theorem dX5_twin_51 : decode cX5_twin 51 = .ok (.invokestatic 43, 3) := by decide +kernel
theorem dX5_twin_54 : decode cX5_twin 54 = .ok (.invokevirtual 63, 3) := by decide +kernel
theorem dX5_twin_57 : decode cX5_twin 57 = .ok (.ireturn, 1) := by decide +kernel
theorem dX5_reader_0 : decode cX5_reader 0 = .ok (.aload_n 0, 1) := by decide +kernel
theorem dX5_reader_1 : decode cX5_reader 1 = .ok (.iload_n 1, 1) := by decide +kernel
theorem dX5_reader_2 : decode cX5_reader 2 = .ok (.invokestatic 55, 3) := by decide +kernel
theorem dX5_reader_5 : decode cX5_reader 5 = .ok (.ifCond .eq 14, 3) := by decide +kernel
theorem dX5_reader_8 : decode cX5_reader 8 = .ok (.iload_n 2, 1) := by decide +kernel
theorem dX5_reader_9 : decode cX5_reader 9 = .ok (.invokestatic 55, 3) := by decide +kernel
theorem dX5_reader_12 : decode cX5_reader 12 = .ok (.ifCond .eq 7, 3) := by decide +kernel
theorem dX5_reader_15 : decode cX5_reader 15 = .ok (.iconst 1, 1) := by decide +kernel
theorem dX5_reader_16 : decode cX5_reader 16 = .ok (.goto 4, 3) := by decide +kernel
theorem dX5_reader_19 : decode cX5_reader 19 = .ok (.iconst 0, 1) := by decide +kernel
theorem dX5_reader_20 : decode cX5_reader 20 = .ok (.iconst 1, 1) := by decide +kernel
theorem dX5_reader_21 : decode cX5_reader 21 = .ok (.invokevirtual 59, 3) := by decide +kernel
theorem dX5_reader_24 : decode cX5_reader 24 = .ok (.ifCond .ne 5, 3) := by decide +kernel
theorem dX5_reader_27 : decode cX5_reader 27 = .ok (.iconst 0, 1) := by decide +kernel
theorem dX5_reader_28 : decode cX5_reader 28 = .ok (.ireturn, 1) := by decide +kernel
theorem dX5_reader_29 : decode cX5_reader 29 = .ok (.aload_n 0, 1) := by decide +kernel
theorem dX5_reader_30 : decode cX5_reader 30 = .ok (.getfield 18, 3) := by decide +kernel
theorem dX5_reader_33 : decode cX5_reader 33 = .ok (.iload_n 1, 1) := by decide +kernel
theorem dX5_reader_34 : decode cX5_reader 34 = .ok (.aload_n 0, 1) := by decide +kernel
theorem dX5_reader_35 : decode cX5_reader 35 = .ok (.getfield 18, 3) := by decide +kernel
theorem dX5_reader_38 : decode cX5_reader 38 = .ok (.iload_n 2, 1) := by decide +kernel
theorem dX5_reader_39 : decode cX5_reader 39 = .ok (.aaload, 1) := by decide +kernel
theorem dX5_reader_40 : decode cX5_reader 40 = .ok (.invokestatic 66, 3) := by decide +kernel
theorem dX5_reader_43 : decode cX5_reader 43 = .ok (.aastore, 1) := by decide +kernel
theorem dX5_reader_44 : decode cX5_reader 44 = .ok (.aload_n 0, 1) := by decide +kernel
theorem dX5_reader_45 : decode cX5_reader 45 = .ok (.getfield 18, 3) := by decide +kernel
theorem dX5_reader_48 : decode cX5_reader 48 = .ok (.iload_n 1, 1) := by decide +kernel
theorem dX5_reader_49 : decode cX5_reader 49 = .ok (.aaload, 1) := by decide +kernel
theorem dX5_reader_50 : decode cX5_reader 50 = .ok (.bipush 7, 2) := by decide +kernel
theorem dX5_reader_52 : decode cX5_reader 52 = .ok (.iconst 1, 1) := by decide +kernel
theorem dX5_reader_53 : decode cX5_reader 53 = .ok (.iastore, 1) := by decide +kernel
theorem dX5_reader_54 : decode cX5_reader 54 = .ok (.aload_n 0, 1) := by decide +kernel
theorem dX5_reader_55 : decode cX5_reader 55 = .ok (.aload_n 0, 1) := by decide +kernel
theorem dX5_reader_56 : decode cX5_reader 56 = .ok (.getfield 18, 3) := by decide +kernel
theorem dX5_reader_59 : decode cX5_reader 59 = .ok (.iload_n 1, 1) := by decide +kernel
theorem dX5_reader_60 : decode cX5_reader 60 = .ok (.aaload, 1) := by decide +kernel
theorem dX5_reader_61 : decode cX5_reader 61 = .ok (.invokestatic 43, 3) := by decide +kernel
theorem dX5_reader_64 : decode cX5_reader 64 = .ok (.invokevirtual 63, 3) := by decide +kernel
theorem dX5_reader_67 : decode cX5_reader 67 = .ok (.ireturn, 1) := by decide +kernel
theorem dX5_rest_0 : decode cX5_rest 0 = .ok (.aload_n 0, 1) := by decide +kernel
theorem dX5_rest_1 : decode cX5_rest 1 = .ok (.iload_n 1, 1) := by decide +kernel
theorem dX5_rest_2 : decode cX5_rest 2 = .ok (.invokestatic 55, 3) := by decide +kernel
theorem dX5_rest_5 : decode cX5_rest 5 = .ok (.ifCond .eq 14, 3) := by decide +kernel
theorem dX5_rest_8 : decode cX5_rest 8 = .ok (.iload_n 2, 1) := by decide +kernel
theorem dX5_rest_9 : decode cX5_rest 9 = .ok (.invokestatic 55, 3) := by decide +kernel
theorem dX5_rest_12 : decode cX5_rest 12 = .ok (.ifCond .eq 7, 3) := by decide +kernel
theorem dX5_rest_15 : decode cX5_rest 15 = .ok (.iconst 1, 1) := by decide +kernel
theorem dX5_rest_16 : decode cX5_rest 16 = .ok (.goto 4, 3) := by decide +kernel
theorem dX5_rest_19 : decode cX5_rest 19 = .ok (.iconst 0, 1) := by decide +kernel
theorem dX5_rest_20 : decode cX5_rest 20 = .ok (.iconst 1, 1) := by decide +kernel
theorem dX5_rest_21 : decode cX5_rest 21 = .ok (.invokevirtual 59, 3) := by decide +kernel
theorem dX5_rest_24 : decode cX5_rest 24 = .ok (.ifCond .ne 5, 3) := by decide +kernel
theorem dX5_rest_27 : decode cX5_rest 27 = .ok (.iconst 0, 1) := by decide +kernel
theorem dX5_rest_28 : decode cX5_rest 28 = .ok (.ireturn, 1) := by decide +kernel
theorem dX5_rest_29 : decode cX5_rest 29 = .ok (.aload_n 0, 1) := by decide +kernel
theorem dX5_rest_30 : decode cX5_rest 30 = .ok (.iload_n 1, 1) := by decide +kernel
theorem dX5_rest_31 : decode cX5_rest 31 = .ok (.aload_n 0, 1) := by decide +kernel
theorem dX5_rest_32 : decode cX5_rest 32 = .ok (.getfield 18, 3) := by decide +kernel
theorem dX5_rest_35 : decode cX5_rest 35 = .ok (.iload_n 2, 1) := by decide +kernel
theorem dX5_rest_36 : decode cX5_rest 36 = .ok (.aaload, 1) := by decide +kernel
theorem dX5_rest_37 : decode cX5_rest 37 = .ok (.aload_n 0, 1) := by decide +kernel
theorem dX5_rest_38 : decode cX5_rest 38 = .ok (.getfield 18, 3) := by decide +kernel
theorem dX5_rest_41 : decode cX5_rest 41 = .ok (.iload_n 2, 1) := by decide +kernel
theorem dX5_rest_42 : decode cX5_rest 42 = .ok (.aaload, 1) := by decide +kernel
theorem dX5_rest_43 : decode cX5_rest 43 = .ok (.iconst 4, 1) := by decide +kernel
theorem dX5_rest_44 : decode cX5_rest 44 = .ok (.iaload, 1) := by decide +kernel
theorem dX5_rest_45 : decode cX5_rest 45 = .ok (.aload_n 0, 1) := by decide +kernel
theorem dX5_rest_46 : decode cX5_rest 46 = .ok (.getfield 18, 3) := by decide +kernel
theorem dX5_rest_49 : decode cX5_rest 49 = .ok (.iload_n 2, 1) := by decide +kernel
theorem dX5_rest_50 : decode cX5_rest 50 = .ok (.aaload, 1) := by decide +kernel
theorem dX5_rest_51 : decode cX5_rest 51 = .ok (.invokestatic 43, 3) := by decide +kernel
theorem dX5_rest_54 : decode cX5_rest 54 = .ok (.invokevirtual 70, 3) := by decide +kernel
theorem dX5_rest_57 : decode cX5_rest 57 = .ok (.ireturn, 1) := by decide +kernel
theorem dX5_part_0 : decode cX5_part 0 = .ok (.aload_n 0, 1) := by decide +kernel
theorem dX5_part_1 : decode cX5_part 1 = .ok (.iload_n 1, 1) := by decide +kernel
theorem dX5_part_2 : decode cX5_part 2 = .ok (.invokestatic 55, 3) := by decide +kernel
theorem dX5_part_5 : decode cX5_part 5 = .ok (.ifCond .eq 14, 3) := by decide +kernel
theorem dX5_part_8 : decode cX5_part 8 = .ok (.iload_n 2, 1) := by decide +kernel
theorem dX5_part_9 : decode cX5_part 9 = .ok (.invokestatic 55, 3) := by decide +kernel
theorem dX5_part_12 : decode cX5_part 12 = .ok (.ifCond .eq 7, 3) := by decide +kernel
theorem dX5_part_15 : decode cX5_part 15 = .ok (.iconst 1, 1) := by decide +kernel
theorem dX5_part_16 : decode cX5_part 16 = .ok (.goto 4, 3) := by decide +kernel
theorem dX5_part_19 : decode cX5_part 19 = .ok (.iconst 0, 1) := by decide +kernel
theorem dX5_part_20 : decode cX5_part 20 = .ok (.iconst 1, 1) := by decide +kernel
theorem dX5_part_21 : decode cX5_part 21 = .ok (.invokevirtual 59, 3) := by decide +kernel
theorem dX5_part_24 : decode cX5_part 24 = .ok (.ifCond .ne 5, 3) := by decide +kernel
theorem dX5_part_27 : decode cX5_part 27 = .ok (.iconst 0, 1) := by decide +kernel
theorem dX5_part_28 : decode cX5_part 28 = .ok (.ireturn, 1) := by decide +kernel
theorem dX5_part_29 : decode cX5_part 29 = .ok (.aload_n 0, 1) := by decide +kernel
theorem dX5_part_30 : decode cX5_part 30 = .ok (.getfield 18, 3) := by decide +kernel
theorem dX5_part_33 : decode cX5_part 33 = .ok (.iload_n 2, 1) := by decide +kernel
theorem dX5_part_34 : decode cX5_part 34 = .ok (.aaload, 1) := by decide +kernel
theorem dX5_part_35 : decode cX5_part 35 = .ok (.iconst 5, 1) := by decide +kernel
theorem dX5_part_36 : decode cX5_part 36 = .ok (.iaload, 1) := by decide +kernel
theorem dX5_part_37 : decode cX5_part 37 = .ok (.istore 5, 2) := by decide +kernel
theorem dX5_part_39 : decode cX5_part 39 = .ok (.iload_n 3, 1) := by decide +kernel
theorem dX5_part_40 : decode cX5_part 40 = .ok (.iconst 0, 1) := by decide +kernel
theorem dX5_part_41 : decode cX5_part 41 = .ok (.iload 5, 2) := by decide +kernel
theorem dX5_part_43 : decode cX5_part 43 = .ok (.invokestatic 36, 3) := by decide +kernel
theorem dX5_part_46 : decode cX5_part 46 = .ok (.ifCond .eq 16, 3) := by decide +kernel
theorem dX5_part_49 : decode cX5_part 49 = .ok (.iload 4, 2) := by decide +kernel
theorem dX5_part_51 : decode cX5_part 51 = .ok (.iconst 0, 1) := by decide +kernel
theorem dX5_part_52 : decode cX5_part 52 = .ok (.iload 5, 2) := by decide +kernel
theorem dX5_part_54 : decode cX5_part 54 = .ok (.iload_n 3, 1) := by decide +kernel
theorem dX5_part_55 : decode cX5_part 55 = .ok (.isub, 1) := by decide +kernel
theorem dX5_part_56 : decode cX5_part 56 = .ok (.invokestatic 36, 3) := by decide +kernel
theorem dX5_part_59 : decode cX5_part 59 = .ok (.ifCond .ne 9, 3) := by decide +kernel
theorem dX5_part_62 : decode cX5_part 62 = .ok (.aload_n 0, 1) := by decide +kernel
theorem dX5_part_63 : decode cX5_part 63 = .ok (.iconst 5, 1) := by decide +kernel
theorem dX5_part_64 : decode cX5_part 64 = .ok (.invokevirtual 47, 3) := by decide +kernel
theorem dX5_part_67 : decode cX5_part 67 = .ok (.ireturn, 1) := by decide +kernel
theorem dX5_part_68 : decode cX5_part 68 = .ok (.aload_n 0, 1) := by decide +kernel
theorem dX5_part_69 : decode cX5_part 69 = .ok (.iload_n 1, 1) := by decide +kernel
theorem dX5_part_70 : decode cX5_part 70 = .ok (.aload_n 0, 1) := by decide +kernel
theorem dX5_part_71 : decode cX5_part 71 = .ok (.getfield 18, 3) := by decide +kernel
theorem dX5_part_74 : decode cX5_part 74 = .ok (.iload_n 2, 1) := by decide +kernel
theorem dX5_part_75 : decode cX5_part 75 = .ok (.aaload, 1) := by decide +kernel
theorem dX5_part_76 : decode cX5_part 76 = .ok (.iload_n 3, 1) := by decide +kernel
theorem dX5_part_77 : decode cX5_part 77 = .ok (.iload 4, 2) := by decide +kernel
theorem dX5_part_79 : decode cX5_part 79 = .ok (.invokevirtual 70, 3) := by decide +kernel
theorem dX5_part_82 : decode cX5_part 82 = .ok (.ireturn, 1) := by decide +kernel
theorem dX5_exchange_0 : decode cX5_exchange 0 = .ok (.aload_n 0, 1) := by decide +kernel
theorem dX5_exchange_1 : decode cX5_exchange 1 = .ok (.iload_n 1, 1) := by decide +kernel
theorem dX5_exchange_2 : decode cX5_exchange 2 = .ok (.invokestatic 55, 3) := by decide +kernel
theorem dX5_exchange_5 : decode cX5_exchange 5 = .ok (.ifCond .eq 14, 3) := by decide +kernel
theorem dX5_exchange_8 : decode cX5_exchange 8 = .ok (.iload_n 2, 1) := by decide +kernel
theorem dX5_exchange_9 : decode cX5_exchange 9 = .ok (.invokestatic 55, 3) := by decide +kernel
theorem dX5_exchange_12 : decode cX5_exchange 12 = .ok (.ifCond .eq 7, 3) := by decide +kernel
theorem dX5_exchange_15 : decode cX5_exchange 15 = .ok (.iconst 1, 1) := by decide +kernel
theorem dX5_exchange_16 : decode cX5_exchange 16 = .ok (.goto 4, 3) := by decide +kernel
theorem dX5_exchange_19 : decode cX5_exchange 19 = .ok (.iconst 0, 1) := by decide +kernel
theorem dX5_exchange_20 : decode cX5_exchange 20 = .ok (.iconst 1, 1) := by decide +kernel
theorem dX5_exchange_21 : decode cX5_exchange 21 = .ok (.invokevirtual 59, 3) := by decide +kernel
theorem dX5_exchange_24 : decode cX5_exchange 24 = .ok (.ifCond .ne 5, 3) := by decide +kernel
theorem dX5_exchange_27 : decode cX5_exchange 27 = .ok (.iconst 0, 1) := by decide +kernel
theorem dX5_exchange_28 : decode cX5_exchange 28 = .ok (.ireturn, 1) := by decide +kernel
theorem dX5_exchange_29 : decode cX5_exchange 29 = .ok (.aload_n 0, 1) := by decide +kernel
theorem dX5_exchange_30 : decode cX5_exchange 30 = .ok (.getfield 18, 3) := by decide +kernel
theorem dX5_exchange_33 : decode cX5_exchange 33 = .ok (.iload_n 1, 1) := by decide +kernel
theorem dX5_exchange_34 : decode cX5_exchange 34 = .ok (.aaload, 1) := by decide +kernel
theorem dX5_exchange_35 : decode cX5_exchange 35 = .ok (.astore_n 3, 1) := by decide +kernel
theorem dX5_exchange_36 : decode cX5_exchange 36 = .ok (.aload_n 0, 1) := by decide +kernel
theorem dX5_exchange_37 : decode cX5_exchange 37 = .ok (.getfield 18, 3) := by decide +kernel
theorem dX5_exchange_40 : decode cX5_exchange 40 = .ok (.iload_n 1, 1) := by decide +kernel
theorem dX5_exchange_41 : decode cX5_exchange 41 = .ok (.aload_n 0, 1) := by decide +kernel
theorem dX5_exchange_42 : decode cX5_exchange 42 = .ok (.getfield 18, 3) := by decide +kernel
theorem dX5_exchange_45 : decode cX5_exchange 45 = .ok (.iload_n 2, 1) := by decide +kernel
theorem dX5_exchange_46 : decode cX5_exchange 46 = .ok (.aaload, 1) := by decide +kernel
theorem dX5_exchange_47 : decode cX5_exchange 47 = .ok (.aastore, 1) := by decide +kernel
theorem dX5_exchange_48 : decode cX5_exchange 48 = .ok (.aload_n 0, 1) := by decide +kernel
theorem dX5_exchange_49 : decode cX5_exchange 49 = .ok (.getfield 18, 3) := by decide +kernel
theorem dX5_exchange_52 : decode cX5_exchange 52 = .ok (.iload_n 2, 1) := by decide +kernel
theorem dX5_exchange_53 : decode cX5_exchange 53 = .ok (.aload_n 3, 1) := by decide +kernel
theorem dX5_exchange_54 : decode cX5_exchange 54 = .ok (.aastore, 1) := by decide +kernel
theorem dX5_exchange_55 : decode cX5_exchange 55 = .ok (.aload_n 0, 1) := by decide +kernel
theorem dX5_exchange_56 : decode cX5_exchange 56 = .ok (.aload_n 0, 1) := by decide +kernel
theorem dX5_exchange_57 : decode cX5_exchange 57 = .ok (.getfield 18, 3) := by decide +kernel
theorem dX5_exchange_60 : decode cX5_exchange 60 = .ok (.iload_n 1, 1) := by decide +kernel
theorem dX5_exchange_61 : decode cX5_exchange 61 = .ok (.aaload, 1) := by decide +kernel
theorem dX5_exchange_62 : decode cX5_exchange 62 = .ok (.iconst 4, 1) := by decide +kernel
theorem dX5_exchange_63 : decode cX5_exchange 63 = .ok (.iaload, 1) := by decide +kernel
theorem dX5_exchange_64 : decode cX5_exchange 64 = .ok (.invokevirtual 63, 3) := by decide +kernel
theorem dX5_exchange_67 : decode cX5_exchange 67 = .ok (.ireturn, 1) := by decide +kernel
set_option maxRecDepth 20000 in
theorem c_X5_over (l : Launch) (G : zG) {M : zM} {ro : Int32} {ba : Int32} {sa : Int32} {cp : Int32}    : z_Mr l G qX5_over (z_rm 1 1 8) [.int ro, .int ba, .int sa, .int cp] M (fun r M' => ∃ q : Nat, M q = none ∧ r = q ∧ M' = z_up M q (cPm G ro ba sa cp 0 cp (-1) 0))  := by
  refine z_Mr_of _ (plainFor_of_name rfl) rfl (by first | exact Or.inl ⟨_, rfl⟩ | exact Or.inr ⟨_, rfl⟩) (Nat.le_of_ble_eq_true rfl) (fun X hl hG hnm C ret => ?_)
  subst hl; subst hG
  have C : z_C X cX5_over RX5 4 (z_rm 1 1 8) := C
  show z_W X M 0 0 0 [(0, .int ro), (1, .int ba), (2, .int sa), (3, .int cp)] []
  refine z_bipush C (v := 8) dX5_over_0 (by decide) ?_
  refine z_newI (N := 8) C kw44 (by decide) (by decide) (by decide) (by decide) (by decide) dX5_over_2 (fun q2 hq2 => ?_)
  refine z_kn (k' := 1) (n' := 8) rfl rfl ?_
  refine z_dup C dX5_over_4 rfl ?_
  refine z_iconst C (v := 0) dX5_over_5 (by decide) ?_
  refine z_iload_n C dX5_over_6 rfl 0 rfl ?_
  refine z_iast (j := 0) C (z_up_s _ _ _) (z_inL (by decide)) (by decide) dX5_over_7 ?_
  rw [z_up_up]
  refine z_dup C dX5_over_8 rfl ?_
  refine z_iconst C (v := 1) dX5_over_9 (by decide) ?_
  refine z_iload_n C dX5_over_10 rfl 1 rfl ?_
  refine z_iast (j := 1) C (z_up_s _ _ _) (z_inL (by decide)) (by decide) dX5_over_11 ?_
  rw [z_up_up]
  refine z_dup C dX5_over_12 rfl ?_
  refine z_iconst C (v := 2) dX5_over_13 (by decide) ?_
  refine z_iload_n C dX5_over_14 rfl 2 rfl ?_
  refine z_iast (j := 2) C (z_up_s _ _ _) (z_inL (by decide)) (by decide) dX5_over_15 ?_
  rw [z_up_up]
  refine z_dup C dX5_over_16 rfl ?_
  refine z_iconst C (v := 3) dX5_over_17 (by decide) ?_
  refine z_iload_n C dX5_over_18 rfl 3 rfl ?_
  refine z_iast (j := 3) C (z_up_s _ _ _) (z_inL (by decide)) (by decide) dX5_over_19 ?_
  rw [z_up_up]
  refine z_dup C dX5_over_20 rfl ?_
  refine z_iconst C (v := 4) dX5_over_21 (by decide) ?_
  refine z_iconst C (v := 0) dX5_over_22 (by decide) ?_
  refine z_iast (j := 4) C (z_up_s _ _ _) (z_inL (by decide)) (by decide) dX5_over_23 ?_
  rw [z_up_up]
  refine z_dup C dX5_over_24 rfl ?_
  refine z_iconst C (v := 5) dX5_over_25 (by decide) ?_
  refine z_iload_n C dX5_over_26 rfl 3 rfl ?_
  refine z_iast (j := 5) C (z_up_s _ _ _) (z_inL (by decide)) (by decide) dX5_over_27 ?_
  rw [z_up_up]
  refine z_dup C dX5_over_28 rfl ?_
  refine z_bipush C (v := 6) dX5_over_29 (by decide) ?_
  refine z_iconst C (v := (-1)) dX5_over_31 (by decide) ?_
  refine z_iast (j := 6) C (z_up_s _ _ _) (z_inL (by decide)) (by decide) dX5_over_32 ?_
  rw [z_up_up]
  refine z_dup C dX5_over_33 rfl ?_
  refine z_bipush C (v := 7) dX5_over_34 (by decide) ?_
  refine z_iconst C (v := 0) dX5_over_36 (by decide) ?_
  refine z_iast (j := 7) C (z_up_s _ _ _) (z_inL (by decide)) (by decide) dX5_over_37 ?_
  rw [z_up_up]
  refine ret dX5_over_38 ?_ (by decide) (by decide)
  exact ⟨_, hq2, rfl, rfl⟩
set_option maxRecDepth 20000 in
theorem c_X5_like (l : Launch) (G : zG) {M : zM} {p : Nat} {ro : Int32} {ba : Int32} {sa : Int32} {cp : Int32} {po : Int32} {li : Int32} {mk : Int32} {rd : Int32}  (h_p : M p = some (cPm G ro ba sa cp po li mk rd))  : z_Mr l G qX5_like (z_rm 1 1 8) [.ref p] M (fun r M' => ∃ q : Nat, M q = none ∧ r = q ∧ M' = z_up M q (cPm G ro ba sa cp po li mk rd))  := by
  refine z_Mr_of _ (plainFor_of_name rfl) rfl (by first | exact Or.inl ⟨_, rfl⟩ | exact Or.inr ⟨_, rfl⟩) (Nat.le_of_ble_eq_true rfl) (fun X hl hG hnm C ret => ?_)
  subst hl; subst hG
  have C : z_C X cX5_like RX5 3 (z_rm 1 1 8) := C
  show z_W X M 0 0 0 [(0, .ref p)] []
  refine z_bipush C (v := 8) dX5_like_0 (by decide) ?_
  refine z_newI (N := 8) C kw44 (by decide) (by decide) (by decide) (by decide) (by decide) dX5_like_2 (fun q2 hq2 => ?_)
  refine z_kn (k' := 1) (n' := 8) rfl rfl ?_
  refine z_astore_n (lv' := [(1, .ref q2), (0, .ref p)]) C dX5_like_4 rfl (by decide) rfl ?_
  refine z_iconst C (v := 0) dX5_like_5 (by decide) ?_
  refine z_istore_n (lv' := [(2, .int 0), (1, .ref q2), (0, .ref p)]) C dX5_like_6 rfl (by decide) rfl ?_
  refine z_iload_n C dX5_like_7 rfl 0 rfl ?_
  refine z_bipush C (v := 8) dX5_like_8 (by decide) ?_
  refine z_icmp_ge C (tgt := 25) dX5_like_10 (by decide) (fun c10 => absurd c10 (by decide)) (fun _ => ?_)
  refine z_aload_n C dX5_like_13 rfl 1 rfl ?_
  refine z_iload_n C dX5_like_14 rfl 0 rfl ?_
  refine z_aload_n C dX5_like_15 rfl 2 rfl ?_
  refine z_iload_n C dX5_like_16 rfl 0 rfl ?_
  refine z_pl0 C ((z_up_n _ _ (z_neN h_p hq2)).trans h_p) dX5_like_17 ?_
  refine z_iast (j := 0) C (z_up_s _ _ _) (z_inL (by decide)) (by decide) dX5_like_18 ?_
  rw [z_up_up]
  refine z_iinc (v := 1) (lv' := [(2, .int 1), (1, .ref q2), (0, .ref p)]) C dX5_like_19 0 rfl (by decide) (by decide) rfl ?_
  refine z_goto C (tgt := 7) dX5_like_22 (by decide) ?_
  refine z_iload_n C dX5_like_7 rfl 0 rfl ?_
  refine z_bipush C (v := 8) dX5_like_8 (by decide) ?_
  refine z_icmp_ge C (tgt := 25) dX5_like_10 (by decide) (fun c10 => absurd c10 (by decide)) (fun _ => ?_)
  refine z_aload_n C dX5_like_13 rfl 1 rfl ?_
  refine z_iload_n C dX5_like_14 rfl 0 rfl ?_
  refine z_aload_n C dX5_like_15 rfl 2 rfl ?_
  refine z_iload_n C dX5_like_16 rfl 0 rfl ?_
  refine z_pl1 C ((z_up_n _ _ (z_neN h_p hq2)).trans h_p) dX5_like_17 ?_
  refine z_iast (j := 1) C (z_up_s _ _ _) (z_inL (by decide)) (by decide) dX5_like_18 ?_
  rw [z_up_up]
  refine z_iinc (v := 2) (lv' := [(2, .int 2), (1, .ref q2), (0, .ref p)]) C dX5_like_19 0 rfl (by decide) (by decide) rfl ?_
  refine z_goto C (tgt := 7) dX5_like_22 (by decide) ?_
  refine z_iload_n C dX5_like_7 rfl 0 rfl ?_
  refine z_bipush C (v := 8) dX5_like_8 (by decide) ?_
  refine z_icmp_ge C (tgt := 25) dX5_like_10 (by decide) (fun c10 => absurd c10 (by decide)) (fun _ => ?_)
  refine z_aload_n C dX5_like_13 rfl 1 rfl ?_
  refine z_iload_n C dX5_like_14 rfl 0 rfl ?_
  refine z_aload_n C dX5_like_15 rfl 2 rfl ?_
  refine z_iload_n C dX5_like_16 rfl 0 rfl ?_
  refine z_pl2 C ((z_up_n _ _ (z_neN h_p hq2)).trans h_p) dX5_like_17 ?_
  refine z_iast (j := 2) C (z_up_s _ _ _) (z_inL (by decide)) (by decide) dX5_like_18 ?_
  rw [z_up_up]
  refine z_iinc (v := 3) (lv' := [(2, .int 3), (1, .ref q2), (0, .ref p)]) C dX5_like_19 0 rfl (by decide) (by decide) rfl ?_
  refine z_goto C (tgt := 7) dX5_like_22 (by decide) ?_
  refine z_iload_n C dX5_like_7 rfl 0 rfl ?_
  refine z_bipush C (v := 8) dX5_like_8 (by decide) ?_
  refine z_icmp_ge C (tgt := 25) dX5_like_10 (by decide) (fun c10 => absurd c10 (by decide)) (fun _ => ?_)
  refine z_aload_n C dX5_like_13 rfl 1 rfl ?_
  refine z_iload_n C dX5_like_14 rfl 0 rfl ?_
  refine z_aload_n C dX5_like_15 rfl 2 rfl ?_
  refine z_iload_n C dX5_like_16 rfl 0 rfl ?_
  refine z_pl3 C ((z_up_n _ _ (z_neN h_p hq2)).trans h_p) dX5_like_17 ?_
  refine z_iast (j := 3) C (z_up_s _ _ _) (z_inL (by decide)) (by decide) dX5_like_18 ?_
  rw [z_up_up]
  refine z_iinc (v := 4) (lv' := [(2, .int 4), (1, .ref q2), (0, .ref p)]) C dX5_like_19 0 rfl (by decide) (by decide) rfl ?_
  refine z_goto C (tgt := 7) dX5_like_22 (by decide) ?_
  refine z_iload_n C dX5_like_7 rfl 0 rfl ?_
  refine z_bipush C (v := 8) dX5_like_8 (by decide) ?_
  refine z_icmp_ge C (tgt := 25) dX5_like_10 (by decide) (fun c10 => absurd c10 (by decide)) (fun _ => ?_)
  refine z_aload_n C dX5_like_13 rfl 1 rfl ?_
  refine z_iload_n C dX5_like_14 rfl 0 rfl ?_
  refine z_aload_n C dX5_like_15 rfl 2 rfl ?_
  refine z_iload_n C dX5_like_16 rfl 0 rfl ?_
  refine z_pl4 C ((z_up_n _ _ (z_neN h_p hq2)).trans h_p) dX5_like_17 ?_
  refine z_iast (j := 4) C (z_up_s _ _ _) (z_inL (by decide)) (by decide) dX5_like_18 ?_
  rw [z_up_up]
  refine z_iinc (v := 5) (lv' := [(2, .int 5), (1, .ref q2), (0, .ref p)]) C dX5_like_19 0 rfl (by decide) (by decide) rfl ?_
  refine z_goto C (tgt := 7) dX5_like_22 (by decide) ?_
  refine z_iload_n C dX5_like_7 rfl 0 rfl ?_
  refine z_bipush C (v := 8) dX5_like_8 (by decide) ?_
  refine z_icmp_ge C (tgt := 25) dX5_like_10 (by decide) (fun c10 => absurd c10 (by decide)) (fun _ => ?_)
  refine z_aload_n C dX5_like_13 rfl 1 rfl ?_
  refine z_iload_n C dX5_like_14 rfl 0 rfl ?_
  refine z_aload_n C dX5_like_15 rfl 2 rfl ?_
  refine z_iload_n C dX5_like_16 rfl 0 rfl ?_
  refine z_pl5 C ((z_up_n _ _ (z_neN h_p hq2)).trans h_p) dX5_like_17 ?_
  refine z_iast (j := 5) C (z_up_s _ _ _) (z_inL (by decide)) (by decide) dX5_like_18 ?_
  rw [z_up_up]
  refine z_iinc (v := 6) (lv' := [(2, .int 6), (1, .ref q2), (0, .ref p)]) C dX5_like_19 0 rfl (by decide) (by decide) rfl ?_
  refine z_goto C (tgt := 7) dX5_like_22 (by decide) ?_
  refine z_iload_n C dX5_like_7 rfl 0 rfl ?_
  refine z_bipush C (v := 8) dX5_like_8 (by decide) ?_
  refine z_icmp_ge C (tgt := 25) dX5_like_10 (by decide) (fun c10 => absurd c10 (by decide)) (fun _ => ?_)
  refine z_aload_n C dX5_like_13 rfl 1 rfl ?_
  refine z_iload_n C dX5_like_14 rfl 0 rfl ?_
  refine z_aload_n C dX5_like_15 rfl 2 rfl ?_
  refine z_iload_n C dX5_like_16 rfl 0 rfl ?_
  refine z_pl6 C ((z_up_n _ _ (z_neN h_p hq2)).trans h_p) dX5_like_17 ?_
  refine z_iast (j := 6) C (z_up_s _ _ _) (z_inL (by decide)) (by decide) dX5_like_18 ?_
  rw [z_up_up]
  refine z_iinc (v := 7) (lv' := [(2, .int 7), (1, .ref q2), (0, .ref p)]) C dX5_like_19 0 rfl (by decide) (by decide) rfl ?_
  refine z_goto C (tgt := 7) dX5_like_22 (by decide) ?_
  refine z_iload_n C dX5_like_7 rfl 0 rfl ?_
  refine z_bipush C (v := 8) dX5_like_8 (by decide) ?_
  refine z_icmp_ge C (tgt := 25) dX5_like_10 (by decide) (fun c10 => absurd c10 (by decide)) (fun _ => ?_)
  refine z_aload_n C dX5_like_13 rfl 1 rfl ?_
  refine z_iload_n C dX5_like_14 rfl 0 rfl ?_
  refine z_aload_n C dX5_like_15 rfl 2 rfl ?_
  refine z_iload_n C dX5_like_16 rfl 0 rfl ?_
  refine z_pl7 C ((z_up_n _ _ (z_neN h_p hq2)).trans h_p) dX5_like_17 ?_
  refine z_iast (j := 7) C (z_up_s _ _ _) (z_inL (by decide)) (by decide) dX5_like_18 ?_
  rw [z_up_up]
  refine z_iinc (v := 8) (lv' := [(2, .int 8), (1, .ref q2), (0, .ref p)]) C dX5_like_19 0 rfl (by decide) (by decide) rfl ?_
  refine z_goto C (tgt := 7) dX5_like_22 (by decide) ?_
  refine z_iload_n C dX5_like_7 rfl 0 rfl ?_
  refine z_bipush C (v := 8) dX5_like_8 (by decide) ?_
  refine z_icmp_ge C (tgt := 25) dX5_like_10 (by decide) (fun _ => ?_) (fun c10 => absurd (by decide) c10)
  refine z_aload_n C dX5_like_25 rfl 1 rfl ?_
  refine ret dX5_like_26 ?_ (by decide) (by decide)
  exact ⟨_, hq2, rfl, rfl⟩
theorem lp_made {X : zX} {rm : Room} {M : zM} {G : zG} (hG : z_G X = G) (C : z_C X cX5_made RX5 4 rm) {m q tp nt N k n pn td : Nat} {ft : Nat → Int32} {ro ac kn th ln : Int32} (h_m : M m = some (cMd tp ro pn td ac kn th)) (h_tp : M tp = some (aI G nt ft)) (hq : M q = none) (hN : nt ≤ N) (h31 : N < 2 ^ 31)
    (kk : z_W X (z_up M q (aI G N (z_cp ft nt))) k n 36 [(3, .int (nI nt)), (2, .ref q), (0, .ref m), (1, .int ln)] []) : ∀ d j : Nat, j + d = nt → z_W X (z_up M q (aI G N (z_cp ft j))) k n 12 [(3, .int (nI j)), (2, .ref q), (0, .ref m), (1, .int ln)] [] := by
  subst hG
  intro d
  induction d with
  | zero =>
    intro j hj
    refine z_iload_n C dX5_made_12 rfl 0 rfl ?_
    refine z_aload_n C dX5_made_13 rfl 2 rfl ?_
    refine gf_X5_9 C ((z_up_n _ _ (z_neN h_m hq)).trans h_m) dX5_made_14 ?_
    refine z_alenI C (v := Int32.ofNat nt) ((z_up_n _ _ (z_neN h_tp hq)).trans h_tp) rfl dX5_made_17 ?_
    refine z_icmp_ge C (tgt := 36) dX5_made_18 (by decide) (fun _ => ?_) (fun c18 => absurd (nI_le (a := nt) (b := j) (by omega) (by omega)) c18)
    rw [show j = nt by omega]
    exact kk
  | succ d ih =>
    intro j hj
    refine z_iload_n C dX5_made_12 rfl 0 rfl ?_
    refine z_aload_n C dX5_made_13 rfl 2 rfl ?_
    refine gf_X5_9 C ((z_up_n _ _ (z_neN h_m hq)).trans h_m) dX5_made_14 ?_
    refine z_alenI C (v := Int32.ofNat nt) ((z_up_n _ _ (z_neN h_tp hq)).trans h_tp) rfl dX5_made_17 ?_
    refine z_icmp_ge C (tgt := 36) dX5_made_18 (by decide) (fun c18 => absurd c18 (nI_ge (a := j) (b := nt) (by omega) (by omega))) (fun _ => ?_)
    refine z_aload_n C dX5_made_21 rfl 1 rfl ?_
    refine z_iload_n C dX5_made_22 rfl 0 rfl ?_
    refine z_aload_n C dX5_made_23 rfl 2 rfl ?_
    refine gf_X5_9 C ((z_up_n _ _ (z_neN h_m hq)).trans h_m) dX5_made_24 ?_
    refine z_iload_n C dX5_made_27 rfl 0 rfl ?_
    refine z_iald (j := j) C ((z_up_n _ _ (z_neN h_tp hq)).trans h_tp) (vp_in_nI (by omega) (by omega)) (nI_clamp (by omega)) dX5_made_28 ?_
    refine z_iast (j := j) C (z_up_s _ _ _) (vp_in_nI (by omega) (by omega)) (nI_clamp (by omega)) dX5_made_29 ?_
    rw [z_up_up]
    refine z_iinc (v := nI (j + 1)) (lv' := [(3, .int (nI (j + 1))), (2, .ref q), (0, .ref m), (1, .int ln)]) C dX5_made_30 0 rfl (nI_1 j) (by decide) rfl ?_
    refine z_goto C (tgt := 12) dX5_made_33 (by decide) ?_
    rw [z_cpS]
    exact ih (j + 1) (by omega)
set_option maxRecDepth 20000 in
theorem c_X5_made (l : Launch) (G : zG) {M : zM} {m : Nat} {ln : Int32} {tp : Nat} {nr : Int32} {pn : Nat} {td : Nat} {ac : Int32} {kn : Int32} {th : Int32} {nt : Nat} {ft : Nat → Int32} {l9 : Nat} (h_m : M m = some (cMd tp nr pn td ac kn th)) (h_tp : M tp = some (aI G nt ft)) (h_ln : ln = nI l9) (h_l9 : l9 ≤ 12) (h_nt : 16 ≤ nt ∧ nt < 900) : z_Mr l G qX5_made (z_rm 2 2 1000) [.ref m, .int ln] M (fun r M' => ∃ q7 : Nat, (M) q7 = none ∧ ∃ q_47 : Nat, (z_up M q7 (aI G (nt + l9) (z_cp ft nt))) q_47 = none ∧ r = q_47 ∧ M' = z_up (z_up (z_up M q7 (aI G (nt + l9) (z_cp ft nt))) q_47 (cPm G nr (Int32.ofNat nt) 0 ln 0 ln (-1) 0)) m (cMd q7 (nr + 1) pn td ac kn th))  := by
  refine z_Mr_of _ (plainFor_of_name rfl) rfl (by first | exact Or.inl ⟨_, rfl⟩ | exact Or.inr ⟨_, rfl⟩) (Nat.le_of_ble_eq_true rfl) (fun X hl hG hnm C ret => ?_)
  subst hl; subst hG
  have C : z_C X cX5_made RX5 4 (z_rm 2 2 1000) := C
  show z_W X M 0 0 0 [(0, .ref m), (1, .int ln)] []
  obtain ⟨h_n1, h_n2⟩ := h_nt
  refine z_aload_n C dX5_made_0 rfl 0 rfl ?_
  refine gf_X5_9 C h_m dX5_made_1 ?_
  refine z_alenI C (v := Int32.ofNat nt) h_tp rfl dX5_made_4 ?_
  refine z_iload_n C dX5_made_5 rfl 1 rfl ?_
  refine z_iadd C dX5_made_6 ?_
  refine z_newI (N := nt + l9) C kw44 (by rw [h_ln]; exact (nI_add nt l9).symm ▸ nI_pos (by omega)) (by rw [h_ln]; exact (congrArg Int32.toNatClampNeg (nI_add nt l9)).trans (nI_clamp (by omega))) (by omega) (by decide) (show 0 + (nt + l9) ≤ 1000 by omega) dX5_made_7 (fun q7 hq7 => ?_)
  refine z_kn (k' := 1) (n' := 0 + (nt + l9)) rfl rfl ?_
  refine z_astore_n (lv' := [(2, .ref q7), (0, .ref m), (1, .int ln)]) C dX5_made_9 rfl (by decide) rfl ?_
  refine z_iconst C (v := 0) dX5_made_10 (by decide) ?_
  refine z_istore_n (lv' := [(3, .int 0), (2, .ref q7), (0, .ref m), (1, .int ln)]) C dX5_made_11 rfl (by decide) rfl ?_
  refine z_at (M' := z_up M q7 (aI (z_G X) (nt + l9) (z_cp ft 0))) (lv' := [(3, .int (nI 0)), (2, .ref q7), (0, .ref m), (1, .int ln)]) (by rw [z_cp0]) (by rw [nI_0]) rfl ?_
  refine lp_made rfl C h_m h_tp hq7 (by omega) (by omega) ?_ nt 0 (by omega)
  refine z_aload_n C dX5_made_36 rfl 2 rfl ?_
  refine gf_X5_13 C ((z_up_n _ _ (z_neN h_m hq7)).trans h_m) dX5_made_37 ?_
  refine z_aload_n C dX5_made_40 rfl 2 rfl ?_
  refine gf_X5_9 C ((z_up_n _ _ (z_neN h_m hq7)).trans h_m) dX5_made_41 ?_
  refine z_alenI C (v := Int32.ofNat nt) ((z_up_n _ _ (z_neN h_tp hq7)).trans h_tp) rfl dX5_made_44 ?_
  refine z_iconst C (v := 0) dX5_made_45 (by decide) ?_
  refine z_iload_n C dX5_made_46 rfl 3 rfl ?_
  refine z_callSr (rest := []) (k' := 2) (n' := 0 + (nt + l9) + 8) C (c_X5_over (z_l X) (z_G X) ) (cs_X5_25 C (by decide)) rfl rfl (Nat.le_of_ble_eq_true rfl) rfl rfl (by decide) (show 0 + (nt + l9) + 8 ≤ 1000 by omega) dX5_made_47 (fun x47 M' hq => ?_)
  obtain ⟨q_47, hq_47, hr47, rfl⟩ := hq
  rw [hr47]
  refine z_astore_n (lv' := [(3, .ref q_47), (2, .ref q7), (0, .ref m), (1, .int ln)]) C dX5_made_50 rfl (by decide) rfl ?_
  refine z_aload_n C dX5_made_51 rfl 2 rfl ?_
  refine z_aload_n C dX5_made_52 rfl 1 rfl ?_
  refine pf_X5_9 C ((z_up_n _ _ (z_neN ((z_up_n _ _ (z_neN h_m hq7)).trans h_m) hq_47)).trans ((z_up_n _ _ (z_neN h_m hq7)).trans h_m)) dX5_made_53 ?_
  refine z_aload_n C dX5_made_56 rfl 2 rfl ?_
  refine z_dup C dX5_made_57 rfl ?_
  refine gf_X5_13 C (z_up_s _ _ _) dX5_made_58 ?_
  refine z_iconst C (v := 1) dX5_made_61 (by decide) ?_
  refine z_iadd C dX5_made_62 ?_
  refine pg_X5_13 C dX5_made_63 ?_
  refine z_aload_n C dX5_made_66 rfl 0 rfl ?_
  exact ret dX5_made_67 (⟨q7, hq7, q_47, hq_47, rfl, rfl⟩) (by decide) (show 0 + (nt + l9) + 8 ≤ 1000 by omega)
set_option maxRecDepth 20000 in
theorem c_X5_cut (l : Launch) (G : zG) {M : zM} {m : Nat} {pane : Int32} {p : Nat} {ix0 : Int32} {mn : Int32} {tp : Nat} {nr : Int32} {pn : Nat} {td : Nat} {ac : Int32} {kn : Int32} {th : Int32} {fp : Nat → Option Nat} {ro : Int32} {ba : Int32} {sa : Int32} {cp : Int32} {po : Int32} {li : Int32} {mk : Int32} {rd : Int32} {i : Nat} (h_m : M m = some (cMd tp nr pn td ac kn th)) (h_pn : M pn = some (aII G 6 fp)) (h_p : M p = some (cPm G ro ba sa cp po li mk rd)) (h_ip : vp_in pane 6) (h_ij : pane.toNatClampNeg = i) : z_Mi l G qX5_cut (z_rm 2 1 8) [.ref m, .int pane, .ref p, .int ix0, .int mn] M (fun r M' => ∃ q_13 : Nat, (M) q_13 = none ∧ r = mn ∧ M' = z_up (z_up (z_up M q_13 (cPm G ro ba (sa + ix0) mn 0 mn (-1) rd)) pn (aII G 6 (va_up fp i (some q_13)))) m (cMd tp nr pn td (ac + 1) kn th))  := by
  refine z_Mi_of _ (plainFor_of_name rfl) rfl (Nat.le_of_ble_eq_true rfl) (fun X hl hG hnm C ret => ?_)
  subst hl; subst hG
  have C : z_C X cX5_cut RX5 6 (z_rm 2 1 8) := C
  show z_W X M 0 0 0 [(0, .ref m), (1, .int pane), (2, .ref p), (3, .int ix0), (4, .int mn)] []
  refine z_aload_n C dX5_cut_0 rfl 2 rfl ?_
  refine z_iconst C (v := 0) dX5_cut_1 (by decide) ?_
  refine z_pl0 C h_p dX5_cut_2 ?_
  refine z_aload_n C dX5_cut_3 rfl 2 rfl ?_
  refine z_iconst C (v := 1) dX5_cut_4 (by decide) ?_
  refine z_pl1 C h_p dX5_cut_5 ?_
  refine z_aload_n C dX5_cut_6 rfl 2 rfl ?_
  refine z_iconst C (v := 2) dX5_cut_7 (by decide) ?_
  refine z_pl2 C h_p dX5_cut_8 ?_
  refine z_iload_n C dX5_cut_9 rfl 3 rfl ?_
  refine z_iadd C dX5_cut_10 ?_
  refine z_iload C dX5_cut_11 4 rfl ?_
  refine z_callSr (rest := []) (k' := 1) (n' := 8) C (c_X5_over (z_l X) (z_G X) ) (cs_X5_25 C (by decide)) rfl rfl (Nat.le_of_ble_eq_true rfl) rfl rfl (by decide) (by decide) dX5_cut_13 (fun x13 M' hq => ?_)
  obtain ⟨q_13, hq_13, hr13, rfl⟩ := hq
  rw [hr13]
  refine z_astore (lv' := [(5, .ref q_13), (0, .ref m), (1, .int pane), (2, .ref p), (3, .int ix0), (4, .int mn)]) C dX5_cut_16 (by decide) rfl ?_
  refine z_aload C dX5_cut_18 0 rfl ?_
  refine z_bipush C (v := 7) dX5_cut_20 (by decide) ?_
  refine z_aload_n C dX5_cut_22 rfl 3 rfl ?_
  refine z_bipush C (v := 7) dX5_cut_23 (by decide) ?_
  refine z_pl7 C ((z_up_n _ _ (z_neN h_p hq_13)).trans h_p) dX5_cut_25 ?_
  refine z_pt7 C dX5_cut_26 ?_
  refine z_aload_n C dX5_cut_27 rfl 1 rfl ?_
  refine gf_X5_18 C ((z_up_n _ _ (z_neN h_m hq_13)).trans h_m) dX5_cut_28 ?_
  refine z_iload_n C dX5_cut_31 rfl 2 rfl ?_
  refine z_aload C dX5_cut_32 0 rfl ?_
  refine z_aastII (j := i) C kn1042 ((z_up_n _ _ (z_neN h_pn hq_13)).trans h_pn) (z_up_s _ _ _) h_ip h_ij dX5_cut_34 ?_
  refine z_aload_n C dX5_cut_35 rfl 1 rfl ?_
  refine z_iload C dX5_cut_36 5 rfl ?_
  refine z_callVi (rest := []) (k' := 1) (n' := 8) C (c_X5_did (z_l X) (z_G X) ((z_up_n _ _ (z_ne h_m h_pn (by intro h; cases h))).trans ((z_up_n _ _ (z_neN h_m hq_13)).trans h_m))) (cs_X5_63 C (by decide)) ((z_up_n _ _ (z_ne h_m h_pn (by intro h; cases h))).trans ((z_up_n _ _ (z_neN h_m hq_13)).trans h_m)) rfl rfl rfl rfl (Nat.le_of_ble_eq_true rfl) rfl rfl (by decide) (by decide) dX5_cut_38 (fun x38 M' hq => ?_)
  obtain ⟨hr38, rfl⟩ := hq
  rw [hr38]
  exact ret dX5_cut_41 rfl (⟨q_13, hq_13, rfl, rfl⟩) (by decide) (by decide)
set_option maxRecDepth 20000 in
theorem c_X5_wrap_bad (l : Launch) (G : zG) {M : zM} {m : Nat} {pane : Int32} {fr : Int32} {mn : Int32} {tp : Nat} {nr : Int32} {pn : Nat} {td : Nat} {ac : Int32} {kn : Int32} {th : Int32}  (h_m : M m = some (cMd tp nr pn td ac kn th)) (h_bad : z_is pane 0 5 = 0) : z_Mi l G qX5_wrap (z_rm 3 1 8) [.ref m, .int pane, .int fr, .int mn] M (fun r M' => (((z_is fr 0 16) = 0) ∧ r = 0 ∧ M' = z_up M m (cMd tp nr pn td ac kn (z_lt (z_is pane 0 5) 0))) ∨ ((¬ (z_is fr 0 16) = 0) ∧ ((z_is mn 0 (16 - fr)) = 0) ∧ r = 0 ∧ M' = z_up M m (cMd tp nr pn td ac kn (z_lt (z_is pane 0 5) 0))) ∨ ((¬ (z_is fr 0 16) = 0) ∧ (¬ (z_is mn 0 (16 - fr)) = 0) ∧ r = 0 ∧ M' = z_up M m (cMd tp nr pn td ac kn (z_lt (z_is pane 0 5) 1))))  := by
  refine z_Mi_of _ (plainFor_of_name rfl) rfl (Nat.le_of_ble_eq_true rfl) (fun X hl hG hnm C ret => ?_)
  subst hl; subst hG
  have C : z_C X cX5_wrap RX5 4 (z_rm 3 1 8) := C
  show z_W X M 0 0 0 [(0, .ref m), (1, .int pane), (2, .int fr), (3, .int mn)] []
  refine z_aload_n C dX5_wrap_0 rfl 0 rfl ?_
  refine z_iload_n C dX5_wrap_1 rfl 1 rfl ?_
  refine z_callSi (rest := [.ref m]) (k' := 0) (n' := 0) C (c_X5_isPane (z_l X) (z_G X) ) (cs_X5_55 C (by decide)) rfl rfl (Nat.le_of_ble_eq_true rfl) rfl rfl (by decide) (by decide) dX5_wrap_2 (fun x2 M' hq => ?_)
  obtain ⟨rfl, rfl⟩ := hq
  refine z_iload_n C dX5_wrap_5 rfl 2 rfl ?_
  refine z_iconst C (v := 0) dX5_wrap_6 (by decide) ?_
  refine z_bipush C (v := 16) dX5_wrap_7 (by decide) ?_
  refine z_callSi (rest := [.int (z_is pane 0 5), .ref m]) (k' := 0) (n' := 0) C (c_X5_isIn (z_l X) (z_G X) ) (cs_X5_36 C (by decide)) rfl rfl (Nat.le_of_ble_eq_true rfl) rfl rfl (by decide) (by decide) dX5_wrap_9 (fun x9 M' hq => ?_)
  obtain ⟨rfl, rfl⟩ := hq
  refine z_if_eq C (tgt := 31) dX5_wrap_12 (by decide) (fun c12 => ?_) (fun c12 => ?_)
  · refine z_iconst C (v := 0) dX5_wrap_31 (by decide) ?_
    refine z_callVi (rest := []) (k' := 0) (n' := 0) C (c_X5_isLet (z_l X) (z_G X) h_m) (cs_X5_59 C (by decide)) h_m rfl rfl rfl rfl (Nat.le_of_ble_eq_true rfl) rfl rfl (by decide) (by decide) dX5_wrap_32 (fun x32 M' hq => ?_)
    obtain ⟨rfl, rfl⟩ := hq
    refine z_if_ne C (tgt := 40) dX5_wrap_35 (by decide) (fun c35 => absurd (by simp [z_lr, z_lt, h_bad]) c35) (fun _ => ?_)
    refine z_iconst C (v := 0) dX5_wrap_38 (by decide) ?_
    exact ret dX5_wrap_39 rfl (Or.inl ⟨c12, rfl, rfl⟩) (by decide) (by decide)
  · refine z_iload_n C dX5_wrap_15 rfl 3 rfl ?_
    refine z_iconst C (v := 0) dX5_wrap_16 (by decide) ?_
    refine z_bipush C (v := 16) dX5_wrap_17 (by decide) ?_
    refine z_iload_n C dX5_wrap_19 rfl 2 rfl ?_
    refine z_isub C dX5_wrap_20 ?_
    refine z_callSi (rest := [.int (z_is pane 0 5), .ref m]) (k' := 0) (n' := 0) C (c_X5_isIn (z_l X) (z_G X) ) (cs_X5_36 C (by decide)) rfl rfl (Nat.le_of_ble_eq_true rfl) rfl rfl (by decide) (by decide) dX5_wrap_21 (fun x21 M' hq => ?_)
    obtain ⟨rfl, rfl⟩ := hq
    refine z_if_eq C (tgt := 31) dX5_wrap_24 (by decide) (fun c24 => ?_) (fun c24 => ?_)
    · refine z_iconst C (v := 0) dX5_wrap_31 (by decide) ?_
      refine z_callVi (rest := []) (k' := 0) (n' := 0) C (c_X5_isLet (z_l X) (z_G X) h_m) (cs_X5_59 C (by decide)) h_m rfl rfl rfl rfl (Nat.le_of_ble_eq_true rfl) rfl rfl (by decide) (by decide) dX5_wrap_32 (fun x32 M' hq => ?_)
      obtain ⟨rfl, rfl⟩ := hq
      refine z_if_ne C (tgt := 40) dX5_wrap_35 (by decide) (fun c35 => absurd (by simp [z_lr, z_lt, h_bad]) c35) (fun _ => ?_)
      refine z_iconst C (v := 0) dX5_wrap_38 (by decide) ?_
      exact ret dX5_wrap_39 rfl (Or.inr (Or.inl ⟨c12, c24, rfl, rfl⟩)) (by decide) (by decide)
    · refine z_iconst C (v := 1) dX5_wrap_27 (by decide) ?_
      refine z_goto C (tgt := 32) dX5_wrap_28 (by decide) ?_
      refine z_callVi (rest := []) (k' := 0) (n' := 0) C (c_X5_isLet (z_l X) (z_G X) h_m) (cs_X5_59 C (by decide)) h_m rfl rfl rfl rfl (Nat.le_of_ble_eq_true rfl) rfl rfl (by decide) (by decide) dX5_wrap_32 (fun x32 M' hq => ?_)
      obtain ⟨rfl, rfl⟩ := hq
      refine z_if_ne C (tgt := 40) dX5_wrap_35 (by decide) (fun c35 => absurd (by simp [z_lr, z_lt, h_bad]) c35) (fun _ => ?_)
      refine z_iconst C (v := 0) dX5_wrap_38 (by decide) ?_
      exact ret dX5_wrap_39 rfl (Or.inr (Or.inr (⟨c12, c24, rfl, rfl⟩))) (by decide) (by decide)
set_option maxRecDepth 20000 in
theorem c_X5_wrap (l : Launch) (G : zG) {M : zM} {m : Nat} {pane : Int32} {fr : Int32} {mn : Int32} {tp : Nat} {nr : Int32} {pn : Nat} {td : Nat} {ac : Int32} {kn : Int32} {th : Int32} {fp : Nat → Option Nat} {i : Nat}  (h_m : M m = some (cMd tp nr pn td ac kn th)) (h_pn : M pn = some (aII G 6 fp)) (h_ok : z_is pane 0 5 = 1) (h_ip : vp_in pane 6) (h_ij : pane.toNatClampNeg = i) : z_Mi l G qX5_wrap (z_rm 3 1 8) [.ref m, .int pane, .int fr, .int mn] M (fun r M' => (((z_is fr 0 16) = 0) ∧ r = 0 ∧ M' = z_up M m (cMd tp nr pn td ac kn (z_lt (z_is pane 0 5) 0))) ∨ ((¬ (z_is fr 0 16) = 0) ∧ ((z_is mn 0 (16 - fr)) = 0) ∧ r = 0 ∧ M' = z_up M m (cMd tp nr pn td ac kn (z_lt (z_is pane 0 5) 0))) ∨ (∃ q_50 : Nat, (z_up M m (cMd tp nr pn td ac kn (z_lt (z_is pane 0 5) 1))) q_50 = none ∧ (¬ (z_is fr 0 16) = 0) ∧ (¬ (z_is mn 0 (16 - fr)) = 0) ∧ r = (fr + mn) ∧ M' = z_up (z_up (z_up M pn (aII G 6 (va_up fp i (some q_50)))) q_50 (cPm G 0 0 0 16 fr (fr + mn) (-1) 0)) m (cMd tp nr pn td (ac + 1) kn (z_lt (z_is pane 0 5) 1))))  := by
  refine z_Mi_of _ (plainFor_of_name rfl) rfl (Nat.le_of_ble_eq_true rfl) (fun X hl hG hnm C ret => ?_)
  subst hl; subst hG
  have C : z_C X cX5_wrap RX5 4 (z_rm 3 1 8) := C
  show z_W X M 0 0 0 [(0, .ref m), (1, .int pane), (2, .int fr), (3, .int mn)] []
  refine z_aload_n C dX5_wrap_0 rfl 0 rfl ?_
  refine z_iload_n C dX5_wrap_1 rfl 1 rfl ?_
  refine z_callSi (rest := [.ref m]) (k' := 0) (n' := 0) C (c_X5_isPane (z_l X) (z_G X) ) (cs_X5_55 C (by decide)) rfl rfl (Nat.le_of_ble_eq_true rfl) rfl rfl (by decide) (by decide) dX5_wrap_2 (fun x2 M' hq => ?_)
  obtain ⟨rfl, rfl⟩ := hq
  refine z_iload_n C dX5_wrap_5 rfl 2 rfl ?_
  refine z_iconst C (v := 0) dX5_wrap_6 (by decide) ?_
  refine z_bipush C (v := 16) dX5_wrap_7 (by decide) ?_
  refine z_callSi (rest := [.int (z_is pane 0 5), .ref m]) (k' := 0) (n' := 0) C (c_X5_isIn (z_l X) (z_G X) ) (cs_X5_36 C (by decide)) rfl rfl (Nat.le_of_ble_eq_true rfl) rfl rfl (by decide) (by decide) dX5_wrap_9 (fun x9 M' hq => ?_)
  obtain ⟨rfl, rfl⟩ := hq
  refine z_if_eq C (tgt := 31) dX5_wrap_12 (by decide) (fun c12 => ?_) (fun c12 => ?_)
  · refine z_iconst C (v := 0) dX5_wrap_31 (by decide) ?_
    refine z_callVi (rest := []) (k' := 0) (n' := 0) C (c_X5_isLet (z_l X) (z_G X) h_m) (cs_X5_59 C (by decide)) h_m rfl rfl rfl rfl (Nat.le_of_ble_eq_true rfl) rfl rfl (by decide) (by decide) dX5_wrap_32 (fun x32 M' hq => ?_)
    obtain ⟨rfl, rfl⟩ := hq
    refine z_if_ne C (tgt := 40) dX5_wrap_35 (by decide) (fun c35 => absurd (by simp [z_lr, z_lt, h_ok]) c35) (fun _ => ?_)
    refine z_iconst C (v := 0) dX5_wrap_38 (by decide) ?_
    exact ret dX5_wrap_39 rfl (Or.inl ⟨c12, rfl, rfl⟩) (by decide) (by decide)
  · refine z_iload_n C dX5_wrap_15 rfl 3 rfl ?_
    refine z_iconst C (v := 0) dX5_wrap_16 (by decide) ?_
    refine z_bipush C (v := 16) dX5_wrap_17 (by decide) ?_
    refine z_iload_n C dX5_wrap_19 rfl 2 rfl ?_
    refine z_isub C dX5_wrap_20 ?_
    refine z_callSi (rest := [.int (z_is pane 0 5), .ref m]) (k' := 0) (n' := 0) C (c_X5_isIn (z_l X) (z_G X) ) (cs_X5_36 C (by decide)) rfl rfl (Nat.le_of_ble_eq_true rfl) rfl rfl (by decide) (by decide) dX5_wrap_21 (fun x21 M' hq => ?_)
    obtain ⟨rfl, rfl⟩ := hq
    refine z_if_eq C (tgt := 31) dX5_wrap_24 (by decide) (fun c24 => ?_) (fun c24 => ?_)
    · refine z_iconst C (v := 0) dX5_wrap_31 (by decide) ?_
      refine z_callVi (rest := []) (k' := 0) (n' := 0) C (c_X5_isLet (z_l X) (z_G X) h_m) (cs_X5_59 C (by decide)) h_m rfl rfl rfl rfl (Nat.le_of_ble_eq_true rfl) rfl rfl (by decide) (by decide) dX5_wrap_32 (fun x32 M' hq => ?_)
      obtain ⟨rfl, rfl⟩ := hq
      refine z_if_ne C (tgt := 40) dX5_wrap_35 (by decide) (fun c35 => absurd (by simp [z_lr, z_lt, h_ok]) c35) (fun _ => ?_)
      refine z_iconst C (v := 0) dX5_wrap_38 (by decide) ?_
      exact ret dX5_wrap_39 rfl (Or.inr (Or.inl ⟨c12, c24, rfl, rfl⟩)) (by decide) (by decide)
    · refine z_iconst C (v := 1) dX5_wrap_27 (by decide) ?_
      refine z_goto C (tgt := 32) dX5_wrap_28 (by decide) ?_
      refine z_callVi (rest := []) (k' := 0) (n' := 0) C (c_X5_isLet (z_l X) (z_G X) h_m) (cs_X5_59 C (by decide)) h_m rfl rfl rfl rfl (Nat.le_of_ble_eq_true rfl) rfl rfl (by decide) (by decide) dX5_wrap_32 (fun x32 M' hq => ?_)
      obtain ⟨rfl, rfl⟩ := hq
      refine z_if_ne C (tgt := 40) dX5_wrap_35 (by decide) (fun _ => ?_) (fun c35 => absurd c35 (by simp [z_lr, z_lt, h_ok]))
      refine z_aload_n C dX5_wrap_40 rfl 0 rfl ?_
      refine gf_X5_18 C (z_up_s _ _ _) dX5_wrap_41 ?_
      refine z_iload_n C dX5_wrap_44 rfl 1 rfl ?_
      refine z_iconst C (v := 0) dX5_wrap_45 (by decide) ?_
      refine z_iconst C (v := 0) dX5_wrap_46 (by decide) ?_
      refine z_iconst C (v := 0) dX5_wrap_47 (by decide) ?_
      refine z_bipush C (v := 16) dX5_wrap_48 (by decide) ?_
      refine z_callSr (rest := [.int pane, .ref pn]) (k' := 1) (n' := 8) C (c_X5_over (z_l X) (z_G X) ) (cs_X5_25 C (by decide)) rfl rfl (Nat.le_of_ble_eq_true rfl) rfl rfl (by decide) (by decide) dX5_wrap_50 (fun x50 M' hq => ?_)
      obtain ⟨q_50, hq_50, hr50, rfl⟩ := hq
      rw [hr50]
      refine z_aastII (j := i) C kn1042 ((z_up_n _ _ (z_neN ((z_up_n _ _ (z_ne h_pn h_m (by intro h; cases h))).trans h_pn) hq_50)).trans ((z_up_n _ _ (z_ne h_pn h_m (by intro h; cases h))).trans h_pn)) (z_up_s _ _ _) h_ip h_ij dX5_wrap_53 ?_
      refine z_aload_n C dX5_wrap_54 rfl 0 rfl ?_
      refine gf_X5_18 C ((z_up_n _ _ (z_ne h_m h_pn (by intro h; cases h))).trans ((z_up_n _ _ (z_neN (z_up_s _ _ _) hq_50)).trans (z_up_s _ _ _))) dX5_wrap_55 ?_
      refine z_iload_n C dX5_wrap_58 rfl 1 rfl ?_
      refine z_aaldI (j := i) C (z_up_s _ _ _) h_ip h_ij (va_up_self _ _ _) dX5_wrap_59 ?_
      refine z_iconst C (v := 4) dX5_wrap_60 (by decide) ?_
      refine z_iload_n C dX5_wrap_61 rfl 2 rfl ?_
      rw [z_up_swap _ (Ne.symm (z_neN ((z_up_n _ _ (z_ne h_pn h_m (by intro h; cases h))).trans h_pn) hq_50))]
      refine z_pt4 C dX5_wrap_62 ?_
      refine z_aload_n C dX5_wrap_63 rfl 0 rfl ?_
      refine gf_X5_18 C ((z_up_n _ _ (z_neN (z_up_s _ _ _) hq_50)).trans ((z_up_n _ _ (z_ne h_m h_pn (by intro h; cases h))).trans (z_up_s _ _ _))) dX5_wrap_64 ?_
      refine z_iload_n C dX5_wrap_67 rfl 1 rfl ?_
      refine z_aaldI (j := i) C ((z_up_n _ _ (z_neN ((z_up_n _ _ (z_ne h_pn h_m (by intro h; cases h))).trans h_pn) hq_50)).trans (z_up_s _ _ _)) h_ip h_ij (va_up_self _ _ _) dX5_wrap_68 ?_
      refine z_iconst C (v := 5) dX5_wrap_69 (by decide) ?_
      refine z_iload_n C dX5_wrap_70 rfl 2 rfl ?_
      refine z_iload_n C dX5_wrap_71 rfl 3 rfl ?_
      refine z_iadd C dX5_wrap_72 ?_
      refine z_pt5 C dX5_wrap_73 ?_
      refine z_aload_n C dX5_wrap_74 rfl 0 rfl ?_
      refine z_iload_n C dX5_wrap_75 rfl 2 rfl ?_
      refine z_iload_n C dX5_wrap_76 rfl 3 rfl ?_
      refine z_iadd C dX5_wrap_77 ?_
      refine z_callVi (rest := []) (k' := 1) (n' := 8) C (c_X5_did (z_l X) (z_G X) ((z_up_n _ _ (z_neN (z_up_s _ _ _) hq_50)).trans ((z_up_n _ _ (z_ne h_m h_pn (by intro h; cases h))).trans (z_up_s _ _ _)))) (cs_X5_63 C (by decide)) ((z_up_n _ _ (z_neN (z_up_s _ _ _) hq_50)).trans ((z_up_n _ _ (z_ne h_m h_pn (by intro h; cases h))).trans (z_up_s _ _ _))) rfl rfl rfl rfl (Nat.le_of_ble_eq_true rfl) rfl rfl (by decide) (by decide) dX5_wrap_78 (fun x78 M' hq => ?_)
      obtain ⟨rfl, rfl⟩ := hq
      rw [z_up_swap _ (z_ne h_m h_pn (by intro h; cases h))]
      rw [z_up_swap _ (z_neN (z_up_s _ _ _) hq_50)]
      rw [z_up_up]
      exact ret dX5_wrap_81 rfl (Or.inr (Or.inr (⟨q_50, hq_50, c12, c24, rfl, rfl⟩))) (by decide) (by decide)
set_option maxRecDepth 20000 in
theorem c_X5_fresh_bad (l : Launch) (G : zG) {M : zM} {m : Nat} {pane : Int32} {ln : Int32} {tp : Nat} {nr : Int32} {pn : Nat} {td : Nat} {ac : Int32} {kn : Int32} {th : Int32}  (h_m : M m = some (cMd tp nr pn td ac kn th)) (h_bad : z_is pane 0 5 = 0) : z_Mi l G qX5_fresh (z_rm 3 2 1000) [.ref m, .int pane, .int ln] M (fun r M' => r = 0 ∧ M' = z_up M m (cMd tp nr pn td ac kn (z_lt (z_is pane 0 5) (z_is ln 0 12))))  := by
  refine z_Mi_of _ (plainFor_of_name rfl) rfl (Nat.le_of_ble_eq_true rfl) (fun X hl hG hnm C ret => ?_)
  subst hl; subst hG
  have C : z_C X cX5_fresh RX5 3 (z_rm 3 2 1000) := C
  show z_W X M 0 0 0 [(0, .ref m), (1, .int pane), (2, .int ln)] []
  refine z_aload_n C dX5_fresh_0 rfl 0 rfl ?_
  refine z_iload_n C dX5_fresh_1 rfl 1 rfl ?_
  refine z_callSi (rest := [.ref m]) (k' := 0) (n' := 0) C (c_X5_isPane (z_l X) (z_G X) ) (cs_X5_55 C (by decide)) rfl rfl (Nat.le_of_ble_eq_true rfl) rfl rfl (by decide) (by decide) dX5_fresh_2 (fun x2 M' hq => ?_)
  obtain ⟨rfl, rfl⟩ := hq
  refine z_iload_n C dX5_fresh_5 rfl 2 rfl ?_
  refine z_iconst C (v := 0) dX5_fresh_6 (by decide) ?_
  refine z_bipush C (v := 12) dX5_fresh_7 (by decide) ?_
  refine z_callSi (rest := [.int (z_is pane 0 5), .ref m]) (k' := 0) (n' := 0) C (c_X5_isIn (z_l X) (z_G X) ) (cs_X5_36 C (by decide)) rfl rfl (Nat.le_of_ble_eq_true rfl) rfl rfl (by decide) (by decide) dX5_fresh_9 (fun x9 M' hq => ?_)
  obtain ⟨rfl, rfl⟩ := hq
  refine z_callVi (rest := []) (k' := 0) (n' := 0) C (c_X5_isLet (z_l X) (z_G X) h_m) (cs_X5_59 C (by decide)) h_m rfl rfl rfl rfl (Nat.le_of_ble_eq_true rfl) rfl rfl (by decide) (by decide) dX5_fresh_12 (fun x12 M' hq => ?_)
  obtain ⟨rfl, rfl⟩ := hq
  refine z_if_ne C (tgt := 20) dX5_fresh_15 (by decide) (fun c15 => absurd (by simp [z_lr, z_lt, h_bad]) c15) (fun _ => ?_)
  refine z_iconst C (v := 0) dX5_fresh_18 (by decide) ?_
  exact ret dX5_fresh_19 rfl (⟨rfl, rfl⟩) (by decide) (by decide)
set_option maxRecDepth 20000 in
theorem c_X5_fresh (l : Launch) (G : zG) {M : zM} {m : Nat} {pane : Int32} {ln : Int32} {tp : Nat} {nr : Int32} {pn : Nat} {td : Nat} {ac : Int32} {kn : Int32} {th : Int32} {nt : Nat} {ft : Nat → Int32} {fp : Nat → Option Nat} {i : Nat}  (h_m : M m = some (cMd tp nr pn td ac kn th)) (h_tp : M tp = some (aI G nt ft)) (h_pn : M pn = some (aII G 6 fp)) (h_ok : z_is pane 0 5 = 1) (h_ip : vp_in pane 6) (h_ij : pane.toNatClampNeg = i) (h_nt : 16 ≤ nt ∧ nt < 900) : z_Mi l G qX5_fresh (z_rm 3 2 1000) [.ref m, .int pane, .int ln] M (fun r M' => (∃ q7_27 : Nat, (z_up M m (cMd tp nr pn td ac kn (z_lt (z_is pane 0 5) (z_is ln 0 12)))) q7_27 = none ∧ ∃ q_47_27 : Nat, (z_up (z_up M m (cMd tp nr pn td ac kn (z_lt (z_is pane 0 5) (z_is ln 0 12)))) q7_27 (aI G (nt + ln.toNatClampNeg) (z_cp ft nt))) q_47_27 = none ∧ (¬ (z_lr (z_is pane 0 5) (z_is ln 0 12)) = 0) ∧ r = ln ∧ M' = z_up (z_up (z_up (z_up M q7_27 (aI G (nt + ln.toNatClampNeg) (z_cp ft nt))) q_47_27 (cPm G nr (Int32.ofNat nt) 0 ln 0 ln (-1) 0)) pn (aII G 6 (va_up fp i (some q_47_27)))) m (cMd q7_27 (nr + 1) pn td (ac + 1) kn (z_lt (z_is pane 0 5) (z_is ln 0 12)))) ∨ (((z_lr (z_is pane 0 5) (z_is ln 0 12)) = 0) ∧ r = 0 ∧ M' = z_up M m (cMd tp nr pn td ac kn (z_lt (z_is pane 0 5) (z_is ln 0 12)))))  := by
  refine z_Mi_of _ (plainFor_of_name rfl) rfl (Nat.le_of_ble_eq_true rfl) (fun X hl hG hnm C ret => ?_)
  subst hl; subst hG
  have C : z_C X cX5_fresh RX5 3 (z_rm 3 2 1000) := C
  show z_W X M 0 0 0 [(0, .ref m), (1, .int pane), (2, .int ln)] []
  refine z_aload_n C dX5_fresh_0 rfl 0 rfl ?_
  refine z_iload_n C dX5_fresh_1 rfl 1 rfl ?_
  refine z_callSi (rest := [.ref m]) (k' := 0) (n' := 0) C (c_X5_isPane (z_l X) (z_G X) ) (cs_X5_55 C (by decide)) rfl rfl (Nat.le_of_ble_eq_true rfl) rfl rfl (by decide) (by decide) dX5_fresh_2 (fun x2 M' hq => ?_)
  obtain ⟨rfl, rfl⟩ := hq
  refine z_iload_n C dX5_fresh_5 rfl 2 rfl ?_
  refine z_iconst C (v := 0) dX5_fresh_6 (by decide) ?_
  refine z_bipush C (v := 12) dX5_fresh_7 (by decide) ?_
  refine z_callSi (rest := [.int (z_is pane 0 5), .ref m]) (k' := 0) (n' := 0) C (c_X5_isIn (z_l X) (z_G X) ) (cs_X5_36 C (by decide)) rfl rfl (Nat.le_of_ble_eq_true rfl) rfl rfl (by decide) (by decide) dX5_fresh_9 (fun x9 M' hq => ?_)
  obtain ⟨rfl, rfl⟩ := hq
  refine z_callVi (rest := []) (k' := 0) (n' := 0) C (c_X5_isLet (z_l X) (z_G X) h_m) (cs_X5_59 C (by decide)) h_m rfl rfl rfl rfl (Nat.le_of_ble_eq_true rfl) rfl rfl (by decide) (by decide) dX5_fresh_12 (fun x12 M' hq => ?_)
  obtain ⟨rfl, rfl⟩ := hq
  refine z_if_ne C (tgt := 20) dX5_fresh_15 (by decide) (fun c15 => ?_) (fun c15 => ?_)
  · refine z_aload_n C dX5_fresh_20 rfl 0 rfl ?_
    refine gf_X5_18 C (z_up_s _ _ _) dX5_fresh_21 ?_
    refine z_iload_n C dX5_fresh_24 rfl 1 rfl ?_
    refine z_aload_n C dX5_fresh_25 rfl 0 rfl ?_
    refine z_iload_n C dX5_fresh_26 rfl 2 rfl ?_
    refine z_callVr (rest := [.int pane, .ref pn]) (k' := 2) (n' := 1000) C (c_X5_made (z_l X) (z_G X) (z_up_s _ _ _) ((z_up_n _ _ (z_ne h_tp h_m (by intro h; cases h))).trans h_tp) (z_rgN (z_lrN c15)).1 (z_r12 (z_lrN c15)) h_nt) (cs_X5_29 C (by decide)) (z_up_s _ _ _) rfl rfl rfl rfl (Nat.le_of_ble_eq_true rfl) rfl rfl (by decide) (by decide) dX5_fresh_27 (fun x27 M' hq => ?_)
    obtain ⟨q7_27, hq7_27, q_47_27, hq_47_27, hr27, rfl⟩ := hq
    rw [hr27]
    rw [z_up_swap _ (z_neN (z_up_s _ _ _) hq7_27)]
    rw [z_up_swap _ (z_neN ((z_up_n _ _ (z_neN (z_up_s _ _ _) hq7_27)).trans (z_up_s _ _ _)) hq_47_27)]
    rw [z_up_up]
    refine z_aastII (j := i) C kn1042 ((z_up_n _ _ (z_ne h_pn h_m (by intro h; cases h))).trans ((z_up_n _ _ (z_neN ((z_up_n _ _ (z_neN ((z_up_n _ _ (z_ne h_pn h_m (by intro h; cases h))).trans h_pn) hq7_27)).trans ((z_up_n _ _ (z_ne h_pn h_m (by intro h; cases h))).trans h_pn)) hq_47_27)).trans ((z_up_n _ _ (z_neN ((z_up_n _ _ (z_ne h_pn h_m (by intro h; cases h))).trans h_pn) hq7_27)).trans h_pn))) ((z_up_n _ _ (Ne.symm (z_neN ((z_up_n _ _ (z_neN (z_up_s _ _ _) hq7_27)).trans (z_up_s _ _ _)) hq_47_27))).trans (z_up_s _ _ _)) h_ip h_ij dX5_fresh_30 ?_
    refine z_aload_n C dX5_fresh_31 rfl 0 rfl ?_
    refine z_iload_n C dX5_fresh_32 rfl 2 rfl ?_
    refine z_callVi (rest := []) (k' := 2) (n' := 1000) C (c_X5_did (z_l X) (z_G X) ((z_up_n _ _ (z_ne h_m h_pn (by intro h; cases h))).trans (z_up_s _ _ _))) (cs_X5_63 C (by decide)) ((z_up_n _ _ (z_ne h_m h_pn (by intro h; cases h))).trans (z_up_s _ _ _)) rfl rfl rfl rfl (Nat.le_of_ble_eq_true rfl) rfl rfl (by decide) (by decide) dX5_fresh_33 (fun x33 M' hq => ?_)
    obtain ⟨hr33, rfl⟩ := hq
    rw [hr33]
    rw [z_up_swap _ (z_ne h_m h_pn (by intro h; cases h))]
    rw [z_up_up]
    exact ret dX5_fresh_36 rfl (Or.inl ⟨q7_27, hq7_27, q_47_27, hq_47_27, c15, rfl, rfl⟩) (by decide) (by decide)
  · refine z_iconst C (v := 0) dX5_fresh_18 (by decide) ?_
    exact ret dX5_fresh_19 rfl (Or.inr (⟨c15, rfl, rfl⟩)) (by decide) (by decide)
set_option maxRecDepth 20000 in
theorem c_X5_twin_bad (l : Launch) (G : zG) {M : zM} {m : Nat} {pane : Int32} {other : Int32} {tp : Nat} {nr : Int32} {pn : Nat} {td : Nat} {ac : Int32} {kn : Int32} {th : Int32}  (h_m : M m = some (cMd tp nr pn td ac kn th)) (h_bad : z_is pane 0 5 = 0) : z_Mi l G qX5_twin (z_rm 3 1 8) [.ref m, .int pane, .int other] M (fun r M' => r = 0 ∧ M' = z_up M m (cMd tp nr pn td ac kn (z_lt 0 1)))  := by
  refine z_Mi_of _ (plainFor_of_name rfl) rfl (Nat.le_of_ble_eq_true rfl) (fun X hl hG hnm C ret => ?_)
  subst hl; subst hG
  have C : z_C X cX5_twin RX5 3 (z_rm 3 1 8) := C
  show z_W X M 0 0 0 [(0, .ref m), (1, .int pane), (2, .int other)] []
  refine z_aload_n C dX5_twin_0 rfl 0 rfl ?_
  refine z_iload_n C dX5_twin_1 rfl 1 rfl ?_
  refine z_callSi (rest := [.ref m]) (k' := 0) (n' := 0) C (c_X5_isPane (z_l X) (z_G X) ) (cs_X5_55 C (by decide)) rfl rfl (Nat.le_of_ble_eq_true rfl) rfl rfl (by decide) (by decide) dX5_twin_2 (fun x2 M' hq => ?_)
  obtain ⟨rfl, rfl⟩ := hq
  refine z_if_eq C (tgt := 19) dX5_twin_5 (by decide) (fun _ => ?_) (fun c5 => absurd h_bad c5)
  refine z_iconst C (v := 0) dX5_twin_19 (by decide) ?_
  refine z_iconst C (v := 1) dX5_twin_20 (by decide) ?_
  refine z_callVi (rest := []) (k' := 0) (n' := 0) C (c_X5_isLet (z_l X) (z_G X) h_m) (cs_X5_59 C (by decide)) h_m rfl rfl rfl rfl (Nat.le_of_ble_eq_true rfl) rfl rfl (by decide) (by decide) dX5_twin_21 (fun x21 M' hq => ?_)
  obtain ⟨rfl, rfl⟩ := hq
  refine z_if_ne C (tgt := 29) dX5_twin_24 (by decide) (fun c24 => absurd (by simp [z_lr, z_lt]) c24) (fun _ => ?_)
  refine z_iconst C (v := 0) dX5_twin_27 (by decide) ?_
  exact ret dX5_twin_28 rfl (⟨rfl, rfl⟩) (by decide) (by decide)
set_option maxRecDepth 20000 in
theorem c_X5_twin_bad2 (l : Launch) (G : zG) {M : zM} {m : Nat} {pane : Int32} {other : Int32} {tp : Nat} {nr : Int32} {pn : Nat} {td : Nat} {ac : Int32} {kn : Int32} {th : Int32}  (h_m : M m = some (cMd tp nr pn td ac kn th)) (h_ok : z_is pane 0 5 = 1) (h_bad2 : z_is other 0 5 = 0) : z_Mi l G qX5_twin (z_rm 3 1 8) [.ref m, .int pane, .int other] M (fun r M' => r = 0 ∧ M' = z_up M m (cMd tp nr pn td ac kn (z_lt 0 1)))  := by
  refine z_Mi_of _ (plainFor_of_name rfl) rfl (Nat.le_of_ble_eq_true rfl) (fun X hl hG hnm C ret => ?_)
  subst hl; subst hG
  have C : z_C X cX5_twin RX5 3 (z_rm 3 1 8) := C
  show z_W X M 0 0 0 [(0, .ref m), (1, .int pane), (2, .int other)] []
  refine z_aload_n C dX5_twin_0 rfl 0 rfl ?_
  refine z_iload_n C dX5_twin_1 rfl 1 rfl ?_
  refine z_callSi (rest := [.ref m]) (k' := 0) (n' := 0) C (c_X5_isPane (z_l X) (z_G X) ) (cs_X5_55 C (by decide)) rfl rfl (Nat.le_of_ble_eq_true rfl) rfl rfl (by decide) (by decide) dX5_twin_2 (fun x2 M' hq => ?_)
  obtain ⟨rfl, rfl⟩ := hq
  refine z_if_eq C (tgt := 19) dX5_twin_5 (by decide) (fun c5 => absurd c5 (by rw [h_ok]; decide)) (fun _ => ?_)
  refine z_iload_n C dX5_twin_8 rfl 2 rfl ?_
  refine z_callSi (rest := [.ref m]) (k' := 0) (n' := 0) C (c_X5_isPane (z_l X) (z_G X) ) (cs_X5_55 C (by decide)) rfl rfl (Nat.le_of_ble_eq_true rfl) rfl rfl (by decide) (by decide) dX5_twin_9 (fun x9 M' hq => ?_)
  obtain ⟨rfl, rfl⟩ := hq
  refine z_if_eq C (tgt := 19) dX5_twin_12 (by decide) (fun _ => ?_) (fun c12 => absurd h_bad2 c12)
  refine z_iconst C (v := 0) dX5_twin_19 (by decide) ?_
  refine z_iconst C (v := 1) dX5_twin_20 (by decide) ?_
  refine z_callVi (rest := []) (k' := 0) (n' := 0) C (c_X5_isLet (z_l X) (z_G X) h_m) (cs_X5_59 C (by decide)) h_m rfl rfl rfl rfl (Nat.le_of_ble_eq_true rfl) rfl rfl (by decide) (by decide) dX5_twin_21 (fun x21 M' hq => ?_)
  obtain ⟨rfl, rfl⟩ := hq
  refine z_if_ne C (tgt := 29) dX5_twin_24 (by decide) (fun c24 => absurd (by simp [z_lr, z_lt]) c24) (fun _ => ?_)
  refine z_iconst C (v := 0) dX5_twin_27 (by decide) ?_
  exact ret dX5_twin_28 rfl (⟨rfl, rfl⟩) (by decide) (by decide)
set_option maxRecDepth 20000 in
theorem c_X5_twin (l : Launch) (G : zG) {M : zM} {m : Nat} {pane : Int32} {other : Int32} {tp : Nat} {nr : Int32} {pn : Nat} {td : Nat} {ac : Int32} {kn : Int32} {th : Int32} {fp : Nat → Option Nat} {p : Nat} {ro : Int32} {ba : Int32} {sa : Int32} {cp : Int32} {po : Int32} {li : Int32} {mk : Int32} {rd : Int32} {p2 : Nat} {ro2 : Int32} {ba2 : Int32} {sa2 : Int32} {cp2 : Int32} {po2 : Int32} {li2 : Int32} {mk2 : Int32} {rd2 : Int32} {i i2 : Nat}  (h_m : M m = some (cMd tp nr pn td ac kn th)) (h_pn : M pn = some (aII G 6 fp)) (h_p : M p = some (cPm G ro ba sa cp po li mk rd)) (h_p2 : M p2 = some (cPm G ro2 ba2 sa2 cp2 po2 li2 mk2 rd2)) (h_ok : z_is pane 0 5 = 1) (h_ip : vp_in pane 6) (h_ij : pane.toNatClampNeg = i) (h_fp : fp i = some p) (h_ok2 : z_is other 0 5 = 1) (h_ip2 : vp_in other 6) (h_ij2 : other.toNatClampNeg = i2) (h_fp2 : fp i2 = some p2) : z_Mi l G qX5_twin (z_rm 3 1 8) [.ref m, .int pane, .int other] M (fun r M' => ∃ q_40 : Nat, (z_up M m (cMd tp nr pn td ac kn (z_lt 1 1))) q_40 = none ∧ r = (li2 - po2) ∧ M' = z_up (z_up (z_up M q_40 (cPm G ro2 ba2 sa2 cp2 po2 li2 mk2 rd2)) pn (aII G 6 (va_up fp i (some q_40)))) m (cMd tp nr pn td (ac + 1) kn (z_lt 1 1)))  := by
  refine z_Mi_of _ (plainFor_of_name rfl) rfl (Nat.le_of_ble_eq_true rfl) (fun X hl hG hnm C ret => ?_)
  subst hl; subst hG
  have C : z_C X cX5_twin RX5 3 (z_rm 3 1 8) := C
  show z_W X M 0 0 0 [(0, .ref m), (1, .int pane), (2, .int other)] []
  refine z_aload_n C dX5_twin_0 rfl 0 rfl ?_
  refine z_iload_n C dX5_twin_1 rfl 1 rfl ?_
  refine z_callSi (rest := [.ref m]) (k' := 0) (n' := 0) C (c_X5_isPane (z_l X) (z_G X) ) (cs_X5_55 C (by decide)) rfl rfl (Nat.le_of_ble_eq_true rfl) rfl rfl (by decide) (by decide) dX5_twin_2 (fun x2 M' hq => ?_)
  obtain ⟨rfl, rfl⟩ := hq
  refine z_if_eq C (tgt := 19) dX5_twin_5 (by decide) (fun c5 => absurd c5 (by rw [h_ok]; decide)) (fun _ => ?_)
  refine z_iload_n C dX5_twin_8 rfl 2 rfl ?_
  refine z_callSi (rest := [.ref m]) (k' := 0) (n' := 0) C (c_X5_isPane (z_l X) (z_G X) ) (cs_X5_55 C (by decide)) rfl rfl (Nat.le_of_ble_eq_true rfl) rfl rfl (by decide) (by decide) dX5_twin_9 (fun x9 M' hq => ?_)
  obtain ⟨rfl, rfl⟩ := hq
  refine z_if_eq C (tgt := 19) dX5_twin_12 (by decide) (fun c12 => absurd c12 (by rw [h_ok2]; decide)) (fun _ => ?_)
  refine z_iconst C (v := 1) dX5_twin_15 (by decide) ?_
  refine z_goto C (tgt := 20) dX5_twin_16 (by decide) ?_
  refine z_iconst C (v := 1) dX5_twin_20 (by decide) ?_
  refine z_callVi (rest := []) (k' := 0) (n' := 0) C (c_X5_isLet (z_l X) (z_G X) h_m) (cs_X5_59 C (by decide)) h_m rfl rfl rfl rfl (Nat.le_of_ble_eq_true rfl) rfl rfl (by decide) (by decide) dX5_twin_21 (fun x21 M' hq => ?_)
  obtain ⟨rfl, rfl⟩ := hq
  refine z_if_ne C (tgt := 29) dX5_twin_24 (by decide) (fun _ => ?_) (fun c24 => absurd c24 (by simp [z_lr, z_lt]))
  refine z_aload_n C dX5_twin_29 rfl 0 rfl ?_
  refine gf_X5_18 C (z_up_s _ _ _) dX5_twin_30 ?_
  refine z_iload_n C dX5_twin_33 rfl 1 rfl ?_
  refine z_aload_n C dX5_twin_34 rfl 0 rfl ?_
  refine gf_X5_18 C (z_up_s _ _ _) dX5_twin_35 ?_
  refine z_iload_n C dX5_twin_38 rfl 2 rfl ?_
  refine z_aaldI (j := i2) C ((z_up_n _ _ (z_ne h_pn h_m (by intro h; cases h))).trans h_pn) h_ip2 h_ij2 h_fp2 dX5_twin_39 ?_
  refine z_callSr (rest := [.int pane, .ref pn]) (k' := 1) (n' := 8) C (c_X5_like (z_l X) (z_G X) ((z_up_n _ _ (z_ne h_p2 h_m (by intro h; cases h))).trans h_p2)) (cs_X5_66 C (by decide)) rfl rfl (Nat.le_of_ble_eq_true rfl) rfl rfl (by decide) (by decide) dX5_twin_40 (fun x40 M' hq => ?_)
  obtain ⟨q_40, hq_40, hr40, rfl⟩ := hq
  rw [hr40]
  refine z_aastII (j := i) C kn1042 ((z_up_n _ _ (z_neN ((z_up_n _ _ (z_ne h_pn h_m (by intro h; cases h))).trans h_pn) hq_40)).trans ((z_up_n _ _ (z_ne h_pn h_m (by intro h; cases h))).trans h_pn)) (z_up_s _ _ _) h_ip h_ij dX5_twin_43 ?_
  refine z_aload_n C dX5_twin_44 rfl 0 rfl ?_
  refine z_aload_n C dX5_twin_45 rfl 0 rfl ?_
  refine gf_X5_18 C ((z_up_n _ _ (z_ne h_m h_pn (by intro h; cases h))).trans ((z_up_n _ _ (z_neN (z_up_s _ _ _) hq_40)).trans (z_up_s _ _ _))) dX5_twin_46 ?_
  refine z_iload_n C dX5_twin_49 rfl 1 rfl ?_
  refine z_aaldI (j := i) C (z_up_s _ _ _) h_ip h_ij (va_up_self _ _ _) dX5_twin_50 ?_
  refine z_callSi (rest := [.ref m]) (k' := 1) (n' := 8) C (c_X5_left (z_l X) (z_G X) ((z_up_n _ _ (Ne.symm (z_neN ((z_up_n _ _ (z_ne h_pn h_m (by intro h; cases h))).trans h_pn) hq_40))).trans (z_up_s _ _ _))) (cs_X5_43 C (by decide)) rfl rfl (Nat.le_of_ble_eq_true rfl) rfl rfl (by decide) (by decide) dX5_twin_51 (fun x51 M' hq => ?_)
  obtain ⟨rfl, rfl⟩ := hq
  refine z_callVi (rest := []) (k' := 1) (n' := 8) C (c_X5_did (z_l X) (z_G X) ((z_up_n _ _ (z_ne h_m h_pn (by intro h; cases h))).trans ((z_up_n _ _ (z_neN (z_up_s _ _ _) hq_40)).trans (z_up_s _ _ _)))) (cs_X5_63 C (by decide)) ((z_up_n _ _ (z_ne h_m h_pn (by intro h; cases h))).trans ((z_up_n _ _ (z_neN (z_up_s _ _ _) hq_40)).trans (z_up_s _ _ _))) rfl rfl rfl rfl (Nat.le_of_ble_eq_true rfl) rfl rfl (by decide) (by decide) dX5_twin_54 (fun x54 M' hq => ?_)
  obtain ⟨rfl, rfl⟩ := hq
  rw [z_up_swap _ (z_neN (z_up_s _ _ _) hq_40)]
  rw [z_up_swap _ (z_ne h_m h_pn (by intro h; cases h))]
  rw [z_up_up]
  exact ret dX5_twin_57 rfl (⟨q_40, hq_40, rfl, rfl⟩) (by decide) (by decide)
set_option maxRecDepth 20000 in
theorem c_X5_reader_bad (l : Launch) (G : zG) {M : zM} {m : Nat} {pane : Int32} {other : Int32} {tp : Nat} {nr : Int32} {pn : Nat} {td : Nat} {ac : Int32} {kn : Int32} {th : Int32}  (h_m : M m = some (cMd tp nr pn td ac kn th)) (h_bad : z_is pane 0 5 = 0) : z_Mi l G qX5_reader (z_rm 3 1 8) [.ref m, .int pane, .int other] M (fun r M' => r = 0 ∧ M' = z_up M m (cMd tp nr pn td ac kn (z_lt 0 1)))  := by
  refine z_Mi_of _ (plainFor_of_name rfl) rfl (Nat.le_of_ble_eq_true rfl) (fun X hl hG hnm C ret => ?_)
  subst hl; subst hG
  have C : z_C X cX5_reader RX5 3 (z_rm 3 1 8) := C
  show z_W X M 0 0 0 [(0, .ref m), (1, .int pane), (2, .int other)] []
  refine z_aload_n C dX5_reader_0 rfl 0 rfl ?_
  refine z_iload_n C dX5_reader_1 rfl 1 rfl ?_
  refine z_callSi (rest := [.ref m]) (k' := 0) (n' := 0) C (c_X5_isPane (z_l X) (z_G X) ) (cs_X5_55 C (by decide)) rfl rfl (Nat.le_of_ble_eq_true rfl) rfl rfl (by decide) (by decide) dX5_reader_2 (fun x2 M' hq => ?_)
  obtain ⟨rfl, rfl⟩ := hq
  refine z_if_eq C (tgt := 19) dX5_reader_5 (by decide) (fun _ => ?_) (fun c5 => absurd h_bad c5)
  refine z_iconst C (v := 0) dX5_reader_19 (by decide) ?_
  refine z_iconst C (v := 1) dX5_reader_20 (by decide) ?_
  refine z_callVi (rest := []) (k' := 0) (n' := 0) C (c_X5_isLet (z_l X) (z_G X) h_m) (cs_X5_59 C (by decide)) h_m rfl rfl rfl rfl (Nat.le_of_ble_eq_true rfl) rfl rfl (by decide) (by decide) dX5_reader_21 (fun x21 M' hq => ?_)
  obtain ⟨rfl, rfl⟩ := hq
  refine z_if_ne C (tgt := 29) dX5_reader_24 (by decide) (fun c24 => absurd (by simp [z_lr, z_lt]) c24) (fun _ => ?_)
  refine z_iconst C (v := 0) dX5_reader_27 (by decide) ?_
  exact ret dX5_reader_28 rfl (⟨rfl, rfl⟩) (by decide) (by decide)
set_option maxRecDepth 20000 in
theorem c_X5_reader_bad2 (l : Launch) (G : zG) {M : zM} {m : Nat} {pane : Int32} {other : Int32} {tp : Nat} {nr : Int32} {pn : Nat} {td : Nat} {ac : Int32} {kn : Int32} {th : Int32}  (h_m : M m = some (cMd tp nr pn td ac kn th)) (h_ok : z_is pane 0 5 = 1) (h_bad2 : z_is other 0 5 = 0) : z_Mi l G qX5_reader (z_rm 3 1 8) [.ref m, .int pane, .int other] M (fun r M' => r = 0 ∧ M' = z_up M m (cMd tp nr pn td ac kn (z_lt 0 1)))  := by
  refine z_Mi_of _ (plainFor_of_name rfl) rfl (Nat.le_of_ble_eq_true rfl) (fun X hl hG hnm C ret => ?_)
  subst hl; subst hG
  have C : z_C X cX5_reader RX5 3 (z_rm 3 1 8) := C
  show z_W X M 0 0 0 [(0, .ref m), (1, .int pane), (2, .int other)] []
  refine z_aload_n C dX5_reader_0 rfl 0 rfl ?_
  refine z_iload_n C dX5_reader_1 rfl 1 rfl ?_
  refine z_callSi (rest := [.ref m]) (k' := 0) (n' := 0) C (c_X5_isPane (z_l X) (z_G X) ) (cs_X5_55 C (by decide)) rfl rfl (Nat.le_of_ble_eq_true rfl) rfl rfl (by decide) (by decide) dX5_reader_2 (fun x2 M' hq => ?_)
  obtain ⟨rfl, rfl⟩ := hq
  refine z_if_eq C (tgt := 19) dX5_reader_5 (by decide) (fun c5 => absurd c5 (by rw [h_ok]; decide)) (fun _ => ?_)
  refine z_iload_n C dX5_reader_8 rfl 2 rfl ?_
  refine z_callSi (rest := [.ref m]) (k' := 0) (n' := 0) C (c_X5_isPane (z_l X) (z_G X) ) (cs_X5_55 C (by decide)) rfl rfl (Nat.le_of_ble_eq_true rfl) rfl rfl (by decide) (by decide) dX5_reader_9 (fun x9 M' hq => ?_)
  obtain ⟨rfl, rfl⟩ := hq
  refine z_if_eq C (tgt := 19) dX5_reader_12 (by decide) (fun _ => ?_) (fun c12 => absurd h_bad2 c12)
  refine z_iconst C (v := 0) dX5_reader_19 (by decide) ?_
  refine z_iconst C (v := 1) dX5_reader_20 (by decide) ?_
  refine z_callVi (rest := []) (k' := 0) (n' := 0) C (c_X5_isLet (z_l X) (z_G X) h_m) (cs_X5_59 C (by decide)) h_m rfl rfl rfl rfl (Nat.le_of_ble_eq_true rfl) rfl rfl (by decide) (by decide) dX5_reader_21 (fun x21 M' hq => ?_)
  obtain ⟨rfl, rfl⟩ := hq
  refine z_if_ne C (tgt := 29) dX5_reader_24 (by decide) (fun c24 => absurd (by simp [z_lr, z_lt]) c24) (fun _ => ?_)
  refine z_iconst C (v := 0) dX5_reader_27 (by decide) ?_
  exact ret dX5_reader_28 rfl (⟨rfl, rfl⟩) (by decide) (by decide)
set_option maxRecDepth 20000 in
theorem c_X5_reader (l : Launch) (G : zG) {M : zM} {m : Nat} {pane : Int32} {other : Int32} {tp : Nat} {nr : Int32} {pn : Nat} {td : Nat} {ac : Int32} {kn : Int32} {th : Int32} {fp : Nat → Option Nat} {p : Nat} {ro : Int32} {ba : Int32} {sa : Int32} {cp : Int32} {po : Int32} {li : Int32} {mk : Int32} {rd : Int32} {p2 : Nat} {ro2 : Int32} {ba2 : Int32} {sa2 : Int32} {cp2 : Int32} {po2 : Int32} {li2 : Int32} {mk2 : Int32} {rd2 : Int32} {i i2 : Nat}  (h_m : M m = some (cMd tp nr pn td ac kn th)) (h_pn : M pn = some (aII G 6 fp)) (h_p : M p = some (cPm G ro ba sa cp po li mk rd)) (h_p2 : M p2 = some (cPm G ro2 ba2 sa2 cp2 po2 li2 mk2 rd2)) (h_ok : z_is pane 0 5 = 1) (h_ip : vp_in pane 6) (h_ij : pane.toNatClampNeg = i) (h_fp : fp i = some p) (h_ok2 : z_is other 0 5 = 1) (h_ip2 : vp_in other 6) (h_ij2 : other.toNatClampNeg = i2) (h_fp2 : fp i2 = some p2) : z_Mi l G qX5_reader (z_rm 3 1 8) [.ref m, .int pane, .int other] M (fun r M' => ∃ q_40 : Nat, (z_up M m (cMd tp nr pn td ac kn (z_lt 1 1))) q_40 = none ∧ r = (li2 - po2) ∧ M' = z_up (z_up (z_up M pn (aII G 6 (va_up fp i (some q_40)))) q_40 (cPm G ro2 ba2 sa2 cp2 po2 li2 mk2 1)) m (cMd tp nr pn td (ac + 1) kn (z_lt 1 1)))  := by
  refine z_Mi_of _ (plainFor_of_name rfl) rfl (Nat.le_of_ble_eq_true rfl) (fun X hl hG hnm C ret => ?_)
  subst hl; subst hG
  have C : z_C X cX5_reader RX5 3 (z_rm 3 1 8) := C
  show z_W X M 0 0 0 [(0, .ref m), (1, .int pane), (2, .int other)] []
  refine z_aload_n C dX5_reader_0 rfl 0 rfl ?_
  refine z_iload_n C dX5_reader_1 rfl 1 rfl ?_
  refine z_callSi (rest := [.ref m]) (k' := 0) (n' := 0) C (c_X5_isPane (z_l X) (z_G X) ) (cs_X5_55 C (by decide)) rfl rfl (Nat.le_of_ble_eq_true rfl) rfl rfl (by decide) (by decide) dX5_reader_2 (fun x2 M' hq => ?_)
  obtain ⟨rfl, rfl⟩ := hq
  refine z_if_eq C (tgt := 19) dX5_reader_5 (by decide) (fun c5 => absurd c5 (by rw [h_ok]; decide)) (fun _ => ?_)
  refine z_iload_n C dX5_reader_8 rfl 2 rfl ?_
  refine z_callSi (rest := [.ref m]) (k' := 0) (n' := 0) C (c_X5_isPane (z_l X) (z_G X) ) (cs_X5_55 C (by decide)) rfl rfl (Nat.le_of_ble_eq_true rfl) rfl rfl (by decide) (by decide) dX5_reader_9 (fun x9 M' hq => ?_)
  obtain ⟨rfl, rfl⟩ := hq
  refine z_if_eq C (tgt := 19) dX5_reader_12 (by decide) (fun c12 => absurd c12 (by rw [h_ok2]; decide)) (fun _ => ?_)
  refine z_iconst C (v := 1) dX5_reader_15 (by decide) ?_
  refine z_goto C (tgt := 20) dX5_reader_16 (by decide) ?_
  refine z_iconst C (v := 1) dX5_reader_20 (by decide) ?_
  refine z_callVi (rest := []) (k' := 0) (n' := 0) C (c_X5_isLet (z_l X) (z_G X) h_m) (cs_X5_59 C (by decide)) h_m rfl rfl rfl rfl (Nat.le_of_ble_eq_true rfl) rfl rfl (by decide) (by decide) dX5_reader_21 (fun x21 M' hq => ?_)
  obtain ⟨rfl, rfl⟩ := hq
  refine z_if_ne C (tgt := 29) dX5_reader_24 (by decide) (fun _ => ?_) (fun c24 => absurd c24 (by simp [z_lr, z_lt]))
  refine z_aload_n C dX5_reader_29 rfl 0 rfl ?_
  refine gf_X5_18 C (z_up_s _ _ _) dX5_reader_30 ?_
  refine z_iload_n C dX5_reader_33 rfl 1 rfl ?_
  refine z_aload_n C dX5_reader_34 rfl 0 rfl ?_
  refine gf_X5_18 C (z_up_s _ _ _) dX5_reader_35 ?_
  refine z_iload_n C dX5_reader_38 rfl 2 rfl ?_
  refine z_aaldI (j := i2) C ((z_up_n _ _ (z_ne h_pn h_m (by intro h; cases h))).trans h_pn) h_ip2 h_ij2 h_fp2 dX5_reader_39 ?_
  refine z_callSr (rest := [.int pane, .ref pn]) (k' := 1) (n' := 8) C (c_X5_like (z_l X) (z_G X) ((z_up_n _ _ (z_ne h_p2 h_m (by intro h; cases h))).trans h_p2)) (cs_X5_66 C (by decide)) rfl rfl (Nat.le_of_ble_eq_true rfl) rfl rfl (by decide) (by decide) dX5_reader_40 (fun x40 M' hq => ?_)
  obtain ⟨q_40, hq_40, hr40, rfl⟩ := hq
  rw [hr40]
  refine z_aastII (j := i) C kn1042 ((z_up_n _ _ (z_neN ((z_up_n _ _ (z_ne h_pn h_m (by intro h; cases h))).trans h_pn) hq_40)).trans ((z_up_n _ _ (z_ne h_pn h_m (by intro h; cases h))).trans h_pn)) (z_up_s _ _ _) h_ip h_ij dX5_reader_43 ?_
  refine z_aload_n C dX5_reader_44 rfl 0 rfl ?_
  refine gf_X5_18 C ((z_up_n _ _ (z_ne h_m h_pn (by intro h; cases h))).trans ((z_up_n _ _ (z_neN (z_up_s _ _ _) hq_40)).trans (z_up_s _ _ _))) dX5_reader_45 ?_
  refine z_iload_n C dX5_reader_48 rfl 1 rfl ?_
  refine z_aaldI (j := i) C (z_up_s _ _ _) h_ip h_ij (va_up_self _ _ _) dX5_reader_49 ?_
  refine z_bipush C (v := 7) dX5_reader_50 (by decide) ?_
  refine z_iconst C (v := 1) dX5_reader_52 (by decide) ?_
  rw [z_up_swap _ (Ne.symm (z_neN ((z_up_n _ _ (z_ne h_pn h_m (by intro h; cases h))).trans h_pn) hq_40))]
  refine z_pt7 C dX5_reader_53 ?_
  refine z_aload_n C dX5_reader_54 rfl 0 rfl ?_
  refine z_aload_n C dX5_reader_55 rfl 0 rfl ?_
  refine gf_X5_18 C ((z_up_n _ _ (z_neN (z_up_s _ _ _) hq_40)).trans ((z_up_n _ _ (z_ne h_m h_pn (by intro h; cases h))).trans (z_up_s _ _ _))) dX5_reader_56 ?_
  refine z_iload_n C dX5_reader_59 rfl 1 rfl ?_
  refine z_aaldI (j := i) C ((z_up_n _ _ (z_neN ((z_up_n _ _ (z_ne h_pn h_m (by intro h; cases h))).trans h_pn) hq_40)).trans (z_up_s _ _ _)) h_ip h_ij (va_up_self _ _ _) dX5_reader_60 ?_
  refine z_callSi (rest := [.ref m]) (k' := 1) (n' := 8) C (c_X5_left (z_l X) (z_G X) (z_up_s _ _ _)) (cs_X5_43 C (by decide)) rfl rfl (Nat.le_of_ble_eq_true rfl) rfl rfl (by decide) (by decide) dX5_reader_61 (fun x61 M' hq => ?_)
  obtain ⟨rfl, rfl⟩ := hq
  refine z_callVi (rest := []) (k' := 1) (n' := 8) C (c_X5_did (z_l X) (z_G X) ((z_up_n _ _ (z_neN (z_up_s _ _ _) hq_40)).trans ((z_up_n _ _ (z_ne h_m h_pn (by intro h; cases h))).trans (z_up_s _ _ _)))) (cs_X5_63 C (by decide)) ((z_up_n _ _ (z_neN (z_up_s _ _ _) hq_40)).trans ((z_up_n _ _ (z_ne h_m h_pn (by intro h; cases h))).trans (z_up_s _ _ _))) rfl rfl rfl rfl (Nat.le_of_ble_eq_true rfl) rfl rfl (by decide) (by decide) dX5_reader_64 (fun x64 M' hq => ?_)
  obtain ⟨rfl, rfl⟩ := hq
  rw [z_up_swap _ (z_ne h_m h_pn (by intro h; cases h))]
  rw [z_up_swap _ (z_neN (z_up_s _ _ _) hq_40)]
  rw [z_up_up]
  exact ret dX5_reader_67 rfl (⟨q_40, hq_40, rfl, rfl⟩) (by decide) (by decide)
set_option maxRecDepth 20000 in
theorem c_X5_rest_bad (l : Launch) (G : zG) {M : zM} {m : Nat} {pane : Int32} {other : Int32} {tp : Nat} {nr : Int32} {pn : Nat} {td : Nat} {ac : Int32} {kn : Int32} {th : Int32}  (h_m : M m = some (cMd tp nr pn td ac kn th)) (h_bad : z_is pane 0 5 = 0) : z_Mi l G qX5_rest (z_rm 3 1 8) [.ref m, .int pane, .int other] M (fun r M' => r = 0 ∧ M' = z_up M m (cMd tp nr pn td ac kn (z_lt 0 1)))  := by
  refine z_Mi_of _ (plainFor_of_name rfl) rfl (Nat.le_of_ble_eq_true rfl) (fun X hl hG hnm C ret => ?_)
  subst hl; subst hG
  have C : z_C X cX5_rest RX5 3 (z_rm 3 1 8) := C
  show z_W X M 0 0 0 [(0, .ref m), (1, .int pane), (2, .int other)] []
  refine z_aload_n C dX5_rest_0 rfl 0 rfl ?_
  refine z_iload_n C dX5_rest_1 rfl 1 rfl ?_
  refine z_callSi (rest := [.ref m]) (k' := 0) (n' := 0) C (c_X5_isPane (z_l X) (z_G X) ) (cs_X5_55 C (by decide)) rfl rfl (Nat.le_of_ble_eq_true rfl) rfl rfl (by decide) (by decide) dX5_rest_2 (fun x2 M' hq => ?_)
  obtain ⟨rfl, rfl⟩ := hq
  refine z_if_eq C (tgt := 19) dX5_rest_5 (by decide) (fun _ => ?_) (fun c5 => absurd h_bad c5)
  refine z_iconst C (v := 0) dX5_rest_19 (by decide) ?_
  refine z_iconst C (v := 1) dX5_rest_20 (by decide) ?_
  refine z_callVi (rest := []) (k' := 0) (n' := 0) C (c_X5_isLet (z_l X) (z_G X) h_m) (cs_X5_59 C (by decide)) h_m rfl rfl rfl rfl (Nat.le_of_ble_eq_true rfl) rfl rfl (by decide) (by decide) dX5_rest_21 (fun x21 M' hq => ?_)
  obtain ⟨rfl, rfl⟩ := hq
  refine z_if_ne C (tgt := 29) dX5_rest_24 (by decide) (fun c24 => absurd (by simp [z_lr, z_lt]) c24) (fun _ => ?_)
  refine z_iconst C (v := 0) dX5_rest_27 (by decide) ?_
  exact ret dX5_rest_28 rfl (⟨rfl, rfl⟩) (by decide) (by decide)
set_option maxRecDepth 20000 in
theorem c_X5_rest_bad2 (l : Launch) (G : zG) {M : zM} {m : Nat} {pane : Int32} {other : Int32} {tp : Nat} {nr : Int32} {pn : Nat} {td : Nat} {ac : Int32} {kn : Int32} {th : Int32}  (h_m : M m = some (cMd tp nr pn td ac kn th)) (h_ok : z_is pane 0 5 = 1) (h_bad2 : z_is other 0 5 = 0) : z_Mi l G qX5_rest (z_rm 3 1 8) [.ref m, .int pane, .int other] M (fun r M' => r = 0 ∧ M' = z_up M m (cMd tp nr pn td ac kn (z_lt 0 1)))  := by
  refine z_Mi_of _ (plainFor_of_name rfl) rfl (Nat.le_of_ble_eq_true rfl) (fun X hl hG hnm C ret => ?_)
  subst hl; subst hG
  have C : z_C X cX5_rest RX5 3 (z_rm 3 1 8) := C
  show z_W X M 0 0 0 [(0, .ref m), (1, .int pane), (2, .int other)] []
  refine z_aload_n C dX5_rest_0 rfl 0 rfl ?_
  refine z_iload_n C dX5_rest_1 rfl 1 rfl ?_
  refine z_callSi (rest := [.ref m]) (k' := 0) (n' := 0) C (c_X5_isPane (z_l X) (z_G X) ) (cs_X5_55 C (by decide)) rfl rfl (Nat.le_of_ble_eq_true rfl) rfl rfl (by decide) (by decide) dX5_rest_2 (fun x2 M' hq => ?_)
  obtain ⟨rfl, rfl⟩ := hq
  refine z_if_eq C (tgt := 19) dX5_rest_5 (by decide) (fun c5 => absurd c5 (by rw [h_ok]; decide)) (fun _ => ?_)
  refine z_iload_n C dX5_rest_8 rfl 2 rfl ?_
  refine z_callSi (rest := [.ref m]) (k' := 0) (n' := 0) C (c_X5_isPane (z_l X) (z_G X) ) (cs_X5_55 C (by decide)) rfl rfl (Nat.le_of_ble_eq_true rfl) rfl rfl (by decide) (by decide) dX5_rest_9 (fun x9 M' hq => ?_)
  obtain ⟨rfl, rfl⟩ := hq
  refine z_if_eq C (tgt := 19) dX5_rest_12 (by decide) (fun _ => ?_) (fun c12 => absurd h_bad2 c12)
  refine z_iconst C (v := 0) dX5_rest_19 (by decide) ?_
  refine z_iconst C (v := 1) dX5_rest_20 (by decide) ?_
  refine z_callVi (rest := []) (k' := 0) (n' := 0) C (c_X5_isLet (z_l X) (z_G X) h_m) (cs_X5_59 C (by decide)) h_m rfl rfl rfl rfl (Nat.le_of_ble_eq_true rfl) rfl rfl (by decide) (by decide) dX5_rest_21 (fun x21 M' hq => ?_)
  obtain ⟨rfl, rfl⟩ := hq
  refine z_if_ne C (tgt := 29) dX5_rest_24 (by decide) (fun c24 => absurd (by simp [z_lr, z_lt]) c24) (fun _ => ?_)
  refine z_iconst C (v := 0) dX5_rest_27 (by decide) ?_
  exact ret dX5_rest_28 rfl (⟨rfl, rfl⟩) (by decide) (by decide)
set_option maxRecDepth 20000 in
theorem c_X5_rest (l : Launch) (G : zG) {M : zM} {m : Nat} {pane : Int32} {other : Int32} {tp : Nat} {nr : Int32} {pn : Nat} {td : Nat} {ac : Int32} {kn : Int32} {th : Int32} {fp : Nat → Option Nat} {p : Nat} {ro : Int32} {ba : Int32} {sa : Int32} {cp : Int32} {po : Int32} {li : Int32} {mk : Int32} {rd : Int32} {p2 : Nat} {ro2 : Int32} {ba2 : Int32} {sa2 : Int32} {cp2 : Int32} {po2 : Int32} {li2 : Int32} {mk2 : Int32} {rd2 : Int32} {i i2 : Nat}  (h_m : M m = some (cMd tp nr pn td ac kn th)) (h_pn : M pn = some (aII G 6 fp)) (h_p : M p = some (cPm G ro ba sa cp po li mk rd)) (h_p2 : M p2 = some (cPm G ro2 ba2 sa2 cp2 po2 li2 mk2 rd2)) (h_ok : z_is pane 0 5 = 1) (h_ip : vp_in pane 6) (h_ij : pane.toNatClampNeg = i) (h_fp : fp i = some p) (h_ok2 : z_is other 0 5 = 1) (h_ip2 : vp_in other 6) (h_ij2 : other.toNatClampNeg = i2) (h_fp2 : fp i2 = some p2) : z_Mi l G qX5_rest (z_rm 3 1 8) [.ref m, .int pane, .int other] M (fun r M' => ∃ q_13_54 : Nat, (z_up M m (cMd tp nr pn td ac kn (z_lt 1 1))) q_13_54 = none ∧ r = (li2 - po2) ∧ M' = z_up (z_up (z_up M q_13_54 (cPm G ro2 ba2 (sa2 + po2) (li2 - po2) 0 (li2 - po2) (-1) rd2)) pn (aII G 6 (va_up fp i (some q_13_54)))) m (cMd tp nr pn td (ac + 1) kn (z_lt 1 1)))  := by
  refine z_Mi_of _ (plainFor_of_name rfl) rfl (Nat.le_of_ble_eq_true rfl) (fun X hl hG hnm C ret => ?_)
  subst hl; subst hG
  have C : z_C X cX5_rest RX5 3 (z_rm 3 1 8) := C
  show z_W X M 0 0 0 [(0, .ref m), (1, .int pane), (2, .int other)] []
  refine z_aload_n C dX5_rest_0 rfl 0 rfl ?_
  refine z_iload_n C dX5_rest_1 rfl 1 rfl ?_
  refine z_callSi (rest := [.ref m]) (k' := 0) (n' := 0) C (c_X5_isPane (z_l X) (z_G X) ) (cs_X5_55 C (by decide)) rfl rfl (Nat.le_of_ble_eq_true rfl) rfl rfl (by decide) (by decide) dX5_rest_2 (fun x2 M' hq => ?_)
  obtain ⟨rfl, rfl⟩ := hq
  refine z_if_eq C (tgt := 19) dX5_rest_5 (by decide) (fun c5 => absurd c5 (by rw [h_ok]; decide)) (fun _ => ?_)
  refine z_iload_n C dX5_rest_8 rfl 2 rfl ?_
  refine z_callSi (rest := [.ref m]) (k' := 0) (n' := 0) C (c_X5_isPane (z_l X) (z_G X) ) (cs_X5_55 C (by decide)) rfl rfl (Nat.le_of_ble_eq_true rfl) rfl rfl (by decide) (by decide) dX5_rest_9 (fun x9 M' hq => ?_)
  obtain ⟨rfl, rfl⟩ := hq
  refine z_if_eq C (tgt := 19) dX5_rest_12 (by decide) (fun c12 => absurd c12 (by rw [h_ok2]; decide)) (fun _ => ?_)
  refine z_iconst C (v := 1) dX5_rest_15 (by decide) ?_
  refine z_goto C (tgt := 20) dX5_rest_16 (by decide) ?_
  refine z_iconst C (v := 1) dX5_rest_20 (by decide) ?_
  refine z_callVi (rest := []) (k' := 0) (n' := 0) C (c_X5_isLet (z_l X) (z_G X) h_m) (cs_X5_59 C (by decide)) h_m rfl rfl rfl rfl (Nat.le_of_ble_eq_true rfl) rfl rfl (by decide) (by decide) dX5_rest_21 (fun x21 M' hq => ?_)
  obtain ⟨rfl, rfl⟩ := hq
  refine z_if_ne C (tgt := 29) dX5_rest_24 (by decide) (fun _ => ?_) (fun c24 => absurd c24 (by simp [z_lr, z_lt]))
  refine z_aload_n C dX5_rest_29 rfl 0 rfl ?_
  refine z_iload_n C dX5_rest_30 rfl 1 rfl ?_
  refine z_aload_n C dX5_rest_31 rfl 0 rfl ?_
  refine gf_X5_18 C (z_up_s _ _ _) dX5_rest_32 ?_
  refine z_iload_n C dX5_rest_35 rfl 2 rfl ?_
  refine z_aaldI (j := i2) C ((z_up_n _ _ (z_ne h_pn h_m (by intro h; cases h))).trans h_pn) h_ip2 h_ij2 h_fp2 dX5_rest_36 ?_
  refine z_aload_n C dX5_rest_37 rfl 0 rfl ?_
  refine gf_X5_18 C (z_up_s _ _ _) dX5_rest_38 ?_
  refine z_iload_n C dX5_rest_41 rfl 2 rfl ?_
  refine z_aaldI (j := i2) C ((z_up_n _ _ (z_ne h_pn h_m (by intro h; cases h))).trans h_pn) h_ip2 h_ij2 h_fp2 dX5_rest_42 ?_
  refine z_iconst C (v := 4) dX5_rest_43 (by decide) ?_
  refine z_pl4 C ((z_up_n _ _ (z_ne h_p2 h_m (by intro h; cases h))).trans h_p2) dX5_rest_44 ?_
  refine z_aload_n C dX5_rest_45 rfl 0 rfl ?_
  refine gf_X5_18 C (z_up_s _ _ _) dX5_rest_46 ?_
  refine z_iload_n C dX5_rest_49 rfl 2 rfl ?_
  refine z_aaldI (j := i2) C ((z_up_n _ _ (z_ne h_pn h_m (by intro h; cases h))).trans h_pn) h_ip2 h_ij2 h_fp2 dX5_rest_50 ?_
  refine z_callSi (rest := [.int po2, .ref p2, .int pane, .ref m]) (k' := 0) (n' := 0) C (c_X5_left (z_l X) (z_G X) ((z_up_n _ _ (z_ne h_p2 h_m (by intro h; cases h))).trans h_p2)) (cs_X5_43 C (by decide)) rfl rfl (Nat.le_of_ble_eq_true rfl) rfl rfl (by decide) (by decide) dX5_rest_51 (fun x51 M' hq => ?_)
  obtain ⟨rfl, rfl⟩ := hq
  refine z_callVi (rest := []) (k' := 1) (n' := 8) C (c_X5_cut (z_l X) (z_G X) (z_up_s _ _ _) ((z_up_n _ _ (z_ne h_pn h_m (by intro h; cases h))).trans h_pn) ((z_up_n _ _ (z_ne h_p2 h_m (by intro h; cases h))).trans h_p2) h_ip h_ij) (cs_X5_70 C (by decide)) (z_up_s _ _ _) rfl rfl rfl rfl (Nat.le_of_ble_eq_true rfl) rfl rfl (by decide) (by decide) dX5_rest_54 (fun x54 M' hq => ?_)
  obtain ⟨q_13_54, hq_13_54, rfl, rfl⟩ := hq
  rw [z_up_swap _ (z_neN (z_up_s _ _ _) hq_13_54)]
  rw [z_up_swap _ (z_ne h_m h_pn (by intro h; cases h))]
  rw [z_up_up]
  exact ret dX5_rest_57 rfl (⟨q_13_54, hq_13_54, rfl, rfl⟩) (by decide) (by decide)
set_option maxRecDepth 20000 in
theorem c_X5_part_bad (l : Launch) (G : zG) {M : zM} {m : Nat} {pane : Int32} {other : Int32} {ix0 : Int32} {mn : Int32} {tp : Nat} {nr : Int32} {pn : Nat} {td : Nat} {ac : Int32} {kn : Int32} {th : Int32}  (h_m : M m = some (cMd tp nr pn td ac kn th)) (h_bad : z_is pane 0 5 = 0) : z_Mi l G qX5_part (z_rm 3 1 8) [.ref m, .int pane, .int other, .int ix0, .int mn] M (fun r M' => r = 0 ∧ M' = z_up M m (cMd tp nr pn td ac kn (z_lt 0 1)))  := by
  refine z_Mi_of _ (plainFor_of_name rfl) rfl (Nat.le_of_ble_eq_true rfl) (fun X hl hG hnm C ret => ?_)
  subst hl; subst hG
  have C : z_C X cX5_part RX5 6 (z_rm 3 1 8) := C
  show z_W X M 0 0 0 [(0, .ref m), (1, .int pane), (2, .int other), (3, .int ix0), (4, .int mn)] []
  refine z_aload_n C dX5_part_0 rfl 0 rfl ?_
  refine z_iload_n C dX5_part_1 rfl 1 rfl ?_
  refine z_callSi (rest := [.ref m]) (k' := 0) (n' := 0) C (c_X5_isPane (z_l X) (z_G X) ) (cs_X5_55 C (by decide)) rfl rfl (Nat.le_of_ble_eq_true rfl) rfl rfl (by decide) (by decide) dX5_part_2 (fun x2 M' hq => ?_)
  obtain ⟨rfl, rfl⟩ := hq
  refine z_if_eq C (tgt := 19) dX5_part_5 (by decide) (fun _ => ?_) (fun c5 => absurd h_bad c5)
  refine z_iconst C (v := 0) dX5_part_19 (by decide) ?_
  refine z_iconst C (v := 1) dX5_part_20 (by decide) ?_
  refine z_callVi (rest := []) (k' := 0) (n' := 0) C (c_X5_isLet (z_l X) (z_G X) h_m) (cs_X5_59 C (by decide)) h_m rfl rfl rfl rfl (Nat.le_of_ble_eq_true rfl) rfl rfl (by decide) (by decide) dX5_part_21 (fun x21 M' hq => ?_)
  obtain ⟨rfl, rfl⟩ := hq
  refine z_if_ne C (tgt := 29) dX5_part_24 (by decide) (fun c24 => absurd (by simp [z_lr, z_lt]) c24) (fun _ => ?_)
  refine z_iconst C (v := 0) dX5_part_27 (by decide) ?_
  exact ret dX5_part_28 rfl (⟨rfl, rfl⟩) (by decide) (by decide)
set_option maxRecDepth 20000 in
theorem c_X5_part_bad2 (l : Launch) (G : zG) {M : zM} {m : Nat} {pane : Int32} {other : Int32} {ix0 : Int32} {mn : Int32} {tp : Nat} {nr : Int32} {pn : Nat} {td : Nat} {ac : Int32} {kn : Int32} {th : Int32}  (h_m : M m = some (cMd tp nr pn td ac kn th)) (h_ok : z_is pane 0 5 = 1) (h_bad2 : z_is other 0 5 = 0) : z_Mi l G qX5_part (z_rm 3 1 8) [.ref m, .int pane, .int other, .int ix0, .int mn] M (fun r M' => r = 0 ∧ M' = z_up M m (cMd tp nr pn td ac kn (z_lt 0 1)))  := by
  refine z_Mi_of _ (plainFor_of_name rfl) rfl (Nat.le_of_ble_eq_true rfl) (fun X hl hG hnm C ret => ?_)
  subst hl; subst hG
  have C : z_C X cX5_part RX5 6 (z_rm 3 1 8) := C
  show z_W X M 0 0 0 [(0, .ref m), (1, .int pane), (2, .int other), (3, .int ix0), (4, .int mn)] []
  refine z_aload_n C dX5_part_0 rfl 0 rfl ?_
  refine z_iload_n C dX5_part_1 rfl 1 rfl ?_
  refine z_callSi (rest := [.ref m]) (k' := 0) (n' := 0) C (c_X5_isPane (z_l X) (z_G X) ) (cs_X5_55 C (by decide)) rfl rfl (Nat.le_of_ble_eq_true rfl) rfl rfl (by decide) (by decide) dX5_part_2 (fun x2 M' hq => ?_)
  obtain ⟨rfl, rfl⟩ := hq
  refine z_if_eq C (tgt := 19) dX5_part_5 (by decide) (fun c5 => absurd c5 (by rw [h_ok]; decide)) (fun _ => ?_)
  refine z_iload_n C dX5_part_8 rfl 2 rfl ?_
  refine z_callSi (rest := [.ref m]) (k' := 0) (n' := 0) C (c_X5_isPane (z_l X) (z_G X) ) (cs_X5_55 C (by decide)) rfl rfl (Nat.le_of_ble_eq_true rfl) rfl rfl (by decide) (by decide) dX5_part_9 (fun x9 M' hq => ?_)
  obtain ⟨rfl, rfl⟩ := hq
  refine z_if_eq C (tgt := 19) dX5_part_12 (by decide) (fun _ => ?_) (fun c12 => absurd h_bad2 c12)
  refine z_iconst C (v := 0) dX5_part_19 (by decide) ?_
  refine z_iconst C (v := 1) dX5_part_20 (by decide) ?_
  refine z_callVi (rest := []) (k' := 0) (n' := 0) C (c_X5_isLet (z_l X) (z_G X) h_m) (cs_X5_59 C (by decide)) h_m rfl rfl rfl rfl (Nat.le_of_ble_eq_true rfl) rfl rfl (by decide) (by decide) dX5_part_21 (fun x21 M' hq => ?_)
  obtain ⟨rfl, rfl⟩ := hq
  refine z_if_ne C (tgt := 29) dX5_part_24 (by decide) (fun c24 => absurd (by simp [z_lr, z_lt]) c24) (fun _ => ?_)
  refine z_iconst C (v := 0) dX5_part_27 (by decide) ?_
  exact ret dX5_part_28 rfl (⟨rfl, rfl⟩) (by decide) (by decide)
set_option maxRecDepth 20000 in
theorem c_X5_part (l : Launch) (G : zG) {M : zM} {m : Nat} {pane : Int32} {other : Int32} {ix0 : Int32} {mn : Int32} {tp : Nat} {nr : Int32} {pn : Nat} {td : Nat} {ac : Int32} {kn : Int32} {th : Int32} {fd : Nat → Int32} {fp : Nat → Option Nat} {p : Nat} {ro : Int32} {ba : Int32} {sa : Int32} {cp : Int32} {po : Int32} {li : Int32} {mk : Int32} {rd : Int32} {p2 : Nat} {ro2 : Int32} {ba2 : Int32} {sa2 : Int32} {cp2 : Int32} {po2 : Int32} {li2 : Int32} {mk2 : Int32} {rd2 : Int32} {i i2 : Nat}  (h_m : M m = some (cMd tp nr pn td ac kn th)) (h_td : M td = some (aI G 6 fd)) (h_pn : M pn = some (aII G 6 fp)) (h_p : M p = some (cPm G ro ba sa cp po li mk rd)) (h_p2 : M p2 = some (cPm G ro2 ba2 sa2 cp2 po2 li2 mk2 rd2)) (h_ok : z_is pane 0 5 = 1) (h_ip : vp_in pane 6) (h_ij : pane.toNatClampNeg = i) (h_fp : fp i = some p) (h_ok2 : z_is other 0 5 = 1) (h_ip2 : vp_in other 6) (h_ij2 : other.toNatClampNeg = i2) (h_fp2 : fp i2 = some p2) (n_p_td : p ≠ td) (n_p2_td : p2 ≠ td) : z_Mi l G qX5_part (z_rm 3 1 8) [.ref m, .int pane, .int other, .int ix0, .int mn] M (fun r M' => (((z_is ix0 0 li2) = 0) ∧ r = (-9) ∧ M' = z_up (z_up M m (cMd tp nr pn td ac kn (z_lt 1 1))) td (aI G 6 (upd fd 5 ((fd 5) + 1)))) ∨ (∃ q_13_79 : Nat, (z_up M m (cMd tp nr pn td ac kn (z_lt 1 1))) q_13_79 = none ∧ (¬ (z_is ix0 0 li2) = 0) ∧ (¬ (z_is mn 0 (li2 - ix0)) = 0) ∧ r = mn ∧ M' = z_up (z_up (z_up M q_13_79 (cPm G ro2 ba2 (sa2 + ix0) mn 0 mn (-1) rd2)) pn (aII G 6 (va_up fp i (some q_13_79)))) m (cMd tp nr pn td (ac + 1) kn (z_lt 1 1))) ∨ ((¬ (z_is ix0 0 li2) = 0) ∧ ((z_is mn 0 (li2 - ix0)) = 0) ∧ r = (-9) ∧ M' = z_up (z_up M m (cMd tp nr pn td ac kn (z_lt 1 1))) td (aI G 6 (upd fd 5 ((fd 5) + 1)))))  := by
  refine z_Mi_of _ (plainFor_of_name rfl) rfl (Nat.le_of_ble_eq_true rfl) (fun X hl hG hnm C ret => ?_)
  subst hl; subst hG
  have C : z_C X cX5_part RX5 6 (z_rm 3 1 8) := C
  show z_W X M 0 0 0 [(0, .ref m), (1, .int pane), (2, .int other), (3, .int ix0), (4, .int mn)] []
  refine z_aload_n C dX5_part_0 rfl 0 rfl ?_
  refine z_iload_n C dX5_part_1 rfl 1 rfl ?_
  refine z_callSi (rest := [.ref m]) (k' := 0) (n' := 0) C (c_X5_isPane (z_l X) (z_G X) ) (cs_X5_55 C (by decide)) rfl rfl (Nat.le_of_ble_eq_true rfl) rfl rfl (by decide) (by decide) dX5_part_2 (fun x2 M' hq => ?_)
  obtain ⟨rfl, rfl⟩ := hq
  refine z_if_eq C (tgt := 19) dX5_part_5 (by decide) (fun c5 => absurd c5 (by rw [h_ok]; decide)) (fun _ => ?_)
  refine z_iload_n C dX5_part_8 rfl 2 rfl ?_
  refine z_callSi (rest := [.ref m]) (k' := 0) (n' := 0) C (c_X5_isPane (z_l X) (z_G X) ) (cs_X5_55 C (by decide)) rfl rfl (Nat.le_of_ble_eq_true rfl) rfl rfl (by decide) (by decide) dX5_part_9 (fun x9 M' hq => ?_)
  obtain ⟨rfl, rfl⟩ := hq
  refine z_if_eq C (tgt := 19) dX5_part_12 (by decide) (fun c12 => absurd c12 (by rw [h_ok2]; decide)) (fun _ => ?_)
  refine z_iconst C (v := 1) dX5_part_15 (by decide) ?_
  refine z_goto C (tgt := 20) dX5_part_16 (by decide) ?_
  refine z_iconst C (v := 1) dX5_part_20 (by decide) ?_
  refine z_callVi (rest := []) (k' := 0) (n' := 0) C (c_X5_isLet (z_l X) (z_G X) h_m) (cs_X5_59 C (by decide)) h_m rfl rfl rfl rfl (Nat.le_of_ble_eq_true rfl) rfl rfl (by decide) (by decide) dX5_part_21 (fun x21 M' hq => ?_)
  obtain ⟨rfl, rfl⟩ := hq
  refine z_if_ne C (tgt := 29) dX5_part_24 (by decide) (fun _ => ?_) (fun c24 => absurd c24 (by simp [z_lr, z_lt]))
  refine z_aload_n C dX5_part_29 rfl 0 rfl ?_
  refine gf_X5_18 C (z_up_s _ _ _) dX5_part_30 ?_
  refine z_iload_n C dX5_part_33 rfl 2 rfl ?_
  refine z_aaldI (j := i2) C ((z_up_n _ _ (z_ne h_pn h_m (by intro h; cases h))).trans h_pn) h_ip2 h_ij2 h_fp2 dX5_part_34 ?_
  refine z_iconst C (v := 5) dX5_part_35 (by decide) ?_
  refine z_pl5 C ((z_up_n _ _ (z_ne h_p2 h_m (by intro h; cases h))).trans h_p2) dX5_part_36 ?_
  refine z_istore (lv' := [(5, .int li2), (0, .ref m), (1, .int pane), (2, .int other), (3, .int ix0), (4, .int mn)]) C dX5_part_37 (by decide) rfl ?_
  refine z_iload_n C dX5_part_39 rfl 4 rfl ?_
  refine z_iconst C (v := 0) dX5_part_40 (by decide) ?_
  refine z_iload C dX5_part_41 0 rfl ?_
  refine z_callSi (rest := []) (k' := 0) (n' := 0) C (c_X5_isIn (z_l X) (z_G X) ) (cs_X5_36 C (by decide)) rfl rfl (Nat.le_of_ble_eq_true rfl) rfl rfl (by decide) (by decide) dX5_part_43 (fun x43 M' hq => ?_)
  obtain ⟨rfl, rfl⟩ := hq
  refine z_if_eq C (tgt := 62) dX5_part_46 (by decide) (fun c46 => ?_) (fun c46 => ?_)
  · refine z_aload_n C dX5_part_62 rfl 1 rfl ?_
    refine z_iconst C (v := 5) dX5_part_63 (by decide) ?_
    refine z_callVi (rest := []) (k' := 0) (n' := 0) C (c_X5_refuse (z_l X) (z_G X) (z_up_s _ _ _) ((z_up_n _ _ (z_ne h_td h_m (by intro h; cases h))).trans h_td) (z_inL (by decide)) (show (5 : Int32).toNatClampNeg = 5 by decide)) (cs_X5_47 C (by decide)) (z_up_s _ _ _) rfl rfl rfl rfl (Nat.le_of_ble_eq_true rfl) rfl rfl (by decide) (by decide) dX5_part_64 (fun x64 M' hq => ?_)
    obtain ⟨rfl, rfl⟩ := hq
    exact ret dX5_part_67 rfl (Or.inl ⟨c46, rfl, rfl⟩) (by decide) (by decide)
  · refine z_iload C dX5_part_49 5 rfl ?_
    refine z_iconst C (v := 0) dX5_part_51 (by decide) ?_
    refine z_iload C dX5_part_52 0 rfl ?_
    refine z_iload_n C dX5_part_54 rfl 4 rfl ?_
    refine z_isub C dX5_part_55 ?_
    refine z_callSi (rest := []) (k' := 0) (n' := 0) C (c_X5_isIn (z_l X) (z_G X) ) (cs_X5_36 C (by decide)) rfl rfl (Nat.le_of_ble_eq_true rfl) rfl rfl (by decide) (by decide) dX5_part_56 (fun x56 M' hq => ?_)
    obtain ⟨rfl, rfl⟩ := hq
    refine z_if_ne C (tgt := 68) dX5_part_59 (by decide) (fun c59 => ?_) (fun c59 => ?_)
    · refine z_aload_n C dX5_part_68 rfl 1 rfl ?_
      refine z_iload_n C dX5_part_69 rfl 2 rfl ?_
      refine z_aload_n C dX5_part_70 rfl 1 rfl ?_
      refine gf_X5_18 C (z_up_s _ _ _) dX5_part_71 ?_
      refine z_iload_n C dX5_part_74 rfl 3 rfl ?_
      refine z_aaldI (j := i2) C ((z_up_n _ _ (z_ne h_pn h_m (by intro h; cases h))).trans h_pn) h_ip2 h_ij2 h_fp2 dX5_part_75 ?_
      refine z_iload_n C dX5_part_76 rfl 4 rfl ?_
      refine z_iload C dX5_part_77 5 rfl ?_
      refine z_callVi (rest := []) (k' := 1) (n' := 8) C (c_X5_cut (z_l X) (z_G X) (z_up_s _ _ _) ((z_up_n _ _ (z_ne h_pn h_m (by intro h; cases h))).trans h_pn) ((z_up_n _ _ (z_ne h_p2 h_m (by intro h; cases h))).trans h_p2) h_ip h_ij) (cs_X5_70 C (by decide)) (z_up_s _ _ _) rfl rfl rfl rfl (Nat.le_of_ble_eq_true rfl) rfl rfl (by decide) (by decide) dX5_part_79 (fun x79 M' hq => ?_)
      obtain ⟨q_13_79, hq_13_79, hr79, rfl⟩ := hq
      rw [hr79]
      rw [z_up_swap _ (z_neN (z_up_s _ _ _) hq_13_79)]
      rw [z_up_swap _ (z_ne h_m h_pn (by intro h; cases h))]
      rw [z_up_up]
      exact ret dX5_part_82 rfl (Or.inr (Or.inl ⟨q_13_79, hq_13_79, c46, c59, rfl, rfl⟩)) (by decide) (by decide)
    · refine z_aload_n C dX5_part_62 rfl 1 rfl ?_
      refine z_iconst C (v := 5) dX5_part_63 (by decide) ?_
      refine z_callVi (rest := []) (k' := 0) (n' := 0) C (c_X5_refuse (z_l X) (z_G X) (z_up_s _ _ _) ((z_up_n _ _ (z_ne h_td h_m (by intro h; cases h))).trans h_td) (z_inL (by decide)) (show (5 : Int32).toNatClampNeg = 5 by decide)) (cs_X5_47 C (by decide)) (z_up_s _ _ _) rfl rfl rfl rfl (Nat.le_of_ble_eq_true rfl) rfl rfl (by decide) (by decide) dX5_part_64 (fun x64 M' hq => ?_)
      obtain ⟨rfl, rfl⟩ := hq
      exact ret dX5_part_67 rfl (Or.inr (Or.inr (⟨c46, c59, rfl, rfl⟩))) (by decide) (by decide)
set_option maxRecDepth 20000 in
theorem c_X5_exchange_bad (l : Launch) (G : zG) {M : zM} {m : Nat} {pane : Int32} {other : Int32} {tp : Nat} {nr : Int32} {pn : Nat} {td : Nat} {ac : Int32} {kn : Int32} {th : Int32}  (h_m : M m = some (cMd tp nr pn td ac kn th)) (h_bad : z_is pane 0 5 = 0) : z_Mi l G qX5_exchange (z_rm 3 0 0) [.ref m, .int pane, .int other] M (fun r M' => r = 0 ∧ M' = z_up M m (cMd tp nr pn td ac kn (z_lt 0 1)))  := by
  refine z_Mi_of _ (plainFor_of_name rfl) rfl (Nat.le_of_ble_eq_true rfl) (fun X hl hG hnm C ret => ?_)
  subst hl; subst hG
  have C : z_C X cX5_exchange RX5 4 (z_rm 3 0 0) := C
  show z_W X M 0 0 0 [(0, .ref m), (1, .int pane), (2, .int other)] []
  refine z_aload_n C dX5_exchange_0 rfl 0 rfl ?_
  refine z_iload_n C dX5_exchange_1 rfl 1 rfl ?_
  refine z_callSi (rest := [.ref m]) (k' := 0) (n' := 0) C (c_X5_isPane (z_l X) (z_G X) ) (cs_X5_55 C (by decide)) rfl rfl (Nat.le_of_ble_eq_true rfl) rfl rfl (by decide) (by decide) dX5_exchange_2 (fun x2 M' hq => ?_)
  obtain ⟨rfl, rfl⟩ := hq
  refine z_if_eq C (tgt := 19) dX5_exchange_5 (by decide) (fun _ => ?_) (fun c5 => absurd h_bad c5)
  refine z_iconst C (v := 0) dX5_exchange_19 (by decide) ?_
  refine z_iconst C (v := 1) dX5_exchange_20 (by decide) ?_
  refine z_callVi (rest := []) (k' := 0) (n' := 0) C (c_X5_isLet (z_l X) (z_G X) h_m) (cs_X5_59 C (by decide)) h_m rfl rfl rfl rfl (Nat.le_of_ble_eq_true rfl) rfl rfl (by decide) (by decide) dX5_exchange_21 (fun x21 M' hq => ?_)
  obtain ⟨rfl, rfl⟩ := hq
  refine z_if_ne C (tgt := 29) dX5_exchange_24 (by decide) (fun c24 => absurd (by simp [z_lr, z_lt]) c24) (fun _ => ?_)
  refine z_iconst C (v := 0) dX5_exchange_27 (by decide) ?_
  exact ret dX5_exchange_28 rfl (⟨rfl, rfl⟩) (by decide) (by decide)
set_option maxRecDepth 20000 in
theorem c_X5_exchange_bad2 (l : Launch) (G : zG) {M : zM} {m : Nat} {pane : Int32} {other : Int32} {tp : Nat} {nr : Int32} {pn : Nat} {td : Nat} {ac : Int32} {kn : Int32} {th : Int32}  (h_m : M m = some (cMd tp nr pn td ac kn th)) (h_ok : z_is pane 0 5 = 1) (h_bad2 : z_is other 0 5 = 0) : z_Mi l G qX5_exchange (z_rm 3 0 0) [.ref m, .int pane, .int other] M (fun r M' => r = 0 ∧ M' = z_up M m (cMd tp nr pn td ac kn (z_lt 0 1)))  := by
  refine z_Mi_of _ (plainFor_of_name rfl) rfl (Nat.le_of_ble_eq_true rfl) (fun X hl hG hnm C ret => ?_)
  subst hl; subst hG
  have C : z_C X cX5_exchange RX5 4 (z_rm 3 0 0) := C
  show z_W X M 0 0 0 [(0, .ref m), (1, .int pane), (2, .int other)] []
  refine z_aload_n C dX5_exchange_0 rfl 0 rfl ?_
  refine z_iload_n C dX5_exchange_1 rfl 1 rfl ?_
  refine z_callSi (rest := [.ref m]) (k' := 0) (n' := 0) C (c_X5_isPane (z_l X) (z_G X) ) (cs_X5_55 C (by decide)) rfl rfl (Nat.le_of_ble_eq_true rfl) rfl rfl (by decide) (by decide) dX5_exchange_2 (fun x2 M' hq => ?_)
  obtain ⟨rfl, rfl⟩ := hq
  refine z_if_eq C (tgt := 19) dX5_exchange_5 (by decide) (fun c5 => absurd c5 (by rw [h_ok]; decide)) (fun _ => ?_)
  refine z_iload_n C dX5_exchange_8 rfl 2 rfl ?_
  refine z_callSi (rest := [.ref m]) (k' := 0) (n' := 0) C (c_X5_isPane (z_l X) (z_G X) ) (cs_X5_55 C (by decide)) rfl rfl (Nat.le_of_ble_eq_true rfl) rfl rfl (by decide) (by decide) dX5_exchange_9 (fun x9 M' hq => ?_)
  obtain ⟨rfl, rfl⟩ := hq
  refine z_if_eq C (tgt := 19) dX5_exchange_12 (by decide) (fun _ => ?_) (fun c12 => absurd h_bad2 c12)
  refine z_iconst C (v := 0) dX5_exchange_19 (by decide) ?_
  refine z_iconst C (v := 1) dX5_exchange_20 (by decide) ?_
  refine z_callVi (rest := []) (k' := 0) (n' := 0) C (c_X5_isLet (z_l X) (z_G X) h_m) (cs_X5_59 C (by decide)) h_m rfl rfl rfl rfl (Nat.le_of_ble_eq_true rfl) rfl rfl (by decide) (by decide) dX5_exchange_21 (fun x21 M' hq => ?_)
  obtain ⟨rfl, rfl⟩ := hq
  refine z_if_ne C (tgt := 29) dX5_exchange_24 (by decide) (fun c24 => absurd (by simp [z_lr, z_lt]) c24) (fun _ => ?_)
  refine z_iconst C (v := 0) dX5_exchange_27 (by decide) ?_
  exact ret dX5_exchange_28 rfl (⟨rfl, rfl⟩) (by decide) (by decide)
set_option maxRecDepth 20000 in
theorem c_X5_exchange (l : Launch) (G : zG) {M : zM} {m : Nat} {pane : Int32} {other : Int32} {tp : Nat} {nr : Int32} {pn : Nat} {td : Nat} {ac : Int32} {kn : Int32} {th : Int32} {fp : Nat → Option Nat} {p : Nat} {ro : Int32} {ba : Int32} {sa : Int32} {cp : Int32} {po : Int32} {li : Int32} {mk : Int32} {rd : Int32} {p2 : Nat} {ro2 : Int32} {ba2 : Int32} {sa2 : Int32} {cp2 : Int32} {po2 : Int32} {li2 : Int32} {mk2 : Int32} {rd2 : Int32} {i i2 : Nat}  (h_m : M m = some (cMd tp nr pn td ac kn th)) (h_pn : M pn = some (aII G 6 fp)) (h_p : M p = some (cPm G ro ba sa cp po li mk rd)) (h_p2 : M p2 = some (cPm G ro2 ba2 sa2 cp2 po2 li2 mk2 rd2)) (h_ok : z_is pane 0 5 = 1) (h_ip : vp_in pane 6) (h_ij : pane.toNatClampNeg = i) (h_fp : fp i = some p) (h_ok2 : z_is other 0 5 = 1) (h_ip2 : vp_in other 6) (h_ij2 : other.toNatClampNeg = i2) (h_fp2 : fp i2 = some p2) : z_Mi l G qX5_exchange (z_rm 3 0 0) [.ref m, .int pane, .int other] M (fun r M' => r = po2 ∧ M' = z_up (z_up M pn (aII G 6 (va_up (va_up fp i (some p2)) i2 (some p)))) m (cMd tp nr pn td (ac + 1) kn (z_lt 1 1)))  := by
  refine z_Mi_of _ (plainFor_of_name rfl) rfl (Nat.le_of_ble_eq_true rfl) (fun X hl hG hnm C ret => ?_)
  subst hl; subst hG
  have C : z_C X cX5_exchange RX5 4 (z_rm 3 0 0) := C
  show z_W X M 0 0 0 [(0, .ref m), (1, .int pane), (2, .int other)] []
  refine z_aload_n C dX5_exchange_0 rfl 0 rfl ?_
  refine z_iload_n C dX5_exchange_1 rfl 1 rfl ?_
  refine z_callSi (rest := [.ref m]) (k' := 0) (n' := 0) C (c_X5_isPane (z_l X) (z_G X) ) (cs_X5_55 C (by decide)) rfl rfl (Nat.le_of_ble_eq_true rfl) rfl rfl (by decide) (by decide) dX5_exchange_2 (fun x2 M' hq => ?_)
  obtain ⟨rfl, rfl⟩ := hq
  refine z_if_eq C (tgt := 19) dX5_exchange_5 (by decide) (fun c5 => absurd c5 (by rw [h_ok]; decide)) (fun _ => ?_)
  refine z_iload_n C dX5_exchange_8 rfl 2 rfl ?_
  refine z_callSi (rest := [.ref m]) (k' := 0) (n' := 0) C (c_X5_isPane (z_l X) (z_G X) ) (cs_X5_55 C (by decide)) rfl rfl (Nat.le_of_ble_eq_true rfl) rfl rfl (by decide) (by decide) dX5_exchange_9 (fun x9 M' hq => ?_)
  obtain ⟨rfl, rfl⟩ := hq
  refine z_if_eq C (tgt := 19) dX5_exchange_12 (by decide) (fun c12 => absurd c12 (by rw [h_ok2]; decide)) (fun _ => ?_)
  refine z_iconst C (v := 1) dX5_exchange_15 (by decide) ?_
  refine z_goto C (tgt := 20) dX5_exchange_16 (by decide) ?_
  refine z_iconst C (v := 1) dX5_exchange_20 (by decide) ?_
  refine z_callVi (rest := []) (k' := 0) (n' := 0) C (c_X5_isLet (z_l X) (z_G X) h_m) (cs_X5_59 C (by decide)) h_m rfl rfl rfl rfl (Nat.le_of_ble_eq_true rfl) rfl rfl (by decide) (by decide) dX5_exchange_21 (fun x21 M' hq => ?_)
  obtain ⟨rfl, rfl⟩ := hq
  refine z_if_ne C (tgt := 29) dX5_exchange_24 (by decide) (fun _ => ?_) (fun c24 => absurd c24 (by simp [z_lr, z_lt]))
  refine z_aload_n C dX5_exchange_29 rfl 0 rfl ?_
  refine gf_X5_18 C (z_up_s _ _ _) dX5_exchange_30 ?_
  refine z_iload_n C dX5_exchange_33 rfl 1 rfl ?_
  refine z_aaldI (j := i) C ((z_up_n _ _ (z_ne h_pn h_m (by intro h; cases h))).trans h_pn) h_ip h_ij h_fp dX5_exchange_34 ?_
  refine z_astore_n (lv' := [(3, .ref p), (0, .ref m), (1, .int pane), (2, .int other)]) C dX5_exchange_35 rfl (by decide) rfl ?_
  refine z_aload_n C dX5_exchange_36 rfl 1 rfl ?_
  refine gf_X5_18 C (z_up_s _ _ _) dX5_exchange_37 ?_
  refine z_iload_n C dX5_exchange_40 rfl 2 rfl ?_
  refine z_aload_n C dX5_exchange_41 rfl 1 rfl ?_
  refine gf_X5_18 C (z_up_s _ _ _) dX5_exchange_42 ?_
  refine z_iload_n C dX5_exchange_45 rfl 3 rfl ?_
  refine z_aaldI (j := i2) C ((z_up_n _ _ (z_ne h_pn h_m (by intro h; cases h))).trans h_pn) h_ip2 h_ij2 h_fp2 dX5_exchange_46 ?_
  refine z_aastII (j := i) C kn1042 ((z_up_n _ _ (z_ne h_pn h_m (by intro h; cases h))).trans h_pn) ((z_up_n _ _ (z_ne h_p2 h_m (by intro h; cases h))).trans h_p2) h_ip h_ij dX5_exchange_47 ?_
  refine z_aload_n C dX5_exchange_48 rfl 1 rfl ?_
  refine gf_X5_18 C ((z_up_n _ _ (z_ne h_m h_pn (by intro h; cases h))).trans (z_up_s _ _ _)) dX5_exchange_49 ?_
  refine z_iload_n C dX5_exchange_52 rfl 3 rfl ?_
  refine z_aload_n C dX5_exchange_53 rfl 0 rfl ?_
  refine z_aastII (j := i2) C kn1042 (z_up_s _ _ _) ((z_up_n _ _ (z_ne h_p h_pn (by intro h; simp at h))).trans ((z_up_n _ _ (z_ne h_p h_m (by intro h; cases h))).trans h_p)) h_ip2 h_ij2 dX5_exchange_54 ?_
  rw [z_up_up]
  refine z_aload_n C dX5_exchange_55 rfl 1 rfl ?_
  refine z_aload_n C dX5_exchange_56 rfl 1 rfl ?_
  refine gf_X5_18 C ((z_up_n _ _ (z_ne h_m h_pn (by intro h; cases h))).trans (z_up_s _ _ _)) dX5_exchange_57 ?_
  refine z_iload_n C dX5_exchange_60 rfl 2 rfl ?_
  refine z_aaldI (j := i) C (z_up_s _ _ _) h_ip h_ij (z_exch h_fp h_fp2) dX5_exchange_61 ?_
  refine z_iconst C (v := 4) dX5_exchange_62 (by decide) ?_
  refine z_pl4 C ((z_up_n _ _ (z_ne h_p2 h_pn (by intro h; simp at h))).trans ((z_up_n _ _ (z_ne h_p2 h_m (by intro h; cases h))).trans h_p2)) dX5_exchange_63 ?_
  refine z_callVi (rest := []) (k' := 0) (n' := 0) C (c_X5_did (z_l X) (z_G X) ((z_up_n _ _ (z_ne h_m h_pn (by intro h; cases h))).trans (z_up_s _ _ _))) (cs_X5_63 C (by decide)) ((z_up_n _ _ (z_ne h_m h_pn (by intro h; cases h))).trans (z_up_s _ _ _)) rfl rfl rfl rfl (Nat.le_of_ble_eq_true rfl) rfl rfl (by decide) (by decide) dX5_exchange_64 (fun x64 M' hq => ?_)
  obtain ⟨hr64, rfl⟩ := hq
  rw [hr64]
  rw [z_up_swap _ (z_ne h_m h_pn (by intro h; cases h))]
  rw [z_up_up]
  exact ret dX5_exchange_67 rfl (⟨rfl, rfl⟩) (by decide) (by decide)
