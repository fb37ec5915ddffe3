section
/-- the first j places of a row copied -/
def z_cp (f : Nat → Int32) (j : Nat) : Nat → Int32 := fun i => if i < j then f i else 0
theorem z_cp0 (f : Nat → Int32) : z_cp f 0 = fun _ => 0 := by
  funext i
  simp [z_cp]
theorem z_cpS (f : Nat → Int32) (j : Nat) : upd (z_cp f j) j (f j) = z_cp f (j + 1) := by
  funext i
  by_cases h : i = j
  · subst h; simp [z_cp, upd]
  · by_cases h1 : i < j
    · simp [z_cp, upd, h, h1, Nat.lt_succ_of_lt h1]
    · have h2 : ¬ i < j + 1 := by omega
      simp [z_cp, upd, h, h1, h2]
theorem z_rgN {x B : Int32} (h : ¬ z_is x 0 B = 0) : x = nI x.toNatClampNeg ∧ (x.toNatClampNeg : Int) ≤ B.toInt := by
  obtain ⟨h1, h2⟩ := z_is1 h
  have h3 := z_cl h1
  rw [z_le] at h2
  have h4 := fb_rng x
  refine ⟨?_, by omega⟩
  rw [z_eqI, nI_toInt (by omega)]
  omega
theorem z_lrN {t f : Int32} (h : ¬ z_lr t f = 0) : ¬ f = 0 := fun e => h (by
  unfold z_lr z_lt
  by_cases ht : t = 0 <;> simp [ht, e])
theorem z_r12 {x : Int32} (h : ¬ z_is x 0 12 = 0) : x.toNatClampNeg ≤ 12 := by
  have := (z_rgN h).2
  rw [show (12 : Int32).toInt = 12 from by decide] at this
  omega
theorem z_r20 {x : Int32} (h : ¬ z_is x 0 20 = 0) : x.toNatClampNeg ≤ 20 := by
  have := (z_rgN h).2
  rw [show (20 : Int32).toInt = 20 from by decide] at this
  omega
theorem z_exch {f : Nat → Option Nat} {i j p q : Nat} (h1 : f i = some p) (h2 : f j = some q) : va_up (va_up f i (some q)) j (some p) i = some q := by
  by_cases h : i = j
  · subst h
    rw [h1] at h2
    rw [va_up_self, h2]
  · simp [va_up, h]
theorem dX5_over_0 : decode cX5_over 0 = .ok (.bipush 8, 2) := by decide +kernel
theorem dX5_over_2 : decode cX5_over 2 = .ok (.newarray .int, 2) := by decide +kernel
theorem dX5_over_4 : decode cX5_over 4 = .ok (.dup, 1) := by decide +kernel
theorem dX5_over_5 : decode cX5_over 5 = .ok (.iconst 0, 1) := by decide +kernel
theorem dX5_over_6 : decode cX5_over 6 = .ok (.iload_n 0, 1) := by decide +kernel
theorem dX5_over_7 : decode cX5_over 7 = .ok (.iastore, 1) := by decide +kernel
theorem dX5_over_8 : decode cX5_over 8 = .ok (.dup, 1) := by decide +kernel
theorem dX5_over_9 : decode cX5_over 9 = .ok (.iconst 1, 1) := by decide +kernel
theorem dX5_over_10 : decode cX5_over 10 = .ok (.iload_n 1, 1) := by decide +kernel
theorem dX5_over_11 : decode cX5_over 11 = .ok (.iastore, 1) := by decide +kernel
theorem dX5_over_12 : decode cX5_over 12 = .ok (.dup, 1) := by decide +kernel
theorem dX5_over_13 : decode cX5_over 13 = .ok (.iconst 2, 1) := by decide +kernel
theorem dX5_over_14 : decode cX5_over 14 = .ok (.iload_n 2, 1) := by decide +kernel
theorem dX5_over_15 : decode cX5_over 15 = .ok (.iastore, 1) := by decide +kernel
theorem dX5_over_16 : decode cX5_over 16 = .ok (.dup, 1) := by decide +kernel
theorem dX5_over_17 : decode cX5_over 17 = .ok (.iconst 3, 1) := by decide +kernel
theorem dX5_over_18 : decode cX5_over 18 = .ok (.iload_n 3, 1) := by decide +kernel
theorem dX5_over_19 : decode cX5_over 19 = .ok (.iastore, 1) := by decide +kernel
theorem dX5_over_20 : decode cX5_over 20 = .ok (.dup, 1) := by decide +kernel
theorem dX5_over_21 : decode cX5_over 21 = .ok (.iconst 4, 1) := by decide +kernel
theorem dX5_over_22 : decode cX5_over 22 = .ok (.iconst 0, 1) := by decide +kernel
theorem dX5_over_23 : decode cX5_over 23 = .ok (.iastore, 1) := by decide +kernel
theorem dX5_over_24 : decode cX5_over 24 = .ok (.dup, 1) := by decide +kernel
theorem dX5_over_25 : decode cX5_over 25 = .ok (.iconst 5, 1) := by decide +kernel
theorem dX5_over_26 : decode cX5_over 26 = .ok (.iload_n 3, 1) := by decide +kernel
theorem dX5_over_27 : decode cX5_over 27 = .ok (.iastore, 1) := by decide +kernel
theorem dX5_over_28 : decode cX5_over 28 = .ok (.dup, 1) := by decide +kernel
theorem dX5_over_29 : decode cX5_over 29 = .ok (.bipush 6, 2) := by decide +kernel
theorem dX5_over_31 : decode cX5_over 31 = .ok (.iconst (-1), 1) := by decide +kernel
theorem dX5_over_32 : decode cX5_over 32 = .ok (.iastore, 1) := by decide +kernel
theorem dX5_over_33 : decode cX5_over 33 = .ok (.dup, 1) := by decide +kernel
theorem dX5_over_34 : decode cX5_over 34 = .ok (.bipush 7, 2) := by decide +kernel
theorem dX5_over_36 : decode cX5_over 36 = .ok (.iconst 0, 1) := by decide +kernel
theorem dX5_over_37 : decode cX5_over 37 = .ok (.iastore, 1) := by decide +kernel
theorem dX5_over_38 : decode cX5_over 38 = .ok (.areturn, 1) := by decide +kernel
theorem dX5_like_0 : decode cX5_like 0 = .ok (.bipush 8, 2) := by decide +kernel
theorem dX5_like_2 : decode cX5_like 2 = .ok (.newarray .int, 2) := by decide +kernel
theorem dX5_like_4 : decode cX5_like 4 = .ok (.astore_n 1, 1) := by decide +kernel
theorem dX5_like_5 : decode cX5_like 5 = .ok (.iconst 0, 1) := by decide +kernel
theorem dX5_like_6 : decode cX5_like 6 = .ok (.istore_n 2, 1) := by decide +kernel
theorem dX5_like_7 : decode cX5_like 7 = .ok (.iload_n 2, 1) := by decide +kernel
theorem dX5_like_8 : decode cX5_like 8 = .ok (.bipush 8, 2) := by decide +kernel
theorem dX5_like_10 : decode cX5_like 10 = .ok (.if_icmp .ge 15, 3) := by decide +kernel
theorem dX5_like_13 : decode cX5_like 13 = .ok (.aload_n 1, 1) := by decide +kernel
theorem dX5_like_14 : decode cX5_like 14 = .ok (.iload_n 2, 1) := by decide +kernel
theorem dX5_like_15 : decode cX5_like 15 = .ok (.aload_n 0, 1) := by decide +kernel
theorem dX5_like_16 : decode cX5_like 16 = .ok (.iload_n 2, 1) := by decide +kernel
theorem dX5_like_17 : decode cX5_like 17 = .ok (.iaload, 1) := by decide +kernel
theorem dX5_like_18 : decode cX5_like 18 = .ok (.iastore, 1) := by decide +kernel
theorem dX5_like_19 : decode cX5_like 19 = .ok (.iinc 2 1, 3) := by decide +kernel
theorem dX5_like_22 : decode cX5_like 22 = .ok (.goto (-15), 3) := by decide +kernel
theorem dX5_like_25 : decode cX5_like 25 = .ok (.aload_n 1, 1) := by decide +kernel
theorem dX5_like_26 : decode cX5_like 26 = .ok (.areturn, 1) := by decide +kernel
theorem dX5_made_0 : decode cX5_made 0 = .ok (.aload_n 0, 1) := by decide +kernel
theorem dX5_made_1 : decode cX5_made 1 = .ok (.getfield 9, 3) := by decide +kernel
theorem dX5_made_4 : decode cX5_made 4 = .ok (.arraylength, 1) := by decide +kernel
theorem dX5_made_5 : decode cX5_made 5 = .ok (.iload_n 1, 1) := by decide +kernel
theorem dX5_made_6 : decode cX5_made 6 = .ok (.iadd, 1) := by decide +kernel
theorem dX5_made_7 : decode cX5_made 7 = .ok (.newarray .int, 2) := by decide +kernel
theorem dX5_made_9 : decode cX5_made 9 = .ok (.astore_n 2, 1) := by decide +kernel
theorem dX5_made_10 : decode cX5_made 10 = .ok (.iconst 0, 1) := by decide +kernel
theorem dX5_made_11 : decode cX5_made 11 = .ok (.istore_n 3, 1) := by decide +kernel
theorem dX5_made_12 : decode cX5_made 12 = .ok (.iload_n 3, 1) := by decide +kernel
theorem dX5_made_13 : decode cX5_made 13 = .ok (.aload_n 0, 1) := by decide +kernel
theorem dX5_made_14 : decode cX5_made 14 = .ok (.getfield 9, 3) := by decide +kernel
theorem dX5_made_17 : decode cX5_made 17 = .ok (.arraylength, 1) := by decide +kernel
theorem dX5_made_18 : decode cX5_made 18 = .ok (.if_icmp .ge 18, 3) := by decide +kernel
theorem dX5_made_21 : decode cX5_made 21 = .ok (.aload_n 2, 1) := by decide +kernel
theorem dX5_made_22 : decode cX5_made 22 = .ok (.iload_n 3, 1) := by decide +kernel
theorem dX5_made_23 : decode cX5_made 23 = .ok (.aload_n 0, 1) := by decide +kernel
theorem dX5_made_24 : decode cX5_made 24 = .ok (.getfield 9, 3) := by decide +kernel
theorem dX5_made_27 : decode cX5_made 27 = .ok (.iload_n 3, 1) := by decide +kernel
theorem dX5_made_28 : decode cX5_made 28 = .ok (.iaload, 1) := by decide +kernel
theorem dX5_made_29 : decode cX5_made 29 = .ok (.iastore, 1) := by decide +kernel
theorem dX5_made_30 : decode cX5_made 30 = .ok (.iinc 3 1, 3) := by decide +kernel
theorem dX5_made_33 : decode cX5_made 33 = .ok (.goto (-21), 3) := by decide +kernel
theorem dX5_made_36 : decode cX5_made 36 = .ok (.aload_n 0, 1) := by decide +kernel
theorem dX5_made_37 : decode cX5_made 37 = .ok (.getfield 13, 3) := by decide +kernel
theorem dX5_made_40 : decode cX5_made 40 = .ok (.aload_n 0, 1) := by decide +kernel
theorem dX5_made_41 : decode cX5_made 41 = .ok (.getfield 9, 3) := by decide +kernel
theorem dX5_made_44 : decode cX5_made 44 = .ok (.arraylength, 1) := by decide +kernel
theorem dX5_made_45 : decode cX5_made 45 = .ok (.iconst 0, 1) := by decide +kernel
theorem dX5_made_46 : decode cX5_made 46 = .ok (.iload_n 1, 1) := by decide +kernel
theorem dX5_made_47 : decode cX5_made 47 = .ok (.invokestatic 25, 3) := by decide +kernel
theorem dX5_made_50 : decode cX5_made 50 = .ok (.astore_n 3, 1) := by decide +kernel
theorem dX5_made_51 : decode cX5_made 51 = .ok (.aload_n 0, 1) := by decide +kernel
theorem dX5_made_52 : decode cX5_made 52 = .ok (.aload_n 2, 1) := by decide +kernel
theorem dX5_made_53 : decode cX5_made 53 = .ok (.putfield 9, 3) := by decide +kernel
theorem dX5_made_56 : decode cX5_made 56 = .ok (.aload_n 0, 1) := by decide +kernel
theorem dX5_made_57 : decode cX5_made 57 = .ok (.dup, 1) := by decide +kernel
theorem dX5_made_58 : decode cX5_made 58 = .ok (.getfield 13, 3) := by decide +kernel
theorem dX5_made_61 : decode cX5_made 61 = .ok (.iconst 1, 1) := by decide +kernel
theorem dX5_made_62 : decode cX5_made 62 = .ok (.iadd, 1) := by decide +kernel
theorem dX5_made_63 : decode cX5_made 63 = .ok (.putfield 13, 3) := by decide +kernel
theorem dX5_made_66 : decode cX5_made 66 = .ok (.aload_n 3, 1) := by decide +kernel
theorem dX5_made_67 : decode cX5_made 67 = .ok (.areturn, 1) := by decide +kernel
theorem dX5_cut_0 : decode cX5_cut 0 = .ok (.aload_n 2, 1) := by decide +kernel
theorem dX5_cut_1 : decode cX5_cut 1 = .ok (.iconst 0, 1) := by decide +kernel
theorem dX5_cut_2 : decode cX5_cut 2 = .ok (.iaload, 1) := by decide +kernel
theorem dX5_cut_3 : decode cX5_cut 3 = .ok (.aload_n 2, 1) := by decide +kernel
theorem dX5_cut_4 : decode cX5_cut 4 = .ok (.iconst 1, 1) := by decide +kernel
theorem dX5_cut_5 : decode cX5_cut 5 = .ok (.iaload, 1) := by decide +kernel
theorem dX5_cut_6 : decode cX5_cut 6 = .ok (.aload_n 2, 1) := by decide +kernel
theorem dX5_cut_7 : decode cX5_cut 7 = .ok (.iconst 2, 1) := by decide +kernel
theorem dX5_cut_8 : decode cX5_cut 8 = .ok (.iaload, 1) := by decide +kernel
theorem dX5_cut_9 : decode cX5_cut 9 = .ok (.iload_n 3, 1) := by decide +kernel
theorem dX5_cut_10 : decode cX5_cut 10 = .ok (.iadd, 1) := by decide +kernel
theorem dX5_cut_11 : decode cX5_cut 11 = .ok (.iload 4, 2) := by decide +kernel
theorem dX5_cut_13 : decode cX5_cut 13 = .ok (.invokestatic 25, 3) := by decide +kernel
theorem dX5_cut_16 : decode cX5_cut 16 = .ok (.astore 5, 2) := by decide +kernel
theorem dX5_cut_18 : decode cX5_cut 18 = .ok (.aload 5, 2) := by decide +kernel
theorem dX5_cut_20 : decode cX5_cut 20 = .ok (.bipush 7, 2) := by decide +kernel
theorem dX5_cut_22 : decode cX5_cut 22 = .ok (.aload_n 2, 1) := by decide +kernel
theorem dX5_cut_23 : decode cX5_cut 23 = .ok (.bipush 7, 2) := by decide +kernel
theorem dX5_cut_25 : decode cX5_cut 25 = .ok (.iaload, 1) := by decide +kernel
theorem dX5_cut_26 : decode cX5_cut 26 = .ok (.iastore, 1) := by decide +kernel
theorem dX5_cut_27 : decode cX5_cut 27 = .ok (.aload_n 0, 1) := by decide +kernel
theorem dX5_cut_28 : decode cX5_cut 28 = .ok (.getfield 18, 3) := by decide +kernel
theorem dX5_cut_31 : decode cX5_cut 31 = .ok (.iload_n 1, 1) := by decide +kernel
theorem dX5_cut_32 : decode cX5_cut 32 = .ok (.aload 5, 2) := by decide +kernel
theorem dX5_cut_34 : decode cX5_cut 34 = .ok (.aastore, 1) := by decide +kernel
theorem dX5_cut_35 : decode cX5_cut 35 = .ok (.aload_n 0, 1) := by decide +kernel
theorem dX5_cut_36 : decode cX5_cut 36 = .ok (.iload 4, 2) := by decide +kernel
theorem dX5_cut_38 : decode cX5_cut 38 = .ok (.invokevirtual 63, 3) := by decide +kernel
theorem dX5_cut_41 : decode cX5_cut 41 = .ok (.ireturn, 1) := by decide +kernel
theorem dX5_wrap_0 : decode cX5_wrap 0 = .ok (.aload_n 0, 1) := by decide +kernel
theorem dX5_wrap_1 : decode cX5_wrap 1 = .ok (.iload_n 1, 1) := by decide +kernel
theorem dX5_wrap_2 : decode cX5_wrap 2 = .ok (.invokestatic 55, 3) := by decide +kernel
theorem dX5_wrap_5 : decode cX5_wrap 5 = .ok (.iload_n 2, 1) := by decide +kernel
theorem dX5_wrap_6 : decode cX5_wrap 6 = .ok (.iconst 0, 1) := by decide +kernel
theorem dX5_wrap_7 : decode cX5_wrap 7 = .ok (.bipush 16, 2) := by decide +kernel
theorem dX5_wrap_9 : decode cX5_wrap 9 = .ok (.invokestatic 36, 3) := by decide +kernel
theorem dX5_wrap_12 : decode cX5_wrap 12 = .ok (.ifCond .eq 19, 3) := by decide +kernel
theorem dX5_wrap_15 : decode cX5_wrap 15 = .ok (.iload_n 3, 1) := by decide +kernel
theorem dX5_wrap_16 : decode cX5_wrap 16 = .ok (.iconst 0, 1) := by decide +kernel
theorem dX5_wrap_17 : decode cX5_wrap 17 = .ok (.bipush 16, 2) := by decide +kernel
theorem dX5_wrap_19 : decode cX5_wrap 19 = .ok (.iload_n 2, 1) := by decide +kernel
theorem dX5_wrap_20 : decode cX5_wrap 20 = .ok (.isub, 1) := by decide +kernel
theorem dX5_wrap_21 : decode cX5_wrap 21 = .ok (.invokestatic 36, 3) := by decide +kernel
theorem dX5_wrap_24 : decode cX5_wrap 24 = .ok (.ifCond .eq 7, 3) := by decide +kernel
theorem dX5_wrap_27 : decode cX5_wrap 27 = .ok (.iconst 1, 1) := by decide +kernel
theorem dX5_wrap_28 : decode cX5_wrap 28 = .ok (.goto 4, 3) := by decide +kernel
theorem dX5_wrap_31 : decode cX5_wrap 31 = .ok (.iconst 0, 1) := by decide +kernel
theorem dX5_wrap_32 : decode cX5_wrap 32 = .ok (.invokevirtual 59, 3) := by decide +kernel
theorem dX5_wrap_35 : decode cX5_wrap 35 = .ok (.ifCond .ne 5, 3) := by decide +kernel
theorem dX5_wrap_38 : decode cX5_wrap 38 = .ok (.iconst 0, 1) := by decide +kernel
theorem dX5_wrap_39 : decode cX5_wrap 39 = .ok (.ireturn, 1) := by decide +kernel
theorem dX5_wrap_40 : decode cX5_wrap 40 = .ok (.aload_n 0, 1) := by decide +kernel
theorem dX5_wrap_41 : decode cX5_wrap 41 = .ok (.getfield 18, 3) := by decide +kernel
theorem dX5_wrap_44 : decode cX5_wrap 44 = .ok (.iload_n 1, 1) := by decide +kernel
theorem dX5_wrap_45 : decode cX5_wrap 45 = .ok (.iconst 0, 1) := by decide +kernel
theorem dX5_wrap_46 : decode cX5_wrap 46 = .ok (.iconst 0, 1) := by decide +kernel
theorem dX5_wrap_47 : decode cX5_wrap 47 = .ok (.iconst 0, 1) := by decide +kernel
theorem dX5_wrap_48 : decode cX5_wrap 48 = .ok (.bipush 16, 2) := by decide +kernel
theorem dX5_wrap_50 : decode cX5_wrap 50 = .ok (.invokestatic 25, 3) := by decide +kernel
theorem dX5_wrap_53 : decode cX5_wrap 53 = .ok (.aastore, 1) := by decide +kernel
theorem dX5_wrap_54 : decode cX5_wrap 54 = .ok (.aload_n 0, 1) := by decide +kernel
theorem dX5_wrap_55 : decode cX5_wrap 55 = .ok (.getfield 18, 3) := by decide +kernel
theorem dX5_wrap_58 : decode cX5_wrap 58 = .ok (.iload_n 1, 1) := by decide +kernel
theorem dX5_wrap_59 : decode cX5_wrap 59 = .ok (.aaload, 1) := by decide +kernel
theorem dX5_wrap_60 : decode cX5_wrap 60 = .ok (.iconst 4, 1) := by decide +kernel
theorem dX5_wrap_61 : decode cX5_wrap 61 = .ok (.iload_n 2, 1) := by decide +kernel
theorem dX5_wrap_62 : decode cX5_wrap 62 = .ok (.iastore, 1) := by decide +kernel
theorem dX5_wrap_63 : decode cX5_wrap 63 = .ok (.aload_n 0, 1) := by decide +kernel
theorem dX5_wrap_64 : decode cX5_wrap 64 = .ok (.getfield 18, 3) := by decide +kernel
theorem dX5_wrap_67 : decode cX5_wrap 67 = .ok (.iload_n 1, 1) := by decide +kernel
theorem dX5_wrap_68 : decode cX5_wrap 68 = .ok (.aaload, 1) := by decide +kernel
theorem dX5_wrap_69 : decode cX5_wrap 69 = .ok (.iconst 5, 1) := by decide +kernel
theorem dX5_wrap_70 : decode cX5_wrap 70 = .ok (.iload_n 2, 1) := by decide +kernel
theorem dX5_wrap_71 : decode cX5_wrap 71 = .ok (.iload_n 3, 1) := by decide +kernel
theorem dX5_wrap_72 : decode cX5_wrap 72 = .ok (.iadd, 1) := by decide +kernel
theorem dX5_wrap_73 : decode cX5_wrap 73 = .ok (.iastore, 1) := by decide +kernel
theorem dX5_wrap_74 : decode cX5_wrap 74 = .ok (.aload_n 0, 1) := by decide +kernel
theorem dX5_wrap_75 : decode cX5_wrap 75 = .ok (.iload_n 2, 1) := by decide +kernel
theorem dX5_wrap_76 : decode cX5_wrap 76 = .ok (.iload_n 3, 1) := by decide +kernel
theorem dX5_wrap_77 : decode cX5_wrap 77 = .ok (.iadd, 1) := by decide +kernel
theorem dX5_wrap_78 : decode cX5_wrap 78 = .ok (.invokevirtual 63, 3) := by decide +kernel
theorem dX5_wrap_81 : decode cX5_wrap 81 = .ok (.ireturn, 1) := by decide +kernel
theorem dX5_fresh_0 : decode cX5_fresh 0 = .ok (.aload_n 0, 1) := by decide +kernel
theorem dX5_fresh_1 : decode cX5_fresh 1 = .ok (.iload_n 1, 1) := by decide +kernel
theorem dX5_fresh_2 : decode cX5_fresh 2 = .ok (.invokestatic 55, 3) := by decide +kernel
theorem dX5_fresh_5 : decode cX5_fresh 5 = .ok (.iload_n 2, 1) := by decide +kernel
theorem dX5_fresh_6 : decode cX5_fresh 6 = .ok (.iconst 0, 1) := by decide +kernel
theorem dX5_fresh_7 : decode cX5_fresh 7 = .ok (.bipush 12, 2) := by decide +kernel
theorem dX5_fresh_9 : decode cX5_fresh 9 = .ok (.invokestatic 36, 3) := by decide +kernel
theorem dX5_fresh_12 : decode cX5_fresh 12 = .ok (.invokevirtual 59, 3) := by decide +kernel
theorem dX5_fresh_15 : decode cX5_fresh 15 = .ok (.ifCond .ne 5, 3) := by decide +kernel
theorem dX5_fresh_18 : decode cX5_fresh 18 = .ok (.iconst 0, 1) := by decide +kernel
theorem dX5_fresh_19 : decode cX5_fresh 19 = .ok (.ireturn, 1) := by decide +kernel
theorem dX5_fresh_20 : decode cX5_fresh 20 = .ok (.aload_n 0, 1) := by decide +kernel
theorem dX5_fresh_21 : decode cX5_fresh 21 = .ok (.getfield 18, 3) := by decide +kernel
theorem dX5_fresh_24 : decode cX5_fresh 24 = .ok (.iload_n 1, 1) := by decide +kernel
theorem dX5_fresh_25 : decode cX5_fresh 25 = .ok (.aload_n 0, 1) := by decide +kernel
theorem dX5_fresh_26 : decode cX5_fresh 26 = .ok (.iload_n 2, 1) := by decide +kernel
theorem dX5_fresh_27 : decode cX5_fresh 27 = .ok (.invokevirtual 29, 3) := by decide +kernel
theorem dX5_fresh_30 : decode cX5_fresh 30 = .ok (.aastore, 1) := by decide +kernel
theorem dX5_fresh_31 : decode cX5_fresh 31 = .ok (.aload_n 0, 1) := by decide +kernel
theorem dX5_fresh_32 : decode cX5_fresh 32 = .ok (.iload_n 2, 1) := by decide +kernel
theorem dX5_fresh_33 : decode cX5_fresh 33 = .ok (.invokevirtual 63, 3) := by decide +kernel
theorem dX5_fresh_36 : decode cX5_fresh 36 = .ok (.ireturn, 1) := by decide +kernel
theorem dX5_twin_0 : decode cX5_twin 0 = .ok (.aload_n 0, 1) := by decide +kernel
theorem dX5_twin_1 : decode cX5_twin 1 = .ok (.iload_n 1, 1) := by decide +kernel
theorem dX5_twin_2 : decode cX5_twin 2 = .ok (.invokestatic 55, 3) := by decide +kernel
theorem dX5_twin_5 : decode cX5_twin 5 = .ok (.ifCond .eq 14, 3) := by decide +kernel
theorem dX5_twin_8 : decode cX5_twin 8 = .ok (.iload_n 2, 1) := by decide +kernel
theorem dX5_twin_9 : decode cX5_twin 9 = .ok (.invokestatic 55, 3) := by decide +kernel
theorem dX5_twin_12 : decode cX5_twin 12 = .ok (.ifCond .eq 7, 3) := by decide +kernel
theorem dX5_twin_15 : decode cX5_twin 15 = .ok (.iconst 1, 1) := by decide +kernel
theorem dX5_twin_16 : decode cX5_twin 16 = .ok (.goto 4, 3) := by decide +kernel
theorem dX5_twin_19 : decode cX5_twin 19 = .ok (.iconst 0, 1) := by decide +kernel
theorem dX5_twin_20 : decode cX5_twin 20 = .ok (.iconst 1, 1) := by decide +kernel
theorem dX5_twin_21 : decode cX5_twin 21 = .ok (.invokevirtual 59, 3) := by decide +kernel
theorem dX5_twin_24 : decode cX5_twin 24 = .ok (.ifCond .ne 5, 3) := by decide +kernel
theorem dX5_twin_27 : decode cX5_twin 27 = .ok (.iconst 0, 1) := by decide +kernel
theorem dX5_twin_28 : decode cX5_twin 28 = .ok (.ireturn, 1) := by decide +kernel
theorem dX5_twin_29 : decode cX5_twin 29 = .ok (.aload_n 0, 1) := by decide +kernel
theorem dX5_twin_30 : decode cX5_twin 30 = .ok (.getfield 18, 3) := by decide +kernel
theorem dX5_twin_33 : decode cX5_twin 33 = .ok (.iload_n 1, 1) := by decide +kernel
theorem dX5_twin_34 : decode cX5_twin 34 = .ok (.aload_n 0, 1) := by decide +kernel
theorem dX5_twin_35 : decode cX5_twin 35 = .ok (.getfield 18, 3) := by decide +kernel
theorem dX5_twin_38 : decode cX5_twin 38 = .ok (.iload_n 2, 1) := by decide +kernel
theorem dX5_twin_39 : decode cX5_twin 39 = .ok (.aaload, 1) := by decide +kernel
theorem dX5_twin_40 : decode cX5_twin 40 = .ok (.invokestatic 66, 3) := by decide +kernel
theorem dX5_twin_43 : decode cX5_twin 43 = .ok (.aastore, 1) := by decide +kernel
theorem dX5_twin_44 : decode cX5_twin 44 = .ok (.aload_n 0, 1) := by decide +kernel
theorem dX5_twin_45 : decode cX5_twin 45 = .ok (.aload_n 0, 1) := by decide +kernel
theorem dX5_twin_46 : decode cX5_twin 46 = .ok (.getfield 18, 3) := by decide +kernel
theorem dX5_twin_49 : decode cX5_twin 49 = .ok (.iload_n 1, 1) := by decide +kernel
theorem dX5_twin_50 : decode cX5_twin 50 = .ok (.aaload, 1) := by decide +kernel
theorem dX5_twin_51 : decode cX5_twin 51 = .ok (.invokestatic 43, 3) := by decide +kernel
theorem dX5_twin_54 : decode cX5_twin 54 = .ok (.invokevirtual 63, 3) := by decide +kernel
theorem dX5_twin_57 : decode cX5_twin 57 = .ok (.ireturn, 1) := by decide +kernel
theorem dX5_reader_0 : decode cX5_reader 0 = .ok (.aload_n 0, 1) := by decide +kernel
theorem dX5_reader_1 : decode cX5_reader 1 = .ok (.iload_n 1, 1) := by decide +kernel
theorem dX5_reader_2 : decode cX5_reader 2 = .ok (.invokestatic 55, 3) := by decide +kernel
theorem dX5_reader_5 : decode cX5_reader 5 = .ok (.ifCond .eq 14, 3) := by decide +kernel
theorem dX5_reader_8 : decode cX5_reader 8 = .ok (.iload_n 2, 1) := by decide +kernel
theorem dX5_reader_9 : decode cX5_reader 9 = .ok (.invokestatic 55, 3) := by decide +kernel
theorem dX5_reader_12 : decode cX5_reader 12 = .ok (.ifCond .eq 7, 3) := by decide +kernel
theorem dX5_reader_15 : decode cX5_reader 15 = .ok (.iconst 1, 1) := by decide +kernel
theorem dX5_reader_16 : decode cX5_reader 16 = .ok (.goto 4, 3) := by decide +kernel
theorem dX5_reader_19 : decode cX5_reader 19 = .ok (.iconst 0, 1) := by decide +kernel
theorem dX5_reader_20 : decode cX5_reader 20 = .ok (.iconst 1, 1) := by decide +kernel
theorem dX5_reader_21 : decode cX5_reader 21 = .ok (.invokevirtual 59, 3) := by decide +kernel
theorem dX5_reader_24 : decode cX5_reader 24 = .ok (.ifCond .ne 5, 3) := by decide +kernel
theorem dX5_reader_27 : decode cX5_reader 27 = .ok (.iconst 0, 1) := by decide +kernel
theorem dX5_reader_28 : decode cX5_reader 28 = .ok (.ireturn, 1) := by decide +kernel
theorem dX5_reader_29 : decode cX5_reader 29 = .ok (.aload_n 0, 1) := by decide +kernel
theorem dX5_reader_30 : decode cX5_reader 30 = .ok (.getfield 18, 3) := by decide +kernel
theorem dX5_reader_33 : decode cX5_reader 33 = .ok (.iload_n 1, 1) := by decide +kernel
theorem dX5_reader_34 : decode cX5_reader 34 = .ok (.aload_n 0, 1) := by decide +kernel
theorem dX5_reader_35 : decode cX5_reader 35 = .ok (.getfield 18, 3) := by decide +kernel
theorem dX5_reader_38 : decode cX5_reader 38 = .ok (.iload_n 2, 1) := by decide +kernel
theorem dX5_reader_39 : decode cX5_reader 39 = .ok (.aaload, 1) := by decide +kernel
theorem dX5_reader_40 : decode cX5_reader 40 = .ok (.invokestatic 66, 3) := by decide +kernel
theorem dX5_reader_43 : decode cX5_reader 43 = .ok (.aastore, 1) := by decide +kernel
theorem dX5_reader_44 : decode cX5_reader 44 = .ok (.aload_n 0, 1) := by decide +kernel
theorem dX5_reader_45 : decode cX5_reader 45 = .ok (.getfield 18, 3) := by decide +kernel
theorem dX5_reader_48 : decode cX5_reader 48 = .ok (.iload_n 1, 1) := by decide +kernel
theorem dX5_reader_49 : decode cX5_reader 49 = .ok (.aaload, 1) := by decide +kernel
theorem dX5_reader_50 : decode cX5_reader 50 = .ok (.bipush 7, 2) := by decide +kernel
theorem dX5_reader_52 : decode cX5_reader 52 = .ok (.iconst 1, 1) := by decide +kernel
theorem dX5_reader_53 : decode cX5_reader 53 = .ok (.iastore, 1) := by decide +kernel
theorem dX5_reader_54 : decode cX5_reader 54 = .ok (.aload_n 0, 1) := by decide +kernel
theorem dX5_reader_55 : decode cX5_reader 55 = .ok (.aload_n 0, 1) := by decide +kernel
theorem dX5_reader_56 : decode cX5_reader 56 = .ok (.getfield 18, 3) := by decide +kernel
theorem dX5_reader_59 : decode cX5_reader 59 = .ok (.iload_n 1, 1) := by decide +kernel
theorem dX5_reader_60 : decode cX5_reader 60 = .ok (.aaload, 1) := by decide +kernel
theorem dX5_reader_61 : decode cX5_reader 61 = .ok (.invokestatic 43, 3) := by decide +kernel
theorem dX5_reader_64 : decode cX5_reader 64 = .ok (.invokevirtual 63, 3) := by decide +kernel
theorem dX5_reader_67 : decode cX5_reader 67 = .ok (.ireturn, 1) := by decide +kernel
theorem dX5_rest_0 : decode cX5_rest 0 = .ok (.aload_n 0, 1) := by decide +kernel
theorem dX5_rest_1 : decode cX5_rest 1 = .ok (.iload_n 1, 1) := by decide +kernel
theorem dX5_rest_2 : decode cX5_rest 2 = .ok (.invokestatic 55, 3) := by decide +kernel
theorem dX5_rest_5 : decode cX5_rest 5 = .ok (.ifCond .eq 14, 3) := by decide +kernel
theorem dX5_rest_8 : decode cX5_rest 8 = .ok (.iload_n 2, 1) := by decide +kernel
theorem dX5_rest_9 : decode cX5_rest 9 = .ok (.invokestatic 55, 3) := by decide +kernel
theorem dX5_rest_12 : decode cX5_rest 12 = .ok (.ifCond .eq 7, 3) := by decide +kernel
theorem dX5_rest_15 : decode cX5_rest 15 = .ok (.iconst 1, 1) := by decide +kernel
theorem dX5_rest_16 : decode cX5_rest 16 = .ok (.goto 4, 3) := by decide +kernel
theorem dX5_rest_19 : decode cX5_rest 19 = .ok (.iconst 0, 1) := by decide +kernel
theorem dX5_rest_20 : decode cX5_rest 20 = .ok (.iconst 1, 1) := by decide +kernel
theorem dX5_rest_21 : decode cX5_rest 21 = .ok (.invokevirtual 59, 3) := by decide +kernel
theorem dX5_rest_24 : decode cX5_rest 24 = .ok (.ifCond .ne 5, 3) := by decide +kernel
theorem dX5_rest_27 : decode cX5_rest 27 = .ok (.iconst 0, 1) := by decide +kernel
theorem dX5_rest_28 : decode cX5_rest 28 = .ok (.ireturn, 1) := by decide +kernel
theorem dX5_rest_29 : decode cX5_rest 29 = .ok (.aload_n 0, 1) := by decide +kernel
theorem dX5_rest_30 : decode cX5_rest 30 = .ok (.iload_n 1, 1) := by decide +kernel
theorem dX5_rest_31 : decode cX5_rest 31 = .ok (.aload_n 0, 1) := by decide +kernel
theorem dX5_rest_32 : decode cX5_rest 32 = .ok (.getfield 18, 3) := by decide +kernel
theorem dX5_rest_35 : decode cX5_rest 35 = .ok (.iload_n 2, 1) := by decide +kernel
theorem dX5_rest_36 : decode cX5_rest 36 = .ok (.aaload, 1) := by decide +kernel
theorem dX5_rest_37 : decode cX5_rest 37 = .ok (.aload_n 0, 1) := by decide +kernel
theorem dX5_rest_38 : decode cX5_rest 38 = .ok (.getfield 18, 3) := by decide +kernel
theorem dX5_rest_41 : decode cX5_rest 41 = .ok (.iload_n 2, 1) := by decide +kernel
theorem dX5_rest_42 : decode cX5_rest 42 = .ok (.aaload, 1) := by decide +kernel
theorem dX5_rest_43 : decode cX5_rest 43 = .ok (.iconst 4, 1) := by decide +kernel
theorem dX5_rest_44 : decode cX5_rest 44 = .ok (.iaload, 1) := by decide +kernel
theorem dX5_rest_45 : decode cX5_rest 45 = .ok (.aload_n 0, 1) := by decide +kernel
theorem dX5_rest_46 : decode cX5_rest 46 = .ok (.getfield 18, 3) := by decide +kernel
theorem dX5_rest_49 : decode cX5_rest 49 = .ok (.iload_n 2, 1) := by decide +kernel
theorem dX5_rest_50 : decode cX5_rest 50 = .ok (.aaload, 1) := by decide +kernel
theorem dX5_rest_51 : decode cX5_rest 51 = .ok (.invokestatic 43, 3) := by decide +kernel
theorem dX5_rest_54 : decode cX5_rest 54 = .ok (.invokevirtual 70, 3) := by decide +kernel
theorem dX5_rest_57 : decode cX5_rest 57 = .ok (.ireturn, 1) := by decide +kernel
theorem dX5_part_0 : decode cX5_part 0 = .ok (.aload_n 0, 1) := by decide +kernel
theorem dX5_part_1 : decode cX5_part 1 = .ok (.iload_n 1, 1) := by decide +kernel
theorem dX5_part_2 : decode cX5_part 2 = .ok (.invokestatic 55, 3) := by decide +kernel
theorem dX5_part_5 : decode cX5_part 5 = .ok (.ifCond .eq 14, 3) := by decide +kernel
theorem dX5_part_8 : decode cX5_part 8 = .ok (.iload_n 2, 1) := by decide +kernel
theorem dX5_part_9 : decode cX5_part 9 = .ok (.invokestatic 55, 3) := by decide +kernel
theorem dX5_part_12 : decode cX5_part 12 = .ok (.ifCond .eq 7, 3) := by decide +kernel
theorem dX5_part_15 : decode cX5_part 15 = .ok (.iconst 1, 1) := by decide +kernel
theorem dX5_part_16 : decode cX5_part 16 = .ok (.goto 4, 3) := by decide +kernel
theorem dX5_part_19 : decode cX5_part 19 = .ok (.iconst 0, 1) := by decide +kernel
theorem dX5_part_20 : decode cX5_part 20 = .ok (.iconst 1, 1) := by decide +kernel
theorem dX5_part_21 : decode cX5_part 21 = .ok (.invokevirtual 59, 3) := by decide +kernel
theorem dX5_part_24 : decode cX5_part 24 = .ok (.ifCond .ne 5, 3) := by decide +kernel
theorem dX5_part_27 : decode cX5_part 27 = .ok (.iconst 0, 1) := by decide +kernel
theorem dX5_part_28 : decode cX5_part 28 = .ok (.ireturn, 1) := by decide +kernel
theorem dX5_part_29 : decode cX5_part 29 = .ok (.aload_n 0, 1) := by decide +kernel
theorem dX5_part_30 : decode cX5_part 30 = .ok (.getfield 18, 3) := by decide +kernel
theorem dX5_part_33 : decode cX5_part 33 = .ok (.iload_n 2, 1) := by decide +kernel
theorem dX5_part_34 : decode cX5_part 34 = .ok (.aaload, 1) := by decide +kernel
theorem dX5_part_35 : decode cX5_part 35 = .ok (.iconst 5, 1) := by decide +kernel
theorem dX5_part_36 : decode cX5_part 36 = .ok (.iaload, 1) := by decide +kernel
theorem dX5_part_37 : decode cX5_part 37 = .ok (.istore 5, 2) := by decide +kernel
theorem dX5_part_39 : decode cX5_part 39 = .ok (.iload_n 3, 1) := by decide +kernel
theorem dX5_part_40 : decode cX5_part 40 = .ok (.iconst 0, 1) := by decide +kernel
theorem dX5_part_41 : decode cX5_part 41 = .ok (.iload 5, 2) := by decide +kernel
theorem dX5_part_43 : decode cX5_part 43 = .ok (.invokestatic 36, 3) := by decide +kernel
theorem dX5_part_46 : decode cX5_part 46 = .ok (.ifCond .eq 16, 3) := by decide +kernel
theorem dX5_part_49 : decode cX5_part 49 = .ok (.iload 4, 2) := by decide +kernel
theorem dX5_part_51 : decode cX5_part 51 = .ok (.iconst 0, 1) := by decide +kernel
theorem dX5_part_52 : decode cX5_part 52 = .ok (.iload 5, 2) := by decide +kernel
theorem dX5_part_54 : decode cX5_part 54 = .ok (.iload_n 3, 1) := by decide +kernel
theorem dX5_part_55 : decode cX5_part 55 = .ok (.isub, 1) := by decide +kernel
theorem dX5_part_56 : decode cX5_part 56 = .ok (.invokestatic 36, 3) := by decide +kernel
theorem dX5_part_59 : decode cX5_part 59 = .ok (.ifCond .ne 9, 3) := by decide +kernel
theorem dX5_part_62 : decode cX5_part 62 = .ok (.aload_n 0, 1) := by decide +kernel
theorem dX5_part_63 : decode cX5_part 63 = .ok (.iconst 5, 1) := by decide +kernel
theorem dX5_part_64 : decode cX5_part 64 = .ok (.invokevirtual 47, 3) := by decide +kernel
theorem dX5_part_67 : decode cX5_part 67 = .ok (.ireturn, 1) := by decide +kernel
theorem dX5_part_68 : decode cX5_part 68 = .ok (.aload_n 0, 1) := by decide +kernel
theorem dX5_part_69 : decode cX5_part 69 = .ok (.iload_n 1, 1) := by decide +kernel
theorem dX5_part_70 : decode cX5_part 70 = .ok (.aload_n 0, 1) := by decide +kernel
theorem dX5_part_71 : decode cX5_part 71 = .ok (.getfield 18, 3) := by decide +kernel
theorem dX5_part_74 : decode cX5_part 74 = .ok (.iload_n 2, 1) := by decide +kernel
theorem dX5_part_75 : decode cX5_part 75 = .ok (.aaload, 1) := by decide +kernel
theorem dX5_part_76 : decode cX5_part 76 = .ok (.iload_n 3, 1) := by decide +kernel
theorem dX5_part_77 : decode cX5_part 77 = .ok (.iload 4, 2) := by decide +kernel
theorem dX5_part_79 : decode cX5_part 79 = .ok (.invokevirtual 70, 3) := by decide +kernel
theorem dX5_part_82 : decode cX5_part 82 = .ok (.ireturn, 1) := by decide +kernel
theorem dX5_exchange_0 : decode cX5_exchange 0 = .ok (.aload_n 0, 1) := by decide +kernel
theorem dX5_exchange_1 : decode cX5_exchange 1 = .ok (.iload_n 1, 1) := by decide +kernel
theorem dX5_exchange_2 : decode cX5_exchange 2 = .ok (.invokestatic 55, 3) := by decide +kernel
theorem dX5_exchange_5 : decode cX5_exchange 5 = .ok (.ifCond .eq 14, 3) := by decide +kernel
theorem dX5_exchange_8 : decode cX5_exchange 8 = .ok (.iload_n 2, 1) := by decide +kernel
theorem dX5_exchange_9 : decode cX5_exchange 9 = .ok (.invokestatic 55, 3) := by decide +kernel
theorem dX5_exchange_12 : decode cX5_exchange 12 = .ok (.ifCond .eq 7, 3) := by decide +kernel
theorem dX5_exchange_15 : decode cX5_exchange 15 = .ok (.iconst 1, 1) := by decide +kernel
theorem dX5_exchange_16 : decode cX5_exchange 16 = .ok (.goto 4, 3) := by decide +kernel
theorem dX5_exchange_19 : decode cX5_exchange 19 = .ok (.iconst 0, 1) := by decide +kernel
theorem dX5_exchange_20 : decode cX5_exchange 20 = .ok (.iconst 1, 1) := by decide +kernel
theorem dX5_exchange_21 : decode cX5_exchange 21 = .ok (.invokevirtual 59, 3) := by decide +kernel
theorem dX5_exchange_24 : decode cX5_exchange 24 = .ok (.ifCond .ne 5, 3) := by decide +kernel
theorem dX5_exchange_27 : decode cX5_exchange 27 = .ok (.iconst 0, 1) := by decide +kernel
theorem dX5_exchange_28 : decode cX5_exchange 28 = .ok (.ireturn, 1) := by decide +kernel
theorem dX5_exchange_29 : decode cX5_exchange 29 = .ok (.aload_n 0, 1) := by decide +kernel
theorem dX5_exchange_30 : decode cX5_exchange 30 = .ok (.getfield 18, 3) := by decide +kernel
theorem dX5_exchange_33 : decode cX5_exchange 33 = .ok (.iload_n 1, 1) := by decide +kernel
theorem dX5_exchange_34 : decode cX5_exchange 34 = .ok (.aaload, 1) := by decide +kernel
theorem dX5_exchange_35 : decode cX5_exchange 35 = .ok (.astore_n 3, 1) := by decide +kernel
theorem dX5_exchange_36 : decode cX5_exchange 36 = .ok (.aload_n 0, 1) := by decide +kernel
theorem dX5_exchange_37 : decode cX5_exchange 37 = .ok (.getfield 18, 3) := by decide +kernel
theorem dX5_exchange_40 : decode cX5_exchange 40 = .ok (.iload_n 1, 1) := by decide +kernel
theorem dX5_exchange_41 : decode cX5_exchange 41 = .ok (.aload_n 0, 1) := by decide +kernel
theorem dX5_exchange_42 : decode cX5_exchange 42 = .ok (.getfield 18, 3) := by decide +kernel
theorem dX5_exchange_45 : decode cX5_exchange 45 = .ok (.iload_n 2, 1) := by decide +kernel
theorem dX5_exchange_46 : decode cX5_exchange 46 = .ok (.aaload, 1) := by decide +kernel
theorem dX5_exchange_47 : decode cX5_exchange 47 = .ok (.aastore, 1) := by decide +kernel
theorem dX5_exchange_48 : decode cX5_exchange 48 = .ok (.aload_n 0, 1) := by decide +kernel
theorem dX5_exchange_49 : decode cX5_exchange 49 = .ok (.getfield 18, 3) := by decide +kernel
theorem dX5_exchange_52 : decode cX5_exchange 52 = .ok (.iload_n 2, 1) := by decide +kernel
theorem dX5_exchange_53 : decode cX5_exchange 53 = .ok (.aload_n 3, 1) := by decide +kernel
theorem dX5_exchange_54 : decode cX5_exchange 54 = .ok (.aastore, 1) := by decide +kernel
theorem dX5_exchange_55 : decode cX5_exchange 55 = .ok (.aload_n 0, 1) := by decide +kernel
theorem dX5_exchange_56 : decode cX5_exchange 56 = .ok (.aload_n 0, 1) := by decide +kernel
theorem dX5_exchange_57 : decode cX5_exchange 57 = .ok (.getfield 18, 3) := by decide +kernel
theorem dX5_exchange_60 : decode cX5_exchange 60 = .ok (.iload_n 1, 1) := by decide +kernel
theorem dX5_exchange_61 : decode cX5_exchange 61 = .ok (.aaload, 1) := by decide +kernel
theorem dX5_exchange_62 : decode cX5_exchange 62 = .ok (.iconst 4, 1) := by decide +kernel
theorem dX5_exchange_63 : decode cX5_exchange 63 = .ok (.iaload, 1) := by decide +kernel
theorem dX5_exchange_64 : decode cX5_exchange 64 = .ok (.invokevirtual 63, 3) := by decide +kernel
theorem dX5_exchange_67 : decode cX5_exchange 67 = .ok (.ireturn, 1) := by decide +kernel
set_option maxRecDepth 20000 in
theorem c_X5_over (l : Launch) (G : zG) {M : zM} {ro : Int32} {ba : Int32} {sa : Int32} {cp : Int32}    : z_Mr l G qX5_over (z_rm 1 1 8) [.int ro, .int ba, .int sa, .int cp] M (fun r M' => ∃ q : Nat, M q = none ∧ r = q ∧ M' = z_up M q (cPm G ro ba sa cp 0 cp (-1) 0))  := by
  refine z_Mr_of _ (plainFor_of_name rfl) rfl (by first | exact Or.inl ⟨_, rfl⟩ | exact Or.inr ⟨_, rfl⟩) (Nat.le_of_ble_eq_true rfl) (fun X hl hG hnm C ret => ?_)
  subst hl; subst hG
  have C : z_C X cX5_over RX5 4 (z_rm 1 1 8) := C
  show z_W X M 0 0 0 [(0, .int ro), (1, .int ba), (2, .int sa), (3, .int cp)] []
  refine z_bipush C (v := 8) dX5_over_0 (by decide) ?_
  refine z_newI (N := 8) C kw44 (by decide) (by decide) (by decide) (by decide) (by decide) dX5_over_2 (fun q2 hq2 => ?_)
  refine z_kn (k' := 1) (n' := 8) rfl rfl ?_
  refine z_dup C dX5_over_4 rfl ?_
  refine z_iconst C (v := 0) dX5_over_5 (by decide) ?_
  refine z_iload_n C dX5_over_6 rfl 0 rfl ?_
  refine z_iast (j := 0) C (z_up_s _ _ _) (z_inL (by decide)) (by decide) dX5_over_7 ?_
  rw [z_up_up]
  refine z_dup C dX5_over_8 rfl ?_
  refine z_iconst C (v := 1) dX5_over_9 (by decide) ?_
  refine z_iload_n C dX5_over_10 rfl 1 rfl ?_
  refine z_iast (j := 1) C (z_up_s _ _ _) (z_inL (by decide)) (by decide) dX5_over_11 ?_
  rw [z_up_up]
  refine z_dup C dX5_over_12 rfl ?_
  refine z_iconst C (v := 2) dX5_over_13 (by decide) ?_
  refine z_iload_n C dX5_over_14 rfl 2 rfl ?_
  refine z_iast (j := 2) C (z_up_s _ _ _) (z_inL (by decide)) (by decide) dX5_over_15 ?_
  rw [z_up_up]
  refine z_dup C dX5_over_16 rfl ?_
  refine z_iconst C (v := 3) dX5_over_17 (by decide) ?_
  refine z_iload_n C dX5_over_18 rfl 3 rfl ?_
  refine z_iast (j := 3) C (z_up_s _ _ _) (z_inL (by decide)) (by decide) dX5_over_19 ?_
  rw [z_up_up]
  refine z_dup C dX5_over_20 rfl ?_
  refine z_iconst C (v := 4) dX5_over_21 (by decide) ?_
  refine z_iconst C (v := 0) dX5_over_22 (by decide) ?_
  refine z_iast (j := 4) C (z_up_s _ _ _) (z_inL (by decide)) (by decide) dX5_over_23 ?_
  rw [z_up_up]
  refine z_dup C dX5_over_24 rfl ?_
  refine z_iconst C (v := 5) dX5_over_25 (by decide) ?_
  refine z_iload_n C dX5_over_26 rfl 3 rfl ?_
  refine z_iast (j := 5) C (z_up_s _ _ _) (z_inL (by decide)) (by decide) dX5_over_27 ?_
  rw [z_up_up]
  refine z_dup C dX5_over_28 rfl ?_
  refine z_bipush C (v := 6) dX5_over_29 (by decide) ?_
  refine z_iconst C (v := (-1)) dX5_over_31 (by decide) ?_
  refine z_iast (j := 6) C (z_up_s _ _ _) (z_inL (by decide)) (by decide) dX5_over_32 ?_
  rw [z_up_up]
  refine z_dup C dX5_over_33 rfl ?_
  refine z_bipush C (v := 7) dX5_over_34 (by decide) ?_
  refine z_iconst C (v := 0) dX5_over_36 (by decide) ?_
  refine z_iast (j := 7) C (z_up_s _ _ _) (z_inL (by decide)) (by decide) dX5_over_37 ?_
  rw [z_up_up]
  refine ret dX5_over_38 ?_ (by decide) (by decide)
  exact ⟨_, hq2, rfl, rfl⟩
set_option maxRecDepth 20000 in
theorem c_X5_like (l : Launch) (G : zG) {M : zM} {p : Nat} {ro : Int32} {ba : Int32} {sa : Int32} {cp : Int32} {po : Int32} {li : Int32} {mk : Int32} {rd : Int32}  (h_p : M p = some (cPm G ro ba sa cp po li mk rd))  : z_Mr l G qX5_like (z_rm 1 1 8) [.ref p] M (fun r M' => ∃ q : Nat, M q = none ∧ r = q ∧ M' = z_up M q (cPm G ro ba sa cp po li mk rd))  := by
  refine z_Mr_of _ (plainFor_of_name rfl) rfl (by first | exact Or.inl ⟨_, rfl⟩ | exact Or.inr ⟨_, rfl⟩) (Nat.le_of_ble_eq_true rfl) (fun X hl hG hnm C ret => ?_)
  subst hl; subst hG
  have C : z_C X cX5_like RX5 3 (z_rm 1 1 8) := C
  show z_W X M 0 0 0 [(0, .ref p)] []
  refine z_bipush C (v := 8) dX5_like_0 (by decide) ?_
  refine z_newI (N := 8) C kw44 (by decide) (by decide) (by decide) (by decide) (by decide) dX5_like_2 (fun q2 hq2 => ?_)
  refine z_kn (k' := 1) (n' := 8) rfl rfl ?_
  refine z_astore_n (lv' := [(1, .ref q2), (0, .ref p)]) C dX5_like_4 rfl (by decide) rfl ?_
  refine z_iconst C (v := 0) dX5_like_5 (by decide) ?_
  refine z_istore_n (lv' := [(2, .int 0), (1, .ref q2), (0, .ref p)]) C dX5_like_6 rfl (by decide) rfl ?_
  refine z_iload_n C dX5_like_7 rfl 0 rfl ?_
  refine z_bipush C (v := 8) dX5_like_8 (by decide) ?_
  refine z_icmp_ge C (tgt := 25) dX5_like_10 (by decide) (fun c10 => absurd c10 (by decide)) (fun _ => ?_)
  refine z_aload_n C dX5_like_13 rfl 1 rfl ?_
  refine z_iload_n C dX5_like_14 rfl 0 rfl ?_
  refine z_aload_n C dX5_like_15 rfl 2 rfl ?_
  refine z_iload_n C dX5_like_16 rfl 0 rfl ?_
  refine z_pl0 C ((z_up_n _ _ (z_neN h_p hq2)).trans h_p) dX5_like_17 ?_
  refine z_iast (j := 0) C (z_up_s _ _ _) (z_inL (by decide)) (by decide) dX5_like_18 ?_
  rw [z_up_up]
  refine z_iinc (v := 1) (lv' := [(2, .int 1), (1, .ref q2), (0, .ref p)]) C dX5_like_19 0 rfl (by decide) (by decide) rfl ?_
  refine z_goto C (tgt := 7) dX5_like_22 (by decide) ?_
  refine z_iload_n C dX5_like_7 rfl 0 rfl ?_
  refine z_bipush C (v := 8) dX5_like_8 (by decide) ?_
  refine z_icmp_ge C (tgt := 25) dX5_like_10 (by decide) (fun c10 => absurd c10 (by decide)) (fun _ => ?_)
  refine z_aload_n C dX5_like_13 rfl 1 rfl ?_
  refine z_iload_n C dX5_like_14 rfl 0 rfl ?_
  refine z_aload_n C dX5_like_15 rfl 2 rfl ?_
  refine z_iload_n C dX5_like_16 rfl 0 rfl ?_
  refine z_pl1 C ((z_up_n _ _ (z_neN h_p hq2)).trans h_p) dX5_like_17 ?_
  refine z_iast (j := 1) C (z_up_s _ _ _) (z_inL (by decide)) (by decide) dX5_like_18 ?_
  rw [z_up_up]
  refine z_iinc (v := 2) (lv' := [(2, .int 2), (1, .ref q2), (0, .ref p)]) C dX5_like_19 0 rfl (by decide) (by decide) rfl ?_
  refine z_goto C (tgt := 7) dX5_like_22 (by decide) ?_
  refine z_iload_n C dX5_like_7 rfl 0 rfl ?_
  refine z_bipush C (v := 8) dX5_like_8 (by decide) ?_
  refine z_icmp_ge C (tgt := 25) dX5_like_10 (by decide) (fun c10 => absurd c10 (by decide)) (fun _ => ?_)
  refine z_aload_n C dX5_like_13 rfl 1 rfl ?_
  refine z_iload_n C dX5_like_14 rfl 0 rfl ?_
  refine z_aload_n C dX5_like_15 rfl 2 rfl ?_
  refine z_iload_n C dX5_like_16 rfl 0 rfl ?_
  refine z_pl2 C ((z_up_n _ _ (z_neN h_p hq2)).trans h_p) dX5_like_17 ?_
  refine z_iast (j := 2) C (z_up_s _ _ _) (z_inL (by decide)) (by decide) dX5_like_18 ?_
  rw [z_up_up]
  refine z_iinc (v := 3) (lv' := [(2, .int 3), (1, .ref q2), (0, .ref p)]) C dX5_like_19 0 rfl (by decide) (by decide) rfl ?_
  refine z_goto C (tgt := 7) dX5_like_22 (by decide) ?_
  refine z_iload_n C dX5_like_7 rfl 0 rfl ?_
  refine z_bipush C (v := 8) dX5_like_8 (by decide) ?_
  refine z_icmp_ge C (tgt := 25) dX5_like_10 (by decide) (fun c10 => absurd c10 (by decide)) (fun _ => ?_)
  refine z_aload_n C dX5_like_13 rfl 1 rfl ?_
  refine z_iload_n C dX5_like_14 rfl 0 rfl ?_
  refine z_aload_n C dX5_like_15 rfl 2 rfl ?_
  refine z_iload_n C dX5_like_16 rfl 0 rfl ?_
  refine z_pl3 C ((z_up_n _ _ (z_neN h_p hq2)).trans h_p) dX5_like_17 ?_
  refine z_iast (j := 3) C (z_up_s _ _ _) (z_inL (by decide)) (by decide) dX5_like_18 ?_
  rw [z_up_up]
  refine z_iinc (v := 4) (lv' := [(2, .int 4), (1, .ref q2), (0, .ref p)]) C dX5_like_19 0 rfl (by decide) (by decide) rfl ?_
  refine z_goto C (tgt := 7) dX5_like_22 (by decide) ?_
  refine z_iload_n C dX5_like_7 rfl 0 rfl ?_
  refine z_bipush C (v := 8) dX5_like_8 (by decide) ?_
  refine z_icmp_ge C (tgt := 25) dX5_like_10 (by decide) (fun c10 => absurd c10 (by decide)) (fun _ => ?_)
  refine z_aload_n C dX5_like_13 rfl 1 rfl ?_
  refine z_iload_n C dX5_like_14 rfl 0 rfl ?_
  refine z_aload_n C dX5_like_15 rfl 2 rfl ?_
  refine z_iload_n C dX5_like_16 rfl 0 rfl ?_
  refine z_pl4 C ((z_up_n _ _ (z_neN h_p hq2)).trans h_p) dX5_like_17 ?_
  refine z_iast (j := 4) C (z_up_s _ _ _) (z_inL (by decide)) (by decide) dX5_like_18 ?_
  rw [z_up_up]
  refine z_iinc (v := 5) (lv' := [(2, .int 5), (1, .ref q2), (0, .ref p)]) C dX5_like_19 0 rfl (by decide) (by decide) rfl ?_
  refine z_goto C (tgt := 7) dX5_like_22 (by decide) ?_
  refine z_iload_n C dX5_like_7 rfl 0 rfl ?_
  refine z_bipush C (v := 8) dX5_like_8 (by decide) ?_
  refine z_icmp_ge C (tgt := 25) dX5_like_10 (by decide) (fun c10 => absurd c10 (by decide)) (fun _ => ?_)
  refine z_aload_n C dX5_like_13 rfl 1 rfl ?_
  refine z_iload_n C dX5_like_14 rfl 0 rfl ?_
  refine z_aload_n C dX5_like_15 rfl 2 rfl ?_
  refine z_iload_n C dX5_like_16 rfl 0 rfl ?_
  refine z_pl5 C ((z_up_n _ _ (z_neN h_p hq2)).trans h_p) dX5_like_17 ?_
  refine z_iast (j := 5) C (z_up_s _ _ _) (z_inL (by decide)) (by decide) dX5_like_18 ?_
  rw [z_up_up]
  refine z_iinc (v := 6) (lv' := [(2, .int 6), (1, .ref q2), (0, .ref p)]) C dX5_like_19 0 rfl (by decide) (by decide) rfl ?_
  refine z_goto C (tgt := 7) dX5_like_22 (by decide) ?_
  refine z_iload_n C dX5_like_7 rfl 0 rfl ?_
  refine z_bipush C (v := 8) dX5_like_8 (by decide) ?_
  refine z_icmp_ge C (tgt := 25) dX5_like_10 (by decide) (fun c10 => absurd c10 (by decide)) (fun _ => ?_)
  refine z_aload_n C dX5_like_13 rfl 1 rfl ?_
  refine z_iload_n C dX5_like_14 rfl 0 rfl ?_
  refine z_aload_n C dX5_like_15 rfl 2 rfl ?_
  refine z_iload_n C dX5_like_16 rfl 0 rfl ?_
  refine z_pl6 C ((z_up_n _ _ (z_neN h_p hq2)).trans h_p) dX5_like_17 ?_
  refine z_iast (j := 6) C (z_up_s _ _ _) (z_inL (by decide)) (by decide) dX5_like_18 ?_
  rw [z_up_up]
  refine z_iinc (v := 7) (lv' := [(2, .int 7), (1, .ref q2), (0, .ref p)]) C dX5_like_19 0 rfl (by decide) (by decide) rfl ?_
  refine z_goto C (tgt := 7) dX5_like_22 (by decide) ?_
  refine z_iload_n C dX5_like_7 rfl 0 rfl ?_
  refine z_bipush C (v := 8) dX5_like_8 (by decide) ?_
  refine z_icmp_ge C (tgt := 25) dX5_like_10 (by decide) (fun c10 => absurd c10 (by decide)) (fun _ => ?_)
  refine z_aload_n C dX5_like_13 rfl 1 rfl ?_
  refine z_iload_n C dX5_like_14 rfl 0 rfl ?_
  refine z_aload_n C dX5_like_15 rfl 2 rfl ?_
  refine z_iload_n C dX5_like_16 rfl 0 rfl ?_
  refine z_pl7 C ((z_up_n _ _ (z_neN h_p hq2)).trans h_p) dX5_like_17 ?_
  refine z_iast (j := 7) C (z_up_s _ _ _) (z_inL (by decide)) (by decide) dX5_like_18 ?_
  rw [z_up_up]
  refine z_iinc (v := 8) (lv' := [(2, .int 8), (1, .ref q2), (0, .ref p)]) C dX5_like_19 0 rfl (by decide) (by decide) rfl ?_
  refine z_goto C (tgt := 7) dX5_like_22 (by decide) ?_
  refine z_iload_n C dX5_like_7 rfl 0 rfl ?_
  refine z_bipush C (v := 8) dX5_like_8 (by decide) ?_
  refine z_icmp_ge C (tgt := 25) dX5_like_10 (by decide) (fun _ => ?_) (fun c10 => absurd (by decide) c10)
  refine z_aload_n C dX5_like_25 rfl 1 rfl ?_
  refine ret dX5_like_26 ?_ (by decide) (by decide)
  exact ⟨_, hq2, rfl, rfl⟩
theorem lp_made {X : zX} {rm : Room} {M : zM} {G : zG} (hG : z_G X = G) (C : z_C X cX5_made RX5 4 rm) {m q tp nt N k n pn td : Nat} {ft : Nat → Int32} {ro ac kn th ln : Int32} (h_m : M m = some (cMd tp ro pn td ac kn th)) (h_tp : M tp = some (aI G nt ft)) (hq : M q = none) (hN : nt ≤ N) (h31 : N < 2 ^ 31)
    (kk : z_W X (z_up M q (aI G N (z_cp ft nt))) k n 36 [(3, .int (nI nt)), (2, .ref q), (0, .ref m), (1, .int ln)] []) : ∀ d j : Nat, j + d = nt → z_W X (z_up M q (aI G N (z_cp ft j))) k n 12 [(3, .int (nI j)), (2, .ref q), (0, .ref m), (1, .int ln)] [] := by
  subst hG
  intro d
  induction d with
  | zero =>
    intro j hj
    refine z_iload_n C dX5_made_12 rfl 0 rfl ?_
    refine z_aload_n C dX5_made_13 rfl 2 rfl ?_
    refine gf_X5_9 C ((z_up_n _ _ (z_neN h_m hq)).trans h_m) dX5_made_14 ?_
    refine z_alenI C (v := Int32.ofNat nt) ((z_up_n _ _ (z_neN h_tp hq)).trans h_tp) rfl dX5_made_17 ?_
    refine z_icmp_ge C (tgt := 36) dX5_made_18 (by decide) (fun _ => ?_) (fun c18 => absurd (nI_le (a := nt) (b := j) (by omega) (by omega)) c18)
    rw [show j = nt by omega]
    exact kk
  | succ d ih =>
    intro j hj
    refine z_iload_n C dX5_made_12 rfl 0 rfl ?_
    refine z_aload_n C dX5_made_13 rfl 2 rfl ?_
    refine gf_X5_9 C ((z_up_n _ _ (z_neN h_m hq)).trans h_m) dX5_made_14 ?_
    refine z_alenI C (v := Int32.ofNat nt) ((z_up_n _ _ (z_neN h_tp hq)).trans h_tp) rfl dX5_made_17 ?_
    refine z_icmp_ge C (tgt := 36) dX5_made_18 (by decide) (fun c18 => absurd c18 (nI_ge (a := j) (b := nt) (by omega) (by omega))) (fun _ => ?_)
    refine z_aload_n C dX5_made_21 rfl 1 rfl ?_
    refine z_iload_n C dX5_made_22 rfl 0 rfl ?_
    refine z_aload_n C dX5_made_23 rfl 2 rfl ?_
    refine gf_X5_9 C ((z_up_n _ _ (z_neN h_m hq)).trans h_m) dX5_made_24 ?_
    refine z_iload_n C dX5_made_27 rfl 0 rfl ?_
    refine z_iald (j := j) C ((z_up_n _ _ (z_neN h_tp hq)).trans h_tp) (vp_in_nI (by omega) (by omega)) (nI_clamp (by omega)) dX5_made_28 ?_
    refine z_iast (j := j) C (z_up_s _ _ _) (vp_in_nI (by omega) (by omega)) (nI_clamp (by omega)) dX5_made_29 ?_
    rw [z_up_up]
    refine z_iinc (v := nI (j + 1)) (lv' := [(3, .int (nI (j + 1))), (2, .ref q), (0, .ref m), (1, .int ln)]) C dX5_made_30 0 rfl (nI_1 j) (by decide) rfl ?_
    refine z_goto C (tgt := 12) dX5_made_33 (by decide) ?_
    rw [z_cpS]
    exact ih (j + 1) (by omega)
set_option maxRecDepth 20000 in
theorem c_X5_made (l : Launch) (G : zG) {M : zM} {m : Nat} {ln : Int32} {tp : Nat} {nr : Int32} {pn : Nat} {td : Nat} {ac : Int32} {kn : Int32} {th : Int32} {nt : Nat} {ft : Nat → Int32} {l9 : Nat} (h_m : M m = some (cMd tp nr pn td ac kn th)) (h_tp : M tp = some (aI G nt ft)) (h_ln : ln = nI l9) (h_l9 : l9 ≤ 12) (h_nt : 16 ≤ nt ∧ nt < 900) : z_Mr l G qX5_made (z_rm 2 2 1000) [.ref m, .int ln] M (fun r M' => ∃ q7 : Nat, (M) q7 = none ∧ ∃ q_47 : Nat, (z_up M q7 (aI G (nt + l9) (z_cp ft nt))) q_47 = none ∧ r = q_47 ∧ M' = z_up (z_up (z_up M q7 (aI G (nt + l9) (z_cp ft nt))) q_47 (cPm G nr (Int32.ofNat nt) 0 ln 0 ln (-1) 0)) m (cMd q7 (nr + 1) pn td ac kn th))  := by
  refine z_Mr_of _ (plainFor_of_name rfl) rfl (by first | exact Or.inl ⟨_, rfl⟩ | exact Or.inr ⟨_, rfl⟩) (Nat.le_of_ble_eq_true rfl) (fun X hl hG hnm C ret => ?_)
  subst hl; subst hG
  have C : z_C X cX5_made RX5 4 (z_rm 2 2 1000) := C
  show z_W X M 0 0 0 [(0, .ref m), (1, .int ln)] []
  obtain ⟨h_n1, h_n2⟩ := h_nt
  refine z_aload_n C dX5_made_0 rfl 0 rfl ?_
  refine gf_X5_9 C h_m dX5_made_1 ?_
  refine z_alenI C (v := Int32.ofNat nt) h_tp rfl dX5_made_4 ?_
  refine z_iload_n C dX5_made_5 rfl 1 rfl ?_
  refine z_iadd C dX5_made_6 ?_
  refine z_newI (N := nt + l9) C kw44 (by rw [h_ln]; exact (nI_add nt l9).symm ▸ nI_pos (by omega)) (by rw [h_ln]; exact (congrArg Int32.toNatClampNeg (nI_add nt l9)).trans (nI_clamp (by omega))) (by omega) (by decide) (show 0 + (nt + l9) ≤ 1000 by omega) dX5_made_7 (fun q7 hq7 => ?_)
  refine z_kn (k' := 1) (n' := 0 + (nt + l9)) rfl rfl ?_
  refine z_astore_n (lv' := [(2, .ref q7), (0, .ref m), (1, .int ln)]) C dX5_made_9 rfl (by decide) rfl ?_
  refine z_iconst C (v := 0) dX5_made_10 (by decide) ?_
  refine z_istore_n (lv' := [(3, .int 0), (2, .ref q7), (0, .ref m), (1, .int ln)]) C dX5_made_11 rfl (by decide) rfl ?_
  refine z_at (M' := z_up M q7 (aI (z_G X) (nt + l9) (z_cp ft 0))) (lv' := [(3, .int (nI 0)), (2, .ref q7), (0, .ref m), (1, .int ln)]) (by rw [z_cp0]) (by rw [nI_0]) rfl ?_
  refine lp_made rfl C h_m h_tp hq7 (by omega) (by omega) ?_ nt 0 (by omega)
  refine z_aload_n C dX5_made_36 rfl 2 rfl ?_
  refine gf_X5_13 C ((z_up_n _ _ (z_neN h_m hq7)).trans h_m) dX5_made_37 ?_
  refine z_aload_n C dX5_made_40 rfl 2 rfl ?_
  refine gf_X5_9 C ((z_up_n _ _ (z_neN h_m hq7)).trans h_m) dX5_made_41 ?_
  refine z_alenI C (v := Int32.ofNat nt) ((z_up_n _ _ (z_neN h_tp hq7)).trans h_tp) rfl dX5_made_44 ?_
  refine z_iconst C (v := 0) dX5_made_45 (by decide) ?_
  refine z_iload_n C dX5_made_46 rfl 3 rfl ?_
  refine z_callSr (rest := []) (k' := 2) (n' := 0 + (nt + l9) + 8) C (c_X5_over (z_l X) (z_G X) ) (cs_X5_25 C (by decide)) rfl rfl (Nat.le_of_ble_eq_true rfl) rfl rfl (by decide) (show 0 + (nt + l9) + 8 ≤ 1000 by omega) dX5_made_47 (fun x47 M' hq => ?_)
  obtain ⟨q_47, hq_47, hr47, rfl⟩ := hq
  rw [hr47]
  refine z_astore_n (lv' := [(3, .ref q_47), (2, .ref q7), (0, .ref m), (1, .int ln)]) C dX5_made_50 rfl (by decide) rfl ?_
  refine z_aload_n C dX5_made_51 rfl 2 rfl ?_
  refine z_aload_n C dX5_made_52 rfl 1 rfl ?_
  refine pf_X5_9 C ((z_up_n _ _ (z_neN ((z_up_n _ _ (z_neN h_m hq7)).trans h_m) hq_47)).trans ((z_up_n _ _ (z_neN h_m hq7)).trans h_m)) dX5_made_53 ?_
  refine z_aload_n C dX5_made_56 rfl 2 rfl ?_
  refine z_dup C dX5_made_57 rfl ?_
  refine gf_X5_13 C (z_up_s _ _ _) dX5_made_58 ?_
  refine z_iconst C (v := 1) dX5_made_61 (by decide) ?_
  refine z_iadd C dX5_made_62 ?_
  refine pg_X5_13 C dX5_made_63 ?_
  refine z_aload_n C dX5_made_66 rfl 0 rfl ?_
  exact ret dX5_made_67 (⟨q7, hq7, q_47, hq_47, rfl, rfl⟩) (by decide) (show 0 + (nt + l9) + 8 ≤ 1000 by omega)
set_option maxRecDepth 20000 in
theorem c_X5_cut (l : Launch) (G : zG) {M : zM} {m : Nat} {pane : Int32} {p : Nat} {ix0 : Int32} {mn : Int32} {tp : Nat} {nr : Int32} {pn : Nat} {td : Nat} {ac : Int32} {kn : Int32} {th : Int32} {fp : Nat → Option Nat} {ro : Int32} {ba : Int32} {sa : Int32} {cp : Int32} {po : Int32} {li : Int32} {mk : Int32} {rd : Int32} {i : Nat} (h_m : M m = some (cMd tp nr pn td ac kn th)) (h_pn : M pn = some (aII G 6 fp)) (h_p : M p = some (cPm G ro ba sa cp po li mk rd)) (h_ip : vp_in pane 6) (h_ij : pane.toNatClampNeg = i) : z_Mi l G qX5_cut (z_rm 2 1 8) [.ref m, .int pane, .ref p, .int ix0, .int mn] M (fun r M' => ∃ q_13 : Nat, (M) q_13 = none ∧ r = mn ∧ M' = z_up (z_up (z_up M q_13 (cPm G ro ba (sa + ix0) mn 0 mn (-1) rd)) pn (aII G 6 (va_up fp i (some q_13)))) m (cMd tp nr pn td (ac + 1) kn th))  := by
  refine z_Mi_of _ (plainFor_of_name rfl) rfl (Nat.le_of_ble_eq_true rfl) (fun X hl hG hnm C ret => ?_)
  subst hl; subst hG
  have C : z_C X cX5_cut RX5 6 (z_rm 2 1 8) := C
  show z_W X M 0 0 0 [(0, .ref m), (1, .int pane), (2, .ref p), (3, .int ix0), (4, .int mn)] []
  refine z_aload_n C dX5_cut_0 rfl 2 rfl ?_
  refine z_iconst C (v := 0) dX5_cut_1 (by decide) ?_
  refine z_pl0 C h_p dX5_cut_2 ?_
  refine z_aload_n C dX5_cut_3 rfl 2 rfl ?_
  refine z_iconst C (v := 1) dX5_cut_4 (by decide) ?_
  refine z_pl1 C h_p dX5_cut_5 ?_
  refine z_aload_n C dX5_cut_6 rfl 2 rfl ?_
  refine z_iconst C (v := 2) dX5_cut_7 (by decide) ?_
  refine z_pl2 C h_p dX5_cut_8 ?_
  refine z_iload_n C dX5_cut_9 rfl 3 rfl ?_
  refine z_iadd C dX5_cut_10 ?_
  refine z_iload C dX5_cut_11 4 rfl ?_
  refine z_callSr (rest := []) (k' := 1) (n' := 8) C (c_X5_over (z_l X) (z_G X) ) (cs_X5_25 C (by decide)) rfl rfl (Nat.le_of_ble_eq_true rfl) rfl rfl (by decide) (by decide) dX5_cut_13 (fun x13 M' hq => ?_)
  obtain ⟨q_13, hq_13, hr13, rfl⟩ := hq
  rw [hr13]
  refine z_astore (lv' := [(5, .ref q_13), (0, .ref m), (1, .int pane), (2, .ref p), (3, .int ix0), (4, .int mn)]) C dX5_cut_16 (by decide) rfl ?_
  refine z_aload C dX5_cut_18 0 rfl ?_
  refine z_bipush C (v := 7) dX5_cut_20 (by decide) ?_
  refine z_aload_n C dX5_cut_22 rfl 3 rfl ?_
  refine z_bipush C (v := 7) dX5_cut_23 (by decide) ?_
  refine z_pl7 C ((z_up_n _ _ (z_neN h_p hq_13)).trans h_p) dX5_cut_25 ?_
  refine z_pt7 C dX5_cut_26 ?_
  refine z_aload_n C dX5_cut_27 rfl 1 rfl ?_
  refine gf_X5_18 C ((z_up_n _ _ (z_neN h_m hq_13)).trans h_m) dX5_cut_28 ?_
  refine z_iload_n C dX5_cut_31 rfl 2 rfl ?_
  refine z_aload C dX5_cut_32 0 rfl ?_
  refine z_aastII (j := i) C kn1042 ((z_up_n _ _ (z_neN h_pn hq_13)).trans h_pn) (z_up_s _ _ _) h_ip h_ij dX5_cut_34 ?_
  refine z_aload_n C dX5_cut_35 rfl 1 rfl ?_
  refine z_iload C dX5_cut_36 5 rfl ?_
  refine z_callVi (rest := []) (k' := 1) (n' := 8) C (c_X5_did (z_l X) (z_G X) ((z_up_n _ _ (z_ne h_m h_pn (by intro h; cases h))).trans ((z_up_n _ _ (z_neN h_m hq_13)).trans h_m))) (cs_X5_63 C (by decide)) ((z_up_n _ _ (z_ne h_m h_pn (by intro h; cases h))).trans ((z_up_n _ _ (z_neN h_m hq_13)).trans h_m)) rfl rfl rfl rfl (Nat.le_of_ble_eq_true rfl) rfl rfl (by decide) (by decide) dX5_cut_38 (fun x38 M' hq => ?_)
  obtain ⟨hr38, rfl⟩ := hq
  rw [hr38]
  exact ret dX5_cut_41 rfl (⟨q_13, hq_13, rfl, rfl⟩) (by decide) (by decide)
set_option maxRecDepth 20000 in
theorem c_X5_wrap_bad (l : Launch) (G : zG) {M : zM} {m : Nat} {pane : Int32} {fr : Int32} {mn : Int32} {tp : Nat} {nr : Int32} {pn : Nat} {td : Nat} {ac : Int32} {kn : Int32} {th : Int32}  (h_m : M m = some (cMd tp nr pn td ac kn th)) (h_bad : z_is pane 0 5 = 0) : z_Mi l G qX5_wrap (z_rm 3 1 8) [.ref m, .int pane, .int fr, .int mn] M (fun r M' => (((z_is fr 0 16) = 0) ∧ r = 0 ∧ M' = z_up M m (cMd tp nr pn td ac kn (z_lt (z_is pane 0 5) 0))) ∨ ((¬ (z_is fr 0 16) = 0) ∧ ((z_is mn 0 (16 - fr)) = 0) ∧ r = 0 ∧ M' = z_up M m (cMd tp nr pn td ac kn (z_lt (z_is pane 0 5) 0))) ∨ ((¬ (z_is fr 0 16) = 0) ∧ (¬ (z_is mn 0 (16 - fr)) = 0) ∧ r = 0 ∧ M' = z_up M m (cMd tp nr pn td ac kn (z_lt (z_is pane 0 5) 1))))  := by
  refine z_Mi_of _ (plainFor_of_name rfl) rfl (Nat.le_of_ble_eq_true rfl) (fun X hl hG hnm C ret => ?_)
  subst hl; subst hG
  have C : z_C X cX5_wrap RX5 4 (z_rm 3 1 8) := C
  show z_W X M 0 0 0 [(0, .ref m), (1, .int pane), (2, .int fr), (3, .int mn)] []
  refine z_aload_n C dX5_wrap_0 rfl 0 rfl ?_
  refine z_iload_n C dX5_wrap_1 rfl 1 rfl ?_
  refine z_callSi (rest := [.ref m]) (k' := 0) (n' := 0) C (c_X5_isPane (z_l X) (z_G X) ) (cs_X5_55 C (by decide)) rfl rfl (Nat.le_of_ble_eq_true rfl) rfl rfl (by decide) (by decide) dX5_wrap_2 (fun x2 M' hq => ?_)
  obtain ⟨rfl, rfl⟩ := hq
  refine z_iload_n C dX5_wrap_5 rfl 2 rfl ?_
  refine z_iconst C (v := 0) dX5_wrap_6 (by decide) ?_
  refine z_bipush C (v := 16) dX5_wrap_7 (by decide) ?_
  refine z_callSi (rest := [.int (z_is pane 0 5), .ref m]) (k' := 0) (n' := 0) C (c_X5_isIn (z_l X) (z_G X) ) (cs_X5_36 C (by decide)) rfl rfl (Nat.le_of_ble_eq_true rfl) rfl rfl (by decide) (by decide) dX5_wrap_9 (fun x9 M' hq => ?_)
  obtain ⟨rfl, rfl⟩ := hq
  refine z_if_eq C (tgt := 31) dX5_wrap_12 (by decide) (fun c12 => ?_) (fun c12 => ?_)
  · refine z_iconst C (v := 0) dX5_wrap_31 (by decide) ?_
    refine z_callVi (rest := []) (k' := 0) (n' := 0) C (c_X5_isLet (z_l X) (z_G X) h_m) (cs_X5_59 C (by decide)) h_m rfl rfl rfl rfl (Nat.le_of_ble_eq_true rfl) rfl rfl (by decide) (by decide) dX5_wrap_32 (fun x32 M' hq => ?_)
    obtain ⟨rfl, rfl⟩ := hq
    refine z_if_ne C (tgt := 40) dX5_wrap_35 (by decide) (fun c35 => absurd (by simp [z_lr, z_lt, h_bad]) c35) (fun _ => ?_)
    refine z_iconst C (v := 0) dX5_wrap_38 (by decide) ?_
    exact ret dX5_wrap_39 rfl (Or.inl ⟨c12, rfl, rfl⟩) (by decide) (by decide)
  · refine z_iload_n C dX5_wrap_15 rfl 3 rfl ?_
    refine z_iconst C (v := 0) dX5_wrap_16 (by decide) ?_
    refine z_bipush C (v := 16) dX5_wrap_17 (by decide) ?_
    refine z_iload_n C dX5_wrap_19 rfl 2 rfl ?_
    refine z_isub C dX5_wrap_20 ?_
    refine z_callSi (rest := [.int (z_is pane 0 5), .ref m]) (k' := 0) (n' := 0) C (c_X5_isIn (z_l X) (z_G X) ) (cs_X5_36 C (by decide)) rfl rfl (Nat.le_of_ble_eq_true rfl) rfl rfl (by decide) (by decide) dX5_wrap_21 (fun x21 M' hq => ?_)
    obtain ⟨rfl, rfl⟩ := hq
    refine z_if_eq C (tgt := 31) dX5_wrap_24 (by decide) (fun c24 => ?_) (fun c24 => ?_)
    · refine z_iconst C (v := 0) dX5_wrap_31 (by decide) ?_
      refine z_callVi (rest := []) (k' := 0) (n' := 0) C (c_X5_isLet (z_l X) (z_G X) h_m) (cs_X5_59 C (by decide)) h_m rfl rfl rfl rfl (Nat.le_of_ble_eq_true rfl) rfl rfl (by decide) (by decide) dX5_wrap_32 (fun x32 M' hq => ?_)
      obtain ⟨rfl, rfl⟩ := hq
      refine z_if_ne C (tgt := 40) dX5_wrap_35 (by decide) (fun c35 => absurd (by simp [z_lr, z_lt, h_bad]) c35) (fun _ => ?_)
      refine z_iconst C (v := 0) dX5_wrap_38 (by decide) ?_
      exact ret dX5_wrap_39 rfl (Or.inr (Or.inl ⟨c12, c24, rfl, rfl⟩)) (by decide) (by decide)
    · refine z_iconst C (v := 1) dX5_wrap_27 (by decide) ?_
      refine z_goto C (tgt := 32) dX5_wrap_28 (by decide) ?_
      refine z_callVi (rest := []) (k' := 0) (n' := 0) C (c_X5_isLet (z_l X) (z_G X) h_m) (cs_X5_59 C (by decide)) h_m rfl rfl rfl rfl (Nat.le_of_ble_eq_true rfl) rfl rfl (by decide) (by decide) dX5_wrap_32 (fun x32 M' hq => ?_)
      obtain ⟨rfl, rfl⟩ := hq
      refine z_if_ne C (tgt := 40) dX5_wrap_35 (by decide) (fun c35 => absurd (by simp [z_lr, z_lt, h_bad]) c35) (fun _ => ?_)
      refine z_iconst C (v := 0) dX5_wrap_38 (by decide) ?_
      exact ret dX5_wrap_39 rfl (Or.inr (Or.inr (⟨c12, c24, rfl, rfl⟩))) (by decide) (by decide)
set_option maxRecDepth 20000 in
theorem c_X5_wrap (l : Launch) (G : zG) {M : zM} {m : Nat} {pane : Int32} {fr : Int32} {mn : Int32} {tp : Nat} {nr : Int32} {pn : Nat} {td : Nat} {ac : Int32} {kn : Int32} {th : Int32} {fp : Nat → Option Nat} {i : Nat}  (h_m : M m = some (cMd tp nr pn td ac kn th)) (h_pn : M pn = some (aII G 6 fp)) (h_ok : z_is pane 0 5 = 1) (h_ip : vp_in pane 6) (h_ij : pane.toNatClampNeg = i) : z_Mi l G qX5_wrap (z_rm 3 1 8) [.ref m, .int pane, .int fr, .int mn] M (fun r M' => (((z_is fr 0 16) = 0) ∧ r = 0 ∧ M' = z_up M m (cMd tp nr pn td ac kn (z_lt (z_is pane 0 5) 0))) ∨ ((¬ (z_is fr 0 16) = 0) ∧ ((z_is mn 0 (16 - fr)) = 0) ∧ r = 0 ∧ M' = z_up M m (cMd tp nr pn td ac kn (z_lt (z_is pane 0 5) 0))) ∨ (∃ q_50 : Nat, (z_up M m (cMd tp nr pn td ac kn (z_lt (z_is pane 0 5) 1))) q_50 = none ∧ (¬ (z_is fr 0 16) = 0) ∧ (¬ (z_is mn 0 (16 - fr)) = 0) ∧ r = (fr + mn) ∧ M' = z_up (z_up (z_up M pn (aII G 6 (va_up fp i (some q_50)))) q_50 (cPm G 0 0 0 16 fr (fr + mn) (-1) 0)) m (cMd tp nr pn td (ac + 1) kn (z_lt (z_is pane 0 5) 1))))  := by
  refine z_Mi_of _ (plainFor_of_name rfl) rfl (Nat.le_of_ble_eq_true rfl) (fun X hl hG hnm C ret => ?_)
  subst hl; subst hG
  have C : z_C X cX5_wrap RX5 4 (z_rm 3 1 8) := C
  show z_W X M 0 0 0 [(0, .ref m), (1, .int pane), (2, .int fr), (3, .int mn)] []
  refine z_aload_n C dX5_wrap_0 rfl 0 rfl ?_
  refine z_iload_n C dX5_wrap_1 rfl 1 rfl ?_
  refine z_callSi (rest := [.ref m]) (k' := 0) (n' := 0) C (c_X5_isPane (z_l X) (z_G X) ) (cs_X5_55 C (by decide)) rfl rfl (Nat.le_of_ble_eq_true rfl) rfl rfl (by decide) (by decide) dX5_wrap_2 (fun x2 M' hq => ?_)
  obtain ⟨rfl, rfl⟩ := hq
  refine z_iload_n C dX5_wrap_5 rfl 2 rfl ?_
  refine z_iconst C (v := 0) dX5_wrap_6 (by decide) ?_
  refine z_bipush C (v := 16) dX5_wrap_7 (by decide) ?_
  refine z_callSi (rest := [.int (z_is pane 0 5), .ref m]) (k' := 0) (n' := 0) C (c_X5_isIn (z_l X) (z_G X) ) (cs_X5_36 C (by decide)) rfl rfl (Nat.le_of_ble_eq_true rfl) rfl rfl (by decide) (by decide) dX5_wrap_9 (fun x9 M' hq => ?_)
  obtain ⟨rfl, rfl⟩ := hq
  refine z_if_eq C (tgt := 31) dX5_wrap_12 (by decide) (fun c12 => ?_) (fun c12 => ?_)
  · refine z_iconst C (v := 0) dX5_wrap_31 (by decide) ?_
    refine z_callVi (rest := []) (k' := 0) (n' := 0) C (c_X5_isLet (z_l X) (z_G X) h_m) (cs_X5_59 C (by decide)) h_m rfl rfl rfl rfl (Nat.le_of_ble_eq_true rfl) rfl rfl (by decide) (by decide) dX5_wrap_32 (fun x32 M' hq => ?_)
    obtain ⟨rfl, rfl⟩ := hq
    refine z_if_ne C (tgt := 40) dX5_wrap_35 (by decide) (fun c35 => absurd (by simp [z_lr, z_lt, h_ok]) c35) (fun _ => ?_)
    refine z_iconst C (v := 0) dX5_wrap_38 (by decide) ?_
    exact ret dX5_wrap_39 rfl (Or.inl ⟨c12, rfl, rfl⟩) (by decide) (by decide)
  · refine z_iload_n C dX5_wrap_15 rfl 3 rfl ?_
    refine z_iconst C (v := 0) dX5_wrap_16 (by decide) ?_
    refine z_bipush C (v := 16) dX5_wrap_17 (by decide) ?_
    refine z_iload_n C dX5_wrap_19 rfl 2 rfl ?_
    refine z_isub C dX5_wrap_20 ?_
    refine z_callSi (rest := [.int (z_is pane 0 5), .ref m]) (k' := 0) (n' := 0) C (c_X5_isIn (z_l X) (z_G X) ) (cs_X5_36 C (by decide)) rfl rfl (Nat.le_of_ble_eq_true rfl) rfl rfl (by decide) (by decide) dX5_wrap_21 (fun x21 M' hq => ?_)
    obtain ⟨rfl, rfl⟩ := hq
    refine z_if_eq C (tgt := 31) dX5_wrap_24 (by decide) (fun c24 => ?_) (fun c24 => ?_)
    · refine z_iconst C (v := 0) dX5_wrap_31 (by decide) ?_
      refine z_callVi (rest := []) (k' := 0) (n' := 0) C (c_X5_isLet (z_l X) (z_G X) h_m) (cs_X5_59 C (by decide)) h_m rfl rfl rfl rfl (Nat.le_of_ble_eq_true rfl) rfl rfl (by decide) (by decide) dX5_wrap_32 (fun x32 M' hq => ?_)
      obtain ⟨rfl, rfl⟩ := hq
      refine z_if_ne C (tgt := 40) dX5_wrap_35 (by decide) (fun c35 => absurd (by simp [z_lr, z_lt, h_ok]) c35) (fun _ => ?_)
      refine z_iconst C (v := 0) dX5_wrap_38 (by decide) ?_
      exact ret dX5_wrap_39 rfl (Or.inr (Or.inl ⟨c12, c24, rfl, rfl⟩)) (by decide) (by decide)
    · refine z_iconst C (v := 1) dX5_wrap_27 (by decide) ?_
      refine z_goto C (tgt := 32) dX5_wrap_28 (by decide) ?_
      refine z_callVi (rest := []) (k' := 0) (n' := 0) C (c_X5_isLet (z_l X) (z_G X) h_m) (cs_X5_59 C (by decide)) h_m rfl rfl rfl rfl (Nat.le_of_ble_eq_true rfl) rfl rfl (by decide) (by decide) dX5_wrap_32 (fun x32 M' hq => ?_)
      obtain ⟨rfl, rfl⟩ := hq
      refine z_if_ne C (tgt := 40) dX5_wrap_35 (by decide) (fun _ => ?_) (fun c35 => absurd c35 (by simp [z_lr, z_lt, h_ok]))
      refine z_aload_n C dX5_wrap_40 rfl 0 rfl ?_
      refine gf_X5_18 C (z_up_s _ _ _) dX5_wrap_41 ?_
      refine z_iload_n C dX5_wrap_44 rfl 1 rfl ?_
      refine z_iconst C (v := 0) dX5_wrap_45 (by decide) ?_
      refine z_iconst C (v := 0) dX5_wrap_46 (by decide) ?_
      refine z_iconst C (v := 0) dX5_wrap_47 (by decide) ?_
      refine z_bipush C (v := 16) dX5_wrap_48 (by decide) ?_
      refine z_callSr (rest := [.int pane, .ref pn]) (k' := 1) (n' := 8) C (c_X5_over (z_l X) (z_G X) ) (cs_X5_25 C (by decide)) rfl rfl (Nat.le_of_ble_eq_true rfl) rfl rfl (by decide) (by decide) dX5_wrap_50 (fun x50 M' hq => ?_)
      obtain ⟨q_50, hq_50, hr50, rfl⟩ := hq
      rw [hr50]
      refine z_aastII (j := i) C kn1042 ((z_up_n _ _ (z_neN ((z_up_n _ _ (z_ne h_pn h_m (by intro h; cases h))).trans h_pn) hq_50)).trans ((z_up_n _ _ (z_ne h_pn h_m (by intro h; cases h))).trans h_pn)) (z_up_s _ _ _) h_ip h_ij dX5_wrap_53 ?_
      refine z_aload_n C dX5_wrap_54 rfl 0 rfl ?_
      refine gf_X5_18 C ((z_up_n _ _ (z_ne h_m h_pn (by intro h; cases h))).trans ((z_up_n _ _ (z_neN (z_up_s _ _ _) hq_50)).trans (z_up_s _ _ _))) dX5_wrap_55 ?_
      refine z_iload_n C dX5_wrap_58 rfl 1 rfl ?_
      refine z_aaldI (j := i) C (z_up_s _ _ _) h_ip h_ij (va_up_self _ _ _) dX5_wrap_59 ?_
      refine z_iconst C (v := 4) dX5_wrap_60 (by decide) ?_
      refine z_iload_n C dX5_wrap_61 rfl 2 rfl ?_
      rw [z_up_swap _ (Ne.symm (z_neN ((z_up_n _ _ (z_ne h_pn h_m (by intro h; cases h))).trans h_pn) hq_50))]
      refine z_pt4 C dX5_wrap_62 ?_
      refine z_aload_n C dX5_wrap_63 rfl 0 rfl ?_
      refine gf_X5_18 C ((z_up_n _ _ (z_neN (z_up_s _ _ _) hq_50)).trans ((z_up_n _ _ (z_ne h_m h_pn (by intro h; cases h))).trans (z_up_s _ _ _))) dX5_wrap_64 ?_
      refine z_iload_n C dX5_wrap_67 rfl 1 rfl ?_
      refine z_aaldI (j := i) C ((z_up_n _ _ (z_neN ((z_up_n _ _ (z_ne h_pn h_m (by intro h; cases h))).trans h_pn) hq_50)).trans (z_up_s _ _ _)) h_ip h_ij (va_up_self _ _ _) dX5_wrap_68 ?_
      refine z_iconst C (v := 5) dX5_wrap_69 (by decide) ?_
      refine z_iload_n C dX5_wrap_70 rfl 2 rfl ?_
      refine z_iload_n C dX5_wrap_71 rfl 3 rfl ?_
      refine z_iadd C dX5_wrap_72 ?_
      refine z_pt5 C dX5_wrap_73 ?_
      refine z_aload_n C dX5_wrap_74 rfl 0 rfl ?_
      refine z_iload_n C dX5_wrap_75 rfl 2 rfl ?_
      refine z_iload_n C dX5_wrap_76 rfl 3 rfl ?_
      refine z_iadd C dX5_wrap_77 ?_
      refine z_callVi (rest := []) (k' := 1) (n' := 8) C (c_X5_did (z_l X) (z_G X) ((z_up_n _ _ (z_neN (z_up_s _ _ _) hq_50)).trans ((z_up_n _ _ (z_ne h_m h_pn (by intro h; cases h))).trans (z_up_s _ _ _)))) (cs_X5_63 C (by decide)) ((z_up_n _ _ (z_neN (z_up_s _ _ _) hq_50)).trans ((z_up_n _ _ (z_ne h_m h_pn (by intro h; cases h))).trans (z_up_s _ _ _))) rfl rfl rfl rfl (Nat.le_of_ble_eq_true rfl) rfl rfl (by decide) (by decide) dX5_wrap_78 (fun x78 M' hq => ?_)
      obtain ⟨rfl, rfl⟩ := hq
      rw [z_up_swap _ (z_ne h_m h_pn (by intro h; cases h))]
      rw [z_up_swap _ (z_neN (z_up_s _ _ _) hq_50)]
      rw [z_up_up]
      exact ret dX5_wrap_81 rfl (Or.inr (Or.inr (⟨q_50, hq_50, c12, c24, rfl, rfl⟩))) (by decide) (by decide)
set_option maxRecDepth 20000 in
theorem c_X5_fresh_bad (l : Launch) (G : zG) {M : zM} {m : Nat} {pane : Int32} {ln : Int32} {tp : Nat} {nr : Int32} {pn : Nat} {td : Nat} {ac : Int32} {kn : Int32} {th : Int32}  (h_m : M m = some (cMd tp nr pn td ac kn th)) (h_bad : z_is pane 0 5 = 0) : z_Mi l G qX5_fresh (z_rm 3 2 1000) [.ref m, .int pane, .int ln] M (fun r M' => r = 0 ∧ M' = z_up M m (cMd tp nr pn td ac kn (z_lt (z_is pane 0 5) (z_is ln 0 12))))  := by
  refine z_Mi_of _ (plainFor_of_name rfl) rfl (Nat.le_of_ble_eq_true rfl) (fun X hl hG hnm C ret => ?_)
  subst hl; subst hG
  have C : z_C X cX5_fresh RX5 3 (z_rm 3 2 1000) := C
  show z_W X M 0 0 0 [(0, .ref m), (1, .int pane), (2, .int ln)] []
  refine z_aload_n C dX5_fresh_0 rfl 0 rfl ?_
  refine z_iload_n C dX5_fresh_1 rfl 1 rfl ?_
  refine z_callSi (rest := [.ref m]) (k' := 0) (n' := 0) C (c_X5_isPane (z_l X) (z_G X) ) (cs_X5_55 C (by decide)) rfl rfl (Nat.le_of_ble_eq_true rfl) rfl rfl (by decide) (by decide) dX5_fresh_2 (fun x2 M' hq => ?_)
  obtain ⟨rfl, rfl⟩ := hq
  refine z_iload_n C dX5_fresh_5 rfl 2 rfl ?_
  refine z_iconst C (v := 0) dX5_fresh_6 (by decide) ?_
  refine z_bipush C (v := 12) dX5_fresh_7 (by decide) ?_
  refine z_callSi (rest := [.int (z_is pane 0 5), .ref m]) (k' := 0) (n' := 0) C (c_X5_isIn (z_l X) (z_G X) ) (cs_X5_36 C (by decide)) rfl rfl (Nat.le_of_ble_eq_true rfl) rfl rfl (by decide) (by decide) dX5_fresh_9 (fun x9 M' hq => ?_)
  obtain ⟨rfl, rfl⟩ := hq
  refine z_callVi (rest := []) (k' := 0) (n' := 0) C (c_X5_isLet (z_l X) (z_G X) h_m) (cs_X5_59 C (by decide)) h_m rfl rfl rfl rfl (Nat.le_of_ble_eq_true rfl) rfl rfl (by decide) (by decide) dX5_fresh_12 (fun x12 M' hq => ?_)
  obtain ⟨rfl, rfl⟩ := hq
  refine z_if_ne C (tgt := 20) dX5_fresh_15 (by decide) (fun c15 => absurd (by simp [z_lr, z_lt, h_bad]) c15) (fun _ => ?_)
  refine z_iconst C (v := 0) dX5_fresh_18 (by decide) ?_
  exact ret dX5_fresh_19 rfl (⟨rfl, rfl⟩) (by decide) (by decide)
set_option maxRecDepth 20000 in
theorem c_X5_fresh (l : Launch) (G : zG) {M : zM} {m : Nat} {pane : Int32} {ln : Int32} {tp : Nat} {nr : Int32} {pn : Nat} {td : Nat} {ac : Int32} {kn : Int32} {th : Int32} {nt : Nat} {ft : Nat → Int32} {fp : Nat → Option Nat} {i : Nat}  (h_m : M m = some (cMd tp nr pn td ac kn th)) (h_tp : M tp = some (aI G nt ft)) (h_pn : M pn = some (aII G 6 fp)) (h_ok : z_is pane 0 5 = 1) (h_ip : vp_in pane 6) (h_ij : pane.toNatClampNeg = i) (h_nt : 16 ≤ nt ∧ nt < 900) : z_Mi l G qX5_fresh (z_rm 3 2 1000) [.ref m, .int pane, .int ln] M (fun r M' => (∃ q7_27 : Nat, (z_up M m (cMd tp nr pn td ac kn (z_lt (z_is pane 0 5) (z_is ln 0 12)))) q7_27 = none ∧ ∃ q_47_27 : Nat, (z_up (z_up M m (cMd tp nr pn td ac kn (z_lt (z_is pane 0 5) (z_is ln 0 12)))) q7_27 (aI G (nt + ln.toNatClampNeg) (z_cp ft nt))) q_47_27 = none ∧ (¬ (z_lr (z_is pane 0 5) (z_is ln 0 12)) = 0) ∧ r = ln ∧ M' = z_up (z_up (z_up (z_up M q7_27 (aI G (nt + ln.toNatClampNeg) (z_cp ft nt))) q_47_27 (cPm G nr (Int32.ofNat nt) 0 ln 0 ln (-1) 0)) pn (aII G 6 (va_up fp i (some q_47_27)))) m (cMd q7_27 (nr + 1) pn td (ac + 1) kn (z_lt (z_is pane 0 5) (z_is ln 0 12)))) ∨ (((z_lr (z_is pane 0 5) (z_is ln 0 12)) = 0) ∧ r = 0 ∧ M' = z_up M m (cMd tp nr pn td ac kn (z_lt (z_is pane 0 5) (z_is ln 0 12)))))  := by
  refine z_Mi_of _ (plainFor_of_name rfl) rfl (Nat.le_of_ble_eq_true rfl) (fun X hl hG hnm C ret => ?_)
  subst hl; subst hG
  have C : z_C X cX5_fresh RX5 3 (z_rm 3 2 1000) := C
  show z_W X M 0 0 0 [(0, .ref m), (1, .int pane), (2, .int ln)] []
  refine z_aload_n C dX5_fresh_0 rfl 0 rfl ?_
  refine z_iload_n C dX5_fresh_1 rfl 1 rfl ?_
  refine z_callSi (rest := [.ref m]) (k' := 0) (n' := 0) C (c_X5_isPane (z_l X) (z_G X) ) (cs_X5_55 C (by decide)) rfl rfl (Nat.le_of_ble_eq_true rfl) rfl rfl (by decide) (by decide) dX5_fresh_2 (fun x2 M' hq => ?_)
  obtain ⟨rfl, rfl⟩ := hq
  refine z_iload_n C dX5_fresh_5 rfl 2 rfl ?_
  refine z_iconst C (v := 0) dX5_fresh_6 (by decide) ?_
  refine z_bipush C (v := 12) dX5_fresh_7 (by decide) ?_
  refine z_callSi (rest := [.int (z_is pane 0 5), .ref m]) (k' := 0) (n' := 0) C (c_X5_isIn (z_l X) (z_G X) ) (cs_X5_36 C (by decide)) rfl rfl (Nat.le_of_ble_eq_true rfl) rfl rfl (by decide) (by decide) dX5_fresh_9 (fun x9 M' hq => ?_)
  obtain ⟨rfl, rfl⟩ := hq
  refine z_callVi (rest := []) (k' := 0) (n' := 0) C (c_X5_isLet (z_l X) (z_G X) h_m) (cs_X5_59 C (by decide)) h_m rfl rfl rfl rfl (Nat.le_of_ble_eq_true rfl) rfl rfl (by decide) (by decide) dX5_fresh_12 (fun x12 M' hq => ?_)
  obtain ⟨rfl, rfl⟩ := hq
  refine z_if_ne C (tgt := 20) dX5_fresh_15 (by decide) (fun c15 => ?_) (fun c15 => ?_)
  · refine z_aload_n C dX5_fresh_20 rfl 0 rfl ?_
    refine gf_X5_18 C (z_up_s _ _ _) dX5_fresh_21 ?_
    refine z_iload_n C dX5_fresh_24 rfl 1 rfl ?_
    refine z_aload_n C dX5_fresh_25 rfl 0 rfl ?_
    refine z_iload_n C dX5_fresh_26 rfl 2 rfl ?_
    refine z_callVr (rest := [.int pane, .ref pn]) (k' := 2) (n' := 1000) C (c_X5_made (z_l X) (z_G X) (z_up_s _ _ _) ((z_up_n _ _ (z_ne h_tp h_m (by intro h; cases h))).trans h_tp) (z_rgN (z_lrN c15)).1 (z_r12 (z_lrN c15)) h_nt) (cs_X5_29 C (by decide)) (z_up_s _ _ _) rfl rfl rfl rfl (Nat.le_of_ble_eq_true rfl) rfl rfl (by decide) (by decide) dX5_fresh_27 (fun x27 M' hq => ?_)
    obtain ⟨q7_27, hq7_27, q_47_27, hq_47_27, hr27, rfl⟩ := hq
    rw [hr27]
    rw [z_up_swap _ (z_neN (z_up_s _ _ _) hq7_27)]
    rw [z_up_swap _ (z_neN ((z_up_n _ _ (z_neN (z_up_s _ _ _) hq7_27)).trans (z_up_s _ _ _)) hq_47_27)]
    rw [z_up_up]
    refine z_aastII (j := i) C kn1042 ((z_up_n _ _ (z_ne h_pn h_m (by intro h; cases h))).trans ((z_up_n _ _ (z_neN ((z_up_n _ _ (z_neN ((z_up_n _ _ (z_ne h_pn h_m (by intro h; cases h))).trans h_pn) hq7_27)).trans ((z_up_n _ _ (z_ne h_pn h_m (by intro h; cases h))).trans h_pn)) hq_47_27)).trans ((z_up_n _ _ (z_neN ((z_up_n _ _ (z_ne h_pn h_m (by intro h; cases h))).trans h_pn) hq7_27)).trans h_pn))) ((z_up_n _ _ (Ne.symm (z_neN ((z_up_n _ _ (z_neN (z_up_s _ _ _) hq7_27)).trans (z_up_s _ _ _)) hq_47_27))).trans (z_up_s _ _ _)) h_ip h_ij dX5_fresh_30 ?_
    refine z_aload_n C dX5_fresh_31 rfl 0 rfl ?_
    refine z_iload_n C dX5_fresh_32 rfl 2 rfl ?_
    refine z_callVi (rest := []) (k' := 2) (n' := 1000) C (c_X5_did (z_l X) (z_G X) ((z_up_n _ _ (z_ne h_m h_pn (by intro h; cases h))).trans (z_up_s _ _ _))) (cs_X5_63 C (by decide)) ((z_up_n _ _ (z_ne h_m h_pn (by intro h; cases h))).trans (z_up_s _ _ _)) rfl rfl rfl rfl (Nat.le_of_ble_eq_true rfl) rfl rfl (by decide) (by decide) dX5_fresh_33 (fun x33 M' hq => ?_)
    obtain ⟨hr33, rfl⟩ := hq
    rw [hr33]
    rw [z_up_swap _ (z_ne h_m h_pn (by intro h; cases h))]
    rw [z_up_up]
    exact ret dX5_fresh_36 rfl (Or.inl ⟨q7_27, hq7_27, q_47_27, hq_47_27, c15, rfl, rfl⟩) (by decide) (by decide)
  · refine z_iconst C (v := 0) dX5_fresh_18 (by decide) ?_
    exact ret dX5_fresh_19 rfl (Or.inr (⟨c15, rfl, rfl⟩)) (by decide) (by decide)
set_option maxRecDepth 20000 in
theorem c_X5_twin_bad (l : Launch) (G : zG) {M : zM} {m : Nat} {pane : Int32} {other : Int32} {tp : Nat} {nr : Int32} {pn : Nat} {td : Nat} {ac : Int32} {kn : Int32} {th : Int32}  (h_m : M m = some (cMd tp nr pn td ac kn th)) (h_bad : z_is pane 0 5 = 0) : z_Mi l G qX5_twin (z_rm 3 1 8) [.ref m, .int pane, .int other] M (fun r M' => r = 0 ∧ M' = z_up M m (cMd tp nr pn td ac kn (z_lt 0 1)))  := by
  refine z_Mi_of _ (plainFor_of_name rfl) rfl (Nat.le_of_ble_eq_true rfl) (fun X hl hG hnm C ret => ?_)
  subst hl; subst hG
  have C : z_C X cX5_twin RX5 3 (z_rm 3 1 8) := C
  show z_W X M 0 0 0 [(0, .ref m), (1, .int pane), (2, .int other)] []
  refine z_aload_n C dX5_twin_0 rfl 0 rfl ?_
  refine z_iload_n C dX5_twin_1 rfl 1 rfl ?_
  refine z_callSi (rest := [.ref m]) (k' := 0) (n' := 0) C (c_X5_isPane (z_l X) (z_G X) ) (cs_X5_55 C (by decide)) rfl rfl (Nat.le_of_ble_eq_true rfl) rfl rfl (by decide) (by decide) dX5_twin_2 (fun x2 M' hq => ?_)
  obtain ⟨rfl, rfl⟩ := hq
  refine z_if_eq C (tgt := 19) dX5_twin_5 (by decide) (fun _ => ?_) (fun c5 => absurd h_bad c5)
  refine z_iconst C (v := 0) dX5_twin_19 (by decide) ?_
  refine z_iconst C (v := 1) dX5_twin_20 (by decide) ?_
  refine z_callVi (rest := []) (k' := 0) (n' := 0) C (c_X5_isLet (z_l X) (z_G X) h_m) (cs_X5_59 C (by decide)) h_m rfl rfl rfl rfl (Nat.le_of_ble_eq_true rfl) rfl rfl (by decide) (by decide) dX5_twin_21 (fun x21 M' hq => ?_)
  obtain ⟨rfl, rfl⟩ := hq
  refine z_if_ne C (tgt := 29) dX5_twin_24 (by decide) (fun c24 => absurd (by simp [z_lr, z_lt]) c24) (fun _ => ?_)
  refine z_iconst C (v := 0) dX5_twin_27 (by decide) ?_
  exact ret dX5_twin_28 rfl (⟨rfl, rfl⟩) (by decide) (by decide)
set_option maxRecDepth 20000 in
theorem c_X5_twin_bad2 (l : Launch) (G : zG) {M : zM} {m : Nat} {pane : Int32} {other : Int32} {tp : Nat} {nr : Int32} {pn : Nat} {td : Nat} {ac : Int32} {kn : Int32} {th : Int32}  (h_m : M m = some (cMd tp nr pn td ac kn th)) (h_ok : z_is pane 0 5 = 1) (h_bad2 : z_is other 0 5 = 0) : z_Mi l G qX5_twin (z_rm 3 1 8) [.ref m, .int pane, .int other] M (fun r M' => r = 0 ∧ M' = z_up M m (cMd tp nr pn td ac kn (z_lt 0 1)))  := by
  refine z_Mi_of _ (plainFor_of_name rfl) rfl (Nat.le_of_ble_eq_true rfl) (fun X hl hG hnm C ret => ?_)
  subst hl; subst hG
  have C : z_C X cX5_twin RX5 3 (z_rm 3 1 8) := C
  show z_W X M 0 0 0 [(0, .ref m), (1, .int pane), (2, .int other)] []
  refine z_aload_n C dX5_twin_0 rfl 0 rfl ?_
  refine z_iload_n C dX5_twin_1 rfl 1 rfl ?_
  refine z_callSi (rest := [.ref m]) (k' := 0) (n' := 0) C (c_X5_isPane (z_l X) (z_G X) ) (cs_X5_55 C (by decide)) rfl rfl (Nat.le_of_ble_eq_true rfl) rfl rfl (by decide) (by decide) dX5_twin_2 (fun x2 M' hq => ?_)
  obtain ⟨rfl, rfl⟩ := hq
  refine z_if_eq C (tgt := 19) dX5_twin_5 (by decide) (fun c5 => absurd c5 (by rw [h_ok]; decide)) (fun _ => ?_)
  refine z_iload_n C dX5_twin_8 rfl 2 rfl ?_
  refine z_callSi (rest := [.ref m]) (k' := 0) (n' := 0) C (c_X5_isPane (z_l X) (z_G X) ) (cs_X5_55 C (by decide)) rfl rfl (Nat.le_of_ble_eq_true rfl) rfl rfl (by decide) (by decide) dX5_twin_9 (fun x9 M' hq => ?_)
  obtain ⟨rfl, rfl⟩ := hq
  refine z_if_eq C (tgt := 19) dX5_twin_12 (by decide) (fun _ => ?_) (fun c12 => absurd h_bad2 c12)
  refine z_iconst C (v := 0) dX5_twin_19 (by decide) ?_
  refine z_iconst C (v := 1) dX5_twin_20 (by decide) ?_
  refine z_callVi (rest := []) (k' := 0) (n' := 0) C (c_X5_isLet (z_l X) (z_G X) h_m) (cs_X5_59 C (by decide)) h_m rfl rfl rfl rfl (Nat.le_of_ble_eq_true rfl) rfl rfl (by decide) (by decide) dX5_twin_21 (fun x21 M' hq => ?_)
  obtain ⟨rfl, rfl⟩ := hq
  refine z_if_ne C (tgt := 29) dX5_twin_24 (by decide) (fun c24 => absurd (by simp [z_lr, z_lt]) c24) (fun _ => ?_)
  refine z_iconst C (v := 0) dX5_twin_27 (by decide) ?_
  exact ret dX5_twin_28 rfl (⟨rfl, rfl⟩) (by decide) (by decide)
set_option maxRecDepth 20000 in
theorem c_X5_twin (l : Launch) (G : zG) {M : zM} {m : Nat} {pane : Int32} {other : Int32} {tp : Nat} {nr : Int32} {pn : Nat} {td : Nat} {ac : Int32} {kn : Int32} {th : Int32} {fp : Nat → Option Nat} {p : Nat} {ro : Int32} {ba : Int32} {sa : Int32} {cp : Int32} {po : Int32} {li : Int32} {mk : Int32} {rd : Int32} {p2 : Nat} {ro2 : Int32} {ba2 : Int32} {sa2 : Int32} {cp2 : Int32} {po2 : Int32} {li2 : Int32} {mk2 : Int32} {rd2 : Int32} {i i2 : Nat}  (h_m : M m = some (cMd tp nr pn td ac kn th)) (h_pn : M pn = some (aII G 6 fp)) (h_p : M p = some (cPm G ro ba sa cp po li mk rd)) (h_p2 : M p2 = some (cPm G ro2 ba2 sa2 cp2 po2 li2 mk2 rd2)) (h_ok : z_is pane 0 5 = 1) (h_ip : vp_in pane 6) (h_ij : pane.toNatClampNeg = i) (h_fp : fp i = some p) (h_ok2 : z_is other 0 5 = 1) (h_ip2 : vp_in other 6) (h_ij2 : other.toNatClampNeg = i2) (h_fp2 : fp i2 = some p2) : z_Mi l G qX5_twin (z_rm 3 1 8) [.ref m, .int pane, .int other] M (fun r M' => ∃ q_40 : Nat, (z_up M m (cMd tp nr pn td ac kn (z_lt 1 1))) q_40 = none ∧ r = (li2 - po2) ∧ M' = z_up (z_up (z_up M q_40 (cPm G ro2 ba2 sa2 cp2 po2 li2 mk2 rd2)) pn (aII G 6 (va_up fp i (some q_40)))) m (cMd tp nr pn td (ac + 1) kn (z_lt 1 1)))  := by
  refine z_Mi_of _ (plainFor_of_name rfl) rfl (Nat.le_of_ble_eq_true rfl) (fun X hl hG hnm C ret => ?_)
  subst hl; subst hG
  have C : z_C X cX5_twin RX5 3 (z_rm 3 1 8) := C
  show z_W X M 0 0 0 [(0, .ref m), (1, .int pane), (2, .int other)] []
  refine z_aload_n C dX5_twin_0 rfl 0 rfl ?_
  refine z_iload_n C dX5_twin_1 rfl 1 rfl ?_
  refine z_callSi (rest := [.ref m]) (k' := 0) (n' := 0) C (c_X5_isPane (z_l X) (z_G X) ) (cs_X5_55 C (by decide)) rfl rfl (Nat.le_of_ble_eq_true rfl) rfl rfl (by decide) (by decide) dX5_twin_2 (fun x2 M' hq => ?_)
  obtain ⟨rfl, rfl⟩ := hq
  refine z_if_eq C (tgt := 19) dX5_twin_5 (by decide) (fun c5 => absurd c5 (by rw [h_ok]; decide)) (fun _ => ?_)
  refine z_iload_n C dX5_twin_8 rfl 2 rfl ?_
  refine z_callSi (rest := [.ref m]) (k' := 0) (n' := 0) C (c_X5_isPane (z_l X) (z_G X) ) (cs_X5_55 C (by decide)) rfl rfl (Nat.le_of_ble_eq_true rfl) rfl rfl (by decide) (by decide) dX5_twin_9 (fun x9 M' hq => ?_)
  obtain ⟨rfl, rfl⟩ := hq
  refine z_if_eq C (tgt := 19) dX5_twin_12 (by decide) (fun c12 => absurd c12 (by rw [h_ok2]; decide)) (fun _ => ?_)
  refine z_iconst C (v := 1) dX5_twin_15 (by decide) ?_
  refine z_goto C (tgt := 20) dX5_twin_16 (by decide) ?_
  refine z_iconst C (v := 1) dX5_twin_20 (by decide) ?_
  refine z_callVi (rest := []) (k' := 0) (n' := 0) C (c_X5_isLet (z_l X) (z_G X) h_m) (cs_X5_59 C (by decide)) h_m rfl rfl rfl rfl (Nat.le_of_ble_eq_true rfl) rfl rfl (by decide) (by decide) dX5_twin_21 (fun x21 M' hq => ?_)
  obtain ⟨rfl, rfl⟩ := hq
  refine z_if_ne C (tgt := 29) dX5_twin_24 (by decide) (fun _ => ?_) (fun c24 => absurd c24 (by simp [z_lr, z_lt]))
  refine z_aload_n C dX5_twin_29 rfl 0 rfl ?_
  refine gf_X5_18 C (z_up_s _ _ _) dX5_twin_30 ?_
  refine z_iload_n C dX5_twin_33 rfl 1 rfl ?_
  refine z_aload_n C dX5_twin_34 rfl 0 rfl ?_
  refine gf_X5_18 C (z_up_s _ _ _) dX5_twin_35 ?_
  refine z_iload_n C dX5_twin_38 rfl 2 rfl ?_
  refine z_aaldI (j := i2) C ((z_up_n _ _ (z_ne h_pn h_m (by intro h; cases h))).trans h_pn) h_ip2 h_ij2 h_fp2 dX5_twin_39 ?_
  refine z_callSr (rest := [.int pane, .ref pn]) (k' := 1) (n' := 8) C (c_X5_like (z_l X) (z_G X) ((z_up_n _ _ (z_ne h_p2 h_m (by intro h; cases h))).trans h_p2)) (cs_X5_66 C (by decide)) rfl rfl (Nat.le_of_ble_eq_true rfl) rfl rfl (by decide) (by decide) dX5_twin_40 (fun x40 M' hq => ?_)
  obtain ⟨q_40, hq_40, hr40, rfl⟩ := hq
  rw [hr40]
  refine z_aastII (j := i) C kn1042 ((z_up_n _ _ (z_neN ((z_up_n _ _ (z_ne h_pn h_m (by intro h; cases h))).trans h_pn) hq_40)).trans ((z_up_n _ _ (z_ne h_pn h_m (by intro h; cases h))).trans h_pn)) (z_up_s _ _ _) h_ip h_ij dX5_twin_43 ?_
  refine z_aload_n C dX5_twin_44 rfl 0 rfl ?_
  refine z_aload_n C dX5_twin_45 rfl 0 rfl ?_
  refine gf_X5_18 C ((z_up_n _ _ (z_ne h_m h_pn (by intro h; cases h))).trans ((z_up_n _ _ (z_neN (z_up_s _ _ _) hq_40)).trans (z_up_s _ _ _))) dX5_twin_46 ?_
  refine z_iload_n C dX5_twin_49 rfl 1 rfl ?_
  refine z_aaldI (j := i) C (z_up_s _ _ _) h_ip h_ij (va_up_self _ _ _) dX5_twin_50 ?_
  refine z_callSi (rest := [.ref m]) (k' := 1) (n' := 8) C (c_X5_left (z_l X) (z_G X) ((z_up_n _ _ (Ne.symm (z_neN ((z_up_n _ _ (z_ne h_pn h_m (by intro h; cases h))).trans h_pn) hq_40))).trans (z_up_s _ _ _))) (cs_X5_43 C (by decide)) rfl rfl (Nat.le_of_ble_eq_true rfl) rfl rfl (by decide) (by decide) dX5_twin_51 (fun x51 M' hq => ?_)
  obtain ⟨rfl, rfl⟩ := hq
  refine z_callVi (rest := []) (k' := 1) (n' := 8) C (c_X5_did (z_l X) (z_G X) ((z_up_n _ _ (z_ne h_m h_pn (by intro h; cases h))).trans ((z_up_n _ _ (z_neN (z_up_s _ _ _) hq_40)).trans (z_up_s _ _ _)))) (cs_X5_63 C (by decide)) ((z_up_n _ _ (z_ne h_m h_pn (by intro h; cases h))).trans ((z_up_n _ _ (z_neN (z_up_s _ _ _) hq_40)).trans (z_up_s _ _ _))) rfl rfl rfl rfl (Nat.le_of_ble_eq_true rfl) rfl rfl (by decide) (by decide) dX5_twin_54 (fun x54 M' hq => ?_)
  obtain ⟨rfl, rfl⟩ := hq
  rw [z_up_swap _ (z_neN (z_up_s _ _ _) hq_40)]
  rw [z_up_swap _ (z_ne h_m h_pn (by intro h; cases h))]
  rw [z_up_up]
  exact ret dX5_twin_57 rfl (⟨q_40, hq_40, rfl, rfl⟩) (by decide) (by decide)
set_option maxRecDepth 20000 in
theorem c_X5_reader_bad (l : Launch) (G : zG) {M : zM} {m : Nat} {pane : Int32} {other : Int32} {tp : Nat} {nr : Int32} {pn : Nat} {td : Nat} {ac : Int32} {kn : Int32} {th : Int32}  (h_m : M m = some (cMd tp nr pn td ac kn th)) (h_bad : z_is pane 0 5 = 0) : z_Mi l G qX5_reader (z_rm 3 1 8) [.ref m, .int pane, .int other] M (fun r M' => r = 0 ∧ M' = z_up M m (cMd tp nr pn td ac kn (z_lt 0 1)))  := by
  refine z_Mi_of _ (plainFor_of_name rfl) rfl (Nat.le_of_ble_eq_true rfl) (fun X hl hG hnm C ret => ?_)
  subst hl; subst hG
  have C : z_C X cX5_reader RX5 3 (z_rm 3 1 8) := C
  show z_W X M 0 0 0 [(0, .ref m), (1, .int pane), (2, .int other)] []
  refine z_aload_n C dX5_reader_0 rfl 0 rfl ?_
  refine z_iload_n C dX5_reader_1 rfl 1 rfl ?_
  refine z_callSi (rest := [.ref m]) (k' := 0) (n' := 0) C (c_X5_isPane (z_l X) (z_G X) ) (cs_X5_55 C (by decide)) rfl rfl (Nat.le_of_ble_eq_true rfl) rfl rfl (by decide) (by decide) dX5_reader_2 (fun x2 M' hq => ?_)
  obtain ⟨rfl, rfl⟩ := hq
  refine z_if_eq C (tgt := 19) dX5_reader_5 (by decide) (fun _ => ?_) (fun c5 => absurd h_bad c5)
  refine z_iconst C (v := 0) dX5_reader_19 (by decide) ?_
  refine z_iconst C (v := 1) dX5_reader_20 (by decide) ?_
  refine z_callVi (rest := []) (k' := 0) (n' := 0) C (c_X5_isLet (z_l X) (z_G X) h_m) (cs_X5_59 C (by decide)) h_m rfl rfl rfl rfl (Nat.le_of_ble_eq_true rfl) rfl rfl (by decide) (by decide) dX5_reader_21 (fun x21 M' hq => ?_)
  obtain ⟨rfl, rfl⟩ := hq
  refine z_if_ne C (tgt := 29) dX5_reader_24 (by decide) (fun c24 => absurd (by simp [z_lr, z_lt]) c24) (fun _ => ?_)
  refine z_iconst C (v := 0) dX5_reader_27 (by decide) ?_
  exact ret dX5_reader_28 rfl (⟨rfl, rfl⟩) (by decide) (by decide)
set_option maxRecDepth 20000 in
theorem c_X5_reader_bad2 (l : Launch) (G : zG) {M : zM} {m : Nat} {pane : Int32} {other : Int32} {tp : Nat} {nr : Int32} {pn : Nat} {td : Nat} {ac : Int32} {kn : Int32} {th : Int32}  (h_m : M m = some (cMd tp nr pn td ac kn th)) (h_ok : z_is pane 0 5 = 1) (h_bad2 : z_is other 0 5 = 0) : z_Mi l G qX5_reader (z_rm 3 1 8) [.ref m, .int pane, .int other] M (fun r M' => r = 0 ∧ M' = z_up M m (cMd tp nr pn td ac kn (z_lt 0 1)))  := by
  refine z_Mi_of _ (plainFor_of_name rfl) rfl (Nat.le_of_ble_eq_true rfl) (fun X hl hG hnm C ret => ?_)
  subst hl; subst hG
  have C : z_C X cX5_reader RX5 3 (z_rm 3 1 8) := C
  show z_W X M 0 0 0 [(0, .ref m), (1, .int pane), (2, .int other)] []
  refine z_aload_n C dX5_reader_0 rfl 0 rfl ?_
  refine z_iload_n C dX5_reader_1 rfl 1 rfl ?_
  refine z_callSi (rest := [.ref m]) (k' := 0) (n' := 0) C (c_X5_isPane (z_l X) (z_G X) ) (cs_X5_55 C (by decide)) rfl rfl (Nat.le_of_ble_eq_true rfl) rfl rfl (by decide) (by decide) dX5_reader_2 (fun x2 M' hq => ?_)
  obtain ⟨rfl, rfl⟩ := hq
  refine z_if_eq C (tgt := 19) dX5_reader_5 (by decide) (fun c5 => absurd c5 (by rw [h_ok]; decide)) (fun _ => ?_)
  refine z_iload_n C dX5_reader_8 rfl 2 rfl ?_
  refine z_callSi (rest := [.ref m]) (k' := 0) (n' := 0) C (c_X5_isPane (z_l X) (z_G X) ) (cs_X5_55 C (by decide)) rfl rfl (Nat.le_of_ble_eq_true rfl) rfl rfl (by decide) (by decide) dX5_reader_9 (fun x9 M' hq => ?_)
  obtain ⟨rfl, rfl⟩ := hq
  refine z_if_eq C (tgt := 19) dX5_reader_12 (by decide) (fun _ => ?_) (fun c12 => absurd h_bad2 c12)
  refine z_iconst C (v := 0) dX5_reader_19 (by decide) ?_
  refine z_iconst C (v := 1) dX5_reader_20 (by decide) ?_
  refine z_callVi (rest := []) (k' := 0) (n' := 0) C (c_X5_isLet (z_l X) (z_G X) h_m) (cs_X5_59 C (by decide)) h_m rfl rfl rfl rfl (Nat.le_of_ble_eq_true rfl) rfl rfl (by decide) (by decide) dX5_reader_21 (fun x21 M' hq => ?_)
  obtain ⟨rfl, rfl⟩ := hq
  refine z_if_ne C (tgt := 29) dX5_reader_24 (by decide) (fun c24 => absurd (by simp [z_lr, z_lt]) c24) (fun _ => ?_)
  refine z_iconst C (v := 0) dX5_reader_27 (by decide) ?_
  exact ret dX5_reader_28 rfl (⟨rfl, rfl⟩) (by decide) (by decide)
set_option maxRecDepth 20000 in
theorem c_X5_reader (l : Launch) (G : zG) {M : zM} {m : Nat} {pane : Int32} {other : Int32} {tp : Nat} {nr : Int32} {pn : Nat} {td : Nat} {ac : Int32} {kn : Int32} {th : Int32} {fp : Nat → Option Nat} {p : Nat} {ro : Int32} {ba : Int32} {sa : Int32} {cp : Int32} {po : Int32} {li : Int32} {mk : Int32} {rd : Int32} {p2 : Nat} {ro2 : Int32} {ba2 : Int32} {sa2 : Int32} {cp2 : Int32} {po2 : Int32} {li2 : Int32} {mk2 : Int32} {rd2 : Int32} {i i2 : Nat}  (h_m : M m = some (cMd tp nr pn td ac kn th)) (h_pn : M pn = some (aII G 6 fp)) (h_p : M p = some (cPm G ro ba sa cp po li mk rd)) (h_p2 : M p2 = some (cPm G ro2 ba2 sa2 cp2 po2 li2 mk2 rd2)) (h_ok : z_is pane 0 5 = 1) (h_ip : vp_in pane 6) (h_ij : pane.toNatClampNeg = i) (h_fp : fp i = some p) (h_ok2 : z_is other 0 5 = 1) (h_ip2 : vp_in other 6) (h_ij2 : other.toNatClampNeg = i2) (h_fp2 : fp i2 = some p2) : z_Mi l G qX5_reader (z_rm 3 1 8) [.ref m, .int pane, .int other] M (fun r M' => ∃ q_40 : Nat, (z_up M m (cMd tp nr pn td ac kn (z_lt 1 1))) q_40 = none ∧ r = (li2 - po2) ∧ M' = z_up (z_up (z_up M pn (aII G 6 (va_up fp i (some q_40)))) q_40 (cPm G ro2 ba2 sa2 cp2 po2 li2 mk2 1)) m (cMd tp nr pn td (ac + 1) kn (z_lt 1 1)))  := by
  refine z_Mi_of _ (plainFor_of_name rfl) rfl (Nat.le_of_ble_eq_true rfl) (fun X hl hG hnm C ret => ?_)
  subst hl; subst hG
  have C : z_C X cX5_reader RX5 3 (z_rm 3 1 8) := C
  show z_W X M 0 0 0 [(0, .ref m), (1, .int pane), (2, .int other)] []
  refine z_aload_n C dX5_reader_0 rfl 0 rfl ?_
  refine z_iload_n C dX5_reader_1 rfl 1 rfl ?_
  refine z_callSi (rest := [.ref m]) (k' := 0) (n' := 0) C (c_X5_isPane (z_l X) (z_G X) ) (cs_X5_55 C (by decide)) rfl rfl (Nat.le_of_ble_eq_true rfl) rfl rfl (by decide) (by decide) dX5_reader_2 (fun x2 M' hq => ?_)
  obtain ⟨rfl, rfl⟩ := hq
  refine z_if_eq C (tgt := 19) dX5_reader_5 (by decide) (fun c5 => absurd c5 (by rw [h_ok]; decide)) (fun _ => ?_)
  refine z_iload_n C dX5_reader_8 rfl 2 rfl ?_
  refine z_callSi (rest := [.ref m]) (k' := 0) (n' := 0) C (c_X5_isPane (z_l X) (z_G X) ) (cs_X5_55 C (by decide)) rfl rfl (Nat.le_of_ble_eq_true rfl) rfl rfl (by decide) (by decide) dX5_reader_9 (fun x9 M' hq => ?_)
  obtain ⟨rfl, rfl⟩ := hq
  refine z_if_eq C (tgt := 19) dX5_reader_12 (by decide) (fun c12 => absurd c12 (by rw [h_ok2]; decide)) (fun _ => ?_)
  refine z_iconst C (v := 1) dX5_reader_15 (by decide) ?_
  refine z_goto C (tgt := 20) dX5_reader_16 (by decide) ?_
  refine z_iconst C (v := 1) dX5_reader_20 (by decide) ?_
  refine z_callVi (rest := []) (k' := 0) (n' := 0) C (c_X5_isLet (z_l X) (z_G X) h_m) (cs_X5_59 C (by decide)) h_m rfl rfl rfl rfl (Nat.le_of_ble_eq_true rfl) rfl rfl (by decide) (by decide) dX5_reader_21 (fun x21 M' hq => ?_)
  obtain ⟨rfl, rfl⟩ := hq
  refine z_if_ne C (tgt := 29) dX5_reader_24 (by decide) (fun _ => ?_) (fun c24 => absurd c24 (by simp [z_lr, z_lt]))
  refine z_aload_n C dX5_reader_29 rfl 0 rfl ?_
  refine gf_X5_18 C (z_up_s _ _ _) dX5_reader_30 ?_
  refine z_iload_n C dX5_reader_33 rfl 1 rfl ?_
  refine z_aload_n C dX5_reader_34 rfl 0 rfl ?_
  refine gf_X5_18 C (z_up_s _ _ _) dX5_reader_35 ?_
  refine z_iload_n C dX5_reader_38 rfl 2 rfl ?_
  refine z_aaldI (j := i2) C ((z_up_n _ _ (z_ne h_pn h_m (by intro h; cases h))).trans h_pn) h_ip2 h_ij2 h_fp2 dX5_reader_39 ?_
  refine z_callSr (rest := [.int pane, .ref pn]) (k' := 1) (n' := 8) C (c_X5_like (z_l X) (z_G X) ((z_up_n _ _ (z_ne h_p2 h_m (by intro h; cases h))).trans h_p2)) (cs_X5_66 C (by decide)) rfl rfl (Nat.le_of_ble_eq_true rfl) rfl rfl (by decide) (by decide) dX5_reader_40 (fun x40 M' hq => ?_)
  obtain ⟨q_40, hq_40, hr40, rfl⟩ := hq
  rw [hr40]
  refine z_aastII (j := i) C kn1042 ((z_up_n _ _ (z_neN ((z_up_n _ _ (z_ne h_pn h_m (by intro h; cases h))).trans h_pn) hq_40)).trans ((z_up_n _ _ (z_ne h_pn h_m (by intro h; cases h))).trans h_pn)) (z_up_s _ _ _) h_ip h_ij dX5_reader_43 ?_
  refine z_aload_n C dX5_reader_44 rfl 0 rfl ?_
  refine gf_X5_18 C ((z_up_n _ _ (z_ne h_m h_pn (by intro h; cases h))).trans ((z_up_n _ _ (z_neN (z_up_s _ _ _) hq_40)).trans (z_up_s _ _ _))) dX5_reader_45 ?_
  refine z_iload_n C dX5_reader_48 rfl 1 rfl ?_
  refine z_aaldI (j := i) C (z_up_s _ _ _) h_ip h_ij (va_up_self _ _ _) dX5_reader_49 ?_
  refine z_bipush C (v := 7) dX5_reader_50 (by decide) ?_
  refine z_iconst C (v := 1) dX5_reader_52 (by decide) ?_
  rw [z_up_swap _ (Ne.symm (z_neN ((z_up_n _ _ (z_ne h_pn h_m (by intro h; cases h))).trans h_pn) hq_40))]
  refine z_pt7 C dX5_reader_53 ?_
  refine z_aload_n C dX5_reader_54 rfl 0 rfl ?_
  refine z_aload_n C dX5_reader_55 rfl 0 rfl ?_
  refine gf_X5_18 C ((z_up_n _ _ (z_neN (z_up_s _ _ _) hq_40)).trans ((z_up_n _ _ (z_ne h_m h_pn (by intro h; cases h))).trans (z_up_s _ _ _))) dX5_reader_56 ?_
  refine z_iload_n C dX5_reader_59 rfl 1 rfl ?_
  refine z_aaldI (j := i) C ((z_up_n _ _ (z_neN ((z_up_n _ _ (z_ne h_pn h_m (by intro h; cases h))).trans h_pn) hq_40)).trans (z_up_s _ _ _)) h_ip h_ij (va_up_self _ _ _) dX5_reader_60 ?_
  refine z_callSi (rest := [.ref m]) (k' := 1) (n' := 8) C (c_X5_left (z_l X) (z_G X) (z_up_s _ _ _)) (cs_X5_43 C (by decide)) rfl rfl (Nat.le_of_ble_eq_true rfl) rfl rfl (by decide) (by decide) dX5_reader_61 (fun x61 M' hq => ?_)
  obtain ⟨rfl, rfl⟩ := hq
  refine z_callVi (rest := []) (k' := 1) (n' := 8) C (c_X5_did (z_l X) (z_G X) ((z_up_n _ _ (z_neN (z_up_s _ _ _) hq_40)).trans ((z_up_n _ _ (z_ne h_m h_pn (by intro h; cases h))).trans (z_up_s _ _ _)))) (cs_X5_63 C (by decide)) ((z_up_n _ _ (z_neN (z_up_s _ _ _) hq_40)).trans ((z_up_n _ _ (z_ne h_m h_pn (by intro h; cases h))).trans (z_up_s _ _ _))) rfl rfl rfl rfl (Nat.le_of_ble_eq_true rfl) rfl rfl (by decide) (by decide) dX5_reader_64 (fun x64 M' hq => ?_)
  obtain ⟨rfl, rfl⟩ := hq
  rw [z_up_swap _ (z_ne h_m h_pn (by intro h; cases h))]
  rw [z_up_swap _ (z_neN (z_up_s _ _ _) hq_40)]
  rw [z_up_up]
  exact ret dX5_reader_67 rfl (⟨q_40, hq_40, rfl, rfl⟩) (by decide) (by decide)
set_option maxRecDepth 20000 in
theorem c_X5_rest_bad (l : Launch) (G : zG) {M : zM} {m : Nat} {pane : Int32} {other : Int32} {tp : Nat} {nr : Int32} {pn : Nat} {td : Nat} {ac : Int32} {kn : Int32} {th : Int32}  (h_m : M m = some (cMd tp nr pn td ac kn th)) (h_bad : z_is pane 0 5 = 0) : z_Mi l G qX5_rest (z_rm 3 1 8) [.ref m, .int pane, .int other] M (fun r M' => r = 0 ∧ M' = z_up M m (cMd tp nr pn td ac kn (z_lt 0 1)))  := by
  refine z_Mi_of _ (plainFor_of_name rfl) rfl (Nat.le_of_ble_eq_true rfl) (fun X hl hG hnm C ret => ?_)
  subst hl; subst hG
  have C : z_C X cX5_rest RX5 3 (z_rm 3 1 8) := C
  show z_W X M 0 0 0 [(0, .ref m), (1, .int pane), (2, .int other)] []
  refine z_aload_n C dX5_rest_0 rfl 0 rfl ?_
  refine z_iload_n C dX5_rest_1 rfl 1 rfl ?_
  refine z_callSi (rest := [.ref m]) (k' := 0) (n' := 0) C (c_X5_isPane (z_l X) (z_G X) ) (cs_X5_55 C (by decide)) rfl rfl (Nat.le_of_ble_eq_true rfl) rfl rfl (by decide) (by decide) dX5_rest_2 (fun x2 M' hq => ?_)
  obtain ⟨rfl, rfl⟩ := hq
  refine z_if_eq C (tgt := 19) dX5_rest_5 (by decide) (fun _ => ?_) (fun c5 => absurd h_bad c5)
  refine z_iconst C (v := 0) dX5_rest_19 (by decide) ?_
  refine z_iconst C (v := 1) dX5_rest_20 (by decide) ?_
  refine z_callVi (rest := []) (k' := 0) (n' := 0) C (c_X5_isLet (z_l X) (z_G X) h_m) (cs_X5_59 C (by decide)) h_m rfl rfl rfl rfl (Nat.le_of_ble_eq_true rfl) rfl rfl (by decide) (by decide) dX5_rest_21 (fun x21 M' hq => ?_)
  obtain ⟨rfl, rfl⟩ := hq
  refine z_if_ne C (tgt := 29) dX5_rest_24 (by decide) (fun c24 => absurd (by simp [z_lr, z_lt]) c24) (fun _ => ?_)
  refine z_iconst C (v := 0) dX5_rest_27 (by decide) ?_
  exact ret dX5_rest_28 rfl (⟨rfl, rfl⟩) (by decide) (by decide)
set_option maxRecDepth 20000 in
theorem c_X5_rest_bad2 (l : Launch) (G : zG) {M : zM} {m : Nat} {pane : Int32} {other : Int32} {tp : Nat} {nr : Int32} {pn : Nat} {td : Nat} {ac : Int32} {kn : Int32} {th : Int32}  (h_m : M m = some (cMd tp nr pn td ac kn th)) (h_ok : z_is pane 0 5 = 1) (h_bad2 : z_is other 0 5 = 0) : z_Mi l G qX5_rest (z_rm 3 1 8) [.ref m, .int pane, .int other] M (fun r M' => r = 0 ∧ M' = z_up M m (cMd tp nr pn td ac kn (z_lt 0 1)))  := by
  refine z_Mi_of _ (plainFor_of_name rfl) rfl (Nat.le_of_ble_eq_true rfl) (fun X hl hG hnm C ret => ?_)
  subst hl; subst hG
  have C : z_C X cX5_rest RX5 3 (z_rm 3 1 8) := C
  show z_W X M 0 0 0 [(0, .ref m), (1, .int pane), (2, .int other)] []
  refine z_aload_n C dX5_rest_0 rfl 0 rfl ?_
  refine z_iload_n C dX5_rest_1 rfl 1 rfl ?_
  refine z_callSi (rest := [.ref m]) (k' := 0) (n' := 0) C (c_X5_isPane (z_l X) (z_G X) ) (cs_X5_55 C (by decide)) rfl rfl (Nat.le_of_ble_eq_true rfl) rfl rfl (by decide) (by decide) dX5_rest_2 (fun x2 M' hq => ?_)
  obtain ⟨rfl, rfl⟩ := hq
  refine z_if_eq C (tgt := 19) dX5_rest_5 (by decide) (fun c5 => absurd c5 (by rw [h_ok]; decide)) (fun _ => ?_)
  refine z_iload_n C dX5_rest_8 rfl 2 rfl ?_
  refine z_callSi (rest := [.ref m]) (k' := 0) (n' := 0) C (c_X5_isPane (z_l X) (z_G X) ) (cs_X5_55 C (by decide)) rfl rfl (Nat.le_of_ble_eq_true rfl) rfl rfl (by decide) (by decide) dX5_rest_9 (fun x9 M' hq => ?_)
  obtain ⟨rfl, rfl⟩ := hq
  refine z_if_eq C (tgt := 19) dX5_rest_12 (by decide) (fun _ => ?_) (fun c12 => absurd h_bad2 c12)
  refine z_iconst C (v := 0) dX5_rest_19 (by decide) ?_
  refine z_iconst C (v := 1) dX5_rest_20 (by decide) ?_
  refine z_callVi (rest := []) (k' := 0) (n' := 0) C (c_X5_isLet (z_l X) (z_G X) h_m) (cs_X5_59 C (by decide)) h_m rfl rfl rfl rfl (Nat.le_of_ble_eq_true rfl) rfl rfl (by decide) (by decide) dX5_rest_21 (fun x21 M' hq => ?_)
  obtain ⟨rfl, rfl⟩ := hq
  refine z_if_ne C (tgt := 29) dX5_rest_24 (by decide) (fun c24 => absurd (by simp [z_lr, z_lt]) c24) (fun _ => ?_)
  refine z_iconst C (v := 0) dX5_rest_27 (by decide) ?_
  exact ret dX5_rest_28 rfl (⟨rfl, rfl⟩) (by decide) (by decide)
set_option maxRecDepth 20000 in
theorem c_X5_rest (l : Launch) (G : zG) {M : zM} {m : Nat} {pane : Int32} {other : Int32} {tp : Nat} {nr : Int32} {pn : Nat} {td : Nat} {ac : Int32} {kn : Int32} {th : Int32} {fp : Nat → Option Nat} {p : Nat} {ro : Int32} {ba : Int32} {sa : Int32} {cp : Int32} {po : Int32} {li : Int32} {mk : Int32} {rd : Int32} {p2 : Nat} {ro2 : Int32} {ba2 : Int32} {sa2 : Int32} {cp2 : Int32} {po2 : Int32} {li2 : Int32} {mk2 : Int32} {rd2 : Int32} {i i2 : Nat}  (h_m : M m = some (cMd tp nr pn td ac kn th)) (h_pn : M pn = some (aII G 6 fp)) (h_p : M p = some (cPm G ro ba sa cp po li mk rd)) (h_p2 : M p2 = some (cPm G ro2 ba2 sa2 cp2 po2 li2 mk2 rd2)) (h_ok : z_is pane 0 5 = 1) (h_ip : vp_in pane 6) (h_ij : pane.toNatClampNeg = i) (h_fp : fp i = some p) (h_ok2 : z_is other 0 5 = 1) (h_ip2 : vp_in other 6) (h_ij2 : other.toNatClampNeg = i2) (h_fp2 : fp i2 = some p2) : z_Mi l G qX5_rest (z_rm 3 1 8) [.ref m, .int pane, .int other] M (fun r M' => ∃ q_13_54 : Nat, (z_up M m (cMd tp nr pn td ac kn (z_lt 1 1))) q_13_54 = none ∧ r = (li2 - po2) ∧ M' = z_up (z_up (z_up M q_13_54 (cPm G ro2 ba2 (sa2 + po2) (li2 - po2) 0 (li2 - po2) (-1) rd2)) pn (aII G 6 (va_up fp i (some q_13_54)))) m (cMd tp nr pn td (ac + 1) kn (z_lt 1 1)))  := by
  refine z_Mi_of _ (plainFor_of_name rfl) rfl (Nat.le_of_ble_eq_true rfl) (fun X hl hG hnm C ret => ?_)
  subst hl; subst hG
  have C : z_C X cX5_rest RX5 3 (z_rm 3 1 8) := C
  show z_W X M 0 0 0 [(0, .ref m), (1, .int pane), (2, .int other)] []
  refine z_aload_n C dX5_rest_0 rfl 0 rfl ?_
  refine z_iload_n C dX5_rest_1 rfl 1 rfl ?_
  refine z_callSi (rest := [.ref m]) (k' := 0) (n' := 0) C (c_X5_isPane (z_l X) (z_G X) ) (cs_X5_55 C (by decide)) rfl rfl (Nat.le_of_ble_eq_true rfl) rfl rfl (by decide) (by decide) dX5_rest_2 (fun x2 M' hq => ?_)
  obtain ⟨rfl, rfl⟩ := hq
  refine z_if_eq C (tgt := 19) dX5_rest_5 (by decide) (fun c5 => absurd c5 (by rw [h_ok]; decide)) (fun _ => ?_)
  refine z_iload_n C dX5_rest_8 rfl 2 rfl ?_
  refine z_callSi (rest := [.ref m]) (k' := 0) (n' := 0) C (c_X5_isPane (z_l X) (z_G X) ) (cs_X5_55 C (by decide)) rfl rfl (Nat.le_of_ble_eq_true rfl) rfl rfl (by decide) (by decide) dX5_rest_9 (fun x9 M' hq => ?_)
  obtain ⟨rfl, rfl⟩ := hq
  refine z_if_eq C (tgt := 19) dX5_rest_12 (by decide) (fun c12 => absurd c12 (by rw [h_ok2]; decide)) (fun _ => ?_)
  refine z_iconst C (v := 1) dX5_rest_15 (by decide) ?_
  refine z_goto C (tgt := 20) dX5_rest_16 (by decide) ?_
  refine z_iconst C (v := 1) dX5_rest_20 (by decide) ?_
  refine z_callVi (rest := []) (k' := 0) (n' := 0) C (c_X5_isLet (z_l X) (z_G X) h_m) (cs_X5_59 C (by decide)) h_m rfl rfl rfl rfl (Nat.le_of_ble_eq_true rfl) rfl rfl (by decide) (by decide) dX5_rest_21 (fun x21 M' hq => ?_)
  obtain ⟨rfl, rfl⟩ := hq
  refine z_if_ne C (tgt := 29) dX5_rest_24 (by decide) (fun _ => ?_) (fun c24 => absurd c24 (by simp [z_lr, z_lt]))
  refine z_aload_n C dX5_rest_29 rfl 0 rfl ?_
  refine z_iload_n C dX5_rest_30 rfl 1 rfl ?_
  refine z_aload_n C dX5_rest_31 rfl 0 rfl ?_
  refine gf_X5_18 C (z_up_s _ _ _) dX5_rest_32 ?_
  refine z_iload_n C dX5_rest_35 rfl 2 rfl ?_
  refine z_aaldI (j := i2) C ((z_up_n _ _ (z_ne h_pn h_m (by intro h; cases h))).trans h_pn) h_ip2 h_ij2 h_fp2 dX5_rest_36 ?_
  refine z_aload_n C dX5_rest_37 rfl 0 rfl ?_
  refine gf_X5_18 C (z_up_s _ _ _) dX5_rest_38 ?_
  refine z_iload_n C dX5_rest_41 rfl 2 rfl ?_
  refine z_aaldI (j := i2) C ((z_up_n _ _ (z_ne h_pn h_m (by intro h; cases h))).trans h_pn) h_ip2 h_ij2 h_fp2 dX5_rest_42 ?_
  refine z_iconst C (v := 4) dX5_rest_43 (by decide) ?_
  refine z_pl4 C ((z_up_n _ _ (z_ne h_p2 h_m (by intro h; cases h))).trans h_p2) dX5_rest_44 ?_
  refine z_aload_n C dX5_rest_45 rfl 0 rfl ?_
  refine gf_X5_18 C (z_up_s _ _ _) dX5_rest_46 ?_
  refine z_iload_n C dX5_rest_49 rfl 2 rfl ?_
  refine z_aaldI (j := i2) C ((z_up_n _ _ (z_ne h_pn h_m (by intro h; cases h))).trans h_pn) h_ip2 h_ij2 h_fp2 dX5_rest_50 ?_
  refine z_callSi (rest := [.int po2, .ref p2, .int pane, .ref m]) (k' := 0) (n' := 0) C (c_X5_left (z_l X) (z_G X) ((z_up_n _ _ (z_ne h_p2 h_m (by intro h; cases h))).trans h_p2)) (cs_X5_43 C (by decide)) rfl rfl (Nat.le_of_ble_eq_true rfl) rfl rfl (by decide) (by decide) dX5_rest_51 (fun x51 M' hq => ?_)
  obtain ⟨rfl, rfl⟩ := hq
  refine z_callVi (rest := []) (k' := 1) (n' := 8) C (c_X5_cut (z_l X) (z_G X) (z_up_s _ _ _) ((z_up_n _ _ (z_ne h_pn h_m (by intro h; cases h))).trans h_pn) ((z_up_n _ _ (z_ne h_p2 h_m (by intro h; cases h))).trans h_p2) h_ip h_ij) (cs_X5_70 C (by decide)) (z_up_s _ _ _) rfl rfl rfl rfl (Nat.le_of_ble_eq_true rfl) rfl rfl (by decide) (by decide) dX5_rest_54 (fun x54 M' hq => ?_)
  obtain ⟨q_13_54, hq_13_54, rfl, rfl⟩ := hq
  rw [z_up_swap _ (z_neN (z_up_s _ _ _) hq_13_54)]
  rw [z_up_swap _ (z_ne h_m h_pn (by intro h; cases h))]
  rw [z_up_up]
  exact ret dX5_rest_57 rfl (⟨q_13_54, hq_13_54, rfl, rfl⟩) (by decide) (by decide)
set_option maxRecDepth 20000 in
theorem c_X5_part_bad (l : Launch) (G : zG) {M : zM} {m : Nat} {pane : Int32} {other : Int32} {ix0 : Int32} {mn : Int32} {tp : Nat} {nr : Int32} {pn : Nat} {td : Nat} {ac : Int32} {kn : Int32} {th : Int32}  (h_m : M m = some (cMd tp nr pn td ac kn th)) (h_bad : z_is pane 0 5 = 0) : z_Mi l G qX5_part (z_rm 3 1 8) [.ref m, .int pane, .int other, .int ix0, .int mn] M (fun r M' => r = 0 ∧ M' = z_up M m (cMd tp nr pn td ac kn (z_lt 0 1)))  := by
  refine z_Mi_of _ (plainFor_of_name rfl) rfl (Nat.le_of_ble_eq_true rfl) (fun X hl hG hnm C ret => ?_)
  subst hl; subst hG
  have C : z_C X cX5_part RX5 6 (z_rm 3 1 8) := C
  show z_W X M 0 0 0 [(0, .ref m), (1, .int pane), (2, .int other), (3, .int ix0), (4, .int mn)] []
  refine z_aload_n C dX5_part_0 rfl 0 rfl ?_
  refine z_iload_n C dX5_part_1 rfl 1 rfl ?_
  refine z_callSi (rest := [.ref m]) (k' := 0) (n' := 0) C (c_X5_isPane (z_l X) (z_G X) ) (cs_X5_55 C (by decide)) rfl rfl (Nat.le_of_ble_eq_true rfl) rfl rfl (by decide) (by decide) dX5_part_2 (fun x2 M' hq => ?_)
  obtain ⟨rfl, rfl⟩ := hq
  refine z_if_eq C (tgt := 19) dX5_part_5 (by decide) (fun _ => ?_) (fun c5 => absurd h_bad c5)
  refine z_iconst C (v := 0) dX5_part_19 (by decide) ?_
  refine z_iconst C (v := 1) dX5_part_20 (by decide) ?_
  refine z_callVi (rest := []) (k' := 0) (n' := 0) C (c_X5_isLet (z_l X) (z_G X) h_m) (cs_X5_59 C (by decide)) h_m rfl rfl rfl rfl (Nat.le_of_ble_eq_true rfl) rfl rfl (by decide) (by decide) dX5_part_21 (fun x21 M' hq => ?_)
  obtain ⟨rfl, rfl⟩ := hq
  refine z_if_ne C (tgt := 29) dX5_part_24 (by decide) (fun c24 => absurd (by simp [z_lr, z_lt]) c24) (fun _ => ?_)
  refine z_iconst C (v := 0) dX5_part_27 (by decide) ?_
  exact ret dX5_part_28 rfl (⟨rfl, rfl⟩) (by decide) (by decide)
set_option maxRecDepth 20000 in
theorem c_X5_part_bad2 (l : Launch) (G : zG) {M : zM} {m : Nat} {pane : Int32} {other : Int32} {ix0 : Int32} {mn : Int32} {tp : Nat} {nr : Int32} {pn : Nat} {td : Nat} {ac : Int32} {kn : Int32} {th : Int32}  (h_m : M m = some (cMd tp nr pn td ac kn th)) (h_ok : z_is pane 0 5 = 1) (h_bad2 : z_is other 0 5 = 0) : z_Mi l G qX5_part (z_rm 3 1 8) [.ref m, .int pane, .int other, .int ix0, .int mn] M (fun r M' => r = 0 ∧ M' = z_up M m (cMd tp nr pn td ac kn (z_lt 0 1)))  := by
  refine z_Mi_of _ (plainFor_of_name rfl) rfl (Nat.le_of_ble_eq_true rfl) (fun X hl hG hnm C ret => ?_)
  subst hl; subst hG
  have C : z_C X cX5_part RX5 6 (z_rm 3 1 8) := C
  show z_W X M 0 0 0 [(0, .ref m), (1, .int pane), (2, .int other), (3, .int ix0), (4, .int mn)] []
  refine z_aload_n C dX5_part_0 rfl 0 rfl ?_
  refine z_iload_n C dX5_part_1 rfl 1 rfl ?_
  refine z_callSi (rest := [.ref m]) (k' := 0) (n' := 0) C (c_X5_isPane (z_l X) (z_G X) ) (cs_X5_55 C (by decide)) rfl rfl (Nat.le_of_ble_eq_true rfl) rfl rfl (by decide) (by decide) dX5_part_2 (fun x2 M' hq => ?_)
  obtain ⟨rfl, rfl⟩ := hq
  refine z_if_eq C (tgt := 19) dX5_part_5 (by decide) (fun c5 => absurd c5 (by rw [h_ok]; decide)) (fun _ => ?_)
  refine z_iload_n C dX5_part_8 rfl 2 rfl ?_
  refine z_callSi (rest := [.ref m]) (k' := 0) (n' := 0) C (c_X5_isPane (z_l X) (z_G X) ) (cs_X5_55 C (by decide)) rfl rfl (Nat.le_of_ble_eq_true rfl) rfl rfl (by decide) (by decide) dX5_part_9 (fun x9 M' hq => ?_)
  obtain ⟨rfl, rfl⟩ := hq
  refine z_if_eq C (tgt := 19) dX5_part_12 (by decide) (fun _ => ?_) (fun c12 => absurd h_bad2 c12)
  refine z_iconst C (v := 0) dX5_part_19 (by decide) ?_
  refine z_iconst C (v := 1) dX5_part_20 (by decide) ?_
  refine z_callVi (rest := []) (k' := 0) (n' := 0) C (c_X5_isLet (z_l X) (z_G X) h_m) (cs_X5_59 C (by decide)) h_m rfl rfl rfl rfl (Nat.le_of_ble_eq_true rfl) rfl rfl (by decide) (by decide) dX5_part_21 (fun x21 M' hq => ?_)
  obtain ⟨rfl, rfl⟩ := hq
  refine z_if_ne C (tgt := 29) dX5_part_24 (by decide) (fun c24 => absurd (by simp [z_lr, z_lt]) c24) (fun _ => ?_)
  refine z_iconst C (v := 0) dX5_part_27 (by decide) ?_
  exact ret dX5_part_28 rfl (⟨rfl, rfl⟩) (by decide) (by decide)
set_option maxRecDepth 20000 in
theorem c_X5_part (l : Launch) (G : zG) {M : zM} {m : Nat} {pane : Int32} {other : Int32} {ix0 : Int32} {mn : Int32} {tp : Nat} {nr : Int32} {pn : Nat} {td : Nat} {ac : Int32} {kn : Int32} {th : Int32} {fd : Nat → Int32} {fp : Nat → Option Nat} {p : Nat} {ro : Int32} {ba : Int32} {sa : Int32} {cp : Int32} {po : Int32} {li : Int32} {mk : Int32} {rd : Int32} {p2 : Nat} {ro2 : Int32} {ba2 : Int32} {sa2 : Int32} {cp2 : Int32} {po2 : Int32} {li2 : Int32} {mk2 : Int32} {rd2 : Int32} {i i2 : Nat}  (h_m : M m = some (cMd tp nr pn td ac kn th)) (h_td : M td = some (aI G 6 fd)) (h_pn : M pn = some (aII G 6 fp)) (h_p : M p = some (cPm G ro ba sa cp po li mk rd)) (h_p2 : M p2 = some (cPm G ro2 ba2 sa2 cp2 po2 li2 mk2 rd2)) (h_ok : z_is pane 0 5 = 1) (h_ip : vp_in pane 6) (h_ij : pane.toNatClampNeg = i) (h_fp : fp i = some p) (h_ok2 : z_is other 0 5 = 1) (h_ip2 : vp_in other 6) (h_ij2 : other.toNatClampNeg = i2) (h_fp2 : fp i2 = some p2) (n_p_td : p ≠ td) (n_p2_td : p2 ≠ td) : z_Mi l G qX5_part (z_rm 3 1 8) [.ref m, .int pane, .int other, .int ix0, .int mn] M (fun r M' => (((z_is ix0 0 li2) = 0) ∧ r = (-9) ∧ M' = z_up (z_up M m (cMd tp nr pn td ac kn (z_lt 1 1))) td (aI G 6 (upd fd 5 ((fd 5) + 1)))) ∨ (∃ q_13_79 : Nat, (z_up M m (cMd tp nr pn td ac kn (z_lt 1 1))) q_13_79 = none ∧ (¬ (z_is ix0 0 li2) = 0) ∧ (¬ (z_is mn 0 (li2 - ix0)) = 0) ∧ r = mn ∧ M' = z_up (z_up (z_up M q_13_79 (cPm G ro2 ba2 (sa2 + ix0) mn 0 mn (-1) rd2)) pn (aII G 6 (va_up fp i (some q_13_79)))) m (cMd tp nr pn td (ac + 1) kn (z_lt 1 1))) ∨ ((¬ (z_is ix0 0 li2) = 0) ∧ ((z_is mn 0 (li2 - ix0)) = 0) ∧ r = (-9) ∧ M' = z_up (z_up M m (cMd tp nr pn td ac kn (z_lt 1 1))) td (aI G 6 (upd fd 5 ((fd 5) + 1)))))  := by
  refine z_Mi_of _ (plainFor_of_name rfl) rfl (Nat.le_of_ble_eq_true rfl) (fun X hl hG hnm C ret => ?_)
  subst hl; subst hG
  have C : z_C X cX5_part RX5 6 (z_rm 3 1 8) := C
  show z_W X M 0 0 0 [(0, .ref m), (1, .int pane), (2, .int other), (3, .int ix0), (4, .int mn)] []
  refine z_aload_n C dX5_part_0 rfl 0 rfl ?_
  refine z_iload_n C dX5_part_1 rfl 1 rfl ?_
  refine z_callSi (rest := [.ref m]) (k' := 0) (n' := 0) C (c_X5_isPane (z_l X) (z_G X) ) (cs_X5_55 C (by decide)) rfl rfl (Nat.le_of_ble_eq_true rfl) rfl rfl (by decide) (by decide) dX5_part_2 (fun x2 M' hq => ?_)
  obtain ⟨rfl, rfl⟩ := hq
  refine z_if_eq C (tgt := 19) dX5_part_5 (by decide) (fun c5 => absurd c5 (by rw [h_ok]; decide)) (fun _ => ?_)
  refine z_iload_n C dX5_part_8 rfl 2 rfl ?_
  refine z_callSi (rest := [.ref m]) (k' := 0) (n' := 0) C (c_X5_isPane (z_l X) (z_G X) ) (cs_X5_55 C (by decide)) rfl rfl (Nat.le_of_ble_eq_true rfl) rfl rfl (by decide) (by decide) dX5_part_9 (fun x9 M' hq => ?_)
  obtain ⟨rfl, rfl⟩ := hq
  refine z_if_eq C (tgt := 19) dX5_part_12 (by decide) (fun c12 => absurd c12 (by rw [h_ok2]; decide)) (fun _ => ?_)
  refine z_iconst C (v := 1) dX5_part_15 (by decide) ?_
  refine z_goto C (tgt := 20) dX5_part_16 (by decide) ?_
  refine z_iconst C (v := 1) dX5_part_20 (by decide) ?_
  refine z_callVi (rest := []) (k' := 0) (n' := 0) C (c_X5_isLet (z_l X) (z_G X) h_m) (cs_X5_59 C (by decide)) h_m rfl rfl rfl rfl (Nat.le_of_ble_eq_true rfl) rfl rfl (by decide) (by decide) dX5_part_21 (fun x21 M' hq => ?_)
  obtain ⟨rfl, rfl⟩ := hq
  refine z_if_ne C (tgt := 29) dX5_part_24 (by decide) (fun _ => ?_) (fun c24 => absurd c24 (by simp [z_lr, z_lt]))
  refine z_aload_n C dX5_part_29 rfl 0 rfl ?_
  refine gf_X5_18 C (z_up_s _ _ _) dX5_part_30 ?_
  refine z_iload_n C dX5_part_33 rfl 2 rfl ?_
  refine z_aaldI (j := i2) C ((z_up_n _ _ (z_ne h_pn h_m (by intro h; cases h))).trans h_pn) h_ip2 h_ij2 h_fp2 dX5_part_34 ?_
  refine z_iconst C (v := 5) dX5_part_35 (by decide) ?_
  refine z_pl5 C ((z_up_n _ _ (z_ne h_p2 h_m (by intro h; cases h))).trans h_p2) dX5_part_36 ?_
  refine z_istore (lv' := [(5, .int li2), (0, .ref m), (1, .int pane), (2, .int other), (3, .int ix0), (4, .int mn)]) C dX5_part_37 (by decide) rfl ?_
  refine z_iload_n C dX5_part_39 rfl 4 rfl ?_
  refine z_iconst C (v := 0) dX5_part_40 (by decide) ?_
  refine z_iload C dX5_part_41 0 rfl ?_
  refine z_callSi (rest := []) (k' := 0) (n' := 0) C (c_X5_isIn (z_l X) (z_G X) ) (cs_X5_36 C (by decide)) rfl rfl (Nat.le_of_ble_eq_true rfl) rfl rfl (by decide) (by decide) dX5_part_43 (fun x43 M' hq => ?_)
  obtain ⟨rfl, rfl⟩ := hq
  refine z_if_eq C (tgt := 62) dX5_part_46 (by decide) (fun c46 => ?_) (fun c46 => ?_)
  · refine z_aload_n C dX5_part_62 rfl 1 rfl ?_
    refine z_iconst C (v := 5) dX5_part_63 (by decide) ?_
    refine z_callVi (rest := []) (k' := 0) (n' := 0) C (c_X5_refuse (z_l X) (z_G X) (z_up_s _ _ _) ((z_up_n _ _ (z_ne h_td h_m (by intro h; cases h))).trans h_td) (z_inL (by decide)) (show (5 : Int32).toNatClampNeg = 5 by decide)) (cs_X5_47 C (by decide)) (z_up_s _ _ _) rfl rfl rfl rfl (Nat.le_of_ble_eq_true rfl) rfl rfl (by decide) (by decide) dX5_part_64 (fun x64 M' hq => ?_)
    obtain ⟨rfl, rfl⟩ := hq
    exact ret dX5_part_67 rfl (Or.inl ⟨c46, rfl, rfl⟩) (by decide) (by decide)
  · refine z_iload C dX5_part_49 5 rfl ?_
    refine z_iconst C (v := 0) dX5_part_51 (by decide) ?_
    refine z_iload C dX5_part_52 0 rfl ?_
    refine z_iload_n C dX5_part_54 rfl 4 rfl ?_
    refine z_isub C dX5_part_55 ?_
    refine z_callSi (rest := []) (k' := 0) (n' := 0) C (c_X5_isIn (z_l X) (z_G X) ) (cs_X5_36 C (by decide)) rfl rfl (Nat.le_of_ble_eq_true rfl) rfl rfl (by decide) (by decide) dX5_part_56 (fun x56 M' hq => ?_)
    obtain ⟨rfl, rfl⟩ := hq
    refine z_if_ne C (tgt := 68) dX5_part_59 (by decide) (fun c59 => ?_) (fun c59 => ?_)
    · refine z_aload_n C dX5_part_68 rfl 1 rfl ?_
      refine z_iload_n C dX5_part_69 rfl 2 rfl ?_
      refine z_aload_n C dX5_part_70 rfl 1 rfl ?_
      refine gf_X5_18 C (z_up_s _ _ _) dX5_part_71 ?_
      refine z_iload_n C dX5_part_74 rfl 3 rfl ?_
      refine z_aaldI (j := i2) C ((z_up_n _ _ (z_ne h_pn h_m (by intro h; cases h))).trans h_pn) h_ip2 h_ij2 h_fp2 dX5_part_75 ?_
      refine z_iload_n C dX5_part_76 rfl 4 rfl ?_
      refine z_iload C dX5_part_77 5 rfl ?_
      refine z_callVi (rest := []) (k' := 1) (n' := 8) C (c_X5_cut (z_l X) (z_G X) (z_up_s _ _ _) ((z_up_n _ _ (z_ne h_pn h_m (by intro h; cases h))).trans h_pn) ((z_up_n _ _ (z_ne h_p2 h_m (by intro h; cases h))).trans h_p2) h_ip h_ij) (cs_X5_70 C (by decide)) (z_up_s _ _ _) rfl rfl rfl rfl (Nat.le_of_ble_eq_true rfl) rfl rfl (by decide) (by decide) dX5_part_79 (fun x79 M' hq => ?_)
      obtain ⟨q_13_79, hq_13_79, hr79, rfl⟩ := hq
      rw [hr79]
      rw [z_up_swap _ (z_neN (z_up_s _ _ _) hq_13_79)]
      rw [z_up_swap _ (z_ne h_m h_pn (by intro h; cases h))]
      rw [z_up_up]
      exact ret dX5_part_82 rfl (Or.inr (Or.inl ⟨q_13_79, hq_13_79, c46, c59, rfl, rfl⟩)) (by decide) (by decide)
    · refine z_aload_n C dX5_part_62 rfl 1 rfl ?_
      refine z_iconst C (v := 5) dX5_part_63 (by decide) ?_
      refine z_callVi (rest := []) (k' := 0) (n' := 0) C (c_X5_refuse (z_l X) (z_G X) (z_up_s _ _ _) ((z_up_n _ _ (z_ne h_td h_m (by intro h; cases h))).trans h_td) (z_inL (by decide)) (show (5 : Int32).toNatClampNeg = 5 by decide)) (cs_X5_47 C (by decide)) (z_up_s _ _ _) rfl rfl rfl rfl (Nat.le_of_ble_eq_true rfl) rfl rfl (by decide) (by decide) dX5_part_64 (fun x64 M' hq => ?_)
      obtain ⟨rfl, rfl⟩ := hq
      exact ret dX5_part_67 rfl (Or.inr (Or.inr (⟨c46, c59, rfl, rfl⟩))) (by decide) (by decide)
set_option maxRecDepth 20000 in
theorem c_X5_exchange_bad (l : Launch) (G : zG) {M : zM} {m : Nat} {pane : Int32} {other : Int32} {tp : Nat} {nr : Int32} {pn : Nat} {td : Nat} {ac : Int32} {kn : Int32} {th : Int32}  (h_m : M m = some (cMd tp nr pn td ac kn th)) (h_bad : z_is pane 0 5 = 0) : z_Mi l G qX5_exchange (z_rm 3 0 0) [.ref m, .int pane, .int other] M (fun r M' => r = 0 ∧ M' = z_up M m (cMd tp nr pn td ac kn (z_lt 0 1)))  := by
  refine z_Mi_of _ (plainFor_of_name rfl) rfl (Nat.le_of_ble_eq_true rfl) (fun X hl hG hnm C ret => ?_)
  subst hl; subst hG
  have C : z_C X cX5_exchange RX5 4 (z_rm 3 0 0) := C
  show z_W X M 0 0 0 [(0, .ref m), (1, .int pane), (2, .int other)] []
  refine z_aload_n C dX5_exchange_0 rfl 0 rfl ?_
  refine z_iload_n C dX5_exchange_1 rfl 1 rfl ?_
  refine z_callSi (rest := [.ref m]) (k' := 0) (n' := 0) C (c_X5_isPane (z_l X) (z_G X) ) (cs_X5_55 C (by decide)) rfl rfl (Nat.le_of_ble_eq_true rfl) rfl rfl (by decide) (by decide) dX5_exchange_2 (fun x2 M' hq => ?_)
  obtain ⟨rfl, rfl⟩ := hq
  refine z_if_eq C (tgt := 19) dX5_exchange_5 (by decide) (fun _ => ?_) (fun c5 => absurd h_bad c5)
  refine z_iconst C (v := 0) dX5_exchange_19 (by decide) ?_
  refine z_iconst C (v := 1) dX5_exchange_20 (by decide) ?_
  refine z_callVi (rest := []) (k' := 0) (n' := 0) C (c_X5_isLet (z_l X) (z_G X) h_m) (cs_X5_59 C (by decide)) h_m rfl rfl rfl rfl (Nat.le_of_ble_eq_true rfl) rfl rfl (by decide) (by decide) dX5_exchange_21 (fun x21 M' hq => ?_)
  obtain ⟨rfl, rfl⟩ := hq
  refine z_if_ne C (tgt := 29) dX5_exchange_24 (by decide) (fun c24 => absurd (by simp [z_lr, z_lt]) c24) (fun _ => ?_)
  refine z_iconst C (v := 0) dX5_exchange_27 (by decide) ?_
  exact ret dX5_exchange_28 rfl (⟨rfl, rfl⟩) (by decide) (by decide)
set_option maxRecDepth 20000 in
theorem c_X5_exchange_bad2 (l : Launch) (G : zG) {M : zM} {m : Nat} {pane : Int32} {other : Int32} {tp : Nat} {nr : Int32} {pn : Nat} {td : Nat} {ac : Int32} {kn : Int32} {th : Int32}  (h_m : M m = some (cMd tp nr pn td ac kn th)) (h_ok : z_is pane 0 5 = 1) (h_bad2 : z_is other 0 5 = 0) : z_Mi l G qX5_exchange (z_rm 3 0 0) [.ref m, .int pane, .int other] M (fun r M' => r = 0 ∧ M' = z_up M m (cMd tp nr pn td ac kn (z_lt 0 1)))  := by
  refine z_Mi_of _ (plainFor_of_name rfl) rfl (Nat.le_of_ble_eq_true rfl) (fun X hl hG hnm C ret => ?_)
  subst hl; subst hG
  have C : z_C X cX5_exchange RX5 4 (z_rm 3 0 0) := C
  show z_W X M 0 0 0 [(0, .ref m), (1, .int pane), (2, .int other)] []
  refine z_aload_n C dX5_exchange_0 rfl 0 rfl ?_
  refine z_iload_n C dX5_exchange_1 rfl 1 rfl ?_
  refine z_callSi (rest := [.ref m]) (k' := 0) (n' := 0) C (c_X5_isPane (z_l X) (z_G X) ) (cs_X5_55 C (by decide)) rfl rfl (Nat.le_of_ble_eq_true rfl) rfl rfl (by decide) (by decide) dX5_exchange_2 (fun x2 M' hq => ?_)
  obtain ⟨rfl, rfl⟩ := hq
  refine z_if_eq C (tgt := 19) dX5_exchange_5 (by decide) (fun c5 => absurd c5 (by rw [h_ok]; decide)) (fun _ => ?_)
  refine z_iload_n C dX5_exchange_8 rfl 2 rfl ?_
  refine z_callSi (rest := [.ref m]) (k' := 0) (n' := 0) C (c_X5_isPane (z_l X) (z_G X) ) (cs_X5_55 C (by decide)) rfl rfl (Nat.le_of_ble_eq_true rfl) rfl rfl (by decide) (by decide) dX5_exchange_9 (fun x9 M' hq => ?_)
  obtain ⟨rfl, rfl⟩ := hq
  refine z_if_eq C (tgt := 19) dX5_exchange_12 (by decide) (fun _ => ?_) (fun c12 => absurd h_bad2 c12)
  refine z_iconst C (v := 0) dX5_exchange_19 (by decide) ?_
  refine z_iconst C (v := 1) dX5_exchange_20 (by decide) ?_
  refine z_callVi (rest := []) (k' := 0) (n' := 0) C (c_X5_isLet (z_l X) (z_G X) h_m) (cs_X5_59 C (by decide)) h_m rfl rfl rfl rfl (Nat.le_of_ble_eq_true rfl) rfl rfl (by decide) (by decide) dX5_exchange_21 (fun x21 M' hq => ?_)
  obtain ⟨rfl, rfl⟩ := hq
  refine z_if_ne C (tgt := 29) dX5_exchange_24 (by decide) (fun c24 => absurd (by simp [z_lr, z_lt]) c24) (fun _ => ?_)
  refine z_iconst C (v := 0) dX5_exchange_27 (by decide) ?_
  exact ret dX5_exchange_28 rfl (⟨rfl, rfl⟩) (by decide) (by decide)
set_option maxRecDepth 20000 in
theorem c_X5_exchange (l : Launch) (G : zG) {M : zM} {m : Nat} {pane : Int32} {other : Int32} {tp : Nat} {nr : Int32} {pn : Nat} {td : Nat} {ac : Int32} {kn : Int32} {th : Int32} {fp : Nat → Option Nat} {p : Nat} {ro : Int32} {ba : Int32} {sa : Int32} {cp : Int32} {po : Int32} {li : Int32} {mk : Int32} {rd : Int32} {p2 : Nat} {ro2 : Int32} {ba2 : Int32} {sa2 : Int32} {cp2 : Int32} {po2 : Int32} {li2 : Int32} {mk2 : Int32} {rd2 : Int32} {i i2 : Nat}  (h_m : M m = some (cMd tp nr pn td ac kn th)) (h_pn : M pn = some (aII G 6 fp)) (h_p : M p = some (cPm G ro ba sa cp po li mk rd)) (h_p2 : M p2 = some (cPm G ro2 ba2 sa2 cp2 po2 li2 mk2 rd2)) (h_ok : z_is pane 0 5 = 1) (h_ip : vp_in pane 6) (h_ij : pane.toNatClampNeg = i) (h_fp : fp i = some p) (h_ok2 : z_is other 0 5 = 1) (h_ip2 : vp_in other 6) (h_ij2 : other.toNatClampNeg = i2) (h_fp2 : fp i2 = some p2) : z_Mi l G qX5_exchange (z_rm 3 0 0) [.ref m, .int pane, .int other] M (fun r M' => r = po2 ∧ M' = z_up (z_up M pn (aII G 6 (va_up (va_up fp i (some p2)) i2 (some p)))) m (cMd tp nr pn td (ac + 1) kn (z_lt 1 1)))  := by
  refine z_Mi_of _ (plainFor_of_name rfl) rfl (Nat.le_of_ble_eq_true rfl) (fun X hl hG hnm C ret => ?_)
  subst hl; subst hG
  have C : z_C X cX5_exchange RX5 4 (z_rm 3 0 0) := C
  show z_W X M 0 0 0 [(0, .ref m), (1, .int pane), (2, .int other)] []
  refine z_aload_n C dX5_exchange_0 rfl 0 rfl ?_
  refine z_iload_n C dX5_exchange_1 rfl 1 rfl ?_
  refine z_callSi (rest := [.ref m]) (k' := 0) (n' := 0) C (c_X5_isPane (z_l X) (z_G X) ) (cs_X5_55 C (by decide)) rfl rfl (Nat.le_of_ble_eq_true rfl) rfl rfl (by decide) (by decide) dX5_exchange_2 (fun x2 M' hq => ?_)
  obtain ⟨rfl, rfl⟩ := hq
  refine z_if_eq C (tgt := 19) dX5_exchange_5 (by decide) (fun c5 => absurd c5 (by rw [h_ok]; decide)) (fun _ => ?_)
  refine z_iload_n C dX5_exchange_8 rfl 2 rfl ?_
  refine z_callSi (rest := [.ref m]) (k' := 0) (n' := 0) C (c_X5_isPane (z_l X) (z_G X) ) (cs_X5_55 C (by decide)) rfl rfl (Nat.le_of_ble_eq_true rfl) rfl rfl (by decide) (by decide) dX5_exchange_9 (fun x9 M' hq => ?_)
  obtain ⟨rfl, rfl⟩ := hq
  refine z_if_eq C (tgt := 19) dX5_exchange_12 (by decide) (fun c12 => absurd c12 (by rw [h_ok2]; decide)) (fun _ => ?_)
  refine z_iconst C (v := 1) dX5_exchange_15 (by decide) ?_
  refine z_goto C (tgt := 20) dX5_exchange_16 (by decide) ?_
  refine z_iconst C (v := 1) dX5_exchange_20 (by decide) ?_
  refine z_callVi (rest := []) (k' := 0) (n' := 0) C (c_X5_isLet (z_l X) (z_G X) h_m) (cs_X5_59 C (by decide)) h_m rfl rfl rfl rfl (Nat.le_of_ble_eq_true rfl) rfl rfl (by decide) (by decide) dX5_exchange_21 (fun x21 M' hq => ?_)
  obtain ⟨rfl, rfl⟩ := hq
  refine z_if_ne C (tgt := 29) dX5_exchange_24 (by decide) (fun _ => ?_) (fun c24 => absurd c24 (by simp [z_lr, z_lt]))
  refine z_aload_n C dX5_exchange_29 rfl 0 rfl ?_
  refine gf_X5_18 C (z_up_s _ _ _) dX5_exchange_30 ?_
  refine z_iload_n C dX5_exchange_33 rfl 1 rfl ?_
  refine z_aaldI (j := i) C ((z_up_n _ _ (z_ne h_pn h_m (by intro h; cases h))).trans h_pn) h_ip h_ij h_fp dX5_exchange_34 ?_
  refine z_astore_n (lv' := [(3, .ref p), (0, .ref m), (1, .int pane), (2, .int other)]) C dX5_exchange_35 rfl (by decide) rfl ?_
  refine z_aload_n C dX5_exchange_36 rfl 1 rfl ?_
  refine gf_X5_18 C (z_up_s _ _ _) dX5_exchange_37 ?_
  refine z_iload_n C dX5_exchange_40 rfl 2 rfl ?_
  refine z_aload_n C dX5_exchange_41 rfl 1 rfl ?_
  refine gf_X5_18 C (z_up_s _ _ _) dX5_exchange_42 ?_
  refine z_iload_n C dX5_exchange_45 rfl 3 rfl ?_
  refine z_aaldI (j := i2) C ((z_up_n _ _ (z_ne h_pn h_m (by intro h; cases h))).trans h_pn) h_ip2 h_ij2 h_fp2 dX5_exchange_46 ?_
  refine z_aastII (j := i) C kn1042 ((z_up_n _ _ (z_ne h_pn h_m (by intro h; cases h))).trans h_pn) ((z_up_n _ _ (z_ne h_p2 h_m (by intro h; cases h))).trans h_p2) h_ip h_ij dX5_exchange_47 ?_
  refine z_aload_n C dX5_exchange_48 rfl 1 rfl ?_
  refine gf_X5_18 C ((z_up_n _ _ (z_ne h_m h_pn (by intro h; cases h))).trans (z_up_s _ _ _)) dX5_exchange_49 ?_
  refine z_iload_n C dX5_exchange_52 rfl 3 rfl ?_
  refine z_aload_n C dX5_exchange_53 rfl 0 rfl ?_
  refine z_aastII (j := i2) C kn1042 (z_up_s _ _ _) ((z_up_n _ _ (z_ne h_p h_pn (by intro h; simp at h))).trans ((z_up_n _ _ (z_ne h_p h_m (by intro h; cases h))).trans h_p)) h_ip2 h_ij2 dX5_exchange_54 ?_
  rw [z_up_up]
  refine z_aload_n C dX5_exchange_55 rfl 1 rfl ?_
  refine z_aload_n C dX5_exchange_56 rfl 1 rfl ?_
  refine gf_X5_18 C ((z_up_n _ _ (z_ne h_m h_pn (by intro h; cases h))).trans (z_up_s _ _ _)) dX5_exchange_57 ?_
  refine z_iload_n C dX5_exchange_60 rfl 2 rfl ?_
  refine z_aaldI (j := i) C (z_up_s _ _ _) h_ip h_ij (z_exch h_fp h_fp2) dX5_exchange_61 ?_
  refine z_iconst C (v := 4) dX5_exchange_62 (by decide) ?_
  refine z_pl4 C ((z_up_n _ _ (z_ne h_p2 h_pn (by intro h; simp at h))).trans ((z_up_n _ _ (z_ne h_p2 h_m (by intro h; cases h))).trans h_p2)) dX5_exchange_63 ?_
  refine z_callVi (rest := []) (k' := 0) (n' := 0) C (c_X5_did (z_l X) (z_G X) ((z_up_n _ _ (z_ne h_m h_pn (by intro h; cases h))).trans (z_up_s _ _ _))) (cs_X5_63 C (by decide)) ((z_up_n _ _ (z_ne h_m h_pn (by intro h; cases h))).trans (z_up_s _ _ _)) rfl rfl rfl rfl (Nat.le_of_ble_eq_true rfl) rfl rfl (by decide) (by decide) dX5_exchange_64 (fun x64 M' hq => ?_)
  obtain ⟨hr64, rfl⟩ := hq
  rw [hr64]
  rw [z_up_swap _ (z_ne h_m h_pn (by intro h; cases h))]
  rw [z_up_up]
  exact ret dX5_exchange_67 rfl (⟨rfl, rfl⟩) (by decide) (by decide)
end
section
theorem z_p0 (x : Int32) : x + nI 0 = x := by rw [nI_0, Int32.add_zero]
theorem z_pS (x : Int32) (j : Nat) : x + nI j + 1 = x + nI (j + 1) := by rw [Int32.add_assoc, nI_1]
theorem z_orS {ba sa cp po li : Int32} {nt : Nat} (h : z_or ba sa cp po li nt) (hx : ¬ li - po = 0) : z_or ba sa cp (po + 1) li nt := by
  obtain ⟨a1, a2, a3, a4, a5, a6, a7, a8⟩ := h
  have : po.toInt ≠ li.toInt := fun e => hx (by rw [z_eqI, fb_subI (by omega) (by omega), z_t0]; omega)
  have e : (po + 1).toInt = po.toInt + 1 := by rw [fb_addI (by rw [z_t1]; omega) (by rw [z_t1]; omega), z_t1]
  exact ⟨a1, a2, by omega, by omega, a5, a6, a7, a8⟩
/-- a row after j values were put from place b + po on: first, first + step, .. -/
def z_fl (f : Nat → Int32) (b po fi st : Int32) : Nat → Nat → Int32
  | 0 => f
  | j + 1 => upd (z_fl f b po fi st j) (b + (po + nI j)).toNatClampNeg (fi + nI j * st)
/-- a row after j values of a pane came to its beginning -/
def z_pk (f : Nat → Int32) (b po : Int32) : Nat → Nat → Int32
  | 0 => f
  | j + 1 => upd (z_pk f b po j) (b + nI j).toNatClampNeg (z_pk f b po j (b + (po + nI j)).toNatClampNeg)
/-- a row after j values were poured, from b + po on to b2 + po2 on -/
def z_pr (f : Nat → Int32) (b po b2 po2 : Int32) : Nat → Nat → Int32
  | 0 => f
  | j + 1 => upd (z_pr f b po b2 po2 j) (b2 + (po2 + nI j)).toNatClampNeg (z_pr f b po b2 po2 j (b + (po + nI j + 1 - 1)).toNatClampNeg)
/-- a row after j values of a pane were poured into the same pane -/
def z_ps (f : Nat → Int32) (b po : Int32) : Nat → Nat → Int32
  | 0 => f
  | j + 1 => upd (z_ps f b po j) (b + (po + nI (2 * j) + 1)).toNatClampNeg (z_ps f b po j (b + (po + nI (2 * j) + 1 - 1)).toNatClampNeg)
def z_sm (f : Nat → Int32) : Nat → Int32
  | 0 => 0
  | j + 1 => z_sm f j + f j
def z_cm (f : Nat → Int32) : Nat → Int32
  | 0 => 0
  | j + 1 => z_cm f j + if f j = -1 then 0 else 1
theorem z_cm0 {f : Nat → Int32} {j : Nat} (h : f j = -1) : z_cm f j + 0 = z_cm f (j + 1) := by
  show _ = z_cm f j + _
  rw [if_pos h]
theorem z_cm1 {f : Nat → Int32} {j : Nat} (h : ¬ f j = -1) : z_cm f j + 1 = z_cm f (j + 1) := by
  show _ = z_cm f j + _
  rw [if_neg h]
theorem z_gt0 {x : Int32} (h : ¬ x ≤ 0) : ¬ x = 0 := fun e => h (by rw [e]; exact Int32.le_refl 0)
theorem z_orM {ba sa cp po li : Int32} {nt : Nat} (h : z_or ba sa cp po li nt) : li - po = nI (li - po).toNatClampNeg ∧ (li - po).toNatClampNeg ≤ 16 := by
  obtain ⟨a1, a2, a3, a4, a5, a6, a7, a8⟩ := h
  have e : (li - po).toInt = li.toInt - po.toInt := fb_subI (by omega) (by omega)
  have h3 := z_cl (x := li - po) (by rw [z_le, z_t0]; omega)
  refine ⟨?_, by omega⟩
  rw [z_eqI, nI_toInt (by omega)]
  omega
theorem z_orK1 {ba sa cp po li : Int32} {nt mn j : Nat} (h : z_or ba sa cp po li nt) (hm : li - po = nI mn) (hb : mn ≤ 16) (hj : j < mn) : vp_in (ba + sa + nI j) nt := by
  obtain ⟨a1, a2, a3, a4, a5, a6, a7, a8⟩ := id h
  have e : (li - po).toInt = li.toInt - po.toInt := fb_subI (by omega) (by omega)
  rw [hm, nI_toInt (by omega)] at e
  have ej : (nI j).toInt = j := nI_toInt (by omega)
  exact z_orI h (by omega) (by omega)
theorem z_orK2 {ba sa cp po li : Int32} {nt mn j : Nat} (h : z_or ba sa cp po li nt) (hm : li - po = nI mn) (hb : mn ≤ 16) (hj : j < mn) : vp_in (ba + sa + (po + nI j)) nt := by
  obtain ⟨a1, a2, a3, a4, a5, a6, a7, a8⟩ := id h
  have e : (li - po).toInt = li.toInt - po.toInt := fb_subI (by omega) (by omega)
  rw [hm, nI_toInt (by omega)] at e
  have ej : (nI j).toInt = j := nI_toInt (by omega)
  have e2 : (po + nI j).toInt = po.toInt + j := by rw [fb_addI (by omega) (by omega), ej]
  exact z_orI h (by omega) (by omega)
theorem z_w6 {w : Int32} (h : w < 7) (h6 : ¬ w = 6) : ¬ 6 ≤ w := by
  rw [z_ltI, show (7 : Int32).toInt = 7 from by decide] at h
  rw [z_eqI, show (6 : Int32).toInt = 6 from by decide] at h6
  rw [z_le, show (6 : Int32).toInt = 6 from by decide]
  omega
theorem z_w9 {w : Int32} (h : ¬ z_is w 0 8 = 0) (h6 : ¬ 6 ≤ w) : vp_in w 6 := by
  obtain ⟨h1, h2⟩ := z_is1 h
  rw [z_le, z_t0] at h1
  rw [z_le, show (6 : Int32).toInt = 6 from by decide] at h6
  rw [z_inT]
  omega
theorem dX5_bring_0 : decode cX5_bring 0 = .ok (.aload_n 0, 1) := by decide +kernel
theorem dX5_bring_1 : decode cX5_bring 1 = .ok (.iload_n 1, 1) := by decide +kernel
theorem dX5_bring_2 : decode cX5_bring 2 = .ok (.invokestatic 55, 3) := by decide +kernel
theorem dX5_bring_5 : decode cX5_bring 5 = .ok (.ifCond .eq 14, 3) := by decide +kernel
theorem dX5_bring_8 : decode cX5_bring 8 = .ok (.iload_n 3, 1) := by decide +kernel
theorem dX5_bring_9 : decode cX5_bring 9 = .ok (.invokestatic 55, 3) := by decide +kernel
theorem dX5_bring_12 : decode cX5_bring 12 = .ok (.ifCond .eq 7, 3) := by decide +kernel
theorem dX5_bring_15 : decode cX5_bring 15 = .ok (.iconst 1, 1) := by decide +kernel
theorem dX5_bring_16 : decode cX5_bring 16 = .ok (.goto 4, 3) := by decide +kernel
theorem dX5_bring_19 : decode cX5_bring 19 = .ok (.iconst 0, 1) := by decide +kernel
theorem dX5_bring_20 : decode cX5_bring 20 = .ok (.iconst 1, 1) := by decide +kernel
theorem dX5_bring_21 : decode cX5_bring 21 = .ok (.invokevirtual 59, 3) := by decide +kernel
theorem dX5_bring_24 : decode cX5_bring 24 = .ok (.ifCond .ne 5, 3) := by decide +kernel
theorem dX5_bring_27 : decode cX5_bring 27 = .ok (.iconst 0, 1) := by decide +kernel
theorem dX5_bring_28 : decode cX5_bring 28 = .ok (.ireturn, 1) := by decide +kernel
theorem dX5_bring_29 : decode cX5_bring 29 = .ok (.aload_n 0, 1) := by decide +kernel
theorem dX5_bring_30 : decode cX5_bring 30 = .ok (.getfield 18, 3) := by decide +kernel
theorem dX5_bring_33 : decode cX5_bring 33 = .ok (.iload_n 1, 1) := by decide +kernel
theorem dX5_bring_34 : decode cX5_bring 34 = .ok (.aaload, 1) := by decide +kernel
theorem dX5_bring_35 : decode cX5_bring 35 = .ok (.astore 5, 2) := by decide +kernel
theorem dX5_bring_37 : decode cX5_bring 37 = .ok (.aload_n 0, 1) := by decide +kernel
theorem dX5_bring_38 : decode cX5_bring 38 = .ok (.getfield 18, 3) := by decide +kernel
theorem dX5_bring_41 : decode cX5_bring 41 = .ok (.iload_n 3, 1) := by decide +kernel
theorem dX5_bring_42 : decode cX5_bring 42 = .ok (.aaload, 1) := by decide +kernel
theorem dX5_bring_43 : decode cX5_bring 43 = .ok (.astore 6, 2) := by decide +kernel
theorem dX5_bring_45 : decode cX5_bring 45 = .ok (.iload 4, 2) := by decide +kernel
theorem dX5_bring_47 : decode cX5_bring 47 = .ok (.iconst 0, 1) := by decide +kernel
theorem dX5_bring_48 : decode cX5_bring 48 = .ok (.aload 6, 2) := by decide +kernel
theorem dX5_bring_50 : decode cX5_bring 50 = .ok (.iconst 5, 1) := by decide +kernel
theorem dX5_bring_51 : decode cX5_bring 51 = .ok (.iaload, 1) := by decide +kernel
theorem dX5_bring_52 : decode cX5_bring 52 = .ok (.iconst 1, 1) := by decide +kernel
theorem dX5_bring_53 : decode cX5_bring 53 = .ok (.isub, 1) := by decide +kernel
theorem dX5_bring_54 : decode cX5_bring 54 = .ok (.invokestatic 36, 3) := by decide +kernel
theorem dX5_bring_57 : decode cX5_bring 57 = .ok (.ifCond .eq 17, 3) := by decide +kernel
theorem dX5_bring_60 : decode cX5_bring 60 = .ok (.iload_n 2, 1) := by decide +kernel
theorem dX5_bring_61 : decode cX5_bring 61 = .ok (.iconst 0, 1) := by decide +kernel
theorem dX5_bring_62 : decode cX5_bring 62 = .ok (.aload 5, 2) := by decide +kernel
theorem dX5_bring_64 : decode cX5_bring 64 = .ok (.iconst 5, 1) := by decide +kernel
theorem dX5_bring_65 : decode cX5_bring 65 = .ok (.iaload, 1) := by decide +kernel
theorem dX5_bring_66 : decode cX5_bring 66 = .ok (.iconst 1, 1) := by decide +kernel
theorem dX5_bring_67 : decode cX5_bring 67 = .ok (.isub, 1) := by decide +kernel
theorem dX5_bring_68 : decode cX5_bring 68 = .ok (.invokestatic 36, 3) := by decide +kernel
theorem dX5_bring_71 : decode cX5_bring 71 = .ok (.ifCond .ne 9, 3) := by decide +kernel
theorem dX5_bring_74 : decode cX5_bring 74 = .ok (.aload_n 0, 1) := by decide +kernel
theorem dX5_bring_75 : decode cX5_bring 75 = .ok (.iconst 5, 1) := by decide +kernel
theorem dX5_bring_76 : decode cX5_bring 76 = .ok (.invokevirtual 47, 3) := by decide +kernel
theorem dX5_bring_79 : decode cX5_bring 79 = .ok (.ireturn, 1) := by decide +kernel
theorem dX5_bring_80 : decode cX5_bring 80 = .ok (.aload 5, 2) := by decide +kernel
theorem dX5_bring_82 : decode cX5_bring 82 = .ok (.bipush 7, 2) := by decide +kernel
theorem dX5_bring_84 : decode cX5_bring 84 = .ok (.iaload, 1) := by decide +kernel
theorem dX5_bring_85 : decode cX5_bring 85 = .ok (.iconst 1, 1) := by decide +kernel
theorem dX5_bring_86 : decode cX5_bring 86 = .ok (.if_icmp .ne 9, 3) := by decide +kernel
theorem dX5_bring_89 : decode cX5_bring 89 = .ok (.aload_n 0, 1) := by decide +kernel
theorem dX5_bring_90 : decode cX5_bring 90 = .ok (.iconst 4, 1) := by decide +kernel
theorem dX5_bring_91 : decode cX5_bring 91 = .ok (.invokevirtual 47, 3) := by decide +kernel
theorem dX5_bring_94 : decode cX5_bring 94 = .ok (.ireturn, 1) := by decide +kernel
theorem dX5_bring_95 : decode cX5_bring 95 = .ok (.aload_n 0, 1) := by decide +kernel
theorem dX5_bring_96 : decode cX5_bring 96 = .ok (.aload_n 0, 1) := by decide +kernel
theorem dX5_bring_97 : decode cX5_bring 97 = .ok (.aload_n 0, 1) := by decide +kernel
theorem dX5_bring_98 : decode cX5_bring 98 = .ok (.aload 5, 2) := by decide +kernel
theorem dX5_bring_100 : decode cX5_bring 100 = .ok (.iload_n 2, 1) := by decide +kernel
theorem dX5_bring_101 : decode cX5_bring 101 = .ok (.invokevirtual 51, 3) := by decide +kernel
theorem dX5_bring_104 : decode cX5_bring 104 = .ok (.aload_n 0, 1) := by decide +kernel
theorem dX5_bring_105 : decode cX5_bring 105 = .ok (.getfield 9, 3) := by decide +kernel
theorem dX5_bring_108 : decode cX5_bring 108 = .ok (.aload_n 0, 1) := by decide +kernel
theorem dX5_bring_109 : decode cX5_bring 109 = .ok (.aload 6, 2) := by decide +kernel
theorem dX5_bring_111 : decode cX5_bring 111 = .ok (.iload 4, 2) := by decide +kernel
theorem dX5_bring_113 : decode cX5_bring 113 = .ok (.invokevirtual 51, 3) := by decide +kernel
theorem dX5_bring_116 : decode cX5_bring 116 = .ok (.iaload, 1) := by decide +kernel
theorem dX5_bring_117 : decode cX5_bring 117 = .ok (.invokevirtual 95, 3) := by decide +kernel
theorem dX5_bring_120 : decode cX5_bring 120 = .ok (.invokevirtual 63, 3) := by decide +kernel
theorem dX5_bring_123 : decode cX5_bring 123 = .ok (.ireturn, 1) := by decide +kernel
theorem dJ9_min_7cf53_0 : decode cJ9_min_7cf53 0 = .ok (.iload_n 0, 1) := by decide +kernel
theorem dJ9_min_7cf53_1 : decode cJ9_min_7cf53 1 = .ok (.iload_n 1, 1) := by decide +kernel
theorem dJ9_min_7cf53_2 : decode cJ9_min_7cf53 2 = .ok (.if_icmp .gt 7, 3) := by decide +kernel
theorem dJ9_min_7cf53_5 : decode cJ9_min_7cf53 5 = .ok (.iload_n 0, 1) := by decide +kernel
theorem dJ9_min_7cf53_6 : decode cJ9_min_7cf53 6 = .ok (.goto 4, 3) := by decide +kernel
theorem dJ9_min_7cf53_9 : decode cJ9_min_7cf53 9 = .ok (.iload_n 1, 1) := by decide +kernel
theorem dJ9_min_7cf53_10 : decode cJ9_min_7cf53 10 = .ok (.ireturn, 1) := by decide +kernel
theorem dX5_drain_0 : decode cX5_drain 0 = .ok (.aload_n 0, 1) := by decide +kernel
theorem dX5_drain_1 : decode cX5_drain 1 = .ok (.iload_n 1, 1) := by decide +kernel
theorem dX5_drain_2 : decode cX5_drain 2 = .ok (.invokestatic 55, 3) := by decide +kernel
theorem dX5_drain_5 : decode cX5_drain 5 = .ok (.iload_n 2, 1) := by decide +kernel
theorem dX5_drain_6 : decode cX5_drain 6 = .ok (.iconst 0, 1) := by decide +kernel
theorem dX5_drain_7 : decode cX5_drain 7 = .ok (.bipush 20, 2) := by decide +kernel
theorem dX5_drain_9 : decode cX5_drain 9 = .ok (.invokestatic 36, 3) := by decide +kernel
theorem dX5_drain_12 : decode cX5_drain 12 = .ok (.invokevirtual 59, 3) := by decide +kernel
theorem dX5_drain_15 : decode cX5_drain 15 = .ok (.ifCond .ne 5, 3) := by decide +kernel
theorem dX5_drain_18 : decode cX5_drain 18 = .ok (.iconst 0, 1) := by decide +kernel
theorem dX5_drain_19 : decode cX5_drain 19 = .ok (.ireturn, 1) := by decide +kernel
theorem dX5_drain_20 : decode cX5_drain 20 = .ok (.aload_n 0, 1) := by decide +kernel
theorem dX5_drain_21 : decode cX5_drain 21 = .ok (.getfield 18, 3) := by decide +kernel
theorem dX5_drain_24 : decode cX5_drain 24 = .ok (.iload_n 1, 1) := by decide +kernel
theorem dX5_drain_25 : decode cX5_drain 25 = .ok (.aaload, 1) := by decide +kernel
theorem dX5_drain_26 : decode cX5_drain 26 = .ok (.astore_n 3, 1) := by decide +kernel
theorem dX5_drain_27 : decode cX5_drain 27 = .ok (.iload_n 2, 1) := by decide +kernel
theorem dX5_drain_28 : decode cX5_drain 28 = .ok (.aload_n 3, 1) := by decide +kernel
theorem dX5_drain_29 : decode cX5_drain 29 = .ok (.invokestatic 43, 3) := by decide +kernel
theorem dX5_drain_32 : decode cX5_drain 32 = .ok (.invokestatic 99, 3) := by decide +kernel
theorem dX5_drain_35 : decode cX5_drain 35 = .ok (.istore 4, 2) := by decide +kernel
theorem dX5_drain_37 : decode cX5_drain 37 = .ok (.aload_n 3, 1) := by decide +kernel
theorem dX5_drain_38 : decode cX5_drain 38 = .ok (.iconst 4, 1) := by decide +kernel
theorem dX5_drain_39 : decode cX5_drain 39 = .ok (.dup2, 1) := by decide +kernel
theorem dX5_drain_40 : decode cX5_drain 40 = .ok (.iaload, 1) := by decide +kernel
theorem dX5_drain_41 : decode cX5_drain 41 = .ok (.iload 4, 2) := by decide +kernel
theorem dX5_drain_43 : decode cX5_drain 43 = .ok (.iadd, 1) := by decide +kernel
theorem dX5_drain_44 : decode cX5_drain 44 = .ok (.iastore, 1) := by decide +kernel
theorem dX5_drain_45 : decode cX5_drain 45 = .ok (.iload 4, 2) := by decide +kernel
theorem dX5_drain_47 : decode cX5_drain 47 = .ok (.iload_n 2, 1) := by decide +kernel
theorem dX5_drain_48 : decode cX5_drain 48 = .ok (.if_icmp .ge 9, 3) := by decide +kernel
theorem dX5_drain_51 : decode cX5_drain 51 = .ok (.aload_n 0, 1) := by decide +kernel
theorem dX5_drain_52 : decode cX5_drain 52 = .ok (.iconst 2, 1) := by decide +kernel
theorem dX5_drain_53 : decode cX5_drain 53 = .ok (.invokevirtual 47, 3) := by decide +kernel
theorem dX5_drain_56 : decode cX5_drain 56 = .ok (.pop, 1) := by decide +kernel
theorem dX5_drain_57 : decode cX5_drain 57 = .ok (.aload_n 0, 1) := by decide +kernel
theorem dX5_drain_58 : decode cX5_drain 58 = .ok (.iload 4, 2) := by decide +kernel
theorem dX5_drain_60 : decode cX5_drain 60 = .ok (.invokevirtual 63, 3) := by decide +kernel
theorem dX5_drain_63 : decode cX5_drain 63 = .ok (.ireturn, 1) := by decide +kernel
set_option maxRecDepth 20000 in
theorem c_X5_bring_bad (l : Launch) (G : zG) {M : zM} {m : Nat} {pane : Int32} {ix : Int32} {other : Int32} {fr : Int32} {tp : Nat} {nr : Int32} {pn : Nat} {td : Nat} {ac : Int32} {kn : Int32} {th : Int32}  (h_m : M m = some (cMd tp nr pn td ac kn th)) (h_bad : z_is pane 0 5 = 0) : z_Mi l G qX5_bring (z_rm 3 0 0) [.ref m, .int pane, .int ix, .int other, .int fr] M (fun r M' => r = 0 ∧ M' = z_up M m (cMd tp nr pn td ac kn (z_lt 0 1)))  := by
  refine z_Mi_of _ (plainFor_of_name rfl) rfl (Nat.le_of_ble_eq_true rfl) (fun X hl hG hnm C ret => ?_)
  subst hl; subst hG
  have C : z_C X cX5_bring RX5 7 (z_rm 3 0 0) := C
  show z_W X M 0 0 0 [(0, .ref m), (1, .int pane), (2, .int ix), (3, .int other), (4, .int fr)] []
  refine z_aload_n C dX5_bring_0 rfl 0 rfl ?_
  refine z_iload_n C dX5_bring_1 rfl 1 rfl ?_
  refine z_callSi (rest := [.ref m]) (k' := 0) (n' := 0) C (c_X5_isPane (z_l X) (z_G X) ) (cs_X5_55 C (by decide)) rfl rfl (Nat.le_of_ble_eq_true rfl) rfl rfl (by decide) (by decide) dX5_bring_2 (fun x2 M' hq => ?_)
  obtain ⟨rfl, rfl⟩ := hq
  refine z_if_eq C (tgt := 19) dX5_bring_5 (by decide) (fun _ => ?_) (fun c5 => absurd h_bad c5)
  refine z_iconst C (v := 0) dX5_bring_19 (by decide) ?_
  refine z_iconst C (v := 1) dX5_bring_20 (by decide) ?_
  refine z_callVi (rest := []) (k' := 0) (n' := 0) C (c_X5_isLet (z_l X) (z_G X) h_m) (cs_X5_59 C (by decide)) h_m rfl rfl rfl rfl (Nat.le_of_ble_eq_true rfl) rfl rfl (by decide) (by decide) dX5_bring_21 (fun x21 M' hq => ?_)
  obtain ⟨rfl, rfl⟩ := hq
  refine z_if_ne C (tgt := 29) dX5_bring_24 (by decide) (fun c24 => absurd (by simp [z_lr, z_lt]) c24) (fun _ => ?_)
  refine z_iconst C (v := 0) dX5_bring_27 (by decide) ?_
  exact ret dX5_bring_28 rfl (⟨rfl, rfl⟩) (by decide) (by decide)
set_option maxRecDepth 20000 in
theorem c_X5_bring_bad2 (l : Launch) (G : zG) {M : zM} {m : Nat} {pane : Int32} {ix : Int32} {other : Int32} {fr : Int32} {tp : Nat} {nr : Int32} {pn : Nat} {td : Nat} {ac : Int32} {kn : Int32} {th : Int32}  (h_m : M m = some (cMd tp nr pn td ac kn th)) (h_ok : z_is pane 0 5 = 1) (h_bad2 : z_is other 0 5 = 0) : z_Mi l G qX5_bring (z_rm 3 0 0) [.ref m, .int pane, .int ix, .int other, .int fr] M (fun r M' => r = 0 ∧ M' = z_up M m (cMd tp nr pn td ac kn (z_lt 0 1)))  := by
  refine z_Mi_of _ (plainFor_of_name rfl) rfl (Nat.le_of_ble_eq_true rfl) (fun X hl hG hnm C ret => ?_)
  subst hl; subst hG
  have C : z_C X cX5_bring RX5 7 (z_rm 3 0 0) := C
  show z_W X M 0 0 0 [(0, .ref m), (1, .int pane), (2, .int ix), (3, .int other), (4, .int fr)] []
  refine z_aload_n C dX5_bring_0 rfl 0 rfl ?_
  refine z_iload_n C dX5_bring_1 rfl 1 rfl ?_
  refine z_callSi (rest := [.ref m]) (k' := 0) (n' := 0) C (c_X5_isPane (z_l X) (z_G X) ) (cs_X5_55 C (by decide)) rfl rfl (Nat.le_of_ble_eq_true rfl) rfl rfl (by decide) (by decide) dX5_bring_2 (fun x2 M' hq => ?_)
  obtain ⟨rfl, rfl⟩ := hq
  refine z_if_eq C (tgt := 19) dX5_bring_5 (by decide) (fun c5 => absurd c5 (by rw [h_ok]; decide)) (fun _ => ?_)
  refine z_iload_n C dX5_bring_8 rfl 3 rfl ?_
  refine z_callSi (rest := [.ref m]) (k' := 0) (n' := 0) C (c_X5_isPane (z_l X) (z_G X) ) (cs_X5_55 C (by decide)) rfl rfl (Nat.le_of_ble_eq_true rfl) rfl rfl (by decide) (by decide) dX5_bring_9 (fun x9 M' hq => ?_)
  obtain ⟨rfl, rfl⟩ := hq
  refine z_if_eq C (tgt := 19) dX5_bring_12 (by decide) (fun _ => ?_) (fun c12 => absurd h_bad2 c12)
  refine z_iconst C (v := 0) dX5_bring_19 (by decide) ?_
  refine z_iconst C (v := 1) dX5_bring_20 (by decide) ?_
  refine z_callVi (rest := []) (k' := 0) (n' := 0) C (c_X5_isLet (z_l X) (z_G X) h_m) (cs_X5_59 C (by decide)) h_m rfl rfl rfl rfl (Nat.le_of_ble_eq_true rfl) rfl rfl (by decide) (by decide) dX5_bring_21 (fun x21 M' hq => ?_)
  obtain ⟨rfl, rfl⟩ := hq
  refine z_if_ne C (tgt := 29) dX5_bring_24 (by decide) (fun c24 => absurd (by simp [z_lr, z_lt]) c24) (fun _ => ?_)
  refine z_iconst C (v := 0) dX5_bring_27 (by decide) ?_
  exact ret dX5_bring_28 rfl (⟨rfl, rfl⟩) (by decide) (by decide)
set_option maxRecDepth 20000 in
theorem c_X5_bring (l : Launch) (G : zG) {M : zM} {m : Nat} {pane : Int32} {ix : Int32} {other : Int32} {fr : Int32} {tp : Nat} {nr : Int32} {pn : Nat} {td : Nat} {ac : Int32} {kn : Int32} {th : Int32} {fd : Nat → Int32} {nt : Nat} {ft : Nat → Int32} {fp : Nat → Option Nat} {p : Nat} {ro : Int32} {ba : Int32} {sa : Int32} {cp : Int32} {po : Int32} {li : Int32} {mk : Int32} {rd : Int32} {p2 : Nat} {ro2 : Int32} {ba2 : Int32} {sa2 : Int32} {cp2 : Int32} {po2 : Int32} {li2 : Int32} {mk2 : Int32} {rd2 : Int32} {i i2 : Nat}  (h_m : M m = some (cMd tp nr pn td ac kn th)) (h_td : M td = some (aI G 6 fd)) (h_tp : M tp = some (aI G nt ft)) (h_pn : M pn = some (aII G 6 fp)) (h_p : M p = some (cPm G ro ba sa cp po li mk rd)) (h_p2 : M p2 = some (cPm G ro2 ba2 sa2 cp2 po2 li2 mk2 rd2)) (h_ok : z_is pane 0 5 = 1) (h_ip : vp_in pane 6) (h_ij : pane.toNatClampNeg = i) (h_fp : fp i = some p) (h_ok2 : z_is other 0 5 = 1) (h_ip2 : vp_in other 6) (h_ij2 : other.toNatClampNeg = i2) (h_fp2 : fp i2 = some p2) (n_p_tp : p ≠ tp) (n_p_td : p ≠ td) (n_td_tp : td ≠ tp) (n_p2_tp : p2 ≠ tp) (n_p2_td : p2 ≠ td) (h_or : z_or ba sa cp po li nt) (h_or2 : z_or ba2 sa2 cp2 po2 li2 nt) : z_Mi l G qX5_bring (z_rm 3 0 0) [.ref m, .int pane, .int ix, .int other, .int fr] M (fun r M' => (((z_is fr 0 (li2 - 1)) = 0) ∧ r = (-9) ∧ M' = z_up (z_up M m (cMd tp nr pn td ac kn (z_lt 1 1))) td (aI G 6 (upd fd 5 ((fd 5) + 1)))) ∨ ((¬ (z_is fr 0 (li2 - 1)) = 0) ∧ (¬ (z_is ix 0 (li - 1)) = 0) ∧ (¬ rd = 1) ∧ r = (ft ((ba + sa) + ix).toNatClampNeg) ∧ M' = z_up (z_up M tp (aI G nt (upd ft ((ba + sa) + ix).toNatClampNeg (ft (((ba2 + sa2) + fr).toNatClampNeg))))) m (cMd tp nr pn td (ac + 1) kn (z_lt 1 1))) ∨ ((¬ (z_is fr 0 (li2 - 1)) = 0) ∧ (¬ (z_is ix 0 (li - 1)) = 0) ∧ (rd = 1) ∧ r = (-9) ∧ M' = z_up (z_up M m (cMd tp nr pn td ac kn (z_lt 1 1))) td (aI G 6 (upd fd 4 ((fd 4) + 1)))) ∨ ((¬ (z_is fr 0 (li2 - 1)) = 0) ∧ ((z_is ix 0 (li - 1)) = 0) ∧ r = (-9) ∧ M' = z_up (z_up M m (cMd tp nr pn td ac kn (z_lt 1 1))) td (aI G 6 (upd fd 5 ((fd 5) + 1)))))  := by
  refine z_Mi_of _ (plainFor_of_name rfl) rfl (Nat.le_of_ble_eq_true rfl) (fun X hl hG hnm C ret => ?_)
  subst hl; subst hG
  have C : z_C X cX5_bring RX5 7 (z_rm 3 0 0) := C
  show z_W X M 0 0 0 [(0, .ref m), (1, .int pane), (2, .int ix), (3, .int other), (4, .int fr)] []
  refine z_aload_n C dX5_bring_0 rfl 0 rfl ?_
  refine z_iload_n C dX5_bring_1 rfl 1 rfl ?_
  refine z_callSi (rest := [.ref m]) (k' := 0) (n' := 0) C (c_X5_isPane (z_l X) (z_G X) ) (cs_X5_55 C (by decide)) rfl rfl (Nat.le_of_ble_eq_true rfl) rfl rfl (by decide) (by decide) dX5_bring_2 (fun x2 M' hq => ?_)
  obtain ⟨rfl, rfl⟩ := hq
  refine z_if_eq C (tgt := 19) dX5_bring_5 (by decide) (fun c5 => absurd c5 (by rw [h_ok]; decide)) (fun _ => ?_)
  refine z_iload_n C dX5_bring_8 rfl 3 rfl ?_
  refine z_callSi (rest := [.ref m]) (k' := 0) (n' := 0) C (c_X5_isPane (z_l X) (z_G X) ) (cs_X5_55 C (by decide)) rfl rfl (Nat.le_of_ble_eq_true rfl) rfl rfl (by decide) (by decide) dX5_bring_9 (fun x9 M' hq => ?_)
  obtain ⟨rfl, rfl⟩ := hq
  refine z_if_eq C (tgt := 19) dX5_bring_12 (by decide) (fun c12 => absurd c12 (by rw [h_ok2]; decide)) (fun _ => ?_)
  refine z_iconst C (v := 1) dX5_bring_15 (by decide) ?_
  refine z_goto C (tgt := 20) dX5_bring_16 (by decide) ?_
  refine z_iconst C (v := 1) dX5_bring_20 (by decide) ?_
  refine z_callVi (rest := []) (k' := 0) (n' := 0) C (c_X5_isLet (z_l X) (z_G X) h_m) (cs_X5_59 C (by decide)) h_m rfl rfl rfl rfl (Nat.le_of_ble_eq_true rfl) rfl rfl (by decide) (by decide) dX5_bring_21 (fun x21 M' hq => ?_)
  obtain ⟨rfl, rfl⟩ := hq
  refine z_if_ne C (tgt := 29) dX5_bring_24 (by decide) (fun _ => ?_) (fun c24 => absurd c24 (by simp [z_lr, z_lt]))
  refine z_aload_n C dX5_bring_29 rfl 0 rfl ?_
  refine gf_X5_18 C (z_up_s _ _ _) dX5_bring_30 ?_
  refine z_iload_n C dX5_bring_33 rfl 1 rfl ?_
  refine z_aaldI (j := i) C ((z_up_n _ _ (z_ne h_pn h_m (by intro h; cases h))).trans h_pn) h_ip h_ij h_fp dX5_bring_34 ?_
  refine z_astore (lv' := [(5, .ref p), (0, .ref m), (1, .int pane), (2, .int ix), (3, .int other), (4, .int fr)]) C dX5_bring_35 (by decide) rfl ?_
  refine z_aload_n C dX5_bring_37 rfl 1 rfl ?_
  refine gf_X5_18 C (z_up_s _ _ _) dX5_bring_38 ?_
  refine z_iload_n C dX5_bring_41 rfl 4 rfl ?_
  refine z_aaldI (j := i2) C ((z_up_n _ _ (z_ne h_pn h_m (by intro h; cases h))).trans h_pn) h_ip2 h_ij2 h_fp2 dX5_bring_42 ?_
  refine z_astore (lv' := [(6, .ref p2), (5, .ref p), (0, .ref m), (1, .int pane), (2, .int ix), (3, .int other), (4, .int fr)]) C dX5_bring_43 (by decide) rfl ?_
  refine z_iload C dX5_bring_45 6 rfl ?_
  refine z_iconst C (v := 0) dX5_bring_47 (by decide) ?_
  refine z_aload C dX5_bring_48 0 rfl ?_
  refine z_iconst C (v := 5) dX5_bring_50 (by decide) ?_
  refine z_pl5 C ((z_up_n _ _ (z_ne h_p2 h_m (by intro h; cases h))).trans h_p2) dX5_bring_51 ?_
  refine z_iconst C (v := 1) dX5_bring_52 (by decide) ?_
  refine z_isub C dX5_bring_53 ?_
  refine z_callSi (rest := []) (k' := 0) (n' := 0) C (c_X5_isIn (z_l X) (z_G X) ) (cs_X5_36 C (by decide)) rfl rfl (Nat.le_of_ble_eq_true rfl) rfl rfl (by decide) (by decide) dX5_bring_54 (fun x54 M' hq => ?_)
  obtain ⟨rfl, rfl⟩ := hq
  refine z_if_eq C (tgt := 74) dX5_bring_57 (by decide) (fun c57 => ?_) (fun c57 => ?_)
  · refine z_aload_n C dX5_bring_74 rfl 2 rfl ?_
    refine z_iconst C (v := 5) dX5_bring_75 (by decide) ?_
    refine z_callVi (rest := []) (k' := 0) (n' := 0) C (c_X5_refuse (z_l X) (z_G X) (z_up_s _ _ _) ((z_up_n _ _ (z_ne h_td h_m (by intro h; cases h))).trans h_td) (z_inL (by decide)) (show (5 : Int32).toNatClampNeg = 5 by decide)) (cs_X5_47 C (by decide)) (z_up_s _ _ _) rfl rfl rfl rfl (Nat.le_of_ble_eq_true rfl) rfl rfl (by decide) (by decide) dX5_bring_76 (fun x76 M' hq => ?_)
    obtain ⟨rfl, rfl⟩ := hq
    exact ret dX5_bring_79 rfl (Or.inl ⟨c57, rfl, rfl⟩) (by decide) (by decide)
  · refine z_iload_n C dX5_bring_60 rfl 4 rfl ?_
    refine z_iconst C (v := 0) dX5_bring_61 (by decide) ?_
    refine z_aload C dX5_bring_62 1 rfl ?_
    refine z_iconst C (v := 5) dX5_bring_64 (by decide) ?_
    refine z_pl5 C ((z_up_n _ _ (z_ne h_p h_m (by intro h; cases h))).trans h_p) dX5_bring_65 ?_
    refine z_iconst C (v := 1) dX5_bring_66 (by decide) ?_
    refine z_isub C dX5_bring_67 ?_
    refine z_callSi (rest := []) (k' := 0) (n' := 0) C (c_X5_isIn (z_l X) (z_G X) ) (cs_X5_36 C (by decide)) rfl rfl (Nat.le_of_ble_eq_true rfl) rfl rfl (by decide) (by decide) dX5_bring_68 (fun x68 M' hq => ?_)
    obtain ⟨rfl, rfl⟩ := hq
    refine z_if_ne C (tgt := 80) dX5_bring_71 (by decide) (fun c71 => ?_) (fun c71 => ?_)
    · refine z_aload C dX5_bring_80 1 rfl ?_
      refine z_bipush C (v := 7) dX5_bring_82 (by decide) ?_
      refine z_pl7 C ((z_up_n _ _ (z_ne h_p h_m (by intro h; cases h))).trans h_p) dX5_bring_84 ?_
      refine z_iconst C (v := 1) dX5_bring_85 (by decide) ?_
      refine z_icmp_ne C (tgt := 95) dX5_bring_86 (by decide) (fun c86 => ?_) (fun c86 => ?_)
      · refine z_aload_n C dX5_bring_95 rfl 2 rfl ?_
        refine z_aload_n C dX5_bring_96 rfl 2 rfl ?_
        refine z_aload_n C dX5_bring_97 rfl 2 rfl ?_
        refine z_aload C dX5_bring_98 1 rfl ?_
        refine z_iload_n C dX5_bring_100 rfl 4 rfl ?_
        refine z_callVi (rest := [.ref m, .ref m]) (k' := 0) (n' := 0) C (c_X5_where (z_l X) (z_G X) ((z_up_n _ _ (z_ne h_p h_m (by intro h; cases h))).trans h_p)) (cs_X5_51 C (by decide)) (z_up_s _ _ _) rfl rfl rfl rfl (Nat.le_of_ble_eq_true rfl) rfl rfl (by decide) (by decide) dX5_bring_101 (fun x101 M' hq => ?_)
        obtain ⟨rfl, rfl⟩ := hq
        refine z_aload_n C dX5_bring_104 rfl 2 rfl ?_
        refine gf_X5_9 C (z_up_s _ _ _) dX5_bring_105 ?_
        refine z_aload_n C dX5_bring_108 rfl 2 rfl ?_
        refine z_aload C dX5_bring_109 0 rfl ?_
        refine z_iload C dX5_bring_111 6 rfl ?_
        refine z_callVi (rest := [.ref tp, .int ((ba + sa) + ix), .ref m, .ref m]) (k' := 0) (n' := 0) C (c_X5_where (z_l X) (z_G X) ((z_up_n _ _ (z_ne h_p2 h_m (by intro h; cases h))).trans h_p2)) (cs_X5_51 C (by decide)) (z_up_s _ _ _) rfl rfl rfl rfl (Nat.le_of_ble_eq_true rfl) rfl rfl (by decide) (by decide) dX5_bring_113 (fun x113 M' hq => ?_)
        obtain ⟨rfl, rfl⟩ := hq
        refine z_iald (j := ((ba2 + sa2) + fr).toNatClampNeg) C ((z_up_n _ _ (z_ne h_tp h_m (by intro h; cases h))).trans h_tp) (z_orL h_or2 c57) rfl dX5_bring_116 ?_
        refine z_callVi (rest := [.ref m]) (k' := 0) (n' := 0) C (c_X5_written (z_l X) (z_G X) (z_up_s _ _ _) ((z_up_n _ _ (z_ne h_tp h_m (by intro h; cases h))).trans h_tp) (z_orL h_or c71)) (cs_X5_95 C (by decide)) (z_up_s _ _ _) rfl rfl rfl rfl (Nat.le_of_ble_eq_true rfl) rfl rfl (by decide) (by decide) dX5_bring_117 (fun x117 M' hq => ?_)
        obtain ⟨rfl, rfl⟩ := hq
        refine z_callVi (rest := []) (k' := 0) (n' := 0) C (c_X5_did (z_l X) (z_G X) ((z_up_n _ _ (z_ne h_m h_tp (by intro h; cases h))).trans (z_up_s _ _ _))) (cs_X5_63 C (by decide)) ((z_up_n _ _ (z_ne h_m h_tp (by intro h; cases h))).trans (z_up_s _ _ _)) rfl rfl rfl rfl (Nat.le_of_ble_eq_true rfl) rfl rfl (by decide) (by decide) dX5_bring_120 (fun x120 M' hq => ?_)
        obtain ⟨rfl, rfl⟩ := hq
        rw [z_up_swap _ (z_ne h_m h_tp (by intro h; cases h))]
        rw [z_up_up]
        exact ret dX5_bring_123 rfl (Or.inr (Or.inl ⟨c57, c71, c86, rfl, rfl⟩)) (by decide) (by decide)
      · refine z_aload_n C dX5_bring_89 rfl 2 rfl ?_
        refine z_iconst C (v := 4) dX5_bring_90 (by decide) ?_
        refine z_callVi (rest := []) (k' := 0) (n' := 0) C (c_X5_refuse (z_l X) (z_G X) (z_up_s _ _ _) ((z_up_n _ _ (z_ne h_td h_m (by intro h; cases h))).trans h_td) (z_inL (by decide)) (show (4 : Int32).toNatClampNeg = 4 by decide)) (cs_X5_47 C (by decide)) (z_up_s _ _ _) rfl rfl rfl rfl (Nat.le_of_ble_eq_true rfl) rfl rfl (by decide) (by decide) dX5_bring_91 (fun x91 M' hq => ?_)
        obtain ⟨rfl, rfl⟩ := hq
        exact ret dX5_bring_94 rfl (Or.inr (Or.inr (Or.inl ⟨c57, c71, c86, rfl, rfl⟩))) (by decide) (by decide)
    · refine z_aload_n C dX5_bring_74 rfl 2 rfl ?_
      refine z_iconst C (v := 5) dX5_bring_75 (by decide) ?_
      refine z_callVi (rest := []) (k' := 0) (n' := 0) C (c_X5_refuse (z_l X) (z_G X) (z_up_s _ _ _) ((z_up_n _ _ (z_ne h_td h_m (by intro h; cases h))).trans h_td) (z_inL (by decide)) (show (5 : Int32).toNatClampNeg = 5 by decide)) (cs_X5_47 C (by decide)) (z_up_s _ _ _) rfl rfl rfl rfl (Nat.le_of_ble_eq_true rfl) rfl rfl (by decide) (by decide) dX5_bring_76 (fun x76 M' hq => ?_)
      obtain ⟨rfl, rfl⟩ := hq
      exact ret dX5_bring_79 rfl (Or.inr (Or.inr (Or.inr (⟨c57, c71, rfl, rfl⟩)))) (by decide) (by decide)
set_option maxRecDepth 20000 in
theorem c_J9_min_7cf53 (l : Launch) (G : zG) {M : zM} {a : Int32} {b : Int32}    : z_Mi l G qJ9_min_7cf53 (z_rm 1 0 0) [.int a, .int b] M (fun r M' => ((b < a) ∧ r = b ∧ M' = M) ∨ ((¬ b < a) ∧ r = a ∧ M' = M))  := by
  refine z_Mi_of _ (by decide +kernel) rfl (Nat.le_of_ble_eq_true rfl) (fun X hl hG hnm C ret => ?_)
  subst hl; subst hG
  have C : z_C X cJ9_min_7cf53 RJ9 2 (z_rm 1 0 0) := C
  show z_W X M 0 0 0 [(0, .int a), (1, .int b)] []
  refine z_iload_n C dJ9_min_7cf53_0 rfl 0 rfl ?_
  refine z_iload_n C dJ9_min_7cf53_1 rfl 1 rfl ?_
  refine z_icmp_gt C (tgt := 9) dJ9_min_7cf53_2 (by decide) (fun c2 => ?_) (fun c2 => ?_)
  · refine z_iload_n C dJ9_min_7cf53_9 rfl 1 rfl ?_
    exact ret dJ9_min_7cf53_10 rfl (Or.inl ⟨c2, rfl, rfl⟩) (by decide) (by decide)
  · refine z_iload_n C dJ9_min_7cf53_5 rfl 0 rfl ?_
    refine z_goto C (tgt := 10) dJ9_min_7cf53_6 (by decide) ?_
    exact ret dJ9_min_7cf53_10 rfl (Or.inr (⟨c2, rfl, rfl⟩)) (by decide) (by decide)
set_option maxRecDepth 20000 in
theorem c_X5_drain_bad (l : Launch) (G : zG) {M : zM} {m : Nat} {pane : Int32} {mn : Int32} {tp : Nat} {nr : Int32} {pn : Nat} {td : Nat} {ac : Int32} {kn : Int32} {th : Int32}  (h_m : M m = some (cMd tp nr pn td ac kn th)) (h_bad : z_is pane 0 5 = 0) : z_Mi l G qX5_drain (z_rm 4 0 0) [.ref m, .int pane, .int mn] M (fun r M' => r = 0 ∧ M' = z_up M m (cMd tp nr pn td ac kn (z_lt (z_is pane 0 5) (z_is mn 0 20))))  := by
  refine z_Mi_of _ (plainFor_of_name rfl) rfl (Nat.le_of_ble_eq_true rfl) (fun X hl hG hnm C ret => ?_)
  subst hl; subst hG
  have C : z_C X cX5_drain RX5 5 (z_rm 4 0 0) := C
  show z_W X M 0 0 0 [(0, .ref m), (1, .int pane), (2, .int mn)] []
  refine z_aload_n C dX5_drain_0 rfl 0 rfl ?_
  refine z_iload_n C dX5_drain_1 rfl 1 rfl ?_
  refine z_callSi (rest := [.ref m]) (k' := 0) (n' := 0) C (c_X5_isPane (z_l X) (z_G X) ) (cs_X5_55 C (by decide)) rfl rfl (Nat.le_of_ble_eq_true rfl) rfl rfl (by decide) (by decide) dX5_drain_2 (fun x2 M' hq => ?_)
  obtain ⟨rfl, rfl⟩ := hq
  refine z_iload_n C dX5_drain_5 rfl 2 rfl ?_
  refine z_iconst C (v := 0) dX5_drain_6 (by decide) ?_
  refine z_bipush C (v := 20) dX5_drain_7 (by decide) ?_
  refine z_callSi (rest := [.int (z_is pane 0 5), .ref m]) (k' := 0) (n' := 0) C (c_X5_isIn (z_l X) (z_G X) ) (cs_X5_36 C (by decide)) rfl rfl (Nat.le_of_ble_eq_true rfl) rfl rfl (by decide) (by decide) dX5_drain_9 (fun x9 M' hq => ?_)
  obtain ⟨rfl, rfl⟩ := hq
  refine z_callVi (rest := []) (k' := 0) (n' := 0) C (c_X5_isLet (z_l X) (z_G X) h_m) (cs_X5_59 C (by decide)) h_m rfl rfl rfl rfl (Nat.le_of_ble_eq_true rfl) rfl rfl (by decide) (by decide) dX5_drain_12 (fun x12 M' hq => ?_)
  obtain ⟨rfl, rfl⟩ := hq
  refine z_if_ne C (tgt := 20) dX5_drain_15 (by decide) (fun c15 => absurd (by simp [z_lr, z_lt, h_bad]) c15) (fun _ => ?_)
  refine z_iconst C (v := 0) dX5_drain_18 (by decide) ?_
  exact ret dX5_drain_19 rfl (⟨rfl, rfl⟩) (by decide) (by decide)
set_option maxRecDepth 20000 in
theorem c_X5_drain (l : Launch) (G : zG) {M : zM} {m : Nat} {pane : Int32} {mn : Int32} {tp : Nat} {nr : Int32} {pn : Nat} {td : Nat} {ac : Int32} {kn : Int32} {th : Int32} {fd : Nat → Int32} {fp : Nat → Option Nat} {p : Nat} {ro : Int32} {ba : Int32} {sa : Int32} {cp : Int32} {po : Int32} {li : Int32} {mk : Int32} {rd : Int32} {i : Nat}  (h_m : M m = some (cMd tp nr pn td ac kn th)) (h_td : M td = some (aI G 6 fd)) (h_pn : M pn = some (aII G 6 fp)) (h_p : M p = some (cPm G ro ba sa cp po li mk rd)) (h_ok : z_is pane 0 5 = 1) (h_ip : vp_in pane 6) (h_ij : pane.toNatClampNeg = i) (h_fp : fp i = some p) (n_p_td : p ≠ td) : z_Mi l G qX5_drain (z_rm 4 0 0) [.ref m, .int pane, .int mn] M (fun r M' => ((¬ (z_lr (z_is pane 0 5) (z_is mn 0 20)) = 0) ∧ ((li - po) < mn) ∧ (mn ≤ (li - po)) ∧ r = (li - po) ∧ M' = z_up (z_up M p (cPm G ro ba sa cp (po + (li - po)) li mk rd)) m (cMd tp nr pn td (ac + 1) kn (z_lt (z_is pane 0 5) (z_is mn 0 20)))) ∨ ((¬ (z_lr (z_is pane 0 5) (z_is mn 0 20)) = 0) ∧ ((li - po) < mn) ∧ (¬ mn ≤ (li - po)) ∧ r = (li - po) ∧ M' = z_up (z_up (z_up M p (cPm G ro ba sa cp (po + (li - po)) li mk rd)) td (aI G 6 (upd fd 2 ((fd 2) + 1)))) m (cMd tp nr pn td (ac + 1) kn (z_lt (z_is pane 0 5) (z_is mn 0 20)))) ∨ ((¬ (z_lr (z_is pane 0 5) (z_is mn 0 20)) = 0) ∧ (¬ (li - po) < mn) ∧ (mn ≤ mn) ∧ r = mn ∧ M' = z_up (z_up M p (cPm G ro ba sa cp (po + mn) li mk rd)) m (cMd tp nr pn td (ac + 1) kn (z_lt (z_is pane 0 5) (z_is mn 0 20)))) ∨ ((¬ (z_lr (z_is pane 0 5) (z_is mn 0 20)) = 0) ∧ (¬ (li - po) < mn) ∧ (¬ mn ≤ mn) ∧ r = mn ∧ M' = z_up (z_up (z_up M p (cPm G ro ba sa cp (po + mn) li mk rd)) td (aI G 6 (upd fd 2 ((fd 2) + 1)))) m (cMd tp nr pn td (ac + 1) kn (z_lt (z_is pane 0 5) (z_is mn 0 20)))) ∨ (((z_lr (z_is pane 0 5) (z_is mn 0 20)) = 0) ∧ r = 0 ∧ M' = z_up M m (cMd tp nr pn td ac kn (z_lt (z_is pane 0 5) (z_is mn 0 20)))))  := by
  refine z_Mi_of _ (plainFor_of_name rfl) rfl (Nat.le_of_ble_eq_true rfl) (fun X hl hG hnm C ret => ?_)
  subst hl; subst hG
  have C : z_C X cX5_drain RX5 5 (z_rm 4 0 0) := C
  show z_W X M 0 0 0 [(0, .ref m), (1, .int pane), (2, .int mn)] []
  refine z_aload_n C dX5_drain_0 rfl 0 rfl ?_
  refine z_iload_n C dX5_drain_1 rfl 1 rfl ?_
  refine z_callSi (rest := [.ref m]) (k' := 0) (n' := 0) C (c_X5_isPane (z_l X) (z_G X) ) (cs_X5_55 C (by decide)) rfl rfl (Nat.le_of_ble_eq_true rfl) rfl rfl (by decide) (by decide) dX5_drain_2 (fun x2 M' hq => ?_)
  obtain ⟨rfl, rfl⟩ := hq
  refine z_iload_n C dX5_drain_5 rfl 2 rfl ?_
  refine z_iconst C (v := 0) dX5_drain_6 (by decide) ?_
  refine z_bipush C (v := 20) dX5_drain_7 (by decide) ?_
  refine z_callSi (rest := [.int (z_is pane 0 5), .ref m]) (k' := 0) (n' := 0) C (c_X5_isIn (z_l X) (z_G X) ) (cs_X5_36 C (by decide)) rfl rfl (Nat.le_of_ble_eq_true rfl) rfl rfl (by decide) (by decide) dX5_drain_9 (fun x9 M' hq => ?_)
  obtain ⟨rfl, rfl⟩ := hq
  refine z_callVi (rest := []) (k' := 0) (n' := 0) C (c_X5_isLet (z_l X) (z_G X) h_m) (cs_X5_59 C (by decide)) h_m rfl rfl rfl rfl (Nat.le_of_ble_eq_true rfl) rfl rfl (by decide) (by decide) dX5_drain_12 (fun x12 M' hq => ?_)
  obtain ⟨rfl, rfl⟩ := hq
  refine z_if_ne C (tgt := 20) dX5_drain_15 (by decide) (fun c15 => ?_) (fun c15 => ?_)
  · refine z_aload_n C dX5_drain_20 rfl 0 rfl ?_
    refine gf_X5_18 C (z_up_s _ _ _) dX5_drain_21 ?_
    refine z_iload_n C dX5_drain_24 rfl 1 rfl ?_
    refine z_aaldI (j := i) C ((z_up_n _ _ (z_ne h_pn h_m (by intro h; cases h))).trans h_pn) h_ip h_ij h_fp dX5_drain_25 ?_
    refine z_astore_n (lv' := [(3, .ref p), (0, .ref m), (1, .int pane), (2, .int mn)]) C dX5_drain_26 rfl (by decide) rfl ?_
    refine z_iload_n C dX5_drain_27 rfl 3 rfl ?_
    refine z_aload_n C dX5_drain_28 rfl 0 rfl ?_
    refine z_callSi (rest := [.int mn]) (k' := 0) (n' := 0) C (c_X5_left (z_l X) (z_G X) ((z_up_n _ _ (z_ne h_p h_m (by intro h; cases h))).trans h_p)) (cs_X5_43 C (by decide)) rfl rfl (Nat.le_of_ble_eq_true rfl) rfl rfl (by decide) (by decide) dX5_drain_29 (fun x29 M' hq => ?_)
    obtain ⟨rfl, rfl⟩ := hq
    refine z_callSi (rest := []) (k' := 0) (n' := 0) C (c_J9_min_7cf53 (z_l X) (z_G X) ) (cs_X5_99 C (by decide)) rfl rfl (Nat.le_of_ble_eq_true rfl) rfl rfl (by decide) (by decide) dX5_drain_32 (fun x32 M' hq => ?_)
    obtain ⟨d32_0, rfl, rfl⟩ | ⟨d32_0, hr32, rfl⟩ := hq
    · refine z_istore (lv' := [(4, .int (li - po)), (3, .ref p), (0, .ref m), (1, .int pane), (2, .int mn)]) C dX5_drain_35 (by decide) rfl ?_
      refine z_aload_n C dX5_drain_37 rfl 1 rfl ?_
      refine z_iconst C (v := 4) dX5_drain_38 (by decide) ?_
      refine z_dup2 C dX5_drain_39 rfl rfl ?_
      refine z_pl4 C ((z_up_n _ _ (z_ne h_p h_m (by intro h; cases h))).trans h_p) dX5_drain_40 ?_
      refine z_iload C dX5_drain_41 0 rfl ?_
      refine z_iadd C dX5_drain_43 ?_
      refine z_ps4 C ((z_up_n _ _ (z_ne h_p h_m (by intro h; cases h))).trans h_p) dX5_drain_44 ?_
      refine z_iload C dX5_drain_45 0 rfl ?_
      refine z_iload_n C dX5_drain_47 rfl 4 rfl ?_
      refine z_icmp_ge C (tgt := 57) dX5_drain_48 (by decide) (fun c48 => ?_) (fun c48 => ?_)
      · refine z_aload_n C dX5_drain_57 rfl 2 rfl ?_
        refine z_iload C dX5_drain_58 0 rfl ?_
        refine z_callVi (rest := []) (k' := 0) (n' := 0) C (c_X5_did (z_l X) (z_G X) ((z_up_n _ _ (z_ne h_m h_p (by intro h; cases h))).trans (z_up_s _ _ _))) (cs_X5_63 C (by decide)) ((z_up_n _ _ (z_ne h_m h_p (by intro h; cases h))).trans (z_up_s _ _ _)) rfl rfl rfl rfl (Nat.le_of_ble_eq_true rfl) rfl rfl (by decide) (by decide) dX5_drain_60 (fun x60 M' hq => ?_)
        obtain ⟨rfl, rfl⟩ := hq
        rw [z_up_swap _ (z_ne h_m h_p (by intro h; cases h))]
        rw [z_up_up]
        exact ret dX5_drain_63 rfl (Or.inl ⟨c15, d32_0, c48, rfl, rfl⟩) (by decide) (by decide)
      · refine z_aload_n C dX5_drain_51 rfl 2 rfl ?_
        refine z_iconst C (v := 2) dX5_drain_52 (by decide) ?_
        refine z_callVi (rest := []) (k' := 0) (n' := 0) C (c_X5_refuse (z_l X) (z_G X) ((z_up_n _ _ (z_ne h_m h_p (by intro h; cases h))).trans (z_up_s _ _ _)) ((z_up_n _ _ (Ne.symm n_p_td)).trans ((z_up_n _ _ (z_ne h_td h_m (by intro h; cases h))).trans h_td)) (z_inL (by decide)) (show (2 : Int32).toNatClampNeg = 2 by decide)) (cs_X5_47 C (by decide)) ((z_up_n _ _ (z_ne h_m h_p (by intro h; cases h))).trans (z_up_s _ _ _)) rfl rfl rfl rfl (Nat.le_of_ble_eq_true rfl) rfl rfl (by decide) (by decide) dX5_drain_53 (fun x53 M' hq => ?_)
        obtain ⟨rfl, rfl⟩ := hq
        refine z_pop C dX5_drain_56 rfl ?_
        refine z_aload_n C dX5_drain_57 rfl 2 rfl ?_
        refine z_iload C dX5_drain_58 0 rfl ?_
        refine z_callVi (rest := []) (k' := 0) (n' := 0) C (c_X5_did (z_l X) (z_G X) ((z_up_n _ _ (z_ne h_m h_td (by intro h; cases h))).trans ((z_up_n _ _ (z_ne h_m h_p (by intro h; cases h))).trans (z_up_s _ _ _)))) (cs_X5_63 C (by decide)) ((z_up_n _ _ (z_ne h_m h_td (by intro h; cases h))).trans ((z_up_n _ _ (z_ne h_m h_p (by intro h; cases h))).trans (z_up_s _ _ _))) rfl rfl rfl rfl (Nat.le_of_ble_eq_true rfl) rfl rfl (by decide) (by decide) dX5_drain_60 (fun x60 M' hq => ?_)
        obtain ⟨rfl, rfl⟩ := hq
        rw [z_up_swap _ (z_ne h_m h_p (by intro h; cases h))]
        rw [z_up_swap _ (z_ne h_m h_td (by intro h; cases h))]
        rw [z_up_up]
        exact ret dX5_drain_63 rfl (Or.inr (Or.inl ⟨c15, d32_0, c48, rfl, rfl⟩)) (by decide) (by decide)
    · rw [hr32]
      refine z_istore (lv' := [(4, .int mn), (3, .ref p), (0, .ref m), (1, .int pane), (2, .int mn)]) C dX5_drain_35 (by decide) rfl ?_
      refine z_aload_n C dX5_drain_37 rfl 1 rfl ?_
      refine z_iconst C (v := 4) dX5_drain_38 (by decide) ?_
      refine z_dup2 C dX5_drain_39 rfl rfl ?_
      refine z_pl4 C ((z_up_n _ _ (z_ne h_p h_m (by intro h; cases h))).trans h_p) dX5_drain_40 ?_
      refine z_iload C dX5_drain_41 0 rfl ?_
      refine z_iadd C dX5_drain_43 ?_
      refine z_ps4 C ((z_up_n _ _ (z_ne h_p h_m (by intro h; cases h))).trans h_p) dX5_drain_44 ?_
      refine z_iload C dX5_drain_45 0 rfl ?_
      refine z_iload_n C dX5_drain_47 rfl 4 rfl ?_
      refine z_icmp_ge C (tgt := 57) dX5_drain_48 (by decide) (fun c48 => ?_) (fun c48 => ?_)
      · refine z_aload_n C dX5_drain_57 rfl 2 rfl ?_
        refine z_iload C dX5_drain_58 0 rfl ?_
        refine z_callVi (rest := []) (k' := 0) (n' := 0) C (c_X5_did (z_l X) (z_G X) ((z_up_n _ _ (z_ne h_m h_p (by intro h; cases h))).trans (z_up_s _ _ _))) (cs_X5_63 C (by decide)) ((z_up_n _ _ (z_ne h_m h_p (by intro h; cases h))).trans (z_up_s _ _ _)) rfl rfl rfl rfl (Nat.le_of_ble_eq_true rfl) rfl rfl (by decide) (by decide) dX5_drain_60 (fun x60 M' hq => ?_)
        obtain ⟨hr60, rfl⟩ := hq
        rw [hr60]
        rw [z_up_swap _ (z_ne h_m h_p (by intro h; cases h))]
        rw [z_up_up]
        exact ret dX5_drain_63 rfl (Or.inr (Or.inr (Or.inl ⟨c15, d32_0, c48, rfl, rfl⟩))) (by decide) (by decide)
      · refine z_aload_n C dX5_drain_51 rfl 2 rfl ?_
        refine z_iconst C (v := 2) dX5_drain_52 (by decide) ?_
        refine z_callVi (rest := []) (k' := 0) (n' := 0) C (c_X5_refuse (z_l X) (z_G X) ((z_up_n _ _ (z_ne h_m h_p (by intro h; cases h))).trans (z_up_s _ _ _)) ((z_up_n _ _ (Ne.symm n_p_td)).trans ((z_up_n _ _ (z_ne h_td h_m (by intro h; cases h))).trans h_td)) (z_inL (by decide)) (show (2 : Int32).toNatClampNeg = 2 by decide)) (cs_X5_47 C (by decide)) ((z_up_n _ _ (z_ne h_m h_p (by intro h; cases h))).trans (z_up_s _ _ _)) rfl rfl rfl rfl (Nat.le_of_ble_eq_true rfl) rfl rfl (by decide) (by decide) dX5_drain_53 (fun x53 M' hq => ?_)
        obtain ⟨rfl, rfl⟩ := hq
        refine z_pop C dX5_drain_56 rfl ?_
        refine z_aload_n C dX5_drain_57 rfl 2 rfl ?_
        refine z_iload C dX5_drain_58 0 rfl ?_
        refine z_callVi (rest := []) (k' := 0) (n' := 0) C (c_X5_did (z_l X) (z_G X) ((z_up_n _ _ (z_ne h_m h_td (by intro h; cases h))).trans ((z_up_n _ _ (z_ne h_m h_p (by intro h; cases h))).trans (z_up_s _ _ _)))) (cs_X5_63 C (by decide)) ((z_up_n _ _ (z_ne h_m h_td (by intro h; cases h))).trans ((z_up_n _ _ (z_ne h_m h_p (by intro h; cases h))).trans (z_up_s _ _ _))) rfl rfl rfl rfl (Nat.le_of_ble_eq_true rfl) rfl rfl (by decide) (by decide) dX5_drain_60 (fun x60 M' hq => ?_)
        obtain ⟨hr60, rfl⟩ := hq
        rw [hr60]
        rw [z_up_swap _ (z_ne h_m h_p (by intro h; cases h))]
        rw [z_up_swap _ (z_ne h_m h_td (by intro h; cases h))]
        rw [z_up_up]
        exact ret dX5_drain_63 rfl (Or.inr (Or.inr (Or.inr (Or.inl ⟨c15, d32_0, c48, rfl, rfl⟩)))) (by decide) (by decide)
  · refine z_iconst C (v := 0) dX5_drain_18 (by decide) ?_
    exact ret dX5_drain_19 rfl (Or.inr (Or.inr (Or.inr (Or.inr (⟨c15, rfl, rfl⟩))))) (by decide) (by decide)
end
section
theorem dX2_length_0 : decode cX2_length 0 = .ok (.aload_n 0, 1) := by decide +kernel
theorem dX2_length_1 : decode cX2_length 1 = .ok (.getfield 7, 3) := by decide +kernel
theorem dX2_length_4 : decode cX2_length 4 = .ok (.arraylength, 1) := by decide +kernel
theorem dX2_length_5 : decode cX2_length 5 = .ok (.ireturn, 1) := by decide +kernel
theorem dX2_hasPlace_0 : decode cX2_hasPlace 0 = .ok (.iload_n 1, 1) := by decide +kernel
theorem dX2_hasPlace_1 : decode cX2_hasPlace 1 = .ok (.ifCond .lt 16, 3) := by decide +kernel
theorem dX2_hasPlace_4 : decode cX2_hasPlace 4 = .ok (.iload_n 1, 1) := by decide +kernel
theorem dX2_hasPlace_5 : decode cX2_hasPlace 5 = .ok (.aload_n 0, 1) := by decide +kernel
theorem dX2_hasPlace_6 : decode cX2_hasPlace 6 = .ok (.getfield 7, 3) := by decide +kernel
theorem dX2_hasPlace_9 : decode cX2_hasPlace 9 = .ok (.arraylength, 1) := by decide +kernel
theorem dX2_hasPlace_10 : decode cX2_hasPlace 10 = .ok (.if_icmp .ge 7, 3) := by decide +kernel
theorem dX2_hasPlace_13 : decode cX2_hasPlace 13 = .ok (.iconst 1, 1) := by decide +kernel
theorem dX2_hasPlace_14 : decode cX2_hasPlace 14 = .ok (.goto 4, 3) := by decide +kernel
theorem dX2_hasPlace_17 : decode cX2_hasPlace 17 = .ok (.iconst 0, 1) := by decide +kernel
theorem dX2_hasPlace_18 : decode cX2_hasPlace 18 = .ok (.ireturn, 1) := by decide +kernel
theorem dX2_valueAt_0 : decode cX2_valueAt 0 = .ok (.aload_n 0, 1) := by decide +kernel
theorem dX2_valueAt_1 : decode cX2_valueAt 1 = .ok (.iload_n 1, 1) := by decide +kernel
theorem dX2_valueAt_2 : decode cX2_valueAt 2 = .ok (.invokevirtual 13, 3) := by decide +kernel
theorem dX2_valueAt_5 : decode cX2_valueAt 5 = .ok (.ifCond .eq 12, 3) := by decide +kernel
theorem dX2_valueAt_8 : decode cX2_valueAt 8 = .ok (.aload_n 0, 1) := by decide +kernel
theorem dX2_valueAt_9 : decode cX2_valueAt 9 = .ok (.getfield 7, 3) := by decide +kernel
theorem dX2_valueAt_12 : decode cX2_valueAt 12 = .ok (.iload_n 1, 1) := by decide +kernel
theorem dX2_valueAt_13 : decode cX2_valueAt 13 = .ok (.iaload, 1) := by decide +kernel
theorem dX2_valueAt_14 : decode cX2_valueAt 14 = .ok (.goto 4, 3) := by decide +kernel
theorem dX2_valueAt_18 : decode cX2_valueAt 18 = .ok (.ireturn, 1) := by decide +kernel
theorem dX2_exchangeAt_0 : decode cX2_exchangeAt 0 = .ok (.aload_n 0, 1) := by decide +kernel
theorem dX2_exchangeAt_1 : decode cX2_exchangeAt 1 = .ok (.iload_n 1, 1) := by decide +kernel
theorem dX2_exchangeAt_2 : decode cX2_exchangeAt 2 = .ok (.invokevirtual 13, 3) := by decide +kernel
theorem dX2_exchangeAt_5 : decode cX2_exchangeAt 5 = .ok (.ifCond .ne 5, 3) := by decide +kernel
theorem dX2_exchangeAt_10 : decode cX2_exchangeAt 10 = .ok (.aload_n 0, 1) := by decide +kernel
theorem dX2_exchangeAt_11 : decode cX2_exchangeAt 11 = .ok (.getfield 7, 3) := by decide +kernel
theorem dX2_exchangeAt_14 : decode cX2_exchangeAt 14 = .ok (.iload_n 1, 1) := by decide +kernel
theorem dX2_exchangeAt_15 : decode cX2_exchangeAt 15 = .ok (.iaload, 1) := by decide +kernel
theorem dX2_exchangeAt_16 : decode cX2_exchangeAt 16 = .ok (.istore_n 3, 1) := by decide +kernel
theorem dX2_exchangeAt_17 : decode cX2_exchangeAt 17 = .ok (.aload_n 0, 1) := by decide +kernel
theorem dX2_exchangeAt_18 : decode cX2_exchangeAt 18 = .ok (.getfield 7, 3) := by decide +kernel
theorem dX2_exchangeAt_21 : decode cX2_exchangeAt 21 = .ok (.iload_n 1, 1) := by decide +kernel
theorem dX2_exchangeAt_22 : decode cX2_exchangeAt 22 = .ok (.iload_n 2, 1) := by decide +kernel
theorem dX2_exchangeAt_23 : decode cX2_exchangeAt 23 = .ok (.iastore, 1) := by decide +kernel
theorem dX2_exchangeAt_24 : decode cX2_exchangeAt 24 = .ok (.iload_n 3, 1) := by decide +kernel
theorem dX2_exchangeAt_25 : decode cX2_exchangeAt 25 = .ok (.ireturn, 1) := by decide +kernel
theorem dX1_left_0 : decode cX1_left 0 = .ok (.aload_n 0, 1) := by decide +kernel
theorem dX1_left_1 : decode cX1_left 1 = .ok (.getfield 31, 3) := by decide +kernel
theorem dX1_left_4 : decode cX1_left 4 = .ok (.aload_n 0, 1) := by decide +kernel
theorem dX1_left_5 : decode cX1_left 5 = .ok (.getfield 28, 3) := by decide +kernel
theorem dX1_left_8 : decode cX1_left 8 = .ok (.isub, 1) := by decide +kernel
theorem dX1_left_9 : decode cX1_left 9 = .ok (.ireturn, 1) := by decide +kernel
theorem dX1_hasMark_0 : decode cX1_hasMark 0 = .ok (.aload_n 0, 1) := by decide +kernel
theorem dX1_hasMark_1 : decode cX1_hasMark 1 = .ok (.getfield 34, 3) := by decide +kernel
theorem dX1_hasMark_4 : decode cX1_hasMark 4 = .ok (.iconst (-1), 1) := by decide +kernel
theorem dX1_hasMark_5 : decode cX1_hasMark 5 = .ok (.if_icmp .eq 7, 3) := by decide +kernel
theorem dX1_hasMark_8 : decode cX1_hasMark 8 = .ok (.iconst 1, 1) := by decide +kernel
theorem dX1_hasMark_9 : decode cX1_hasMark 9 = .ok (.goto 4, 3) := by decide +kernel
theorem dX1_hasMark_12 : decode cX1_hasMark 12 = .ok (.iconst 0, 1) := by decide +kernel
theorem dX1_hasMark_13 : decode cX1_hasMark 13 = .ok (.ireturn, 1) := by decide +kernel
theorem dX1_hasIndex_0 : decode cX1_hasIndex 0 = .ok (.iload_n 1, 1) := by decide +kernel
theorem dX1_hasIndex_1 : decode cX1_hasIndex 1 = .ok (.ifCond .lt 15, 3) := by decide +kernel
theorem dX1_hasIndex_4 : decode cX1_hasIndex 4 = .ok (.iload_n 1, 1) := by decide +kernel
theorem dX1_hasIndex_5 : decode cX1_hasIndex 5 = .ok (.aload_n 0, 1) := by decide +kernel
theorem dX1_hasIndex_6 : decode cX1_hasIndex 6 = .ok (.getfield 31, 3) := by decide +kernel
theorem dX1_hasIndex_9 : decode cX1_hasIndex 9 = .ok (.if_icmp .ge 7, 3) := by decide +kernel
theorem dX1_hasIndex_12 : decode cX1_hasIndex 12 = .ok (.iconst 1, 1) := by decide +kernel
theorem dX1_hasIndex_13 : decode cX1_hasIndex 13 = .ok (.goto 4, 3) := by decide +kernel
theorem dX1_hasIndex_16 : decode cX1_hasIndex 16 = .ok (.iconst 0, 1) := by decide +kernel
theorem dX1_hasIndex_17 : decode cX1_hasIndex 17 = .ok (.ireturn, 1) := by decide +kernel
theorem dX1_shows_0 : decode cX1_shows 0 = .ok (.iload_n 1, 1) := by decide +kernel
theorem dX1_shows_1 : decode cX1_shows 1 = .ok (.ifCond .lt 15, 3) := by decide +kernel
theorem dX1_shows_4 : decode cX1_shows 4 = .ok (.iload_n 1, 1) := by decide +kernel
theorem dX1_shows_5 : decode cX1_shows 5 = .ok (.aload_n 0, 1) := by decide +kernel
theorem dX1_shows_6 : decode cX1_shows 6 = .ok (.getfield 25, 3) := by decide +kernel
theorem dX1_shows_9 : decode cX1_shows 9 = .ok (.if_icmp .ge 7, 3) := by decide +kernel
theorem dX1_shows_12 : decode cX1_shows 12 = .ok (.iconst 1, 1) := by decide +kernel
theorem dX1_shows_13 : decode cX1_shows 13 = .ok (.goto 4, 3) := by decide +kernel
theorem dX1_shows_16 : decode cX1_shows 16 = .ok (.iconst 0, 1) := by decide +kernel
theorem dX1_shows_17 : decode cX1_shows 17 = .ok (.ireturn, 1) := by decide +kernel
theorem dX1_beginAgain_0 : decode cX1_beginAgain 0 = .ok (.aload_n 0, 1) := by decide +kernel
theorem dX1_beginAgain_1 : decode cX1_beginAgain 1 = .ok (.iconst 0, 1) := by decide +kernel
theorem dX1_beginAgain_2 : decode cX1_beginAgain 2 = .ok (.putfield 28, 3) := by decide +kernel
theorem dX1_beginAgain_5 : decode cX1_beginAgain 5 = .ok (.aload_n 0, 1) := by decide +kernel
theorem dX1_beginAgain_6 : decode cX1_beginAgain 6 = .ok (.iload_n 1, 1) := by decide +kernel
theorem dX1_beginAgain_7 : decode cX1_beginAgain 7 = .ok (.putfield 31, 3) := by decide +kernel
theorem dX1_beginAgain_10 : decode cX1_beginAgain 10 = .ok (.aload_n 0, 1) := by decide +kernel
theorem dX1_beginAgain_11 : decode cX1_beginAgain 11 = .ok (.iconst (-1), 1) := by decide +kernel
theorem dX1_beginAgain_12 : decode cX1_beginAgain 12 = .ok (.putfield 34, 3) := by decide +kernel
theorem dX1_beginAgain_15 : decode cX1_beginAgain 15 = .ok (.return_, 1) := by decide +kernel
theorem dX1_moveTo_0 : decode cX1_moveTo 0 = .ok (.aload_n 0, 1) := by decide +kernel
theorem dX1_moveTo_1 : decode cX1_moveTo 1 = .ok (.iload_n 1, 1) := by decide +kernel
theorem dX1_moveTo_2 : decode cX1_moveTo 2 = .ok (.putfield 28, 3) := by decide +kernel
theorem dX1_moveTo_5 : decode cX1_moveTo 5 = .ok (.aload_n 0, 1) := by decide +kernel
theorem dX1_moveTo_6 : decode cX1_moveTo 6 = .ok (.getfield 34, 3) := by decide +kernel
theorem dX1_moveTo_9 : decode cX1_moveTo 9 = .ok (.iload_n 1, 1) := by decide +kernel
theorem dX1_moveTo_10 : decode cX1_moveTo 10 = .ok (.if_icmp .le 8, 3) := by decide +kernel
theorem dX1_moveTo_13 : decode cX1_moveTo 13 = .ok (.aload_n 0, 1) := by decide +kernel
theorem dX1_moveTo_14 : decode cX1_moveTo 14 = .ok (.iconst (-1), 1) := by decide +kernel
theorem dX1_moveTo_15 : decode cX1_moveTo 15 = .ok (.putfield 34, 3) := by decide +kernel
theorem dX1_moveTo_18 : decode cX1_moveTo 18 = .ok (.return_, 1) := by decide +kernel
theorem dX1_endAt_0 : decode cX1_endAt 0 = .ok (.aload_n 0, 1) := by decide +kernel
theorem dX1_endAt_1 : decode cX1_endAt 1 = .ok (.iload_n 1, 1) := by decide +kernel
theorem dX1_endAt_2 : decode cX1_endAt 2 = .ok (.putfield 31, 3) := by decide +kernel
theorem dX1_endAt_5 : decode cX1_endAt 5 = .ok (.aload_n 0, 1) := by decide +kernel
theorem dX1_endAt_6 : decode cX1_endAt 6 = .ok (.getfield 28, 3) := by decide +kernel
theorem dX1_endAt_9 : decode cX1_endAt 9 = .ok (.iload_n 1, 1) := by decide +kernel
theorem dX1_endAt_10 : decode cX1_endAt 10 = .ok (.if_icmp .le 8, 3) := by decide +kernel
theorem dX1_endAt_13 : decode cX1_endAt 13 = .ok (.aload_n 0, 1) := by decide +kernel
theorem dX1_endAt_14 : decode cX1_endAt 14 = .ok (.iload_n 1, 1) := by decide +kernel
theorem dX1_endAt_15 : decode cX1_endAt 15 = .ok (.putfield 28, 3) := by decide +kernel
theorem dX1_endAt_18 : decode cX1_endAt 18 = .ok (.aload_n 0, 1) := by decide +kernel
theorem dX1_endAt_19 : decode cX1_endAt 19 = .ok (.getfield 34, 3) := by decide +kernel
theorem dX1_endAt_22 : decode cX1_endAt 22 = .ok (.iload_n 1, 1) := by decide +kernel
theorem dX1_endAt_23 : decode cX1_endAt 23 = .ok (.if_icmp .le 8, 3) := by decide +kernel
theorem dX1_endAt_26 : decode cX1_endAt 26 = .ok (.aload_n 0, 1) := by decide +kernel
theorem dX1_endAt_27 : decode cX1_endAt 27 = .ok (.iconst (-1), 1) := by decide +kernel
theorem dX1_endAt_28 : decode cX1_endAt 28 = .ok (.putfield 34, 3) := by decide +kernel
theorem dX1_endAt_31 : decode cX1_endAt 31 = .ok (.return_, 1) := by decide +kernel
theorem dX1_showAll_0 : decode cX1_showAll 0 = .ok (.aload_n 0, 1) := by decide +kernel
theorem dX1_showAll_1 : decode cX1_showAll 1 = .ok (.aload_n 1, 1) := by decide +kernel
theorem dX1_showAll_2 : decode cX1_showAll 2 = .ok (.putfield 9, 3) := by decide +kernel
theorem dX1_showAll_5 : decode cX1_showAll 5 = .ok (.aload_n 0, 1) := by decide +kernel
theorem dX1_showAll_6 : decode cX1_showAll 6 = .ok (.iconst 0, 1) := by decide +kernel
theorem dX1_showAll_7 : decode cX1_showAll 7 = .ok (.putfield 15, 3) := by decide +kernel
theorem dX1_showAll_10 : decode cX1_showAll 10 = .ok (.aload_n 0, 1) := by decide +kernel
theorem dX1_showAll_11 : decode cX1_showAll 11 = .ok (.aload_n 1, 1) := by decide +kernel
theorem dX1_showAll_12 : decode cX1_showAll 12 = .ok (.invokevirtual 19, 3) := by decide +kernel
theorem dX1_showAll_15 : decode cX1_showAll 15 = .ok (.putfield 25, 3) := by decide +kernel
theorem dX1_showAll_18 : decode cX1_showAll 18 = .ok (.aload_n 0, 1) := by decide +kernel
theorem dX1_showAll_19 : decode cX1_showAll 19 = .ok (.iconst 0, 1) := by decide +kernel
theorem dX1_showAll_20 : decode cX1_showAll 20 = .ok (.putfield 37, 3) := by decide +kernel
theorem dX1_showAll_23 : decode cX1_showAll 23 = .ok (.aload_n 0, 1) := by decide +kernel
theorem dX1_showAll_24 : decode cX1_showAll 24 = .ok (.aload_n 0, 1) := by decide +kernel
theorem dX1_showAll_25 : decode cX1_showAll 25 = .ok (.getfield 25, 3) := by decide +kernel
theorem dX1_showAll_28 : decode cX1_showAll 28 = .ok (.invokevirtual 41, 3) := by decide +kernel
theorem dX1_showAll_31 : decode cX1_showAll 31 = .ok (.return_, 1) := by decide +kernel
theorem dX1_becomeTwin_0 : decode cX1_becomeTwin 0 = .ok (.aload_n 0, 1) := by decide +kernel
theorem dX1_becomeTwin_1 : decode cX1_becomeTwin 1 = .ok (.aload_n 1, 1) := by decide +kernel
theorem dX1_becomeTwin_2 : decode cX1_becomeTwin 2 = .ok (.getfield 9, 3) := by decide +kernel
theorem dX1_becomeTwin_5 : decode cX1_becomeTwin 5 = .ok (.putfield 9, 3) := by decide +kernel
theorem dX1_becomeTwin_8 : decode cX1_becomeTwin 8 = .ok (.aload_n 0, 1) := by decide +kernel
theorem dX1_becomeTwin_9 : decode cX1_becomeTwin 9 = .ok (.aload_n 1, 1) := by decide +kernel
theorem dX1_becomeTwin_10 : decode cX1_becomeTwin 10 = .ok (.getfield 15, 3) := by decide +kernel
theorem dX1_becomeTwin_13 : decode cX1_becomeTwin 13 = .ok (.putfield 15, 3) := by decide +kernel
theorem dX1_becomeTwin_16 : decode cX1_becomeTwin 16 = .ok (.aload_n 0, 1) := by decide +kernel
theorem dX1_becomeTwin_17 : decode cX1_becomeTwin 17 = .ok (.aload_n 1, 1) := by decide +kernel
theorem dX1_becomeTwin_18 : decode cX1_becomeTwin 18 = .ok (.getfield 25, 3) := by decide +kernel
theorem dX1_becomeTwin_21 : decode cX1_becomeTwin 21 = .ok (.putfield 25, 3) := by decide +kernel
theorem dX1_becomeTwin_24 : decode cX1_becomeTwin 24 = .ok (.aload_n 0, 1) := by decide +kernel
theorem dX1_becomeTwin_25 : decode cX1_becomeTwin 25 = .ok (.aload_n 1, 1) := by decide +kernel
theorem dX1_becomeTwin_26 : decode cX1_becomeTwin 26 = .ok (.getfield 28, 3) := by decide +kernel
theorem dX1_becomeTwin_29 : decode cX1_becomeTwin 29 = .ok (.putfield 28, 3) := by decide +kernel
theorem dX1_becomeTwin_32 : decode cX1_becomeTwin 32 = .ok (.aload_n 0, 1) := by decide +kernel
theorem dX1_becomeTwin_33 : decode cX1_becomeTwin 33 = .ok (.aload_n 1, 1) := by decide +kernel
theorem dX1_becomeTwin_34 : decode cX1_becomeTwin 34 = .ok (.getfield 31, 3) := by decide +kernel
theorem dX1_becomeTwin_37 : decode cX1_becomeTwin 37 = .ok (.putfield 31, 3) := by decide +kernel
theorem dX1_becomeTwin_40 : decode cX1_becomeTwin 40 = .ok (.aload_n 0, 1) := by decide +kernel
theorem dX1_becomeTwin_41 : decode cX1_becomeTwin 41 = .ok (.aload_n 1, 1) := by decide +kernel
theorem dX1_becomeTwin_42 : decode cX1_becomeTwin 42 = .ok (.getfield 34, 3) := by decide +kernel
theorem dX1_becomeTwin_45 : decode cX1_becomeTwin 45 = .ok (.putfield 34, 3) := by decide +kernel
theorem dX1_becomeTwin_48 : decode cX1_becomeTwin 48 = .ok (.aload_n 0, 1) := by decide +kernel
theorem dX1_becomeTwin_49 : decode cX1_becomeTwin 49 = .ok (.aload_n 1, 1) := by decide +kernel
theorem dX1_becomeTwin_50 : decode cX1_becomeTwin 50 = .ok (.getfield 37, 3) := by decide +kernel
theorem dX1_becomeTwin_53 : decode cX1_becomeTwin 53 = .ok (.putfield 37, 3) := by decide +kernel
theorem dX1_becomeTwin_56 : decode cX1_becomeTwin 56 = .ok (.return_, 1) := by decide +kernel
theorem dX1_becomePart_0 : decode cX1_becomePart 0 = .ok (.aload_n 0, 1) := by decide +kernel
theorem dX1_becomePart_1 : decode cX1_becomePart 1 = .ok (.aload_n 1, 1) := by decide +kernel
theorem dX1_becomePart_2 : decode cX1_becomePart 2 = .ok (.getfield 9, 3) := by decide +kernel
theorem dX1_becomePart_5 : decode cX1_becomePart 5 = .ok (.putfield 9, 3) := by decide +kernel
theorem dX1_becomePart_8 : decode cX1_becomePart 8 = .ok (.aload_n 0, 1) := by decide +kernel
theorem dX1_becomePart_9 : decode cX1_becomePart 9 = .ok (.aload_n 1, 1) := by decide +kernel
theorem dX1_becomePart_10 : decode cX1_becomePart 10 = .ok (.getfield 15, 3) := by decide +kernel
theorem dX1_becomePart_13 : decode cX1_becomePart 13 = .ok (.iload_n 2, 1) := by decide +kernel
theorem dX1_becomePart_14 : decode cX1_becomePart 14 = .ok (.iadd, 1) := by decide +kernel
theorem dX1_becomePart_15 : decode cX1_becomePart 15 = .ok (.putfield 15, 3) := by decide +kernel
theorem dX1_becomePart_18 : decode cX1_becomePart 18 = .ok (.aload_n 0, 1) := by decide +kernel
theorem dX1_becomePart_19 : decode cX1_becomePart 19 = .ok (.iload_n 3, 1) := by decide +kernel
theorem dX1_becomePart_20 : decode cX1_becomePart 20 = .ok (.putfield 25, 3) := by decide +kernel
theorem dX1_becomePart_23 : decode cX1_becomePart 23 = .ok (.aload_n 0, 1) := by decide +kernel
theorem dX1_becomePart_24 : decode cX1_becomePart 24 = .ok (.aload_n 1, 1) := by decide +kernel
theorem dX1_becomePart_25 : decode cX1_becomePart 25 = .ok (.getfield 37, 3) := by decide +kernel
theorem dX1_becomePart_28 : decode cX1_becomePart 28 = .ok (.putfield 37, 3) := by decide +kernel
theorem dX1_becomePart_31 : decode cX1_becomePart 31 = .ok (.aload_n 0, 1) := by decide +kernel
theorem dX1_becomePart_32 : decode cX1_becomePart 32 = .ok (.iload_n 3, 1) := by decide +kernel
theorem dX1_becomePart_33 : decode cX1_becomePart 33 = .ok (.invokevirtual 41, 3) := by decide +kernel
theorem dX1_becomePart_36 : decode cX1_becomePart 36 = .ok (.return_, 1) := by decide +kernel
theorem dX1_valueAt_0 : decode cX1_valueAt 0 = .ok (.aload_n 0, 1) := by decide +kernel
theorem dX1_valueAt_1 : decode cX1_valueAt 1 = .ok (.getfield 9, 3) := by decide +kernel
theorem dX1_valueAt_4 : decode cX1_valueAt 4 = .ok (.aload_n 0, 1) := by decide +kernel
theorem dX1_valueAt_5 : decode cX1_valueAt 5 = .ok (.getfield 15, 3) := by decide +kernel
theorem dX1_valueAt_8 : decode cX1_valueAt 8 = .ok (.iload_n 1, 1) := by decide +kernel
theorem dX1_valueAt_9 : decode cX1_valueAt 9 = .ok (.iadd, 1) := by decide +kernel
theorem dX1_valueAt_10 : decode cX1_valueAt 10 = .ok (.invokevirtual 45, 3) := by decide +kernel
theorem dX1_valueAt_13 : decode cX1_valueAt 13 = .ok (.ireturn, 1) := by decide +kernel
theorem dX1_replace_0 : decode cX1_replace 0 = .ok (.aload_n 0, 1) := by decide +kernel
theorem dX1_replace_1 : decode cX1_replace 1 = .ok (.getfield 9, 3) := by decide +kernel
theorem dX1_replace_4 : decode cX1_replace 4 = .ok (.aload_n 0, 1) := by decide +kernel
theorem dX1_replace_5 : decode cX1_replace 5 = .ok (.getfield 15, 3) := by decide +kernel
theorem dX1_replace_8 : decode cX1_replace 8 = .ok (.iload_n 1, 1) := by decide +kernel
theorem dX1_replace_9 : decode cX1_replace 9 = .ok (.iadd, 1) := by decide +kernel
theorem dX1_replace_10 : decode cX1_replace 10 = .ok (.iload_n 2, 1) := by decide +kernel
theorem dX1_replace_11 : decode cX1_replace 11 = .ok (.invokevirtual 49, 3) := by decide +kernel
theorem dX1_replace_14 : decode cX1_replace 14 = .ok (.ireturn, 1) := by decide +kernel
theorem dX1_takeNext_0 : decode cX1_takeNext 0 = .ok (.aload_n 0, 1) := by decide +kernel
theorem dX1_takeNext_1 : decode cX1_takeNext 1 = .ok (.aload_n 0, 1) := by decide +kernel
theorem dX1_takeNext_2 : decode cX1_takeNext 2 = .ok (.getfield 28, 3) := by decide +kernel
theorem dX1_takeNext_5 : decode cX1_takeNext 5 = .ok (.invokevirtual 53, 3) := by decide +kernel
theorem dX1_takeNext_8 : decode cX1_takeNext 8 = .ok (.istore_n 1, 1) := by decide +kernel
theorem dX1_takeNext_9 : decode cX1_takeNext 9 = .ok (.aload_n 0, 1) := by decide +kernel
theorem dX1_takeNext_10 : decode cX1_takeNext 10 = .ok (.dup, 1) := by decide +kernel
theorem dX1_takeNext_11 : decode cX1_takeNext 11 = .ok (.getfield 28, 3) := by decide +kernel
theorem dX1_takeNext_14 : decode cX1_takeNext 14 = .ok (.iconst 1, 1) := by decide +kernel
theorem dX1_takeNext_15 : decode cX1_takeNext 15 = .ok (.iadd, 1) := by decide +kernel
theorem dX1_takeNext_16 : decode cX1_takeNext 16 = .ok (.putfield 28, 3) := by decide +kernel
theorem dX1_takeNext_19 : decode cX1_takeNext 19 = .ok (.iload_n 1, 1) := by decide +kernel
theorem dX1_takeNext_20 : decode cX1_takeNext 20 = .ok (.ireturn, 1) := by decide +kernel
theorem dX1_putNext_0 : decode cX1_putNext 0 = .ok (.aload_n 0, 1) := by decide +kernel
theorem dX1_putNext_1 : decode cX1_putNext 1 = .ok (.aload_n 0, 1) := by decide +kernel
theorem dX1_putNext_2 : decode cX1_putNext 2 = .ok (.getfield 28, 3) := by decide +kernel
theorem dX1_putNext_5 : decode cX1_putNext 5 = .ok (.iload_n 1, 1) := by decide +kernel
theorem dX1_putNext_6 : decode cX1_putNext 6 = .ok (.invokevirtual 54, 3) := by decide +kernel
theorem dX1_putNext_9 : decode cX1_putNext 9 = .ok (.pop, 1) := by decide +kernel
theorem dX1_putNext_10 : decode cX1_putNext 10 = .ok (.aload_n 0, 1) := by decide +kernel
theorem dX1_putNext_11 : decode cX1_putNext 11 = .ok (.dup, 1) := by decide +kernel
theorem dX1_putNext_12 : decode cX1_putNext 12 = .ok (.getfield 28, 3) := by decide +kernel
theorem dX1_putNext_15 : decode cX1_putNext 15 = .ok (.iconst 1, 1) := by decide +kernel
theorem dX1_putNext_16 : decode cX1_putNext 16 = .ok (.iadd, 1) := by decide +kernel
theorem dX1_putNext_17 : decode cX1_putNext 17 = .ok (.putfield 28, 3) := by decide +kernel
theorem dX1_putNext_20 : decode cX1_putNext 20 = .ok (.return_, 1) := by decide +kernel
theorem dX1_numberOf_0 : decode cX1_numberOf 0 = .ok (.iload_n 1, 1) := by decide +kernel
theorem dX1_numberOf_1 : decode cX1_numberOf 1 = .ok (.tableswitch 132 0 8 #[51, 56, 61, 66, 71, 76, 93, 106, 119], 51) := by decide +kernel
theorem dX1_numberOf_52 : decode cX1_numberOf 52 = .ok (.aload_n 0, 1) := by decide +kernel
theorem dX1_numberOf_53 : decode cX1_numberOf 53 = .ok (.getfield 28, 3) := by decide +kernel
theorem dX1_numberOf_56 : decode cX1_numberOf 56 = .ok (.ireturn, 1) := by decide +kernel
theorem dX1_numberOf_57 : decode cX1_numberOf 57 = .ok (.aload_n 0, 1) := by decide +kernel
theorem dX1_numberOf_58 : decode cX1_numberOf 58 = .ok (.getfield 31, 3) := by decide +kernel
theorem dX1_numberOf_61 : decode cX1_numberOf 61 = .ok (.ireturn, 1) := by decide +kernel
theorem dX1_numberOf_62 : decode cX1_numberOf 62 = .ok (.aload_n 0, 1) := by decide +kernel
theorem dX1_numberOf_63 : decode cX1_numberOf 63 = .ok (.getfield 25, 3) := by decide +kernel
theorem dX1_numberOf_66 : decode cX1_numberOf 66 = .ok (.ireturn, 1) := by decide +kernel
theorem dX1_numberOf_67 : decode cX1_numberOf 67 = .ok (.aload_n 0, 1) := by decide +kernel
theorem dX1_numberOf_68 : decode cX1_numberOf 68 = .ok (.invokevirtual 57, 3) := by decide +kernel
theorem dX1_numberOf_71 : decode cX1_numberOf 71 = .ok (.ireturn, 1) := by decide +kernel
theorem dX1_numberOf_72 : decode cX1_numberOf 72 = .ok (.aload_n 0, 1) := by decide +kernel
theorem dX1_numberOf_73 : decode cX1_numberOf 73 = .ok (.getfield 34, 3) := by decide +kernel
theorem dX1_numberOf_76 : decode cX1_numberOf 76 = .ok (.ireturn, 1) := by decide +kernel
theorem dX1_numberOf_77 : decode cX1_numberOf 77 = .ok (.aload_n 0, 1) := by decide +kernel
theorem dX1_numberOf_78 : decode cX1_numberOf 78 = .ok (.getfield 37, 3) := by decide +kernel
theorem dX1_numberOf_81 : decode cX1_numberOf 81 = .ok (.ifCond .eq 8, 3) := by decide +kernel
theorem dX1_numberOf_84 : decode cX1_numberOf 84 = .ok (.bipush (-9), 2) := by decide +kernel
theorem dX1_numberOf_86 : decode cX1_numberOf 86 = .ok (.goto 7, 3) := by decide +kernel
theorem dX1_numberOf_89 : decode cX1_numberOf 89 = .ok (.aload_n 0, 1) := by decide +kernel
theorem dX1_numberOf_90 : decode cX1_numberOf 90 = .ok (.getfield 15, 3) := by decide +kernel
theorem dX1_numberOf_93 : decode cX1_numberOf 93 = .ok (.ireturn, 1) := by decide +kernel
theorem dX1_numberOf_94 : decode cX1_numberOf 94 = .ok (.aload_n 0, 1) := by decide +kernel
theorem dX1_numberOf_95 : decode cX1_numberOf 95 = .ok (.invokevirtual 57, 3) := by decide +kernel
theorem dX1_numberOf_98 : decode cX1_numberOf 98 = .ok (.ifCond .le 7, 3) := by decide +kernel
theorem dX1_numberOf_101 : decode cX1_numberOf 101 = .ok (.iconst 1, 1) := by decide +kernel
theorem dX1_numberOf_102 : decode cX1_numberOf 102 = .ok (.goto 4, 3) := by decide +kernel
theorem dX1_numberOf_105 : decode cX1_numberOf 105 = .ok (.iconst 0, 1) := by decide +kernel
theorem dX1_numberOf_106 : decode cX1_numberOf 106 = .ok (.ireturn, 1) := by decide +kernel
theorem dX1_numberOf_107 : decode cX1_numberOf 107 = .ok (.aload_n 0, 1) := by decide +kernel
theorem dX1_numberOf_108 : decode cX1_numberOf 108 = .ok (.getfield 37, 3) := by decide +kernel
theorem dX1_numberOf_111 : decode cX1_numberOf 111 = .ok (.ifCond .eq 7, 3) := by decide +kernel
theorem dX1_numberOf_114 : decode cX1_numberOf 114 = .ok (.iconst 1, 1) := by decide +kernel
theorem dX1_numberOf_115 : decode cX1_numberOf 115 = .ok (.goto 4, 3) := by decide +kernel
theorem dX1_numberOf_118 : decode cX1_numberOf 118 = .ok (.iconst 0, 1) := by decide +kernel
theorem dX1_numberOf_119 : decode cX1_numberOf 119 = .ok (.ireturn, 1) := by decide +kernel
theorem dX1_numberOf_120 : decode cX1_numberOf 120 = .ok (.aload_n 0, 1) := by decide +kernel
theorem dX1_numberOf_121 : decode cX1_numberOf 121 = .ok (.getfield 37, 3) := by decide +kernel
theorem dX1_numberOf_124 : decode cX1_numberOf 124 = .ok (.ifCond .eq 7, 3) := by decide +kernel
theorem dX1_numberOf_127 : decode cX1_numberOf 127 = .ok (.iconst 0, 1) := by decide +kernel
theorem dX1_numberOf_128 : decode cX1_numberOf 128 = .ok (.goto 4, 3) := by decide +kernel
theorem dX1_numberOf_131 : decode cX1_numberOf 131 = .ok (.iconst 1, 1) := by decide +kernel
theorem dX1_numberOf_132 : decode cX1_numberOf 132 = .ok (.ireturn, 1) := by decide +kernel
theorem dX1_numberOf_133 : decode cX1_numberOf 133 = .ok (.aload_n 0, 1) := by decide +kernel
theorem dX1_numberOf_134 : decode cX1_numberOf 134 = .ok (.getfield 25, 3) := by decide +kernel
theorem dX1_numberOf_137 : decode cX1_numberOf 137 = .ok (.aload_n 0, 1) := by decide +kernel
theorem dX1_numberOf_138 : decode cX1_numberOf 138 = .ok (.getfield 31, 3) := by decide +kernel
theorem dX1_numberOf_141 : decode cX1_numberOf 141 = .ok (.isub, 1) := by decide +kernel
theorem dX1_numberOf_142 : decode cX1_numberOf 142 = .ok (.ireturn, 1) := by decide +kernel
theorem dX1_isInOrder_0 : decode cX1_isInOrder 0 = .ok (.aload_n 0, 1) := by decide +kernel
theorem dX1_isInOrder_1 : decode cX1_isInOrder 1 = .ok (.invokevirtual 60, 3) := by decide +kernel
theorem dX1_isInOrder_4 : decode cX1_isInOrder 4 = .ok (.ifCond .eq 23, 3) := by decide +kernel
theorem dX1_isInOrder_7 : decode cX1_isInOrder 7 = .ok (.aload_n 0, 1) := by decide +kernel
theorem dX1_isInOrder_8 : decode cX1_isInOrder 8 = .ok (.getfield 34, 3) := by decide +kernel
theorem dX1_isInOrder_11 : decode cX1_isInOrder 11 = .ok (.ifCond .lt 14, 3) := by decide +kernel
theorem dX1_isInOrder_14 : decode cX1_isInOrder 14 = .ok (.aload_n 0, 1) := by decide +kernel
theorem dX1_isInOrder_15 : decode cX1_isInOrder 15 = .ok (.getfield 34, 3) := by decide +kernel
theorem dX1_isInOrder_18 : decode cX1_isInOrder 18 = .ok (.aload_n 0, 1) := by decide +kernel
theorem dX1_isInOrder_19 : decode cX1_isInOrder 19 = .ok (.getfield 28, 3) := by decide +kernel
theorem dX1_isInOrder_22 : decode cX1_isInOrder 22 = .ok (.if_icmp .le 5, 3) := by decide +kernel
theorem dX1_isInOrder_25 : decode cX1_isInOrder 25 = .ok (.iconst 0, 1) := by decide +kernel
theorem dX1_isInOrder_26 : decode cX1_isInOrder 26 = .ok (.ireturn, 1) := by decide +kernel
theorem dX1_isInOrder_27 : decode cX1_isInOrder 27 = .ok (.aload_n 0, 1) := by decide +kernel
theorem dX1_isInOrder_28 : decode cX1_isInOrder 28 = .ok (.getfield 28, 3) := by decide +kernel
theorem dX1_isInOrder_31 : decode cX1_isInOrder 31 = .ok (.ifCond .lt 45, 3) := by decide +kernel
theorem dX1_isInOrder_34 : decode cX1_isInOrder 34 = .ok (.aload_n 0, 1) := by decide +kernel
theorem dX1_isInOrder_35 : decode cX1_isInOrder 35 = .ok (.getfield 28, 3) := by decide +kernel
theorem dX1_isInOrder_38 : decode cX1_isInOrder 38 = .ok (.aload_n 0, 1) := by decide +kernel
theorem dX1_isInOrder_39 : decode cX1_isInOrder 39 = .ok (.getfield 31, 3) := by decide +kernel
theorem dX1_isInOrder_42 : decode cX1_isInOrder 42 = .ok (.if_icmp .gt 34, 3) := by decide +kernel
theorem dX1_isInOrder_45 : decode cX1_isInOrder 45 = .ok (.aload_n 0, 1) := by decide +kernel
theorem dX1_isInOrder_46 : decode cX1_isInOrder 46 = .ok (.getfield 31, 3) := by decide +kernel
theorem dX1_isInOrder_49 : decode cX1_isInOrder 49 = .ok (.aload_n 0, 1) := by decide +kernel
theorem dX1_isInOrder_50 : decode cX1_isInOrder 50 = .ok (.getfield 25, 3) := by decide +kernel
theorem dX1_isInOrder_53 : decode cX1_isInOrder 53 = .ok (.if_icmp .gt 23, 3) := by decide +kernel
theorem dX1_isInOrder_56 : decode cX1_isInOrder 56 = .ok (.aload_n 0, 1) := by decide +kernel
theorem dX1_isInOrder_57 : decode cX1_isInOrder 57 = .ok (.invokevirtual 57, 3) := by decide +kernel
theorem dX1_isInOrder_60 : decode cX1_isInOrder 60 = .ok (.aload_n 0, 1) := by decide +kernel
theorem dX1_isInOrder_61 : decode cX1_isInOrder 61 = .ok (.getfield 31, 3) := by decide +kernel
theorem dX1_isInOrder_64 : decode cX1_isInOrder 64 = .ok (.aload_n 0, 1) := by decide +kernel
theorem dX1_isInOrder_65 : decode cX1_isInOrder 65 = .ok (.getfield 28, 3) := by decide +kernel
theorem dX1_isInOrder_68 : decode cX1_isInOrder 68 = .ok (.isub, 1) := by decide +kernel
theorem dX1_isInOrder_69 : decode cX1_isInOrder 69 = .ok (.if_icmp .ne 7, 3) := by decide +kernel
theorem dX1_isInOrder_72 : decode cX1_isInOrder 72 = .ok (.iconst 1, 1) := by decide +kernel
theorem dX1_isInOrder_73 : decode cX1_isInOrder 73 = .ok (.goto 4, 3) := by decide +kernel
theorem dX1_isInOrder_76 : decode cX1_isInOrder 76 = .ok (.iconst 0, 1) := by decide +kernel
theorem dX1_isInOrder_77 : decode cX1_isInOrder 77 = .ok (.ireturn, 1) := by decide +kernel
theorem dX3_isWithin_0 : decode cX3_isWithin 0 = .ok (.iload_n 0, 1) := by decide +kernel
theorem dX3_isWithin_1 : decode cX3_isWithin 1 = .ok (.iload_n 1, 1) := by decide +kernel
theorem dX3_isWithin_2 : decode cX3_isWithin 2 = .ok (.if_icmp .lt 12, 3) := by decide +kernel
theorem dX3_isWithin_5 : decode cX3_isWithin 5 = .ok (.iload_n 0, 1) := by decide +kernel
theorem dX3_isWithin_6 : decode cX3_isWithin 6 = .ok (.iload_n 2, 1) := by decide +kernel
theorem dX3_isWithin_7 : decode cX3_isWithin 7 = .ok (.if_icmp .gt 7, 3) := by decide +kernel
theorem dX3_isWithin_10 : decode cX3_isWithin 10 = .ok (.iconst 1, 1) := by decide +kernel
theorem dX3_isWithin_11 : decode cX3_isWithin 11 = .ok (.goto 4, 3) := by decide +kernel
theorem dX3_isWithin_14 : decode cX3_isWithin 14 = .ok (.iconst 0, 1) := by decide +kernel
theorem dX3_isWithin_15 : decode cX3_isWithin 15 = .ok (.ireturn, 1) := by decide +kernel
theorem dX3_done_0 : decode cX3_done 0 = .ok (.aload_n 0, 1) := by decide +kernel
theorem dX3_done_1 : decode cX3_done 1 = .ok (.dup, 1) := by decide +kernel
theorem dX3_done_2 : decode cX3_done 2 = .ok (.getfield 42, 3) := by decide +kernel
theorem dX3_done_5 : decode cX3_done 5 = .ok (.iconst 1, 1) := by decide +kernel
theorem dX3_done_6 : decode cX3_done 6 = .ok (.iadd, 1) := by decide +kernel
theorem dX3_done_7 : decode cX3_done 7 = .ok (.putfield 42, 3) := by decide +kernel
theorem dX3_done_10 : decode cX3_done 10 = .ok (.iload_n 1, 1) := by decide +kernel
theorem dX3_done_11 : decode cX3_done 11 = .ok (.ireturn, 1) := by decide +kernel
theorem dX3_refuse_0 : decode cX3_refuse 0 = .ok (.iload_n 1, 1) := by decide +kernel
theorem dX3_refuse_1 : decode cX3_refuse 1 = .ok (.ifCond .lt 22, 3) := by decide +kernel
theorem dX3_refuse_4 : decode cX3_refuse 4 = .ok (.iload_n 1, 1) := by decide +kernel
theorem dX3_refuse_5 : decode cX3_refuse 5 = .ok (.aload_n 0, 1) := by decide +kernel
theorem dX3_refuse_6 : decode cX3_refuse 6 = .ok (.getfield 38, 3) := by decide +kernel
theorem dX3_refuse_9 : decode cX3_refuse 9 = .ok (.arraylength, 1) := by decide +kernel
theorem dX3_refuse_10 : decode cX3_refuse 10 = .ok (.if_icmp .ge 13, 3) := by decide +kernel
theorem dX3_refuse_13 : decode cX3_refuse 13 = .ok (.aload_n 0, 1) := by decide +kernel
theorem dX3_refuse_14 : decode cX3_refuse 14 = .ok (.getfield 38, 3) := by decide +kernel
theorem dX3_refuse_17 : decode cX3_refuse 17 = .ok (.iload_n 1, 1) := by decide +kernel
theorem dX3_refuse_18 : decode cX3_refuse 18 = .ok (.dup2, 1) := by decide +kernel
theorem dX3_refuse_19 : decode cX3_refuse 19 = .ok (.iaload, 1) := by decide +kernel
theorem dX3_refuse_20 : decode cX3_refuse 20 = .ok (.iconst 1, 1) := by decide +kernel
theorem dX3_refuse_21 : decode cX3_refuse 21 = .ok (.iadd, 1) := by decide +kernel
theorem dX3_refuse_22 : decode cX3_refuse 22 = .ok (.iastore, 1) := by decide +kernel
theorem dX3_refuse_23 : decode cX3_refuse 23 = .ok (.bipush (-9), 2) := by decide +kernel
theorem dX3_refuse_25 : decode cX3_refuse 25 = .ok (.ireturn, 1) := by decide +kernel
theorem dX3_paneOf_0 : decode cX3_paneOf 0 = .ok (.iload_n 1, 1) := by decide +kernel
theorem dX3_paneOf_1 : decode cX3_paneOf 1 = .ok (.ifCond .lt 12, 3) := by decide +kernel
theorem dX3_paneOf_4 : decode cX3_paneOf 4 = .ok (.iload_n 1, 1) := by decide +kernel
theorem dX3_paneOf_5 : decode cX3_paneOf 5 = .ok (.aload_n 0, 1) := by decide +kernel
theorem dX3_paneOf_6 : decode cX3_paneOf 6 = .ok (.getfield 20, 3) := by decide +kernel
theorem dX3_paneOf_9 : decode cX3_paneOf 9 = .ok (.arraylength, 1) := by decide +kernel
theorem dX3_paneOf_10 : decode cX3_paneOf 10 = .ok (.if_icmp .lt 13, 3) := by decide +kernel
theorem dX3_paneOf_13 : decode cX3_paneOf 13 = .ok (.new 142, 3) := by decide +kernel
theorem dX3_paneOf_16 : decode cX3_paneOf 16 = .ok (.dup, 1) := by decide +kernel
theorem dX3_paneOf_17 : decode cX3_paneOf 17 = .ok (.ldc 218, 2) := by decide +kernel
theorem dX3_paneOf_19 : decode cX3_paneOf 19 = .ok (.invokespecial 146, 3) := by decide +kernel
theorem dX3_paneOf_22 : decode cX3_paneOf 22 = .ok (.athrow, 1) := by decide +kernel
theorem dX3_paneOf_23 : decode cX3_paneOf 23 = .ok (.aload_n 0, 1) := by decide +kernel
theorem dX3_paneOf_24 : decode cX3_paneOf 24 = .ok (.getfield 20, 3) := by decide +kernel
theorem dX3_paneOf_27 : decode cX3_paneOf 27 = .ok (.iload_n 1, 1) := by decide +kernel
theorem dX3_paneOf_28 : decode cX3_paneOf 28 = .ok (.aaload, 1) := by decide +kernel
theorem dX3_paneOf_29 : decode cX3_paneOf 29 = .ok (.areturn, 1) := by decide +kernel
theorem dX3_needWithin_0 : decode cX3_needWithin 0 = .ok (.iload_n 0, 1) := by decide +kernel
theorem dX3_needWithin_1 : decode cX3_needWithin 1 = .ok (.iload_n 1, 1) := by decide +kernel
theorem dX3_needWithin_2 : decode cX3_needWithin 2 = .ok (.iload_n 2, 1) := by decide +kernel
theorem dX3_needWithin_3 : decode cX3_needWithin 3 = .ok (.invokestatic 82, 3) := by decide +kernel
theorem dX3_needWithin_6 : decode cX3_needWithin 6 = .ok (.ifCond .ne 13, 3) := by decide +kernel
theorem dX3_needWithin_9 : decode cX3_needWithin 9 = .ok (.new 220, 3) := by decide +kernel
theorem dX3_needWithin_12 : decode cX3_needWithin 12 = .ok (.dup, 1) := by decide +kernel
theorem dX3_needWithin_13 : decode cX3_needWithin 13 = .ok (.ldc 222, 2) := by decide +kernel
theorem dX3_needWithin_15 : decode cX3_needWithin 15 = .ok (.invokespecial 224, 3) := by decide +kernel
theorem dX3_needWithin_18 : decode cX3_needWithin 18 = .ok (.athrow, 1) := by decide +kernel
theorem dX3_needWithin_19 : decode cX3_needWithin 19 = .ok (.return_, 1) := by decide +kernel
theorem dX3_needValue_0 : decode cX3_needValue 0 = .ok (.iload_n 0, 1) := by decide +kernel
theorem dX3_needValue_1 : decode cX3_needValue 1 = .ok (.ifCond .ge 13, 3) := by decide +kernel
theorem dX3_needValue_4 : decode cX3_needValue 4 = .ok (.new 220, 3) := by decide +kernel
theorem dX3_needValue_7 : decode cX3_needValue 7 = .ok (.dup, 1) := by decide +kernel
theorem dX3_needValue_8 : decode cX3_needValue 8 = .ok (.ldc 225, 2) := by decide +kernel
theorem dX3_needValue_10 : decode cX3_needValue 10 = .ok (.invokespecial 224, 3) := by decide +kernel
theorem dX3_needValue_13 : decode cX3_needValue 13 = .ok (.athrow, 1) := by decide +kernel
theorem dX3_needValue_14 : decode cX3_needValue 14 = .ok (.return_, 1) := by decide +kernel
theorem z_nIn {x : Int32} {n : Nat} (h : vp_in x n) (hn : n < 100000) : ¬ Int32.ofNat n ≤ x := by
  obtain ⟨h1, h2⟩ := z_inT.mp h
  have e : (Int32.ofNat n).toInt = n := nI_toInt (n := n) (by omega)
  rw [z_le, e]
  omega
theorem z_ge0 {x : Int32} {n : Nat} (h : vp_in x n) : ¬ x < 0 := fun q => h (Or.inl q)
theorem z_inO {x : Int32} {n : Nat} (h1 : ¬ x < 0) (h2 : ¬ Int32.ofNat n ≤ x) (hn : n < 100000) : vp_in x n := by
  rw [z_inT]
  rw [z_ltI, z_t0] at h1
  have e : (Int32.ofNat n).toInt = n := nI_toInt (n := n) (by omega)
  rw [z_le, e] at h2
  omega
theorem z_nIt {x : Int32} {n : Nat} (h : vp_in x n) (hn : n < 100000 := by decide) : x < Int32.ofNat n := Int32.not_le.mp (z_nIn h hn)
theorem z_nIf {x : Int32} {n : Nat} (h : ¬ vp_in x n) (h1 : ¬ x < 0) (hn : n < 100000 := by decide) : ¬ x < Int32.ofNat n := fun q => h (z_inO h1 (Int32.not_le.mpr q) hn)
def z_hi (x l : Int32) : Int32 := if x < 0 then 0 else if l ≤ x then 0 else 1
def z_hm (k : Int32) : Int32 := if k = -1 then 0 else 1
theorem z_hi_n (x l : Int32) : narrow .boolean (.int (z_hi x l)) = .int (z_hi x l) := by
  unfold z_hi
  split
  · rfl
  · split <;> rfl
theorem z_hm_n (k : Int32) : narrow .boolean (.int (z_hm k)) = .int (z_hm k) := by
  unfold z_hm
  split <;> rfl
set_option maxRecDepth 20000 in
theorem c_X2_length (l : Launch) (G : zG) {M : zM} {r : Nat} {vs : Nat} {nv : Nat} {fv : Nat → Int32}  (h_r : M r = some (cRw vs)) (h_vs : M vs = some (aI G nv fv))  : z_Mi l G qX2_length (z_rm 1 0 0) [.ref r] M (fun r M' => r = Int32.ofNat nv ∧ M' = M)  := by
  refine z_Mi_of _ (plainFor_of_name rfl) rfl (Nat.le_of_ble_eq_true rfl) (fun X hl hG hnm C ret => ?_)
  subst hl; subst hG
  have C : z_C X cX2_length RX2 1 (z_rm 1 0 0) := C
  show z_W X M 0 0 0 [(0, .ref r)] []
  refine z_aload_n C dX2_length_0 rfl 0 rfl ?_
  refine gf_X2_7 C h_r dX2_length_1 ?_
  refine z_alenI C (v := Int32.ofNat nv) h_vs rfl dX2_length_4 ?_
  exact ret dX2_length_5 rfl (⟨rfl, rfl⟩) (by decide) (by decide)
set_option maxRecDepth 20000 in
theorem c_X2_hasPlace_g (l : Launch) (G : zG) {M : zM} {r : Nat} {pl : Int32} {vs : Nat} {nv : Nat} {fv : Nat → Int32}  (h_r : M r = some (cRw vs)) (h_vs : M vs = some (aI G nv fv))  : z_Mi l G qX2_hasPlace (z_rm 1 0 0) [.ref r, .int pl] M (fun r' M' => r' = z_hi pl (Int32.ofNat nv) ∧ M' = M)  := by
  refine z_Mi_of _ (plainFor_of_name rfl) rfl (Nat.le_of_ble_eq_true rfl) (fun X hl hG hnm C ret => ?_)
  subst hl; subst hG
  have C : z_C X cX2_hasPlace RX2 2 (z_rm 1 0 0) := C
  show z_W X M 0 0 0 [(0, .ref r), (1, .int pl)] []
  refine z_iload_n C dX2_hasPlace_0 rfl 1 rfl ?_
  refine z_if_lt C (tgt := 17) dX2_hasPlace_1 (by decide) (fun c1 => ?_) (fun c1 => ?_)
  · refine z_iconst C (v := 0) dX2_hasPlace_17 (by decide) ?_
    refine ret dX2_hasPlace_18 rfl ?_ (by decide) (by decide)
    exact ⟨by simp [z_hi, *], rfl⟩
  · refine z_iload_n C dX2_hasPlace_4 rfl 1 rfl ?_
    refine z_aload_n C dX2_hasPlace_5 rfl 0 rfl ?_
    refine gf_X2_7 C h_r dX2_hasPlace_6 ?_
    refine z_alenI C (v := Int32.ofNat nv) h_vs rfl dX2_hasPlace_9 ?_
    refine z_icmp_ge C (tgt := 17) dX2_hasPlace_10 (by decide) (fun c10 => ?_) (fun c10 => ?_)
    · refine z_iconst C (v := 0) dX2_hasPlace_17 (by decide) ?_
      refine ret dX2_hasPlace_18 rfl ?_ (by decide) (by decide)
      exact ⟨by simp [z_hi, *], rfl⟩
    · refine z_iconst C (v := 1) dX2_hasPlace_13 (by decide) ?_
      refine z_goto C (tgt := 18) dX2_hasPlace_14 (by decide) ?_
      refine ret dX2_hasPlace_18 rfl ?_ (by decide) (by decide)
      exact ⟨by simp [z_hi, *], rfl⟩
set_option maxRecDepth 20000 in
theorem c_X2_hasPlace (l : Launch) (G : zG) {M : zM} {r : Nat} {pl : Int32} {vs : Nat} {nv : Nat} {fv : Nat → Int32}  (h_r : M r = some (cRw vs)) (h_vs : M vs = some (aI G nv fv)) (h_pl : vp_in pl nv) (h_nv : nv < 100000) : z_Mi l G qX2_hasPlace (z_rm 1 0 0) [.ref r, .int pl] M (fun r M' => r = 1 ∧ M' = M)  := by
  refine z_Mi_of _ (plainFor_of_name rfl) rfl (Nat.le_of_ble_eq_true rfl) (fun X hl hG hnm C ret => ?_)
  subst hl; subst hG
  have C : z_C X cX2_hasPlace RX2 2 (z_rm 1 0 0) := C
  show z_W X M 0 0 0 [(0, .ref r), (1, .int pl)] []
  refine z_iload_n C dX2_hasPlace_0 rfl 1 rfl ?_
  refine z_if_lt C (tgt := 17) dX2_hasPlace_1 (by decide) (fun c1 => absurd c1 (z_ge0 h_pl)) (fun _ => ?_)
  refine z_iload_n C dX2_hasPlace_4 rfl 1 rfl ?_
  refine z_aload_n C dX2_hasPlace_5 rfl 0 rfl ?_
  refine gf_X2_7 C h_r dX2_hasPlace_6 ?_
  refine z_alenI C (v := Int32.ofNat nv) h_vs rfl dX2_hasPlace_9 ?_
  refine z_icmp_ge C (tgt := 17) dX2_hasPlace_10 (by decide) (fun c10 => absurd c10 (z_nIn h_pl h_nv)) (fun _ => ?_)
  refine z_iconst C (v := 1) dX2_hasPlace_13 (by decide) ?_
  refine z_goto C (tgt := 18) dX2_hasPlace_14 (by decide) ?_
  exact ret dX2_hasPlace_18 rfl (⟨rfl, rfl⟩) (by decide) (by decide)
set_option maxRecDepth 20000 in
theorem c_X2_valueAt (l : Launch) (G : zG) {M : zM} {r : Nat} {pl : Int32} {vs : Nat} {nv : Nat} {fv : Nat → Int32}  (h_r : M r = some (cRw vs)) (h_vs : M vs = some (aI G nv fv)) (h_pl : vp_in pl nv) (h_nv : nv < 100000) : z_Mi l G qX2_valueAt (z_rm 2 0 0) [.ref r, .int pl] M (fun r M' => r = fv pl.toNatClampNeg ∧ M' = M)  := by
  refine z_Mi_of _ (plainFor_of_name rfl) rfl (Nat.le_of_ble_eq_true rfl) (fun X hl hG hnm C ret => ?_)
  subst hl; subst hG
  have C : z_C X cX2_valueAt RX2 2 (z_rm 2 0 0) := C
  show z_W X M 0 0 0 [(0, .ref r), (1, .int pl)] []
  refine z_aload_n C dX2_valueAt_0 rfl 0 rfl ?_
  refine z_iload_n C dX2_valueAt_1 rfl 1 rfl ?_
  refine z_callVi (rest := []) (k' := 0) (n' := 0) C (c_X2_hasPlace (z_l X) (z_G X) h_r h_vs h_pl h_nv) (cs_X2_13 C (by decide)) h_r rfl rfl rfl rfl (Nat.le_of_ble_eq_true rfl) rfl rfl (by decide) (by decide) dX2_valueAt_2 (fun x2 M' hq => ?_)
  obtain ⟨rfl, rfl⟩ := hq
  refine z_if_eq C (tgt := 17) dX2_valueAt_5 (by decide) (fun c5 => absurd c5 (by decide)) (fun _ => ?_)
  refine z_aload_n C dX2_valueAt_8 rfl 0 rfl ?_
  refine gf_X2_7 C h_r dX2_valueAt_9 ?_
  refine z_iload_n C dX2_valueAt_12 rfl 1 rfl ?_
  refine z_iald (j := pl.toNatClampNeg) C h_vs h_pl rfl dX2_valueAt_13 ?_
  refine z_goto C (tgt := 18) dX2_valueAt_14 (by decide) ?_
  exact ret dX2_valueAt_18 rfl (⟨rfl, rfl⟩) (by decide) (by decide)
set_option maxRecDepth 20000 in
theorem c_X2_exchangeAt (l : Launch) (G : zG) {M : zM} {r : Nat} {pl : Int32} {v : Int32} {vs : Nat} {nv : Nat} {fv : Nat → Int32}  (h_r : M r = some (cRw vs)) (h_vs : M vs = some (aI G nv fv)) (h_pl : vp_in pl nv) (h_nv : nv < 100000) : z_Mi l G qX2_exchangeAt (z_rm 2 0 0) [.ref r, .int pl, .int v] M (fun r M' => r = fv pl.toNatClampNeg ∧ M' = z_up M vs (aI G nv (upd fv pl.toNatClampNeg v)))  := by
  refine z_Mi_of _ (plainFor_of_name rfl) rfl (Nat.le_of_ble_eq_true rfl) (fun X hl hG hnm C ret => ?_)
  subst hl; subst hG
  have C : z_C X cX2_exchangeAt RX2 4 (z_rm 2 0 0) := C
  show z_W X M 0 0 0 [(0, .ref r), (1, .int pl), (2, .int v)] []
  refine z_aload_n C dX2_exchangeAt_0 rfl 0 rfl ?_
  refine z_iload_n C dX2_exchangeAt_1 rfl 1 rfl ?_
  refine z_callVi (rest := []) (k' := 0) (n' := 0) C (c_X2_hasPlace (z_l X) (z_G X) h_r h_vs h_pl h_nv) (cs_X2_13 C (by decide)) h_r rfl rfl rfl rfl (Nat.le_of_ble_eq_true rfl) rfl rfl (by decide) (by decide) dX2_exchangeAt_2 (fun x2 M' hq => ?_)
  obtain ⟨rfl, rfl⟩ := hq
  refine z_if_ne C (tgt := 10) dX2_exchangeAt_5 (by decide) (fun _ => ?_) (fun c5 => absurd c5 (by decide))
  refine z_aload_n C dX2_exchangeAt_10 rfl 0 rfl ?_
  refine gf_X2_7 C h_r dX2_exchangeAt_11 ?_
  refine z_iload_n C dX2_exchangeAt_14 rfl 1 rfl ?_
  refine z_iald (j := pl.toNatClampNeg) C h_vs h_pl rfl dX2_exchangeAt_15 ?_
  refine z_istore_n (lv' := [(3, .int (fv pl.toNatClampNeg)), (0, .ref r), (1, .int pl), (2, .int v)]) C dX2_exchangeAt_16 rfl (by decide) rfl ?_
  refine z_aload_n C dX2_exchangeAt_17 rfl 1 rfl ?_
  refine gf_X2_7 C h_r dX2_exchangeAt_18 ?_
  refine z_iload_n C dX2_exchangeAt_21 rfl 2 rfl ?_
  refine z_iload_n C dX2_exchangeAt_22 rfl 3 rfl ?_
  refine z_iast (j := pl.toNatClampNeg) C h_vs h_pl rfl dX2_exchangeAt_23 ?_
  refine z_iload_n C dX2_exchangeAt_24 rfl 0 rfl ?_
  exact ret dX2_exchangeAt_25 rfl (⟨rfl, rfl⟩) (by decide) (by decide)
set_option maxRecDepth 20000 in
theorem c_X1_left (l : Launch) (G : zG) {M : zM} {p : Nat} {ov : Nat} {sa : Int32} {cp : Int32} {po : Int32} {li : Int32} {mk : Int32} {rd : Int32}  (h_p : M p = some (cPn ov sa cp po li mk rd))  : z_Mi l G qX1_left (z_rm 1 0 0) [.ref p] M (fun r M' => r = li - po ∧ M' = M)  := by
  refine z_Mi_of _ (plainFor_of_name rfl) rfl (Nat.le_of_ble_eq_true rfl) (fun X hl hG hnm C ret => ?_)
  subst hl; subst hG
  have C : z_C X cX1_left RX1 1 (z_rm 1 0 0) := C
  show z_W X M 0 0 0 [(0, .ref p)] []
  refine z_aload_n C dX1_left_0 rfl 0 rfl ?_
  refine gf_X1_31 C h_p dX1_left_1 ?_
  refine z_aload_n C dX1_left_4 rfl 0 rfl ?_
  refine gf_X1_28 C h_p dX1_left_5 ?_
  refine z_isub C dX1_left_8 ?_
  exact ret dX1_left_9 rfl (⟨rfl, rfl⟩) (by decide) (by decide)
set_option maxRecDepth 20000 in
theorem c_X1_hasMark (l : Launch) (G : zG) {M : zM} {p : Nat} {ov : Nat} {sa : Int32} {cp : Int32} {po : Int32} {li : Int32} {mk : Int32} {rd : Int32}  (h_p : M p = some (cPn ov sa cp po li mk rd))  : z_Mi l G qX1_hasMark (z_rm 1 0 0) [.ref p] M (fun r M' => r = z_hm mk ∧ M' = M)  := by
  refine z_Mi_of _ (plainFor_of_name rfl) rfl (Nat.le_of_ble_eq_true rfl) (fun X hl hG hnm C ret => ?_)
  subst hl; subst hG
  have C : z_C X cX1_hasMark RX1 1 (z_rm 1 0 0) := C
  show z_W X M 0 0 0 [(0, .ref p)] []
  refine z_aload_n C dX1_hasMark_0 rfl 0 rfl ?_
  refine gf_X1_34 C h_p dX1_hasMark_1 ?_
  refine z_iconst C (v := (-1)) dX1_hasMark_4 (by decide) ?_
  refine z_icmp_eq C (tgt := 12) dX1_hasMark_5 (by decide) (fun c5 => ?_) (fun c5 => ?_)
  · refine z_iconst C (v := 0) dX1_hasMark_12 (by decide) ?_
    refine ret dX1_hasMark_13 rfl ?_ (by decide) (by decide)
    exact ⟨by simp [z_hm, *], rfl⟩
  · refine z_iconst C (v := 1) dX1_hasMark_8 (by decide) ?_
    refine z_goto C (tgt := 13) dX1_hasMark_9 (by decide) ?_
    refine ret dX1_hasMark_13 rfl ?_ (by decide) (by decide)
    exact ⟨by simp [z_hm, *], rfl⟩
set_option maxRecDepth 20000 in
theorem c_X1_hasIndex (l : Launch) (G : zG) {M : zM} {p : Nat} {ix : Int32} {ov : Nat} {sa : Int32} {cp : Int32} {po : Int32} {li : Int32} {mk : Int32} {rd : Int32}  (h_p : M p = some (cPn ov sa cp po li mk rd))  : z_Mi l G qX1_hasIndex (z_rm 1 0 0) [.ref p, .int ix] M (fun r M' => r = z_hi ix li ∧ M' = M)  := by
  refine z_Mi_of _ (plainFor_of_name rfl) rfl (Nat.le_of_ble_eq_true rfl) (fun X hl hG hnm C ret => ?_)
  subst hl; subst hG
  have C : z_C X cX1_hasIndex RX1 2 (z_rm 1 0 0) := C
  show z_W X M 0 0 0 [(0, .ref p), (1, .int ix)] []
  refine z_iload_n C dX1_hasIndex_0 rfl 1 rfl ?_
  refine z_if_lt C (tgt := 16) dX1_hasIndex_1 (by decide) (fun c1 => ?_) (fun c1 => ?_)
  · refine z_iconst C (v := 0) dX1_hasIndex_16 (by decide) ?_
    refine ret dX1_hasIndex_17 rfl ?_ (by decide) (by decide)
    exact ⟨by simp [z_hi, *], rfl⟩
  · refine z_iload_n C dX1_hasIndex_4 rfl 1 rfl ?_
    refine z_aload_n C dX1_hasIndex_5 rfl 0 rfl ?_
    refine gf_X1_31 C h_p dX1_hasIndex_6 ?_
    refine z_icmp_ge C (tgt := 16) dX1_hasIndex_9 (by decide) (fun c9 => ?_) (fun c9 => ?_)
    · refine z_iconst C (v := 0) dX1_hasIndex_16 (by decide) ?_
      refine ret dX1_hasIndex_17 rfl ?_ (by decide) (by decide)
      exact ⟨by simp [z_hi, *], rfl⟩
    · refine z_iconst C (v := 1) dX1_hasIndex_12 (by decide) ?_
      refine z_goto C (tgt := 17) dX1_hasIndex_13 (by decide) ?_
      refine ret dX1_hasIndex_17 rfl ?_ (by decide) (by decide)
      exact ⟨by simp [z_hi, *], rfl⟩
set_option maxRecDepth 20000 in
theorem c_X1_shows (l : Launch) (G : zG) {M : zM} {p : Nat} {ix : Int32} {ov : Nat} {sa : Int32} {cp : Int32} {po : Int32} {li : Int32} {mk : Int32} {rd : Int32}  (h_p : M p = some (cPn ov sa cp po li mk rd))  : z_Mi l G qX1_shows (z_rm 1 0 0) [.ref p, .int ix] M (fun r M' => r = z_hi ix cp ∧ M' = M)  := by
  refine z_Mi_of _ (plainFor_of_name rfl) rfl (Nat.le_of_ble_eq_true rfl) (fun X hl hG hnm C ret => ?_)
  subst hl; subst hG
  have C : z_C X cX1_shows RX1 2 (z_rm 1 0 0) := C
  show z_W X M 0 0 0 [(0, .ref p), (1, .int ix)] []
  refine z_iload_n C dX1_shows_0 rfl 1 rfl ?_
  refine z_if_lt C (tgt := 16) dX1_shows_1 (by decide) (fun c1 => ?_) (fun c1 => ?_)
  · refine z_iconst C (v := 0) dX1_shows_16 (by decide) ?_
    refine ret dX1_shows_17 rfl ?_ (by decide) (by decide)
    exact ⟨by simp [z_hi, *], rfl⟩
  · refine z_iload_n C dX1_shows_4 rfl 1 rfl ?_
    refine z_aload_n C dX1_shows_5 rfl 0 rfl ?_
    refine gf_X1_25 C h_p dX1_shows_6 ?_
    refine z_icmp_ge C (tgt := 16) dX1_shows_9 (by decide) (fun c9 => ?_) (fun c9 => ?_)
    · refine z_iconst C (v := 0) dX1_shows_16 (by decide) ?_
      refine ret dX1_shows_17 rfl ?_ (by decide) (by decide)
      exact ⟨by simp [z_hi, *], rfl⟩
    · refine z_iconst C (v := 1) dX1_shows_12 (by decide) ?_
      refine z_goto C (tgt := 17) dX1_shows_13 (by decide) ?_
      refine ret dX1_shows_17 rfl ?_ (by decide) (by decide)
      exact ⟨by simp [z_hi, *], rfl⟩
set_option maxRecDepth 20000 in
theorem c_X1_beginAgain (l : Launch) (G : zG) {M : zM} {p : Nat} {nl : Int32} {ov : Nat} {sa : Int32} {cp : Int32} {po : Int32} {li : Int32} {mk : Int32} {rd : Int32}  (h_p : M p = some (cPn ov sa cp po li mk rd))  : z_Mv l G qX1_beginAgain (z_rm 1 0 0) [.ref p, .int nl] M (fun M' => M' = z_up M p (cPn ov sa cp 0 nl (-1) rd))  := by
  refine z_Mv_of _ (plainFor_of_name rfl) rfl (Nat.le_of_ble_eq_true rfl) (fun X hl hG hnm C ret => ?_)
  subst hl; subst hG
  have C : z_C X cX1_beginAgain RX1 2 (z_rm 1 0 0) := C
  show z_W X M 0 0 0 [(0, .ref p), (1, .int nl)] []
  refine z_aload_n C dX1_beginAgain_0 rfl 0 rfl ?_
  refine z_iconst C (v := 0) dX1_beginAgain_1 (by decide) ?_
  refine pf_X1_28 C h_p dX1_beginAgain_2 ?_
  refine z_aload_n C dX1_beginAgain_5 rfl 0 rfl ?_
  refine z_iload_n C dX1_beginAgain_6 rfl 1 rfl ?_
  refine pg_X1_31 C dX1_beginAgain_7 ?_
  refine z_aload_n C dX1_beginAgain_10 rfl 0 rfl ?_
  refine z_iconst C (v := (-1)) dX1_beginAgain_11 (by decide) ?_
  refine pg_X1_34 C dX1_beginAgain_12 ?_
  exact ret dX1_beginAgain_15 (rfl) (by decide) (by decide)
set_option maxRecDepth 20000 in
theorem c_X1_moveTo (l : Launch) (G : zG) {M : zM} {p : Nat} {pl : Int32} {ov : Nat} {sa : Int32} {cp : Int32} {po : Int32} {li : Int32} {mk : Int32} {rd : Int32}  (h_p : M p = some (cPn ov sa cp po li mk rd))  : z_Mv l G qX1_moveTo (z_rm 1 0 0) [.ref p, .int pl] M (fun M' => ((mk ≤ pl) ∧ M' = z_up M p (cPn ov sa cp pl li mk rd)) ∨ ((¬ mk ≤ pl) ∧ M' = z_up M p (cPn ov sa cp pl li (-1) rd)))  := by
  refine z_Mv_of _ (plainFor_of_name rfl) rfl (Nat.le_of_ble_eq_true rfl) (fun X hl hG hnm C ret => ?_)
  subst hl; subst hG
  have C : z_C X cX1_moveTo RX1 2 (z_rm 1 0 0) := C
  show z_W X M 0 0 0 [(0, .ref p), (1, .int pl)] []
  refine z_aload_n C dX1_moveTo_0 rfl 0 rfl ?_
  refine z_iload_n C dX1_moveTo_1 rfl 1 rfl ?_
  refine pf_X1_28 C h_p dX1_moveTo_2 ?_
  refine z_aload_n C dX1_moveTo_5 rfl 0 rfl ?_
  refine gf_X1_34 C (z_up_s _ _ _) dX1_moveTo_6 ?_
  refine z_iload_n C dX1_moveTo_9 rfl 1 rfl ?_
  refine z_icmp_le C (tgt := 18) dX1_moveTo_10 (by decide) (fun c10 => ?_) (fun c10 => ?_)
  · exact ret dX1_moveTo_18 (Or.inl ⟨c10, rfl⟩) (by decide) (by decide)
  · refine z_aload_n C dX1_moveTo_13 rfl 0 rfl ?_
    refine z_iconst C (v := (-1)) dX1_moveTo_14 (by decide) ?_
    refine pg_X1_34 C dX1_moveTo_15 ?_
    exact ret dX1_moveTo_18 (Or.inr (⟨c10, rfl⟩)) (by decide) (by decide)
set_option maxRecDepth 20000 in
theorem c_X1_endAt (l : Launch) (G : zG) {M : zM} {p : Nat} {pl : Int32} {ov : Nat} {sa : Int32} {cp : Int32} {po : Int32} {li : Int32} {mk : Int32} {rd : Int32}  (h_p : M p = some (cPn ov sa cp po li mk rd))  : z_Mv l G qX1_endAt (z_rm 1 0 0) [.ref p, .int pl] M (fun M' => ((po ≤ pl) ∧ (mk ≤ pl) ∧ M' = z_up M p (cPn ov sa cp po pl mk rd)) ∨ ((po ≤ pl) ∧ (¬ mk ≤ pl) ∧ M' = z_up M p (cPn ov sa cp po pl (-1) rd)) ∨ ((¬ po ≤ pl) ∧ (mk ≤ pl) ∧ M' = z_up M p (cPn ov sa cp pl pl mk rd)) ∨ ((¬ po ≤ pl) ∧ (¬ mk ≤ pl) ∧ M' = z_up M p (cPn ov sa cp pl pl (-1) rd)))  := by
  refine z_Mv_of _ (plainFor_of_name rfl) rfl (Nat.le_of_ble_eq_true rfl) (fun X hl hG hnm C ret => ?_)
  subst hl; subst hG
  have C : z_C X cX1_endAt RX1 2 (z_rm 1 0 0) := C
  show z_W X M 0 0 0 [(0, .ref p), (1, .int pl)] []
  refine z_aload_n C dX1_endAt_0 rfl 0 rfl ?_
  refine z_iload_n C dX1_endAt_1 rfl 1 rfl ?_
  refine pf_X1_31 C h_p dX1_endAt_2 ?_
  refine z_aload_n C dX1_endAt_5 rfl 0 rfl ?_
  refine gf_X1_28 C (z_up_s _ _ _) dX1_endAt_6 ?_
  refine z_iload_n C dX1_endAt_9 rfl 1 rfl ?_
  refine z_icmp_le C (tgt := 18) dX1_endAt_10 (by decide) (fun c10 => ?_) (fun c10 => ?_)
  · refine z_aload_n C dX1_endAt_18 rfl 0 rfl ?_
    refine gf_X1_34 C (z_up_s _ _ _) dX1_endAt_19 ?_
    refine z_iload_n C dX1_endAt_22 rfl 1 rfl ?_
    refine z_icmp_le C (tgt := 31) dX1_endAt_23 (by decide) (fun c23 => ?_) (fun c23 => ?_)
    · exact ret dX1_endAt_31 (Or.inl ⟨c10, c23, rfl⟩) (by decide) (by decide)
    · refine z_aload_n C dX1_endAt_26 rfl 0 rfl ?_
      refine z_iconst C (v := (-1)) dX1_endAt_27 (by decide) ?_
      refine pg_X1_34 C dX1_endAt_28 ?_
      exact ret dX1_endAt_31 (Or.inr (Or.inl ⟨c10, c23, rfl⟩)) (by decide) (by decide)
  · refine z_aload_n C dX1_endAt_13 rfl 0 rfl ?_
    refine z_iload_n C dX1_endAt_14 rfl 1 rfl ?_
    refine pg_X1_28 C dX1_endAt_15 ?_
    refine z_aload_n C dX1_endAt_18 rfl 0 rfl ?_
    refine gf_X1_34 C (z_up_s _ _ _) dX1_endAt_19 ?_
    refine z_iload_n C dX1_endAt_22 rfl 1 rfl ?_
    refine z_icmp_le C (tgt := 31) dX1_endAt_23 (by decide) (fun c23 => ?_) (fun c23 => ?_)
    · exact ret dX1_endAt_31 (Or.inr (Or.inr (Or.inl ⟨c10, c23, rfl⟩))) (by decide) (by decide)
    · refine z_aload_n C dX1_endAt_26 rfl 0 rfl ?_
      refine z_iconst C (v := (-1)) dX1_endAt_27 (by decide) ?_
      refine pg_X1_34 C dX1_endAt_28 ?_
      exact ret dX1_endAt_31 (Or.inr (Or.inr (Or.inr (⟨c10, c23, rfl⟩)))) (by decide) (by decide)
set_option maxRecDepth 20000 in
theorem c_X1_showAll (l : Launch) (G : zG) {M : zM} {p : Nat} {r : Nat} {ov : Nat} {sa : Int32} {cp : Int32} {po : Int32} {li : Int32} {mk : Int32} {rd : Int32} {vs : Nat} {nv : Nat} {fv : Nat → Int32}  (h_p : M p = some (cPn ov sa cp po li mk rd)) (h_r : M r = some (cRw vs)) (h_vs : M vs = some (aI G nv fv))  : z_Mv l G qX1_showAll (z_rm 2 0 0) [.ref p, .ref r] M (fun M' => M' = z_up M p (cPn r 0 (Int32.ofNat nv) 0 (Int32.ofNat nv) (-1) 0))  := by
  refine z_Mv_of _ (plainFor_of_name rfl) rfl (Nat.le_of_ble_eq_true rfl) (fun X hl hG hnm C ret => ?_)
  subst hl; subst hG
  have C : z_C X cX1_showAll RX1 2 (z_rm 2 0 0) := C
  show z_W X M 0 0 0 [(0, .ref p), (1, .ref r)] []
  refine z_aload_n C dX1_showAll_0 rfl 0 rfl ?_
  refine z_aload_n C dX1_showAll_1 rfl 1 rfl ?_
  refine pf_X1_9 C h_p dX1_showAll_2 ?_
  refine z_aload_n C dX1_showAll_5 rfl 0 rfl ?_
  refine z_iconst C (v := 0) dX1_showAll_6 (by decide) ?_
  refine pg_X1_15 C dX1_showAll_7 ?_
  refine z_aload_n C dX1_showAll_10 rfl 0 rfl ?_
  refine z_aload_n C dX1_showAll_11 rfl 1 rfl ?_
  refine z_callVi (rest := [.ref p]) (k' := 0) (n' := 0) C (c_X2_length (z_l X) (z_G X) ((z_up_n _ _ (z_ne h_r h_p (by intro h; cases h))).trans h_r) ((z_up_n _ _ (z_ne h_vs h_p (by intro h; cases h))).trans h_vs)) (cs_X1_19 C (by decide)) ((z_up_n _ _ (z_ne h_r h_p (by intro h; cases h))).trans h_r) rfl rfl rfl rfl (Nat.le_of_ble_eq_true rfl) rfl rfl (by decide) (by decide) dX1_showAll_12 (fun x12 M' hq => ?_)
  obtain ⟨rfl, rfl⟩ := hq
  refine pg_X1_25 C dX1_showAll_15 ?_
  refine z_aload_n C dX1_showAll_18 rfl 0 rfl ?_
  refine z_iconst C (v := 0) dX1_showAll_19 (by decide) ?_
  refine pg_X1_37 C rfl rfl dX1_showAll_20 ?_
  refine z_aload_n C dX1_showAll_23 rfl 0 rfl ?_
  refine z_aload_n C dX1_showAll_24 rfl 0 rfl ?_
  refine gf_X1_25 C (z_up_s _ _ _) dX1_showAll_25 ?_
  refine z_callVv (rest := []) (k' := 0) (n' := 0) C (c_X1_beginAgain (z_l X) (z_G X) (z_up_s _ _ _)) (cs_X1_41 C (by decide)) (z_up_s _ _ _) rfl rfl rfl rfl (Nat.le_of_ble_eq_true rfl) rfl rfl (by decide) (by decide) dX1_showAll_28 (fun M' hq => ?_)
  obtain rfl := hq
  rw [z_up_up]
  exact ret dX1_showAll_31 (rfl) (by decide) (by decide)
set_option maxRecDepth 20000 in
theorem c_X1_becomeTwin (l : Launch) (G : zG) {M : zM} {p : Nat} {o : Nat} {ov : Nat} {sa : Int32} {cp : Int32} {po : Int32} {li : Int32} {mk : Int32} {rd : Int32} {ov2 : Nat} {sa2 : Int32} {cp2 : Int32} {po2 : Int32} {li2 : Int32} {mk2 : Int32} {rd2 : Int32}  (h_p : M p = some (cPn ov sa cp po li mk rd)) (h_o : M o = some (cPn ov2 sa2 cp2 po2 li2 mk2 rd2)) (h_po : p ≠ o) (h_b1 : narrow .boolean (.int rd2) = .int rd2) (h_b2 : fits .boolean (.int rd2) = true) : z_Mv l G qX1_becomeTwin (z_rm 1 0 0) [.ref p, .ref o] M (fun M' => M' = z_up M p (cPn ov2 sa2 cp2 po2 li2 mk2 rd2))  := by
  refine z_Mv_of _ (plainFor_of_name rfl) rfl (Nat.le_of_ble_eq_true rfl) (fun X hl hG hnm C ret => ?_)
  subst hl; subst hG
  have C : z_C X cX1_becomeTwin RX1 2 (z_rm 1 0 0) := C
  show z_W X M 0 0 0 [(0, .ref p), (1, .ref o)] []
  refine z_aload_n C dX1_becomeTwin_0 rfl 0 rfl ?_
  refine z_aload_n C dX1_becomeTwin_1 rfl 1 rfl ?_
  refine gf_X1_9 C h_o dX1_becomeTwin_2 ?_
  refine pf_X1_9 C h_p dX1_becomeTwin_5 ?_
  refine z_aload_n C dX1_becomeTwin_8 rfl 0 rfl ?_
  refine z_aload_n C dX1_becomeTwin_9 rfl 1 rfl ?_
  refine gf_X1_15 C ((z_up_n _ _ (Ne.symm h_po)).trans h_o) dX1_becomeTwin_10 ?_
  refine pg_X1_15 C dX1_becomeTwin_13 ?_
  refine z_aload_n C dX1_becomeTwin_16 rfl 0 rfl ?_
  refine z_aload_n C dX1_becomeTwin_17 rfl 1 rfl ?_
  refine gf_X1_25 C ((z_up_n _ _ (Ne.symm h_po)).trans h_o) dX1_becomeTwin_18 ?_
  refine pg_X1_25 C dX1_becomeTwin_21 ?_
  refine z_aload_n C dX1_becomeTwin_24 rfl 0 rfl ?_
  refine z_aload_n C dX1_becomeTwin_25 rfl 1 rfl ?_
  refine gf_X1_28 C ((z_up_n _ _ (Ne.symm h_po)).trans h_o) dX1_becomeTwin_26 ?_
  refine pg_X1_28 C dX1_becomeTwin_29 ?_
  refine z_aload_n C dX1_becomeTwin_32 rfl 0 rfl ?_
  refine z_aload_n C dX1_becomeTwin_33 rfl 1 rfl ?_
  refine gf_X1_31 C ((z_up_n _ _ (Ne.symm h_po)).trans h_o) dX1_becomeTwin_34 ?_
  refine pg_X1_31 C dX1_becomeTwin_37 ?_
  refine z_aload_n C dX1_becomeTwin_40 rfl 0 rfl ?_
  refine z_aload_n C dX1_becomeTwin_41 rfl 1 rfl ?_
  refine gf_X1_34 C ((z_up_n _ _ (Ne.symm h_po)).trans h_o) dX1_becomeTwin_42 ?_
  refine pg_X1_34 C dX1_becomeTwin_45 ?_
  refine z_aload_n C dX1_becomeTwin_48 rfl 0 rfl ?_
  refine z_aload_n C dX1_becomeTwin_49 rfl 1 rfl ?_
  refine gf_X1_37 C ((z_up_n _ _ (Ne.symm h_po)).trans h_o) dX1_becomeTwin_50 ?_
  refine pg_X1_37 C h_b1 h_b2 dX1_becomeTwin_53 ?_
  exact ret dX1_becomeTwin_56 (rfl) (by decide) (by decide)
set_option maxRecDepth 20000 in
theorem c_X1_becomeTwin_s (l : Launch) (G : zG) {M : zM} {p : Nat} {ov : Nat} {sa : Int32} {cp : Int32} {po : Int32} {li : Int32} {mk : Int32} {rd : Int32}  (h_p : M p = some (cPn ov sa cp po li mk rd)) (h_b1 : narrow .boolean (.int rd) = .int rd) (h_b2 : fits .boolean (.int rd) = true) : z_Mv l G qX1_becomeTwin (z_rm 1 0 0) [.ref p, .ref p] M (fun M' => M' = z_up M p (cPn ov sa cp po li mk rd))  := by
  refine z_Mv_of _ (plainFor_of_name rfl) rfl (Nat.le_of_ble_eq_true rfl) (fun X hl hG hnm C ret => ?_)
  subst hl; subst hG
  have C : z_C X cX1_becomeTwin RX1 2 (z_rm 1 0 0) := C
  show z_W X M 0 0 0 [(0, .ref p), (1, .ref p)] []
  refine z_aload_n C dX1_becomeTwin_0 rfl 0 rfl ?_
  refine z_aload_n C dX1_becomeTwin_1 rfl 1 rfl ?_
  refine gf_X1_9 C h_p dX1_becomeTwin_2 ?_
  refine pf_X1_9 C h_p dX1_becomeTwin_5 ?_
  refine z_aload_n C dX1_becomeTwin_8 rfl 0 rfl ?_
  refine z_aload_n C dX1_becomeTwin_9 rfl 1 rfl ?_
  refine gf_X1_15 C (z_up_s _ _ _) dX1_becomeTwin_10 ?_
  refine pg_X1_15 C dX1_becomeTwin_13 ?_
  refine z_aload_n C dX1_becomeTwin_16 rfl 0 rfl ?_
  refine z_aload_n C dX1_becomeTwin_17 rfl 1 rfl ?_
  refine gf_X1_25 C (z_up_s _ _ _) dX1_becomeTwin_18 ?_
  refine pg_X1_25 C dX1_becomeTwin_21 ?_
  refine z_aload_n C dX1_becomeTwin_24 rfl 0 rfl ?_
  refine z_aload_n C dX1_becomeTwin_25 rfl 1 rfl ?_
  refine gf_X1_28 C (z_up_s _ _ _) dX1_becomeTwin_26 ?_
  refine pg_X1_28 C dX1_becomeTwin_29 ?_
  refine z_aload_n C dX1_becomeTwin_32 rfl 0 rfl ?_
  refine z_aload_n C dX1_becomeTwin_33 rfl 1 rfl ?_
  refine gf_X1_31 C (z_up_s _ _ _) dX1_becomeTwin_34 ?_
  refine pg_X1_31 C dX1_becomeTwin_37 ?_
  refine z_aload_n C dX1_becomeTwin_40 rfl 0 rfl ?_
  refine z_aload_n C dX1_becomeTwin_41 rfl 1 rfl ?_
  refine gf_X1_34 C (z_up_s _ _ _) dX1_becomeTwin_42 ?_
  refine pg_X1_34 C dX1_becomeTwin_45 ?_
  refine z_aload_n C dX1_becomeTwin_48 rfl 0 rfl ?_
  refine z_aload_n C dX1_becomeTwin_49 rfl 1 rfl ?_
  refine gf_X1_37 C (z_up_s _ _ _) dX1_becomeTwin_50 ?_
  refine pg_X1_37 C h_b1 h_b2 dX1_becomeTwin_53 ?_
  exact ret dX1_becomeTwin_56 (rfl) (by decide) (by decide)
set_option maxRecDepth 20000 in
theorem c_X1_becomePart (l : Launch) (G : zG) {M : zM} {p : Nat} {o : Nat} {ix : Int32} {mn : Int32} {ov : Nat} {sa : Int32} {cp : Int32} {po : Int32} {li : Int32} {mk : Int32} {rd : Int32} {ov2 : Nat} {sa2 : Int32} {cp2 : Int32} {po2 : Int32} {li2 : Int32} {mk2 : Int32} {rd2 : Int32}  (h_p : M p = some (cPn ov sa cp po li mk rd)) (h_o : M o = some (cPn ov2 sa2 cp2 po2 li2 mk2 rd2)) (h_po : p ≠ o) (h_b1 : narrow .boolean (.int rd2) = .int rd2) (h_b2 : fits .boolean (.int rd2) = true) : z_Mv l G qX1_becomePart (z_rm 2 0 0) [.ref p, .ref o, .int ix, .int mn] M (fun M' => M' = z_up M p (cPn ov2 (sa2 + ix) mn 0 mn (-1) rd2))  := by
  refine z_Mv_of _ (plainFor_of_name rfl) rfl (Nat.le_of_ble_eq_true rfl) (fun X hl hG hnm C ret => ?_)
  subst hl; subst hG
  have C : z_C X cX1_becomePart RX1 4 (z_rm 2 0 0) := C
  show z_W X M 0 0 0 [(0, .ref p), (1, .ref o), (2, .int ix), (3, .int mn)] []
  refine z_aload_n C dX1_becomePart_0 rfl 0 rfl ?_
  refine z_aload_n C dX1_becomePart_1 rfl 1 rfl ?_
  refine gf_X1_9 C h_o dX1_becomePart_2 ?_
  refine pf_X1_9 C h_p dX1_becomePart_5 ?_
  refine z_aload_n C dX1_becomePart_8 rfl 0 rfl ?_
  refine z_aload_n C dX1_becomePart_9 rfl 1 rfl ?_
  refine gf_X1_15 C ((z_up_n _ _ (Ne.symm h_po)).trans h_o) dX1_becomePart_10 ?_
  refine z_iload_n C dX1_becomePart_13 rfl 2 rfl ?_
  refine z_iadd C dX1_becomePart_14 ?_
  refine pg_X1_15 C dX1_becomePart_15 ?_
  refine z_aload_n C dX1_becomePart_18 rfl 0 rfl ?_
  refine z_iload_n C dX1_becomePart_19 rfl 3 rfl ?_
  refine pg_X1_25 C dX1_becomePart_20 ?_
  refine z_aload_n C dX1_becomePart_23 rfl 0 rfl ?_
  refine z_aload_n C dX1_becomePart_24 rfl 1 rfl ?_
  refine gf_X1_37 C ((z_up_n _ _ (Ne.symm h_po)).trans h_o) dX1_becomePart_25 ?_
  refine pg_X1_37 C h_b1 h_b2 dX1_becomePart_28 ?_
  refine z_aload_n C dX1_becomePart_31 rfl 0 rfl ?_
  refine z_iload_n C dX1_becomePart_32 rfl 3 rfl ?_
  refine z_callVv (rest := []) (k' := 0) (n' := 0) C (c_X1_beginAgain (z_l X) (z_G X) (z_up_s _ _ _)) (cs_X1_41 C (by decide)) (z_up_s _ _ _) rfl rfl rfl rfl (Nat.le_of_ble_eq_true rfl) rfl rfl (by decide) (by decide) dX1_becomePart_33 (fun M' hq => ?_)
  obtain rfl := hq
  rw [z_up_up]
  exact ret dX1_becomePart_36 (rfl) (by decide) (by decide)
set_option maxRecDepth 20000 in
theorem c_X1_becomePart_s (l : Launch) (G : zG) {M : zM} {p : Nat} {ix : Int32} {mn : Int32} {ov : Nat} {sa : Int32} {cp : Int32} {po : Int32} {li : Int32} {mk : Int32} {rd : Int32}  (h_p : M p = some (cPn ov sa cp po li mk rd)) (h_b1 : narrow .boolean (.int rd) = .int rd) (h_b2 : fits .boolean (.int rd) = true) : z_Mv l G qX1_becomePart (z_rm 2 0 0) [.ref p, .ref p, .int ix, .int mn] M (fun M' => M' = z_up M p (cPn ov (sa + ix) mn 0 mn (-1) rd))  := by
  refine z_Mv_of _ (plainFor_of_name rfl) rfl (Nat.le_of_ble_eq_true rfl) (fun X hl hG hnm C ret => ?_)
  subst hl; subst hG
  have C : z_C X cX1_becomePart RX1 4 (z_rm 2 0 0) := C
  show z_W X M 0 0 0 [(0, .ref p), (1, .ref p), (2, .int ix), (3, .int mn)] []
  refine z_aload_n C dX1_becomePart_0 rfl 0 rfl ?_
  refine z_aload_n C dX1_becomePart_1 rfl 1 rfl ?_
  refine gf_X1_9 C h_p dX1_becomePart_2 ?_
  refine pf_X1_9 C h_p dX1_becomePart_5 ?_
  refine z_aload_n C dX1_becomePart_8 rfl 0 rfl ?_
  refine z_aload_n C dX1_becomePart_9 rfl 1 rfl ?_
  refine gf_X1_15 C (z_up_s _ _ _) dX1_becomePart_10 ?_
  refine z_iload_n C dX1_becomePart_13 rfl 2 rfl ?_
  refine z_iadd C dX1_becomePart_14 ?_
  refine pg_X1_15 C dX1_becomePart_15 ?_
  refine z_aload_n C dX1_becomePart_18 rfl 0 rfl ?_
  refine z_iload_n C dX1_becomePart_19 rfl 3 rfl ?_
  refine pg_X1_25 C dX1_becomePart_20 ?_
  refine z_aload_n C dX1_becomePart_23 rfl 0 rfl ?_
  refine z_aload_n C dX1_becomePart_24 rfl 1 rfl ?_
  refine gf_X1_37 C (z_up_s _ _ _) dX1_becomePart_25 ?_
  refine pg_X1_37 C h_b1 h_b2 dX1_becomePart_28 ?_
  refine z_aload_n C dX1_becomePart_31 rfl 0 rfl ?_
  refine z_iload_n C dX1_becomePart_32 rfl 3 rfl ?_
  refine z_callVv (rest := []) (k' := 0) (n' := 0) C (c_X1_beginAgain (z_l X) (z_G X) (z_up_s _ _ _)) (cs_X1_41 C (by decide)) (z_up_s _ _ _) rfl rfl rfl rfl (Nat.le_of_ble_eq_true rfl) rfl rfl (by decide) (by decide) dX1_becomePart_33 (fun M' hq => ?_)
  obtain rfl := hq
  rw [z_up_up]
  exact ret dX1_becomePart_36 (rfl) (by decide) (by decide)
set_option maxRecDepth 20000 in
theorem c_X1_valueAt (l : Launch) (G : zG) {M : zM} {p : Nat} {ix : Int32} {ov : Nat} {sa : Int32} {cp : Int32} {po : Int32} {li : Int32} {mk : Int32} {rd : Int32} {vs : Nat} {nv : Nat} {fv : Nat → Int32}  (h_p : M p = some (cPn ov sa cp po li mk rd)) (h_ov : M ov = some (cRw vs)) (h_vs : M vs = some (aI G nv fv)) (h_pl : vp_in (sa + ix) nv) (h_nv : nv < 100000) : z_Mi l G qX1_valueAt (z_rm 3 0 0) [.ref p, .int ix] M (fun r M' => r = fv (sa + ix).toNatClampNeg ∧ M' = M)  := by
  refine z_Mi_of _ (plainFor_of_name rfl) rfl (Nat.le_of_ble_eq_true rfl) (fun X hl hG hnm C ret => ?_)
  subst hl; subst hG
  have C : z_C X cX1_valueAt RX1 2 (z_rm 3 0 0) := C
  show z_W X M 0 0 0 [(0, .ref p), (1, .int ix)] []
  refine z_aload_n C dX1_valueAt_0 rfl 0 rfl ?_
  refine gf_X1_9 C h_p dX1_valueAt_1 ?_
  refine z_aload_n C dX1_valueAt_4 rfl 0 rfl ?_
  refine gf_X1_15 C h_p dX1_valueAt_5 ?_
  refine z_iload_n C dX1_valueAt_8 rfl 1 rfl ?_
  refine z_iadd C dX1_valueAt_9 ?_
  refine z_callVi (rest := []) (k' := 0) (n' := 0) C (c_X2_valueAt (z_l X) (z_G X) h_ov h_vs h_pl h_nv) (cs_X1_45 C (by decide)) h_ov rfl rfl rfl rfl (Nat.le_of_ble_eq_true rfl) rfl rfl (by decide) (by decide) dX1_valueAt_10 (fun x10 M' hq => ?_)
  obtain ⟨rfl, rfl⟩ := hq
  exact ret dX1_valueAt_13 rfl (⟨rfl, rfl⟩) (by decide) (by decide)
set_option maxRecDepth 20000 in
theorem c_X1_replace (l : Launch) (G : zG) {M : zM} {p : Nat} {ix : Int32} {v : Int32} {ov : Nat} {sa : Int32} {cp : Int32} {po : Int32} {li : Int32} {mk : Int32} {rd : Int32} {vs : Nat} {nv : Nat} {fv : Nat → Int32}  (h_p : M p = some (cPn ov sa cp po li mk rd)) (h_ov : M ov = some (cRw vs)) (h_vs : M vs = some (aI G nv fv)) (h_pl : vp_in (sa + ix) nv) (h_nv : nv < 100000) : z_Mi l G qX1_replace (z_rm 3 0 0) [.ref p, .int ix, .int v] M (fun r M' => r = fv (sa + ix).toNatClampNeg ∧ M' = z_up M vs (aI G nv (upd fv (sa + ix).toNatClampNeg v)))  := by
  refine z_Mi_of _ (plainFor_of_name rfl) rfl (Nat.le_of_ble_eq_true rfl) (fun X hl hG hnm C ret => ?_)
  subst hl; subst hG
  have C : z_C X cX1_replace RX1 3 (z_rm 3 0 0) := C
  show z_W X M 0 0 0 [(0, .ref p), (1, .int ix), (2, .int v)] []
  refine z_aload_n C dX1_replace_0 rfl 0 rfl ?_
  refine gf_X1_9 C h_p dX1_replace_1 ?_
  refine z_aload_n C dX1_replace_4 rfl 0 rfl ?_
  refine gf_X1_15 C h_p dX1_replace_5 ?_
  refine z_iload_n C dX1_replace_8 rfl 1 rfl ?_
  refine z_iadd C dX1_replace_9 ?_
  refine z_iload_n C dX1_replace_10 rfl 2 rfl ?_
  refine z_callVi (rest := []) (k' := 0) (n' := 0) C (c_X2_exchangeAt (z_l X) (z_G X) h_ov h_vs h_pl h_nv) (cs_X1_49 C (by decide)) h_ov rfl rfl rfl rfl (Nat.le_of_ble_eq_true rfl) rfl rfl (by decide) (by decide) dX1_replace_11 (fun x11 M' hq => ?_)
  obtain ⟨rfl, rfl⟩ := hq
  exact ret dX1_replace_14 rfl (⟨rfl, rfl⟩) (by decide) (by decide)
set_option maxRecDepth 20000 in
theorem c_X1_takeNext (l : Launch) (G : zG) {M : zM} {p : Nat} {ov : Nat} {sa : Int32} {cp : Int32} {po : Int32} {li : Int32} {mk : Int32} {rd : Int32} {vs : Nat} {nv : Nat} {fv : Nat → Int32}  (h_p : M p = some (cPn ov sa cp po li mk rd)) (h_ov : M ov = some (cRw vs)) (h_vs : M vs = some (aI G nv fv)) (h_pl : vp_in (sa + po) nv) (h_nv : nv < 100000) : z_Mi l G qX1_takeNext (z_rm 4 0 0) [.ref p] M (fun r M' => r = fv (sa + po).toNatClampNeg ∧ M' = z_up M p (cPn ov sa cp (po + 1) li mk rd))  := by
  refine z_Mi_of _ (plainFor_of_name rfl) rfl (Nat.le_of_ble_eq_true rfl) (fun X hl hG hnm C ret => ?_)
  subst hl; subst hG
  have C : z_C X cX1_takeNext RX1 2 (z_rm 4 0 0) := C
  show z_W X M 0 0 0 [(0, .ref p)] []
  refine z_aload_n C dX1_takeNext_0 rfl 0 rfl ?_
  refine z_aload_n C dX1_takeNext_1 rfl 0 rfl ?_
  refine gf_X1_28 C h_p dX1_takeNext_2 ?_
  refine z_callVi (rest := []) (k' := 0) (n' := 0) C (c_X1_valueAt (z_l X) (z_G X) h_p h_ov h_vs h_pl h_nv) (cs_X1_53 C (by decide)) h_p rfl rfl rfl rfl (Nat.le_of_ble_eq_true rfl) rfl rfl (by decide) (by decide) dX1_takeNext_5 (fun x5 M' hq => ?_)
  obtain ⟨rfl, rfl⟩ := hq
  refine z_istore_n (lv' := [(1, .int (fv (sa + po).toNatClampNeg)), (0, .ref p)]) C dX1_takeNext_8 rfl (by decide) rfl ?_
  refine z_aload_n C dX1_takeNext_9 rfl 1 rfl ?_
  refine z_dup C dX1_takeNext_10 rfl ?_
  refine gf_X1_28 C h_p dX1_takeNext_11 ?_
  refine z_iconst C (v := 1) dX1_takeNext_14 (by decide) ?_
  refine z_iadd C dX1_takeNext_15 ?_
  refine pf_X1_28 C h_p dX1_takeNext_16 ?_
  refine z_iload_n C dX1_takeNext_19 rfl 0 rfl ?_
  exact ret dX1_takeNext_20 rfl (⟨rfl, rfl⟩) (by decide) (by decide)
set_option maxRecDepth 20000 in
theorem c_X1_putNext (l : Launch) (G : zG) {M : zM} {p : Nat} {v : Int32} {ov : Nat} {sa : Int32} {cp : Int32} {po : Int32} {li : Int32} {mk : Int32} {rd : Int32} {vs : Nat} {nv : Nat} {fv : Nat → Int32}  (h_p : M p = some (cPn ov sa cp po li mk rd)) (h_ov : M ov = some (cRw vs)) (h_vs : M vs = some (aI G nv fv)) (h_pl : vp_in (sa + po) nv) (h_nv : nv < 100000) : z_Mv l G qX1_putNext (z_rm 4 0 0) [.ref p, .int v] M (fun M' => M' = z_up (z_up M vs (aI G nv (upd fv (sa + po).toNatClampNeg v))) p (cPn ov sa cp (po + 1) li mk rd))  := by
  refine z_Mv_of _ (plainFor_of_name rfl) rfl (Nat.le_of_ble_eq_true rfl) (fun X hl hG hnm C ret => ?_)
  subst hl; subst hG
  have C : z_C X cX1_putNext RX1 2 (z_rm 4 0 0) := C
  show z_W X M 0 0 0 [(0, .ref p), (1, .int v)] []
  refine z_aload_n C dX1_putNext_0 rfl 0 rfl ?_
  refine z_aload_n C dX1_putNext_1 rfl 0 rfl ?_
  refine gf_X1_28 C h_p dX1_putNext_2 ?_
  refine z_iload_n C dX1_putNext_5 rfl 1 rfl ?_
  refine z_callVi (rest := []) (k' := 0) (n' := 0) C (c_X1_replace (z_l X) (z_G X) h_p h_ov h_vs h_pl h_nv) (cs_X1_54 C (by decide)) h_p rfl rfl rfl rfl (Nat.le_of_ble_eq_true rfl) rfl rfl (by decide) (by decide) dX1_putNext_6 (fun x6 M' hq => ?_)
  obtain ⟨rfl, rfl⟩ := hq
  refine z_pop C dX1_putNext_9 rfl ?_
  refine z_aload_n C dX1_putNext_10 rfl 0 rfl ?_
  refine z_dup C dX1_putNext_11 rfl ?_
  refine gf_X1_28 C ((z_up_n _ _ (z_ne h_p h_vs (by intro h; cases h))).trans h_p) dX1_putNext_12 ?_
  refine z_iconst C (v := 1) dX1_putNext_15 (by decide) ?_
  refine z_iadd C dX1_putNext_16 ?_
  refine pf_X1_28 C ((z_up_n _ _ (z_ne h_p h_vs (by intro h; cases h))).trans h_p) dX1_putNext_17 ?_
  exact ret dX1_putNext_20 (rfl) (by decide) (by decide)
set_option maxRecDepth 20000 in
theorem c_X1_numberOf (l : Launch) (G : zG) {M : zM} {p : Nat} {wh : Int32} {ov : Nat} {sa : Int32} {cp : Int32} {po : Int32} {li : Int32} {mk : Int32} {rd : Int32}  (h_p : M p = some (cPn ov sa cp po li mk rd))  : z_Mi l G qX1_numberOf (z_rm 2 0 0) [.ref p, .int wh] M (fun r M' => ((wh = 0) ∧ r = po ∧ M' = M) ∨ ((wh = 1) ∧ r = li ∧ M' = M) ∨ ((wh = 2) ∧ r = cp ∧ M' = M) ∨ ((wh = 3) ∧ r = li - po ∧ M' = M) ∨ ((wh = 4) ∧ r = mk ∧ M' = M) ∨ ((wh = 5) ∧ (rd = 0) ∧ r = sa ∧ M' = M) ∨ ((wh = 5) ∧ (¬ rd = 0) ∧ r = (-9) ∧ M' = M) ∨ ((wh = 6) ∧ ((li - po) ≤ 0) ∧ r = 0 ∧ M' = M) ∨ ((wh = 6) ∧ (¬ (li - po) ≤ 0) ∧ r = 1 ∧ M' = M) ∨ ((wh = 7) ∧ (rd = 0) ∧ r = 0 ∧ M' = M) ∨ ((wh = 7) ∧ (¬ rd = 0) ∧ r = 1 ∧ M' = M) ∨ ((wh = 8) ∧ (rd = 0) ∧ r = 1 ∧ M' = M) ∨ ((wh = 8) ∧ (¬ rd = 0) ∧ r = 0 ∧ M' = M) ∨ ((¬ wh = 0 ∧ ¬ wh = 1 ∧ ¬ wh = 2 ∧ ¬ wh = 3 ∧ ¬ wh = 4 ∧ ¬ wh = 5 ∧ ¬ wh = 6 ∧ ¬ wh = 7 ∧ ¬ wh = 8) ∧ r = cp - li ∧ M' = M))  := by
  refine z_Mi_of _ (plainFor_of_name rfl) rfl (Nat.le_of_ble_eq_true rfl) (fun X hl hG hnm C ret => ?_)
  subst hl; subst hG
  have C : z_C X cX1_numberOf RX1 2 (z_rm 2 0 0) := C
  show z_W X M 0 0 0 [(0, .ref p), (1, .int wh)] []
  refine z_iload_n C dX1_numberOf_0 rfl 1 rfl ?_
  refine z_swi (fun x1 e1 => ?_)
  by_cases c1_0 : x1 = 0
  · refine z_tin C (v := 0) (tgt := 52) dX1_numberOf_1 c1_0 (by decide) (by decide) (by decide) (by decide) ?_
    refine z_aload_n C dX1_numberOf_52 rfl 0 rfl ?_
    refine gf_X1_28 C h_p dX1_numberOf_53 ?_
    exact ret dX1_numberOf_56 rfl (Or.inl ⟨(z_swe e1 c1_0), rfl, rfl⟩) (by decide) (by decide)
  by_cases c1_1 : x1 = 1
  · refine z_tin C (v := 1) (tgt := 57) dX1_numberOf_1 c1_1 (by decide) (by decide) (by decide) (by decide) ?_
    refine z_aload_n C dX1_numberOf_57 rfl 0 rfl ?_
    refine gf_X1_31 C h_p dX1_numberOf_58 ?_
    exact ret dX1_numberOf_61 rfl (Or.inr (Or.inl ⟨(z_swe e1 c1_1), rfl, rfl⟩)) (by decide) (by decide)
  by_cases c1_2 : x1 = 2
  · refine z_tin C (v := 2) (tgt := 62) dX1_numberOf_1 c1_2 (by decide) (by decide) (by decide) (by decide) ?_
    refine z_aload_n C dX1_numberOf_62 rfl 0 rfl ?_
    refine gf_X1_25 C h_p dX1_numberOf_63 ?_
    exact ret dX1_numberOf_66 rfl (Or.inr (Or.inr (Or.inl ⟨(z_swe e1 c1_2), rfl, rfl⟩))) (by decide) (by decide)
  by_cases c1_3 : x1 = 3
  · refine z_tin C (v := 3) (tgt := 67) dX1_numberOf_1 c1_3 (by decide) (by decide) (by decide) (by decide) ?_
    refine z_aload_n C dX1_numberOf_67 rfl 0 rfl ?_
    refine z_callVi (rest := []) (k' := 0) (n' := 0) C (c_X1_left (z_l X) (z_G X) h_p) (cs_X1_57 C (by decide)) h_p rfl rfl rfl rfl (Nat.le_of_ble_eq_true rfl) rfl rfl (by decide) (by decide) dX1_numberOf_68 (fun x68 M' hq => ?_)
    obtain ⟨rfl, rfl⟩ := hq
    exact ret dX1_numberOf_71 rfl (Or.inr (Or.inr (Or.inr (Or.inl ⟨(z_swe e1 c1_3), rfl, rfl⟩)))) (by decide) (by decide)
  by_cases c1_4 : x1 = 4
  · refine z_tin C (v := 4) (tgt := 72) dX1_numberOf_1 c1_4 (by decide) (by decide) (by decide) (by decide) ?_
    refine z_aload_n C dX1_numberOf_72 rfl 0 rfl ?_
    refine gf_X1_34 C h_p dX1_numberOf_73 ?_
    exact ret dX1_numberOf_76 rfl (Or.inr (Or.inr (Or.inr (Or.inr (Or.inl ⟨(z_swe e1 c1_4), rfl, rfl⟩))))) (by decide) (by decide)
  by_cases c1_5 : x1 = 5
  · refine z_tin C (v := 5) (tgt := 77) dX1_numberOf_1 c1_5 (by decide) (by decide) (by decide) (by decide) ?_
    refine z_aload_n C dX1_numberOf_77 rfl 0 rfl ?_
    refine gf_X1_37 C h_p dX1_numberOf_78 ?_
    refine z_if_eq C (tgt := 89) dX1_numberOf_81 (by decide) (fun c81 => ?_) (fun c81 => ?_)
    · refine z_aload_n C dX1_numberOf_89 rfl 0 rfl ?_
      refine gf_X1_15 C h_p dX1_numberOf_90 ?_
      exact ret dX1_numberOf_93 rfl (Or.inr (Or.inr (Or.inr (Or.inr (Or.inr (Or.inl ⟨(z_swe e1 c1_5), c81, rfl, rfl⟩)))))) (by decide) (by decide)
    · refine z_bipush C (v := (-9)) dX1_numberOf_84 (by decide) ?_
      refine z_goto C (tgt := 93) dX1_numberOf_86 (by decide) ?_
      exact ret dX1_numberOf_93 rfl (Or.inr (Or.inr (Or.inr (Or.inr (Or.inr (Or.inr (Or.inl ⟨(z_swe e1 c1_5), c81, rfl, rfl⟩))))))) (by decide) (by decide)
  by_cases c1_6 : x1 = 6
  · refine z_tin C (v := 6) (tgt := 94) dX1_numberOf_1 c1_6 (by decide) (by decide) (by decide) (by decide) ?_
    refine z_aload_n C dX1_numberOf_94 rfl 0 rfl ?_
    refine z_callVi (rest := []) (k' := 0) (n' := 0) C (c_X1_left (z_l X) (z_G X) h_p) (cs_X1_57 C (by decide)) h_p rfl rfl rfl rfl (Nat.le_of_ble_eq_true rfl) rfl rfl (by decide) (by decide) dX1_numberOf_95 (fun x95 M' hq => ?_)
    obtain ⟨rfl, rfl⟩ := hq
    refine z_if_le C (tgt := 105) dX1_numberOf_98 (by decide) (fun c98 => ?_) (fun c98 => ?_)
    · refine z_iconst C (v := 0) dX1_numberOf_105 (by decide) ?_
      exact ret dX1_numberOf_106 rfl (Or.inr (Or.inr (Or.inr (Or.inr (Or.inr (Or.inr (Or.inr (Or.inl ⟨(z_swe e1 c1_6), c98, rfl, rfl⟩)))))))) (by decide) (by decide)
    · refine z_iconst C (v := 1) dX1_numberOf_101 (by decide) ?_
      refine z_goto C (tgt := 106) dX1_numberOf_102 (by decide) ?_
      exact ret dX1_numberOf_106 rfl (Or.inr (Or.inr (Or.inr (Or.inr (Or.inr (Or.inr (Or.inr (Or.inr (Or.inl ⟨(z_swe e1 c1_6), c98, rfl, rfl⟩))))))))) (by decide) (by decide)
  by_cases c1_7 : x1 = 7
  · refine z_tin C (v := 7) (tgt := 107) dX1_numberOf_1 c1_7 (by decide) (by decide) (by decide) (by decide) ?_
    refine z_aload_n C dX1_numberOf_107 rfl 0 rfl ?_
    refine gf_X1_37 C h_p dX1_numberOf_108 ?_
    refine z_if_eq C (tgt := 118) dX1_numberOf_111 (by decide) (fun c111 => ?_) (fun c111 => ?_)
    · refine z_iconst C (v := 0) dX1_numberOf_118 (by decide) ?_
      exact ret dX1_numberOf_119 rfl (Or.inr (Or.inr (Or.inr (Or.inr (Or.inr (Or.inr (Or.inr (Or.inr (Or.inr (Or.inl ⟨(z_swe e1 c1_7), c111, rfl, rfl⟩)))))))))) (by decide) (by decide)
    · refine z_iconst C (v := 1) dX1_numberOf_114 (by decide) ?_
      refine z_goto C (tgt := 119) dX1_numberOf_115 (by decide) ?_
      exact ret dX1_numberOf_119 rfl (Or.inr (Or.inr (Or.inr (Or.inr (Or.inr (Or.inr (Or.inr (Or.inr (Or.inr (Or.inr (Or.inl ⟨(z_swe e1 c1_7), c111, rfl, rfl⟩))))))))))) (by decide) (by decide)
  by_cases c1_8 : x1 = 8
  · refine z_tin C (v := 8) (tgt := 120) dX1_numberOf_1 c1_8 (by decide) (by decide) (by decide) (by decide) ?_
    refine z_aload_n C dX1_numberOf_120 rfl 0 rfl ?_
    refine gf_X1_37 C h_p dX1_numberOf_121 ?_
    refine z_if_eq C (tgt := 131) dX1_numberOf_124 (by decide) (fun c124 => ?_) (fun c124 => ?_)
    · refine z_iconst C (v := 1) dX1_numberOf_131 (by decide) ?_
      exact ret dX1_numberOf_132 rfl (Or.inr (Or.inr (Or.inr (Or.inr (Or.inr (Or.inr (Or.inr (Or.inr (Or.inr (Or.inr (Or.inr (Or.inl ⟨(z_swe e1 c1_8), c124, rfl, rfl⟩)))))))))))) (by decide) (by decide)
    · refine z_iconst C (v := 0) dX1_numberOf_127 (by decide) ?_
      refine z_goto C (tgt := 132) dX1_numberOf_128 (by decide) ?_
      exact ret dX1_numberOf_132 rfl (Or.inr (Or.inr (Or.inr (Or.inr (Or.inr (Or.inr (Or.inr (Or.inr (Or.inr (Or.inr (Or.inr (Or.inr (Or.inl ⟨(z_swe e1 c1_8), c124, rfl, rfl⟩))))))))))))) (by decide) (by decide)
  refine z_tout C (tgt := 133) dX1_numberOf_1 (z_ou9 c1_0 c1_1 c1_2 c1_3 c1_4 c1_5 c1_6 c1_7 c1_8) (by decide) ?_
  have g1_0 : ¬ wh = 0 := fun q => c1_0 (e1.trans q)
  have g1_1 : ¬ wh = 1 := fun q => c1_1 (e1.trans q)
  have g1_2 : ¬ wh = 2 := fun q => c1_2 (e1.trans q)
  have g1_3 : ¬ wh = 3 := fun q => c1_3 (e1.trans q)
  have g1_4 : ¬ wh = 4 := fun q => c1_4 (e1.trans q)
  have g1_5 : ¬ wh = 5 := fun q => c1_5 (e1.trans q)
  have g1_6 : ¬ wh = 6 := fun q => c1_6 (e1.trans q)
  have g1_7 : ¬ wh = 7 := fun q => c1_7 (e1.trans q)
  have g1_8 : ¬ wh = 8 := fun q => c1_8 (e1.trans q)
  refine z_aload_n C dX1_numberOf_133 rfl 0 rfl ?_
  refine gf_X1_25 C h_p dX1_numberOf_134 ?_
  refine z_aload_n C dX1_numberOf_137 rfl 0 rfl ?_
  refine gf_X1_31 C h_p dX1_numberOf_138 ?_
  refine z_isub C dX1_numberOf_141 ?_
  exact ret dX1_numberOf_142 rfl (Or.inr (Or.inr (Or.inr (Or.inr (Or.inr (Or.inr (Or.inr (Or.inr (Or.inr (Or.inr (Or.inr (Or.inr (Or.inr (⟨⟨g1_0, g1_1, g1_2, g1_3, g1_4, g1_5, g1_6, g1_7, g1_8⟩, rfl, rfl⟩)))))))))))))) (by decide) (by decide)
set_option maxRecDepth 20000 in
theorem c_X1_isInOrder (l : Launch) (G : zG) {M : zM} {p : Nat} {ov : Nat} {sa : Int32} {cp : Int32} {po : Int32} {li : Int32} {mk : Int32} {rd : Int32}  (h_p : M p = some (cPn ov sa cp po li mk rd))  : z_Mi l G qX1_isInOrder (z_rm 2 0 0) [.ref p] M (fun r M' => (((z_hm mk) = 0) ∧ (po < 0) ∧ r = 0 ∧ M' = M) ∨ (((z_hm mk) = 0) ∧ (¬ po < 0) ∧ (li < po) ∧ r = 0 ∧ M' = M) ∨ (((z_hm mk) = 0) ∧ (¬ po < 0) ∧ (¬ li < po) ∧ (cp < li) ∧ r = 0 ∧ M' = M) ∨ (((z_hm mk) = 0) ∧ (¬ po < 0) ∧ (¬ li < po) ∧ (¬ cp < li) ∧ (¬ (li - po) = (li - po)) ∧ r = 0 ∧ M' = M) ∨ (((z_hm mk) = 0) ∧ (¬ po < 0) ∧ (¬ li < po) ∧ (¬ cp < li) ∧ ((li - po) = (li - po)) ∧ r = 1 ∧ M' = M) ∨ ((¬ (z_hm mk) = 0) ∧ (mk < 0) ∧ r = 0 ∧ M' = M) ∨ ((¬ (z_hm mk) = 0) ∧ (¬ mk < 0) ∧ (mk ≤ po) ∧ (po < 0) ∧ r = 0 ∧ M' = M) ∨ ((¬ (z_hm mk) = 0) ∧ (¬ mk < 0) ∧ (mk ≤ po) ∧ (¬ po < 0) ∧ (li < po) ∧ r = 0 ∧ M' = M) ∨ ((¬ (z_hm mk) = 0) ∧ (¬ mk < 0) ∧ (mk ≤ po) ∧ (¬ po < 0) ∧ (¬ li < po) ∧ (cp < li) ∧ r = 0 ∧ M' = M) ∨ ((¬ (z_hm mk) = 0) ∧ (¬ mk < 0) ∧ (mk ≤ po) ∧ (¬ po < 0) ∧ (¬ li < po) ∧ (¬ cp < li) ∧ (¬ (li - po) = (li - po)) ∧ r = 0 ∧ M' = M) ∨ ((¬ (z_hm mk) = 0) ∧ (¬ mk < 0) ∧ (mk ≤ po) ∧ (¬ po < 0) ∧ (¬ li < po) ∧ (¬ cp < li) ∧ ((li - po) = (li - po)) ∧ r = 1 ∧ M' = M) ∨ ((¬ (z_hm mk) = 0) ∧ (¬ mk < 0) ∧ (¬ mk ≤ po) ∧ r = 0 ∧ M' = M))  := by
  refine z_Mi_of _ (plainFor_of_name rfl) rfl (Nat.le_of_ble_eq_true rfl) (fun X hl hG hnm C ret => ?_)
  subst hl; subst hG
  have C : z_C X cX1_isInOrder RX1 1 (z_rm 2 0 0) := C
  show z_W X M 0 0 0 [(0, .ref p)] []
  refine z_aload_n C dX1_isInOrder_0 rfl 0 rfl ?_
  refine z_callVi (rest := []) (k' := 0) (n' := 0) C (c_X1_hasMark (z_l X) (z_G X) h_p) (cs_X1_60 C (by decide)) h_p rfl rfl rfl rfl (Nat.le_of_ble_eq_true rfl) rfl rfl (by decide) (by decide) dX1_isInOrder_1 (fun x1 M' hq => ?_)
  obtain ⟨rfl, rfl⟩ := hq
  refine z_if_eq C (tgt := 27) dX1_isInOrder_4 (by decide) (fun c4 => ?_) (fun c4 => ?_)
  · refine z_aload_n C dX1_isInOrder_27 rfl 0 rfl ?_
    refine gf_X1_28 C h_p dX1_isInOrder_28 ?_
    refine z_if_lt C (tgt := 76) dX1_isInOrder_31 (by decide) (fun c31 => ?_) (fun c31 => ?_)
    · refine z_iconst C (v := 0) dX1_isInOrder_76 (by decide) ?_
      exact ret dX1_isInOrder_77 rfl (Or.inl ⟨c4, c31, rfl, rfl⟩) (by decide) (by decide)
    · refine z_aload_n C dX1_isInOrder_34 rfl 0 rfl ?_
      refine gf_X1_28 C h_p dX1_isInOrder_35 ?_
      refine z_aload_n C dX1_isInOrder_38 rfl 0 rfl ?_
      refine gf_X1_31 C h_p dX1_isInOrder_39 ?_
      refine z_icmp_gt C (tgt := 76) dX1_isInOrder_42 (by decide) (fun c42 => ?_) (fun c42 => ?_)
      · refine z_iconst C (v := 0) dX1_isInOrder_76 (by decide) ?_
        exact ret dX1_isInOrder_77 rfl (Or.inr (Or.inl ⟨c4, c31, c42, rfl, rfl⟩)) (by decide) (by decide)
      · refine z_aload_n C dX1_isInOrder_45 rfl 0 rfl ?_
        refine gf_X1_31 C h_p dX1_isInOrder_46 ?_
        refine z_aload_n C dX1_isInOrder_49 rfl 0 rfl ?_
        refine gf_X1_25 C h_p dX1_isInOrder_50 ?_
        refine z_icmp_gt C (tgt := 76) dX1_isInOrder_53 (by decide) (fun c53 => ?_) (fun c53 => ?_)
        · refine z_iconst C (v := 0) dX1_isInOrder_76 (by decide) ?_
          exact ret dX1_isInOrder_77 rfl (Or.inr (Or.inr (Or.inl ⟨c4, c31, c42, c53, rfl, rfl⟩))) (by decide) (by decide)
        · refine z_aload_n C dX1_isInOrder_56 rfl 0 rfl ?_
          refine z_callVi (rest := []) (k' := 0) (n' := 0) C (c_X1_left (z_l X) (z_G X) h_p) (cs_X1_57 C (by decide)) h_p rfl rfl rfl rfl (Nat.le_of_ble_eq_true rfl) rfl rfl (by decide) (by decide) dX1_isInOrder_57 (fun x57 M' hq => ?_)
          obtain ⟨rfl, rfl⟩ := hq
          refine z_aload_n C dX1_isInOrder_60 rfl 0 rfl ?_
          refine gf_X1_31 C h_p dX1_isInOrder_61 ?_
          refine z_aload_n C dX1_isInOrder_64 rfl 0 rfl ?_
          refine gf_X1_28 C h_p dX1_isInOrder_65 ?_
          refine z_isub C dX1_isInOrder_68 ?_
          refine z_icmp_ne C (tgt := 76) dX1_isInOrder_69 (by decide) (fun c69 => ?_) (fun c69 => ?_)
          · refine z_iconst C (v := 0) dX1_isInOrder_76 (by decide) ?_
            exact ret dX1_isInOrder_77 rfl (Or.inr (Or.inr (Or.inr (Or.inl ⟨c4, c31, c42, c53, c69, rfl, rfl⟩)))) (by decide) (by decide)
          · refine z_iconst C (v := 1) dX1_isInOrder_72 (by decide) ?_
            refine z_goto C (tgt := 77) dX1_isInOrder_73 (by decide) ?_
            exact ret dX1_isInOrder_77 rfl (Or.inr (Or.inr (Or.inr (Or.inr (Or.inl ⟨c4, c31, c42, c53, c69, rfl, rfl⟩))))) (by decide) (by decide)
  · refine z_aload_n C dX1_isInOrder_7 rfl 0 rfl ?_
    refine gf_X1_34 C h_p dX1_isInOrder_8 ?_
    refine z_if_lt C (tgt := 25) dX1_isInOrder_11 (by decide) (fun c11 => ?_) (fun c11 => ?_)
    · refine z_iconst C (v := 0) dX1_isInOrder_25 (by decide) ?_
      exact ret dX1_isInOrder_26 rfl (Or.inr (Or.inr (Or.inr (Or.inr (Or.inr (Or.inl ⟨c4, c11, rfl, rfl⟩)))))) (by decide) (by decide)
    · refine z_aload_n C dX1_isInOrder_14 rfl 0 rfl ?_
      refine gf_X1_34 C h_p dX1_isInOrder_15 ?_
      refine z_aload_n C dX1_isInOrder_18 rfl 0 rfl ?_
      refine gf_X1_28 C h_p dX1_isInOrder_19 ?_
      refine z_icmp_le C (tgt := 27) dX1_isInOrder_22 (by decide) (fun c22 => ?_) (fun c22 => ?_)
      · refine z_aload_n C dX1_isInOrder_27 rfl 0 rfl ?_
        refine gf_X1_28 C h_p dX1_isInOrder_28 ?_
        refine z_if_lt C (tgt := 76) dX1_isInOrder_31 (by decide) (fun c31 => ?_) (fun c31 => ?_)
        · refine z_iconst C (v := 0) dX1_isInOrder_76 (by decide) ?_
          exact ret dX1_isInOrder_77 rfl (Or.inr (Or.inr (Or.inr (Or.inr (Or.inr (Or.inr (Or.inl ⟨c4, c11, c22, c31, rfl, rfl⟩))))))) (by decide) (by decide)
        · refine z_aload_n C dX1_isInOrder_34 rfl 0 rfl ?_
          refine gf_X1_28 C h_p dX1_isInOrder_35 ?_
          refine z_aload_n C dX1_isInOrder_38 rfl 0 rfl ?_
          refine gf_X1_31 C h_p dX1_isInOrder_39 ?_
          refine z_icmp_gt C (tgt := 76) dX1_isInOrder_42 (by decide) (fun c42 => ?_) (fun c42 => ?_)
          · refine z_iconst C (v := 0) dX1_isInOrder_76 (by decide) ?_
            exact ret dX1_isInOrder_77 rfl (Or.inr (Or.inr (Or.inr (Or.inr (Or.inr (Or.inr (Or.inr (Or.inl ⟨c4, c11, c22, c31, c42, rfl, rfl⟩)))))))) (by decide) (by decide)
          · refine z_aload_n C dX1_isInOrder_45 rfl 0 rfl ?_
            refine gf_X1_31 C h_p dX1_isInOrder_46 ?_
            refine z_aload_n C dX1_isInOrder_49 rfl 0 rfl ?_
            refine gf_X1_25 C h_p dX1_isInOrder_50 ?_
            refine z_icmp_gt C (tgt := 76) dX1_isInOrder_53 (by decide) (fun c53 => ?_) (fun c53 => ?_)
            · refine z_iconst C (v := 0) dX1_isInOrder_76 (by decide) ?_
              exact ret dX1_isInOrder_77 rfl (Or.inr (Or.inr (Or.inr (Or.inr (Or.inr (Or.inr (Or.inr (Or.inr (Or.inl ⟨c4, c11, c22, c31, c42, c53, rfl, rfl⟩))))))))) (by decide) (by decide)
            · refine z_aload_n C dX1_isInOrder_56 rfl 0 rfl ?_
              refine z_callVi (rest := []) (k' := 0) (n' := 0) C (c_X1_left (z_l X) (z_G X) h_p) (cs_X1_57 C (by decide)) h_p rfl rfl rfl rfl (Nat.le_of_ble_eq_true rfl) rfl rfl (by decide) (by decide) dX1_isInOrder_57 (fun x57 M' hq => ?_)
              obtain ⟨rfl, rfl⟩ := hq
              refine z_aload_n C dX1_isInOrder_60 rfl 0 rfl ?_
              refine gf_X1_31 C h_p dX1_isInOrder_61 ?_
              refine z_aload_n C dX1_isInOrder_64 rfl 0 rfl ?_
              refine gf_X1_28 C h_p dX1_isInOrder_65 ?_
              refine z_isub C dX1_isInOrder_68 ?_
              refine z_icmp_ne C (tgt := 76) dX1_isInOrder_69 (by decide) (fun c69 => ?_) (fun c69 => ?_)
              · refine z_iconst C (v := 0) dX1_isInOrder_76 (by decide) ?_
                exact ret dX1_isInOrder_77 rfl (Or.inr (Or.inr (Or.inr (Or.inr (Or.inr (Or.inr (Or.inr (Or.inr (Or.inr (Or.inl ⟨c4, c11, c22, c31, c42, c53, c69, rfl, rfl⟩)))))))))) (by decide) (by decide)
              · refine z_iconst C (v := 1) dX1_isInOrder_72 (by decide) ?_
                refine z_goto C (tgt := 77) dX1_isInOrder_73 (by decide) ?_
                exact ret dX1_isInOrder_77 rfl (Or.inr (Or.inr (Or.inr (Or.inr (Or.inr (Or.inr (Or.inr (Or.inr (Or.inr (Or.inr (Or.inl ⟨c4, c11, c22, c31, c42, c53, c69, rfl, rfl⟩))))))))))) (by decide) (by decide)
      · refine z_iconst C (v := 0) dX1_isInOrder_25 (by decide) ?_
        exact ret dX1_isInOrder_26 rfl (Or.inr (Or.inr (Or.inr (Or.inr (Or.inr (Or.inr (Or.inr (Or.inr (Or.inr (Or.inr (Or.inr (⟨c4, c11, c22, rfl, rfl⟩)))))))))))) (by decide) (by decide)
set_option maxRecDepth 20000 in
theorem c_X3_isWithin (l : Launch) (G : zG) {M : zM} {v : Int32} {a : Int32} {b : Int32}    : z_Mi l G qX3_isWithin (z_rm 1 0 0) [.int v, .int a, .int b] M (fun r M' => r = z_is v a b ∧ M' = M)  := by
  refine z_Mi_of _ (plainFor_of_name rfl) rfl (Nat.le_of_ble_eq_true rfl) (fun X hl hG hnm C ret => ?_)
  subst hl; subst hG
  have C : z_C X cX3_isWithin RX3 3 (z_rm 1 0 0) := C
  show z_W X M 0 0 0 [(0, .int v), (1, .int a), (2, .int b)] []
  refine z_iload_n C dX3_isWithin_0 rfl 0 rfl ?_
  refine z_iload_n C dX3_isWithin_1 rfl 1 rfl ?_
  refine z_icmp_lt C (tgt := 14) dX3_isWithin_2 (by decide) (fun c2 => ?_) (fun c2 => ?_)
  · refine z_iconst C (v := 0) dX3_isWithin_14 (by decide) ?_
    refine ret dX3_isWithin_15 rfl ?_ (by decide) (by decide)
    exact ⟨by simp [z_is, *], rfl⟩
  · refine z_iload_n C dX3_isWithin_5 rfl 0 rfl ?_
    refine z_iload_n C dX3_isWithin_6 rfl 2 rfl ?_
    refine z_icmp_gt C (tgt := 14) dX3_isWithin_7 (by decide) (fun c7 => ?_) (fun c7 => ?_)
    · refine z_iconst C (v := 0) dX3_isWithin_14 (by decide) ?_
      refine ret dX3_isWithin_15 rfl ?_ (by decide) (by decide)
      exact ⟨by simp [z_is, *], rfl⟩
    · refine z_iconst C (v := 1) dX3_isWithin_10 (by decide) ?_
      refine z_goto C (tgt := 15) dX3_isWithin_11 (by decide) ?_
      refine ret dX3_isWithin_15 rfl ?_ (by decide) (by decide)
      exact ⟨by simp [z_is, *], rfl⟩
set_option maxRecDepth 20000 in
theorem c_X3_done (l : Launch) (G : zG) {M : zM} {x : Nat} {r0 : Int32} {lr : Nat} {pa : Nat} {sp : Nat} {ln : Nat} {rf : Nat} {ac : Int32} {kn : Int32}  (h_x : M x = some (cMp lr pa sp ln rf ac kn))  : z_Mi l G qX3_done (z_rm 1 0 0) [.ref x, .int r0] M (fun r M' => r = r0 ∧ M' = z_up M x (cMp lr pa sp ln rf (ac + 1) kn))  := by
  refine z_Mi_of _ (plainFor_of_name rfl) rfl (Nat.le_of_ble_eq_true rfl) (fun X hl hG hnm C ret => ?_)
  subst hl; subst hG
  have C : z_C X cX3_done RX3 2 (z_rm 1 0 0) := C
  show z_W X M 0 0 0 [(0, .ref x), (1, .int r0)] []
  refine z_aload_n C dX3_done_0 rfl 0 rfl ?_
  refine z_dup C dX3_done_1 rfl ?_
  refine gf_X3_42 C h_x dX3_done_2 ?_
  refine z_iconst C (v := 1) dX3_done_5 (by decide) ?_
  refine z_iadd C dX3_done_6 ?_
  refine pf_X3_42 C h_x dX3_done_7 ?_
  refine z_iload_n C dX3_done_10 rfl 1 rfl ?_
  exact ret dX3_done_11 rfl (⟨rfl, rfl⟩) (by decide) (by decide)
set_option maxRecDepth 20000 in
theorem c_X3_refuse (l : Launch) (G : zG) {M : zM} {x : Nat} {kd : Int32} {lr : Nat} {pa : Nat} {sp : Nat} {ln : Nat} {rf : Nat} {ac : Int32} {kn : Int32} {fr : Nat → Int32} {kj : Nat} (h_x : M x = some (cMp lr pa sp ln rf ac kn)) (h_rf : M rf = some (aI G 6 fr)) (h_kd : vp_in kd 6) (h_kj : kd.toNatClampNeg = kj) : z_Mi l G qX3_refuse (z_rm 1 0 0) [.ref x, .int kd] M (fun r M' => r = (-9) ∧ M' = z_up M rf (aI G 6 (upd fr kj ((fr kj) + 1))))  := by
  refine z_Mi_of _ (plainFor_of_name rfl) rfl (Nat.le_of_ble_eq_true rfl) (fun X hl hG hnm C ret => ?_)
  subst hl; subst hG
  have C : z_C X cX3_refuse RX3 2 (z_rm 1 0 0) := C
  show z_W X M 0 0 0 [(0, .ref x), (1, .int kd)] []
  refine z_iload_n C dX3_refuse_0 rfl 1 rfl ?_
  refine z_if_lt C (tgt := 23) dX3_refuse_1 (by decide) (fun c1 => absurd c1 (z_ge0 h_kd)) (fun _ => ?_)
  refine z_iload_n C dX3_refuse_4 rfl 1 rfl ?_
  refine z_aload_n C dX3_refuse_5 rfl 0 rfl ?_
  refine gf_X3_38 C h_x dX3_refuse_6 ?_
  refine z_alenI C (v := Int32.ofNat 6) h_rf rfl dX3_refuse_9 ?_
  refine z_icmp_ge C (tgt := 23) dX3_refuse_10 (by decide) (fun c10 => absurd c10 (z_nIn h_kd (by decide))) (fun _ => ?_)
  refine z_aload_n C dX3_refuse_13 rfl 0 rfl ?_
  refine gf_X3_38 C h_x dX3_refuse_14 ?_
  refine z_iload_n C dX3_refuse_17 rfl 1 rfl ?_
  refine z_dup2 C dX3_refuse_18 rfl rfl ?_
  refine z_iald (j := kj) C h_rf h_kd h_kj dX3_refuse_19 ?_
  refine z_iconst C (v := 1) dX3_refuse_20 (by decide) ?_
  refine z_iadd C dX3_refuse_21 ?_
  refine z_iast (j := kj) C h_rf h_kd h_kj dX3_refuse_22 ?_
  refine z_bipush C (v := (-9)) dX3_refuse_23 (by decide) ?_
  exact ret dX3_refuse_25 rfl (⟨rfl, rfl⟩) (by decide) (by decide)
set_option maxRecDepth 20000 in
theorem c_X3_paneOf (l : Launch) (G : zG) (h_st : l.stackTraces = false) {M : zM} {x : Nat} {pane : Int32} {lr : Nat} {pa : Nat} {sp : Nat} {ln : Nat} {rf : Nat} {ac : Int32} {kn : Int32} {fp : Nat → Option Nat} {p : Nat} {ov : Nat} {sa : Int32} {cp : Int32} {po : Int32} {li : Int32} {mk : Int32} {rd : Int32} {i : Nat} (h_x : M x = some (cMp lr pa sp ln rf ac kn)) (h_pa : M pa = some (aP G 6 fp)) (h_p : M p = some (cPn ov sa cp po li mk rd)) (h_ip : vp_in pane 6) (h_ij : pane.toNatClampNeg = i) (h_fp : fp i = some p) : z_Xr l G qX3_paneOf (z_rm 7 1 6) [.ref x, .int pane] M (fun r M' => r = p ∧ M' = M) (fun E M' => False) := by
  refine z_Xr_of _ _ h_st rfl rfl (by first | exact Or.inl ⟨_, rfl⟩ | exact Or.inr ⟨_, rfl⟩) (Nat.le_of_ble_eq_true rfl) (fun X hl hG C ret thr prp => ?_)
  subst hl; subst hG
  have C : z_C X cX3_paneOf RX3 2 (z_rm 7 1 6) := C
  show z_W X M 0 0 0 [(0, .ref x), (1, .int pane)] []
  refine z_iload_n C dX3_paneOf_0 rfl 1 rfl ?_
  refine z_if_lt C (tgt := 13) dX3_paneOf_1 (by decide) (fun c1 => absurd c1 (z_ge0 h_ip)) (fun _ => ?_)
  refine z_iload_n C dX3_paneOf_4 rfl 1 rfl ?_
  refine z_aload_n C dX3_paneOf_5 rfl 0 rfl ?_
  refine gf_X3_20 C h_x dX3_paneOf_6 ?_
  refine z_alenP C (v := Int32.ofNat 6) h_pa rfl dX3_paneOf_9 ?_
  refine z_icmp_lt C (tgt := 23) dX3_paneOf_10 (by decide) (fun _ => ?_) (fun c10 => absurd (z_nIt h_ip) c10)
  refine z_aload_n C dX3_paneOf_23 rfl 0 rfl ?_
  refine gf_X3_20 C h_x dX3_paneOf_24 ?_
  refine z_iload_n C dX3_paneOf_27 rfl 1 rfl ?_
  refine z_aaldP (j := i) C h_pa h_ip h_ij h_fp dX3_paneOf_28 ?_
  exact ret dX3_paneOf_29 (⟨rfl, rfl⟩) (by decide) (by decide)
set_option maxRecDepth 20000 in
theorem c_X3_paneOf_bad (l : Launch) (G : zG) (h_st : l.stackTraces = false) {M : zM} {x : Nat} {pane : Int32} {lr : Nat} {pa : Nat} {sp : Nat} {ln : Nat} {rf : Nat} {ac : Int32} {kn : Int32} {fp : Nat → Option Nat}  (h_x : M x = some (cMp lr pa sp ln rf ac kn)) (h_pa : M pa = some (aP G 6 fp)) (h_ip : ¬ vp_in pane 6) : z_Xr l G qX3_paneOf (z_rm 7 1 6) [.ref x, .int pane] M (fun r M' => False) (fun E M' => ((pane < 0) ∧ E = "java/lang/IndexOutOfBoundsException" ∧ M' = M) ∨ ((¬ pane < 0) ∧ E = "java/lang/IndexOutOfBoundsException" ∧ M' = M)) := by
  refine z_Xr_of _ _ h_st rfl rfl (by first | exact Or.inl ⟨_, rfl⟩ | exact Or.inr ⟨_, rfl⟩) (Nat.le_of_ble_eq_true rfl) (fun X hl hG C ret thr prp => ?_)
  subst hl; subst hG
  have C : z_C X cX3_paneOf RX3 2 (z_rm 7 1 6) := C
  show z_W X M 0 0 0 [(0, .ref x), (1, .int pane)] []
  refine z_iload_n C dX3_paneOf_0 rfl 1 rfl ?_
  refine z_if_lt C (tgt := 13) dX3_paneOf_1 (by decide) (fun c1 => ?_) (fun c1 => ?_)
  · exact thr "java/lang/IndexOutOfBoundsException" "no such pane" z_nm 142 218 146 (by decide +kernel) (by decide +kernel) kw703 kw14 rfl (by decide +kernel) (ht_I C) hg_I dX3_paneOf_13 dX3_paneOf_16 dX3_paneOf_17 dX3_paneOf_19 dX3_paneOf_22 (by decide) (Nat.le_of_ble_eq_true rfl) (by decide) (by decide) (Or.inl ⟨c1, rfl, rfl⟩)
  · refine z_iload_n C dX3_paneOf_4 rfl 1 rfl ?_
    refine z_aload_n C dX3_paneOf_5 rfl 0 rfl ?_
    refine gf_X3_20 C h_x dX3_paneOf_6 ?_
    refine z_alenP C (v := Int32.ofNat 6) h_pa rfl dX3_paneOf_9 ?_
    refine z_icmp_lt C (tgt := 23) dX3_paneOf_10 (by decide) (fun c10 => absurd c10 (z_nIf h_ip c1)) (fun _ => ?_)
    exact thr "java/lang/IndexOutOfBoundsException" "no such pane" z_nm 142 218 146 (by decide +kernel) (by decide +kernel) kw703 kw14 rfl (by decide +kernel) (ht_I C) hg_I dX3_paneOf_13 dX3_paneOf_16 dX3_paneOf_17 dX3_paneOf_19 dX3_paneOf_22 (by decide) (Nat.le_of_ble_eq_true rfl) (by decide) (by decide) (Or.inr (⟨c1, rfl, rfl⟩))
set_option maxRecDepth 20000 in
theorem c_X3_needWithin (l : Launch) (G : zG) (h_st : l.stackTraces = false) {M : zM} {v : Int32} {a : Int32} {b : Int32}    : z_Xv l G qX3_needWithin (z_rm 7 1 6) [.int v, .int a, .int b] M (fun M' => (¬ (z_is v a b) = 0) ∧ M' = M) (fun E M' => ((z_is v a b) = 0) ∧ E = "java/lang/IllegalArgumentException" ∧ M' = M) := by
  refine z_Xv_of _ _ h_st rfl rfl (Nat.le_of_ble_eq_true rfl) (fun X hl hG C ret thr prp => ?_)
  subst hl; subst hG
  have C : z_C X cX3_needWithin RX3 3 (z_rm 7 1 6) := C
  show z_W X M 0 0 0 [(0, .int v), (1, .int a), (2, .int b)] []
  refine z_iload_n C dX3_needWithin_0 rfl 0 rfl ?_
  refine z_iload_n C dX3_needWithin_1 rfl 1 rfl ?_
  refine z_iload_n C dX3_needWithin_2 rfl 2 rfl ?_
  refine z_callSi (rest := []) (k' := 0) (n' := 0) C (c_X3_isWithin (z_l X) (z_G X) ) (cs_X3_82 C (by decide)) rfl rfl (Nat.le_of_ble_eq_true rfl) rfl rfl (by decide) (by decide) dX3_needWithin_3 (fun x3 M' hq => ?_)
  obtain ⟨rfl, rfl⟩ := hq
  refine z_if_ne C (tgt := 19) dX3_needWithin_6 (by decide) (fun c6 => ?_) (fun c6 => ?_)
  · exact ret dX3_needWithin_19 (⟨c6, rfl⟩) (by decide) (by decide)
  · exact thr "java/lang/IllegalArgumentException" "a number is out of its bounds" z_nm 220 222 224 (by decide +kernel) (by decide +kernel) kw722 kw15 rfl (by decide +kernel) (ht_A C) hg_A dX3_needWithin_9 dX3_needWithin_12 dX3_needWithin_13 dX3_needWithin_15 dX3_needWithin_18 (by decide) (Nat.le_of_ble_eq_true rfl) (by decide) (by decide) (⟨c6, rfl, rfl⟩)
set_option maxRecDepth 20000 in
theorem c_X3_needValue (l : Launch) (G : zG) (h_st : l.stackTraces = false) {M : zM} {v : Int32}    : z_Xv l G qX3_needValue (z_rm 7 1 6) [.int v] M (fun M' => (0 ≤ v) ∧ M' = M) (fun E M' => (¬ 0 ≤ v) ∧ E = "java/lang/IllegalArgumentException" ∧ M' = M) := by
  refine z_Xv_of _ _ h_st rfl rfl (Nat.le_of_ble_eq_true rfl) (fun X hl hG C ret thr prp => ?_)
  subst hl; subst hG
  have C : z_C X cX3_needValue RX3 1 (z_rm 7 1 6) := C
  show z_W X M 0 0 0 [(0, .int v)] []
  refine z_iload_n C dX3_needValue_0 rfl 0 rfl ?_
  refine z_if_ge C (tgt := 14) dX3_needValue_1 (by decide) (fun c1 => ?_) (fun c1 => ?_)
  · exact ret dX3_needValue_14 (⟨c1, rfl⟩) (by decide) (by decide)
  · exact thr "java/lang/IllegalArgumentException" "a value is below 0" z_nm 220 225 224 (by decide +kernel) (by decide +kernel) kw722 kw15 rfl (by decide +kernel) (ht_A C) hg_A dX3_needValue_4 dX3_needValue_7 dX3_needValue_8 dX3_needValue_10 dX3_needValue_13 (by decide) (Nat.le_of_ble_eq_true rfl) (by decide) (by decide) (⟨c1, rfl, rfl⟩)
end
