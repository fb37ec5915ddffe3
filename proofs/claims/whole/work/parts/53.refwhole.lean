/-! PART 53: the reference's whole pane and total -/
theorem j_J_fit {l : Launch} {G : zG} {Mw : zM} {sb vb c n v : Nat} {wl : List Int32} (hB : j_B G Mw sb vb c n) (hv : v < 35000000000) (hwl : j_dgs (j_dgl v) v = wl) (h0 : c + j_dgl v ≤ n) : z_Mr l G qJ4_append_f7089 (z_rm 3 0 0) [.ref sb, .long (lN v)] Mw (j_P G Mw sb vb c (j_dgl v) n wl) := by
  subst hwl
  have hne := j_B_ne hB
  obtain ⟨ml, f, h1, h2, hf, g1, g2, g3⟩ := hB
  refine z_Mr_mono (c_apJ_fit l G h1 h2 hv h0 (by omega) hf) ?_
  rintro r Mz ⟨f9, r9, hf9, hdg, hr9, rfl⟩
  exact ⟨hr9, vb, j_and3 (j_of2 hne.symm (Or.inl rfl) hf9 h0 g2 g3) (j_L_app h2 ((z_up_n _ _ hne.symm).trans (z_up_s _ _ _)) (j_dgs_len _ _) (fun k hk => hdg.1 k (Or.inl hk)) (j_dgs_get hdg))⟩
theorem t_whole_r {u : sS} {i sq cq : Nat} {ft : Nat → Int32} (hft : ∀ r, r < s_nr u → ∀ j, j < s_ln u r → ft (s_ba (s_ln u) r + j) = s_vl u r j) (hrw : p_ro (s_pn u i) < s_nr u) (hsa : p_sa (s_pn u i) = nI sq) (hcp : p_cp (s_pn u i) = nI cq) (h16 : cq ≤ 16) (hsc : sq + cq ≤ s_ln u (p_ro (s_pn u i))) (hb : sq + cq < 100000) : t_w2 (s_pn u i) (fun j => (ft (s_ba (s_ln u) (p_ro (s_pn u i)) + sq + j)).toNatClampNeg) cq (cq + 1) = t_whole u i := by
  rw [t_w2_hi (Nat.lt_succ_self _), ← t_whole_eq hcp h16, hcp, t_wh_congr cq (fun j hj => t_gr hft hrw hsa hsc hj hb)]
theorem t_total_r {u : sS} {i sq cq pq lq S : Nat} {ft : Nat → Int32} (hft : ∀ r, r < s_nr u → ∀ j, j < s_ln u r → ft (s_ba (s_ln u) r + j) = s_vl u r j) (hrw : p_ro (s_pn u i) < s_nr u) (hsa : p_sa (s_pn u i) = nI sq) (hpo : p_po (s_pn u i) = nI pq) (hli : p_li (s_pn u i) = nI lq) (g1 : pq ≤ lq) (g2 : lq ≤ cq) (h16 : cq ≤ 16) (hsc : sq + cq ≤ s_ln u (p_ro (s_pn u i))) (hb : sq + cq < 100000) (hS : S = t_su (fun j => (ft (s_ba (s_ln u) (p_ro (s_pn u i)) + sq + j)).toNatClampNeg) pq (lq - pq)) : [] ++ [] ++ t_nm S = t_total u i := by
  rw [List.nil_append, List.nil_append]
  exact t_total_eq hpo hli g1 (by omega) (hS.trans (t_su_congr _ fun j h1 h2 => t_gr hft hrw hsa hsc (by omega) hb))
theorem dX5_whole_0 : decode cX5_whole 0 = .ok (.aload_n 0, 1) := by decide +kernel
theorem dX5_whole_1 : decode cX5_whole 1 = .ok (.iload_n 1, 1) := by decide +kernel
theorem dX5_whole_2 : decode cX5_whole 2 = .ok (.invokestatic 55, 3) := by decide +kernel
theorem dX5_whole_5 : decode cX5_whole 5 = .ok (.iconst 1, 1) := by decide +kernel
theorem dX5_whole_6 : decode cX5_whole 6 = .ok (.invokevirtual 59, 3) := by decide +kernel
theorem dX5_whole_9 : decode cX5_whole 9 = .ok (.ifCond .ne 6, 3) := by decide +kernel
theorem dX5_whole_12 : decode cX5_whole 12 = .ok (.ldc 104, 2) := by decide +kernel
theorem dX5_whole_14 : decode cX5_whole 14 = .ok (.areturn, 1) := by decide +kernel
theorem dX5_whole_15 : decode cX5_whole 15 = .ok (.aload_n 0, 1) := by decide +kernel
theorem dX5_whole_16 : decode cX5_whole 16 = .ok (.getfield 18, 3) := by decide +kernel
theorem dX5_whole_19 : decode cX5_whole 19 = .ok (.iload_n 1, 1) := by decide +kernel
theorem dX5_whole_20 : decode cX5_whole 20 = .ok (.aaload, 1) := by decide +kernel
theorem dX5_whole_21 : decode cX5_whole 21 = .ok (.astore_n 2, 1) := by decide +kernel
theorem dX5_whole_22 : decode cX5_whole 22 = .ok (.new 106, 3) := by decide +kernel
theorem dX5_whole_25 : decode cX5_whole 25 = .ok (.dup, 1) := by decide +kernel
theorem dX5_whole_26 : decode cX5_whole 26 = .ok (.invokespecial 108, 3) := by decide +kernel
theorem dX5_whole_29 : decode cX5_whole 29 = .ok (.astore_n 3, 1) := by decide +kernel
theorem dX5_whole_30 : decode cX5_whole 30 = .ok (.iconst 0, 1) := by decide +kernel
theorem dX5_whole_31 : decode cX5_whole 31 = .ok (.istore 4, 2) := by decide +kernel
theorem dX5_whole_33 : decode cX5_whole 33 = .ok (.iload 4, 2) := by decide +kernel
theorem dX5_whole_35 : decode cX5_whole 35 = .ok (.aload_n 2, 1) := by decide +kernel
theorem dX5_whole_36 : decode cX5_whole 36 = .ok (.iconst 3, 1) := by decide +kernel
theorem dX5_whole_37 : decode cX5_whole 37 = .ok (.iaload, 1) := by decide +kernel
theorem dX5_whole_38 : decode cX5_whole 38 = .ok (.if_icmp .gt 85, 3) := by decide +kernel
theorem dX5_whole_41 : decode cX5_whole 41 = .ok (.aload_n 2, 1) := by decide +kernel
theorem dX5_whole_42 : decode cX5_whole 42 = .ok (.bipush 6, 2) := by decide +kernel
theorem dX5_whole_44 : decode cX5_whole 44 = .ok (.iaload, 1) := by decide +kernel
theorem dX5_whole_45 : decode cX5_whole 45 = .ok (.iload 4, 2) := by decide +kernel
theorem dX5_whole_47 : decode cX5_whole 47 = .ok (.if_icmp .ne 10, 3) := by decide +kernel
theorem dX5_whole_50 : decode cX5_whole 50 = .ok (.aload_n 3, 1) := by decide +kernel
theorem dX5_whole_51 : decode cX5_whole 51 = .ok (.ldc 129, 2) := by decide +kernel
theorem dX5_whole_53 : decode cX5_whole 53 = .ok (.invokevirtual 109, 3) := by decide +kernel
theorem dX5_whole_56 : decode cX5_whole 56 = .ok (.pop, 1) := by decide +kernel
theorem dX5_whole_57 : decode cX5_whole 57 = .ok (.aload_n 2, 1) := by decide +kernel
theorem dX5_whole_58 : decode cX5_whole 58 = .ok (.iconst 4, 1) := by decide +kernel
theorem dX5_whole_59 : decode cX5_whole 59 = .ok (.iaload, 1) := by decide +kernel
theorem dX5_whole_60 : decode cX5_whole 60 = .ok (.iload 4, 2) := by decide +kernel
theorem dX5_whole_62 : decode cX5_whole 62 = .ok (.if_icmp .ne 10, 3) := by decide +kernel
theorem dX5_whole_65 : decode cX5_whole 65 = .ok (.aload_n 3, 1) := by decide +kernel
theorem dX5_whole_66 : decode cX5_whole 66 = .ok (.ldc 131, 2) := by decide +kernel
theorem dX5_whole_68 : decode cX5_whole 68 = .ok (.invokevirtual 109, 3) := by decide +kernel
theorem dX5_whole_71 : decode cX5_whole 71 = .ok (.pop, 1) := by decide +kernel
theorem dX5_whole_72 : decode cX5_whole 72 = .ok (.aload_n 2, 1) := by decide +kernel
theorem dX5_whole_73 : decode cX5_whole 73 = .ok (.iconst 5, 1) := by decide +kernel
theorem dX5_whole_74 : decode cX5_whole 74 = .ok (.iaload, 1) := by decide +kernel
theorem dX5_whole_75 : decode cX5_whole 75 = .ok (.iload 4, 2) := by decide +kernel
theorem dX5_whole_77 : decode cX5_whole 77 = .ok (.if_icmp .ne 10, 3) := by decide +kernel
theorem dX5_whole_80 : decode cX5_whole 80 = .ok (.aload_n 3, 1) := by decide +kernel
theorem dX5_whole_81 : decode cX5_whole 81 = .ok (.ldc 133, 2) := by decide +kernel
theorem dX5_whole_83 : decode cX5_whole 83 = .ok (.invokevirtual 109, 3) := by decide +kernel
theorem dX5_whole_86 : decode cX5_whole 86 = .ok (.pop, 1) := by decide +kernel
theorem dX5_whole_87 : decode cX5_whole 87 = .ok (.iload 4, 2) := by decide +kernel
theorem dX5_whole_89 : decode cX5_whole 89 = .ok (.aload_n 2, 1) := by decide +kernel
theorem dX5_whole_90 : decode cX5_whole 90 = .ok (.iconst 3, 1) := by decide +kernel
theorem dX5_whole_91 : decode cX5_whole 91 = .ok (.iaload, 1) := by decide +kernel
theorem dX5_whole_92 : decode cX5_whole 92 = .ok (.if_icmp .ge 25, 3) := by decide +kernel
theorem dX5_whole_95 : decode cX5_whole 95 = .ok (.aload_n 3, 1) := by decide +kernel
theorem dX5_whole_96 : decode cX5_whole 96 = .ok (.aload_n 0, 1) := by decide +kernel
theorem dX5_whole_97 : decode cX5_whole 97 = .ok (.getfield 9, 3) := by decide +kernel
theorem dX5_whole_100 : decode cX5_whole 100 = .ok (.aload_n 0, 1) := by decide +kernel
theorem dX5_whole_101 : decode cX5_whole 101 = .ok (.aload_n 2, 1) := by decide +kernel
theorem dX5_whole_102 : decode cX5_whole 102 = .ok (.iload 4, 2) := by decide +kernel
theorem dX5_whole_104 : decode cX5_whole 104 = .ok (.invokevirtual 51, 3) := by decide +kernel
theorem dX5_whole_107 : decode cX5_whole 107 = .ok (.iaload, 1) := by decide +kernel
theorem dX5_whole_108 : decode cX5_whole 108 = .ok (.invokevirtual 122, 3) := by decide +kernel
theorem dX5_whole_111 : decode cX5_whole 111 = .ok (.ldc 120, 2) := by decide +kernel
theorem dX5_whole_113 : decode cX5_whole 113 = .ok (.invokevirtual 109, 3) := by decide +kernel
theorem dX5_whole_116 : decode cX5_whole 116 = .ok (.pop, 1) := by decide +kernel
theorem dX5_whole_117 : decode cX5_whole 117 = .ok (.iinc 4 1, 3) := by decide +kernel
theorem dX5_whole_120 : decode cX5_whole 120 = .ok (.goto (-87), 3) := by decide +kernel
theorem dX5_whole_123 : decode cX5_whole 123 = .ok (.aload_n 3, 1) := by decide +kernel
theorem dX5_whole_124 : decode cX5_whole 124 = .ok (.invokevirtual 116, 3) := by decide +kernel
theorem dX5_whole_127 : decode cX5_whole 127 = .ok (.areturn, 1) := by decide +kernel
theorem dX5_total_0 : decode cX5_total 0 = .ok (.aload_n 0, 1) := by decide +kernel
theorem dX5_total_1 : decode cX5_total 1 = .ok (.iload_n 1, 1) := by decide +kernel
theorem dX5_total_2 : decode cX5_total 2 = .ok (.invokestatic 55, 3) := by decide +kernel
theorem dX5_total_5 : decode cX5_total 5 = .ok (.iconst 1, 1) := by decide +kernel
theorem dX5_total_6 : decode cX5_total 6 = .ok (.invokevirtual 59, 3) := by decide +kernel
theorem dX5_total_9 : decode cX5_total 9 = .ok (.ifCond .ne 6, 3) := by decide +kernel
theorem dX5_total_12 : decode cX5_total 12 = .ok (.ldc 104, 2) := by decide +kernel
theorem dX5_total_14 : decode cX5_total 14 = .ok (.areturn, 1) := by decide +kernel
theorem dX5_total_15 : decode cX5_total 15 = .ok (.lconst 0, 1) := by decide +kernel
theorem dX5_total_16 : decode cX5_total 16 = .ok (.lstore_n 2, 1) := by decide +kernel
theorem dX5_total_17 : decode cX5_total 17 = .ok (.aload_n 0, 1) := by decide +kernel
theorem dX5_total_18 : decode cX5_total 18 = .ok (.getfield 18, 3) := by decide +kernel
theorem dX5_total_21 : decode cX5_total 21 = .ok (.iload_n 1, 1) := by decide +kernel
theorem dX5_total_22 : decode cX5_total 22 = .ok (.aaload, 1) := by decide +kernel
theorem dX5_total_23 : decode cX5_total 23 = .ok (.iconst 4, 1) := by decide +kernel
theorem dX5_total_24 : decode cX5_total 24 = .ok (.iaload, 1) := by decide +kernel
theorem dX5_total_25 : decode cX5_total 25 = .ok (.istore 4, 2) := by decide +kernel
theorem dX5_total_27 : decode cX5_total 27 = .ok (.iload 4, 2) := by decide +kernel
theorem dX5_total_29 : decode cX5_total 29 = .ok (.aload_n 0, 1) := by decide +kernel
theorem dX5_total_30 : decode cX5_total 30 = .ok (.getfield 18, 3) := by decide +kernel
theorem dX5_total_33 : decode cX5_total 33 = .ok (.iload_n 1, 1) := by decide +kernel
theorem dX5_total_34 : decode cX5_total 34 = .ok (.aaload, 1) := by decide +kernel
theorem dX5_total_35 : decode cX5_total 35 = .ok (.iconst 5, 1) := by decide +kernel
theorem dX5_total_36 : decode cX5_total 36 = .ok (.iaload, 1) := by decide +kernel
theorem dX5_total_37 : decode cX5_total 37 = .ok (.if_icmp .ge 30, 3) := by decide +kernel
theorem dX5_total_40 : decode cX5_total 40 = .ok (.lload_n 2, 1) := by decide +kernel
theorem dX5_total_41 : decode cX5_total 41 = .ok (.aload_n 0, 1) := by decide +kernel
theorem dX5_total_42 : decode cX5_total 42 = .ok (.getfield 9, 3) := by decide +kernel
theorem dX5_total_45 : decode cX5_total 45 = .ok (.aload_n 0, 1) := by decide +kernel
theorem dX5_total_46 : decode cX5_total 46 = .ok (.aload_n 0, 1) := by decide +kernel
theorem dX5_total_47 : decode cX5_total 47 = .ok (.getfield 18, 3) := by decide +kernel
theorem dX5_total_50 : decode cX5_total 50 = .ok (.iload_n 1, 1) := by decide +kernel
theorem dX5_total_51 : decode cX5_total 51 = .ok (.aaload, 1) := by decide +kernel
theorem dX5_total_52 : decode cX5_total 52 = .ok (.iload 4, 2) := by decide +kernel
theorem dX5_total_54 : decode cX5_total 54 = .ok (.invokevirtual 51, 3) := by decide +kernel
theorem dX5_total_57 : decode cX5_total 57 = .ok (.iaload, 1) := by decide +kernel
theorem dX5_total_58 : decode cX5_total 58 = .ok (.i2l, 1) := by decide +kernel
theorem dX5_total_59 : decode cX5_total 59 = .ok (.ladd, 1) := by decide +kernel
theorem dX5_total_60 : decode cX5_total 60 = .ok (.lstore_n 2, 1) := by decide +kernel
theorem dX5_total_61 : decode cX5_total 61 = .ok (.iinc 4 1, 3) := by decide +kernel
theorem dX5_total_64 : decode cX5_total 64 = .ok (.goto (-37), 3) := by decide +kernel
theorem dX5_total_67 : decode cX5_total 67 = .ok (.new 106, 3) := by decide +kernel
theorem dX5_total_70 : decode cX5_total 70 = .ok (.dup, 1) := by decide +kernel
theorem dX5_total_71 : decode cX5_total 71 = .ok (.invokespecial 108, 3) := by decide +kernel
theorem dX5_total_74 : decode cX5_total 74 = .ok (.ldc 104, 2) := by decide +kernel
theorem dX5_total_76 : decode cX5_total 76 = .ok (.invokevirtual 109, 3) := by decide +kernel
theorem dX5_total_79 : decode cX5_total 79 = .ok (.lload_n 2, 1) := by decide +kernel
theorem dX5_total_80 : decode cX5_total 80 = .ok (.invokevirtual 113, 3) := by decide +kernel
theorem dX5_total_83 : decode cX5_total 83 = .ok (.invokevirtual 116, 3) := by decide +kernel
theorem dX5_total_86 : decode cX5_total 86 = .ok (.areturn, 1) := by decide +kernel
set_option maxRecDepth 20000 in
theorem lp_X5_whole {X : zX} (C : z_C X cX5_whole RX5 5 (z_rm 11 40 1500)) {u : sS} {m : Nat} {th : Int32} {K : Nat → Nat} {tp pn td : Nat} {R0 : zM} (hR0 : RI (z_G X) u m th K tp pn td R0) {t : Nat} (hok : s_ok t u) (ht : t ≤ 64) {i : Nat} (hi : i < 6) {ft0 : Nat → Int32} (htp0 : R0 tp = some (aI (z_G X) (s_ba (s_ln u) (s_nr u)) ft0)) (hft0 : ∀ r, r < s_nr u → ∀ j, j < s_ln u r → ft0 (s_ba (s_ln u) r + j) = s_vl u r j) {sq cq : Nat} (hsa : p_sa (s_pn u i) = nI sq) (hcp : p_cp (s_pn u i) = nI cq) (h16 : cq ≤ 16) (hsc : sq + cq ≤ s_ln u (p_ro (s_pn u i))) (hrw : p_ro (s_pn u i) < s_nr u) (hnt : s_ba (s_ln u) (s_nr u) < 90000) (hbl : s_ba (s_ln u) (p_ro (s_pn u i)) + s_ln u (p_ro (s_pn u i)) ≤ s_ba (s_ln u) (s_nr u)) {sb : Nat} (kk : ∀ c n vb Mz, c ≤ 240 → 16 ≤ n → j_K R0 Mz sb vb → j_B (z_G X) Mz sb vb c n → j_L Mz vb c (t_w2 (s_pn u i) (fun j => (ft0 (s_ba (s_ln u) (p_ro (s_pn u i)) + sq + j)).toNatClampNeg) cq (cq + 1)) → z_W X Mz (2 + (n - 16) / 16) (20 + 2 * (n - 16)) 123 [(3, .ref sb)] []) : ∀ (d jx c n vb : Nat) (Mw : zM), jx + d = cq + 1 → c ≤ 14 * jx → j_K R0 Mw sb vb → j_B (z_G X) Mw sb vb c n → 16 ≤ n → j_L Mw vb c (t_w2 (s_pn u i) (fun j => (ft0 (s_ba (s_ln u) (p_ro (s_pn u i)) + sq + j)).toNatClampNeg) cq jx) → z_W X Mw (2 + (n - 16) / 16) (20 + 2 * (n - 16)) 33 [(4, .int (nI jx)), (0, .ref m), (2, .ref (K i)), (3, .ref sb)] [] := by
  intro d
  induction d with
  | zero =>
    intro jx c n vb Mw hd hc9 hK hB hn0 hL
    have hb0 := j_B_c hB
    refine z_iload C dX5_whole_33 0 rfl ?_
    refine z_aload_n C dX5_whole_35 rfl 2 rfl ?_
    refine z_iconst C (v := 3) dX5_whole_36 (by decide) ?_
    refine z_pl3 C (RI_K (RI_mono hR0 (hK).2.2) hi) dX5_whole_37 ?_
    refine z_icmp_gt C (tgt := 123) dX5_whole_38 (by decide) (fun _ => ?_) (fun c38 => absurd (by rw [hcp]; exact nI_lt (by omega) (by omega)) c38)
    refine z_fewer [3] rfl ?_
    exact kk _ _ _ _ (by omega) (by omega) hK hB (by rw [show cq + 1 = jx by omega]; exact hL)
  | succ d ih =>
    intro jx c n vb Mw hd hc9 hK hB hn0 hL
    have hb0 := j_B_c hB
    rw [t_w2_lo (by omega)] at hL
    refine z_iload C dX5_whole_33 0 rfl ?_
    refine z_aload_n C dX5_whole_35 rfl 2 rfl ?_
    refine z_iconst C (v := 3) dX5_whole_36 (by decide) ?_
    refine z_pl3 C (RI_K (RI_mono hR0 (hK).2.2) hi) dX5_whole_37 ?_
    refine z_icmp_gt C (tgt := 123) dX5_whole_38 (by decide) (fun c38 => absurd c38 (by rw [hcp]; exact nI_nlt (by omega) (by omega))) (fun _ => ?_)
    refine z_aload_n C dX5_whole_41 rfl 2 rfl ?_
    refine z_bipush C (v := 6) dX5_whole_42 (by decide) ?_
    refine z_pl6 C (RI_K (RI_mono hR0 (hK).2.2) hi) dX5_whole_44 ?_
    refine z_iload C dX5_whole_45 0 rfl ?_
    refine z_icmp_ne C (tgt := 57) dX5_whole_47 (by decide) (fun c47 => ?_) (fun c47 => ?_)
    · refine z_aload_n C dX5_whole_57 rfl 2 rfl ?_
      refine z_iconst C (v := 4) dX5_whole_58 (by decide) ?_
      refine z_pl4 C (RI_K (RI_mono hR0 (hK).2.2) hi) dX5_whole_59 ?_
      refine z_iload C dX5_whole_60 0 rfl ?_
      refine z_icmp_ne C (tgt := 72) dX5_whole_62 (by decide) (fun c62 => ?_) (fun c62 => ?_)
      · refine z_aload_n C dX5_whole_72 rfl 2 rfl ?_
        refine z_iconst C (v := 5) dX5_whole_73 (by decide) ?_
        refine z_pl5 C (RI_K (RI_mono hR0 (hK).2.2) hi) dX5_whole_74 ?_
        refine z_iload C dX5_whole_75 0 rfl ?_
        refine z_icmp_ne C (tgt := 87) dX5_whole_77 (by decide) (fun c77 => ?_) (fun c77 => ?_)
        · refine z_iload C dX5_whole_87 0 rfl ?_
          refine z_aload_n C dX5_whole_89 rfl 2 rfl ?_
          refine z_iconst C (v := 3) dX5_whole_90 (by decide) ?_
          refine z_pl3 C (RI_K (RI_mono hR0 (hK).2.2) hi) dX5_whole_91 ?_
          refine z_icmp_ge C (tgt := 117) dX5_whole_92 (by decide) (fun c92 => ?_) (fun c92 => ?_)
          · refine z_iinc (v := nI (jx + 1)) (lv' := [(4, .int (nI (jx + 1))), (0, .ref m), (2, .ref (K i)), (3, .ref sb)]) C dX5_whole_117 0 rfl (nI_1 jx) (by decide) rfl ?_
            refine z_goto C (tgt := 33) dX5_whole_120 (by decide) ?_
            refine z_fewer [0, 1, 2, 3] rfl ?_
            have hje : jx = cq := by
              rw [hcp] at c92
              have h92 := (t_leN (by omega) (by omega)).mp c92
              omega
            exact ih (jx + 1) _ _ _ _ (by omega) (by omega) hK hB (by omega) (j_L_eq hL (by rw [t_w2_hi (by omega), ← hje]; simp [t_sg, c47, c62, c77]))
          · have hj9 : jx < cq := by
              rw [hcp] at c92
              exact Nat.lt_of_not_le (fun q => c92 (nI_le q (by omega)))
            refine z_aload_n C dX5_whole_95 rfl 3 rfl ?_
            refine z_aload_n C dX5_whole_96 rfl 1 rfl ?_
            refine gf_X5_9 C (RI_mono hR0 (hK).2.2).1 dX5_whole_97 ?_
            refine z_aload_n C dX5_whole_100 rfl 1 rfl ?_
            refine z_aload_n C dX5_whole_101 rfl 2 rfl ?_
            refine z_iload C dX5_whole_102 0 rfl ?_
            refine z_callVi (rest := [.ref tp, .ref sb]) (k' := 2 + (n - 16) / 16) (n' := 20 + 2 * (n - 16)) C (c_X5_where (z_l X) (z_G X) (RI_K (RI_mono hR0 (hK).2.2) hi)) (cs_X5_51 C ⟨Nat.le_of_ble_eq_true rfl, Nat.le_of_ble_eq_true rfl⟩) (RI_mono hR0 (hK).2.2).1 rfl rfl rfl rfl (Nat.le_of_ble_eq_true rfl) rfl rfl (by show _ ≤ 40; omega) (by show _ ≤ 1500; omega) dX5_whole_104 (fun x104 M' hq => ?_)
            obtain ⟨rfl, rfl⟩ := hq
            refine z_iald (j := ((s_ba (s_ln u) (p_ro (s_pn u i))) + sq + jx)) C ((hK).2.2 _ _ htp0) (by rw [j_wh _ sq jx hsa rfl]; exact nI_in (by omega) (by omega)) (by rw [j_wh _ sq jx hsa rfl]; exact nI_clamp (by omega)) dX5_whole_107 ?_
            have hw1 := sb_dg_in ((ft0 ((s_ba (s_ln u) (p_ro (s_pn u i))) + sq + jx)).toNatClampNeg)
            refine z_tope (y := nI ((ft0 ((s_ba (s_ln u) (p_ro (s_pn u i))) + sq + jx)).toNatClampNeg)) (z_cN (j_val hok ht hft0 hrw (by omega) (by omega)).2).1 ?_
            have hm1 := j_B_c hB
            have hl1 := j_cap_le (n := n) (q := c + (sb_dg ((ft0 ((s_ba (s_ln u) (p_ro (s_pn u i))) + sq + jx)).toNatClampNeg))) hm1.2.2 (by omega)
            refine j_site (q := qJ4_append_bf812) (c := c) (n := n) (w := (sb_dg ((ft0 ((s_ba (s_ln u) (p_ro (s_pn u i))) + sq + jx)).toNatClampNeg))) (F := 3) (k0 := 2) (s0 := 20) (n0 := 16) (rest := []) (wl := (t_nm ((ft0 ((s_ba (s_ln u) (p_ro (s_pn u i))) + sq + jx)).toNatClampNeg))) C hB hL rfl (fun h9 => cs_X5_122 C h9) ⟨Nat.le_of_ble_eq_true rfl, Nat.le_of_ble_eq_true rfl⟩ (Nat.le_of_ble_eq_true rfl) (Nat.le_of_ble_eq_true rfl) (fun h9 => j_I_fit hB (j_v31 _) (t_nm_i (j_v31 _)) h9) (fun h9 => j_I_grow hB (j_v31 _) (t_nm_i (j_v31 _)) (by omega) h9) rfl rfl (Nat.le_of_ble_eq_true rfl) (by omega) (by show _ ≤ 40; omega) (by show _ ≤ 1500; omega) dX5_whole_108 (fun vc1 Mc1 hB1 hF1 hL1 => ?_)
            have hK1 := j_K_fr hK hF1
            have hn1 := j_cap_ge (n) (c + (sb_dg ((ft0 ((s_ba (s_ln u) (p_ro (s_pn u i))) + sq + jx)).toNatClampNeg)))
            refine z_ldcK (i := 1) C (by decide) rfl dX5_whole_111 ?_
            have hw2 : z_kln 1 ≤ 1 := z_kln_in 1 (by decide)
            have hm2 := j_B_c hB1
            have hl2 := j_cap_le (n := (j_cap n (c + (sb_dg ((ft0 ((s_ba (s_ln u) (p_ro (s_pn u i))) + sq + jx)).toNatClampNeg))))) (q := (c + (sb_dg ((ft0 ((s_ba (s_ln u) (p_ro (s_pn u i))) + sq + jx)).toNatClampNeg))) + (z_kln 1)) hm2.2.2 (by omega)
            refine j_site (q := qJ4_append_15ec4) (c := (c + (sb_dg ((ft0 ((s_ba (s_ln u) (p_ro (s_pn u i))) + sq + jx)).toNatClampNeg)))) (n := (j_cap n (c + (sb_dg ((ft0 ((s_ba (s_ln u) (p_ro (s_pn u i))) + sq + jx)).toNatClampNeg))))) (w := (z_kln 1)) (F := 5) (k0 := 2) (s0 := 20) (n0 := 16) (rest := []) (wl := [32]) C hB1 hL1 rfl (fun h9 => cs_X5_109 C h9) ⟨Nat.le_of_ble_eq_true rfl, Nat.le_of_ble_eq_true rfl⟩ (Nat.le_of_ble_eq_true rfl) (Nat.le_of_ble_eq_true rfl) (fun h9 => j_S_fit hB1 (by decide) rfl h9) (fun h9 => j_S_grow hB1 (by decide) rfl (by omega) h9) rfl rfl (Nat.le_of_ble_eq_true rfl) (by omega) (by show _ ≤ 40; omega) (by show _ ≤ 1500; omega) dX5_whole_113 (fun vc2 Mc2 hB2 hF2 hL2 => ?_)
            have hK2 := j_K_fr hK1 hF2
            have hn2 := j_cap_ge ((j_cap n (c + (sb_dg ((ft0 ((s_ba (s_ln u) (p_ro (s_pn u i))) + sq + jx)).toNatClampNeg))))) ((c + (sb_dg ((ft0 ((s_ba (s_ln u) (p_ro (s_pn u i))) + sq + jx)).toNatClampNeg))) + (z_kln 1))
            refine z_pop C dX5_whole_116 rfl ?_
            refine z_iinc (v := nI (jx + 1)) (lv' := [(4, .int (nI (jx + 1))), (0, .ref m), (2, .ref (K i)), (3, .ref sb)]) C dX5_whole_117 0 rfl (nI_1 jx) (by decide) rfl ?_
            refine z_goto C (tgt := 33) dX5_whole_120 (by decide) ?_
            refine z_fewer [0, 1, 2, 3] rfl ?_
            have hje : jx + 1 ≤ cq := by omega
            exact ih (jx + 1) _ _ _ _ (by omega) (by omega) hK2 hB2 (by omega) (j_L_eq hL2 (by rw [t_w2_lo hje]; show _ = t_wh _ _ jx ++ (t_sg _ _ ++ (t_nm _ ++ [32])); simp [t_sg, c47, c62, c77]))
        · refine z_aload_n C dX5_whole_80 rfl 3 rfl ?_
          refine z_ldcK (i := 4) C (by decide) rfl dX5_whole_81 ?_
          have hw1 : z_kln 4 ≤ 1 := z_kln_in 4 (by decide)
          have hm1 := j_B_c hB
          have hl1 := j_cap_le (n := n) (q := c + (z_kln 4)) hm1.2.2 (by omega)
          refine j_site (q := qJ4_append_15ec4) (c := c) (n := n) (w := (z_kln 4)) (F := 5) (k0 := 2) (s0 := 20) (n0 := 16) (rest := []) (wl := [60]) C hB hL rfl (fun h9 => cs_X5_109 C h9) ⟨Nat.le_of_ble_eq_true rfl, Nat.le_of_ble_eq_true rfl⟩ (Nat.le_of_ble_eq_true rfl) (Nat.le_of_ble_eq_true rfl) (fun h9 => j_S_fit hB (by decide) rfl h9) (fun h9 => j_S_grow hB (by decide) rfl (by omega) h9) rfl rfl (Nat.le_of_ble_eq_true rfl) (by omega) (by show _ ≤ 40; omega) (by show _ ≤ 1500; omega) dX5_whole_83 (fun vc1 Mc1 hB1 hF1 hL1 => ?_)
          have hK1 := j_K_fr hK hF1
          have hn1 := j_cap_ge (n) (c + (z_kln 4))
          refine z_pop C dX5_whole_86 rfl ?_
          refine z_iload C dX5_whole_87 0 rfl ?_
          refine z_aload_n C dX5_whole_89 rfl 2 rfl ?_
          refine z_iconst C (v := 3) dX5_whole_90 (by decide) ?_
          refine z_pl3 C (RI_K (RI_mono hR0 (hK1).2.2) hi) dX5_whole_91 ?_
          refine z_icmp_ge C (tgt := 117) dX5_whole_92 (by decide) (fun c92 => ?_) (fun c92 => ?_)
          · refine z_iinc (v := nI (jx + 1)) (lv' := [(4, .int (nI (jx + 1))), (0, .ref m), (2, .ref (K i)), (3, .ref sb)]) C dX5_whole_117 0 rfl (nI_1 jx) (by decide) rfl ?_
            refine z_goto C (tgt := 33) dX5_whole_120 (by decide) ?_
            refine z_fewer [0, 1, 2, 3] rfl ?_
            have hje : jx = cq := by
              rw [hcp] at c92
              have h92 := (t_leN (by omega) (by omega)).mp c92
              omega
            exact ih (jx + 1) _ _ _ _ (by omega) (by omega) hK1 hB1 (by omega) (j_L_eq hL1 (by rw [t_w2_hi (by omega), ← hje]; simp [t_sg, c47, c62, c77]))
          · have hj9 : jx < cq := by
              rw [hcp] at c92
              exact Nat.lt_of_not_le (fun q => c92 (nI_le q (by omega)))
            refine z_aload_n C dX5_whole_95 rfl 3 rfl ?_
            refine z_aload_n C dX5_whole_96 rfl 1 rfl ?_
            refine gf_X5_9 C (RI_mono hR0 (hK1).2.2).1 dX5_whole_97 ?_
            refine z_aload_n C dX5_whole_100 rfl 1 rfl ?_
            refine z_aload_n C dX5_whole_101 rfl 2 rfl ?_
            refine z_iload C dX5_whole_102 0 rfl ?_
            refine z_callVi (rest := [.ref tp, .ref sb]) (k' := 2 + ((j_cap n (c + (z_kln 4))) - 16) / 16) (n' := 20 + 2 * ((j_cap n (c + (z_kln 4))) - 16)) C (c_X5_where (z_l X) (z_G X) (RI_K (RI_mono hR0 (hK1).2.2) hi)) (cs_X5_51 C ⟨Nat.le_of_ble_eq_true rfl, Nat.le_of_ble_eq_true rfl⟩) (RI_mono hR0 (hK1).2.2).1 rfl rfl rfl rfl (Nat.le_of_ble_eq_true rfl) rfl rfl (by show _ ≤ 40; omega) (by show _ ≤ 1500; omega) dX5_whole_104 (fun x104 M' hq => ?_)
            obtain ⟨rfl, rfl⟩ := hq
            refine z_iald (j := ((s_ba (s_ln u) (p_ro (s_pn u i))) + sq + jx)) C ((hK1).2.2 _ _ htp0) (by rw [j_wh _ sq jx hsa rfl]; exact nI_in (by omega) (by omega)) (by rw [j_wh _ sq jx hsa rfl]; exact nI_clamp (by omega)) dX5_whole_107 ?_
            have hw2 := sb_dg_in ((ft0 ((s_ba (s_ln u) (p_ro (s_pn u i))) + sq + jx)).toNatClampNeg)
            refine z_tope (y := nI ((ft0 ((s_ba (s_ln u) (p_ro (s_pn u i))) + sq + jx)).toNatClampNeg)) (z_cN (j_val hok ht hft0 hrw (by omega) (by omega)).2).1 ?_
            have hm2 := j_B_c hB1
            have hl2 := j_cap_le (n := (j_cap n (c + (z_kln 4)))) (q := (c + (z_kln 4)) + (sb_dg ((ft0 ((s_ba (s_ln u) (p_ro (s_pn u i))) + sq + jx)).toNatClampNeg))) hm2.2.2 (by omega)
            refine j_site (q := qJ4_append_bf812) (c := (c + (z_kln 4))) (n := (j_cap n (c + (z_kln 4)))) (w := (sb_dg ((ft0 ((s_ba (s_ln u) (p_ro (s_pn u i))) + sq + jx)).toNatClampNeg))) (F := 3) (k0 := 2) (s0 := 20) (n0 := 16) (rest := []) (wl := (t_nm ((ft0 ((s_ba (s_ln u) (p_ro (s_pn u i))) + sq + jx)).toNatClampNeg))) C hB1 hL1 rfl (fun h9 => cs_X5_122 C h9) ⟨Nat.le_of_ble_eq_true rfl, Nat.le_of_ble_eq_true rfl⟩ (Nat.le_of_ble_eq_true rfl) (Nat.le_of_ble_eq_true rfl) (fun h9 => j_I_fit hB1 (j_v31 _) (t_nm_i (j_v31 _)) h9) (fun h9 => j_I_grow hB1 (j_v31 _) (t_nm_i (j_v31 _)) (by omega) h9) rfl rfl (Nat.le_of_ble_eq_true rfl) (by omega) (by show _ ≤ 40; omega) (by show _ ≤ 1500; omega) dX5_whole_108 (fun vc2 Mc2 hB2 hF2 hL2 => ?_)
            have hK2 := j_K_fr hK1 hF2
            have hn2 := j_cap_ge ((j_cap n (c + (z_kln 4)))) ((c + (z_kln 4)) + (sb_dg ((ft0 ((s_ba (s_ln u) (p_ro (s_pn u i))) + sq + jx)).toNatClampNeg)))
            refine z_ldcK (i := 1) C (by decide) rfl dX5_whole_111 ?_
            have hw3 : z_kln 1 ≤ 1 := z_kln_in 1 (by decide)
            have hm3 := j_B_c hB2
            have hl3 := j_cap_le (n := (j_cap (j_cap n (c + (z_kln 4))) ((c + (z_kln 4)) + (sb_dg ((ft0 ((s_ba (s_ln u) (p_ro (s_pn u i))) + sq + jx)).toNatClampNeg))))) (q := ((c + (z_kln 4)) + (sb_dg ((ft0 ((s_ba (s_ln u) (p_ro (s_pn u i))) + sq + jx)).toNatClampNeg))) + (z_kln 1)) hm3.2.2 (by omega)
            refine j_site (q := qJ4_append_15ec4) (c := ((c + (z_kln 4)) + (sb_dg ((ft0 ((s_ba (s_ln u) (p_ro (s_pn u i))) + sq + jx)).toNatClampNeg)))) (n := (j_cap (j_cap n (c + (z_kln 4))) ((c + (z_kln 4)) + (sb_dg ((ft0 ((s_ba (s_ln u) (p_ro (s_pn u i))) + sq + jx)).toNatClampNeg))))) (w := (z_kln 1)) (F := 5) (k0 := 2) (s0 := 20) (n0 := 16) (rest := []) (wl := [32]) C hB2 hL2 rfl (fun h9 => cs_X5_109 C h9) ⟨Nat.le_of_ble_eq_true rfl, Nat.le_of_ble_eq_true rfl⟩ (Nat.le_of_ble_eq_true rfl) (Nat.le_of_ble_eq_true rfl) (fun h9 => j_S_fit hB2 (by decide) rfl h9) (fun h9 => j_S_grow hB2 (by decide) rfl (by omega) h9) rfl rfl (Nat.le_of_ble_eq_true rfl) (by omega) (by show _ ≤ 40; omega) (by show _ ≤ 1500; omega) dX5_whole_113 (fun vc3 Mc3 hB3 hF3 hL3 => ?_)
            have hK3 := j_K_fr hK2 hF3
            have hn3 := j_cap_ge ((j_cap (j_cap n (c + (z_kln 4))) ((c + (z_kln 4)) + (sb_dg ((ft0 ((s_ba (s_ln u) (p_ro (s_pn u i))) + sq + jx)).toNatClampNeg))))) (((c + (z_kln 4)) + (sb_dg ((ft0 ((s_ba (s_ln u) (p_ro (s_pn u i))) + sq + jx)).toNatClampNeg))) + (z_kln 1))
            refine z_pop C dX5_whole_116 rfl ?_
            refine z_iinc (v := nI (jx + 1)) (lv' := [(4, .int (nI (jx + 1))), (0, .ref m), (2, .ref (K i)), (3, .ref sb)]) C dX5_whole_117 0 rfl (nI_1 jx) (by decide) rfl ?_
            refine z_goto C (tgt := 33) dX5_whole_120 (by decide) ?_
            refine z_fewer [0, 1, 2, 3] rfl ?_
            have hje : jx + 1 ≤ cq := by omega
            exact ih (jx + 1) _ _ _ _ (by omega) (by omega) hK3 hB3 (by omega) (j_L_eq hL3 (by rw [t_w2_lo hje]; show _ = t_wh _ _ jx ++ (t_sg _ _ ++ (t_nm _ ++ [32])); simp [t_sg, c47, c62, c77]))
      · refine z_aload_n C dX5_whole_65 rfl 3 rfl ?_
        refine z_ldcK (i := 3) C (by decide) rfl dX5_whole_66 ?_
        have hw1 : z_kln 3 ≤ 1 := z_kln_in 3 (by decide)
        have hm1 := j_B_c hB
        have hl1 := j_cap_le (n := n) (q := c + (z_kln 3)) hm1.2.2 (by omega)
        refine j_site (q := qJ4_append_15ec4) (c := c) (n := n) (w := (z_kln 3)) (F := 5) (k0 := 2) (s0 := 20) (n0 := 16) (rest := []) (wl := [62]) C hB hL rfl (fun h9 => cs_X5_109 C h9) ⟨Nat.le_of_ble_eq_true rfl, Nat.le_of_ble_eq_true rfl⟩ (Nat.le_of_ble_eq_true rfl) (Nat.le_of_ble_eq_true rfl) (fun h9 => j_S_fit hB (by decide) rfl h9) (fun h9 => j_S_grow hB (by decide) rfl (by omega) h9) rfl rfl (Nat.le_of_ble_eq_true rfl) (by omega) (by show _ ≤ 40; omega) (by show _ ≤ 1500; omega) dX5_whole_68 (fun vc1 Mc1 hB1 hF1 hL1 => ?_)
        have hK1 := j_K_fr hK hF1
        have hn1 := j_cap_ge (n) (c + (z_kln 3))
        refine z_pop C dX5_whole_71 rfl ?_
        refine z_aload_n C dX5_whole_72 rfl 2 rfl ?_
        refine z_iconst C (v := 5) dX5_whole_73 (by decide) ?_
        refine z_pl5 C (RI_K (RI_mono hR0 (hK1).2.2) hi) dX5_whole_74 ?_
        refine z_iload C dX5_whole_75 0 rfl ?_
        refine z_icmp_ne C (tgt := 87) dX5_whole_77 (by decide) (fun c77 => ?_) (fun c77 => ?_)
        · refine z_iload C dX5_whole_87 0 rfl ?_
          refine z_aload_n C dX5_whole_89 rfl 2 rfl ?_
          refine z_iconst C (v := 3) dX5_whole_90 (by decide) ?_
          refine z_pl3 C (RI_K (RI_mono hR0 (hK1).2.2) hi) dX5_whole_91 ?_
          refine z_icmp_ge C (tgt := 117) dX5_whole_92 (by decide) (fun c92 => ?_) (fun c92 => ?_)
          · refine z_iinc (v := nI (jx + 1)) (lv' := [(4, .int (nI (jx + 1))), (0, .ref m), (2, .ref (K i)), (3, .ref sb)]) C dX5_whole_117 0 rfl (nI_1 jx) (by decide) rfl ?_
            refine z_goto C (tgt := 33) dX5_whole_120 (by decide) ?_
            refine z_fewer [0, 1, 2, 3] rfl ?_
            have hje : jx = cq := by
              rw [hcp] at c92
              have h92 := (t_leN (by omega) (by omega)).mp c92
              omega
            exact ih (jx + 1) _ _ _ _ (by omega) (by omega) hK1 hB1 (by omega) (j_L_eq hL1 (by rw [t_w2_hi (by omega), ← hje]; simp [t_sg, c47, c62, c77]))
          · have hj9 : jx < cq := by
              rw [hcp] at c92
              exact Nat.lt_of_not_le (fun q => c92 (nI_le q (by omega)))
            refine z_aload_n C dX5_whole_95 rfl 3 rfl ?_
            refine z_aload_n C dX5_whole_96 rfl 1 rfl ?_
            refine gf_X5_9 C (RI_mono hR0 (hK1).2.2).1 dX5_whole_97 ?_
            refine z_aload_n C dX5_whole_100 rfl 1 rfl ?_
            refine z_aload_n C dX5_whole_101 rfl 2 rfl ?_
            refine z_iload C dX5_whole_102 0 rfl ?_
            refine z_callVi (rest := [.ref tp, .ref sb]) (k' := 2 + ((j_cap n (c + (z_kln 3))) - 16) / 16) (n' := 20 + 2 * ((j_cap n (c + (z_kln 3))) - 16)) C (c_X5_where (z_l X) (z_G X) (RI_K (RI_mono hR0 (hK1).2.2) hi)) (cs_X5_51 C ⟨Nat.le_of_ble_eq_true rfl, Nat.le_of_ble_eq_true rfl⟩) (RI_mono hR0 (hK1).2.2).1 rfl rfl rfl rfl (Nat.le_of_ble_eq_true rfl) rfl rfl (by show _ ≤ 40; omega) (by show _ ≤ 1500; omega) dX5_whole_104 (fun x104 M' hq => ?_)
            obtain ⟨rfl, rfl⟩ := hq
            refine z_iald (j := ((s_ba (s_ln u) (p_ro (s_pn u i))) + sq + jx)) C ((hK1).2.2 _ _ htp0) (by rw [j_wh _ sq jx hsa rfl]; exact nI_in (by omega) (by omega)) (by rw [j_wh _ sq jx hsa rfl]; exact nI_clamp (by omega)) dX5_whole_107 ?_
            have hw2 := sb_dg_in ((ft0 ((s_ba (s_ln u) (p_ro (s_pn u i))) + sq + jx)).toNatClampNeg)
            refine z_tope (y := nI ((ft0 ((s_ba (s_ln u) (p_ro (s_pn u i))) + sq + jx)).toNatClampNeg)) (z_cN (j_val hok ht hft0 hrw (by omega) (by omega)).2).1 ?_
            have hm2 := j_B_c hB1
            have hl2 := j_cap_le (n := (j_cap n (c + (z_kln 3)))) (q := (c + (z_kln 3)) + (sb_dg ((ft0 ((s_ba (s_ln u) (p_ro (s_pn u i))) + sq + jx)).toNatClampNeg))) hm2.2.2 (by omega)
            refine j_site (q := qJ4_append_bf812) (c := (c + (z_kln 3))) (n := (j_cap n (c + (z_kln 3)))) (w := (sb_dg ((ft0 ((s_ba (s_ln u) (p_ro (s_pn u i))) + sq + jx)).toNatClampNeg))) (F := 3) (k0 := 2) (s0 := 20) (n0 := 16) (rest := []) (wl := (t_nm ((ft0 ((s_ba (s_ln u) (p_ro (s_pn u i))) + sq + jx)).toNatClampNeg))) C hB1 hL1 rfl (fun h9 => cs_X5_122 C h9) ⟨Nat.le_of_ble_eq_true rfl, Nat.le_of_ble_eq_true rfl⟩ (Nat.le_of_ble_eq_true rfl) (Nat.le_of_ble_eq_true rfl) (fun h9 => j_I_fit hB1 (j_v31 _) (t_nm_i (j_v31 _)) h9) (fun h9 => j_I_grow hB1 (j_v31 _) (t_nm_i (j_v31 _)) (by omega) h9) rfl rfl (Nat.le_of_ble_eq_true rfl) (by omega) (by show _ ≤ 40; omega) (by show _ ≤ 1500; omega) dX5_whole_108 (fun vc2 Mc2 hB2 hF2 hL2 => ?_)
            have hK2 := j_K_fr hK1 hF2
            have hn2 := j_cap_ge ((j_cap n (c + (z_kln 3)))) ((c + (z_kln 3)) + (sb_dg ((ft0 ((s_ba (s_ln u) (p_ro (s_pn u i))) + sq + jx)).toNatClampNeg)))
            refine z_ldcK (i := 1) C (by decide) rfl dX5_whole_111 ?_
            have hw3 : z_kln 1 ≤ 1 := z_kln_in 1 (by decide)
            have hm3 := j_B_c hB2
            have hl3 := j_cap_le (n := (j_cap (j_cap n (c + (z_kln 3))) ((c + (z_kln 3)) + (sb_dg ((ft0 ((s_ba (s_ln u) (p_ro (s_pn u i))) + sq + jx)).toNatClampNeg))))) (q := ((c + (z_kln 3)) + (sb_dg ((ft0 ((s_ba (s_ln u) (p_ro (s_pn u i))) + sq + jx)).toNatClampNeg))) + (z_kln 1)) hm3.2.2 (by omega)
            refine j_site (q := qJ4_append_15ec4) (c := ((c + (z_kln 3)) + (sb_dg ((ft0 ((s_ba (s_ln u) (p_ro (s_pn u i))) + sq + jx)).toNatClampNeg)))) (n := (j_cap (j_cap n (c + (z_kln 3))) ((c + (z_kln 3)) + (sb_dg ((ft0 ((s_ba (s_ln u) (p_ro (s_pn u i))) + sq + jx)).toNatClampNeg))))) (w := (z_kln 1)) (F := 5) (k0 := 2) (s0 := 20) (n0 := 16) (rest := []) (wl := [32]) C hB2 hL2 rfl (fun h9 => cs_X5_109 C h9) ⟨Nat.le_of_ble_eq_true rfl, Nat.le_of_ble_eq_true rfl⟩ (Nat.le_of_ble_eq_true rfl) (Nat.le_of_ble_eq_true rfl) (fun h9 => j_S_fit hB2 (by decide) rfl h9) (fun h9 => j_S_grow hB2 (by decide) rfl (by omega) h9) rfl rfl (Nat.le_of_ble_eq_true rfl) (by omega) (by show _ ≤ 40; omega) (by show _ ≤ 1500; omega) dX5_whole_113 (fun vc3 Mc3 hB3 hF3 hL3 => ?_)
            have hK3 := j_K_fr hK2 hF3
            have hn3 := j_cap_ge ((j_cap (j_cap n (c + (z_kln 3))) ((c + (z_kln 3)) + (sb_dg ((ft0 ((s_ba (s_ln u) (p_ro (s_pn u i))) + sq + jx)).toNatClampNeg))))) (((c + (z_kln 3)) + (sb_dg ((ft0 ((s_ba (s_ln u) (p_ro (s_pn u i))) + sq + jx)).toNatClampNeg))) + (z_kln 1))
            refine z_pop C dX5_whole_116 rfl ?_
            refine z_iinc (v := nI (jx + 1)) (lv' := [(4, .int (nI (jx + 1))), (0, .ref m), (2, .ref (K i)), (3, .ref sb)]) C dX5_whole_117 0 rfl (nI_1 jx) (by decide) rfl ?_
            refine z_goto C (tgt := 33) dX5_whole_120 (by decide) ?_
            refine z_fewer [0, 1, 2, 3] rfl ?_
            have hje : jx + 1 ≤ cq := by omega
            exact ih (jx + 1) _ _ _ _ (by omega) (by omega) hK3 hB3 (by omega) (j_L_eq hL3 (by rw [t_w2_lo hje]; show _ = t_wh _ _ jx ++ (t_sg _ _ ++ (t_nm _ ++ [32])); simp [t_sg, c47, c62, c77]))
        · refine z_aload_n C dX5_whole_80 rfl 3 rfl ?_
          refine z_ldcK (i := 4) C (by decide) rfl dX5_whole_81 ?_
          have hw2 : z_kln 4 ≤ 1 := z_kln_in 4 (by decide)
          have hm2 := j_B_c hB1
          have hl2 := j_cap_le (n := (j_cap n (c + (z_kln 3)))) (q := (c + (z_kln 3)) + (z_kln 4)) hm2.2.2 (by omega)
          refine j_site (q := qJ4_append_15ec4) (c := (c + (z_kln 3))) (n := (j_cap n (c + (z_kln 3)))) (w := (z_kln 4)) (F := 5) (k0 := 2) (s0 := 20) (n0 := 16) (rest := []) (wl := [60]) C hB1 hL1 rfl (fun h9 => cs_X5_109 C h9) ⟨Nat.le_of_ble_eq_true rfl, Nat.le_of_ble_eq_true rfl⟩ (Nat.le_of_ble_eq_true rfl) (Nat.le_of_ble_eq_true rfl) (fun h9 => j_S_fit hB1 (by decide) rfl h9) (fun h9 => j_S_grow hB1 (by decide) rfl (by omega) h9) rfl rfl (Nat.le_of_ble_eq_true rfl) (by omega) (by show _ ≤ 40; omega) (by show _ ≤ 1500; omega) dX5_whole_83 (fun vc2 Mc2 hB2 hF2 hL2 => ?_)
          have hK2 := j_K_fr hK1 hF2
          have hn2 := j_cap_ge ((j_cap n (c + (z_kln 3)))) ((c + (z_kln 3)) + (z_kln 4))
          refine z_pop C dX5_whole_86 rfl ?_
          refine z_iload C dX5_whole_87 0 rfl ?_
          refine z_aload_n C dX5_whole_89 rfl 2 rfl ?_
          refine z_iconst C (v := 3) dX5_whole_90 (by decide) ?_
          refine z_pl3 C (RI_K (RI_mono hR0 (hK2).2.2) hi) dX5_whole_91 ?_
          refine z_icmp_ge C (tgt := 117) dX5_whole_92 (by decide) (fun c92 => ?_) (fun c92 => ?_)
          · refine z_iinc (v := nI (jx + 1)) (lv' := [(4, .int (nI (jx + 1))), (0, .ref m), (2, .ref (K i)), (3, .ref sb)]) C dX5_whole_117 0 rfl (nI_1 jx) (by decide) rfl ?_
            refine z_goto C (tgt := 33) dX5_whole_120 (by decide) ?_
            refine z_fewer [0, 1, 2, 3] rfl ?_
            have hje : jx = cq := by
              rw [hcp] at c92
              have h92 := (t_leN (by omega) (by omega)).mp c92
              omega
            exact ih (jx + 1) _ _ _ _ (by omega) (by omega) hK2 hB2 (by omega) (j_L_eq hL2 (by rw [t_w2_hi (by omega), ← hje]; simp [t_sg, c47, c62, c77]))
          · have hj9 : jx < cq := by
              rw [hcp] at c92
              exact Nat.lt_of_not_le (fun q => c92 (nI_le q (by omega)))
            refine z_aload_n C dX5_whole_95 rfl 3 rfl ?_
            refine z_aload_n C dX5_whole_96 rfl 1 rfl ?_
            refine gf_X5_9 C (RI_mono hR0 (hK2).2.2).1 dX5_whole_97 ?_
            refine z_aload_n C dX5_whole_100 rfl 1 rfl ?_
            refine z_aload_n C dX5_whole_101 rfl 2 rfl ?_
            refine z_iload C dX5_whole_102 0 rfl ?_
            refine z_callVi (rest := [.ref tp, .ref sb]) (k' := 2 + ((j_cap (j_cap n (c + (z_kln 3))) ((c + (z_kln 3)) + (z_kln 4))) - 16) / 16) (n' := 20 + 2 * ((j_cap (j_cap n (c + (z_kln 3))) ((c + (z_kln 3)) + (z_kln 4))) - 16)) C (c_X5_where (z_l X) (z_G X) (RI_K (RI_mono hR0 (hK2).2.2) hi)) (cs_X5_51 C ⟨Nat.le_of_ble_eq_true rfl, Nat.le_of_ble_eq_true rfl⟩) (RI_mono hR0 (hK2).2.2).1 rfl rfl rfl rfl (Nat.le_of_ble_eq_true rfl) rfl rfl (by show _ ≤ 40; omega) (by show _ ≤ 1500; omega) dX5_whole_104 (fun x104 M' hq => ?_)
            obtain ⟨rfl, rfl⟩ := hq
            refine z_iald (j := ((s_ba (s_ln u) (p_ro (s_pn u i))) + sq + jx)) C ((hK2).2.2 _ _ htp0) (by rw [j_wh _ sq jx hsa rfl]; exact nI_in (by omega) (by omega)) (by rw [j_wh _ sq jx hsa rfl]; exact nI_clamp (by omega)) dX5_whole_107 ?_
            have hw3 := sb_dg_in ((ft0 ((s_ba (s_ln u) (p_ro (s_pn u i))) + sq + jx)).toNatClampNeg)
            refine z_tope (y := nI ((ft0 ((s_ba (s_ln u) (p_ro (s_pn u i))) + sq + jx)).toNatClampNeg)) (z_cN (j_val hok ht hft0 hrw (by omega) (by omega)).2).1 ?_
            have hm3 := j_B_c hB2
            have hl3 := j_cap_le (n := (j_cap (j_cap n (c + (z_kln 3))) ((c + (z_kln 3)) + (z_kln 4)))) (q := ((c + (z_kln 3)) + (z_kln 4)) + (sb_dg ((ft0 ((s_ba (s_ln u) (p_ro (s_pn u i))) + sq + jx)).toNatClampNeg))) hm3.2.2 (by omega)
            refine j_site (q := qJ4_append_bf812) (c := ((c + (z_kln 3)) + (z_kln 4))) (n := (j_cap (j_cap n (c + (z_kln 3))) ((c + (z_kln 3)) + (z_kln 4)))) (w := (sb_dg ((ft0 ((s_ba (s_ln u) (p_ro (s_pn u i))) + sq + jx)).toNatClampNeg))) (F := 3) (k0 := 2) (s0 := 20) (n0 := 16) (rest := []) (wl := (t_nm ((ft0 ((s_ba (s_ln u) (p_ro (s_pn u i))) + sq + jx)).toNatClampNeg))) C hB2 hL2 rfl (fun h9 => cs_X5_122 C h9) ⟨Nat.le_of_ble_eq_true rfl, Nat.le_of_ble_eq_true rfl⟩ (Nat.le_of_ble_eq_true rfl) (Nat.le_of_ble_eq_true rfl) (fun h9 => j_I_fit hB2 (j_v31 _) (t_nm_i (j_v31 _)) h9) (fun h9 => j_I_grow hB2 (j_v31 _) (t_nm_i (j_v31 _)) (by omega) h9) rfl rfl (Nat.le_of_ble_eq_true rfl) (by omega) (by show _ ≤ 40; omega) (by show _ ≤ 1500; omega) dX5_whole_108 (fun vc3 Mc3 hB3 hF3 hL3 => ?_)
            have hK3 := j_K_fr hK2 hF3
            have hn3 := j_cap_ge ((j_cap (j_cap n (c + (z_kln 3))) ((c + (z_kln 3)) + (z_kln 4)))) (((c + (z_kln 3)) + (z_kln 4)) + (sb_dg ((ft0 ((s_ba (s_ln u) (p_ro (s_pn u i))) + sq + jx)).toNatClampNeg)))
            refine z_ldcK (i := 1) C (by decide) rfl dX5_whole_111 ?_
            have hw4 : z_kln 1 ≤ 1 := z_kln_in 1 (by decide)
            have hm4 := j_B_c hB3
            have hl4 := j_cap_le (n := (j_cap (j_cap (j_cap n (c + (z_kln 3))) ((c + (z_kln 3)) + (z_kln 4))) (((c + (z_kln 3)) + (z_kln 4)) + (sb_dg ((ft0 ((s_ba (s_ln u) (p_ro (s_pn u i))) + sq + jx)).toNatClampNeg))))) (q := (((c + (z_kln 3)) + (z_kln 4)) + (sb_dg ((ft0 ((s_ba (s_ln u) (p_ro (s_pn u i))) + sq + jx)).toNatClampNeg))) + (z_kln 1)) hm4.2.2 (by omega)
            refine j_site (q := qJ4_append_15ec4) (c := (((c + (z_kln 3)) + (z_kln 4)) + (sb_dg ((ft0 ((s_ba (s_ln u) (p_ro (s_pn u i))) + sq + jx)).toNatClampNeg)))) (n := (j_cap (j_cap (j_cap n (c + (z_kln 3))) ((c + (z_kln 3)) + (z_kln 4))) (((c + (z_kln 3)) + (z_kln 4)) + (sb_dg ((ft0 ((s_ba (s_ln u) (p_ro (s_pn u i))) + sq + jx)).toNatClampNeg))))) (w := (z_kln 1)) (F := 5) (k0 := 2) (s0 := 20) (n0 := 16) (rest := []) (wl := [32]) C hB3 hL3 rfl (fun h9 => cs_X5_109 C h9) ⟨Nat.le_of_ble_eq_true rfl, Nat.le_of_ble_eq_true rfl⟩ (Nat.le_of_ble_eq_true rfl) (Nat.le_of_ble_eq_true rfl) (fun h9 => j_S_fit hB3 (by decide) rfl h9) (fun h9 => j_S_grow hB3 (by decide) rfl (by omega) h9) rfl rfl (Nat.le_of_ble_eq_true rfl) (by omega) (by show _ ≤ 40; omega) (by show _ ≤ 1500; omega) dX5_whole_113 (fun vc4 Mc4 hB4 hF4 hL4 => ?_)
            have hK4 := j_K_fr hK3 hF4
            have hn4 := j_cap_ge ((j_cap (j_cap (j_cap n (c + (z_kln 3))) ((c + (z_kln 3)) + (z_kln 4))) (((c + (z_kln 3)) + (z_kln 4)) + (sb_dg ((ft0 ((s_ba (s_ln u) (p_ro (s_pn u i))) + sq + jx)).toNatClampNeg))))) ((((c + (z_kln 3)) + (z_kln 4)) + (sb_dg ((ft0 ((s_ba (s_ln u) (p_ro (s_pn u i))) + sq + jx)).toNatClampNeg))) + (z_kln 1))
            refine z_pop C dX5_whole_116 rfl ?_
            refine z_iinc (v := nI (jx + 1)) (lv' := [(4, .int (nI (jx + 1))), (0, .ref m), (2, .ref (K i)), (3, .ref sb)]) C dX5_whole_117 0 rfl (nI_1 jx) (by decide) rfl ?_
            refine z_goto C (tgt := 33) dX5_whole_120 (by decide) ?_
            refine z_fewer [0, 1, 2, 3] rfl ?_
            have hje : jx + 1 ≤ cq := by omega
            exact ih (jx + 1) _ _ _ _ (by omega) (by omega) hK4 hB4 (by omega) (j_L_eq hL4 (by rw [t_w2_lo hje]; show _ = t_wh _ _ jx ++ (t_sg _ _ ++ (t_nm _ ++ [32])); simp [t_sg, c47, c62, c77]))
    · refine z_aload_n C dX5_whole_50 rfl 3 rfl ?_
      refine z_ldcK (i := 2) C (by decide) rfl dX5_whole_51 ?_
      have hw1 : z_kln 2 ≤ 1 := z_kln_in 2 (by decide)
      have hm1 := j_B_c hB
      have hl1 := j_cap_le (n := n) (q := c + (z_kln 2)) hm1.2.2 (by omega)
      refine j_site (q := qJ4_append_15ec4) (c := c) (n := n) (w := (z_kln 2)) (F := 5) (k0 := 2) (s0 := 20) (n0 := 16) (rest := []) (wl := [124]) C hB hL rfl (fun h9 => cs_X5_109 C h9) ⟨Nat.le_of_ble_eq_true rfl, Nat.le_of_ble_eq_true rfl⟩ (Nat.le_of_ble_eq_true rfl) (Nat.le_of_ble_eq_true rfl) (fun h9 => j_S_fit hB (by decide) rfl h9) (fun h9 => j_S_grow hB (by decide) rfl (by omega) h9) rfl rfl (Nat.le_of_ble_eq_true rfl) (by omega) (by show _ ≤ 40; omega) (by show _ ≤ 1500; omega) dX5_whole_53 (fun vc1 Mc1 hB1 hF1 hL1 => ?_)
      have hK1 := j_K_fr hK hF1
      have hn1 := j_cap_ge (n) (c + (z_kln 2))
      refine z_pop C dX5_whole_56 rfl ?_
      refine z_aload_n C dX5_whole_57 rfl 2 rfl ?_
      refine z_iconst C (v := 4) dX5_whole_58 (by decide) ?_
      refine z_pl4 C (RI_K (RI_mono hR0 (hK1).2.2) hi) dX5_whole_59 ?_
      refine z_iload C dX5_whole_60 0 rfl ?_
      refine z_icmp_ne C (tgt := 72) dX5_whole_62 (by decide) (fun c62 => ?_) (fun c62 => ?_)
      · refine z_aload_n C dX5_whole_72 rfl 2 rfl ?_
        refine z_iconst C (v := 5) dX5_whole_73 (by decide) ?_
        refine z_pl5 C (RI_K (RI_mono hR0 (hK1).2.2) hi) dX5_whole_74 ?_
        refine z_iload C dX5_whole_75 0 rfl ?_
        refine z_icmp_ne C (tgt := 87) dX5_whole_77 (by decide) (fun c77 => ?_) (fun c77 => ?_)
        · refine z_iload C dX5_whole_87 0 rfl ?_
          refine z_aload_n C dX5_whole_89 rfl 2 rfl ?_
          refine z_iconst C (v := 3) dX5_whole_90 (by decide) ?_
          refine z_pl3 C (RI_K (RI_mono hR0 (hK1).2.2) hi) dX5_whole_91 ?_
          refine z_icmp_ge C (tgt := 117) dX5_whole_92 (by decide) (fun c92 => ?_) (fun c92 => ?_)
          · refine z_iinc (v := nI (jx + 1)) (lv' := [(4, .int (nI (jx + 1))), (0, .ref m), (2, .ref (K i)), (3, .ref sb)]) C dX5_whole_117 0 rfl (nI_1 jx) (by decide) rfl ?_
            refine z_goto C (tgt := 33) dX5_whole_120 (by decide) ?_
            refine z_fewer [0, 1, 2, 3] rfl ?_
            have hje : jx = cq := by
              rw [hcp] at c92
              have h92 := (t_leN (by omega) (by omega)).mp c92
              omega
            exact ih (jx + 1) _ _ _ _ (by omega) (by omega) hK1 hB1 (by omega) (j_L_eq hL1 (by rw [t_w2_hi (by omega), ← hje]; simp [t_sg, c47, c62, c77]))
          · have hj9 : jx < cq := by
              rw [hcp] at c92
              exact Nat.lt_of_not_le (fun q => c92 (nI_le q (by omega)))
            refine z_aload_n C dX5_whole_95 rfl 3 rfl ?_
            refine z_aload_n C dX5_whole_96 rfl 1 rfl ?_
            refine gf_X5_9 C (RI_mono hR0 (hK1).2.2).1 dX5_whole_97 ?_
            refine z_aload_n C dX5_whole_100 rfl 1 rfl ?_
            refine z_aload_n C dX5_whole_101 rfl 2 rfl ?_
            refine z_iload C dX5_whole_102 0 rfl ?_
            refine z_callVi (rest := [.ref tp, .ref sb]) (k' := 2 + ((j_cap n (c + (z_kln 2))) - 16) / 16) (n' := 20 + 2 * ((j_cap n (c + (z_kln 2))) - 16)) C (c_X5_where (z_l X) (z_G X) (RI_K (RI_mono hR0 (hK1).2.2) hi)) (cs_X5_51 C ⟨Nat.le_of_ble_eq_true rfl, Nat.le_of_ble_eq_true rfl⟩) (RI_mono hR0 (hK1).2.2).1 rfl rfl rfl rfl (Nat.le_of_ble_eq_true rfl) rfl rfl (by show _ ≤ 40; omega) (by show _ ≤ 1500; omega) dX5_whole_104 (fun x104 M' hq => ?_)
            obtain ⟨rfl, rfl⟩ := hq
            refine z_iald (j := ((s_ba (s_ln u) (p_ro (s_pn u i))) + sq + jx)) C ((hK1).2.2 _ _ htp0) (by rw [j_wh _ sq jx hsa rfl]; exact nI_in (by omega) (by omega)) (by rw [j_wh _ sq jx hsa rfl]; exact nI_clamp (by omega)) dX5_whole_107 ?_
            have hw2 := sb_dg_in ((ft0 ((s_ba (s_ln u) (p_ro (s_pn u i))) + sq + jx)).toNatClampNeg)
            refine z_tope (y := nI ((ft0 ((s_ba (s_ln u) (p_ro (s_pn u i))) + sq + jx)).toNatClampNeg)) (z_cN (j_val hok ht hft0 hrw (by omega) (by omega)).2).1 ?_
            have hm2 := j_B_c hB1
            have hl2 := j_cap_le (n := (j_cap n (c + (z_kln 2)))) (q := (c + (z_kln 2)) + (sb_dg ((ft0 ((s_ba (s_ln u) (p_ro (s_pn u i))) + sq + jx)).toNatClampNeg))) hm2.2.2 (by omega)
            refine j_site (q := qJ4_append_bf812) (c := (c + (z_kln 2))) (n := (j_cap n (c + (z_kln 2)))) (w := (sb_dg ((ft0 ((s_ba (s_ln u) (p_ro (s_pn u i))) + sq + jx)).toNatClampNeg))) (F := 3) (k0 := 2) (s0 := 20) (n0 := 16) (rest := []) (wl := (t_nm ((ft0 ((s_ba (s_ln u) (p_ro (s_pn u i))) + sq + jx)).toNatClampNeg))) C hB1 hL1 rfl (fun h9 => cs_X5_122 C h9) ⟨Nat.le_of_ble_eq_true rfl, Nat.le_of_ble_eq_true rfl⟩ (Nat.le_of_ble_eq_true rfl) (Nat.le_of_ble_eq_true rfl) (fun h9 => j_I_fit hB1 (j_v31 _) (t_nm_i (j_v31 _)) h9) (fun h9 => j_I_grow hB1 (j_v31 _) (t_nm_i (j_v31 _)) (by omega) h9) rfl rfl (Nat.le_of_ble_eq_true rfl) (by omega) (by show _ ≤ 40; omega) (by show _ ≤ 1500; omega) dX5_whole_108 (fun vc2 Mc2 hB2 hF2 hL2 => ?_)
            have hK2 := j_K_fr hK1 hF2
            have hn2 := j_cap_ge ((j_cap n (c + (z_kln 2)))) ((c + (z_kln 2)) + (sb_dg ((ft0 ((s_ba (s_ln u) (p_ro (s_pn u i))) + sq + jx)).toNatClampNeg)))
            refine z_ldcK (i := 1) C (by decide) rfl dX5_whole_111 ?_
            have hw3 : z_kln 1 ≤ 1 := z_kln_in 1 (by decide)
            have hm3 := j_B_c hB2
            have hl3 := j_cap_le (n := (j_cap (j_cap n (c + (z_kln 2))) ((c + (z_kln 2)) + (sb_dg ((ft0 ((s_ba (s_ln u) (p_ro (s_pn u i))) + sq + jx)).toNatClampNeg))))) (q := ((c + (z_kln 2)) + (sb_dg ((ft0 ((s_ba (s_ln u) (p_ro (s_pn u i))) + sq + jx)).toNatClampNeg))) + (z_kln 1)) hm3.2.2 (by omega)
            refine j_site (q := qJ4_append_15ec4) (c := ((c + (z_kln 2)) + (sb_dg ((ft0 ((s_ba (s_ln u) (p_ro (s_pn u i))) + sq + jx)).toNatClampNeg)))) (n := (j_cap (j_cap n (c + (z_kln 2))) ((c + (z_kln 2)) + (sb_dg ((ft0 ((s_ba (s_ln u) (p_ro (s_pn u i))) + sq + jx)).toNatClampNeg))))) (w := (z_kln 1)) (F := 5) (k0 := 2) (s0 := 20) (n0 := 16) (rest := []) (wl := [32]) C hB2 hL2 rfl (fun h9 => cs_X5_109 C h9) ⟨Nat.le_of_ble_eq_true rfl, Nat.le_of_ble_eq_true rfl⟩ (Nat.le_of_ble_eq_true rfl) (Nat.le_of_ble_eq_true rfl) (fun h9 => j_S_fit hB2 (by decide) rfl h9) (fun h9 => j_S_grow hB2 (by decide) rfl (by omega) h9) rfl rfl (Nat.le_of_ble_eq_true rfl) (by omega) (by show _ ≤ 40; omega) (by show _ ≤ 1500; omega) dX5_whole_113 (fun vc3 Mc3 hB3 hF3 hL3 => ?_)
            have hK3 := j_K_fr hK2 hF3
            have hn3 := j_cap_ge ((j_cap (j_cap n (c + (z_kln 2))) ((c + (z_kln 2)) + (sb_dg ((ft0 ((s_ba (s_ln u) (p_ro (s_pn u i))) + sq + jx)).toNatClampNeg))))) (((c + (z_kln 2)) + (sb_dg ((ft0 ((s_ba (s_ln u) (p_ro (s_pn u i))) + sq + jx)).toNatClampNeg))) + (z_kln 1))
            refine z_pop C dX5_whole_116 rfl ?_
            refine z_iinc (v := nI (jx + 1)) (lv' := [(4, .int (nI (jx + 1))), (0, .ref m), (2, .ref (K i)), (3, .ref sb)]) C dX5_whole_117 0 rfl (nI_1 jx) (by decide) rfl ?_
            refine z_goto C (tgt := 33) dX5_whole_120 (by decide) ?_
            refine z_fewer [0, 1, 2, 3] rfl ?_
            have hje : jx + 1 ≤ cq := by omega
            exact ih (jx + 1) _ _ _ _ (by omega) (by omega) hK3 hB3 (by omega) (j_L_eq hL3 (by rw [t_w2_lo hje]; show _ = t_wh _ _ jx ++ (t_sg _ _ ++ (t_nm _ ++ [32])); simp [t_sg, c47, c62, c77]))
        · refine z_aload_n C dX5_whole_80 rfl 3 rfl ?_
          refine z_ldcK (i := 4) C (by decide) rfl dX5_whole_81 ?_
          have hw2 : z_kln 4 ≤ 1 := z_kln_in 4 (by decide)
          have hm2 := j_B_c hB1
          have hl2 := j_cap_le (n := (j_cap n (c + (z_kln 2)))) (q := (c + (z_kln 2)) + (z_kln 4)) hm2.2.2 (by omega)
          refine j_site (q := qJ4_append_15ec4) (c := (c + (z_kln 2))) (n := (j_cap n (c + (z_kln 2)))) (w := (z_kln 4)) (F := 5) (k0 := 2) (s0 := 20) (n0 := 16) (rest := []) (wl := [60]) C hB1 hL1 rfl (fun h9 => cs_X5_109 C h9) ⟨Nat.le_of_ble_eq_true rfl, Nat.le_of_ble_eq_true rfl⟩ (Nat.le_of_ble_eq_true rfl) (Nat.le_of_ble_eq_true rfl) (fun h9 => j_S_fit hB1 (by decide) rfl h9) (fun h9 => j_S_grow hB1 (by decide) rfl (by omega) h9) rfl rfl (Nat.le_of_ble_eq_true rfl) (by omega) (by show _ ≤ 40; omega) (by show _ ≤ 1500; omega) dX5_whole_83 (fun vc2 Mc2 hB2 hF2 hL2 => ?_)
          have hK2 := j_K_fr hK1 hF2
          have hn2 := j_cap_ge ((j_cap n (c + (z_kln 2)))) ((c + (z_kln 2)) + (z_kln 4))
          refine z_pop C dX5_whole_86 rfl ?_
          refine z_iload C dX5_whole_87 0 rfl ?_
          refine z_aload_n C dX5_whole_89 rfl 2 rfl ?_
          refine z_iconst C (v := 3) dX5_whole_90 (by decide) ?_
          refine z_pl3 C (RI_K (RI_mono hR0 (hK2).2.2) hi) dX5_whole_91 ?_
          refine z_icmp_ge C (tgt := 117) dX5_whole_92 (by decide) (fun c92 => ?_) (fun c92 => ?_)
          · refine z_iinc (v := nI (jx + 1)) (lv' := [(4, .int (nI (jx + 1))), (0, .ref m), (2, .ref (K i)), (3, .ref sb)]) C dX5_whole_117 0 rfl (nI_1 jx) (by decide) rfl ?_
            refine z_goto C (tgt := 33) dX5_whole_120 (by decide) ?_
            refine z_fewer [0, 1, 2, 3] rfl ?_
            have hje : jx = cq := by
              rw [hcp] at c92
              have h92 := (t_leN (by omega) (by omega)).mp c92
              omega
            exact ih (jx + 1) _ _ _ _ (by omega) (by omega) hK2 hB2 (by omega) (j_L_eq hL2 (by rw [t_w2_hi (by omega), ← hje]; simp [t_sg, c47, c62, c77]))
          · have hj9 : jx < cq := by
              rw [hcp] at c92
              exact Nat.lt_of_not_le (fun q => c92 (nI_le q (by omega)))
            refine z_aload_n C dX5_whole_95 rfl 3 rfl ?_
            refine z_aload_n C dX5_whole_96 rfl 1 rfl ?_
            refine gf_X5_9 C (RI_mono hR0 (hK2).2.2).1 dX5_whole_97 ?_
            refine z_aload_n C dX5_whole_100 rfl 1 rfl ?_
            refine z_aload_n C dX5_whole_101 rfl 2 rfl ?_
            refine z_iload C dX5_whole_102 0 rfl ?_
            refine z_callVi (rest := [.ref tp, .ref sb]) (k' := 2 + ((j_cap (j_cap n (c + (z_kln 2))) ((c + (z_kln 2)) + (z_kln 4))) - 16) / 16) (n' := 20 + 2 * ((j_cap (j_cap n (c + (z_kln 2))) ((c + (z_kln 2)) + (z_kln 4))) - 16)) C (c_X5_where (z_l X) (z_G X) (RI_K (RI_mono hR0 (hK2).2.2) hi)) (cs_X5_51 C ⟨Nat.le_of_ble_eq_true rfl, Nat.le_of_ble_eq_true rfl⟩) (RI_mono hR0 (hK2).2.2).1 rfl rfl rfl rfl (Nat.le_of_ble_eq_true rfl) rfl rfl (by show _ ≤ 40; omega) (by show _ ≤ 1500; omega) dX5_whole_104 (fun x104 M' hq => ?_)
            obtain ⟨rfl, rfl⟩ := hq
            refine z_iald (j := ((s_ba (s_ln u) (p_ro (s_pn u i))) + sq + jx)) C ((hK2).2.2 _ _ htp0) (by rw [j_wh _ sq jx hsa rfl]; exact nI_in (by omega) (by omega)) (by rw [j_wh _ sq jx hsa rfl]; exact nI_clamp (by omega)) dX5_whole_107 ?_
            have hw3 := sb_dg_in ((ft0 ((s_ba (s_ln u) (p_ro (s_pn u i))) + sq + jx)).toNatClampNeg)
            refine z_tope (y := nI ((ft0 ((s_ba (s_ln u) (p_ro (s_pn u i))) + sq + jx)).toNatClampNeg)) (z_cN (j_val hok ht hft0 hrw (by omega) (by omega)).2).1 ?_
            have hm3 := j_B_c hB2
            have hl3 := j_cap_le (n := (j_cap (j_cap n (c + (z_kln 2))) ((c + (z_kln 2)) + (z_kln 4)))) (q := ((c + (z_kln 2)) + (z_kln 4)) + (sb_dg ((ft0 ((s_ba (s_ln u) (p_ro (s_pn u i))) + sq + jx)).toNatClampNeg))) hm3.2.2 (by omega)
            refine j_site (q := qJ4_append_bf812) (c := ((c + (z_kln 2)) + (z_kln 4))) (n := (j_cap (j_cap n (c + (z_kln 2))) ((c + (z_kln 2)) + (z_kln 4)))) (w := (sb_dg ((ft0 ((s_ba (s_ln u) (p_ro (s_pn u i))) + sq + jx)).toNatClampNeg))) (F := 3) (k0 := 2) (s0 := 20) (n0 := 16) (rest := []) (wl := (t_nm ((ft0 ((s_ba (s_ln u) (p_ro (s_pn u i))) + sq + jx)).toNatClampNeg))) C hB2 hL2 rfl (fun h9 => cs_X5_122 C h9) ⟨Nat.le_of_ble_eq_true rfl, Nat.le_of_ble_eq_true rfl⟩ (Nat.le_of_ble_eq_true rfl) (Nat.le_of_ble_eq_true rfl) (fun h9 => j_I_fit hB2 (j_v31 _) (t_nm_i (j_v31 _)) h9) (fun h9 => j_I_grow hB2 (j_v31 _) (t_nm_i (j_v31 _)) (by omega) h9) rfl rfl (Nat.le_of_ble_eq_true rfl) (by omega) (by show _ ≤ 40; omega) (by show _ ≤ 1500; omega) dX5_whole_108 (fun vc3 Mc3 hB3 hF3 hL3 => ?_)
            have hK3 := j_K_fr hK2 hF3
            have hn3 := j_cap_ge ((j_cap (j_cap n (c + (z_kln 2))) ((c + (z_kln 2)) + (z_kln 4)))) (((c + (z_kln 2)) + (z_kln 4)) + (sb_dg ((ft0 ((s_ba (s_ln u) (p_ro (s_pn u i))) + sq + jx)).toNatClampNeg)))
            refine z_ldcK (i := 1) C (by decide) rfl dX5_whole_111 ?_
            have hw4 : z_kln 1 ≤ 1 := z_kln_in 1 (by decide)
            have hm4 := j_B_c hB3
            have hl4 := j_cap_le (n := (j_cap (j_cap (j_cap n (c + (z_kln 2))) ((c + (z_kln 2)) + (z_kln 4))) (((c + (z_kln 2)) + (z_kln 4)) + (sb_dg ((ft0 ((s_ba (s_ln u) (p_ro (s_pn u i))) + sq + jx)).toNatClampNeg))))) (q := (((c + (z_kln 2)) + (z_kln 4)) + (sb_dg ((ft0 ((s_ba (s_ln u) (p_ro (s_pn u i))) + sq + jx)).toNatClampNeg))) + (z_kln 1)) hm4.2.2 (by omega)
            refine j_site (q := qJ4_append_15ec4) (c := (((c + (z_kln 2)) + (z_kln 4)) + (sb_dg ((ft0 ((s_ba (s_ln u) (p_ro (s_pn u i))) + sq + jx)).toNatClampNeg)))) (n := (j_cap (j_cap (j_cap n (c + (z_kln 2))) ((c + (z_kln 2)) + (z_kln 4))) (((c + (z_kln 2)) + (z_kln 4)) + (sb_dg ((ft0 ((s_ba (s_ln u) (p_ro (s_pn u i))) + sq + jx)).toNatClampNeg))))) (w := (z_kln 1)) (F := 5) (k0 := 2) (s0 := 20) (n0 := 16) (rest := []) (wl := [32]) C hB3 hL3 rfl (fun h9 => cs_X5_109 C h9) ⟨Nat.le_of_ble_eq_true rfl, Nat.le_of_ble_eq_true rfl⟩ (Nat.le_of_ble_eq_true rfl) (Nat.le_of_ble_eq_true rfl) (fun h9 => j_S_fit hB3 (by decide) rfl h9) (fun h9 => j_S_grow hB3 (by decide) rfl (by omega) h9) rfl rfl (Nat.le_of_ble_eq_true rfl) (by omega) (by show _ ≤ 40; omega) (by show _ ≤ 1500; omega) dX5_whole_113 (fun vc4 Mc4 hB4 hF4 hL4 => ?_)
            have hK4 := j_K_fr hK3 hF4
            have hn4 := j_cap_ge ((j_cap (j_cap (j_cap n (c + (z_kln 2))) ((c + (z_kln 2)) + (z_kln 4))) (((c + (z_kln 2)) + (z_kln 4)) + (sb_dg ((ft0 ((s_ba (s_ln u) (p_ro (s_pn u i))) + sq + jx)).toNatClampNeg))))) ((((c + (z_kln 2)) + (z_kln 4)) + (sb_dg ((ft0 ((s_ba (s_ln u) (p_ro (s_pn u i))) + sq + jx)).toNatClampNeg))) + (z_kln 1))
            refine z_pop C dX5_whole_116 rfl ?_
            refine z_iinc (v := nI (jx + 1)) (lv' := [(4, .int (nI (jx + 1))), (0, .ref m), (2, .ref (K i)), (3, .ref sb)]) C dX5_whole_117 0 rfl (nI_1 jx) (by decide) rfl ?_
            refine z_goto C (tgt := 33) dX5_whole_120 (by decide) ?_
            refine z_fewer [0, 1, 2, 3] rfl ?_
            have hje : jx + 1 ≤ cq := by omega
            exact ih (jx + 1) _ _ _ _ (by omega) (by omega) hK4 hB4 (by omega) (j_L_eq hL4 (by rw [t_w2_lo hje]; show _ = t_wh _ _ jx ++ (t_sg _ _ ++ (t_nm _ ++ [32])); simp [t_sg, c47, c62, c77]))
      · refine z_aload_n C dX5_whole_65 rfl 3 rfl ?_
        refine z_ldcK (i := 3) C (by decide) rfl dX5_whole_66 ?_
        have hw2 : z_kln 3 ≤ 1 := z_kln_in 3 (by decide)
        have hm2 := j_B_c hB1
        have hl2 := j_cap_le (n := (j_cap n (c + (z_kln 2)))) (q := (c + (z_kln 2)) + (z_kln 3)) hm2.2.2 (by omega)
        refine j_site (q := qJ4_append_15ec4) (c := (c + (z_kln 2))) (n := (j_cap n (c + (z_kln 2)))) (w := (z_kln 3)) (F := 5) (k0 := 2) (s0 := 20) (n0 := 16) (rest := []) (wl := [62]) C hB1 hL1 rfl (fun h9 => cs_X5_109 C h9) ⟨Nat.le_of_ble_eq_true rfl, Nat.le_of_ble_eq_true rfl⟩ (Nat.le_of_ble_eq_true rfl) (Nat.le_of_ble_eq_true rfl) (fun h9 => j_S_fit hB1 (by decide) rfl h9) (fun h9 => j_S_grow hB1 (by decide) rfl (by omega) h9) rfl rfl (Nat.le_of_ble_eq_true rfl) (by omega) (by show _ ≤ 40; omega) (by show _ ≤ 1500; omega) dX5_whole_68 (fun vc2 Mc2 hB2 hF2 hL2 => ?_)
        have hK2 := j_K_fr hK1 hF2
        have hn2 := j_cap_ge ((j_cap n (c + (z_kln 2)))) ((c + (z_kln 2)) + (z_kln 3))
        refine z_pop C dX5_whole_71 rfl ?_
        refine z_aload_n C dX5_whole_72 rfl 2 rfl ?_
        refine z_iconst C (v := 5) dX5_whole_73 (by decide) ?_
        refine z_pl5 C (RI_K (RI_mono hR0 (hK2).2.2) hi) dX5_whole_74 ?_
        refine z_iload C dX5_whole_75 0 rfl ?_
        refine z_icmp_ne C (tgt := 87) dX5_whole_77 (by decide) (fun c77 => ?_) (fun c77 => ?_)
        · refine z_iload C dX5_whole_87 0 rfl ?_
          refine z_aload_n C dX5_whole_89 rfl 2 rfl ?_
          refine z_iconst C (v := 3) dX5_whole_90 (by decide) ?_
          refine z_pl3 C (RI_K (RI_mono hR0 (hK2).2.2) hi) dX5_whole_91 ?_
          refine z_icmp_ge C (tgt := 117) dX5_whole_92 (by decide) (fun c92 => ?_) (fun c92 => ?_)
          · refine z_iinc (v := nI (jx + 1)) (lv' := [(4, .int (nI (jx + 1))), (0, .ref m), (2, .ref (K i)), (3, .ref sb)]) C dX5_whole_117 0 rfl (nI_1 jx) (by decide) rfl ?_
            refine z_goto C (tgt := 33) dX5_whole_120 (by decide) ?_
            refine z_fewer [0, 1, 2, 3] rfl ?_
            have hje : jx = cq := by
              rw [hcp] at c92
              have h92 := (t_leN (by omega) (by omega)).mp c92
              omega
            exact ih (jx + 1) _ _ _ _ (by omega) (by omega) hK2 hB2 (by omega) (j_L_eq hL2 (by rw [t_w2_hi (by omega), ← hje]; simp [t_sg, c47, c62, c77]))
          · have hj9 : jx < cq := by
              rw [hcp] at c92
              exact Nat.lt_of_not_le (fun q => c92 (nI_le q (by omega)))
            refine z_aload_n C dX5_whole_95 rfl 3 rfl ?_
            refine z_aload_n C dX5_whole_96 rfl 1 rfl ?_
            refine gf_X5_9 C (RI_mono hR0 (hK2).2.2).1 dX5_whole_97 ?_
            refine z_aload_n C dX5_whole_100 rfl 1 rfl ?_
            refine z_aload_n C dX5_whole_101 rfl 2 rfl ?_
            refine z_iload C dX5_whole_102 0 rfl ?_
            refine z_callVi (rest := [.ref tp, .ref sb]) (k' := 2 + ((j_cap (j_cap n (c + (z_kln 2))) ((c + (z_kln 2)) + (z_kln 3))) - 16) / 16) (n' := 20 + 2 * ((j_cap (j_cap n (c + (z_kln 2))) ((c + (z_kln 2)) + (z_kln 3))) - 16)) C (c_X5_where (z_l X) (z_G X) (RI_K (RI_mono hR0 (hK2).2.2) hi)) (cs_X5_51 C ⟨Nat.le_of_ble_eq_true rfl, Nat.le_of_ble_eq_true rfl⟩) (RI_mono hR0 (hK2).2.2).1 rfl rfl rfl rfl (Nat.le_of_ble_eq_true rfl) rfl rfl (by show _ ≤ 40; omega) (by show _ ≤ 1500; omega) dX5_whole_104 (fun x104 M' hq => ?_)
            obtain ⟨rfl, rfl⟩ := hq
            refine z_iald (j := ((s_ba (s_ln u) (p_ro (s_pn u i))) + sq + jx)) C ((hK2).2.2 _ _ htp0) (by rw [j_wh _ sq jx hsa rfl]; exact nI_in (by omega) (by omega)) (by rw [j_wh _ sq jx hsa rfl]; exact nI_clamp (by omega)) dX5_whole_107 ?_
            have hw3 := sb_dg_in ((ft0 ((s_ba (s_ln u) (p_ro (s_pn u i))) + sq + jx)).toNatClampNeg)
            refine z_tope (y := nI ((ft0 ((s_ba (s_ln u) (p_ro (s_pn u i))) + sq + jx)).toNatClampNeg)) (z_cN (j_val hok ht hft0 hrw (by omega) (by omega)).2).1 ?_
            have hm3 := j_B_c hB2
            have hl3 := j_cap_le (n := (j_cap (j_cap n (c + (z_kln 2))) ((c + (z_kln 2)) + (z_kln 3)))) (q := ((c + (z_kln 2)) + (z_kln 3)) + (sb_dg ((ft0 ((s_ba (s_ln u) (p_ro (s_pn u i))) + sq + jx)).toNatClampNeg))) hm3.2.2 (by omega)
            refine j_site (q := qJ4_append_bf812) (c := ((c + (z_kln 2)) + (z_kln 3))) (n := (j_cap (j_cap n (c + (z_kln 2))) ((c + (z_kln 2)) + (z_kln 3)))) (w := (sb_dg ((ft0 ((s_ba (s_ln u) (p_ro (s_pn u i))) + sq + jx)).toNatClampNeg))) (F := 3) (k0 := 2) (s0 := 20) (n0 := 16) (rest := []) (wl := (t_nm ((ft0 ((s_ba (s_ln u) (p_ro (s_pn u i))) + sq + jx)).toNatClampNeg))) C hB2 hL2 rfl (fun h9 => cs_X5_122 C h9) ⟨Nat.le_of_ble_eq_true rfl, Nat.le_of_ble_eq_true rfl⟩ (Nat.le_of_ble_eq_true rfl) (Nat.le_of_ble_eq_true rfl) (fun h9 => j_I_fit hB2 (j_v31 _) (t_nm_i (j_v31 _)) h9) (fun h9 => j_I_grow hB2 (j_v31 _) (t_nm_i (j_v31 _)) (by omega) h9) rfl rfl (Nat.le_of_ble_eq_true rfl) (by omega) (by show _ ≤ 40; omega) (by show _ ≤ 1500; omega) dX5_whole_108 (fun vc3 Mc3 hB3 hF3 hL3 => ?_)
            have hK3 := j_K_fr hK2 hF3
            have hn3 := j_cap_ge ((j_cap (j_cap n (c + (z_kln 2))) ((c + (z_kln 2)) + (z_kln 3)))) (((c + (z_kln 2)) + (z_kln 3)) + (sb_dg ((ft0 ((s_ba (s_ln u) (p_ro (s_pn u i))) + sq + jx)).toNatClampNeg)))
            refine z_ldcK (i := 1) C (by decide) rfl dX5_whole_111 ?_
            have hw4 : z_kln 1 ≤ 1 := z_kln_in 1 (by decide)
            have hm4 := j_B_c hB3
            have hl4 := j_cap_le (n := (j_cap (j_cap (j_cap n (c + (z_kln 2))) ((c + (z_kln 2)) + (z_kln 3))) (((c + (z_kln 2)) + (z_kln 3)) + (sb_dg ((ft0 ((s_ba (s_ln u) (p_ro (s_pn u i))) + sq + jx)).toNatClampNeg))))) (q := (((c + (z_kln 2)) + (z_kln 3)) + (sb_dg ((ft0 ((s_ba (s_ln u) (p_ro (s_pn u i))) + sq + jx)).toNatClampNeg))) + (z_kln 1)) hm4.2.2 (by omega)
            refine j_site (q := qJ4_append_15ec4) (c := (((c + (z_kln 2)) + (z_kln 3)) + (sb_dg ((ft0 ((s_ba (s_ln u) (p_ro (s_pn u i))) + sq + jx)).toNatClampNeg)))) (n := (j_cap (j_cap (j_cap n (c + (z_kln 2))) ((c + (z_kln 2)) + (z_kln 3))) (((c + (z_kln 2)) + (z_kln 3)) + (sb_dg ((ft0 ((s_ba (s_ln u) (p_ro (s_pn u i))) + sq + jx)).toNatClampNeg))))) (w := (z_kln 1)) (F := 5) (k0 := 2) (s0 := 20) (n0 := 16) (rest := []) (wl := [32]) C hB3 hL3 rfl (fun h9 => cs_X5_109 C h9) ⟨Nat.le_of_ble_eq_true rfl, Nat.le_of_ble_eq_true rfl⟩ (Nat.le_of_ble_eq_true rfl) (Nat.le_of_ble_eq_true rfl) (fun h9 => j_S_fit hB3 (by decide) rfl h9) (fun h9 => j_S_grow hB3 (by decide) rfl (by omega) h9) rfl rfl (Nat.le_of_ble_eq_true rfl) (by omega) (by show _ ≤ 40; omega) (by show _ ≤ 1500; omega) dX5_whole_113 (fun vc4 Mc4 hB4 hF4 hL4 => ?_)
            have hK4 := j_K_fr hK3 hF4
            have hn4 := j_cap_ge ((j_cap (j_cap (j_cap n (c + (z_kln 2))) ((c + (z_kln 2)) + (z_kln 3))) (((c + (z_kln 2)) + (z_kln 3)) + (sb_dg ((ft0 ((s_ba (s_ln u) (p_ro (s_pn u i))) + sq + jx)).toNatClampNeg))))) ((((c + (z_kln 2)) + (z_kln 3)) + (sb_dg ((ft0 ((s_ba (s_ln u) (p_ro (s_pn u i))) + sq + jx)).toNatClampNeg))) + (z_kln 1))
            refine z_pop C dX5_whole_116 rfl ?_
            refine z_iinc (v := nI (jx + 1)) (lv' := [(4, .int (nI (jx + 1))), (0, .ref m), (2, .ref (K i)), (3, .ref sb)]) C dX5_whole_117 0 rfl (nI_1 jx) (by decide) rfl ?_
            refine z_goto C (tgt := 33) dX5_whole_120 (by decide) ?_
            refine z_fewer [0, 1, 2, 3] rfl ?_
            have hje : jx + 1 ≤ cq := by omega
            exact ih (jx + 1) _ _ _ _ (by omega) (by omega) hK4 hB4 (by omega) (j_L_eq hL4 (by rw [t_w2_lo hje]; show _ = t_wh _ _ jx ++ (t_sg _ _ ++ (t_nm _ ++ [32])); simp [t_sg, c47, c62, c77]))
        · refine z_aload_n C dX5_whole_80 rfl 3 rfl ?_
          refine z_ldcK (i := 4) C (by decide) rfl dX5_whole_81 ?_
          have hw3 : z_kln 4 ≤ 1 := z_kln_in 4 (by decide)
          have hm3 := j_B_c hB2
          have hl3 := j_cap_le (n := (j_cap (j_cap n (c + (z_kln 2))) ((c + (z_kln 2)) + (z_kln 3)))) (q := ((c + (z_kln 2)) + (z_kln 3)) + (z_kln 4)) hm3.2.2 (by omega)
          refine j_site (q := qJ4_append_15ec4) (c := ((c + (z_kln 2)) + (z_kln 3))) (n := (j_cap (j_cap n (c + (z_kln 2))) ((c + (z_kln 2)) + (z_kln 3)))) (w := (z_kln 4)) (F := 5) (k0 := 2) (s0 := 20) (n0 := 16) (rest := []) (wl := [60]) C hB2 hL2 rfl (fun h9 => cs_X5_109 C h9) ⟨Nat.le_of_ble_eq_true rfl, Nat.le_of_ble_eq_true rfl⟩ (Nat.le_of_ble_eq_true rfl) (Nat.le_of_ble_eq_true rfl) (fun h9 => j_S_fit hB2 (by decide) rfl h9) (fun h9 => j_S_grow hB2 (by decide) rfl (by omega) h9) rfl rfl (Nat.le_of_ble_eq_true rfl) (by omega) (by show _ ≤ 40; omega) (by show _ ≤ 1500; omega) dX5_whole_83 (fun vc3 Mc3 hB3 hF3 hL3 => ?_)
          have hK3 := j_K_fr hK2 hF3
          have hn3 := j_cap_ge ((j_cap (j_cap n (c + (z_kln 2))) ((c + (z_kln 2)) + (z_kln 3)))) (((c + (z_kln 2)) + (z_kln 3)) + (z_kln 4))
          refine z_pop C dX5_whole_86 rfl ?_
          refine z_iload C dX5_whole_87 0 rfl ?_
          refine z_aload_n C dX5_whole_89 rfl 2 rfl ?_
          refine z_iconst C (v := 3) dX5_whole_90 (by decide) ?_
          refine z_pl3 C (RI_K (RI_mono hR0 (hK3).2.2) hi) dX5_whole_91 ?_
          refine z_icmp_ge C (tgt := 117) dX5_whole_92 (by decide) (fun c92 => ?_) (fun c92 => ?_)
          · refine z_iinc (v := nI (jx + 1)) (lv' := [(4, .int (nI (jx + 1))), (0, .ref m), (2, .ref (K i)), (3, .ref sb)]) C dX5_whole_117 0 rfl (nI_1 jx) (by decide) rfl ?_
            refine z_goto C (tgt := 33) dX5_whole_120 (by decide) ?_
            refine z_fewer [0, 1, 2, 3] rfl ?_
            have hje : jx = cq := by
              rw [hcp] at c92
              have h92 := (t_leN (by omega) (by omega)).mp c92
              omega
            exact ih (jx + 1) _ _ _ _ (by omega) (by omega) hK3 hB3 (by omega) (j_L_eq hL3 (by rw [t_w2_hi (by omega), ← hje]; simp [t_sg, c47, c62, c77]))
          · have hj9 : jx < cq := by
              rw [hcp] at c92
              exact Nat.lt_of_not_le (fun q => c92 (nI_le q (by omega)))
            refine z_aload_n C dX5_whole_95 rfl 3 rfl ?_
            refine z_aload_n C dX5_whole_96 rfl 1 rfl ?_
            refine gf_X5_9 C (RI_mono hR0 (hK3).2.2).1 dX5_whole_97 ?_
            refine z_aload_n C dX5_whole_100 rfl 1 rfl ?_
            refine z_aload_n C dX5_whole_101 rfl 2 rfl ?_
            refine z_iload C dX5_whole_102 0 rfl ?_
            refine z_callVi (rest := [.ref tp, .ref sb]) (k' := 2 + ((j_cap (j_cap (j_cap n (c + (z_kln 2))) ((c + (z_kln 2)) + (z_kln 3))) (((c + (z_kln 2)) + (z_kln 3)) + (z_kln 4))) - 16) / 16) (n' := 20 + 2 * ((j_cap (j_cap (j_cap n (c + (z_kln 2))) ((c + (z_kln 2)) + (z_kln 3))) (((c + (z_kln 2)) + (z_kln 3)) + (z_kln 4))) - 16)) C (c_X5_where (z_l X) (z_G X) (RI_K (RI_mono hR0 (hK3).2.2) hi)) (cs_X5_51 C ⟨Nat.le_of_ble_eq_true rfl, Nat.le_of_ble_eq_true rfl⟩) (RI_mono hR0 (hK3).2.2).1 rfl rfl rfl rfl (Nat.le_of_ble_eq_true rfl) rfl rfl (by show _ ≤ 40; omega) (by show _ ≤ 1500; omega) dX5_whole_104 (fun x104 M' hq => ?_)
            obtain ⟨rfl, rfl⟩ := hq
            refine z_iald (j := ((s_ba (s_ln u) (p_ro (s_pn u i))) + sq + jx)) C ((hK3).2.2 _ _ htp0) (by rw [j_wh _ sq jx hsa rfl]; exact nI_in (by omega) (by omega)) (by rw [j_wh _ sq jx hsa rfl]; exact nI_clamp (by omega)) dX5_whole_107 ?_
            have hw4 := sb_dg_in ((ft0 ((s_ba (s_ln u) (p_ro (s_pn u i))) + sq + jx)).toNatClampNeg)
            refine z_tope (y := nI ((ft0 ((s_ba (s_ln u) (p_ro (s_pn u i))) + sq + jx)).toNatClampNeg)) (z_cN (j_val hok ht hft0 hrw (by omega) (by omega)).2).1 ?_
            have hm4 := j_B_c hB3
            have hl4 := j_cap_le (n := (j_cap (j_cap (j_cap n (c + (z_kln 2))) ((c + (z_kln 2)) + (z_kln 3))) (((c + (z_kln 2)) + (z_kln 3)) + (z_kln 4)))) (q := (((c + (z_kln 2)) + (z_kln 3)) + (z_kln 4)) + (sb_dg ((ft0 ((s_ba (s_ln u) (p_ro (s_pn u i))) + sq + jx)).toNatClampNeg))) hm4.2.2 (by omega)
            refine j_site (q := qJ4_append_bf812) (c := (((c + (z_kln 2)) + (z_kln 3)) + (z_kln 4))) (n := (j_cap (j_cap (j_cap n (c + (z_kln 2))) ((c + (z_kln 2)) + (z_kln 3))) (((c + (z_kln 2)) + (z_kln 3)) + (z_kln 4)))) (w := (sb_dg ((ft0 ((s_ba (s_ln u) (p_ro (s_pn u i))) + sq + jx)).toNatClampNeg))) (F := 3) (k0 := 2) (s0 := 20) (n0 := 16) (rest := []) (wl := (t_nm ((ft0 ((s_ba (s_ln u) (p_ro (s_pn u i))) + sq + jx)).toNatClampNeg))) C hB3 hL3 rfl (fun h9 => cs_X5_122 C h9) ⟨Nat.le_of_ble_eq_true rfl, Nat.le_of_ble_eq_true rfl⟩ (Nat.le_of_ble_eq_true rfl) (Nat.le_of_ble_eq_true rfl) (fun h9 => j_I_fit hB3 (j_v31 _) (t_nm_i (j_v31 _)) h9) (fun h9 => j_I_grow hB3 (j_v31 _) (t_nm_i (j_v31 _)) (by omega) h9) rfl rfl (Nat.le_of_ble_eq_true rfl) (by omega) (by show _ ≤ 40; omega) (by show _ ≤ 1500; omega) dX5_whole_108 (fun vc4 Mc4 hB4 hF4 hL4 => ?_)
            have hK4 := j_K_fr hK3 hF4
            have hn4 := j_cap_ge ((j_cap (j_cap (j_cap n (c + (z_kln 2))) ((c + (z_kln 2)) + (z_kln 3))) (((c + (z_kln 2)) + (z_kln 3)) + (z_kln 4)))) ((((c + (z_kln 2)) + (z_kln 3)) + (z_kln 4)) + (sb_dg ((ft0 ((s_ba (s_ln u) (p_ro (s_pn u i))) + sq + jx)).toNatClampNeg)))
            refine z_ldcK (i := 1) C (by decide) rfl dX5_whole_111 ?_
            have hw5 : z_kln 1 ≤ 1 := z_kln_in 1 (by decide)
            have hm5 := j_B_c hB4
            have hl5 := j_cap_le (n := (j_cap (j_cap (j_cap (j_cap n (c + (z_kln 2))) ((c + (z_kln 2)) + (z_kln 3))) (((c + (z_kln 2)) + (z_kln 3)) + (z_kln 4))) ((((c + (z_kln 2)) + (z_kln 3)) + (z_kln 4)) + (sb_dg ((ft0 ((s_ba (s_ln u) (p_ro (s_pn u i))) + sq + jx)).toNatClampNeg))))) (q := ((((c + (z_kln 2)) + (z_kln 3)) + (z_kln 4)) + (sb_dg ((ft0 ((s_ba (s_ln u) (p_ro (s_pn u i))) + sq + jx)).toNatClampNeg))) + (z_kln 1)) hm5.2.2 (by omega)
            refine j_site (q := qJ4_append_15ec4) (c := ((((c + (z_kln 2)) + (z_kln 3)) + (z_kln 4)) + (sb_dg ((ft0 ((s_ba (s_ln u) (p_ro (s_pn u i))) + sq + jx)).toNatClampNeg)))) (n := (j_cap (j_cap (j_cap (j_cap n (c + (z_kln 2))) ((c + (z_kln 2)) + (z_kln 3))) (((c + (z_kln 2)) + (z_kln 3)) + (z_kln 4))) ((((c + (z_kln 2)) + (z_kln 3)) + (z_kln 4)) + (sb_dg ((ft0 ((s_ba (s_ln u) (p_ro (s_pn u i))) + sq + jx)).toNatClampNeg))))) (w := (z_kln 1)) (F := 5) (k0 := 2) (s0 := 20) (n0 := 16) (rest := []) (wl := [32]) C hB4 hL4 rfl (fun h9 => cs_X5_109 C h9) ⟨Nat.le_of_ble_eq_true rfl, Nat.le_of_ble_eq_true rfl⟩ (Nat.le_of_ble_eq_true rfl) (Nat.le_of_ble_eq_true rfl) (fun h9 => j_S_fit hB4 (by decide) rfl h9) (fun h9 => j_S_grow hB4 (by decide) rfl (by omega) h9) rfl rfl (Nat.le_of_ble_eq_true rfl) (by omega) (by show _ ≤ 40; omega) (by show _ ≤ 1500; omega) dX5_whole_113 (fun vc5 Mc5 hB5 hF5 hL5 => ?_)
            have hK5 := j_K_fr hK4 hF5
            have hn5 := j_cap_ge ((j_cap (j_cap (j_cap (j_cap n (c + (z_kln 2))) ((c + (z_kln 2)) + (z_kln 3))) (((c + (z_kln 2)) + (z_kln 3)) + (z_kln 4))) ((((c + (z_kln 2)) + (z_kln 3)) + (z_kln 4)) + (sb_dg ((ft0 ((s_ba (s_ln u) (p_ro (s_pn u i))) + sq + jx)).toNatClampNeg))))) (((((c + (z_kln 2)) + (z_kln 3)) + (z_kln 4)) + (sb_dg ((ft0 ((s_ba (s_ln u) (p_ro (s_pn u i))) + sq + jx)).toNatClampNeg))) + (z_kln 1))
            refine z_pop C dX5_whole_116 rfl ?_
            refine z_iinc (v := nI (jx + 1)) (lv' := [(4, .int (nI (jx + 1))), (0, .ref m), (2, .ref (K i)), (3, .ref sb)]) C dX5_whole_117 0 rfl (nI_1 jx) (by decide) rfl ?_
            refine z_goto C (tgt := 33) dX5_whole_120 (by decide) ?_
            refine z_fewer [0, 1, 2, 3] rfl ?_
            have hje : jx + 1 ≤ cq := by omega
            exact ih (jx + 1) _ _ _ _ (by omega) (by omega) hK5 hB5 (by omega) (j_L_eq hL5 (by rw [t_w2_lo hje]; show _ = t_wh _ _ jx ++ (t_sg _ _ ++ (t_nm _ ++ [32])); simp [t_sg, c47, c62, c77]))
set_option maxRecDepth 20000 in
theorem c_X5_whole_bad (l : Launch) (G : zG) {M : zM} {m : Nat} {pane : Int32} {tp : Nat} {nr : Int32} {pn : Nat} {td : Nat} {ac : Int32} {kn : Int32} {th : Int32}  (h_m : M m = some (cMd tp nr pn td ac kn th)) (h_bad : z_is pane 0 5 = 0) : z_Mr l G qX5_whole (z_rm 11 40 1500) [.ref m, .int pane] M (fun r M' => r = zK G 0 ∧ M' = z_up M m (cMd tp nr pn td ac kn (z_lt (z_is pane 0 5) 1)))  := by
  refine z_Mr_of _ (plainFor_of_name rfl) rfl (by first | exact Or.inl ⟨_, rfl⟩ | exact Or.inr ⟨_, rfl⟩) (Nat.le_of_ble_eq_true rfl) (fun X hl hG hnm C ret => ?_)
  subst hl; subst hG
  have C : z_C X cX5_whole RX5 5 (z_rm 11 40 1500) := C
  show z_W X M 0 0 0 [(0, .ref m), (1, .int pane)] []
  refine z_aload_n C dX5_whole_0 rfl 0 rfl ?_
  refine z_iload_n C dX5_whole_1 rfl 1 rfl ?_
  refine z_callSi (rest := [.ref m]) (k' := 0) (n' := 0) C (c_X5_isPane (z_l X) (z_G X) ) (cs_X5_55 C (by decide)) rfl rfl (Nat.le_of_ble_eq_true rfl) rfl rfl (by decide) (by decide) dX5_whole_2 (fun x2 M' hq => ?_)
  obtain ⟨rfl, rfl⟩ := hq
  refine z_iconst C (v := 1) dX5_whole_5 (by decide) ?_
  refine z_callVi (rest := []) (k' := 0) (n' := 0) C (c_X5_isLet (z_l X) (z_G X) h_m) (cs_X5_59 C (by decide)) h_m rfl rfl rfl rfl (Nat.le_of_ble_eq_true rfl) rfl rfl (by decide) (by decide) dX5_whole_6 (fun x6 M' hq => ?_)
  obtain ⟨rfl, rfl⟩ := hq
  refine z_if_ne C (tgt := 15) dX5_whole_9 (by decide) (fun c9 => absurd (by simp [z_lr, z_lt, h_bad]) c9) (fun _ => ?_)
  refine z_ldcK (i := 0) C (by decide) rfl dX5_whole_12 ?_
  exact ret dX5_whole_14 (⟨rfl, rfl⟩) (by decide) (by decide)
set_option maxRecDepth 20000 in
theorem g_X5_whole (l : Launch) {G : zG} {u : sS} {m : Nat} {th : Int32} {K : Nat → Nat} {tp pn td : Nat} {Mw : zM} (hR : RI G u m th K tp pn td Mw) {t : Nat} (hok : s_ok t u) (ht : t ≤ 64) {pane : Int32} (h_ok : z_is pane 0 5 = 1) (h_ip : vp_in pane 6) (hi : pane.toNatClampNeg < 6) : z_Mr l G qX5_whole (z_rm 11 40 1500) [.ref m, .int pane] Mw (RT9 G m pn td (z_lt (z_is pane 0 5) 1) u (fun ls => ls = t_whole u pane.toNatClampNeg))  := by
  obtain ⟨ft, htp, hft⟩ := RI_tpf hR
  obtain ⟨fp, hpn, hfp⟩ := RI_pnf hR
  obtain ⟨sq, pq, lq, cq, hsa, hpo, hli, hcp, g1, g2, g3, g4⟩ := j_sa hok hi
  have hrw := s_row hok hi
  have hnt := s_ba_nt hok ht
  have hbl := s_ba_lt (s_ln u) hrw
  refine z_Mr_of _ (plainFor_of_name rfl) rfl (by first | exact Or.inl ⟨_, rfl⟩ | exact Or.inr ⟨_, rfl⟩) (Nat.le_of_ble_eq_true rfl) (fun X hl hG hnm C ret => ?_)
  subst hl; subst hG
  have C : z_C X cX5_whole RX5 5 (z_rm 11 40 1500) := C
  show z_W X Mw 0 0 0 [(0, .ref m), (1, .int pane)] []
  refine z_aload_n C dX5_whole_0 rfl 0 rfl ?_
  refine z_iload_n C dX5_whole_1 rfl 1 rfl ?_
  refine z_callSi (rest := [.ref m]) (k' := 0) (n' := 0) C (c_X5_isPane (z_l X) (z_G X) ) (cs_X5_55 C ⟨Nat.le_of_ble_eq_true rfl, Nat.le_of_ble_eq_true rfl⟩) rfl rfl (Nat.le_of_ble_eq_true rfl) rfl rfl (by show _ ≤ 40; omega) (by show _ ≤ 1500; omega) dX5_whole_2 (fun x2 M' hq => ?_)
  obtain ⟨rfl, rfl⟩ := hq
  refine z_iconst C (v := 1) dX5_whole_5 (by decide) ?_
  refine z_callVi (rest := []) (k' := 0) (n' := 0) C (c_X5_isLet (z_l X) (z_G X) hR.1) (cs_X5_59 C ⟨Nat.le_of_ble_eq_true rfl, Nat.le_of_ble_eq_true rfl⟩) hR.1 rfl rfl rfl rfl (Nat.le_of_ble_eq_true rfl) rfl rfl (by show _ ≤ 40; omega) (by show _ ≤ 1500; omega) dX5_whole_6 (fun x6 M' hq => ?_)
  obtain ⟨rfl, rfl⟩ := hq
  refine z_if_ne C (tgt := 15) dX5_whole_9 (by decide) (fun _ => ?_) (fun c9 => absurd c9 (by simp [z_lr, z_lt, h_ok]))
  refine z_opq (fun Mb hWb => ?_)
  have hR0 : RI (z_G X) u m (z_lt (z_is pane 0 5) 1) K tp pn td Mb := by
    rw [hWb]
    exact RI_ak hR _ _ _
  clear hWb
  obtain ⟨ft0, htp0, hft0⟩ := RI_tpf hR0
  obtain ⟨fp0, hpn0, hfp0⟩ := RI_pnf hR0
  refine z_aload_n C dX5_whole_15 rfl 0 rfl ?_
  refine gf_X5_18 C hR0.1 dX5_whole_16 ?_
  refine z_iload_n C dX5_whole_19 rfl 1 rfl ?_
  refine z_aaldI (j := pane.toNatClampNeg) C hpn0 h_ip rfl (hfp0 _ hi) dX5_whole_20 ?_
  refine z_astore_n (lv' := [(2, .ref (K pane.toNatClampNeg)), (0, .ref m), (1, .int pane)]) C dX5_whole_21 rfl (by decide) rfl ?_
  refine z_new (ci := 1) (fs := [.null, .int 0, .int 0, .int 0]) C rfl inJ4 tyJ4 tyJ4_ok kw1257 kw96 kw6 (fun j hj => by rcases (show j = 0 ∨ j = 1 ∨ j = 2 ∨ j = 3 by omega) with rfl | rfl | rfl | rfl <;> rfl) (by show _ ≤ 40; omega) (by show _ ≤ 1500; omega) dX5_whole_22 (fun q22 hq22 => ?_)
  refine z_kn (k' := 1) (n' := 4) rfl rfl ?_
  refine z_dup C dX5_whole_25 rfl ?_
  refine z_callI (rest := [.ref q22]) (k' := 2) (n' := 20) C (c_J4_init_da8c8 (z_l X) (z_G X) (z_up_s _ _ _)) (cs_X5_108 C ⟨Nat.le_of_ble_eq_true rfl, Nat.le_of_ble_eq_true rfl⟩) rfl rfl (Nat.le_of_ble_eq_true rfl) rfl rfl (by show _ ≤ 40; omega) (by show _ ≤ 1500; omega) dX5_whole_26 (fun M' hq => ?_)
  obtain ⟨q12_3_26, hq12_3_26, rfl⟩ := hq
  rw [z_up_swap _ (z_neN (z_up_s _ _ _) hq12_3_26)]
  rw [z_up_up]
  refine z_opq (fun Mb hWb => ?_)
  obtain ⟨hBn, hKn⟩ := j_newSB hq22 hq12_3_26 hWb
  clear hWb
  refine z_kn (k' := 2 + (16 - 16) / 16) (n' := 20 + 2 * (16 - 16)) rfl rfl ?_
  generalize q22 = sb at hBn hKn ⊢
  have hLn := j_L0 hBn
  refine z_astore_n (lv' := [(3, .ref sb), (2, .ref (K pane.toNatClampNeg)), (0, .ref m), (1, .int pane)]) C dX5_whole_29 rfl (by decide) rfl ?_
  refine z_iconst C (v := 0) dX5_whole_30 (by decide) ?_
  refine z_istore (lv' := [(4, .int 0), (3, .ref sb), (2, .ref (K pane.toNatClampNeg)), (0, .ref m), (1, .int pane)]) C dX5_whole_31 (by decide) rfl ?_
  refine z_fewer [0, 3, 2, 1] rfl ?_
  refine z_at (M' := _) (lv' := [(4, .int (nI 0)), (0, .ref m), (2, .ref (K pane.toNatClampNeg)), (3, .ref sb)]) rfl (by rw [nI_0]; rfl) rfl ?_
  refine lp_X5_whole C hR0 hok ht hi htp0 hft0 hsa hcp g3 g4 hrw (by omega) hbl (fun c1 n1 vb1 Mz hc1 hn1 h1 h2 h3 => ?_) (cq + 1) 0 0 16 _ _ (by omega) (by omega) hKn hBn (Nat.le_refl _) (j_L_eq hLn (by rw [t_w2_lo (Nat.zero_le _)]; rfl))
  refine z_aload_n C dX5_whole_123 rfl 0 rfl ?_
  obtain ⟨ml9, hs9⟩ := j_sbE h2
  have hm9 := j_B_c h2
  refine z_callVr (rest := []) (k' := 2 + (n1 - 16) / 16 + 2) (n' := 20 + 2 * (n1 - 16) + (4 + c1)) C (j_toStrR (z_l X) h2 h3 h1 (by omega)) (cs_X5_116 C ⟨Nat.le_of_ble_eq_true rfl, Nat.le_of_ble_eq_true rfl⟩) hs9 rfl rfl rfl rfl (Nat.le_of_ble_eq_true rfl) rfl rfl (by show _ ≤ 40; omega) (by show _ ≤ 1500; omega) dX5_whole_124 (fun x124 Mq124 hq => ?_)
  obtain ⟨hSt, hk9⟩ := hq
  refine ret dX5_whole_127 ?_ (by show _ ≤ 40; omega) (by show _ ≤ 1500; omega)
  exact ⟨⟨_, _, RI_mono hR0 hk9⟩, fun _ => ⟨_, t_whole_r hft0 hrw hsa hcp g3 g4 (by have := s_lnc hok (p_ro (s_pn u pane.toNatClampNeg)); omega), hSt⟩⟩
theorem a_X5_whole (l : Launch) {G : zG} {u : sS} {m : Nat} {th : Int32} {K : Nat → Nat} {tp pn td : Nat} {Mw : zM} (hR : RI G u m th K tp pn td Mw) {t : Nat} (hok : s_ok t u) (ht : t ≤ 64) (pane : Int32) : z_Mr l G qX5_whole (z_rm 11 40 1500) [.ref m, .int pane] Mw (RT9 G m pn td (z_lt (z_is pane 0 5) 1) u (fun ls => ls = t_whole u pane.toNatClampNeg)) := by
  rcases z_pc pane with ⟨h_ok, h_ip, hi⟩ | ⟨h_bad, -⟩
  · exact g_X5_whole l hR hok ht h_ok h_ip hi
  · refine z_Mr_mono (c_X5_whole_bad l G hR.1 h_bad) ?_
    rintro r M' ⟨hr9, rfl⟩
    have e9 : z_lt (z_is pane 0 5) 1 = 1 := by rw [h_bad]; rfl
    exact ⟨⟨_, _, by first | exact RI_ak hR _ _ _ | (rw [e9]; exact RI_ak hR _ _ _) | (simp only [z_lt, h_bad]; exact RI_ak hR _ _ _)⟩, fun h => absurd (e9.symm.trans h) (by decide)⟩
set_option maxRecDepth 20000 in
theorem lp_X5_total {X : zX} (C : z_C X cX5_total RX5 5 (z_rm 11 40 1500)) {u : sS} {m : Nat} {th : Int32} {K : Nat → Nat} {tp pn td : Nat} {R0 : zM} (hR0 : RI (z_G X) u m th K tp pn td R0) {t : Nat} (hok : s_ok t u) (ht : t ≤ 64) {pane : Int32} (h_ip : vp_in pane 6) (hi : pane.toNatClampNeg < 6) {fp0 : Nat → Option Nat} (hpn0 : R0 pn = some (aII (z_G X) 6 fp0)) (hfp0 : ∀ i, i < 6 → fp0 i = some (K i)) {ft0 : Nat → Int32} (htp0 : R0 tp = some (aI (z_G X) (s_ba (s_ln u) (s_nr u)) ft0)) (hft0 : ∀ r, r < s_nr u → ∀ j, j < s_ln u r → ft0 (s_ba (s_ln u) r + j) = s_vl u r j) {sq cq : Nat} (hsa : p_sa (s_pn u pane.toNatClampNeg) = nI sq) (hcp : p_cp (s_pn u pane.toNatClampNeg) = nI cq) (h16 : cq ≤ 16) (hsc : sq + cq ≤ s_ln u (p_ro (s_pn u pane.toNatClampNeg))) (hrw : p_ro (s_pn u pane.toNatClampNeg) < s_nr u) (hnt : s_ba (s_ln u) (s_nr u) < 90000) (hbl : s_ba (s_ln u) (p_ro (s_pn u pane.toNatClampNeg)) + s_ln u (p_ro (s_pn u pane.toNatClampNeg)) ≤ s_ba (s_ln u) (s_nr u)) {pq lq : Nat} (hli : p_li (s_pn u pane.toNatClampNeg) = nI lq) (hlc : lq ≤ cq) (kk : ∀ S, S ≤ 34359738352 → S = t_su (fun j => (ft0 (s_ba (s_ln u) (p_ro (s_pn u pane.toNatClampNeg)) + sq + j)).toNatClampNeg) pq (lq - pq) → z_W X R0 0 0 67 [(2, .long (lN S)), (0, .ref m)] []) : ∀ (d jx S : Nat), jx + d = lq → pq ≤ jx → S ≤ (jx - pq) * 2147483647 → S = t_su (fun j => (ft0 (s_ba (s_ln u) (p_ro (s_pn u pane.toNatClampNeg)) + sq + j)).toNatClampNeg) pq (jx - pq) → z_W X R0 0 0 27 [(2, .long (lN S)), (4, .int (nI jx)), (0, .ref m), (1, .int pane)] [] := by
  intro d
  induction d with
  | zero =>
    intro jx S hd hj hS hq9
    refine z_iload C dX5_total_27 1 rfl ?_
    refine z_aload_n C dX5_total_29 rfl 2 rfl ?_
    refine gf_X5_18 C hR0.1 dX5_total_30 ?_
    refine z_iload_n C dX5_total_33 rfl 3 rfl ?_
    refine z_aaldI (j := pane.toNatClampNeg) C hpn0 h_ip rfl (hfp0 _ hi) dX5_total_34 ?_
    refine z_iconst C (v := 5) dX5_total_35 (by decide) ?_
    refine z_pl5 C (RI_K hR0 hi) dX5_total_36 ?_
    refine z_icmp_ge C (tgt := 67) dX5_total_37 (by decide) (fun _ => ?_) (fun c37 => absurd (by rw [hli]; exact nI_le (by omega) (by omega)) c37)
    refine z_fewer [0, 2] rfl ?_
    have hx9 : jx - pq ≤ 16 := by omega
    exact kk S (Nat.le_trans hS (Nat.le_trans (Nat.mul_le_mul_right _ hx9) (Nat.le_of_ble_eq_true rfl))) (by rw [show lq = jx by omega]; exact hq9)
  | succ d ih =>
    intro jx S hd hj hS hq9
    refine z_iload C dX5_total_27 1 rfl ?_
    refine z_aload_n C dX5_total_29 rfl 2 rfl ?_
    refine gf_X5_18 C hR0.1 dX5_total_30 ?_
    refine z_iload_n C dX5_total_33 rfl 3 rfl ?_
    refine z_aaldI (j := pane.toNatClampNeg) C hpn0 h_ip rfl (hfp0 _ hi) dX5_total_34 ?_
    refine z_iconst C (v := 5) dX5_total_35 (by decide) ?_
    refine z_pl5 C (RI_K hR0 hi) dX5_total_36 ?_
    refine z_icmp_ge C (tgt := 67) dX5_total_37 (by decide) (fun c37 => absurd c37 (by rw [hli]; exact nI_ge (by omega) (by omega))) (fun _ => ?_)
    refine z_lload_n C dX5_total_40 rfl 0 rfl ?_
    refine z_aload_n C dX5_total_41 rfl 2 rfl ?_
    refine gf_X5_9 C hR0.1 dX5_total_42 ?_
    refine z_aload_n C dX5_total_45 rfl 2 rfl ?_
    refine z_aload_n C dX5_total_46 rfl 2 rfl ?_
    refine gf_X5_18 C hR0.1 dX5_total_47 ?_
    refine z_iload_n C dX5_total_50 rfl 3 rfl ?_
    refine z_aaldI (j := pane.toNatClampNeg) C hpn0 h_ip rfl (hfp0 _ hi) dX5_total_51 ?_
    refine z_iload C dX5_total_52 1 rfl ?_
    refine z_callVi (rest := [.ref tp, .long (lN S)]) (k' := 0) (n' := 0) C (c_X5_where (z_l X) (z_G X) (RI_K hR0 hi)) (cs_X5_51 C ⟨Nat.le_of_ble_eq_true rfl, Nat.le_of_ble_eq_true rfl⟩) hR0.1 rfl rfl rfl rfl (Nat.le_of_ble_eq_true rfl) rfl rfl (Nat.le_of_ble_eq_true rfl) (Nat.le_of_ble_eq_true rfl) dX5_total_54 (fun x54 M' hq => ?_)
    obtain ⟨rfl, rfl⟩ := hq
    refine z_iald (j := ((s_ba (s_ln u) (p_ro (s_pn u pane.toNatClampNeg))) + sq + jx)) C htp0 (by rw [j_wh _ sq jx hsa rfl]; exact nI_in (by omega) (by omega)) (by rw [j_wh _ sq jx hsa rfl]; exact nI_clamp (by omega)) dX5_total_57 ?_
    refine z_i2l C dX5_total_58 ?_
    rw [show (((ft0 ((s_ba (s_ln u) (p_ro (s_pn u pane.toNatClampNeg))) + sq + jx)).toInt64) : Int64) = (lN (ft0 ((s_ba (s_ln u) (p_ro (s_pn u pane.toNatClampNeg))) + sq + jx)).toNatClampNeg) from (j_i2l (j_val hok ht hft0 hrw (by omega) (by omega)).2)]
    refine z_ladd C dX5_total_59 ?_
    rw [show (((lN S) + (lN (ft0 ((s_ba (s_ln u) (p_ro (s_pn u pane.toNatClampNeg))) + sq + jx)).toNatClampNeg)) : Int64) = (lN (S + (ft0 ((s_ba (s_ln u) (p_ro (s_pn u pane.toNatClampNeg))) + sq + jx)).toNatClampNeg)) from (lN_add _ _)]
    refine z_lstore_n (lv' := [(2, .long (lN (S + (ft0 ((s_ba (s_ln u) (p_ro (s_pn u pane.toNatClampNeg))) + sq + jx)).toNatClampNeg))), (4, .int (nI jx)), (0, .ref m), (1, .int pane)]) C dX5_total_60 rfl (by decide) rfl ?_
    refine z_iinc (v := nI (jx + 1)) (lv' := [(4, .int (nI (jx + 1))), (2, .long (lN (S + (ft0 ((s_ba (s_ln u) (p_ro (s_pn u pane.toNatClampNeg))) + sq + jx)).toNatClampNeg))), (0, .ref m), (1, .int pane)]) C dX5_total_61 1 rfl (nI_1 jx) (by decide) rfl ?_
    refine z_goto C (tgt := 27) dX5_total_64 (by decide) ?_
    refine z_fewer [1, 0, 2, 3] rfl ?_
    have hv9 := j_v31 (ft0 ((s_ba (s_ln u) (p_ro (s_pn u pane.toNatClampNeg))) + sq + jx))
    exact ih (jx + 1) _ (by omega) (by omega) (by omega) (by rw [hq9]; exact t_su_s (g := (fun j => (ft0 (s_ba (s_ln u) (p_ro (s_pn u pane.toNatClampNeg)) + sq + j)).toNatClampNeg)) hj)
set_option maxRecDepth 20000 in
theorem c_X5_total_bad (l : Launch) (G : zG) {M : zM} {m : Nat} {pane : Int32} {tp : Nat} {nr : Int32} {pn : Nat} {td : Nat} {ac : Int32} {kn : Int32} {th : Int32}  (h_m : M m = some (cMd tp nr pn td ac kn th)) (h_bad : z_is pane 0 5 = 0) : z_Mr l G qX5_total (z_rm 11 40 1500) [.ref m, .int pane] M (fun r M' => r = zK G 0 ∧ M' = z_up M m (cMd tp nr pn td ac kn (z_lt (z_is pane 0 5) 1)))  := by
  refine z_Mr_of _ (plainFor_of_name rfl) rfl (by first | exact Or.inl ⟨_, rfl⟩ | exact Or.inr ⟨_, rfl⟩) (Nat.le_of_ble_eq_true rfl) (fun X hl hG hnm C ret => ?_)
  subst hl; subst hG
  have C : z_C X cX5_total RX5 5 (z_rm 11 40 1500) := C
  show z_W X M 0 0 0 [(0, .ref m), (1, .int pane)] []
  refine z_aload_n C dX5_total_0 rfl 0 rfl ?_
  refine z_iload_n C dX5_total_1 rfl 1 rfl ?_
  refine z_callSi (rest := [.ref m]) (k' := 0) (n' := 0) C (c_X5_isPane (z_l X) (z_G X) ) (cs_X5_55 C (by decide)) rfl rfl (Nat.le_of_ble_eq_true rfl) rfl rfl (by decide) (by decide) dX5_total_2 (fun x2 M' hq => ?_)
  obtain ⟨rfl, rfl⟩ := hq
  refine z_iconst C (v := 1) dX5_total_5 (by decide) ?_
  refine z_callVi (rest := []) (k' := 0) (n' := 0) C (c_X5_isLet (z_l X) (z_G X) h_m) (cs_X5_59 C (by decide)) h_m rfl rfl rfl rfl (Nat.le_of_ble_eq_true rfl) rfl rfl (by decide) (by decide) dX5_total_6 (fun x6 M' hq => ?_)
  obtain ⟨rfl, rfl⟩ := hq
  refine z_if_ne C (tgt := 15) dX5_total_9 (by decide) (fun c9 => absurd (by simp [z_lr, z_lt, h_bad]) c9) (fun _ => ?_)
  refine z_ldcK (i := 0) C (by decide) rfl dX5_total_12 ?_
  exact ret dX5_total_14 (⟨rfl, rfl⟩) (by decide) (by decide)
set_option maxRecDepth 20000 in
theorem g_X5_total (l : Launch) {G : zG} {u : sS} {m : Nat} {th : Int32} {K : Nat → Nat} {tp pn td : Nat} {Mw : zM} (hR : RI G u m th K tp pn td Mw) {t : Nat} (hok : s_ok t u) (ht : t ≤ 64) {pane : Int32} (h_ok : z_is pane 0 5 = 1) (h_ip : vp_in pane 6) (hi : pane.toNatClampNeg < 6) : z_Mr l G qX5_total (z_rm 11 40 1500) [.ref m, .int pane] Mw (RT9 G m pn td (z_lt (z_is pane 0 5) 1) u (fun ls => ls = t_total u pane.toNatClampNeg))  := by
  obtain ⟨ft, htp, hft⟩ := RI_tpf hR
  obtain ⟨fp, hpn, hfp⟩ := RI_pnf hR
  obtain ⟨sq, pq, lq, cq, hsa, hpo, hli, hcp, g1, g2, g3, g4⟩ := j_sa hok hi
  have hrw := s_row hok hi
  have hnt := s_ba_nt hok ht
  have hbl := s_ba_lt (s_ln u) hrw
  refine z_Mr_of _ (plainFor_of_name rfl) rfl (by first | exact Or.inl ⟨_, rfl⟩ | exact Or.inr ⟨_, rfl⟩) (Nat.le_of_ble_eq_true rfl) (fun X hl hG hnm C ret => ?_)
  subst hl; subst hG
  have C : z_C X cX5_total RX5 5 (z_rm 11 40 1500) := C
  show z_W X Mw 0 0 0 [(0, .ref m), (1, .int pane)] []
  refine z_aload_n C dX5_total_0 rfl 0 rfl ?_
  refine z_iload_n C dX5_total_1 rfl 1 rfl ?_
  refine z_callSi (rest := [.ref m]) (k' := 0) (n' := 0) C (c_X5_isPane (z_l X) (z_G X) ) (cs_X5_55 C ⟨Nat.le_of_ble_eq_true rfl, Nat.le_of_ble_eq_true rfl⟩) rfl rfl (Nat.le_of_ble_eq_true rfl) rfl rfl (by show _ ≤ 40; omega) (by show _ ≤ 1500; omega) dX5_total_2 (fun x2 M' hq => ?_)
  obtain ⟨rfl, rfl⟩ := hq
  refine z_iconst C (v := 1) dX5_total_5 (by decide) ?_
  refine z_callVi (rest := []) (k' := 0) (n' := 0) C (c_X5_isLet (z_l X) (z_G X) hR.1) (cs_X5_59 C ⟨Nat.le_of_ble_eq_true rfl, Nat.le_of_ble_eq_true rfl⟩) hR.1 rfl rfl rfl rfl (Nat.le_of_ble_eq_true rfl) rfl rfl (by show _ ≤ 40; omega) (by show _ ≤ 1500; omega) dX5_total_6 (fun x6 M' hq => ?_)
  obtain ⟨rfl, rfl⟩ := hq
  refine z_if_ne C (tgt := 15) dX5_total_9 (by decide) (fun _ => ?_) (fun c9 => absurd c9 (by simp [z_lr, z_lt, h_ok]))
  refine z_opq (fun Mb hWb => ?_)
  have hR0 : RI (z_G X) u m (z_lt (z_is pane 0 5) 1) K tp pn td Mb := by
    rw [hWb]
    exact RI_ak hR _ _ _
  clear hWb
  obtain ⟨ft0, htp0, hft0⟩ := RI_tpf hR0
  obtain ⟨fp0, hpn0, hfp0⟩ := RI_pnf hR0
  refine z_lconst C (v := 0) dX5_total_15 (by decide) ?_
  refine z_lstore_n (lv' := [(2, .long 0), (0, .ref m), (1, .int pane)]) C dX5_total_16 rfl (by decide) rfl ?_
  refine z_aload_n C dX5_total_17 rfl 1 rfl ?_
  refine gf_X5_18 C hR0.1 dX5_total_18 ?_
  refine z_iload_n C dX5_total_21 rfl 2 rfl ?_
  refine z_aaldI (j := pane.toNatClampNeg) C hpn0 h_ip rfl (hfp0 _ hi) dX5_total_22 ?_
  refine z_iconst C (v := 4) dX5_total_23 (by decide) ?_
  refine z_pl4 C (RI_K hR0 hi) dX5_total_24 ?_
  refine z_istore (lv' := [(4, .int (p_po (s_pn u pane.toNatClampNeg))), (2, .long 0), (0, .ref m), (1, .int pane)]) C dX5_total_25 (by decide) rfl ?_
  refine z_fewer [1, 0, 2, 3] rfl ?_
  refine z_at (M' := _) (lv' := [(2, .long (lN 0)), (4, .int (nI pq)), (0, .ref m), (1, .int pane)]) rfl (by rw [← hpo]; rfl) rfl ?_
  refine lp_X5_total (pq := pq) C hR0 hok ht h_ip hi hpn0 hfp0 htp0 hft0 hsa hcp g3 g4 hrw (by omega) hbl hli g2 (fun S hS hS2 => ?_) (lq - pq) pq 0 (by omega) (Nat.le_refl _) (by omega) (by rw [Nat.sub_self]; exact (rfl : 0 = t_su _ pq 0))
  refine z_new (ci := 1) (fs := [.null, .int 0, .int 0, .int 0]) C rfl inJ4 tyJ4 tyJ4_ok kw1257 kw96 kw6 (fun j hj => by rcases (show j = 0 ∨ j = 1 ∨ j = 2 ∨ j = 3 by omega) with rfl | rfl | rfl | rfl <;> rfl) (by show _ ≤ 40; omega) (by show _ ≤ 1500; omega) dX5_total_67 (fun q67 hq67 => ?_)
  refine z_kn (k' := 1) (n' := 4) rfl rfl ?_
  refine z_dup C dX5_total_70 rfl ?_
  refine z_callI (rest := [.ref q67]) (k' := 2) (n' := 20) C (c_J4_init_da8c8 (z_l X) (z_G X) (z_up_s _ _ _)) (cs_X5_108 C ⟨Nat.le_of_ble_eq_true rfl, Nat.le_of_ble_eq_true rfl⟩) rfl rfl (Nat.le_of_ble_eq_true rfl) rfl rfl (by show _ ≤ 40; omega) (by show _ ≤ 1500; omega) dX5_total_71 (fun M' hq => ?_)
  obtain ⟨q12_3_71, hq12_3_71, rfl⟩ := hq
  rw [z_up_swap _ (z_neN (z_up_s _ _ _) hq12_3_71)]
  rw [z_up_up]
  refine z_opq (fun Mb hWb => ?_)
  obtain ⟨hBn, hKn⟩ := j_newSB hq67 hq12_3_71 hWb
  clear hWb
  refine z_kn (k' := 2 + (16 - 16) / 16) (n' := 20 + 2 * (16 - 16)) rfl rfl ?_
  generalize q67 = sb at hBn hKn ⊢
  have hLn := j_L0 hBn
  refine z_ldcK (i := 0) C (by decide) rfl dX5_total_74 ?_
  obtain ⟨ml0, hs0⟩ := j_sbE hBn
  refine z_callVr (rest := []) (k' := 2 + (16 - 16) / 16) (n' := 20 + 2 * (16 - 16)) C (j_S_fit (wl := []) hBn (i := 0) (by decide) rfl (by decide)) (cs_X5_109 C ⟨Nat.le_of_ble_eq_true rfl, Nat.le_of_ble_eq_true rfl⟩) hs0 rfl rfl rfl rfl (Nat.le_of_ble_eq_true rfl) rfl rfl (by show _ ≤ 40; omega) (by show _ ≤ 1500; omega) dX5_total_76 (fun x76 Mq76 hq => ?_)
  obtain ⟨hr9, vb1, hB1, hF1, hl1⟩ := hq
  rw [hr9]
  have hK1 := j_K_fr hKn hF1
  obtain ⟨ml1, hs1⟩ := j_sbE hB1
  refine z_lload_n C dX5_total_79 rfl 0 rfl ?_
  have hd9 := j_dgl_in (v := S)
  have hz9 : z_kln 0 = 0 := rfl
  refine z_callVr (rest := []) (k' := 2 + (16 - 16) / 16) (n' := 20 + 2 * (16 - 16)) C (j_J_fit hB1 (v := S) (by omega) (t_nmJ (by omega)) (by omega)) (cs_X5_113 C ⟨Nat.le_of_ble_eq_true rfl, Nat.le_of_ble_eq_true rfl⟩) hs1 rfl rfl rfl rfl (Nat.le_of_ble_eq_true rfl) rfl rfl (by show _ ≤ 40; omega) (by show _ ≤ 1500; omega) dX5_total_80 (fun x80 Mq80 hq => ?_)
  obtain ⟨hr8, vb2, hB2, hF2, hl2⟩ := hq
  rw [hr8]
  have hK2 := j_K_fr hK1 hF2
  obtain ⟨ml9, hs9⟩ := j_sbE hB2
  have hm9 := j_B_c hB2
  refine z_callVr (rest := []) (k' := 2 + (16 - 16) / 16 + 2) (n' := 20 + 2 * (16 - 16) + (4 + (0 + z_kln 0 + j_dgl S))) C (j_toStrR (z_l X) hB2 (hl2 _ (hl1 _ hLn)) hK2 (by omega)) (cs_X5_116 C ⟨Nat.le_of_ble_eq_true rfl, Nat.le_of_ble_eq_true rfl⟩) hs9 rfl rfl rfl rfl (Nat.le_of_ble_eq_true rfl) rfl rfl (by show _ ≤ 40; omega) (by show _ ≤ 1500; omega) dX5_total_83 (fun x83 Mq83 hq => ?_)
  obtain ⟨hSt, hk9⟩ := hq
  refine ret dX5_total_86 ?_ (by show _ ≤ 40; omega) (by show _ ≤ 1500; omega)
  exact ⟨⟨_, _, RI_mono hR0 hk9⟩, fun _ => ⟨_, t_total_r hft0 hrw hsa hpo hli g1 g2 g3 g4 (by have := s_lnc hok (p_ro (s_pn u pane.toNatClampNeg)); omega) hS2, hSt⟩⟩
theorem a_X5_total (l : Launch) {G : zG} {u : sS} {m : Nat} {th : Int32} {K : Nat → Nat} {tp pn td : Nat} {Mw : zM} (hR : RI G u m th K tp pn td Mw) {t : Nat} (hok : s_ok t u) (ht : t ≤ 64) (pane : Int32) : z_Mr l G qX5_total (z_rm 11 40 1500) [.ref m, .int pane] Mw (RT9 G m pn td (z_lt (z_is pane 0 5) 1) u (fun ls => ls = t_total u pane.toNatClampNeg)) := by
  rcases z_pc pane with ⟨h_ok, h_ip, hi⟩ | ⟨h_bad, -⟩
  · exact g_X5_total l hR hok ht h_ok h_ip hi
  · refine z_Mr_mono (c_X5_total_bad l G hR.1 h_bad) ?_
    rintro r M' ⟨hr9, rfl⟩
    have e9 : z_lt (z_is pane 0 5) 1 = 1 := by rw [h_bad]; rfl
    exact ⟨⟨_, _, by first | exact RI_ak hR _ _ _ | (rw [e9]; exact RI_ak hR _ _ _) | (simp only [z_lt, h_bad]; exact RI_ak hR _ _ _)⟩, fun h => absurd (e9.symm.trans h) (by decide)⟩
