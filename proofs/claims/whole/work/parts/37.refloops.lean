section RIP
variable {G : zG} {u : sS} {m : Nat} {th : Int32} {K : Nat → Nat} {tp pn td : Nat} {R : zM}
theorem RI_K (h : RI G u m th K tp pn td R) {i : Nat} (hi : i < 6) : R (K i) = some (cPm G (nI (p_ro (s_pn u i))) (nI (s_ba (s_ln u) (p_ro (s_pn u i)))) (p_sa (s_pn u i)) (p_cp (s_pn u i)) (p_po (s_pn u i)) (p_li (s_pn u i)) (p_mk (s_pn u i)) (p_rd (s_pn u i))) := h.2.2.2.2.1 i hi
theorem RI_tdf (h : RI G u m th K tp pn td R) : R td = some (aI G 6 (s_td u)) := h.2.2.2.1
theorem RI_tpf (h : RI G u m th K tp pn td R) : ∃ ft : Nat → Int32, R tp = some (aI G (s_ba (s_ln u) (s_nr u)) ft) ∧ ∀ r, r < s_nr u → ∀ j, j < s_ln u r → ft (s_ba (s_ln u) r + j) = s_vl u r j := h.2.1
theorem RI_pnf (h : RI G u m th K tp pn td R) : ∃ fp : Nat → Option Nat, R pn = some (aII G 6 fp) ∧ ∀ i, i < 6 → fp i = some (K i) := h.2.2.1
theorem RI_n1 (h : RI G u m th K tp pn td R) {i : Nat} (hi : i < 6) : K i ≠ td := h.2.2.2.2.2.2.1 i hi
theorem RI_n2 (h : RI G u m th K tp pn td R) {i : Nat} (hi : i < 6) : K i ≠ tp := h.2.2.2.2.2.2.2.1 i hi
theorem RI_n3 (h : RI G u m th K tp pn td R) : td ≠ tp := h.2.2.2.2.2.2.2.2
theorem a_X5_puts (l : Launch) (h : RI G u m th K tp pn td R) {t : Nat} (hok : s_ok t u) (ht : t ≤ 64) {i : Nat} (hi : i < 6) (v : Int32) : z_Mi l G qX5_puts (z_rm 3 0 0) [.ref m, .ref (K i), .int v] R (fun r M' => r = (s_put1 u i v).1 ∧ RI G (s_put1 u i v).2 m th K tp pn td M') := by
  obtain ⟨ft, htp, hft⟩ := RI_tpf h
  refine z_Mi_mono (c_X5_puts l G h.1 (RI_tdf h) htp (RI_K h hi) (RI_n2 h hi) (RI_n1 h hi) (RI_n3 h) (s_or hok ht hi)) ?_
  rintro r M' (⟨c1, c2, hr9, rfl⟩ | ⟨c1, c2, hr9, rfl⟩ | ⟨c1, hr9, rfl⟩)
  · have e : s_put1 u i v = (0, s_up (s_wr u (p_ro (s_pn u i)) (p_at (s_pn u i) (p_po (s_pn u i))) v) i (p_po' (s_pn u i) (p_po (s_pn u i) + 1))) := by
      unfold s_put1
      rw [if_neg c1, if_neg c2]
    rw [e]
    exact ⟨hr9, RI_pn (RI_wr h (s_row hok hi) (s_atlt (s_inP hok hi c2)) (s_wh' hok ht hi (s_inP hok hi c2)) htp v) hi (p_po' (s_pn u i) (p_po (s_pn u i) + 1))⟩
  · have e : s_put1 u i v = (1, s_tel u 1) := by
      unfold s_put1
      rw [if_neg c1, if_pos c2]
    rw [e]
    exact ⟨hr9, RI_td h _⟩
  · have e : s_put1 u i v = (4, s_tel u 4) := by
      unfold s_put1
      rw [if_pos c1]
    rw [e]
    exact ⟨hr9, RI_td h _⟩
theorem a_X5_moved (l : Launch) (h : RI G u m th K tp pn td R) {i : Nat} (hi : i < 6) (y : Int32) : z_Mv l G qX5_moved (z_rm 1 0 0) [.ref m, .ref (K i), .int y] R (fun M' => RI G (s_up u i (p_mv (s_pn u i) y)) m th K tp pn td M') := by
  refine z_Mv_mono (c_X5_moved l G (RI_K h hi)) ?_
  rintro M' (⟨c, rfl⟩ | ⟨c, rfl⟩)
  · have e : p_mv (s_pn u i) y = (p_ro (s_pn u i), p_sa (s_pn u i), p_cp (s_pn u i), y, p_li (s_pn u i), p_mk (s_pn u i), p_rd (s_pn u i)) := by unfold p_mv; rw [if_pos c]
    rw [e]
    exact RI_pn h hi _
  · have e : p_mv (s_pn u i) y = (p_ro (s_pn u i), p_sa (s_pn u i), p_cp (s_pn u i), y, p_li (s_pn u i), -1, p_rd (s_pn u i)) := by unfold p_mv; rw [if_neg c]
    rw [e]
    exact RI_pn h hi _
theorem RI_cp (h : RI G u m th K tp pn td R) {t : Nat} (hok : s_ok t u) (ht : t ≤ 64) {i : Nat} (hi : i < 6) {ft : Nat → Int32} (htp : R tp = some (aI G (s_ba (s_ln u) (s_nr u)) ft)) {x y : Int32} (hx : vp_in (p_sa (s_pn u i) + x) (s_ln u (p_ro (s_pn u i)))) (hy : vp_in (p_sa (s_pn u i) + y) (s_ln u (p_ro (s_pn u i)))) : RI G (s_wr u (p_ro (s_pn u i)) (p_at (s_pn u i) x) (s_val u (s_pn u i) y)) m th K tp pn td (z_up R tp (aI G (s_ba (s_ln u) (s_nr u)) (upd ft ((nI (s_ba (s_ln u) (p_ro (s_pn u i))) + p_sa (s_pn u i)) + x).toNatClampNeg (ft ((nI (s_ba (s_ln u) (p_ro (s_pn u i))) + p_sa (s_pn u i)) + y).toNatClampNeg)))) := by
  obtain ⟨ft', htp', hft⟩ := RI_tpf h
  have e : ft' = ft := by
    have := htp'.symm.trans htp
    simpa using this
  subst e
  rw [s_rd hok ht hi hft hy]
  exact RI_wr h (s_row hok hi) (s_atlt hx) (s_wh' hok ht hi hx) htp _
/-- an index tells its place on the tape -/
theorem s_tin {t : Nat} (hok : s_ok t u) (ht : t ≤ 64) {i : Nat} (hi : i < 6) {x : Int32} (hx : vp_in (p_sa (s_pn u i) + x) (s_ln u (p_ro (s_pn u i)))) : vp_in ((nI (s_ba (s_ln u) (p_ro (s_pn u i))) + p_sa (s_pn u i)) + x) (s_ba (s_ln u) (s_nr u)) := by
  have h1 := s_wh' hok ht hi hx
  have h2 := s_atlt hx
  have h3 := s_ba_lt (s_ln u) (s_row hok hi)
  have h4 := s_ba_nt hok ht
  obtain ⟨g1, g2⟩ := z_inT.mp hx
  have e : ((nI (s_ba (s_ln u) (p_ro (s_pn u i))) + p_sa (s_pn u i)) + x).toInt = s_ba (s_ln u) (p_ro (s_pn u i)) + (p_sa (s_pn u i) + x).toInt := by
    rw [Int32.add_assoc, fb_addI (by rw [nI_T (by omega)]; omega) (by rw [nI_T (by omega)]; omega), nI_T (by omega)]
  exact z_inT.mpr ⟨by omega, by omega⟩
theorem s_put1k {i : Nat} {v : Int32} : (s_put1 u i v).1 ≤ 0 ↔ (s_put1 u i v).1 = 0 := by
  unfold s_put1
  split
  · show (4 : Int32) ≤ 0 ↔ (4 : Int32) = 0; decide
  · split
    · show (1 : Int32) ≤ 0 ↔ (1 : Int32) = 0; decide
    · show (0 : Int32) ≤ 0 ↔ (0 : Int32) = 0; decide
end RIP
theorem dX5_fill_0 : decode cX5_fill 0 = .ok (.aload_n 0, 1) := by decide +kernel
theorem dX5_fill_1 : decode cX5_fill 1 = .ok (.iload_n 1, 1) := by decide +kernel
theorem dX5_fill_2 : decode cX5_fill 2 = .ok (.invokestatic 55, 3) := by decide +kernel
theorem dX5_fill_5 : decode cX5_fill 5 = .ok (.iload_n 2, 1) := by decide +kernel
theorem dX5_fill_6 : decode cX5_fill 6 = .ok (.iconst 0, 1) := by decide +kernel
theorem dX5_fill_7 : decode cX5_fill 7 = .ok (.ldc 98, 2) := by decide +kernel
theorem dX5_fill_9 : decode cX5_fill 9 = .ok (.invokestatic 36, 3) := by decide +kernel
theorem dX5_fill_12 : decode cX5_fill 12 = .ok (.ifCond .eq 28, 3) := by decide +kernel
theorem dX5_fill_15 : decode cX5_fill 15 = .ok (.iload_n 3, 1) := by decide +kernel
theorem dX5_fill_16 : decode cX5_fill 16 = .ok (.iconst 0, 1) := by decide +kernel
theorem dX5_fill_17 : decode cX5_fill 17 = .ok (.ldc 98, 2) := by decide +kernel
theorem dX5_fill_19 : decode cX5_fill 19 = .ok (.invokestatic 36, 3) := by decide +kernel
theorem dX5_fill_22 : decode cX5_fill 22 = .ok (.ifCond .eq 18, 3) := by decide +kernel
theorem dX5_fill_25 : decode cX5_fill 25 = .ok (.iload 4, 2) := by decide +kernel
theorem dX5_fill_27 : decode cX5_fill 27 = .ok (.iconst 0, 1) := by decide +kernel
theorem dX5_fill_28 : decode cX5_fill 28 = .ok (.bipush 20, 2) := by decide +kernel
theorem dX5_fill_30 : decode cX5_fill 30 = .ok (.invokestatic 36, 3) := by decide +kernel
theorem dX5_fill_33 : decode cX5_fill 33 = .ok (.ifCond .eq 7, 3) := by decide +kernel
theorem dX5_fill_36 : decode cX5_fill 36 = .ok (.iconst 1, 1) := by decide +kernel
theorem dX5_fill_37 : decode cX5_fill 37 = .ok (.goto 4, 3) := by decide +kernel
theorem dX5_fill_40 : decode cX5_fill 40 = .ok (.iconst 0, 1) := by decide +kernel
theorem dX5_fill_41 : decode cX5_fill 41 = .ok (.invokevirtual 59, 3) := by decide +kernel
theorem dX5_fill_44 : decode cX5_fill 44 = .ok (.ifCond .ne 5, 3) := by decide +kernel
theorem dX5_fill_47 : decode cX5_fill 47 = .ok (.iconst 0, 1) := by decide +kernel
theorem dX5_fill_48 : decode cX5_fill 48 = .ok (.ireturn, 1) := by decide +kernel
theorem dX5_fill_49 : decode cX5_fill 49 = .ok (.iconst 0, 1) := by decide +kernel
theorem dX5_fill_50 : decode cX5_fill 50 = .ok (.istore 5, 2) := by decide +kernel
theorem dX5_fill_52 : decode cX5_fill 52 = .ok (.iload 5, 2) := by decide +kernel
theorem dX5_fill_54 : decode cX5_fill 54 = .ok (.iload 4, 2) := by decide +kernel
theorem dX5_fill_56 : decode cX5_fill 56 = .ok (.if_icmp .ge 28, 3) := by decide +kernel
theorem dX5_fill_59 : decode cX5_fill 59 = .ok (.aload_n 0, 1) := by decide +kernel
theorem dX5_fill_60 : decode cX5_fill 60 = .ok (.aload_n 0, 1) := by decide +kernel
theorem dX5_fill_61 : decode cX5_fill 61 = .ok (.getfield 18, 3) := by decide +kernel
theorem dX5_fill_64 : decode cX5_fill 64 = .ok (.iload_n 1, 1) := by decide +kernel
theorem dX5_fill_65 : decode cX5_fill 65 = .ok (.aaload, 1) := by decide +kernel
theorem dX5_fill_66 : decode cX5_fill 66 = .ok (.iload_n 2, 1) := by decide +kernel
theorem dX5_fill_67 : decode cX5_fill 67 = .ok (.iload 5, 2) := by decide +kernel
theorem dX5_fill_69 : decode cX5_fill 69 = .ok (.iload_n 3, 1) := by decide +kernel
theorem dX5_fill_70 : decode cX5_fill 70 = .ok (.imul, 1) := by decide +kernel
theorem dX5_fill_71 : decode cX5_fill 71 = .ok (.iadd, 1) := by decide +kernel
theorem dX5_fill_72 : decode cX5_fill 72 = .ok (.invokevirtual 92, 3) := by decide +kernel
theorem dX5_fill_75 : decode cX5_fill 75 = .ok (.ifCond .ne 9, 3) := by decide +kernel
theorem dX5_fill_78 : decode cX5_fill 78 = .ok (.iinc 5 1, 3) := by decide +kernel
theorem dX5_fill_81 : decode cX5_fill 81 = .ok (.goto (-29), 3) := by decide +kernel
theorem dX5_fill_84 : decode cX5_fill 84 = .ok (.aload_n 0, 1) := by decide +kernel
theorem dX5_fill_85 : decode cX5_fill 85 = .ok (.iload 5, 2) := by decide +kernel
theorem dX5_fill_87 : decode cX5_fill 87 = .ok (.invokevirtual 63, 3) := by decide +kernel
theorem dX5_fill_90 : decode cX5_fill 90 = .ok (.ireturn, 1) := by decide +kernel
theorem dX5_pack_0 : decode cX5_pack 0 = .ok (.aload_n 0, 1) := by decide +kernel
theorem dX5_pack_1 : decode cX5_pack 1 = .ok (.iload_n 1, 1) := by decide +kernel
theorem dX5_pack_2 : decode cX5_pack 2 = .ok (.invokestatic 55, 3) := by decide +kernel
theorem dX5_pack_5 : decode cX5_pack 5 = .ok (.iconst 1, 1) := by decide +kernel
theorem dX5_pack_6 : decode cX5_pack 6 = .ok (.invokevirtual 59, 3) := by decide +kernel
theorem dX5_pack_9 : decode cX5_pack 9 = .ok (.ifCond .ne 5, 3) := by decide +kernel
theorem dX5_pack_12 : decode cX5_pack 12 = .ok (.iconst 0, 1) := by decide +kernel
theorem dX5_pack_13 : decode cX5_pack 13 = .ok (.ireturn, 1) := by decide +kernel
theorem dX5_pack_14 : decode cX5_pack 14 = .ok (.aload_n 0, 1) := by decide +kernel
theorem dX5_pack_15 : decode cX5_pack 15 = .ok (.getfield 18, 3) := by decide +kernel
theorem dX5_pack_18 : decode cX5_pack 18 = .ok (.iload_n 1, 1) := by decide +kernel
theorem dX5_pack_19 : decode cX5_pack 19 = .ok (.aaload, 1) := by decide +kernel
theorem dX5_pack_20 : decode cX5_pack 20 = .ok (.astore_n 2, 1) := by decide +kernel
theorem dX5_pack_21 : decode cX5_pack 21 = .ok (.aload_n 2, 1) := by decide +kernel
theorem dX5_pack_22 : decode cX5_pack 22 = .ok (.bipush 7, 2) := by decide +kernel
theorem dX5_pack_24 : decode cX5_pack 24 = .ok (.iaload, 1) := by decide +kernel
theorem dX5_pack_25 : decode cX5_pack 25 = .ok (.iconst 1, 1) := by decide +kernel
theorem dX5_pack_26 : decode cX5_pack 26 = .ok (.if_icmp .ne 9, 3) := by decide +kernel
theorem dX5_pack_29 : decode cX5_pack 29 = .ok (.aload_n 0, 1) := by decide +kernel
theorem dX5_pack_30 : decode cX5_pack 30 = .ok (.iconst 4, 1) := by decide +kernel
theorem dX5_pack_31 : decode cX5_pack 31 = .ok (.invokevirtual 47, 3) := by decide +kernel
theorem dX5_pack_34 : decode cX5_pack 34 = .ok (.ireturn, 1) := by decide +kernel
theorem dX5_pack_35 : decode cX5_pack 35 = .ok (.aload_n 2, 1) := by decide +kernel
theorem dX5_pack_36 : decode cX5_pack 36 = .ok (.invokestatic 43, 3) := by decide +kernel
theorem dX5_pack_39 : decode cX5_pack 39 = .ok (.istore_n 3, 1) := by decide +kernel
theorem dX5_pack_40 : decode cX5_pack 40 = .ok (.iconst 0, 1) := by decide +kernel
theorem dX5_pack_41 : decode cX5_pack 41 = .ok (.istore 4, 2) := by decide +kernel
theorem dX5_pack_43 : decode cX5_pack 43 = .ok (.iload 4, 2) := by decide +kernel
theorem dX5_pack_45 : decode cX5_pack 45 = .ok (.iload_n 3, 1) := by decide +kernel
theorem dX5_pack_46 : decode cX5_pack 46 = .ok (.if_icmp .ge 37, 3) := by decide +kernel
theorem dX5_pack_49 : decode cX5_pack 49 = .ok (.aload_n 0, 1) := by decide +kernel
theorem dX5_pack_50 : decode cX5_pack 50 = .ok (.getfield 9, 3) := by decide +kernel
theorem dX5_pack_53 : decode cX5_pack 53 = .ok (.aload_n 0, 1) := by decide +kernel
theorem dX5_pack_54 : decode cX5_pack 54 = .ok (.aload_n 2, 1) := by decide +kernel
theorem dX5_pack_55 : decode cX5_pack 55 = .ok (.iload 4, 2) := by decide +kernel
theorem dX5_pack_57 : decode cX5_pack 57 = .ok (.invokevirtual 51, 3) := by decide +kernel
theorem dX5_pack_60 : decode cX5_pack 60 = .ok (.aload_n 0, 1) := by decide +kernel
theorem dX5_pack_61 : decode cX5_pack 61 = .ok (.getfield 9, 3) := by decide +kernel
theorem dX5_pack_64 : decode cX5_pack 64 = .ok (.aload_n 0, 1) := by decide +kernel
theorem dX5_pack_65 : decode cX5_pack 65 = .ok (.aload_n 2, 1) := by decide +kernel
theorem dX5_pack_66 : decode cX5_pack 66 = .ok (.aload_n 2, 1) := by decide +kernel
theorem dX5_pack_67 : decode cX5_pack 67 = .ok (.iconst 4, 1) := by decide +kernel
theorem dX5_pack_68 : decode cX5_pack 68 = .ok (.iaload, 1) := by decide +kernel
theorem dX5_pack_69 : decode cX5_pack 69 = .ok (.iload 4, 2) := by decide +kernel
theorem dX5_pack_71 : decode cX5_pack 71 = .ok (.iadd, 1) := by decide +kernel
theorem dX5_pack_72 : decode cX5_pack 72 = .ok (.invokevirtual 51, 3) := by decide +kernel
theorem dX5_pack_75 : decode cX5_pack 75 = .ok (.iaload, 1) := by decide +kernel
theorem dX5_pack_76 : decode cX5_pack 76 = .ok (.iastore, 1) := by decide +kernel
theorem dX5_pack_77 : decode cX5_pack 77 = .ok (.iinc 4 1, 3) := by decide +kernel
theorem dX5_pack_80 : decode cX5_pack 80 = .ok (.goto (-37), 3) := by decide +kernel
theorem dX5_pack_83 : decode cX5_pack 83 = .ok (.aload_n 0, 1) := by decide +kernel
theorem dX5_pack_84 : decode cX5_pack 84 = .ok (.aload_n 2, 1) := by decide +kernel
theorem dX5_pack_85 : decode cX5_pack 85 = .ok (.iload_n 3, 1) := by decide +kernel
theorem dX5_pack_86 : decode cX5_pack 86 = .ok (.aload_n 2, 1) := by decide +kernel
theorem dX5_pack_87 : decode cX5_pack 87 = .ok (.iconst 3, 1) := by decide +kernel
theorem dX5_pack_88 : decode cX5_pack 88 = .ok (.iaload, 1) := by decide +kernel
theorem dX5_pack_89 : decode cX5_pack 89 = .ok (.invokevirtual 88, 3) := by decide +kernel
theorem dX5_pack_92 : decode cX5_pack 92 = .ok (.pop, 1) := by decide +kernel
theorem dX5_pack_93 : decode cX5_pack 93 = .ok (.iload_n 3, 1) := by decide +kernel
theorem dX5_pack_94 : decode cX5_pack 94 = .ok (.ireturn, 1) := by decide +kernel
set_option maxRecDepth 20000 in
theorem lp_X5_fill2 {X : zX} (C : z_C X cX5_fill RX5 6 (z_rm 4 0 0)) {m : Nat} {th : Int32} {K : Nat → Nat} {tp pn td : Nat} {t : Nat} (ht : t ≤ 64) {a b pane many : Int32} (h_ip : vp_in pane 6) (hi : pane.toNatClampNeg < 6) (hv : ∀ k, k < 20 → 0 ≤ (a + nI k * b).toInt) {mn : Nat} (hmn : many = nI mn) (hmb : mn ≤ 20) {res : Nat × sS} (kk : ∀ M', RI (z_G X) res.2 m th K tp pn td M' → z_W X M' 0 0 84 [(5, .int (nI res.1)), (0, .ref m), (1, .int pane), (2, .int a), (3, .int b), (4, .int many)] []) : ∀ (d j : Nat) (u : sS) (Mw : zM), j + d = mn → s_ok t u → RI (z_G X) u m th K tp pn td Mw → s_fill1 pane.toNatClampNeg a b d j u = res → z_W X Mw 0 0 52 [(5, .int (nI j)), (0, .ref m), (1, .int pane), (2, .int a), (3, .int b), (4, .int many)] [] := by
  intro d
  induction d with
  | zero =>
    intro j u Mw hj hok hR hres
    obtain ⟨fp, hpn, hfp⟩ := RI_pnf hR
    refine z_iload C dX5_fill_52 0 rfl ?_
    refine z_iload C dX5_fill_54 5 rfl ?_
    refine z_icmp_ge C (tgt := 84) dX5_fill_56 (by decide) (fun _ => ?_) (fun c56 => absurd (by rw [hmn]; exact nI_le (by omega) (by omega)) c56)
    subst hres
    exact kk _ hR
  | succ d ih =>
    intro j u Mw hj hok hR hres
    obtain ⟨fp, hpn, hfp⟩ := RI_pnf hR
    refine z_iload C dX5_fill_52 0 rfl ?_
    refine z_iload C dX5_fill_54 5 rfl ?_
    refine z_icmp_ge C (tgt := 84) dX5_fill_56 (by decide) (fun c56 => absurd c56 (by rw [hmn]; exact nI_ge (by omega) (by omega))) (fun _ => ?_)
    refine z_aload_n C dX5_fill_59 rfl 1 rfl ?_
    refine z_aload_n C dX5_fill_60 rfl 1 rfl ?_
    refine gf_X5_18 C hR.1 dX5_fill_61 ?_
    refine z_iload_n C dX5_fill_64 rfl 2 rfl ?_
    refine z_aaldI (j := pane.toNatClampNeg) C hpn h_ip rfl (hfp _ hi) dX5_fill_65 ?_
    refine z_iload_n C dX5_fill_66 rfl 3 rfl ?_
    refine z_iload C dX5_fill_67 0 rfl ?_
    refine z_iload_n C dX5_fill_69 rfl 4 rfl ?_
    refine z_imul C dX5_fill_70 ?_
    refine z_iadd C dX5_fill_71 ?_
    refine z_callVi (rest := []) (k' := 0) (n' := 0) C (a_X5_puts (z_l X) hR hok ht hi _) (cs_X5_92 C (by decide)) hR.1 rfl rfl rfl rfl (Nat.le_of_ble_eq_true rfl) rfl rfl (by decide) (by decide) dX5_fill_72 (fun x72 Mq72 hq => ?_)
    obtain ⟨e72, hR72⟩ := hq
    rw [e72]
    refine z_if_ne C (tgt := 84) dX5_fill_75 (by decide) (fun c75 => ?_) (fun c75 => ?_)
    · rw [s_fill1, if_neg c75] at hres
      subst hres
      exact kk _ hR72
    · refine z_iinc (v := nI (j + 1)) (lv' := [(5, .int (nI (j + 1))), (0, .ref m), (1, .int pane), (2, .int a), (3, .int b), (4, .int many)]) C dX5_fill_78 0 rfl (nI_1 j) (by decide) rfl ?_
      refine z_goto C (tgt := 52) dX5_fill_81 (by decide) ?_
      exact ih (j + 1) _ _ (by omega) (s_ok_put1 hok hi (hv j (by omega))) hR72 (by rw [s_fill1, if_pos c75] at hres; exact hres)
set_option maxRecDepth 20000 in
theorem c_X5_fill_bad (l : Launch) (G : zG) {M : zM} {m : Nat} {pane : Int32} {fi : Int32} {stp : Int32} {many : Int32} {tp : Nat} {nr : Int32} {pn : Nat} {td : Nat} {ac : Int32} {kn : Int32} {th : Int32}  (h_m : M m = some (cMd tp nr pn td ac kn th)) (h_bad : z_is pane 0 5 = 0) : z_Mi l G qX5_fill (z_rm 4 0 0) [.ref m, .int pane, .int fi, .int stp, .int many] M (fun r M' => (((z_is fi 0 1000000) = 0) ∧ r = 0 ∧ M' = z_up M m (cMd tp nr pn td ac kn (z_lt (z_is pane 0 5) 0))) ∨ ((¬ (z_is fi 0 1000000) = 0) ∧ ((z_is stp 0 1000000) = 0) ∧ r = 0 ∧ M' = z_up M m (cMd tp nr pn td ac kn (z_lt (z_is pane 0 5) 0))) ∨ ((¬ (z_is fi 0 1000000) = 0) ∧ (¬ (z_is stp 0 1000000) = 0) ∧ ((z_is many 0 20) = 0) ∧ r = 0 ∧ M' = z_up M m (cMd tp nr pn td ac kn (z_lt (z_is pane 0 5) 0))) ∨ ((¬ (z_is fi 0 1000000) = 0) ∧ (¬ (z_is stp 0 1000000) = 0) ∧ (¬ (z_is many 0 20) = 0) ∧ r = 0 ∧ M' = z_up M m (cMd tp nr pn td ac kn (z_lt (z_is pane 0 5) 1))))  := by
  refine z_Mi_of _ (plainFor_of_name rfl) rfl (Nat.le_of_ble_eq_true rfl) (fun X hl hG hnm C ret => ?_)
  subst hl; subst hG
  have C : z_C X cX5_fill RX5 6 (z_rm 4 0 0) := C
  show z_W X M 0 0 0 [(0, .ref m), (1, .int pane), (2, .int fi), (3, .int stp), (4, .int many)] []
  refine z_aload_n C dX5_fill_0 rfl 0 rfl ?_
  refine z_iload_n C dX5_fill_1 rfl 1 rfl ?_
  refine z_callSi (rest := [.ref m]) (k' := 0) (n' := 0) C (c_X5_isPane (z_l X) (z_G X) ) (cs_X5_55 C (by decide)) rfl rfl (Nat.le_of_ble_eq_true rfl) rfl rfl (by decide) (by decide) dX5_fill_2 (fun x2 M' hq => ?_)
  obtain ⟨rfl, rfl⟩ := hq
  refine z_iload_n C dX5_fill_5 rfl 2 rfl ?_
  refine z_iconst C (v := 0) dX5_fill_6 (by decide) ?_
  refine z_ldc C (v := 1000000) kw1210 dX5_fill_7 ?_
  refine z_callSi (rest := [.int (z_is pane 0 5), .ref m]) (k' := 0) (n' := 0) C (c_X5_isIn (z_l X) (z_G X) ) (cs_X5_36 C (by decide)) rfl rfl (Nat.le_of_ble_eq_true rfl) rfl rfl (by decide) (by decide) dX5_fill_9 (fun x9 M' hq => ?_)
  obtain ⟨rfl, rfl⟩ := hq
  refine z_if_eq C (tgt := 40) dX5_fill_12 (by decide) (fun c12 => ?_) (fun c12 => ?_)
  · refine z_iconst C (v := 0) dX5_fill_40 (by decide) ?_
    refine z_callVi (rest := []) (k' := 0) (n' := 0) C (c_X5_isLet (z_l X) (z_G X) h_m) (cs_X5_59 C (by decide)) h_m rfl rfl rfl rfl (Nat.le_of_ble_eq_true rfl) rfl rfl (by decide) (by decide) dX5_fill_41 (fun x41 M' hq => ?_)
    obtain ⟨rfl, rfl⟩ := hq
    refine z_if_ne C (tgt := 49) dX5_fill_44 (by decide) (fun c44 => absurd (by simp [z_lr, z_lt, h_bad]) c44) (fun _ => ?_)
    refine z_iconst C (v := 0) dX5_fill_47 (by decide) ?_
    exact ret dX5_fill_48 rfl (Or.inl ⟨c12, rfl, rfl⟩) (by decide) (by decide)
  · refine z_iload_n C dX5_fill_15 rfl 3 rfl ?_
    refine z_iconst C (v := 0) dX5_fill_16 (by decide) ?_
    refine z_ldc C (v := 1000000) kw1210 dX5_fill_17 ?_
    refine z_callSi (rest := [.int (z_is pane 0 5), .ref m]) (k' := 0) (n' := 0) C (c_X5_isIn (z_l X) (z_G X) ) (cs_X5_36 C (by decide)) rfl rfl (Nat.le_of_ble_eq_true rfl) rfl rfl (by decide) (by decide) dX5_fill_19 (fun x19 M' hq => ?_)
    obtain ⟨rfl, rfl⟩ := hq
    refine z_if_eq C (tgt := 40) dX5_fill_22 (by decide) (fun c22 => ?_) (fun c22 => ?_)
    · refine z_iconst C (v := 0) dX5_fill_40 (by decide) ?_
      refine z_callVi (rest := []) (k' := 0) (n' := 0) C (c_X5_isLet (z_l X) (z_G X) h_m) (cs_X5_59 C (by decide)) h_m rfl rfl rfl rfl (Nat.le_of_ble_eq_true rfl) rfl rfl (by decide) (by decide) dX5_fill_41 (fun x41 M' hq => ?_)
      obtain ⟨rfl, rfl⟩ := hq
      refine z_if_ne C (tgt := 49) dX5_fill_44 (by decide) (fun c44 => absurd (by simp [z_lr, z_lt, h_bad]) c44) (fun _ => ?_)
      refine z_iconst C (v := 0) dX5_fill_47 (by decide) ?_
      exact ret dX5_fill_48 rfl (Or.inr (Or.inl ⟨c12, c22, rfl, rfl⟩)) (by decide) (by decide)
    · refine z_iload C dX5_fill_25 4 rfl ?_
      refine z_iconst C (v := 0) dX5_fill_27 (by decide) ?_
      refine z_bipush C (v := 20) dX5_fill_28 (by decide) ?_
      refine z_callSi (rest := [.int (z_is pane 0 5), .ref m]) (k' := 0) (n' := 0) C (c_X5_isIn (z_l X) (z_G X) ) (cs_X5_36 C (by decide)) rfl rfl (Nat.le_of_ble_eq_true rfl) rfl rfl (by decide) (by decide) dX5_fill_30 (fun x30 M' hq => ?_)
      obtain ⟨rfl, rfl⟩ := hq
      refine z_if_eq C (tgt := 40) dX5_fill_33 (by decide) (fun c33 => ?_) (fun c33 => ?_)
      · refine z_iconst C (v := 0) dX5_fill_40 (by decide) ?_
        refine z_callVi (rest := []) (k' := 0) (n' := 0) C (c_X5_isLet (z_l X) (z_G X) h_m) (cs_X5_59 C (by decide)) h_m rfl rfl rfl rfl (Nat.le_of_ble_eq_true rfl) rfl rfl (by decide) (by decide) dX5_fill_41 (fun x41 M' hq => ?_)
        obtain ⟨rfl, rfl⟩ := hq
        refine z_if_ne C (tgt := 49) dX5_fill_44 (by decide) (fun c44 => absurd (by simp [z_lr, z_lt, h_bad]) c44) (fun _ => ?_)
        refine z_iconst C (v := 0) dX5_fill_47 (by decide) ?_
        exact ret dX5_fill_48 rfl (Or.inr (Or.inr (Or.inl ⟨c12, c22, c33, rfl, rfl⟩))) (by decide) (by decide)
      · refine z_iconst C (v := 1) dX5_fill_36 (by decide) ?_
        refine z_goto C (tgt := 41) dX5_fill_37 (by decide) ?_
        refine z_callVi (rest := []) (k' := 0) (n' := 0) C (c_X5_isLet (z_l X) (z_G X) h_m) (cs_X5_59 C (by decide)) h_m rfl rfl rfl rfl (Nat.le_of_ble_eq_true rfl) rfl rfl (by decide) (by decide) dX5_fill_41 (fun x41 M' hq => ?_)
        obtain ⟨rfl, rfl⟩ := hq
        refine z_if_ne C (tgt := 49) dX5_fill_44 (by decide) (fun c44 => absurd (by simp [z_lr, z_lt, h_bad]) c44) (fun _ => ?_)
        refine z_iconst C (v := 0) dX5_fill_47 (by decide) ?_
        exact ret dX5_fill_48 rfl (Or.inr (Or.inr (Or.inr (⟨c12, c22, c33, rfl, rfl⟩)))) (by decide) (by decide)
set_option maxRecDepth 20000 in
theorem g_X5_fill (l : Launch) {G : zG} {u : sS} {m : Nat} {th : Int32} {K : Nat → Nat} {tp pn td : Nat} {Mw : zM} (hR : RI G u m th K tp pn td Mw) {t : Nat} (hok : s_ok t u) (ht : t ≤ 64) {pane fi stp many : Int32} (h_ok : z_is pane 0 5 = 1) (h_ip : vp_in pane 6) (hi : pane.toNatClampNeg < 6) : z_Mi l G qX5_fill (z_rm 4 0 0) [.ref m, .int pane, .int fi, .int stp, .int many] Mw (RP G m pn td (z_lt (z_is pane 0 5) (t_and (z_is fi 0 1000000) (t_and (z_is stp 0 1000000) (z_is many 0 20)))) u (s_fill u pane.toNatClampNeg fi stp many))  := by
  obtain ⟨ft, htp, hft⟩ := RI_tpf hR
  obtain ⟨fp, hpn, hfp⟩ := RI_pnf hR
  refine z_Mi_of _ (plainFor_of_name rfl) rfl (Nat.le_of_ble_eq_true rfl) (fun X hl hG hnm C ret => ?_)
  subst hl; subst hG
  have C : z_C X cX5_fill RX5 6 (z_rm 4 0 0) := C
  show z_W X Mw 0 0 0 [(0, .ref m), (1, .int pane), (2, .int fi), (3, .int stp), (4, .int many)] []
  refine z_aload_n C dX5_fill_0 rfl 0 rfl ?_
  refine z_iload_n C dX5_fill_1 rfl 1 rfl ?_
  refine z_callSi (rest := [.ref m]) (k' := 0) (n' := 0) C (c_X5_isPane (z_l X) (z_G X) ) (cs_X5_55 C (by decide)) rfl rfl (Nat.le_of_ble_eq_true rfl) rfl rfl (by decide) (by decide) dX5_fill_2 (fun x2 M' hq => ?_)
  obtain ⟨rfl, rfl⟩ := hq
  refine z_iload_n C dX5_fill_5 rfl 2 rfl ?_
  refine z_iconst C (v := 0) dX5_fill_6 (by decide) ?_
  refine z_ldc C (v := 1000000) kw1210 dX5_fill_7 ?_
  refine z_callSi (rest := [.int (z_is pane 0 5), .ref m]) (k' := 0) (n' := 0) C (c_X5_isIn (z_l X) (z_G X) ) (cs_X5_36 C (by decide)) rfl rfl (Nat.le_of_ble_eq_true rfl) rfl rfl (by decide) (by decide) dX5_fill_9 (fun x9 M' hq => ?_)
  obtain ⟨rfl, rfl⟩ := hq
  refine z_if_eq C (tgt := 40) dX5_fill_12 (by decide) (fun c12 => ?_) (fun c12 => ?_)
  · refine z_iconst C (v := 0) dX5_fill_40 (by decide) ?_
    refine z_callVi (rest := []) (k' := 0) (n' := 0) C (c_X5_isLet (z_l X) (z_G X) hR.1) (cs_X5_59 C (by decide)) hR.1 rfl rfl rfl rfl (Nat.le_of_ble_eq_true rfl) rfl rfl (by decide) (by decide) dX5_fill_41 (fun x41 M' hq => ?_)
    obtain ⟨rfl, rfl⟩ := hq
    refine z_if_ne C (tgt := 49) dX5_fill_44 (by decide) (fun c44 => absurd (by simp [z_lr, z_lt, h_ok]) c44) (fun _ => ?_)
    refine z_iconst C (v := 0) dX5_fill_47 (by decide) ?_
    refine ret dX5_fill_48 rfl ?_ (by decide) (by decide)
    exact RP_bad (z_lt2 (by simp [t_and, c12])) (RI_ak hR _ _ _) (by simp [t_and, c12])
  · refine z_iload_n C dX5_fill_15 rfl 3 rfl ?_
    refine z_iconst C (v := 0) dX5_fill_16 (by decide) ?_
    refine z_ldc C (v := 1000000) kw1210 dX5_fill_17 ?_
    refine z_callSi (rest := [.int (z_is pane 0 5), .ref m]) (k' := 0) (n' := 0) C (c_X5_isIn (z_l X) (z_G X) ) (cs_X5_36 C (by decide)) rfl rfl (Nat.le_of_ble_eq_true rfl) rfl rfl (by decide) (by decide) dX5_fill_19 (fun x19 M' hq => ?_)
    obtain ⟨rfl, rfl⟩ := hq
    refine z_if_eq C (tgt := 40) dX5_fill_22 (by decide) (fun c22 => ?_) (fun c22 => ?_)
    · refine z_iconst C (v := 0) dX5_fill_40 (by decide) ?_
      refine z_callVi (rest := []) (k' := 0) (n' := 0) C (c_X5_isLet (z_l X) (z_G X) hR.1) (cs_X5_59 C (by decide)) hR.1 rfl rfl rfl rfl (Nat.le_of_ble_eq_true rfl) rfl rfl (by decide) (by decide) dX5_fill_41 (fun x41 M' hq => ?_)
      obtain ⟨rfl, rfl⟩ := hq
      refine z_if_ne C (tgt := 49) dX5_fill_44 (by decide) (fun c44 => absurd (by simp [z_lr, z_lt, h_ok]) c44) (fun _ => ?_)
      refine z_iconst C (v := 0) dX5_fill_47 (by decide) ?_
      refine ret dX5_fill_48 rfl ?_ (by decide) (by decide)
      exact RP_bad (z_lt2 (by simp [t_and, c12, c22])) (RI_ak hR _ _ _) (by simp [t_and, c12, c22])
    · refine z_iload C dX5_fill_25 4 rfl ?_
      refine z_iconst C (v := 0) dX5_fill_27 (by decide) ?_
      refine z_bipush C (v := 20) dX5_fill_28 (by decide) ?_
      refine z_callSi (rest := [.int (z_is pane 0 5), .ref m]) (k' := 0) (n' := 0) C (c_X5_isIn (z_l X) (z_G X) ) (cs_X5_36 C (by decide)) rfl rfl (Nat.le_of_ble_eq_true rfl) rfl rfl (by decide) (by decide) dX5_fill_30 (fun x30 M' hq => ?_)
      obtain ⟨rfl, rfl⟩ := hq
      refine z_if_eq C (tgt := 40) dX5_fill_33 (by decide) (fun c33 => ?_) (fun c33 => ?_)
      · refine z_iconst C (v := 0) dX5_fill_40 (by decide) ?_
        refine z_callVi (rest := []) (k' := 0) (n' := 0) C (c_X5_isLet (z_l X) (z_G X) hR.1) (cs_X5_59 C (by decide)) hR.1 rfl rfl rfl rfl (Nat.le_of_ble_eq_true rfl) rfl rfl (by decide) (by decide) dX5_fill_41 (fun x41 M' hq => ?_)
        obtain ⟨rfl, rfl⟩ := hq
        refine z_if_ne C (tgt := 49) dX5_fill_44 (by decide) (fun c44 => absurd (by simp [z_lr, z_lt, h_ok]) c44) (fun _ => ?_)
        refine z_iconst C (v := 0) dX5_fill_47 (by decide) ?_
        refine ret dX5_fill_48 rfl ?_ (by decide) (by decide)
        exact RP_bad (z_lt2 (by simp [t_and, c12, c22, c33])) (RI_ak hR _ _ _) (by simp [t_and, c12, c22, c33])
      · refine z_iconst C (v := 1) dX5_fill_36 (by decide) ?_
        refine z_goto C (tgt := 41) dX5_fill_37 (by decide) ?_
        refine z_callVi (rest := []) (k' := 0) (n' := 0) C (c_X5_isLet (z_l X) (z_G X) hR.1) (cs_X5_59 C (by decide)) hR.1 rfl rfl rfl rfl (Nat.le_of_ble_eq_true rfl) rfl rfl (by decide) (by decide) dX5_fill_41 (fun x41 M' hq => ?_)
        obtain ⟨rfl, rfl⟩ := hq
        refine z_if_ne C (tgt := 49) dX5_fill_44 (by decide) (fun _ => ?_) (fun c44 => absurd c44 (by simp [z_lr, z_lt, h_ok]))
        refine z_iconst C (v := 0) dX5_fill_49 (by decide) ?_
        refine z_istore (lv' := [(5, .int 0), (0, .ref m), (1, .int pane), (2, .int fi), (3, .int stp), (4, .int many)]) C dX5_fill_50 (by decide) rfl ?_
        refine z_at (M' := _) (lv' := [(5, .int (nI 0)), (0, .ref m), (1, .int pane), (2, .int fi), (3, .int stp), (4, .int many)]) rfl (by rw [nI_0]) rfl ?_
        refine lp_X5_fill2 C ht h_ip hi (s_fv c12 c22) (z_rgN c33).1 (z_r20 c33) (fun Mq9 h9 => ?_) _ 0 u _ (Nat.zero_add _) hok (RI_th hR _) rfl
        refine z_aload_n C dX5_fill_84 rfl 1 rfl ?_
        refine z_iload C dX5_fill_85 0 rfl ?_
        refine z_callVi (rest := []) (k' := 0) (n' := 0) C (c_X5_did (z_l X) (z_G X) h9.1) (cs_X5_63 C (by decide)) h9.1 rfl rfl rfl rfl (Nat.le_of_ble_eq_true rfl) rfl rfl (by decide) (by decide) dX5_fill_87 (fun x87 M' hq => ?_)
        obtain ⟨rfl, rfl⟩ := hq
        refine ret dX5_fill_90 rfl ?_ (by decide) (by decide)
        exact RP_ok (v := s_act (s_fill1 pane.toNatClampNeg fi stp many.toNatClampNeg 0 u).2) rfl (z_lt3 h_ok (by simp [t_and, c12, c22, z_is11 c33])) (RI_ak h9 _ _ _) (by simp [t_and, c12, c22, z_is11 c33])
theorem a_X5_fill (l : Launch) {G : zG} {u : sS} {m : Nat} {th : Int32} {K : Nat → Nat} {tp pn td : Nat} {Mw : zM} (hR : RI G u m th K tp pn td Mw) {t : Nat} (hok : s_ok t u) (ht : t ≤ 64) (pane fi stp many : Int32) : z_Mi l G qX5_fill (z_rm 4 0 0) [.ref m, .int pane, .int fi, .int stp, .int many] Mw (RP G m pn td (z_lt (z_is pane 0 5) (t_and (z_is fi 0 1000000) (t_and (z_is stp 0 1000000) (z_is many 0 20)))) u (s_fill u pane.toNatClampNeg fi stp many)) := by
  rcases z_pc pane with ⟨h_ok, h_ip, hi⟩ | ⟨h_bad, -⟩
  · exact g_X5_fill l hR hok ht h_ok h_ip hi
  · refine z_Mi_mono (c_X5_fill_bad l G hR.1 h_bad) ?_
    rintro r M' (⟨b0_0, hr9, rfl⟩ | ⟨b1_0, b1_1, hr9, rfl⟩ | ⟨b2_0, b2_1, b2_2, hr9, rfl⟩ | ⟨b3_0, b3_1, b3_2, hr9, rfl⟩)
    · exact RP_bad (z_lt0 h_bad) (RI_ak hR _ _ _) (by first | rfl | (rw [h_bad]; rfl))
    · exact RP_bad (z_lt0 h_bad) (RI_ak hR _ _ _) (by first | rfl | (rw [h_bad]; rfl))
    · exact RP_bad (z_lt0 h_bad) (RI_ak hR _ _ _) (by first | rfl | (rw [h_bad]; rfl))
    · exact RP_bad (z_lt0 h_bad) (RI_ak hR _ _ _) (by first | rfl | (rw [h_bad]; rfl))
set_option maxRecDepth 20000 in
theorem lp_X5_pack2 {X : zX} (C : z_C X cX5_pack RX5 5 (z_rm 4 0 0)) {m : Nat} {th : Int32} {K : Nat → Nat} {tp pn td : Nat} {t : Nat} (ht : t ≤ 64) {i : Nat} (hi : i < 6) {pane cq : Int32} {mq : Nat} (hmn : cq = nI mq) (hmb : mq ≤ 16) {res : sS} (kk : ∀ M', RI (z_G X) res m th K tp pn td M' → z_W X M' 0 0 83 [(4, .int (nI mq)), (3, .int cq), (2, .ref (K i)), (0, .ref m), (1, .int pane)] []) : ∀ (d j : Nat) (u : sS) (Mw : zM), j + d = mq → s_ok t u → p_li (s_pn u i) - p_po (s_pn u i) = nI mq → RI (z_G X) u m th K tp pn td Mw → s_pack1 i d j u = res → z_W X Mw 0 0 43 [(4, .int (nI j)), (3, .int cq), (2, .ref (K i)), (0, .ref m), (1, .int pane)] [] := by
  intro d
  induction d with
  | zero =>
    intro j u Mw hj hok hl hR hres
    refine z_iload C dX5_pack_43 0 rfl ?_
    refine z_iload_n C dX5_pack_45 rfl 1 rfl ?_
    refine z_icmp_ge C (tgt := 83) dX5_pack_46 (by decide) (fun _ => ?_) (fun c46 => absurd (by rw [hmn]; exact nI_le (by omega) (by omega)) c46)
    have ejm : j = mq := by omega
    subst ejm
    subst hres
    exact kk _ hR
  | succ d ih =>
    intro j u Mw hj hok hl hR hres
    obtain ⟨ft, htp, hft⟩ := RI_tpf hR
    refine z_iload C dX5_pack_43 0 rfl ?_
    refine z_iload_n C dX5_pack_45 rfl 1 rfl ?_
    refine z_icmp_ge C (tgt := 83) dX5_pack_46 (by decide) (fun c46 => absurd c46 (by rw [hmn]; exact nI_ge (by omega) (by omega))) (fun _ => ?_)
    refine z_aload_n C dX5_pack_49 rfl 3 rfl ?_
    refine gf_X5_9 C hR.1 dX5_pack_50 ?_
    refine z_aload_n C dX5_pack_53 rfl 3 rfl ?_
    refine z_aload_n C dX5_pack_54 rfl 2 rfl ?_
    refine z_iload C dX5_pack_55 0 rfl ?_
    refine z_callVi (rest := [.ref tp]) (k' := 0) (n' := 0) C (c_X5_where (z_l X) (z_G X) (RI_K hR hi)) (cs_X5_51 C (by decide)) hR.1 rfl rfl rfl rfl (Nat.le_of_ble_eq_true rfl) rfl rfl (by decide) (by decide) dX5_pack_57 (fun x57 M' hq => ?_)
    obtain ⟨rfl, rfl⟩ := hq
    refine z_aload_n C dX5_pack_60 rfl 3 rfl ?_
    refine gf_X5_9 C hR.1 dX5_pack_61 ?_
    refine z_aload_n C dX5_pack_64 rfl 3 rfl ?_
    refine z_aload_n C dX5_pack_65 rfl 2 rfl ?_
    refine z_aload_n C dX5_pack_66 rfl 2 rfl ?_
    refine z_iconst C (v := 4) dX5_pack_67 (by decide) ?_
    refine z_pl4 C (RI_K hR hi) dX5_pack_68 ?_
    refine z_iload C dX5_pack_69 0 rfl ?_
    refine z_iadd C dX5_pack_71 ?_
    refine z_callVi (rest := [.ref tp, .int (((nI (s_ba (s_ln u) (p_ro (s_pn u i)))) + (p_sa (s_pn u i))) + (nI j)), .ref tp]) (k' := 0) (n' := 0) C (c_X5_where (z_l X) (z_G X) (RI_K hR hi)) (cs_X5_51 C (by decide)) hR.1 rfl rfl rfl rfl (Nat.le_of_ble_eq_true rfl) rfl rfl (by decide) (by decide) dX5_pack_72 (fun x72 M' hq => ?_)
    obtain ⟨rfl, rfl⟩ := hq
    refine z_iald (j := (((nI (s_ba (s_ln u) (p_ro (s_pn u i)))) + (p_sa (s_pn u i))) + ((p_po (s_pn u i)) + (nI j))).toNatClampNeg) C htp (s_tin hok ht hi (s_pkI hok hi hl hmb (by omega)).2) rfl dX5_pack_75 ?_
    refine z_iast (j := (((nI (s_ba (s_ln u) (p_ro (s_pn u i)))) + (p_sa (s_pn u i))) + (nI j)).toNatClampNeg) C htp (s_tin hok ht hi (s_pkI hok hi hl hmb (by omega)).1) rfl dX5_pack_76 ?_
    refine z_iinc (v := nI (j + 1)) (lv' := [(4, .int (nI (j + 1))), (3, .int cq), (2, .ref (K i)), (0, .ref m), (1, .int pane)]) C dX5_pack_77 0 rfl (nI_1 j) (by decide) rfl ?_
    refine z_goto C (tgt := 43) dX5_pack_80 (by decide) ?_
    exact ih (j + 1) _ _ (by omega) (s_ok_wr hok _ _ (s_v0 hok _ _)) hl (RI_cp hR hok ht hi htp (s_pkI hok hi hl hmb (by omega)).1 (s_pkI hok hi hl hmb (by omega)).2) hres
set_option maxRecDepth 20000 in
theorem c_X5_pack_bad (l : Launch) (G : zG) {M : zM} {m : Nat} {pane : Int32} {tp : Nat} {nr : Int32} {pn : Nat} {td : Nat} {ac : Int32} {kn : Int32} {th : Int32}  (h_m : M m = some (cMd tp nr pn td ac kn th)) (h_bad : z_is pane 0 5 = 0) : z_Mi l G qX5_pack (z_rm 4 0 0) [.ref m, .int pane] M (fun r M' => r = 0 ∧ M' = z_up M m (cMd tp nr pn td ac kn (z_lt (z_is pane 0 5) 1)))  := by
  refine z_Mi_of _ (plainFor_of_name rfl) rfl (Nat.le_of_ble_eq_true rfl) (fun X hl hG hnm C ret => ?_)
  subst hl; subst hG
  have C : z_C X cX5_pack RX5 5 (z_rm 4 0 0) := C
  show z_W X M 0 0 0 [(0, .ref m), (1, .int pane)] []
  refine z_aload_n C dX5_pack_0 rfl 0 rfl ?_
  refine z_iload_n C dX5_pack_1 rfl 1 rfl ?_
  refine z_callSi (rest := [.ref m]) (k' := 0) (n' := 0) C (c_X5_isPane (z_l X) (z_G X) ) (cs_X5_55 C (by decide)) rfl rfl (Nat.le_of_ble_eq_true rfl) rfl rfl (by decide) (by decide) dX5_pack_2 (fun x2 M' hq => ?_)
  obtain ⟨rfl, rfl⟩ := hq
  refine z_iconst C (v := 1) dX5_pack_5 (by decide) ?_
  refine z_callVi (rest := []) (k' := 0) (n' := 0) C (c_X5_isLet (z_l X) (z_G X) h_m) (cs_X5_59 C (by decide)) h_m rfl rfl rfl rfl (Nat.le_of_ble_eq_true rfl) rfl rfl (by decide) (by decide) dX5_pack_6 (fun x6 M' hq => ?_)
  obtain ⟨rfl, rfl⟩ := hq
  refine z_if_ne C (tgt := 14) dX5_pack_9 (by decide) (fun c9 => absurd (by simp [z_lr, z_lt, h_bad]) c9) (fun _ => ?_)
  refine z_iconst C (v := 0) dX5_pack_12 (by decide) ?_
  exact ret dX5_pack_13 rfl (⟨rfl, rfl⟩) (by decide) (by decide)
set_option maxRecDepth 20000 in
theorem g_X5_pack (l : Launch) {G : zG} {u : sS} {m : Nat} {th : Int32} {K : Nat → Nat} {tp pn td : Nat} {Mw : zM} (hR : RI G u m th K tp pn td Mw) {t : Nat} (hok : s_ok t u) (ht : t ≤ 64) {pane : Int32} (h_ok : z_is pane 0 5 = 1) (h_ip : vp_in pane 6) (hi : pane.toNatClampNeg < 6) : z_Mi l G qX5_pack (z_rm 4 0 0) [.ref m, .int pane] Mw (RP G m pn td (z_lt (z_is pane 0 5) 1) u (s_pack u pane.toNatClampNeg))  := by
  obtain ⟨ft, htp, hft⟩ := RI_tpf hR
  obtain ⟨fp, hpn, hfp⟩ := RI_pnf hR
  refine z_Mi_of _ (plainFor_of_name rfl) rfl (Nat.le_of_ble_eq_true rfl) (fun X hl hG hnm C ret => ?_)
  subst hl; subst hG
  have C : z_C X cX5_pack RX5 5 (z_rm 4 0 0) := C
  show z_W X Mw 0 0 0 [(0, .ref m), (1, .int pane)] []
  refine z_aload_n C dX5_pack_0 rfl 0 rfl ?_
  refine z_iload_n C dX5_pack_1 rfl 1 rfl ?_
  refine z_callSi (rest := [.ref m]) (k' := 0) (n' := 0) C (c_X5_isPane (z_l X) (z_G X) ) (cs_X5_55 C (by decide)) rfl rfl (Nat.le_of_ble_eq_true rfl) rfl rfl (by decide) (by decide) dX5_pack_2 (fun x2 M' hq => ?_)
  obtain ⟨rfl, rfl⟩ := hq
  refine z_iconst C (v := 1) dX5_pack_5 (by decide) ?_
  refine z_callVi (rest := []) (k' := 0) (n' := 0) C (c_X5_isLet (z_l X) (z_G X) hR.1) (cs_X5_59 C (by decide)) hR.1 rfl rfl rfl rfl (Nat.le_of_ble_eq_true rfl) rfl rfl (by decide) (by decide) dX5_pack_6 (fun x6 M' hq => ?_)
  obtain ⟨rfl, rfl⟩ := hq
  refine z_if_ne C (tgt := 14) dX5_pack_9 (by decide) (fun _ => ?_) (fun c9 => absurd c9 (by simp [z_lr, z_lt, h_ok]))
  refine z_aload_n C dX5_pack_14 rfl 0 rfl ?_
  refine gf_X5_18 C (z_up_s _ _ _) dX5_pack_15 ?_
  refine z_iload_n C dX5_pack_18 rfl 1 rfl ?_
  refine z_aaldI (j := pane.toNatClampNeg) C ((z_up_n _ _ (z_ne hpn hR.1 (by intro h; cases h))).trans hpn) h_ip rfl (hfp _ hi) dX5_pack_19 ?_
  refine z_astore_n (lv' := [(2, .ref (K pane.toNatClampNeg)), (0, .ref m), (1, .int pane)]) C dX5_pack_20 rfl (by decide) rfl ?_
  refine z_aload_n C dX5_pack_21 rfl 0 rfl ?_
  refine z_bipush C (v := 7) dX5_pack_22 (by decide) ?_
  refine z_pl7 C ((z_up_n _ _ (z_ne (RI_K hR hi) hR.1 (by intro h; cases h))).trans (RI_K hR hi)) dX5_pack_24 ?_
  refine z_iconst C (v := 1) dX5_pack_25 (by decide) ?_
  refine z_icmp_ne C (tgt := 35) dX5_pack_26 (by decide) (fun c26 => ?_) (fun c26 => ?_)
  · refine z_aload_n C dX5_pack_35 rfl 0 rfl ?_
    refine z_callSi (rest := []) (k' := 0) (n' := 0) C (c_X5_left (z_l X) (z_G X) ((z_up_n _ _ (z_ne (RI_K hR hi) hR.1 (by intro h; cases h))).trans (RI_K hR hi))) (cs_X5_43 C (by decide)) rfl rfl (Nat.le_of_ble_eq_true rfl) rfl rfl (by decide) (by decide) dX5_pack_36 (fun x36 M' hq => ?_)
    obtain ⟨rfl, rfl⟩ := hq
    refine z_istore_n (lv' := [(3, .int ((p_li (s_pn u pane.toNatClampNeg)) - (p_po (s_pn u pane.toNatClampNeg)))), (2, .ref (K pane.toNatClampNeg)), (0, .ref m), (1, .int pane)]) C dX5_pack_39 rfl (by decide) rfl ?_
    refine z_iconst C (v := 0) dX5_pack_40 (by decide) ?_
    refine z_istore (lv' := [(4, .int 0), (3, .int ((p_li (s_pn u pane.toNatClampNeg)) - (p_po (s_pn u pane.toNatClampNeg)))), (2, .ref (K pane.toNatClampNeg)), (0, .ref m), (1, .int pane)]) C dX5_pack_41 (by decide) rfl ?_
    refine z_at (M' := _) (lv' := [(4, .int (nI 0)), (3, .int (p_li (s_pn u pane.toNatClampNeg) - p_po (s_pn u pane.toNatClampNeg))), (2, .ref (K pane.toNatClampNeg)), (0, .ref m), (1, .int pane)]) rfl (by rw [nI_0]) rfl ?_
    refine lp_X5_pack2 C ht hi (s_pkM hok hi).1 (s_pkM hok hi).2 (fun Mq9 h9 => ?_) _ 0 u _ (Nat.zero_add _) hok (s_pkM hok hi).1 (RI_th hR _) rfl
    refine z_aload_n C dX5_pack_83 rfl 3 rfl ?_
    refine z_aload_n C dX5_pack_84 rfl 2 rfl ?_
    refine z_iload_n C dX5_pack_85 rfl 1 rfl ?_
    refine z_aload_n C dX5_pack_86 rfl 2 rfl ?_
    refine z_iconst C (v := 3) dX5_pack_87 (by decide) ?_
    refine z_pl3 C (by have h8 := RI_K h9 hi; rw [(s_pack1_pn _ _ _).1, (s_pack1_pn _ _ _).2.2] at h8; exact h8) dX5_pack_88 ?_
    refine z_callVi (rest := []) (k' := 0) (n' := 0) C (c_X5_begun (z_l X) (z_G X) h9.1 (by have h8 := RI_K h9 hi; rw [(s_pack1_pn _ _ _).1, (s_pack1_pn _ _ _).2.2] at h8; exact h8)) (cs_X5_88 C (by decide)) h9.1 rfl rfl rfl rfl (Nat.le_of_ble_eq_true rfl) rfl rfl (by decide) (by decide) dX5_pack_89 (fun x89 M' hq => ?_)
    obtain ⟨rfl, rfl⟩ := hq
    refine z_pop C dX5_pack_92 rfl ?_
    refine z_iload_n C dX5_pack_93 rfl 1 rfl ?_
    refine ret dX5_pack_94 rfl ?_ (by decide) (by decide)
    refine RP_ok (K' := K) (tp' := tp) (v := s_act (s_up (s_pack1 pane.toNatClampNeg (p_li (s_pn u pane.toNatClampNeg) - p_po (s_pn u pane.toNatClampNeg)).toNatClampNeg 0 u) pane.toNatClampNeg (p_po' (p_bg (s_pn u pane.toNatClampNeg) (p_cp (s_pn u pane.toNatClampNeg))) (p_li (s_pn u pane.toNatClampNeg) - p_po (s_pn u pane.toNatClampNeg))))) (by unfold s_pack; rw [if_neg c26]) (z_lt3 h_ok rfl) ?_ (th' := z_lt (z_is pane 0 5) 1)
    have h8 := RI_ak (RI_pn h9 hi (p_po' (p_bg (s_pn u pane.toNatClampNeg) (p_cp (s_pn u pane.toNatClampNeg))) (p_li (s_pn u pane.toNatClampNeg) - p_po (s_pn u pane.toNatClampNeg)))) (s_ac (s_pack1 pane.toNatClampNeg (p_li (s_pn u pane.toNatClampNeg) - p_po (s_pn u pane.toNatClampNeg)).toNatClampNeg 0 u) + 1) (s_kn (s_pack1 pane.toNatClampNeg (p_li (s_pn u pane.toNatClampNeg) - p_po (s_pn u pane.toNatClampNeg)).toNatClampNeg 0 u)) (z_lt (z_is pane 0 5) 1)
    rw [(s_pack1_pn _ _ _).2.2] at h8
    exact h8
  · refine z_aload_n C dX5_pack_29 rfl 1 rfl ?_
    refine z_iconst C (v := 4) dX5_pack_30 (by decide) ?_
    refine z_callVi (rest := []) (k' := 0) (n' := 0) C (c_X5_refuse (z_l X) (z_G X) (z_up_s _ _ _) ((z_up_n _ _ (z_ne (RI_tdf hR) hR.1 (by intro h; cases h))).trans (RI_tdf hR)) (z_inL (by decide)) (show (4 : Int32).toNatClampNeg = 4 by decide)) (cs_X5_47 C (by decide)) (z_up_s _ _ _) rfl rfl rfl rfl (Nat.le_of_ble_eq_true rfl) rfl rfl (by decide) (by decide) dX5_pack_31 (fun x31 M' hq => ?_)
    obtain ⟨rfl, rfl⟩ := hq
    refine ret dX5_pack_34 rfl ?_ (by decide) (by decide)
    exact RP_ok (v := s_tel u 4) (by unfold s_pack; rw [if_pos c26]) (z_lt3 h_ok rfl) (RI_td (RI_ak hR _ _ _) _)
theorem a_X5_pack (l : Launch) {G : zG} {u : sS} {m : Nat} {th : Int32} {K : Nat → Nat} {tp pn td : Nat} {Mw : zM} (hR : RI G u m th K tp pn td Mw) {t : Nat} (hok : s_ok t u) (ht : t ≤ 64) (pane : Int32) : z_Mi l G qX5_pack (z_rm 4 0 0) [.ref m, .int pane] Mw (RP G m pn td (z_lt (z_is pane 0 5) 1) u (s_pack u pane.toNatClampNeg)) := by
  rcases z_pc pane with ⟨h_ok, h_ip, hi⟩ | ⟨h_bad, -⟩
  · exact g_X5_pack l hR hok ht h_ok h_ip hi
  · refine z_Mi_mono (c_X5_pack_bad l G hR.1 h_bad) ?_
    rintro r M' ⟨hr9, rfl⟩
    · exact RP_bad (z_lt0 h_bad) (RI_ak hR _ _ _) (by first | rfl | (rw [h_bad]; rfl))
