/-! PART 55: the reference's digest, whole -/
theorem dX5_digest_0 : decode cX5_digest 0 = .ok (.ldc2_w 158, 3) := by decide +kernel
theorem dX5_digest_3 : decode cX5_digest 3 = .ok (.lstore_n 1, 1) := by decide +kernel
theorem dX5_digest_4 : decode cX5_digest 4 = .ok (.iconst 0, 1) := by decide +kernel
theorem dX5_digest_5 : decode cX5_digest 5 = .ok (.istore_n 3, 1) := by decide +kernel
theorem dX5_digest_29 : decode cX5_digest 29 = .ok (.iconst 0, 1) := by decide +kernel
theorem dX5_digest_30 : decode cX5_digest 30 = .ok (.istore_n 3, 1) := by decide +kernel
theorem dX5_digest_31 : decode cX5_digest 31 = .ok (.iload_n 3, 1) := by decide +kernel
theorem dX5_digest_32 : decode cX5_digest 32 = .ok (.bipush 6, 2) := by decide +kernel
theorem dX5_digest_34 : decode cX5_digest 34 = .ok (.if_icmp .ge 56, 3) := by decide +kernel
theorem dX5_digest_37 : decode cX5_digest 37 = .ok (.iconst 0, 1) := by decide +kernel
theorem dX5_digest_38 : decode cX5_digest 38 = .ok (.istore 4, 2) := by decide +kernel
theorem dX5_digest_66 : decode cX5_digest 66 = .ok (.lload_n 1, 1) := by decide +kernel
theorem dX5_digest_67 : decode cX5_digest 67 = .ok (.aload_n 0, 1) := by decide +kernel
theorem dX5_digest_68 : decode cX5_digest 68 = .ok (.iload_n 3, 1) := by decide +kernel
theorem dX5_digest_69 : decode cX5_digest 69 = .ok (.invokevirtual 166, 3) := by decide +kernel
theorem dX5_digest_72 : decode cX5_digest 72 = .ok (.invokestatic 170, 3) := by decide +kernel
theorem dX5_digest_75 : decode cX5_digest 75 = .ok (.aload_n 0, 1) := by decide +kernel
theorem dX5_digest_76 : decode cX5_digest 76 = .ok (.iload_n 3, 1) := by decide +kernel
theorem dX5_digest_77 : decode cX5_digest 77 = .ok (.invokevirtual 174, 3) := by decide +kernel
theorem dX5_digest_80 : decode cX5_digest 80 = .ok (.invokestatic 170, 3) := by decide +kernel
theorem dX5_digest_83 : decode cX5_digest 83 = .ok (.lstore_n 1, 1) := by decide +kernel
theorem dX5_digest_84 : decode cX5_digest 84 = .ok (.iinc 3 1, 3) := by decide +kernel
theorem dX5_digest_87 : decode cX5_digest 87 = .ok (.goto (-56), 3) := by decide +kernel
theorem dX5_digest_90 : decode cX5_digest 90 = .ok (.iconst 0, 1) := by decide +kernel
theorem dX5_digest_91 : decode cX5_digest 91 = .ok (.istore_n 3, 1) := by decide +kernel
theorem dX5_digest_92 : decode cX5_digest 92 = .ok (.iload_n 3, 1) := by decide +kernel
theorem dX5_digest_93 : decode cX5_digest 93 = .ok (.bipush 6, 2) := by decide +kernel
theorem dX5_digest_95 : decode cX5_digest 95 = .ok (.if_icmp .ge 42, 3) := by decide +kernel
theorem dX5_digest_98 : decode cX5_digest 98 = .ok (.lload_n 1, 1) := by decide +kernel
theorem dX5_digest_99 : decode cX5_digest 99 = .ok (.aload_n 0, 1) := by decide +kernel
theorem dX5_digest_100 : decode cX5_digest 100 = .ok (.iload_n 3, 1) := by decide +kernel
theorem dX5_digest_101 : decode cX5_digest 101 = .ok (.iload_n 3, 1) := by decide +kernel
theorem dX5_digest_102 : decode cX5_digest 102 = .ok (.iconst 1, 1) := by decide +kernel
theorem dX5_digest_103 : decode cX5_digest 103 = .ok (.iadd, 1) := by decide +kernel
theorem dX5_digest_104 : decode cX5_digest 104 = .ok (.bipush 6, 2) := by decide +kernel
theorem dX5_digest_106 : decode cX5_digest 106 = .ok (.irem, 1) := by decide +kernel
theorem dX5_digest_107 : decode cX5_digest 107 = .ok (.invokevirtual 177, 3) := by decide +kernel
theorem dX5_digest_110 : decode cX5_digest 110 = .ok (.i2l, 1) := by decide +kernel
theorem dX5_digest_111 : decode cX5_digest 111 = .ok (.invokestatic 154, 3) := by decide +kernel
theorem dX5_digest_114 : decode cX5_digest 114 = .ok (.aload_n 0, 1) := by decide +kernel
theorem dX5_digest_115 : decode cX5_digest 115 = .ok (.iload_n 3, 1) := by decide +kernel
theorem dX5_digest_116 : decode cX5_digest 116 = .ok (.iconst 0, 1) := by decide +kernel
theorem dX5_digest_117 : decode cX5_digest 117 = .ok (.iload_n 3, 1) := by decide +kernel
theorem dX5_digest_118 : decode cX5_digest 118 = .ok (.iconst 1, 1) := by decide +kernel
theorem dX5_digest_119 : decode cX5_digest 119 = .ok (.iadd, 1) := by decide +kernel
theorem dX5_digest_120 : decode cX5_digest 120 = .ok (.bipush 6, 2) := by decide +kernel
theorem dX5_digest_122 : decode cX5_digest 122 = .ok (.irem, 1) := by decide +kernel
theorem dX5_digest_123 : decode cX5_digest 123 = .ok (.invokevirtual 180, 3) := by decide +kernel
theorem dX5_digest_126 : decode cX5_digest 126 = .ok (.i2l, 1) := by decide +kernel
theorem dX5_digest_127 : decode cX5_digest 127 = .ok (.invokestatic 154, 3) := by decide +kernel
theorem dX5_digest_130 : decode cX5_digest 130 = .ok (.lstore_n 1, 1) := by decide +kernel
theorem dX5_digest_131 : decode cX5_digest 131 = .ok (.iinc 3 1, 3) := by decide +kernel
theorem dX5_digest_134 : decode cX5_digest 134 = .ok (.goto (-42), 3) := by decide +kernel
theorem dX5_digest_137 : decode cX5_digest 137 = .ok (.lload_n 1, 1) := by decide +kernel
theorem dX5_digest_138 : decode cX5_digest 138 = .ok (.aload_n 0, 1) := by decide +kernel
theorem dX5_digest_139 : decode cX5_digest 139 = .ok (.invokevirtual 184, 3) := by decide +kernel
theorem dX5_digest_142 : decode cX5_digest 142 = .ok (.invokestatic 170, 3) := by decide +kernel
theorem dX5_digest_145 : decode cX5_digest 145 = .ok (.lstore_n 1, 1) := by decide +kernel
theorem dX5_digest_146 : decode cX5_digest 146 = .ok (.aload_n 0, 1) := by decide +kernel
theorem dX5_digest_147 : decode cX5_digest 147 = .ok (.iconst 0, 1) := by decide +kernel
theorem dX5_digest_148 : decode cX5_digest 148 = .ok (.putfield 33, 3) := by decide +kernel
theorem dX5_digest_151 : decode cX5_digest 151 = .ok (.lload_n 1, 1) := by decide +kernel
theorem dX5_digest_152 : decode cX5_digest 152 = .ok (.lconst 1, 1) := by decide +kernel
theorem dX5_digest_153 : decode cX5_digest 153 = .ok (.invokestatic 154, 3) := by decide +kernel
theorem dX5_digest_156 : decode cX5_digest 156 = .ok (.lreturn, 1) := by decide +kernel
set_option maxRecDepth 20000 in
theorem lp_X5_d3 {X : zX} (C : z_C X cX5_digest RX5 5 (z_rm 14 700 22000)) {u : sS} {m pn td t : Nat} (hok : s_ok t u) (ht : t ≤ 64) {d0 : Int64} (kk : ∀ (dq : Int64) (Mw : zM) (th9 : Int32) (K9 : Nat → Nat) (tp9 : Nat), RI (z_G X) u m th9 K9 tp9 pn td Mw → dq = t_it (t_pn u) d0 6 → z_W X Mw (6 * 90) (6 * 3100) 90 [(0, .ref m), (1, .long dq)] []) : ∀ (d jx : Nat), jx + d = 6 → ∀ (dq : Int64) (Mw : zM) (th9 : Int32) (K9 : Nat → Nat) (tp9 : Nat), RI (z_G X) u m th9 K9 tp9 pn td Mw → dq = t_it (t_pn u) d0 jx → z_W X Mw (jx * 90) (jx * 3100) 31 [(3, .int (nI jx)), (0, .ref m), (1, .long dq)] [] := by
  intro d
  induction d with
  | zero =>
    intro jx hd dq Mw th9 K9 tp9 hR hdq
    refine z_iload_n C dX5_digest_31 rfl 0 rfl ?_
    refine z_bipush C (v := 6) dX5_digest_32 (by decide) ?_
    refine z_icmp_ge C (tgt := 90) dX5_digest_34 (by decide) (fun _ => ?_) (fun c34 => absurd (nI_le (b := jx) (a := 6) (by omega) (by omega)) c34)
    have e9 : jx = 6 := by omega
    subst e9
    refine z_fewer [1, 2] rfl ?_
    exact kk _ _ _ _ _ hR hdq
  | succ d ih =>
    intro jx hd dq Mw th9 K9 tp9 hR hdq
    refine z_iload_n C dX5_digest_31 rfl 0 rfl ?_
    refine z_bipush C (v := 6) dX5_digest_32 (by decide) ?_
    refine z_icmp_ge C (tgt := 90) dX5_digest_34 (by decide) (fun c34 => absurd c34 (nI_ge (a := jx) (b := 6) (by omega) (by omega))) (fun _ => ?_)
    refine z_iconst C (v := 0) dX5_digest_37 (by decide) ?_
    refine z_istore (lv' := [(4, .int 0), (3, .int (nI jx)), (0, .ref m), (1, .long dq)]) C dX5_digest_38 (by decide) rfl ?_
    refine z_fewer [0, 2, 3, 1] rfl ?_
    refine z_at (M' := _) (lv' := [(4, .int (nI 0)), (0, .ref m), (1, .long dq), (3, .int (nI jx))]) rfl (by rw [nI_0]; rfl) rfl ?_
    refine z_kn (k' := jx * 90 + 0) (n' := jx * 3100 + 0 * 10) (by omega) (by omega) ?_
    have hpq : jx < 6 := by omega
    refine lp_X5_d2 C hok ht (k0 := jx * 90) (s0 := jx * 3100) (by omega) (by omega) hpq (d0 := dq) (fun dq2 Mw th9 K9 tp9 hR hd2 => ?_) 10 0 (Nat.zero_add _) _ _ _ _ _ hR (t_it_0 _ _)
    refine z_lload_n C dX5_digest_66 rfl 2 rfl ?_
    refine z_aload_n C dX5_digest_67 rfl 1 rfl ?_
    refine z_iload_n C dX5_digest_68 rfl 0 rfl ?_
    refine z_callVr (rest := [.long dq2]) (k' := jx * 90 + 10 + 40) (n' := jx * 3100 + 10 * 10 + 1500) C (a_X5_whole (z_l X) hR hok ht (nI jx)) (cs_X5_166 C (by decide)) hR.1 rfl rfl rfl rfl (Nat.le_of_ble_eq_true rfl) rfl rfl (by show _ ≤ 700; omega) (by show _ ≤ 22000; omega) dX5_digest_69 (fun x69 Mq69 hq => ?_)
    obtain ⟨⟨K69, tp69, h69⟩, hS69⟩ := hq
    obtain ⟨ls69, hQ69, hT69⟩ := hS69 (j_kp hpq)
    have hU69 := j_St_eq hT69 (show ls69 = t_whole u jx from hQ69.trans (by rw [nI_clamp (show jx < 2 ^ 31 by omega)]))
    refine z_callSl (rest := []) (k' := jx * 90 + 10 + 40) (n' := jx * 3100 + 10 * 10 + 1500) C (a_X5_addSigns (z_l X) hU69) (cs_X5_170 C (by decide)) rfl rfl (Nat.le_of_ble_eq_true rfl) rfl rfl (by show _ ≤ 700; omega) (by show _ ≤ 22000; omega) dX5_digest_72 (fun x72 Mq72 hq => ?_)
    obtain ⟨e72, rfl⟩ := hq
    refine z_aload_n C dX5_digest_75 rfl 1 rfl ?_
    refine z_iload_n C dX5_digest_76 rfl 0 rfl ?_
    refine z_callVr (rest := [.long x72]) (k' := jx * 90 + 10 + 40 + 40) (n' := jx * 3100 + 10 * 10 + 1500 + 1500) C (a_X5_total (z_l X) h69 hok ht (nI jx)) (cs_X5_174 C (by decide)) h69.1 rfl rfl rfl rfl (Nat.le_of_ble_eq_true rfl) rfl rfl (by show _ ≤ 700; omega) (by show _ ≤ 22000; omega) dX5_digest_77 (fun x77 Mq77 hq => ?_)
    obtain ⟨⟨K77, tp77, h77⟩, hS77⟩ := hq
    obtain ⟨ls77, hQ77, hT77⟩ := hS77 (j_kp hpq)
    have hU77 := j_St_eq hT77 (show ls77 = t_total u jx from hQ77.trans (by rw [nI_clamp (show jx < 2 ^ 31 by omega)]))
    refine z_callSl (rest := []) (k' := jx * 90 + 10 + 40 + 40) (n' := jx * 3100 + 10 * 10 + 1500 + 1500) C (a_X5_addSigns (z_l X) hU77) (cs_X5_170 C (by decide)) rfl rfl (Nat.le_of_ble_eq_true rfl) rfl rfl (by show _ ≤ 700; omega) (by show _ ≤ 22000; omega) dX5_digest_80 (fun x80 Mq80 hq => ?_)
    obtain ⟨e80, rfl⟩ := hq
    refine z_lstore_n (lv' := [(1, .long x80), (3, .int (nI jx)), (0, .ref m)]) C dX5_digest_83 rfl (by decide) rfl ?_
    refine z_iinc (v := nI (jx + 1)) (lv' := [(3, .int (nI (jx + 1))), (1, .long x80), (0, .ref m)]) C dX5_digest_84 1 rfl (nI_1 jx) (by decide) rfl ?_
    refine z_goto C (tgt := 31) dX5_digest_87 (by decide) ?_
    refine z_kn (k' := (jx + 1) * 90) (n' := (jx + 1) * 3100) (by omega) (by omega) ?_
    refine z_fewer [0, 2, 1] rfl ?_
    exact ih (jx + 1) (by omega) _ _ _ _ _ h77 (by rw [e80, e72, hd2, hdq]; exact rfl)
set_option maxRecDepth 20000 in
theorem lp_X5_d4 {X : zX} (C : z_C X cX5_digest RX5 5 (z_rm 14 700 22000)) {u : sS} {m pn td t : Nat} (hok : s_ok t u) (ht : t ≤ 64) {d0 : Int64} (kk : ∀ (dq : Int64) (Mw : zM) (th9 : Int32) (K9 : Nat → Nat) (tp9 : Nat), RI (z_G X) u m th9 K9 tp9 pn td Mw → dq = t_it (t_ks u) d0 6 → z_W X Mw (6 * 90) (6 * 3100) 137 [(0, .ref m), (1, .long dq)] []) : ∀ (d jx : Nat), jx + d = 6 → ∀ (dq : Int64) (Mw : zM) (th9 : Int32) (K9 : Nat → Nat) (tp9 : Nat), RI (z_G X) u m th9 K9 tp9 pn td Mw → dq = t_it (t_ks u) d0 jx → z_W X Mw (6 * 90) (6 * 3100) 92 [(3, .int (nI jx)), (0, .ref m), (1, .long dq)] [] := by
  intro d
  induction d with
  | zero =>
    intro jx hd dq Mw th9 K9 tp9 hR hdq
    refine z_iload_n C dX5_digest_92 rfl 0 rfl ?_
    refine z_bipush C (v := 6) dX5_digest_93 (by decide) ?_
    refine z_icmp_ge C (tgt := 137) dX5_digest_95 (by decide) (fun _ => ?_) (fun c95 => absurd (nI_le (b := jx) (a := 6) (by omega) (by omega)) c95)
    refine z_fewer [1, 2] rfl ?_
    exact kk _ _ _ _ _ hR (by rw [hdq, show jx = 6 by omega])
  | succ d ih =>
    intro jx hd dq Mw th9 K9 tp9 hR hdq
    refine z_iload_n C dX5_digest_92 rfl 0 rfl ?_
    refine z_bipush C (v := 6) dX5_digest_93 (by decide) ?_
    refine z_icmp_ge C (tgt := 137) dX5_digest_95 (by decide) (fun c95 => absurd c95 (nI_ge (a := jx) (b := 6) (by omega) (by omega))) (fun _ => ?_)
    refine z_lload_n C dX5_digest_98 rfl 2 rfl ?_
    refine z_aload_n C dX5_digest_99 rfl 1 rfl ?_
    refine z_iload_n C dX5_digest_100 rfl 0 rfl ?_
    refine z_iload_n C dX5_digest_101 rfl 0 rfl ?_
    refine z_iconst C (v := 1) dX5_digest_102 (by decide) ?_
    refine z_iadd C dX5_digest_103 ?_
    refine z_bipush C (v := 6) dX5_digest_104 (by decide) ?_
    refine z_irem C dX5_digest_106 (by decide) ?_
    refine z_callVi (rest := [.long dq]) (k' := 6 * 90) (n' := 6 * 3100) C (a_X5_isKin (z_l X) hR hok ht _ _) (cs_X5_177 C (by decide)) hR.1 rfl rfl rfl rfl (Nat.le_of_ble_eq_true rfl) rfl rfl (by show _ ≤ 700; omega) (by show _ ≤ 22000; omega) dX5_digest_107 (fun x107 Mq107 hq => ?_)
    have v107 : x107 = s_kin u jx (t_nx jx) := (RP_v hq (by rw [t_nxE (by omega)]; exact t_k2 (by omega) (t_nx_in jx (by omega)))).trans (by show s_kin u _ _ = _; rw [t_nxE (by omega), nI_clamp (show jx < 2 ^ 31 by omega), nI_clamp (show t_nx jx < 2 ^ 31 by have := t_nx_in jx (by omega); omega)])
    obtain ⟨K107, tp107, h107⟩ := RP_u hq
    refine z_i2l C dX5_digest_110 ?_
    refine z_callSl (rest := []) (k' := 6 * 90) (n' := 6 * 3100) C (c_X5_add (z_l X) (z_G X) ) (cs_X5_154 C (by decide)) rfl rfl (Nat.le_of_ble_eq_true rfl) rfl rfl (by show _ ≤ 700; omega) (by show _ ≤ 22000; omega) dX5_digest_111 (fun x111 M' hq => ?_)
    obtain ⟨rfl, rfl⟩ := hq
    refine z_aload_n C dX5_digest_114 rfl 1 rfl ?_
    refine z_iload_n C dX5_digest_115 rfl 0 rfl ?_
    refine z_iconst C (v := 0) dX5_digest_116 (by decide) ?_
    refine z_iload_n C dX5_digest_117 rfl 0 rfl ?_
    refine z_iconst C (v := 1) dX5_digest_118 (by decide) ?_
    refine z_iadd C dX5_digest_119 ?_
    refine z_bipush C (v := 6) dX5_digest_120 (by decide) ?_
    refine z_irem C dX5_digest_122 (by decide) ?_
    refine z_callVi (rest := [.long ((dq * 31) + x107.toInt64)]) (k' := 6 * 90) (n' := 6 * 3100) C (a_X5_sees (z_l X) h107 hok ht _ _ _) (cs_X5_180 C (by decide)) h107.1 rfl rfl rfl rfl (Nat.le_of_ble_eq_true rfl) rfl rfl (by show _ ≤ 700; omega) (by show _ ≤ 22000; omega) dX5_digest_123 (fun x123 Mq123 hq => ?_)
    have v123 : x123 = s_sees u jx 0 (t_nx jx) := (RP_v hq (by rw [t_nxE (by omega)]; exact t_k2 (by omega) (t_nx_in jx (by omega)))).trans (by show s_sees u _ _ _ = _; rw [t_nxE (by omega), nI_clamp (show jx < 2 ^ 31 by omega), nI_clamp (show t_nx jx < 2 ^ 31 by have := t_nx_in jx (by omega); omega)])
    obtain ⟨K123, tp123, h123⟩ := RP_u hq
    refine z_i2l C dX5_digest_126 ?_
    refine z_callSl (rest := []) (k' := 6 * 90) (n' := 6 * 3100) C (c_X5_add (z_l X) (z_G X) ) (cs_X5_154 C (by decide)) rfl rfl (Nat.le_of_ble_eq_true rfl) rfl rfl (by show _ ≤ 700; omega) (by show _ ≤ 22000; omega) dX5_digest_127 (fun x127 M' hq => ?_)
    obtain ⟨rfl, rfl⟩ := hq
    refine z_lstore_n (lv' := [(1, .long ((((dq * 31) + x107.toInt64) * 31) + x123.toInt64)), (3, .int (nI jx)), (0, .ref m)]) C dX5_digest_130 rfl (by decide) rfl ?_
    refine z_iinc (v := nI (jx + 1)) (lv' := [(3, .int (nI (jx + 1))), (1, .long ((((dq * 31) + x107.toInt64) * 31) + x123.toInt64)), (0, .ref m)]) C dX5_digest_131 1 rfl (nI_1 jx) (by decide) rfl ?_
    refine z_goto C (tgt := 92) dX5_digest_134 (by decide) ?_
    refine z_fewer [0, 2, 1] rfl ?_
    exact ih (jx + 1) (by omega) _ _ _ _ _ h123 (by rw [v123, v107, hdq]; exact rfl)
set_option maxRecDepth 20000 in
theorem a_X5_digest (l : Launch) {G : zG} {u : sS} {m : Nat} {th : Int32} {K : Nat → Nat} {tp pn td : Nat} {Mw : zM} (hR : RI G u m th K tp pn td Mw) {t : Nat} (hok : s_ok t u) (ht : t ≤ 64) : z_Ml l G qX5_digest (z_rm 14 700 22000) [.ref m] Mw (fun r Mz => r = t_digest u ∧ ∃ K' tp', RI G u m 0 K' tp' pn td Mz)  := by
  refine z_Ml_of _ (plainFor_of_name rfl) rfl (Nat.le_of_ble_eq_true rfl) (fun X hl hG hnm C ret => ?_)
  subst hl; subst hG
  have C : z_C X cX5_digest RX5 5 (z_rm 14 700 22000) := C
  show z_W X Mw 0 0 0 [(0, .ref m)] []
  refine z_ldc2 C (v := 8017) kw1341 dX5_digest_0 ?_
  refine z_lstore_n (lv' := [(1, .long 8017), (0, .ref m)]) C dX5_digest_3 rfl (by decide) rfl ?_
  refine z_iconst C (v := 0) dX5_digest_4 (by decide) ?_
  refine z_istore_n (lv' := [(3, .int 0), (1, .long 8017), (0, .ref m)]) C dX5_digest_5 rfl (by decide) rfl ?_
  refine z_fewer [0, 2, 1] rfl ?_
  refine z_at (M' := _) (lv' := [(3, .int (nI 0)), (0, .ref m), (1, .long 8017)]) rfl (by rw [nI_0]; rfl) rfl ?_
  refine lp_X5_d1 C hok ht (d0 := 8017) (fun dq Mw th9 K9 tp9 hR hd1 => ?_) 9 0 (Nat.zero_add _) _ _ _ _ _ hR (t_it_0 _ _)
  refine z_iconst C (v := 0) dX5_digest_29 (by decide) ?_
  refine z_istore_n (lv' := [(3, .int 0), (0, .ref m), (1, .long dq)]) C dX5_digest_30 rfl (by decide) rfl ?_
  refine z_fewer [0, 1, 2] rfl ?_
  refine z_at (M' := _) (lv' := [(3, .int (nI 0)), (0, .ref m), (1, .long dq)]) rfl (by rw [nI_0]; rfl) rfl ?_
  refine z_kn (k' := 0 * 90) (n' := 0 * 3100) rfl rfl ?_
  refine lp_X5_d3 C hok ht (d0 := dq) (fun dq3 Mw th9 K9 tp9 hR hd3 => ?_) 6 0 (Nat.zero_add _) _ _ _ _ _ hR (t_it_0 _ _)
  refine z_iconst C (v := 0) dX5_digest_90 (by decide) ?_
  refine z_istore_n (lv' := [(3, .int 0), (0, .ref m), (1, .long dq3)]) C dX5_digest_91 rfl (by decide) rfl ?_
  refine z_fewer [0, 1, 2] rfl ?_
  refine z_at (M' := _) (lv' := [(3, .int (nI 0)), (0, .ref m), (1, .long dq3)]) rfl (by rw [nI_0]; rfl) rfl ?_
  refine lp_X5_d4 C hok ht (d0 := dq3) (fun dq4 Mw th9 K9 tp9 hR hd4 => ?_) 6 0 (Nat.zero_add _) _ _ _ _ _ hR (t_it_0 _ _)
  refine z_lload_n C dX5_digest_137 rfl 1 rfl ?_
  refine z_aload_n C dX5_digest_138 rfl 0 rfl ?_
  refine z_callVr (rest := [.long dq4]) (k' := 6 * 90 + 40) (n' := 6 * 3100 + 1500) C (a_X5_row (z_l X) hR hok ht) (cs_X5_184 C (by decide)) hR.1 rfl rfl rfl rfl (Nat.le_of_ble_eq_true rfl) rfl rfl (by show _ ≤ 700; omega) (by show _ ≤ 22000; omega) dX5_digest_139 (fun x139 Mq139 hq => ?_)
  obtain ⟨⟨K139, tp139, h139⟩, hS139⟩ := hq
  obtain ⟨ls139, hQ139, hT139⟩ := hS139 rfl
  have hU139 := j_St_eq hT139 (show ls139 = t_row u from hQ139)
  refine z_callSl (rest := []) (k' := 6 * 90 + 40) (n' := 6 * 3100 + 1500) C (a_X5_addSigns (z_l X) hU139) (cs_X5_170 C (by decide)) rfl rfl (Nat.le_of_ble_eq_true rfl) rfl rfl (by show _ ≤ 700; omega) (by show _ ≤ 22000; omega) dX5_digest_142 (fun x142 Mq142 hq => ?_)
  obtain ⟨e142, rfl⟩ := hq
  refine z_lstore_n (lv' := [(1, .long x142), (0, .ref m)]) C dX5_digest_145 rfl (by decide) rfl ?_
  refine z_aload_n C dX5_digest_146 rfl 1 rfl ?_
  refine z_iconst C (v := 0) dX5_digest_147 (by decide) ?_
  refine pf_X5_33 C h139.1 dX5_digest_148 ?_
  refine z_lload_n C dX5_digest_151 rfl 0 rfl ?_
  refine z_lconst C (v := 1) dX5_digest_152 (by decide) ?_
  refine z_callSl (rest := []) (k' := 6 * 90 + 40) (n' := 6 * 3100 + 1500) C (c_X5_add (z_l X) (z_G X) ) (cs_X5_154 C (by decide)) rfl rfl (Nat.le_of_ble_eq_true rfl) rfl rfl (Nat.le_of_ble_eq_true rfl) (Nat.le_of_ble_eq_true rfl) dX5_digest_153 (fun x153 M' hq => ?_)
  obtain ⟨rfl, rfl⟩ := hq
  refine ret dX5_digest_156 ?_ (Nat.le_of_ble_eq_true rfl) (Nat.le_of_ble_eq_true rfl)
  exact ⟨by rw [e142]; exact t_digest_eq u (by rw [hd4, hd3, hd1]), _, _, RI_ak h139 _ _ _⟩
