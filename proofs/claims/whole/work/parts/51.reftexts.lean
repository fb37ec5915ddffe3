/-! PART 51: the reference's texts: what a new builder keeps -/
theorem z_opq {X : zX} {Mw : zM} {k n pc : Nat} {lv : List (Nat × Value)} {st : List Value} (kk : ∀ Mz, Mz = Mw → z_W X Mz k n pc lv st) : z_W X Mw k n pc lv st := kk Mw rfl
theorem z_tope {X : zX} {Mw : zM} {k n pc : Nat} {lv : List (Nat × Value)} {st : List Value} {x y : Int32} (h : x = y) (kk : z_W X Mw k n pc lv (.int y :: st)) : z_W X Mw k n pc lv (.int x :: st) := by rw [h]; exact kk
def j_K (R0 Mw : zM) (sb vb : Nat) : Prop := R0 sb = none ∧ R0 vb = none ∧ ∀ a e, R0 a = some e → Mw a = some e
theorem j_K_fr {R0 Mw Mz : zM} {sb vb vb' : Nat} (h : j_K R0 Mw sb vb) (hF : j_Fr Mw sb vb vb' Mz) : j_K R0 Mz sb vb' := by
  refine ⟨h.1, ?_, fun a e ha => hF.2 a e (h.2.2 a e ha) (z_neN ha h.1) (z_neN ha h.2.1)⟩
  rcases hF.1 with rfl | hv
  · exact h.2.1
  · cases hr : R0 vb' with
    | none => rfl
    | some e => rw [h.2.2 _ _ hr] at hv; cases hv
theorem j_newSB {G : zG} {R0 Mz : zM} {sb vb : Nat} {e0 : va_E} (h1 : R0 sb = none) (h2 : z_up R0 sb e0 vb = none) (hW : Mz = z_up (z_up R0 vb (aB G 16 (fun _ => 0))) sb (.inr (1, [.ref vb, .int 0, .int 0, .int 0]))) : j_B G Mz sb vb 0 16 ∧ j_K R0 Mz sb vb := by
  have hne : vb ≠ sb := by
    intro q
    rw [q, z_up_s] at h2
    cases h2
  rw [z_up_n _ _ hne] at h2
  subst hW
  refine ⟨⟨0, fun _ => 0, z_up_s _ _ _, by rw [z_up_n _ _ hne, z_up_s], sb_fit0, by decide, by decide, by decide⟩, h1, h2, fun a e ha => ?_⟩
  rw [z_up_n _ _ (z_neN ha h1), z_up_n _ _ (z_neN ha h2)]
  exact ha
theorem j_toStrR (l : Launch) {G : zG} {R0 Mw : zM} {sb vb c n : Nat} (hB : j_B G Mw sb vb c n) {ls : List Int32} (hL : j_L Mw vb c ls) (hK : j_K R0 Mw sb vb) (hc : c ≤ 280) : z_Mr l G qJ4_toString_0e30d (z_rm 6 2 (4 + c)) [.ref sb] Mw (fun r Mz => j_St G r Mz ls ∧ ∀ a e, R0 a = some e → Mz a = some e) := by
  obtain ⟨ml, f, h1, h2, hf, g1, g2, g3⟩ := hB
  obtain ⟨hl1, hl2⟩ := j_L_f h2 hL
  refine z_Mr_mono (c_J4_toString_0e30d l G h1 h2 g1 (by omega) hf) ?_
  rintro r Mz ⟨f9, q0, hq0, q9, hq9, hf9, hg9, hr9, rfl⟩
  have h9 := j_two9 (e' := aB G c f9) hq0 hq9
  have hne : q9 ≠ q0 := by
    intro q
    rw [q, z_up_s] at hq9
    cases hq9
  rw [hr9]
  refine ⟨⟨q9, c, f9, z_up_s _ _ _, by rw [z_up_n _ _ hne, z_up_s], hf9, hc, hl1, fun k hk => (hg9 k hk).trans (hl2 k hk)⟩, fun a e ha => ?_⟩
  have ha' := hK.2.2 a e ha
  rw [z_up_n _ _ (z_neN ha' hq0), z_up_n _ _ (z_neN ha' h9.1)]
  exact ha'
theorem z_kln1 (i : Nat) (h : 0 < i) (h5 : i < 5) : z_kln i = 1 := by
  rcases (show i = 1 ∨ i = 2 ∨ i = 3 ∨ i = 4 by omega) with rfl | rfl | rfl | rfl <;> rfl
theorem dX5_joined_0 : decode cX5_joined 0 = .ok (.new 106, 3) := by decide +kernel
theorem dX5_joined_3 : decode cX5_joined 3 = .ok (.dup, 1) := by decide +kernel
theorem dX5_joined_4 : decode cX5_joined 4 = .ok (.invokespecial 108, 3) := by decide +kernel
theorem dX5_joined_7 : decode cX5_joined 7 = .ok (.astore_n 3, 1) := by decide +kernel
theorem dX5_joined_8 : decode cX5_joined 8 = .ok (.iload_n 1, 1) := by decide +kernel
theorem dX5_joined_9 : decode cX5_joined 9 = .ok (.istore 4, 2) := by decide +kernel
theorem dX5_joined_11 : decode cX5_joined 11 = .ok (.iload 4, 2) := by decide +kernel
theorem dX5_joined_13 : decode cX5_joined 13 = .ok (.iload_n 2, 1) := by decide +kernel
theorem dX5_joined_14 : decode cX5_joined 14 = .ok (.if_icmp .ge 34, 3) := by decide +kernel
theorem dX5_joined_17 : decode cX5_joined 17 = .ok (.iload 4, 2) := by decide +kernel
theorem dX5_joined_19 : decode cX5_joined 19 = .ok (.iload_n 1, 1) := by decide +kernel
theorem dX5_joined_20 : decode cX5_joined 20 = .ok (.if_icmp .le 10, 3) := by decide +kernel
theorem dX5_joined_23 : decode cX5_joined 23 = .ok (.aload_n 3, 1) := by decide +kernel
theorem dX5_joined_24 : decode cX5_joined 24 = .ok (.ldc 120, 2) := by decide +kernel
theorem dX5_joined_26 : decode cX5_joined 26 = .ok (.invokevirtual 109, 3) := by decide +kernel
theorem dX5_joined_29 : decode cX5_joined 29 = .ok (.pop, 1) := by decide +kernel
theorem dX5_joined_30 : decode cX5_joined 30 = .ok (.aload_n 3, 1) := by decide +kernel
theorem dX5_joined_31 : decode cX5_joined 31 = .ok (.aload_n 0, 1) := by decide +kernel
theorem dX5_joined_32 : decode cX5_joined 32 = .ok (.getfield 9, 3) := by decide +kernel
theorem dX5_joined_35 : decode cX5_joined 35 = .ok (.iload 4, 2) := by decide +kernel
theorem dX5_joined_37 : decode cX5_joined 37 = .ok (.iaload, 1) := by decide +kernel
theorem dX5_joined_38 : decode cX5_joined 38 = .ok (.invokevirtual 122, 3) := by decide +kernel
theorem dX5_joined_41 : decode cX5_joined 41 = .ok (.pop, 1) := by decide +kernel
theorem dX5_joined_42 : decode cX5_joined 42 = .ok (.iinc 4 1, 3) := by decide +kernel
theorem dX5_joined_45 : decode cX5_joined 45 = .ok (.goto (-34), 3) := by decide +kernel
theorem dX5_joined_48 : decode cX5_joined 48 = .ok (.aload_n 3, 1) := by decide +kernel
theorem dX5_joined_49 : decode cX5_joined 49 = .ok (.invokevirtual 116, 3) := by decide +kernel
theorem dX5_joined_52 : decode cX5_joined 52 = .ok (.areturn, 1) := by decide +kernel
set_option maxRecDepth 20000 in
theorem lp_X5_joined {X : zX} (C : z_C X cX5_joined RX5 5 (z_rm 9 40 1500)) {u : sS} {m : Nat} {th : Int32} {K : Nat → Nat} {tp pn td sb : Nat} {R0 : zM} (hR : RI (z_G X) u m th K tp pn td R0) {nt fq tq : Nat} {ft : Nat → Int32} (htp : R0 tp = some (aI (z_G X) nt ft)) (hval : ∀ k, fq ≤ k → k < tq → vp_in (nI k) nt ∧ 0 ≤ (ft k).toInt) (hft : tq ≤ fq + 16) (htq : tq ≤ 90000) (kk : ∀ c n vb Mz, c ≤ 176 → 16 ≤ n → j_K R0 Mz sb vb → j_B (z_G X) Mz sb vb c n → j_L Mz vb c (t_vs (fun j => (ft j).toNatClampNeg) fq (tq - fq)) → z_W X Mz (2 + (n - 16) / 16) (20 + 2 * (n - 16)) 48 [(3, .ref sb)] []) : ∀ (d jx c n vb : Nat) (Mw : zM), jx + d = tq → fq ≤ jx → c ≤ 11 * (jx - fq) → j_K R0 Mw sb vb → j_B (z_G X) Mw sb vb c n → 16 ≤ n → j_L Mw vb c (t_vs (fun j => (ft j).toNatClampNeg) fq (jx - fq)) → z_W X Mw (2 + (n - 16) / 16) (20 + 2 * (n - 16)) 11 [(4, .int (nI jx)), (0, .ref m), (1, .int (nI fq)), (2, .int (nI tq)), (3, .ref sb)] [] := by
  intro d
  induction d with
  | zero =>
    intro jx c n vb Mw hd hj hc9 hK hB hn0 hL
    have hb0 := j_B_c hB
    refine z_iload C dX5_joined_11 0 rfl ?_
    refine z_iload_n C dX5_joined_13 rfl 3 rfl ?_
    refine z_icmp_ge C (tgt := 48) dX5_joined_14 (by decide) (fun _ => ?_) (fun c14 => absurd (nI_le (by omega) (by omega)) c14)
    refine z_fewer [4] rfl ?_
    exact kk _ _ _ _ (by omega) (by omega) hK hB (by rw [show tq = jx by omega]; exact hL)
  | succ d ih =>
    intro jx c n vb Mw hd hj hc9 hK hB hn0 hL
    have hb0 := j_B_c hB
    refine z_iload C dX5_joined_11 0 rfl ?_
    refine z_iload_n C dX5_joined_13 rfl 3 rfl ?_
    refine z_icmp_ge C (tgt := 48) dX5_joined_14 (by decide) (fun c14 => absurd c14 (nI_ge (by omega) (by omega))) (fun _ => ?_)
    refine z_iload C dX5_joined_17 0 rfl ?_
    refine z_iload_n C dX5_joined_19 rfl 2 rfl ?_
    refine z_icmp_le C (tgt := 30) dX5_joined_20 (by decide) (fun c20 => ?_) (fun c20 => ?_)
    · refine z_aload_n C dX5_joined_30 rfl 4 rfl ?_
      refine z_aload_n C dX5_joined_31 rfl 1 rfl ?_
      refine gf_X5_9 C ((hK).2.2 _ _ hR.1) dX5_joined_32 ?_
      refine z_iload C dX5_joined_35 0 rfl ?_
      refine z_iald (j := jx) C ((hK).2.2 _ _ htp) (hval jx (by omega) (by omega)).1 (nI_clamp (by omega)) dX5_joined_37 ?_
      have hw1 := sb_dg_in ((ft jx).toNatClampNeg)
      refine z_tope (y := nI ((ft jx).toNatClampNeg)) (z_cN (hval jx (by omega) (by omega)).2).1 ?_
      have hm1 := j_B_c hB
      have hl1 := j_cap_le (n := n) (q := c + (sb_dg ((ft jx).toNatClampNeg))) hm1.2.2 (by omega)
      refine j_site (q := qJ4_append_bf812) (c := c) (n := n) (w := (sb_dg ((ft jx).toNatClampNeg))) (F := 3) (k0 := 2) (s0 := 20) (n0 := 16) (rest := []) (wl := (t_nm ((ft jx).toNatClampNeg))) C hB hL rfl (fun h9 => cs_X5_122 C h9) ⟨Nat.le_of_ble_eq_true rfl, Nat.le_of_ble_eq_true rfl⟩ (Nat.le_of_ble_eq_true rfl) (Nat.le_of_ble_eq_true rfl) (fun h9 => j_I_fit hB (j_v31 _) (t_nm_i (j_v31 _)) h9) (fun h9 => j_I_grow hB (j_v31 _) (t_nm_i (j_v31 _)) (by omega) h9) rfl rfl (Nat.le_of_ble_eq_true rfl) (by omega) (by show _ ≤ 40; omega) (by show _ ≤ 1500; omega) dX5_joined_38 (fun vc1 Mc1 hB1 hF1 hL1 => ?_)
      have hK1 := j_K_fr hK hF1
      have hn1 := j_cap_ge (n) (c + (sb_dg ((ft jx).toNatClampNeg)))
      refine z_pop C dX5_joined_41 rfl ?_
      refine z_iinc (v := nI (jx + 1)) (lv' := [(4, .int (nI (jx + 1))), (0, .ref m), (1, .int (nI fq)), (2, .int (nI tq)), (3, .ref sb)]) C dX5_joined_42 0 rfl (nI_1 jx) (by decide) rfl ?_
      refine z_goto C (tgt := 11) dX5_joined_45 (by decide) ?_
      refine z_fewer [0, 1, 2, 3, 4] rfl ?_
      exact ih (jx + 1) _ _ _ _ (by omega) (by omega) (by omega) hK1 hB1 (by omega) (j_L_eq hL1 (t_vs_0 hj ((t_leN (by omega) (by omega)).mp c20) (g := fun j => (ft j).toNatClampNeg)))
    · refine z_aload_n C dX5_joined_23 rfl 4 rfl ?_
      refine z_ldcK (i := 1) C (by decide) rfl dX5_joined_24 ?_
      have hw1 : z_kln 1 ≤ 1 := z_kln_in 1 (by decide)
      have hm1 := j_B_c hB
      have hl1 := j_cap_le (n := n) (q := c + (z_kln 1)) hm1.2.2 (by omega)
      refine j_site (q := qJ4_append_15ec4) (c := c) (n := n) (w := (z_kln 1)) (F := 5) (k0 := 2) (s0 := 20) (n0 := 16) (rest := []) (wl := [32]) C hB hL rfl (fun h9 => cs_X5_109 C h9) ⟨Nat.le_of_ble_eq_true rfl, Nat.le_of_ble_eq_true rfl⟩ (Nat.le_of_ble_eq_true rfl) (Nat.le_of_ble_eq_true rfl) (fun h9 => j_S_fit hB (by decide) rfl h9) (fun h9 => j_S_grow hB (by decide) rfl (by omega) h9) rfl rfl (Nat.le_of_ble_eq_true rfl) (by omega) (by show _ ≤ 40; omega) (by show _ ≤ 1500; omega) dX5_joined_26 (fun vc1 Mc1 hB1 hF1 hL1 => ?_)
      have hK1 := j_K_fr hK hF1
      have hn1 := j_cap_ge (n) (c + (z_kln 1))
      refine z_pop C dX5_joined_29 rfl ?_
      refine z_aload_n C dX5_joined_30 rfl 4 rfl ?_
      refine z_aload_n C dX5_joined_31 rfl 1 rfl ?_
      refine gf_X5_9 C ((hK1).2.2 _ _ hR.1) dX5_joined_32 ?_
      refine z_iload C dX5_joined_35 0 rfl ?_
      refine z_iald (j := jx) C ((hK1).2.2 _ _ htp) (hval jx (by omega) (by omega)).1 (nI_clamp (by omega)) dX5_joined_37 ?_
      have hw2 := sb_dg_in ((ft jx).toNatClampNeg)
      refine z_tope (y := nI ((ft jx).toNatClampNeg)) (z_cN (hval jx (by omega) (by omega)).2).1 ?_
      have hm2 := j_B_c hB1
      have hl2 := j_cap_le (n := (j_cap n (c + (z_kln 1)))) (q := (c + (z_kln 1)) + (sb_dg ((ft jx).toNatClampNeg))) hm2.2.2 (by omega)
      refine j_site (q := qJ4_append_bf812) (c := (c + (z_kln 1))) (n := (j_cap n (c + (z_kln 1)))) (w := (sb_dg ((ft jx).toNatClampNeg))) (F := 3) (k0 := 2) (s0 := 20) (n0 := 16) (rest := []) (wl := (t_nm ((ft jx).toNatClampNeg))) C hB1 hL1 rfl (fun h9 => cs_X5_122 C h9) ⟨Nat.le_of_ble_eq_true rfl, Nat.le_of_ble_eq_true rfl⟩ (Nat.le_of_ble_eq_true rfl) (Nat.le_of_ble_eq_true rfl) (fun h9 => j_I_fit hB1 (j_v31 _) (t_nm_i (j_v31 _)) h9) (fun h9 => j_I_grow hB1 (j_v31 _) (t_nm_i (j_v31 _)) (by omega) h9) rfl rfl (Nat.le_of_ble_eq_true rfl) (by omega) (by show _ ≤ 40; omega) (by show _ ≤ 1500; omega) dX5_joined_38 (fun vc2 Mc2 hB2 hF2 hL2 => ?_)
      have hK2 := j_K_fr hK1 hF2
      have hn2 := j_cap_ge ((j_cap n (c + (z_kln 1)))) ((c + (z_kln 1)) + (sb_dg ((ft jx).toNatClampNeg)))
      refine z_pop C dX5_joined_41 rfl ?_
      refine z_iinc (v := nI (jx + 1)) (lv' := [(4, .int (nI (jx + 1))), (0, .ref m), (1, .int (nI fq)), (2, .int (nI tq)), (3, .ref sb)]) C dX5_joined_42 0 rfl (nI_1 jx) (by decide) rfl ?_
      refine z_goto C (tgt := 11) dX5_joined_45 (by decide) ?_
      refine z_fewer [0, 1, 2, 3, 4] rfl ?_
      exact ih (jx + 1) _ _ _ _ (by omega) (by omega) (by omega) hK2 hB2 (by omega) (j_L_eq hL2 (t_vs_1 (Nat.lt_of_not_le fun q => c20 ((t_leN (by omega) (by omega)).mpr q)) (g := fun j => (ft j).toNatClampNeg)))
set_option maxRecDepth 20000 in
theorem a_X5_joined (l : Launch) {G : zG} {u : sS} {m : Nat} {th : Int32} {K : Nat → Nat} {tp pn td : Nat} {Mw : zM} (hR : RI G u m th K tp pn td Mw) {nt fq tq : Nat} {ft : Nat → Int32} (htp : Mw tp = some (aI G nt ft)) (hval : ∀ k, fq ≤ k → k < tq → vp_in (nI k) nt ∧ 0 ≤ (ft k).toInt) (hft : tq ≤ fq + 16) (htq : tq ≤ 90000) (hfq : fq ≤ tq) : z_Mr l G qX5_joined (z_rm 9 40 1500) [.ref m, .int (nI fq), .int (nI tq)] Mw (fun r Mz => j_St G r Mz (t_vs (fun j => (ft j).toNatClampNeg) fq (tq - fq)) ∧ RI G u m th K tp pn td Mz)  := by
  refine z_Mr_of _ (plainFor_of_name rfl) rfl (by first | exact Or.inl ⟨_, rfl⟩ | exact Or.inr ⟨_, rfl⟩) (Nat.le_of_ble_eq_true rfl) (fun X hl hG hnm C ret => ?_)
  subst hl; subst hG
  have C : z_C X cX5_joined RX5 5 (z_rm 9 40 1500) := C
  show z_W X Mw 0 0 0 [(0, .ref m), (1, .int (nI fq)), (2, .int (nI tq))] []
  refine z_new (ci := 1) (fs := [.null, .int 0, .int 0, .int 0]) C rfl inJ4 tyJ4 tyJ4_ok kw1257 kw96 kw6 (fun j hj => by rcases (show j = 0 ∨ j = 1 ∨ j = 2 ∨ j = 3 by omega) with rfl | rfl | rfl | rfl <;> rfl) (by decide) (by decide) dX5_joined_0 (fun q0 hq0 => ?_)
  refine z_kn (k' := 1) (n' := 4) rfl rfl ?_
  refine z_dup C dX5_joined_3 rfl ?_
  refine z_callI (rest := [.ref q0]) (k' := 2) (n' := 20) C (c_J4_init_da8c8 (z_l X) (z_G X) (z_up_s _ _ _)) (cs_X5_108 C ⟨Nat.le_of_ble_eq_true rfl, Nat.le_of_ble_eq_true rfl⟩) rfl rfl (Nat.le_of_ble_eq_true rfl) rfl rfl (by decide) (by decide) dX5_joined_4 (fun M' hq => ?_)
  obtain ⟨q12_3_4, hq12_3_4, rfl⟩ := hq
  rw [z_up_swap _ (z_neN (z_up_s _ _ _) hq12_3_4)]
  rw [z_up_up]
  refine z_opq (fun Mb hWb => ?_)
  obtain ⟨hBn, hKn⟩ := j_newSB hq0 hq12_3_4 hWb
  clear hWb
  refine z_kn (k' := 2 + (16 - 16) / 16) (n' := 20 + 2 * (16 - 16)) rfl rfl ?_
  generalize q0 = sb at hBn hKn ⊢
  have hLn := j_L0 hBn
  refine z_astore_n (lv' := [(3, .ref sb), (0, .ref m), (1, .int (nI fq)), (2, .int (nI tq))]) C dX5_joined_7 rfl (by decide) rfl ?_
  refine z_iload_n C dX5_joined_8 rfl 2 rfl ?_
  refine z_istore (lv' := [(4, .int (nI fq)), (3, .ref sb), (0, .ref m), (1, .int (nI fq)), (2, .int (nI tq))]) C dX5_joined_9 (by decide) rfl ?_
  refine z_fewer [0, 2, 3, 4, 1] rfl ?_
  refine lp_X5_joined C hR htp hval hft htq (fun c1 n1 vb1 Mz hc1 hn1 h1 h2 h3 => ?_) (tq - fq) fq 0 16 _ _ (by omega) (Nat.le_refl _) (by omega) hKn hBn (Nat.le_refl _) (j_L_eq hLn (by rw [Nat.sub_self]; exact (rfl : [] = t_vs _ fq 0)))
  refine z_aload_n C dX5_joined_48 rfl 0 rfl ?_
  obtain ⟨ml9, hs9⟩ := j_sbE h2
  have hm9 := j_B_c h2
  refine z_callVr (rest := []) (k' := 2 + (n1 - 16) / 16 + 2) (n' := 20 + 2 * (n1 - 16) + (4 + c1)) C (j_toStrR (z_l X) h2 h3 h1 (by omega)) (cs_X5_116 C ⟨Nat.le_of_ble_eq_true rfl, Nat.le_of_ble_eq_true rfl⟩) hs9 rfl rfl rfl rfl (Nat.le_of_ble_eq_true rfl) rfl rfl (by show _ ≤ 40; omega) (by show _ ≤ 1500; omega) dX5_joined_49 (fun x49 Mq49 hq => ?_)
  obtain ⟨hSt, hk9⟩ := hq
  refine ret dX5_joined_52 ?_ (by show _ ≤ 40; omega) (by show _ ≤ 1500; omega)
  exact ⟨hSt, RI_mono hR hk9⟩
