/-! PART 63: a new object of the reference -/
def s_tl (j : Nat) : Nat := if j ≤ 4 then 16 else 16 + 8 * (j - 4)
/-- the reference half made: j panes stand -/
def s_LI (G : zG) (m pn td j tp : Nat) (K : Nat → Nat) (Mw : zM) : Prop :=
  Mw m = some (cMd tp (nI (s_rn j)) pn td 0 0 0) ∧
  (∃ ft : Nat → Int32, Mw tp = some (aI G (s_tl j) ft) ∧ ∀ k, k < s_tl j → ft k = 0) ∧
  (∃ fp : Nat → Option Nat, Mw pn = some (aII G 6 fp) ∧ ∀ i, i < j → fp i = some (K i)) ∧
  Mw td = some (aI G 6 (fun _ => 0)) ∧
  (∀ i, i < j → Mw (K i) = some (cPy G (nI (s_ba s_l0 (p_ro (s_p0 i)))) (s_p0 i))) ∧
  (∀ a b, a < j → b < j → K a = K b → a = b) ∧ (∀ i, i < j → K i ≠ td) ∧ (∀ i, i < j → K i ≠ tp) ∧ td ≠ tp
section LIS
variable {G : zG} {m pn td j tp : Nat} {K : Nat → Nat} {Mw Mb : zM} {fp : Nat → Option Nat} {ft : Nat → Int32}
theorem s_LI0 (h1 : Mb m = some (cMd tp 1 pn td 0 0 0)) (h2 : Mb tp = some (aI G 16 (fun _ => 0))) (h3 : Mb pn = some (aII G 6 fp)) (h4 : Mb td = some (aI G 6 (fun _ => 0))) (h5 : td ≠ tp) : s_LI G m pn td 0 tp (fun _ => 0) Mb :=
  ⟨h1, ⟨_, h2, fun _ _ => rfl⟩, ⟨fp, h3, fun i hi => absurd hi (by omega)⟩, h4, fun i hi => absurd hi (by omega), fun a b ha => absurd ha (by omega), fun i hi => absurd hi (by omega), fun i hi => absurd hi (by omega), h5⟩
theorem s_LIa (hK : s_LI G m pn td j tp K Mw) (hj : j < 4) {q : Nat} (hpn : Mw pn = some (aII G 6 fp)) (hq : Mw q = none) (hk : ∀ a e, Mw a = some e → a ≠ pn → Mb a = some e) (h1 : Mb pn = some (aII G 6 (va_up fp j (some q)))) (h2 : Mb q = some (cPm G 0 0 0 16 0 16 (-1) 0)) : s_LI G m pn td (j + 1) tp (s_fu K j q) Mb := by
  obtain ⟨hm, ⟨ft, htp, hft⟩, ⟨fp', hpn', hfp⟩, htd, hP, iK, i1, i2, i3⟩ := hK
  have e : fp' = fp := by
    have := hpn'.symm.trans hpn
    simpa using this
  subst e
  have e1 : s_rn (j + 1) = s_rn j := by unfold s_rn; rw [if_pos (by omega), if_pos (by omega)]
  have e2 : s_tl (j + 1) = s_tl j := by unfold s_tl; rw [if_pos (by omega), if_pos (by omega)]
  rw [s_LI, e1, e2]
  have hn : ∀ {a : Nat} {e : va_E}, Mw a = some e → e ≠ aII G 6 fp' → Mb a = some e := fun ha he => hk _ _ ha (z_ne ha hpn he)
  refine ⟨hn hm (by intro h; cases h), ⟨ft, hn htp (by intro h; simp at h), hft⟩, ⟨_, h1, fun i hi => ?_⟩, hn htd (by intro h; simp at h), fun i hi => ?_, s_fu_one iK (fun a ha => z_neN (hP a ha) hq), fun i hi => ?_, fun i hi => ?_, i3⟩
  · by_cases hij : i = j
    · subst hij; rw [s_fu_s, va_up_self]
    · rw [s_fu_n _ _ hij, va_up_ne _ _ hij]; exact hfp i (by omega)
  · by_cases hij : i = j
    · subst hij
      rw [s_fu_s, s_p0a hj]
      exact h2
    · rw [s_fu_n _ _ hij]
      exact hn (hP i (by omega)) (by intro h; simp at h)
  · by_cases hij : i = j
    · subst hij; rw [s_fu_s]; exact (z_neN htd hq).symm
    · rw [s_fu_n _ _ hij]; exact i1 i (by omega)
  · by_cases hij : i = j
    · subst hij; rw [s_fu_s]; exact (z_neN htp hq).symm
    · rw [s_fu_n _ _ hij]; exact i2 i (by omega)
theorem s_LIb (hK : s_LI G m pn td j tp K Mw) (hj : 4 ≤ j) (hj6 : j < 6) {q tq : Nat} (hpn : Mw pn = some (aII G 6 fp)) (htp : Mw tp = some (aI G (s_tl j) ft)) (htq : Mw tq = none) (hq : Mw q = none) (hqt : q ≠ tq) (hk : ∀ a e, Mw a = some e → a ≠ pn → a ≠ m → Mb a = some e) (h0 : Mb m = some (cMd tq (nI (s_rn j) + 1) pn td 0 0 0)) (h1 : Mb pn = some (aII G 6 (va_up fp j (some q)))) (h2 : Mb q = some (cPm G (nI (s_rn j)) (Int32.ofNat (s_tl j)) 0 8 0 8 (-1) 0)) (h3 : Mb tq = some (aI G (s_tl j + 8) (z_cp ft (s_tl j)))) : s_LI G m pn td (j + 1) tq (s_fu K j q) Mb := by
  obtain ⟨hm, ⟨ft', htp', hft⟩, ⟨fp', hpn', hfp⟩, htd, hP, iK, i1, i2, i3⟩ := hK
  have e : fp' = fp := by
    have := hpn'.symm.trans hpn
    simpa using this
  subst e
  have e : ft' = ft := by
    have := htp'.symm.trans htp
    simpa using this
  subst e
  have e1 : s_rn (j + 1) = s_rn j + 1 := by unfold s_rn; split <;> split <;> omega
  have e2 : s_tl (j + 1) = s_tl j + 8 := by unfold s_tl; split <;> split <;> omega
  rw [s_LI, e1, e2]
  have hn : ∀ {a : Nat} {e : va_E}, Mw a = some e → e ≠ aII G 6 fp' → e ≠ cMd tp (nI (s_rn j)) pn td 0 0 0 → Mb a = some e := fun ha he h9 => hk _ _ ha (z_ne ha hpn he) (z_ne ha hm h9)
  refine ⟨by rw [← nI_1]; exact h0, ⟨_, h3, fun k hk9 => ?_⟩, ⟨_, h1, fun i hi => ?_⟩, hn htd (by intro h; simp at h) (by intro h; cases h), fun i hi => ?_, s_fu_one iK (fun a ha => z_neN (hP a ha) hq), fun i hi => ?_, fun i hi => ?_, z_neN htd htq⟩
  · show z_cp ft' (s_tl j) k = 0
    unfold z_cp
    split
    · rename_i h; exact hft k h
    · rfl
  · by_cases hij : i = j
    · subst hij; rw [s_fu_s, va_up_self]
    · rw [s_fu_n _ _ hij, va_up_ne _ _ hij]; exact hfp i (by omega)
  · by_cases hij : i = j
    · subst hij
      rw [s_fu_s]
      rcases (show i = 4 ∨ i = 5 by omega) with rfl | rfl <;> exact h2
    · rw [s_fu_n _ _ hij]
      exact hn (hP i (by omega)) (by intro h; simp at h) (by intro h; cases h)
  · by_cases hij : i = j
    · subst hij; rw [s_fu_s]; exact (z_neN htd hq).symm
    · rw [s_fu_n _ _ hij]; exact i1 i (by omega)
  · by_cases hij : i = j
    · subst hij; rw [s_fu_s]; exact hqt
    · rw [s_fu_n _ _ hij]; exact z_neN (hP i (by omega)) htq
theorem s_LIz (hK : s_LI G m pn td 6 tp K Mw) : RI G s_00 m 0 K tp pn td Mw := by
  obtain ⟨hm, ⟨ft, htp, hft⟩, ⟨fp, hpn, hfp⟩, htd, hP, iK, i1, i2, i3⟩ := hK
  refine ⟨hm, ⟨ft, htp, fun r hr j hj => hft _ ?_⟩, ⟨fp, hpn, hfp⟩, htd, hP, iK, i1, i2, i3⟩
  have h9 := s_ba_lt s_l0 (r := r) (s := 3) hr
  have h8 : s_ba s_l0 3 = 32 := by decide
  have h7 : s_tl 6 = 32 := by decide
  have h6 : j < s_l0 r := hj
  show s_ba s_l0 r + j < s_tl 6
  omega
end LIS
theorem dX5_init_0 : decode cX5_init 0 = .ok (.aload_n 0, 1) := by decide +kernel
theorem dX5_init_1 : decode cX5_init 1 = .ok (.invokespecial 1, 3) := by decide +kernel
theorem dX5_init_4 : decode cX5_init 4 = .ok (.aload_n 0, 1) := by decide +kernel
theorem dX5_init_5 : decode cX5_init 5 = .ok (.bipush 16, 2) := by decide +kernel
theorem dX5_init_7 : decode cX5_init 7 = .ok (.newarray .int, 2) := by decide +kernel
theorem dX5_init_9 : decode cX5_init 9 = .ok (.putfield 9, 3) := by decide +kernel
theorem dX5_init_12 : decode cX5_init 12 = .ok (.aload_n 0, 1) := by decide +kernel
theorem dX5_init_13 : decode cX5_init 13 = .ok (.iconst 1, 1) := by decide +kernel
theorem dX5_init_14 : decode cX5_init 14 = .ok (.putfield 13, 3) := by decide +kernel
theorem dX5_init_17 : decode cX5_init 17 = .ok (.aload_n 0, 1) := by decide +kernel
theorem dX5_init_18 : decode cX5_init 18 = .ok (.bipush 6, 2) := by decide +kernel
theorem dX5_init_20 : decode cX5_init 20 = .ok (.anewarray 17, 3) := by decide +kernel
theorem dX5_init_23 : decode cX5_init 23 = .ok (.putfield 18, 3) := by decide +kernel
theorem dX5_init_26 : decode cX5_init 26 = .ok (.aload_n 0, 1) := by decide +kernel
theorem dX5_init_27 : decode cX5_init 27 = .ok (.bipush 6, 2) := by decide +kernel
theorem dX5_init_29 : decode cX5_init 29 = .ok (.newarray .int, 2) := by decide +kernel
theorem dX5_init_31 : decode cX5_init 31 = .ok (.putfield 22, 3) := by decide +kernel
theorem dX5_init_34 : decode cX5_init 34 = .ok (.iconst 0, 1) := by decide +kernel
theorem dX5_init_35 : decode cX5_init 35 = .ok (.istore_n 1, 1) := by decide +kernel
theorem dX5_init_36 : decode cX5_init 36 = .ok (.iload_n 1, 1) := by decide +kernel
theorem dX5_init_37 : decode cX5_init 37 = .ok (.iconst 4, 1) := by decide +kernel
theorem dX5_init_38 : decode cX5_init 38 = .ok (.if_icmp .ge 23, 3) := by decide +kernel
theorem dX5_init_41 : decode cX5_init 41 = .ok (.aload_n 0, 1) := by decide +kernel
theorem dX5_init_42 : decode cX5_init 42 = .ok (.getfield 18, 3) := by decide +kernel
theorem dX5_init_45 : decode cX5_init 45 = .ok (.iload_n 1, 1) := by decide +kernel
theorem dX5_init_46 : decode cX5_init 46 = .ok (.iconst 0, 1) := by decide +kernel
theorem dX5_init_47 : decode cX5_init 47 = .ok (.iconst 0, 1) := by decide +kernel
theorem dX5_init_48 : decode cX5_init 48 = .ok (.iconst 0, 1) := by decide +kernel
theorem dX5_init_49 : decode cX5_init 49 = .ok (.bipush 16, 2) := by decide +kernel
theorem dX5_init_51 : decode cX5_init 51 = .ok (.invokestatic 25, 3) := by decide +kernel
theorem dX5_init_54 : decode cX5_init 54 = .ok (.aastore, 1) := by decide +kernel
theorem dX5_init_55 : decode cX5_init 55 = .ok (.iinc 1 1, 3) := by decide +kernel
theorem dX5_init_58 : decode cX5_init 58 = .ok (.goto (-22), 3) := by decide +kernel
theorem dX5_init_61 : decode cX5_init 61 = .ok (.iconst 4, 1) := by decide +kernel
theorem dX5_init_62 : decode cX5_init 62 = .ok (.istore_n 1, 1) := by decide +kernel
theorem dX5_init_63 : decode cX5_init 63 = .ok (.iload_n 1, 1) := by decide +kernel
theorem dX5_init_64 : decode cX5_init 64 = .ok (.bipush 6, 2) := by decide +kernel
theorem dX5_init_66 : decode cX5_init 66 = .ok (.if_icmp .ge 21, 3) := by decide +kernel
theorem dX5_init_69 : decode cX5_init 69 = .ok (.aload_n 0, 1) := by decide +kernel
theorem dX5_init_70 : decode cX5_init 70 = .ok (.getfield 18, 3) := by decide +kernel
theorem dX5_init_73 : decode cX5_init 73 = .ok (.iload_n 1, 1) := by decide +kernel
theorem dX5_init_74 : decode cX5_init 74 = .ok (.aload_n 0, 1) := by decide +kernel
theorem dX5_init_75 : decode cX5_init 75 = .ok (.bipush 8, 2) := by decide +kernel
theorem dX5_init_77 : decode cX5_init 77 = .ok (.invokevirtual 29, 3) := by decide +kernel
theorem dX5_init_80 : decode cX5_init 80 = .ok (.aastore, 1) := by decide +kernel
theorem dX5_init_81 : decode cX5_init 81 = .ok (.iinc 1 1, 3) := by decide +kernel
theorem dX5_init_84 : decode cX5_init 84 = .ok (.goto (-21), 3) := by decide +kernel
theorem dX5_init_87 : decode cX5_init 87 = .ok (.return_, 1) := by decide +kernel
set_option maxRecDepth 20000 in
theorem lp_X5_in1 {X : zX} (C : z_C X cX5_init RX5 2 (z_rm 3 11 2060)) {m pn td tp : Nat} (kk : ∀ K Mw, s_LI (z_G X) m pn td 4 tp K Mw → z_W X Mw (3 + 4) (28 + 8 * 4) 61 [(0, .ref m)] []) : ∀ (d jx : Nat) (K : Nat → Nat) (Mw : zM), jx + d = 4 → s_LI (z_G X) m pn td jx tp K Mw → z_W X Mw (3 + jx) (28 + 8 * jx) 36 [(1, .int (nI jx)), (0, .ref m)] [] := by
  intro d
  induction d with
  | zero =>
    intro jx K Mw hd hK
    obtain ⟨ft, htp, hft⟩ := hK.2.1
    obtain ⟨fp, hpn, hfp⟩ := hK.2.2.1
    refine z_iload_n C dX5_init_36 rfl 0 rfl ?_
    refine z_iconst C (v := 4) dX5_init_37 (by decide) ?_
    refine z_icmp_ge C (tgt := 61) dX5_init_38 (by decide) (fun _ => ?_) (fun c38 => absurd (nI_le (b := jx) (a := 4) (by omega) (by omega)) c38)
    have e9 : jx = 4 := by omega
    subst e9
    refine z_fewer [1] rfl ?_
    exact kk _ _ hK
  | succ d ih =>
    intro jx K Mw hd hK
    obtain ⟨ft, htp, hft⟩ := hK.2.1
    obtain ⟨fp, hpn, hfp⟩ := hK.2.2.1
    refine z_iload_n C dX5_init_36 rfl 0 rfl ?_
    refine z_iconst C (v := 4) dX5_init_37 (by decide) ?_
    refine z_icmp_ge C (tgt := 61) dX5_init_38 (by decide) (fun c38 => absurd c38 (nI_ge (a := jx) (b := 4) (by omega) (by omega))) (fun _ => ?_)
    refine z_aload_n C dX5_init_41 rfl 1 rfl ?_
    refine gf_X5_18 C hK.1 dX5_init_42 ?_
    refine z_iload_n C dX5_init_45 rfl 0 rfl ?_
    refine z_iconst C (v := 0) dX5_init_46 (by decide) ?_
    refine z_iconst C (v := 0) dX5_init_47 (by decide) ?_
    refine z_iconst C (v := 0) dX5_init_48 (by decide) ?_
    refine z_bipush C (v := 16) dX5_init_49 (by decide) ?_
    refine z_callSr (rest := [.int (nI jx), .ref pn]) (k' := 3 + jx + 1) (n' := 28 + 8 * jx + 8) C (c_X5_over (z_l X) (z_G X) ) (cs_X5_25 C (by decide)) rfl rfl (Nat.le_of_ble_eq_true rfl) rfl rfl (by show _ ≤ 11; omega) (by show _ ≤ 2060; omega) dX5_init_51 (fun x51 M' hq => ?_)
    obtain ⟨q_51, hq_51, hr51, rfl⟩ := hq
    rw [hr51]
    refine z_aastII (j := jx) C kn1042 ((z_up_n _ _ (z_neN hpn hq_51)).trans hpn) (z_up_s _ _ _) (vp_in_nI (by omega) (by decide)) (nI_clamp (by omega)) dX5_init_54 ?_
    refine z_iinc (v := nI (jx + 1)) (lv' := [(1, .int (nI (jx + 1))), (0, .ref m)]) C dX5_init_55 0 rfl (nI_1 jx) (by decide) rfl ?_
    refine z_goto C (tgt := 36) dX5_init_58 (by decide) ?_
    refine z_fewer [0, 1] rfl ?_
    refine z_opq (fun Mb hWb => ?_)
    have fa0 : Mb pn = some (aII (z_G X) 6 (va_up fp jx (some q_51))) := by rw [hWb]; exact (z_up_s _ _ _)
    have fa1 : Mb q_51 = some (cPm (z_G X) 0 0 0 16 0 16 (-1) 0) := by rw [hWb]; exact ((z_up_n _ _ (Ne.symm (z_neN hpn hq_51))).trans (z_up_s _ _ _))
    have ka : ∀ a e, Mw a = some e → a ≠ pn → Mb a = some e := fun a e ha9 hn9 => by rw [hWb]; exact ((z_up_n _ _ hn9).trans ((z_up_n _ _ (z_neN ha9 hq_51)).trans ha9))
    clear hWb
    have hK9 := s_LIa hK (by omega) hpn hq_51 ka fa0 fa1
    refine z_kn (k' := 3 + (jx + 1)) (n' := 28 + 8 * (jx + 1)) (by omega) (by omega) ?_
    exact ih (jx + 1) _ _ (by omega) hK9
set_option maxRecDepth 20000 in
theorem lp_X5_in2 {X : zX} (C : z_C X cX5_init RX5 2 (z_rm 3 11 2060)) {m pn td : Nat} (kk : ∀ tp K Mw, s_LI (z_G X) m pn td 6 tp K Mw → z_W X Mw (7 + 2 * (6 - 4)) (60 + 1000 * (6 - 4)) 87 [(0, .ref m)] []) : ∀ (d jx tp : Nat) (K : Nat → Nat) (Mw : zM), jx + d = 6 → 4 ≤ jx → s_LI (z_G X) m pn td jx tp K Mw → z_W X Mw (7 + 2 * (jx - 4)) (60 + 1000 * (jx - 4)) 63 [(1, .int (nI jx)), (0, .ref m)] [] := by
  intro d
  induction d with
  | zero =>
    intro jx tp K Mw hd hj4 hK
    obtain ⟨ft, htp, hft⟩ := hK.2.1
    obtain ⟨fp, hpn, hfp⟩ := hK.2.2.1
    refine z_iload_n C dX5_init_63 rfl 0 rfl ?_
    refine z_bipush C (v := 6) dX5_init_64 (by decide) ?_
    refine z_icmp_ge C (tgt := 87) dX5_init_66 (by decide) (fun _ => ?_) (fun c66 => absurd (nI_le (b := jx) (a := 6) (by omega) (by omega)) c66)
    have e9 : jx = 6 := by omega
    subst e9
    refine z_fewer [1] rfl ?_
    exact kk _ _ _ hK
  | succ d ih =>
    intro jx tp K Mw hd hj4 hK
    obtain ⟨ft, htp, hft⟩ := hK.2.1
    obtain ⟨fp, hpn, hfp⟩ := hK.2.2.1
    refine z_iload_n C dX5_init_63 rfl 0 rfl ?_
    refine z_bipush C (v := 6) dX5_init_64 (by decide) ?_
    refine z_icmp_ge C (tgt := 87) dX5_init_66 (by decide) (fun c66 => absurd c66 (nI_ge (a := jx) (b := 6) (by omega) (by omega))) (fun _ => ?_)
    refine z_aload_n C dX5_init_69 rfl 1 rfl ?_
    refine gf_X5_18 C hK.1 dX5_init_70 ?_
    refine z_iload_n C dX5_init_73 rfl 0 rfl ?_
    refine z_aload_n C dX5_init_74 rfl 1 rfl ?_
    refine z_bipush C (v := 8) dX5_init_75 (by decide) ?_
    refine z_callVr (rest := [.int (nI jx), .ref pn]) (k' := 7 + 2 * (jx - 4) + 2) (n' := 60 + 1000 * (jx - 4) + 1000) C (c_X5_made (z_l X) (z_G X) hK.1 htp (show (8 : Int32) = nI 8 by decide) (by decide) (by unfold s_tl; split <;> omega)) (cs_X5_29 C (by decide)) hK.1 rfl rfl rfl rfl (Nat.le_of_ble_eq_true rfl) rfl rfl (by show _ ≤ 11; omega) (by show _ ≤ 2060; omega) dX5_init_77 (fun x77 M' hq => ?_)
    obtain ⟨q7_77, hq7_77, q_47_77, hq_47_77, hr77, rfl⟩ := hq
    rw [hr77]
    refine z_aastII (j := jx) C kn1042 ((z_up_n _ _ (z_ne hpn hK.1 (by intro h; cases h))).trans ((z_up_n _ _ (z_neN ((z_up_n _ _ (z_neN hpn hq7_77)).trans hpn) hq_47_77)).trans ((z_up_n _ _ (z_neN hpn hq7_77)).trans hpn))) ((z_up_n _ _ (Ne.symm (z_neN ((z_up_n _ _ (z_neN hK.1 hq7_77)).trans hK.1) hq_47_77))).trans (z_up_s _ _ _)) (vp_in_nI (by omega) (by decide)) (nI_clamp (by omega)) dX5_init_80 ?_
    refine z_iinc (v := nI (jx + 1)) (lv' := [(1, .int (nI (jx + 1))), (0, .ref m)]) C dX5_init_81 0 rfl (nI_1 jx) (by decide) rfl ?_
    refine z_goto C (tgt := 63) dX5_init_84 (by decide) ?_
    refine z_fewer [0, 1] rfl ?_
    refine z_opq (fun Mb hWb => ?_)
    have fb0 : Mb m = some (cMd q7_77 ((nI (s_rn jx)) + 1) pn td 0 0 0) := by rw [hWb]; exact ((z_up_n _ _ (z_ne hK.1 hpn (by intro h; cases h))).trans (z_up_s _ _ _))
    have fb1 : Mb pn = some (aII (z_G X) 6 (va_up fp jx (some q_47_77))) := by rw [hWb]; exact (z_up_s _ _ _)
    have fb2 : Mb q_47_77 = some (cPm (z_G X) (nI (s_rn jx)) (Int32.ofNat (s_tl jx)) 0 8 0 8 (-1) 0) := by rw [hWb]; exact ((z_up_n _ _ (Ne.symm (z_neN ((z_up_n _ _ (z_neN hpn hq7_77)).trans hpn) hq_47_77))).trans ((z_up_n _ _ (Ne.symm (z_neN ((z_up_n _ _ (z_neN hK.1 hq7_77)).trans hK.1) hq_47_77))).trans (z_up_s _ _ _)))
    have fb3 : Mb q7_77 = some (aI (z_G X) ((s_tl jx) + 8) (z_cp ft (s_tl jx))) := by rw [hWb]; exact ((z_up_n _ _ (Ne.symm (z_neN hpn hq7_77))).trans ((z_up_n _ _ (Ne.symm (z_neN hK.1 hq7_77))).trans ((z_up_n _ _ (z_neN (z_up_s _ _ _) hq_47_77)).trans (z_up_s _ _ _))))
    have kb : ∀ a e, Mw a = some e → a ≠ pn → a ≠ m → Mb a = some e := fun a e ha9 hn9 hm9 => by rw [hWb]; exact ((z_up_n _ _ hn9).trans ((z_up_n _ _ hm9).trans ((z_up_n _ _ (z_neN ((z_up_n _ _ (z_neN ha9 hq7_77)).trans ha9) hq_47_77)).trans ((z_up_n _ _ (z_neN ha9 hq7_77)).trans ha9))))
    clear hWb
    have hK9 := s_LIb hK (by omega) (by omega) hpn htp hq7_77 (z_noN hq_47_77) (Ne.symm (z_neN (z_up_s _ _ _) hq_47_77)) kb fb0 fb1 fb2 fb3
    refine z_kn (k' := 7 + 2 * (jx + 1 - 4)) (n' := 60 + 1000 * (jx + 1 - 4)) (by omega) (by omega) ?_
    exact ih (jx + 1) _ _ _ (by omega) (by omega) hK9
set_option maxRecDepth 20000 in
theorem a_X5_init (l : Launch) {G : zG} {m : Nat} {Mw : zM} (hm : Mw m = some (.inr (9, [.null, .int 0, .null, .null, .int 0, .int 0, .int 0]))) : z_Mv l G qX5_init (z_rm 3 11 2060) [.ref m] Mw (fun Mz => ∃ K tp pn td, RI G s_00 m 0 K tp pn td Mz)  := by
  refine z_Mv_of _ (plainFor_of_name rfl) rfl (Nat.le_of_ble_eq_true rfl) (fun X hl hG hnm C ret => ?_)
  subst hl; subst hG
  have C : z_C X cX5_init RX5 2 (z_rm 3 11 2060) := C
  show z_W X Mw 0 0 0 [(0, .ref m)] []
  refine z_aload_n C dX5_init_0 rfl 0 rfl ?_
  refine z_objInit (rest := []) C kw1040 kw32 kw33 ⟨Nat.le_of_ble_eq_true rfl, Nat.le_of_ble_eq_true rfl⟩ (Nat.le_of_ble_eq_true rfl) dX5_init_1 ?_
  refine z_aload_n C dX5_init_4 rfl 0 rfl ?_
  refine z_bipush C (v := 16) dX5_init_5 (by decide) ?_
  refine z_newI (N := 16) C kw44 (by decide) (by decide) (by decide) (Nat.le_of_ble_eq_true rfl) (Nat.le_of_ble_eq_true rfl) dX5_init_7 (fun q7 hq7 => ?_)
  refine z_kn (k' := 1) (n' := 16) rfl rfl ?_
  refine pr_X5_9 C rfl rfl ((z_up_n _ _ (z_neN hm hq7)).trans hm) dX5_init_9 ?_
  refine z_aload_n C dX5_init_12 rfl 0 rfl ?_
  refine z_iconst C (v := 1) dX5_init_13 (by decide) ?_
  refine pq_X5_13 C rfl rfl dX5_init_14 ?_
  refine z_aload_n C dX5_init_17 rfl 0 rfl ?_
  refine z_bipush C (v := 6) dX5_init_18 (by decide) ?_
  refine z_newII (N := 6) C kw1041 kn1042 (by decide) (by decide) (by decide) (Nat.le_of_ble_eq_true rfl) (Nat.le_of_ble_eq_true rfl) dX5_init_20 (fun q20 hq20 => ?_)
  refine z_kn (k' := 2) (n' := 22) rfl rfl ?_
  rw [z_up_swap _ (z_neN (z_up_s _ _ _) hq20)]
  refine pq_X5_18 C hnm rfl rfl dX5_init_23 ?_
  refine z_aload_n C dX5_init_26 rfl 0 rfl ?_
  refine z_bipush C (v := 6) dX5_init_27 (by decide) ?_
  refine z_newI (N := 6) C kw44 (by decide) (by decide) (by decide) (Nat.le_of_ble_eq_true rfl) (Nat.le_of_ble_eq_true rfl) dX5_init_29 (fun q29 hq29 => ?_)
  refine z_kn (k' := 3) (n' := 28) rfl rfl ?_
  rw [z_up_swap _ (z_neN (z_up_s _ _ _) hq29)]
  refine pq_X5_22 C hnm rfl rfl dX5_init_31 ?_
  refine z_iconst C (v := 0) dX5_init_34 (by decide) ?_
  refine z_istore_n (lv' := [(1, .int 0), (0, .ref m)]) C dX5_init_35 rfl (by decide) rfl ?_
  refine z_fewer [0, 1] rfl ?_
  refine z_at (M' := _) (lv' := [(1, .int (nI 0)), (0, .ref m)]) rfl (by rw [nI_0]; rfl) rfl ?_
  refine z_opq (fun Mb hWb => ?_)
  have fs0 : Mb m = some (.inr (9, [.ref q7, .int 1, .ref q20, .ref q29, .int 0, .int 0, .int 0])) := by rw [hWb]; exact (z_up_s _ _ _)
  have fs1 : Mb q7 = some (aI (z_G X) 16 (fun _ => 0)) := by rw [hWb]; exact ((z_up_n _ _ (Ne.symm (z_neN hm hq7))).trans ((z_up_n _ _ (z_neN ((z_up_n _ _ (Ne.symm (z_neN hm hq7))).trans ((z_up_n _ _ (z_neN ((z_up_n _ _ (Ne.symm (z_neN hm hq7))).trans (z_up_s _ _ _)) hq20)).trans (z_up_s _ _ _))) hq29)).trans ((z_up_n _ _ (z_neN ((z_up_n _ _ (Ne.symm (z_neN hm hq7))).trans (z_up_s _ _ _)) hq20)).trans (z_up_s _ _ _))))
  have fs2 : Mb q20 = some (aII (z_G X) 6 (fun _ => none)) := by rw [hWb]; exact ((z_up_n _ _ (Ne.symm (z_neN (z_up_s _ _ _) hq20))).trans ((z_up_n _ _ (z_neN ((z_up_n _ _ (Ne.symm (z_neN (z_up_s _ _ _) hq20))).trans (z_up_s _ _ _)) hq29)).trans (z_up_s _ _ _)))
  have fs3 : Mb q29 = some (aI (z_G X) 6 (fun _ => 0)) := by rw [hWb]; exact ((z_up_n _ _ (Ne.symm (z_neN (z_up_s _ _ _) hq29))).trans (z_up_s _ _ _))
  have ks : ∀ a e, Mw a = some e → a ≠ m → Mb a = some e := fun a e ha9 hn9 => by rw [hWb]; exact ((z_up_n _ _ hn9).trans ((z_up_n _ _ (z_neN ((z_up_n _ _ hn9).trans ((z_up_n _ _ (z_neN ((z_up_n _ _ hn9).trans ((z_up_n _ _ (z_neN ha9 hq7)).trans ha9)) hq20)).trans ((z_up_n _ _ (z_neN ha9 hq7)).trans ha9))) hq29)).trans ((z_up_n _ _ (z_neN ((z_up_n _ _ hn9).trans ((z_up_n _ _ (z_neN ha9 hq7)).trans ha9)) hq20)).trans ((z_up_n _ _ (z_neN ha9 hq7)).trans ha9))))
  clear hWb
  refine z_kn (k' := 3 + 0) (n' := 28 + 8 * 0) rfl rfl ?_
  refine lp_X5_in1 C (fun K Mz hK => ?_) 4 0 _ _ (Nat.zero_add _) (s_LI0 fs0 fs1 fs2 fs3 (Ne.symm (z_neN ((z_up_n _ _ (Ne.symm (z_neN hm hq7))).trans ((z_up_n _ _ (z_neN ((z_up_n _ _ (Ne.symm (z_neN hm hq7))).trans (z_up_s _ _ _)) hq20)).trans (z_up_s _ _ _))) hq29)))
  refine z_kn (k' := 7) (n' := 60) rfl rfl ?_
  refine z_iconst C (v := 4) dX5_init_61 (by decide) ?_
  refine z_istore_n (lv' := [(1, .int 4), (0, .ref m)]) C dX5_init_62 rfl (by decide) rfl ?_
  refine z_fewer [0, 1] rfl ?_
  refine z_at (M' := _) (lv' := [(1, .int (nI 4)), (0, .ref m)]) rfl (by rw [show nI 4 = 4 by decide]; rfl) rfl ?_
  refine z_kn (k' := 7 + 2 * (4 - 4)) (n' := 60 + 1000 * (4 - 4)) rfl rfl ?_
  refine lp_X5_in2 C (fun tp K2 Mz2 hK2 => ?_) 2 4 _ _ _ rfl (by decide) hK
  refine z_kn (k' := 11) (n' := 2060) rfl rfl ?_
  refine ret dX5_init_87 ?_ (Nat.le_of_ble_eq_true rfl) (Nat.le_of_ble_eq_true rfl)
  exact ⟨_, _, _, _, s_LIz hK2⟩
