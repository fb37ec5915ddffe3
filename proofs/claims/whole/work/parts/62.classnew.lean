/-! PART 62: a new object of the class -/
def s_p0 (i : Nat) : sP := if i < 4 then (0, 0, 16, 0, 16, -1, 0) else (i - 3, 0, 8, 0, 8, -1, 0)
def s_l0 (r : Nat) : Nat := if r = 0 then 16 else 8
def s_00 : sS := (3, s_l0, (fun _ _ => 0), s_p0, 0, 0, (fun _ => 0))
def s_rn (j : Nat) : Nat := if j ≤ 4 then 1 else j - 3
theorem s_p0a {j : Nat} (h : j < 4) : s_p0 j = (0, 0, 16, 0, 16, -1, 0) := if_pos h
theorem s_p0b {j : Nat} (h : 4 ≤ j) : s_p0 j = (j - 3, 0, 8, 0, 8, -1, 0) := if_neg (by omega)
theorem s_p0r {i j : Nat} (h : i < j) : p_ro (s_p0 i) < s_rn j := by
  unfold s_rn
  by_cases hi : i < 4
  · rw [s_p0a hi]
    show 0 < _
    split <;> omega
  · rw [s_p0b (by omega)]
    show i - 3 < _
    split <;> omega
theorem s_ok0 : s_ok 0 s_00 := by
  refine ⟨by decide, by decide, rfl, fun r hr => ?_, fun i hi => ?_, fun r j => by show 0 ≤ (0 : Int32).toInt; decide⟩
  · show s_l0 r ≤ 12
    unfold s_l0
    rw [if_neg (by omega)]
    decide
  · show s_pok 3 s_l0 (s_p0 i)
    rcases (show i = 0 ∨ i = 1 ∨ i = 2 ∨ i = 3 ∨ i = 4 ∨ i = 5 by omega) with rfl | rfl | rfl | rfl | rfl | rfl <;> exact ⟨by decide, ⟨by decide, by decide, by decide, by decide, by decide, by decide, by decide⟩, ⟨by decide, by decide⟩, Or.inl rfl⟩
theorem z_noN {M : zM} {a b : Nat} {e : va_E} (h : z_up M a e b = none) : M b = none := by
  by_cases hb : b = a
  · rw [hb, z_up_s] at h; cases h
  · rwa [z_up_n _ _ hb] at h
/-- the class half made: j panes stand -/
def s_KI (G : zG) (x lr pa j : Nat) (P RA VA : Nat → Nat) (Mw : zM) : Prop :=
  Mw x = some (.inr (7, [.ref lr, .ref pa, .null, .null, .null, .int 0, .int 0])) ∧ RA 0 = lr ∧
  (∃ fp : Nat → Option Nat, Mw pa = some (aP G 6 fp) ∧ ∀ i, i < j → fp i = some (P i)) ∧
  (∀ i, i < j → Mw (P i) = some (cPx (RA (p_ro (s_p0 i))) (s_p0 i))) ∧
  (∀ r, r < s_rn j → Mw (RA r) = some (cRw (VA r)) ∧ Mw (VA r) = some (aI G (s_l0 r) (fun _ => 0))) ∧
  (∀ a b, a < j → b < j → P a = P b → a = b) ∧ (∀ r s, r < s_rn j → s < s_rn j → RA r = RA s → r = s) ∧ (∀ r s, r < s_rn j → s < s_rn j → VA r = VA s → r = s)
section KIS
variable {G : zG} {x lr pa j : Nat} {P RA VA : Nat → Nat} {Mw Mb : zM} {fp : Nat → Option Nat}
theorem s_KI0 {v : Nat} (h1 : Mb x = some (.inr (7, [.ref lr, .ref pa, .null, .null, .null, .int 0, .int 0]))) (h2 : Mb lr = some (cRw v)) (h3 : Mb v = some (aI G 16 (fun _ => 0))) (h4 : Mb pa = some (aP G 6 fp)) : s_KI G x lr pa 0 (fun _ => 0) (fun _ => lr) (fun _ => v) Mb :=
  ⟨h1, rfl, ⟨fp, h4, fun i hi => absurd hi (by omega)⟩, fun i hi => absurd hi (by omega), fun r hr => by
    have : r = 0 := by unfold s_rn at hr; rw [if_pos (by omega)] at hr; omega
    subst this
    exact ⟨h2, h3⟩, fun a b ha => absurd ha (by omega), fun r s hr hs _ => by unfold s_rn at hr hs; rw [if_pos (by omega)] at hr hs; omega, fun r s hr hs _ => by unfold s_rn at hr hs; rw [if_pos (by omega)] at hr hs; omega⟩
theorem s_fu_one {K : Nat → Nat} {j q : Nat} (h : ∀ a b, a < j → b < j → K a = K b → a = b) (hq : ∀ a, a < j → K a ≠ q) : ∀ a b, a < j + 1 → b < j + 1 → s_fu K j q a = s_fu K j q b → a = b := by
  intro a b ha hb hab
  by_cases h1 : a = j
  · by_cases h2 : b = j
    · omega
    · rw [h1, s_fu_s, s_fu_n _ _ h2] at hab
      exact absurd hab.symm (hq b (by omega))
  · by_cases h2 : b = j
    · rw [h2, s_fu_s, s_fu_n _ _ h1] at hab
      exact absurd hab (hq a (by omega))
    · rw [s_fu_n _ _ h1, s_fu_n _ _ h2] at hab
      exact h a b (by omega) (by omega) hab
theorem s_KIa (hK : s_KI G x lr pa j P RA VA Mw) (hj : j < 4) {q : Nat} (hpa : Mw pa = some (aP G 6 fp)) (hq : Mw q = none) (hk : ∀ a e, Mw a = some e → a ≠ pa → Mb a = some e) (h1 : Mb pa = some (aP G 6 (va_up fp j (some q)))) (h2 : Mb q = some (.inr (5, [.ref lr, .int 0, .int (Int32.ofNat 16), .int 0, .int (Int32.ofNat 16), .int (-1), .int 0]))) : s_KI G x lr pa (j + 1) (s_fu P j q) RA VA Mb := by
  obtain ⟨hx, h0, ⟨fp', hpa', hfp⟩, hP, hR, iP, iR, iV⟩ := hK
  have e : fp' = fp := by
    have := hpa'.symm.trans hpa
    simpa using this
  subst e
  have e1 : s_rn (j + 1) = s_rn j := by unfold s_rn; rw [if_pos (by omega), if_pos (by omega)]
  rw [s_KI, e1]
  refine ⟨hk _ _ hx (z_ne hx hpa (by intro h; cases h)), h0, ⟨_, h1, fun i hi => ?_⟩, fun i hi => ?_, fun r hr => ⟨hk _ _ (hR r hr).1 (z_ne (hR r hr).1 hpa (by intro h; cases h)), hk _ _ (hR r hr).2 (z_ne (hR r hr).2 hpa (by intro h; simp at h))⟩, s_fu_one iP (fun a ha => z_neN (hP a ha) hq), iR, iV⟩
  · by_cases hij : i = j
    · subst hij; rw [s_fu_s, va_up_self]
    · rw [s_fu_n _ _ hij, va_up_ne _ _ hij]; exact hfp i (by omega)
  · by_cases hij : i = j
    · subst hij
      rw [s_fu_s, s_p0a hj]
      show Mb q = some (cPx (RA 0) _)
      rw [h0]
      exact h2
    · rw [s_fu_n _ _ hij]
      exact hk _ _ (hP i (by omega)) (z_ne (hP i (by omega)) hpa (by intro h; cases h))
theorem s_KIb (hK : s_KI G x lr pa j P RA VA Mw) (hj : 4 ≤ j) {q rq vq : Nat} (hpa : Mw pa = some (aP G 6 fp)) (hq : Mw q = none) (hrq : Mw rq = none) (hvq : Mw vq = none) (hk : ∀ a e, Mw a = some e → a ≠ pa → Mb a = some e) (h1 : Mb pa = some (aP G 6 (va_up fp j (some q)))) (h2 : Mb q = some (.inr (5, [.ref rq, .int 0, .int (Int32.ofNat 8), .int 0, .int (Int32.ofNat 8), .int (-1), .int 0]))) (h3 : Mb rq = some (cRw vq)) (h4 : Mb vq = some (aI G 8 (fun _ => 0))) : s_KI G x lr pa (j + 1) (s_fu P j q) (s_fu RA (j - 3) rq) (s_fu VA (j - 3) vq) Mb := by
  obtain ⟨hx, h0, ⟨fp', hpa', hfp⟩, hP, hR, iP, iR, iV⟩ := hK
  have e : fp' = fp := by
    have := hpa'.symm.trans hpa
    simpa using this
  subst e
  have e0 : s_rn j = j - 3 := by unfold s_rn; split <;> omega
  have e1 : s_rn (j + 1) = (j - 3) + 1 := by unfold s_rn; rw [if_neg (by omega)]; omega
  rw [e0] at hR iR iV
  rw [s_KI, e1]
  refine ⟨hk _ _ hx (z_ne hx hpa (by intro h; cases h)), by rw [s_fu_n _ _ (by omega)]; exact h0, ⟨_, h1, fun i hi => ?_⟩, fun i hi => ?_, fun r hr => ?_, s_fu_one iP (fun a ha => z_neN (hP a ha) hq), s_fu_one iR (fun a ha => z_neN (hR a ha).1 hrq), s_fu_one iV (fun a ha => z_neN (hR a ha).2 hvq)⟩
  · by_cases hij : i = j
    · subst hij; rw [s_fu_s, va_up_self]
    · rw [s_fu_n _ _ hij, va_up_ne _ _ hij]; exact hfp i (by omega)
  · by_cases hij : i = j
    · subst hij
      rw [s_fu_s, s_p0b hj]
      show Mb q = some (cPx (s_fu RA (i - 3) rq (i - 3)) _)
      rw [s_fu_s]
      exact h2
    · have h9 : p_ro (s_p0 i) < j - 3 := by rw [← e0]; exact s_p0r (by omega)
      rw [s_fu_n _ _ hij, s_fu_n _ _ (by omega)]
      exact hk _ _ (hP i (by omega)) (z_ne (hP i (by omega)) hpa (by intro h; cases h))
  · by_cases hrj : r = j - 3
    · subst hrj
      rw [s_fu_s, s_fu_s]
      refine ⟨h3, ?_⟩
      rw [show s_l0 (j - 3) = 8 from if_neg (by omega)]
      exact h4
    · rw [s_fu_n _ _ hrj, s_fu_n _ _ hrj]
      exact ⟨hk _ _ (hR r (by omega)).1 (z_ne (hR r (by omega)).1 hpa (by intro h; cases h)), hk _ _ (hR r (by omega)).2 (z_ne (hR r (by omega)).2 hpa (by intro h; simp at h))⟩
theorem s_KIz (hK : s_KI G x lr pa 6 P RA VA Mw) {sp ln rf sb vb : Nat} {p9 : List Value} (hsp : Mw sp = none) (hvb : Mw vb = none) (hrf : Mw rf = none) (hvr : vb ≠ rf) (hk : ∀ a e, Mw a = some e → a ≠ x → Mb a = some e) (h1 : Mb x = some (.inr (7, [.ref lr, .ref pa, .ref sp, .ref ln, .ref rf, .int 0, .int 0]))) (h2 : Mb sp = some (.inr (5, [.ref lr, .int 0, .int (Int32.ofNat 16), .int 0, .int (Int32.ofNat 16), .int (-1), .int 0]))) (h3 : Mb ln = some (.inr (4, [.ref sb]))) (h4 : Mb sb = some (.inr (1, [.ref vb, .int 0, .int 0, .int 0]))) (h5 : Mb vb = some (aB G 16 (fun _ => 0))) (h6 : Mb rf = some (aI G 6 (fun _ => 0))) : CI G s_00 x P RA VA pa sp ln rf sb Mb := by
  obtain ⟨hx, h0, ⟨fp, hpa, hfp⟩, hP, hR, iP, iR, iV⟩ := hK
  refine ⟨by rw [h0]; exact h1, ⟨fp, hk _ _ hpa (z_ne hpa hx (by intro h; cases h)), hfp⟩, fun i hi => hk _ _ (hP i hi) (z_ne (hP i hi) hx (by intro h; cases h)), ⟨lr, (0, 0, Int32.ofNat 16, 0, Int32.ofNat 16, -1, 0), h2⟩, fun r hr => hk _ _ (hR r hr).1 (z_ne (hR r hr).1 hx (by intro h; cases h)), fun r hr => hk _ _ (hR r hr).2 (z_ne (hR r hr).2 hx (by intro h; cases h)), h6, h3, ⟨vb, 0, 0, 16, fun _ => 0, h4, h5, hvr, fun r hr => (z_neN (hR r hr).2 hvb).symm, by decide, by decide, sb_fit0, by decide⟩, iP, fun i hi => z_neN (hP i hi) hsp, iR, iV, fun r hr => z_neN (hR r hr).2 hrf⟩
end KIS
theorem dX3_init_0 : decode cX3_init 0 = .ok (.aload_n 0, 1) := by decide +kernel
theorem dX3_init_1 : decode cX3_init 1 = .ok (.invokespecial 1, 3) := by decide +kernel
theorem dX3_init_4 : decode cX3_init 4 = .ok (.aload_n 0, 1) := by decide +kernel
theorem dX3_init_5 : decode cX3_init 5 = .ok (.new 7, 3) := by decide +kernel
theorem dX3_init_8 : decode cX3_init 8 = .ok (.dup, 1) := by decide +kernel
theorem dX3_init_9 : decode cX3_init 9 = .ok (.bipush 16, 2) := by decide +kernel
theorem dX3_init_11 : decode cX3_init 11 = .ok (.invokespecial 11, 3) := by decide +kernel
theorem dX3_init_14 : decode cX3_init 14 = .ok (.putfield 14, 3) := by decide +kernel
theorem dX3_init_17 : decode cX3_init 17 = .ok (.aload_n 0, 1) := by decide +kernel
theorem dX3_init_18 : decode cX3_init 18 = .ok (.bipush 6, 2) := by decide +kernel
theorem dX3_init_20 : decode cX3_init 20 = .ok (.anewarray 18, 3) := by decide +kernel
theorem dX3_init_23 : decode cX3_init 23 = .ok (.putfield 20, 3) := by decide +kernel
theorem dX3_init_26 : decode cX3_init 26 = .ok (.iconst 0, 1) := by decide +kernel
theorem dX3_init_27 : decode cX3_init 27 = .ok (.istore_n 1, 1) := by decide +kernel
theorem dX3_init_28 : decode cX3_init 28 = .ok (.iload_n 1, 1) := by decide +kernel
theorem dX3_init_29 : decode cX3_init 29 = .ok (.aload_n 0, 1) := by decide +kernel
theorem dX3_init_30 : decode cX3_init 30 = .ok (.getfield 20, 3) := by decide +kernel
theorem dX3_init_33 : decode cX3_init 33 = .ok (.arraylength, 1) := by decide +kernel
theorem dX3_init_34 : decode cX3_init 34 = .ok (.if_icmp .ge 43, 3) := by decide +kernel
theorem dX3_init_37 : decode cX3_init 37 = .ok (.aload_n 0, 1) := by decide +kernel
theorem dX3_init_38 : decode cX3_init 38 = .ok (.getfield 20, 3) := by decide +kernel
theorem dX3_init_41 : decode cX3_init 41 = .ok (.iload_n 1, 1) := by decide +kernel
theorem dX3_init_42 : decode cX3_init 42 = .ok (.new 18, 3) := by decide +kernel
theorem dX3_init_45 : decode cX3_init 45 = .ok (.dup, 1) := by decide +kernel
theorem dX3_init_46 : decode cX3_init 46 = .ok (.iload_n 1, 1) := by decide +kernel
theorem dX3_init_47 : decode cX3_init 47 = .ok (.iconst 4, 1) := by decide +kernel
theorem dX3_init_48 : decode cX3_init 48 = .ok (.if_icmp .ge 10, 3) := by decide +kernel
theorem dX3_init_51 : decode cX3_init 51 = .ok (.aload_n 0, 1) := by decide +kernel
theorem dX3_init_52 : decode cX3_init 52 = .ok (.getfield 14, 3) := by decide +kernel
theorem dX3_init_55 : decode cX3_init 55 = .ok (.goto 12, 3) := by decide +kernel
theorem dX3_init_58 : decode cX3_init 58 = .ok (.new 7, 3) := by decide +kernel
theorem dX3_init_61 : decode cX3_init 61 = .ok (.dup, 1) := by decide +kernel
theorem dX3_init_62 : decode cX3_init 62 = .ok (.bipush 8, 2) := by decide +kernel
theorem dX3_init_64 : decode cX3_init 64 = .ok (.invokespecial 11, 3) := by decide +kernel
theorem dX3_init_67 : decode cX3_init 67 = .ok (.invokespecial 24, 3) := by decide +kernel
theorem dX3_init_70 : decode cX3_init 70 = .ok (.aastore, 1) := by decide +kernel
theorem dX3_init_71 : decode cX3_init 71 = .ok (.iinc 1 1, 3) := by decide +kernel
theorem dX3_init_74 : decode cX3_init 74 = .ok (.goto (-46), 3) := by decide +kernel
theorem dX3_init_77 : decode cX3_init 77 = .ok (.aload_n 0, 1) := by decide +kernel
theorem dX3_init_78 : decode cX3_init 78 = .ok (.new 18, 3) := by decide +kernel
theorem dX3_init_81 : decode cX3_init 81 = .ok (.dup, 1) := by decide +kernel
theorem dX3_init_82 : decode cX3_init 82 = .ok (.aload_n 0, 1) := by decide +kernel
theorem dX3_init_83 : decode cX3_init 83 = .ok (.getfield 14, 3) := by decide +kernel
theorem dX3_init_86 : decode cX3_init 86 = .ok (.invokespecial 24, 3) := by decide +kernel
theorem dX3_init_89 : decode cX3_init 89 = .ok (.putfield 27, 3) := by decide +kernel
theorem dX3_init_92 : decode cX3_init 92 = .ok (.aload_n 0, 1) := by decide +kernel
theorem dX3_init_93 : decode cX3_init 93 = .ok (.new 31, 3) := by decide +kernel
theorem dX3_init_96 : decode cX3_init 96 = .ok (.dup, 1) := by decide +kernel
theorem dX3_init_97 : decode cX3_init 97 = .ok (.invokespecial 33, 3) := by decide +kernel
theorem dX3_init_100 : decode cX3_init 100 = .ok (.putfield 34, 3) := by decide +kernel
theorem dX3_init_103 : decode cX3_init 103 = .ok (.aload_n 0, 1) := by decide +kernel
theorem dX3_init_104 : decode cX3_init 104 = .ok (.bipush 6, 2) := by decide +kernel
theorem dX3_init_106 : decode cX3_init 106 = .ok (.newarray .int, 2) := by decide +kernel
theorem dX3_init_108 : decode cX3_init 108 = .ok (.putfield 38, 3) := by decide +kernel
theorem dX3_init_111 : decode cX3_init 111 = .ok (.aload_n 0, 1) := by decide +kernel
theorem dX3_init_112 : decode cX3_init 112 = .ok (.iconst 0, 1) := by decide +kernel
theorem dX3_init_113 : decode cX3_init 113 = .ok (.putfield 42, 3) := by decide +kernel
theorem dX3_init_116 : decode cX3_init 116 = .ok (.aload_n 0, 1) := by decide +kernel
theorem dX3_init_117 : decode cX3_init 117 = .ok (.iconst 0, 1) := by decide +kernel
theorem dX3_init_118 : decode cX3_init 118 = .ok (.putfield 46, 3) := by decide +kernel
theorem dX3_init_121 : decode cX3_init 121 = .ok (.return_, 1) := by decide +kernel
set_option maxRecDepth 20000 in
theorem lp_X3_in {X : zX} (C : z_C X cX3_init RX3 2 (z_rm 5 26 201)) {x lr pa : Nat} (kk : ∀ P RA VA Mw, s_KI (z_G X) x lr pa 6 P RA VA Mw → z_W X Mw (3 + 3 * 6) (23 + 24 * 6) 77 [(0, .ref x)] []) : ∀ (d jx : Nat) (P RA VA : Nat → Nat) (Mw : zM), jx + d = 6 → s_KI (z_G X) x lr pa jx P RA VA Mw → z_W X Mw (3 + 3 * jx) (23 + 24 * jx) 28 [(1, .int (nI jx)), (0, .ref x)] [] := by
  intro d
  induction d with
  | zero =>
    intro jx P RA VA Mw hd hK
    obtain ⟨fp, hpa, hfp⟩ := hK.2.2.1
    have hlr := (hK.2.2.2.2.1 0 (by unfold s_rn; split <;> omega)).1
    rw [hK.2.1] at hlr
    have hva := (hK.2.2.2.2.1 0 (by unfold s_rn; split <;> omega)).2
    refine z_iload_n C dX3_init_28 rfl 0 rfl ?_
    refine z_aload_n C dX3_init_29 rfl 1 rfl ?_
    refine gr_X3_20 C hK.1 dX3_init_30 ?_
    refine z_alenP C (v := 6) hpa (by decide) dX3_init_33 ?_
    refine z_icmp_ge C (tgt := 77) dX3_init_34 (by decide) (fun _ => ?_) (fun c34 => absurd (nI_le (b := jx) (a := 6) (by omega) (by omega)) c34)
    have e9 : jx = 6 := by omega
    subst e9
    refine z_fewer [1] rfl ?_
    exact kk _ _ _ _ hK
  | succ d ih =>
    intro jx P RA VA Mw hd hK
    obtain ⟨fp, hpa, hfp⟩ := hK.2.2.1
    have hlr := (hK.2.2.2.2.1 0 (by unfold s_rn; split <;> omega)).1
    rw [hK.2.1] at hlr
    have hva := (hK.2.2.2.2.1 0 (by unfold s_rn; split <;> omega)).2
    refine z_iload_n C dX3_init_28 rfl 0 rfl ?_
    refine z_aload_n C dX3_init_29 rfl 1 rfl ?_
    refine gr_X3_20 C hK.1 dX3_init_30 ?_
    refine z_alenP C (v := 6) hpa (by decide) dX3_init_33 ?_
    refine z_icmp_ge C (tgt := 77) dX3_init_34 (by decide) (fun c34 => absurd c34 (nI_ge (a := jx) (b := 6) (by omega) (by omega))) (fun _ => ?_)
    refine z_aload_n C dX3_init_37 rfl 1 rfl ?_
    refine gr_X3_20 C hK.1 dX3_init_38 ?_
    refine z_iload_n C dX3_init_41 rfl 0 rfl ?_
    refine z_new (ci := 5) (fs := [.null, .int 0, .int 0, .int 0, .int 0, .int 0, .int 0]) C rfl inX1 tyX1 tyX1_ok kw45 kw47 kw3 (fun j hj => by rcases (show j = 0 ∨ j = 1 ∨ j = 2 ∨ j = 3 ∨ j = 4 ∨ j = 5 ∨ j = 6 by omega) with rfl | rfl | rfl | rfl | rfl | rfl | rfl <;> rfl) (by show _ ≤ 26; omega) (by show _ ≤ 201; omega) dX3_init_42 (fun q42 hq42 => ?_)
    refine z_kn (k' := 3 + 3 * jx + 1) (n' := 23 + 24 * jx + 7) rfl rfl ?_
    refine z_dup C dX3_init_45 rfl ?_
    refine z_iload_n C dX3_init_46 rfl 0 rfl ?_
    refine z_iconst C (v := 4) dX3_init_47 (by decide) ?_
    refine z_icmp_ge C (tgt := 58) dX3_init_48 (by decide) (fun c48 => ?_) (fun c48 => ?_)
    · refine z_new (ci := 6) (fs := [.null]) C rfl inX2 tyX2 tyX2_ok kw34 kw35 kw2 (fun j hj => by rcases (show j = 0 by omega) with rfl <;> rfl) (by show _ ≤ 26; omega) (by show _ ≤ 201; omega) dX3_init_58 (fun q58 hq58 => ?_)
      refine z_kn (k' := 3 + 3 * jx + 1 + 1) (n' := 23 + 24 * jx + 7 + 1) rfl rfl ?_
      refine z_dup C dX3_init_61 rfl ?_
      refine z_bipush C (v := 8) dX3_init_62 (by decide) ?_
      refine z_callI (rest := [.ref q58, .ref q42, .ref q42, .int (nI jx), .ref pa]) (k' := 3 + 3 * jx + 1 + 1 + 1) (n' := 23 + 24 * jx + 7 + 1 + 16) C (c_X2_init (z_l X) (z_G X) (z_up_s _ _ _) (show (8 : Int32) = nI 8 by decide) (by decide)) (cs_X3_11 C (by decide)) rfl rfl (Nat.le_of_ble_eq_true rfl) rfl rfl (by show _ ≤ 26; omega) (by show _ ≤ 201; omega) dX3_init_64 (fun M' hq => ?_)
      obtain ⟨q_64, hq_64, rfl⟩ := hq
      rw [z_up_swap _ (z_neN (z_up_s _ _ _) hq_64)]
      rw [z_up_up]
      refine z_callI (rest := [.ref q42, .int (nI jx), .ref pa]) (k' := 3 + 3 * jx + 1 + 1 + 1) (n' := 23 + 24 * jx + 7 + 1 + 16) C (c_X1_init (z_l X) (z_G X) ((z_up_n _ _ (z_neN (z_up_s _ _ _) hq58)).trans ((z_up_n _ _ (z_neN ((z_up_n _ _ (z_neN (z_up_s _ _ _) hq58)).trans (z_up_s _ _ _)) hq_64)).trans (z_up_s _ _ _))) (z_up_s _ _ _) ((z_up_n _ _ (Ne.symm (z_neN (z_up_s _ _ _) hq_64))).trans (z_up_s _ _ _))) (cs_X3_24 C (by decide)) rfl rfl (Nat.le_of_ble_eq_true rfl) rfl rfl (by show _ ≤ 26; omega) (by show _ ≤ 201; omega) dX3_init_67 (fun M' hq => ?_)
      obtain rfl := hq
      rw [z_up_swap _ (z_neN ((z_up_n _ _ (z_neN (z_up_s _ _ _) hq58)).trans (z_up_s _ _ _)) hq_64)]
      rw [z_up_swap _ (z_neN (z_up_s _ _ _) hq58)]
      rw [z_up_up]
      refine z_aastP (j := jx) C ((z_up_n _ _ (z_neN hpa hq42)).trans ((z_up_n _ _ (z_neN ((z_up_n _ _ (z_neN hpa hq42)).trans hpa) hq58)).trans ((z_up_n _ _ (z_neN ((z_up_n _ _ (z_neN ((z_up_n _ _ (z_neN hpa hq42)).trans hpa) hq58)).trans ((z_up_n _ _ (z_neN hpa hq42)).trans hpa)) hq_64)).trans hpa))) (z_up_s _ _ _) (vp_in_nI (by omega) (by decide)) (nI_clamp (by omega)) dX3_init_70 ?_
      refine z_iinc (v := nI (jx + 1)) (lv' := [(1, .int (nI (jx + 1))), (0, .ref x)]) C dX3_init_71 0 rfl (nI_1 jx) (by decide) rfl ?_
      refine z_goto C (tgt := 28) dX3_init_74 (by decide) ?_
      refine z_fewer [0, 1] rfl ?_
      have hj9 : 4 ≤ jx := Nat.le_of_not_lt fun q => nI_ge (a := jx) (b := 4) q (by omega) c48
      refine z_opq (fun Mb hWb => ?_)
      have fb0 : Mb pa = some (aP (z_G X) 6 (va_up fp jx (some q42))) := by rw [hWb]; exact (z_up_s _ _ _)
      have fb1 : Mb q42 = some (.inr (5, [.ref q58, .int 0, .int (Int32.ofNat 8), .int 0, .int (Int32.ofNat 8), .int (-1), .int 0])) := by rw [hWb]; exact ((z_up_n _ _ (Ne.symm (z_neN hpa hq42))).trans (z_up_s _ _ _))
      have fb2 : Mb q58 = some (cRw q_64) := by rw [hWb]; exact ((z_up_n _ _ (Ne.symm (z_neN ((z_up_n _ _ (z_neN hpa hq42)).trans hpa) hq58))).trans ((z_up_n _ _ (Ne.symm (z_neN (z_up_s _ _ _) hq58))).trans (z_up_s _ _ _)))
      have fb3 : Mb q_64 = some (aI (z_G X) 8 (fun _ => 0)) := by rw [hWb]; exact ((z_up_n _ _ (Ne.symm (z_neN ((z_up_n _ _ (z_neN ((z_up_n _ _ (z_neN hpa hq42)).trans hpa) hq58)).trans ((z_up_n _ _ (z_neN hpa hq42)).trans hpa)) hq_64))).trans ((z_up_n _ _ (Ne.symm (z_neN ((z_up_n _ _ (z_neN (z_up_s _ _ _) hq58)).trans (z_up_s _ _ _)) hq_64))).trans ((z_up_n _ _ (Ne.symm (z_neN (z_up_s _ _ _) hq_64))).trans (z_up_s _ _ _))))
      have kb : ∀ a e, Mw a = some e → a ≠ pa → Mb a = some e := fun a e ha9 hn9 => by rw [hWb]; exact ((z_up_n _ _ hn9).trans ((z_up_n _ _ (z_neN ha9 hq42)).trans ((z_up_n _ _ (z_neN ((z_up_n _ _ (z_neN ha9 hq42)).trans ha9) hq58)).trans ((z_up_n _ _ (z_neN ((z_up_n _ _ (z_neN ((z_up_n _ _ (z_neN ha9 hq42)).trans ha9) hq58)).trans ((z_up_n _ _ (z_neN ha9 hq42)).trans ha9)) hq_64)).trans ha9))))
      clear hWb
      have hK9 := s_KIb hK hj9 hpa hq42 (z_noN hq58) (z_noN (z_noN hq_64)) kb fb0 fb1 fb2 fb3
      refine z_widen (k' := 3 + 3 * (jx + 1)) (n' := 23 + 24 * (jx + 1)) (by omega) (by omega) ?_
      exact ih (jx + 1) _ _ _ _ (by omega) hK9
    · refine z_aload_n C dX3_init_51 rfl 1 rfl ?_
      refine gr_X3_14 C ((z_up_n _ _ (z_neN hK.1 hq42)).trans hK.1) dX3_init_52 ?_
      refine z_goto C (tgt := 67) dX3_init_55 (by decide) ?_
      refine z_callI (rest := [.ref q42, .int (nI jx), .ref pa]) (k' := 3 + 3 * jx + 1) (n' := 23 + 24 * jx + 7) C (c_X1_init (z_l X) (z_G X) (z_up_s _ _ _) ((z_up_n _ _ (z_neN hlr hq42)).trans hlr) ((z_up_n _ _ (z_neN hva hq42)).trans hva)) (cs_X3_24 C (by decide)) rfl rfl (Nat.le_of_ble_eq_true rfl) rfl rfl (by show _ ≤ 26; omega) (by show _ ≤ 201; omega) dX3_init_67 (fun M' hq => ?_)
      obtain rfl := hq
      rw [z_up_up]
      refine z_aastP (j := jx) C ((z_up_n _ _ (z_neN hpa hq42)).trans hpa) (z_up_s _ _ _) (vp_in_nI (by omega) (by decide)) (nI_clamp (by omega)) dX3_init_70 ?_
      refine z_iinc (v := nI (jx + 1)) (lv' := [(1, .int (nI (jx + 1))), (0, .ref x)]) C dX3_init_71 0 rfl (nI_1 jx) (by decide) rfl ?_
      refine z_goto C (tgt := 28) dX3_init_74 (by decide) ?_
      refine z_fewer [0, 1] rfl ?_
      refine z_opq (fun Mb hWb => ?_)
      have fa0 : Mb pa = some (aP (z_G X) 6 (va_up fp jx (some q42))) := by rw [hWb]; exact (z_up_s _ _ _)
      have fa1 : Mb q42 = some (.inr (5, [.ref lr, .int 0, .int (Int32.ofNat 16), .int 0, .int (Int32.ofNat 16), .int (-1), .int 0])) := by rw [hWb]; exact ((z_up_n _ _ (Ne.symm (z_neN hpa hq42))).trans (z_up_s _ _ _))
      have ka : ∀ a e, Mw a = some e → a ≠ pa → Mb a = some e := fun a e ha9 hn9 => by rw [hWb]; exact ((z_up_n _ _ hn9).trans ((z_up_n _ _ (z_neN ha9 hq42)).trans ha9))
      clear hWb
      have hK9 := s_KIa hK (Nat.lt_of_not_le fun q => c48 (nI_le (b := jx) (a := 4) q (by omega))) hpa hq42 ka fa0 fa1
      refine z_widen (k' := 3 + 3 * (jx + 1)) (n' := 23 + 24 * (jx + 1)) (by omega) (by omega) ?_
      exact ih (jx + 1) _ _ _ _ (by omega) hK9
set_option maxRecDepth 20000 in
theorem a_X3_init (l : Launch) {G : zG} {x : Nat} {Mw : zM} (hx : Mw x = some (.inr (7, [.null, .null, .null, .null, .null, .int 0, .int 0]))) : z_Mv l G qX3_init (z_rm 5 26 201) [.ref x] Mw (fun Mz => ∃ P RA VA pa sp ln rf sb, CI G s_00 x P RA VA pa sp ln rf sb Mz)  := by
  refine z_Mv_of _ (plainFor_of_name rfl) rfl (Nat.le_of_ble_eq_true rfl) (fun X hl hG hnm C ret => ?_)
  subst hl; subst hG
  have C : z_C X cX3_init RX3 2 (z_rm 5 26 201) := C
  show z_W X Mw 0 0 0 [(0, .ref x)] []
  refine z_aload_n C dX3_init_0 rfl 0 rfl ?_
  refine z_objInit (rest := []) C kw31 kw32 kw33 ⟨Nat.le_of_ble_eq_true rfl, Nat.le_of_ble_eq_true rfl⟩ (Nat.le_of_ble_eq_true rfl) dX3_init_1 ?_
  refine z_aload_n C dX3_init_4 rfl 0 rfl ?_
  refine z_new (ci := 6) (fs := [.null]) C rfl inX2 tyX2 tyX2_ok kw34 kw35 kw2 (fun j hj => by rcases (show j = 0 by omega) with rfl <;> rfl) (Nat.le_of_ble_eq_true rfl) (Nat.le_of_ble_eq_true rfl) dX3_init_5 (fun q5 hq5 => ?_)
  refine z_kn (k' := 1) (n' := 1) rfl rfl ?_
  refine z_dup C dX3_init_8 rfl ?_
  refine z_bipush C (v := 16) dX3_init_9 (by decide) ?_
  refine z_callI (rest := [.ref q5, .ref x]) (k' := 2) (n' := 17) C (c_X2_init (z_l X) (z_G X) (z_up_s _ _ _) (show (16 : Int32) = nI 16 by decide) (by decide)) (cs_X3_11 C ⟨Nat.le_of_ble_eq_true rfl, Nat.le_of_ble_eq_true rfl⟩) rfl rfl (Nat.le_of_ble_eq_true rfl) rfl rfl (Nat.le_of_ble_eq_true rfl) (Nat.le_of_ble_eq_true rfl) dX3_init_11 (fun M' hq => ?_)
  obtain ⟨q_11, hq_11, rfl⟩ := hq
  rw [z_up_swap _ (z_neN (z_up_s _ _ _) hq_11)]
  rw [z_up_up]
  refine pr_X3_14 C hnm rfl rfl ((z_up_n _ _ (z_neN hx hq5)).trans ((z_up_n _ _ (z_neN ((z_up_n _ _ (z_neN hx hq5)).trans hx) hq_11)).trans hx)) dX3_init_14 ?_
  refine z_aload_n C dX3_init_17 rfl 0 rfl ?_
  refine z_bipush C (v := 6) dX3_init_18 (by decide) ?_
  refine z_newP (N := 6) C kw45 kn46 (by decide) (by decide) (by decide) (Nat.le_of_ble_eq_true rfl) (Nat.le_of_ble_eq_true rfl) dX3_init_20 (fun q20 hq20 => ?_)
  refine z_kn (k' := 3) (n' := 23) rfl rfl ?_
  rw [z_up_swap _ (z_neN (z_up_s _ _ _) hq20)]
  refine pq_X3_20 C hnm rfl rfl dX3_init_23 ?_
  refine z_iconst C (v := 0) dX3_init_26 (by decide) ?_
  refine z_istore_n (lv' := [(1, .int 0), (0, .ref x)]) C dX3_init_27 rfl (by decide) rfl ?_
  refine z_fewer [0, 1] rfl ?_
  refine z_at (M' := _) (lv' := [(1, .int (nI 0)), (0, .ref x)]) rfl (by rw [nI_0]; rfl) rfl ?_
  refine z_opq (fun Mb hWb => ?_)
  have fs0 : Mb x = some (.inr (7, [.ref q5, .ref q20, .null, .null, .null, .int 0, .int 0])) := by rw [hWb]; exact (z_up_s _ _ _)
  have fs1 : Mb q5 = some (cRw q_11) := by rw [hWb]; exact ((z_up_n _ _ (Ne.symm (z_neN hx hq5))).trans ((z_up_n _ _ (z_neN ((z_up_n _ _ (Ne.symm (z_neN hx hq5))).trans (z_up_s _ _ _)) hq20)).trans (z_up_s _ _ _)))
  have fs2 : Mb q_11 = some (aI (z_G X) 16 (fun _ => 0)) := by rw [hWb]; exact ((z_up_n _ _ (Ne.symm (z_neN ((z_up_n _ _ (z_neN hx hq5)).trans hx) hq_11))).trans ((z_up_n _ _ (z_neN ((z_up_n _ _ (Ne.symm (z_neN ((z_up_n _ _ (z_neN hx hq5)).trans hx) hq_11))).trans ((z_up_n _ _ (Ne.symm (z_neN (z_up_s _ _ _) hq_11))).trans (z_up_s _ _ _))) hq20)).trans ((z_up_n _ _ (Ne.symm (z_neN (z_up_s _ _ _) hq_11))).trans (z_up_s _ _ _))))
  have fs3 : Mb q20 = some (aP (z_G X) 6 (fun _ => none)) := by rw [hWb]; exact ((z_up_n _ _ (Ne.symm (z_neN (z_up_s _ _ _) hq20))).trans (z_up_s _ _ _))
  have ks : ∀ a e, Mw a = some e → a ≠ x → Mb a = some e := fun a e ha9 hn9 => by rw [hWb]; exact ((z_up_n _ _ hn9).trans ((z_up_n _ _ (z_neN ((z_up_n _ _ hn9).trans ((z_up_n _ _ (z_neN ha9 hq5)).trans ((z_up_n _ _ (z_neN ((z_up_n _ _ (z_neN ha9 hq5)).trans ha9) hq_11)).trans ha9))) hq20)).trans ((z_up_n _ _ (z_neN ha9 hq5)).trans ((z_up_n _ _ (z_neN ((z_up_n _ _ (z_neN ha9 hq5)).trans ha9) hq_11)).trans ha9))))
  clear hWb
  refine z_kn (k' := 3 + 3 * 0) (n' := 23 + 24 * 0) rfl rfl ?_
  refine lp_X3_in C (fun P RA VA Mz hK => ?_) 6 0 _ _ _ _ (Nat.zero_add _) (s_KI0 fs0 fs1 fs2 fs3)
  generalize q5 = lr at hK ⊢
  generalize q20 = pa at hK ⊢
  obtain ⟨fp, hpa, hfp⟩ := hK.2.2.1
  have hlr := (hK.2.2.2.2.1 0 (by unfold s_rn; split <;> omega)).1
  rw [hK.2.1] at hlr
  have hva := (hK.2.2.2.2.1 0 (by unfold s_rn; split <;> omega)).2
  refine z_kn (k' := 21) (n' := 167) rfl rfl ?_
  refine z_aload_n C dX3_init_77 rfl 0 rfl ?_
  refine z_new (ci := 5) (fs := [.null, .int 0, .int 0, .int 0, .int 0, .int 0, .int 0]) C rfl inX1 tyX1 tyX1_ok kw45 kw47 kw3 (fun j hj => by rcases (show j = 0 ∨ j = 1 ∨ j = 2 ∨ j = 3 ∨ j = 4 ∨ j = 5 ∨ j = 6 by omega) with rfl | rfl | rfl | rfl | rfl | rfl | rfl <;> rfl) (Nat.le_of_ble_eq_true rfl) (Nat.le_of_ble_eq_true rfl) dX3_init_78 (fun q78 hq78 => ?_)
  refine z_kn (k' := 22) (n' := 174) rfl rfl ?_
  refine z_dup C dX3_init_81 rfl ?_
  refine z_aload_n C dX3_init_82 rfl 0 rfl ?_
  refine gr_X3_14 C ((z_up_n _ _ (z_neN hK.1 hq78)).trans hK.1) dX3_init_83 ?_
  refine z_callI (rest := [.ref q78, .ref x]) (k' := 22) (n' := 174) C (c_X1_init (z_l X) (z_G X) (z_up_s _ _ _) ((z_up_n _ _ (z_neN hlr hq78)).trans hlr) ((z_up_n _ _ (z_neN hva hq78)).trans hva)) (cs_X3_24 C ⟨Nat.le_of_ble_eq_true rfl, Nat.le_of_ble_eq_true rfl⟩) rfl rfl (Nat.le_of_ble_eq_true rfl) rfl rfl (Nat.le_of_ble_eq_true rfl) (Nat.le_of_ble_eq_true rfl) dX3_init_86 (fun M' hq => ?_)
  obtain rfl := hq
  rw [z_up_up]
  refine pr_X3_27 C hnm rfl rfl ((z_up_n _ _ (z_neN hK.1 hq78)).trans hK.1) dX3_init_89 ?_
  refine z_aload_n C dX3_init_92 rfl 0 rfl ?_
  refine z_new (ci := 4) (fs := [.null]) C rfl inX0 tyX0 tyX0_ok kw89 kw90 kw4 (fun j hj => by rcases (show j = 0 by omega) with rfl <;> rfl) (Nat.le_of_ble_eq_true rfl) (Nat.le_of_ble_eq_true rfl) dX3_init_93 (fun q93 hq93 => ?_)
  refine z_kn (k' := 23) (n' := 175) rfl rfl ?_
  refine z_dup C dX3_init_96 rfl ?_
  refine z_callIN (rest := [.ref q93, .ref x]) (k' := 25) (n' := 195) C (c_X0_init (z_l X) (z_G X) (z_up_s _ _ _)) (cs_X3_33 C ⟨Nat.le_of_ble_eq_true rfl, Nat.le_of_ble_eq_true rfl⟩) rfl rfl (Nat.le_of_ble_eq_true rfl) rfl rfl (Nat.le_of_ble_eq_true rfl) (Nat.le_of_ble_eq_true rfl) dX3_init_97 (fun M' hq => ?_)
  obtain ⟨q5_97, hq5_97, q12_3_9_97, hq12_3_9_97, rfl⟩ := hq
  rw [z_up_swap _ (z_neN ((z_up_n _ _ (z_neN (z_up_s _ _ _) hq5_97)).trans (z_up_s _ _ _)) hq12_3_9_97)]
  rw [z_up_swap _ (z_neN (z_up_s _ _ _) hq5_97)]
  rw [z_up_up]
  rw [z_up_swap _ (z_neN ((z_up_n _ _ (z_neN ((z_up_n _ _ (z_neN (z_up_s _ _ _) hq93)).trans (z_up_s _ _ _)) hq5_97)).trans ((z_up_n _ _ (z_neN (z_up_s _ _ _) hq93)).trans (z_up_s _ _ _))) hq12_3_9_97)]
  rw [z_up_swap _ (z_neN ((z_up_n _ _ (z_neN (z_up_s _ _ _) hq93)).trans (z_up_s _ _ _)) hq5_97)]
  rw [z_up_swap _ (z_neN (z_up_s _ _ _) hq93)]
  refine pq_X3_34 C hnm rfl rfl dX3_init_100 ?_
  refine z_aload_n C dX3_init_103 rfl 0 rfl ?_
  refine z_bipush C (v := 6) dX3_init_104 (by decide) ?_
  refine z_newI (N := 6) C kw44 (by decide) (by decide) (by decide) (Nat.le_of_ble_eq_true rfl) (Nat.le_of_ble_eq_true rfl) dX3_init_106 (fun q106 hq106 => ?_)
  refine z_kn (k' := 26) (n' := 201) rfl rfl ?_
  rw [z_up_swap _ (z_neN (z_up_s _ _ _) hq106)]
  refine pq_X3_38 C hnm rfl rfl dX3_init_108 ?_
  refine z_aload_n C dX3_init_111 rfl 0 rfl ?_
  refine z_iconst C (v := 0) dX3_init_112 (by decide) ?_
  refine pq_X3_42 C rfl rfl dX3_init_113 ?_
  refine z_aload_n C dX3_init_116 rfl 0 rfl ?_
  refine z_iconst C (v := 0) dX3_init_117 (by decide) ?_
  refine pq_X3_46 C rfl rfl dX3_init_118 ?_
  refine ret dX3_init_121 ?_ (Nat.le_of_ble_eq_true rfl) (Nat.le_of_ble_eq_true rfl)
  exact ⟨P, RA, VA, pa, q78, q93, q106, q5_97, s_KIz (p9 := []) hK hq78 (z_noN (z_noN (z_noN (z_noN hq12_3_9_97)))) (z_noN (z_noN (z_noN (z_noN (z_noN hq106))))) (z_neN ((z_up_n _ _ (Ne.symm (z_neN ((z_up_n _ _ (z_neN ((z_up_n _ _ (z_neN (z_up_s _ _ _) hq93)).trans (z_up_s _ _ _)) hq5_97)).trans ((z_up_n _ _ (z_neN (z_up_s _ _ _) hq93)).trans (z_up_s _ _ _))) hq12_3_9_97))).trans ((z_up_n _ _ (Ne.symm (z_neN ((z_up_n _ _ (z_neN (z_up_s _ _ _) hq5_97)).trans (z_up_s _ _ _)) hq12_3_9_97))).trans ((z_up_n _ _ (Ne.symm (z_neN (z_up_s _ _ _) hq12_3_9_97))).trans (z_up_s _ _ _)))) hq106) (fun a e ha9 hn9 => ((z_up_n _ _ hn9).trans ((z_up_n _ _ (z_neN ((z_up_n _ _ hn9).trans ((z_up_n _ _ (z_neN ((z_up_n _ _ hn9).trans ((z_up_n _ _ (z_neN ha9 hq78)).trans ha9)) hq93)).trans ((z_up_n _ _ (z_neN ((z_up_n _ _ (z_neN ((z_up_n _ _ hn9).trans ((z_up_n _ _ (z_neN ha9 hq78)).trans ha9)) hq93)).trans ((z_up_n _ _ hn9).trans ((z_up_n _ _ (z_neN ha9 hq78)).trans ha9))) hq5_97)).trans ((z_up_n _ _ (z_neN ((z_up_n _ _ (z_neN ((z_up_n _ _ (z_neN ((z_up_n _ _ hn9).trans ((z_up_n _ _ (z_neN ha9 hq78)).trans ha9)) hq93)).trans ((z_up_n _ _ hn9).trans ((z_up_n _ _ (z_neN ha9 hq78)).trans ha9))) hq5_97)).trans ((z_up_n _ _ (z_neN ((z_up_n _ _ hn9).trans ((z_up_n _ _ (z_neN ha9 hq78)).trans ha9)) hq93)).trans ((z_up_n _ _ hn9).trans ((z_up_n _ _ (z_neN ha9 hq78)).trans ha9)))) hq12_3_9_97)).trans ((z_up_n _ _ (z_neN ha9 hq78)).trans ha9))))) hq106)).trans ((z_up_n _ _ (z_neN ((z_up_n _ _ hn9).trans ((z_up_n _ _ (z_neN ha9 hq78)).trans ha9)) hq93)).trans ((z_up_n _ _ (z_neN ((z_up_n _ _ (z_neN ((z_up_n _ _ hn9).trans ((z_up_n _ _ (z_neN ha9 hq78)).trans ha9)) hq93)).trans ((z_up_n _ _ hn9).trans ((z_up_n _ _ (z_neN ha9 hq78)).trans ha9))) hq5_97)).trans ((z_up_n _ _ (z_neN ((z_up_n _ _ (z_neN ((z_up_n _ _ (z_neN ((z_up_n _ _ hn9).trans ((z_up_n _ _ (z_neN ha9 hq78)).trans ha9)) hq93)).trans ((z_up_n _ _ hn9).trans ((z_up_n _ _ (z_neN ha9 hq78)).trans ha9))) hq5_97)).trans ((z_up_n _ _ (z_neN ((z_up_n _ _ hn9).trans ((z_up_n _ _ (z_neN ha9 hq78)).trans ha9)) hq93)).trans ((z_up_n _ _ hn9).trans ((z_up_n _ _ (z_neN ha9 hq78)).trans ha9)))) hq12_3_9_97)).trans ((z_up_n _ _ (z_neN ha9 hq78)).trans ha9))))))) ((z_up_s _ _ _)) (((z_up_n _ _ (Ne.symm (z_neN hK.1 hq78))).trans ((z_up_n _ _ (z_neN ((z_up_n _ _ (Ne.symm (z_neN hK.1 hq78))).trans ((z_up_n _ _ (z_neN ((z_up_n _ _ (Ne.symm (z_neN hK.1 hq78))).trans (z_up_s _ _ _)) hq93)).trans ((z_up_n _ _ (z_neN ((z_up_n _ _ (z_neN ((z_up_n _ _ (Ne.symm (z_neN hK.1 hq78))).trans (z_up_s _ _ _)) hq93)).trans ((z_up_n _ _ (Ne.symm (z_neN hK.1 hq78))).trans (z_up_s _ _ _))) hq5_97)).trans ((z_up_n _ _ (z_neN ((z_up_n _ _ (z_neN ((z_up_n _ _ (z_neN ((z_up_n _ _ (Ne.symm (z_neN hK.1 hq78))).trans (z_up_s _ _ _)) hq93)).trans ((z_up_n _ _ (Ne.symm (z_neN hK.1 hq78))).trans (z_up_s _ _ _))) hq5_97)).trans ((z_up_n _ _ (z_neN ((z_up_n _ _ (Ne.symm (z_neN hK.1 hq78))).trans (z_up_s _ _ _)) hq93)).trans ((z_up_n _ _ (Ne.symm (z_neN hK.1 hq78))).trans (z_up_s _ _ _)))) hq12_3_9_97)).trans (z_up_s _ _ _))))) hq106)).trans ((z_up_n _ _ (z_neN ((z_up_n _ _ (Ne.symm (z_neN hK.1 hq78))).trans (z_up_s _ _ _)) hq93)).trans ((z_up_n _ _ (z_neN ((z_up_n _ _ (z_neN ((z_up_n _ _ (Ne.symm (z_neN hK.1 hq78))).trans (z_up_s _ _ _)) hq93)).trans ((z_up_n _ _ (Ne.symm (z_neN hK.1 hq78))).trans (z_up_s _ _ _))) hq5_97)).trans ((z_up_n _ _ (z_neN ((z_up_n _ _ (z_neN ((z_up_n _ _ (z_neN ((z_up_n _ _ (Ne.symm (z_neN hK.1 hq78))).trans (z_up_s _ _ _)) hq93)).trans ((z_up_n _ _ (Ne.symm (z_neN hK.1 hq78))).trans (z_up_s _ _ _))) hq5_97)).trans ((z_up_n _ _ (z_neN ((z_up_n _ _ (Ne.symm (z_neN hK.1 hq78))).trans (z_up_s _ _ _)) hq93)).trans ((z_up_n _ _ (Ne.symm (z_neN hK.1 hq78))).trans (z_up_s _ _ _)))) hq12_3_9_97)).trans (z_up_s _ _ _))))))) (((z_up_n _ _ (Ne.symm (z_neN (z_up_s _ _ _) hq93))).trans ((z_up_n _ _ (z_neN ((z_up_n _ _ (Ne.symm (z_neN (z_up_s _ _ _) hq93))).trans (z_up_s _ _ _)) hq106)).trans (z_up_s _ _ _)))) (((z_up_n _ _ (Ne.symm (z_neN ((z_up_n _ _ (z_neN (z_up_s _ _ _) hq93)).trans (z_up_s _ _ _)) hq5_97))).trans ((z_up_n _ _ (z_neN ((z_up_n _ _ (Ne.symm (z_neN ((z_up_n _ _ (z_neN (z_up_s _ _ _) hq93)).trans (z_up_s _ _ _)) hq5_97))).trans ((z_up_n _ _ (Ne.symm (z_neN (z_up_s _ _ _) hq5_97))).trans (z_up_s _ _ _))) hq106)).trans ((z_up_n _ _ (Ne.symm (z_neN (z_up_s _ _ _) hq5_97))).trans (z_up_s _ _ _))))) (((z_up_n _ _ (Ne.symm (z_neN ((z_up_n _ _ (z_neN ((z_up_n _ _ (z_neN (z_up_s _ _ _) hq93)).trans (z_up_s _ _ _)) hq5_97)).trans ((z_up_n _ _ (z_neN (z_up_s _ _ _) hq93)).trans (z_up_s _ _ _))) hq12_3_9_97))).trans ((z_up_n _ _ (z_neN ((z_up_n _ _ (Ne.symm (z_neN ((z_up_n _ _ (z_neN ((z_up_n _ _ (z_neN (z_up_s _ _ _) hq93)).trans (z_up_s _ _ _)) hq5_97)).trans ((z_up_n _ _ (z_neN (z_up_s _ _ _) hq93)).trans (z_up_s _ _ _))) hq12_3_9_97))).trans ((z_up_n _ _ (Ne.symm (z_neN ((z_up_n _ _ (z_neN (z_up_s _ _ _) hq5_97)).trans (z_up_s _ _ _)) hq12_3_9_97))).trans ((z_up_n _ _ (Ne.symm (z_neN (z_up_s _ _ _) hq12_3_9_97))).trans (z_up_s _ _ _)))) hq106)).trans ((z_up_n _ _ (Ne.symm (z_neN ((z_up_n _ _ (z_neN (z_up_s _ _ _) hq5_97)).trans (z_up_s _ _ _)) hq12_3_9_97))).trans ((z_up_n _ _ (Ne.symm (z_neN (z_up_s _ _ _) hq12_3_9_97))).trans (z_up_s _ _ _)))))) (((z_up_n _ _ (Ne.symm (z_neN (z_up_s _ _ _) hq106))).trans (z_up_s _ _ _)))⟩
