/-! PART 47: the class's line of signs -/
section CB
variable {G : zG} {u : sS} {x : Nat} {P RA VA : Nat → Nat} {pa sp ln rf sb : Nat} {Mw Mz : zM} {vb vb' c n c' n' : Nat}
theorem CI_fr (h : CI G u x P RA VA pa sp ln rf sb Mw) (hB : j_B G Mw sb vb c n) (hB' : j_B G Mz sb vb' c' n') (hF : j_Fr Mw sb vb vb' Mz) : CI G u x P RA VA pa sp ln rf sb Mz := by
  obtain ⟨hx, ⟨fp, hpa, hfp⟩, hP, ⟨o9, p9, hsp⟩, hRA, hVA, hrf, hln, ⟨v0, ml0, ct0, n0, f0, hsb, hvb, hc⟩, hi⟩ := h
  obtain ⟨ml, f, b1, -⟩ := hB
  obtain ⟨ml', f', d1, d2, d3, d4, d5, d6⟩ := hB'
  have e : v0 = vb := by
    have h9 := hsb.symm.trans b1
    simp at h9
    exact h9.1
  subst e
  refine ⟨hF.2 _ _ hx (z_ne hx hsb (by intro h; cases h)) (z_ne hx hvb (by intro h; cases h)), ⟨fp, hF.2 _ _ hpa (z_ne hpa hsb (by intro h; cases h)) (z_ne hpa hvb (by intro h; simp at h)), hfp⟩, fun i h => hF.2 _ _ (hP i h) (z_ne (hP i h) hsb (by intro h; cases h)) (z_ne (hP i h) hvb (by intro h; cases h)), ⟨o9, p9, hF.2 _ _ hsp (z_ne hsp hsb (by intro h; cases h)) (z_ne hsp hvb (by intro h; cases h))⟩, fun r h => hF.2 _ _ (hRA r h) (z_ne (hRA r h) hsb (by intro h; cases h)) (z_ne (hRA r h) hvb (by intro h; cases h)), fun r h => hF.2 _ _ (hVA r h) (z_ne (hVA r h) hsb (by intro h; cases h)) (hc.2.1 r h).symm, hF.2 _ _ hrf (z_ne hrf hsb (by intro h; cases h)) hc.1.symm, hF.2 _ _ hln (z_ne hln hsb (by intro h; cases h)) (z_ne hln hvb (by intro h; cases h)), ⟨vb', ml', c', n', f', d1, d2, ?_, ?_, d4, d6, d3, d5⟩, hi⟩
  · rcases hF.1 with rfl | h
    · exact hc.1
    · exact (z_neN hrf h).symm
  · intro r hr
    rcases hF.1 with rfl | h
    · exact hc.2.1 r hr
    · exact (z_neN (hVA r hr) h).symm
theorem CI_B (h : CI G u x P RA VA pa sp ln rf sb Mw) : ∃ vb c n, j_B G Mw sb vb c n := by
  obtain ⟨-, -, -, -, -, -, -, -, ⟨v0, ml0, ct0, n0, f0, hsb, hvb, hc⟩, -⟩ := h
  exact ⟨v0, ct0, n0, ml0, f0, hsb, hvb, hc.2.2.2.2.1, hc.2.2.1, hc.2.2.2.2.2, hc.2.2.2.1⟩
end CB
theorem j_keepP {G : zG} {Mw Mz : zM} {sb vb vb' c n pp o : Nat} {p : sP} (hB : j_B G Mw sb vb c n) (hF : j_Fr Mw sb vb vb' Mz) (h : Mw pp = some (cPx o p)) : Mz pp = some (cPx o p) := by
  obtain ⟨ml, f, h1, h2, -⟩ := hB
  exact hF.2 _ _ h (z_ne h h1 (by intro h; cases h)) (z_ne h h2 (by intro h; cases h))
theorem j_cap_mono {n p q : Nat} (h : p ≤ q) : j_cap n p ≤ j_cap n q := by
  unfold j_cap
  split <;> split <;> omega
theorem j_B_c {G : zG} {Mw : zM} {sb vb c n : Nat} (h : j_B G Mw sb vb c n) : c ≤ n ∧ 16 ≤ n ∧ n ≤ 600 := by
  obtain ⟨ml, f, -, -, -, h⟩ := h
  exact h
/-- how many digits are written from the unit 10 ^ e down -/
def j_nd (v : Nat) : Nat → Nat
  | 0 => 1
  | e + 1 => (if 10 ^ (e + 1) ≤ v then 1 else 0) + j_nd v e
theorem j_nd_in (v : Nat) : ∀ e, 1 ≤ j_nd v e ∧ j_nd v e ≤ e + 1
  | 0 => ⟨Nat.le_refl _, Nat.le_refl _⟩
  | e + 1 => by
    have h := j_nd_in v e
    unfold j_nd
    split <;> omega
theorem j_nd_s1 {v e : Nat} (h : 10 ^ (e + 1) ≤ v) : j_nd v (e + 1) = 1 + j_nd v e := by
  show (if 10 ^ (e + 1) ≤ v then 1 else 0) + j_nd v e = _
  rw [if_pos h]
theorem j_nd_s0 {v e : Nat} (h : ¬ 10 ^ (e + 1) ≤ v) : j_nd v (e + 1) = j_nd v e := by
  show (if 10 ^ (e + 1) ≤ v then 1 else 0) + j_nd v e = _
  rw [if_neg h, Nat.zero_add]
theorem j_pw {e : Nat} (h : e ≤ 10) : 0 < 10 ^ e ∧ 10 ^ e ≤ 10000000000 := ⟨Nat.pow_pos (by decide), Nat.pow_le_pow_right (n := 10) (by decide) h⟩
theorem j_u0 {w : Nat} (h : 0 < w) (h2 : w ≤ 10000000000) : ¬ lg_cmp (lN w) 0 ≤ 0 := by
  rw [lg_cmp_le, Int64.le_iff_toInt_le, pk_lT (by omega)]
  show ¬ (w : Int) ≤ 0
  omega
theorem j_uz {w : Nat} (h : 0 < w) (h2 : w ≤ 10000000000) : ¬ lN w = 0 := by
  intro q
  have h1 := pk_lT (n := w) (by omega)
  rw [q] at h1
  have h3 : (0 : Int64).toInt = 0 := by decide
  omega
theorem j_u1 {w : Nat} (h : 1 < w) (h2 : w ≤ 10000000000) : ¬ lg_cmp (lN w) 1 = 0 := by
  rw [lg_cmp_eq]
  intro q
  have h1 := pk_lT (n := w) (by omega)
  rw [q] at h1
  have h3 : (1 : Int64).toInt = 1 := by decide
  omega
theorem j_uge {v w : Nat} (hv : v < 35000000000) (h2 : w ≤ 10000000000) : 0 ≤ lg_cmp (lN v) (lN w) ↔ w ≤ v := by
  rw [lg_cmp_ge, Int64.le_iff_toInt_le, pk_lT (by omega), pk_lT (by omega)]
  omega
theorem j_lq {a b : Nat} (ha : a < 2 ^ 62) (hb : b < 2 ^ 62) : lN a / lN b = lN (a / b) := by
  apply Int64.toInt_inj.mp
  have h1 : a / b ≤ a := Nat.div_le_self _ _
  generalize hz : a / b = z at h1 ⊢
  rw [Int64.toInt_div, pk_lT (by omega), pk_lT (by omega), pk_lT (by omega), ← Int.ofNat_tdiv, hz, Int.bmod_eq_of_le (by omega) (by omega)]
theorem j_pdiv {e : Nat} (h : e + 1 ≤ 10) : lN (10 ^ (e + 1)) / 10 = lN (10 ^ e) := by
  have h1 := j_pw h
  show lN (10 ^ (e + 1)) / lN 10 = _
  rw [j_lq (by omega) (by decide), Nat.pow_succ, Nat.mul_div_cancel _ (by decide)]
theorem j_nb8 : ∀ x, x < 10 → vp_nar .byte (nI (48 + x)).toInt8.toInt32 = nI (48 + x) := by decide
theorem j_chx {v w : Nat} (hv : v < 2 ^ 62) (hw : w < 2 ^ 62) : vp_nar .byte (((48 + (((lN v) / (lN w)) - ((lN v) / (lN w)) / 10 * 10).toInt32).toUInt32 % 65536).toInt32).toInt8.toInt32 = nI (48 + v / w % 10) := by
  have h1 : v / w ≤ v := Nat.div_le_self _ _
  have e : (lN v) / (lN w) - (lN v) / (lN w) / 10 * 10 = lN (v / w % 10) := by
    show (lN v) / (lN w) - (lN v) / (lN w) / lN 10 * lN 10 = _
    rw [j_lq hv hw, j_lq (by omega) (by decide), lN_mul, lN_sub (by omega)]
    congr 1
    omega
  rw [e, lN_i, show (48 : Int32) = nI 48 from rfl, j_add]
  have h2 := sb_byte (48 + v / w % 10) (by omega)
  rw [h2.2.1]
  exact j_nb8 (v / w % 10) (by omega)
theorem j_ch {v w : Nat} (hv : v < 2 ^ 62) (hw : w < 2 ^ 62) : ((48 + (((lN v) / (lN w)) - ((lN v) / (lN w)) / 10 * 10).toInt32).toUInt32 % 65536).toInt32 ≤ 255 := by
  have h1 : v / w ≤ v := Nat.div_le_self _ _
  have e : (lN v) / (lN w) - (lN v) / (lN w) / 10 * 10 = lN (v / w % 10) := by
    show (lN v) / (lN w) - (lN v) / (lN w) / lN 10 * lN 10 = _
    rw [j_lq hv hw, j_lq (by omega) (by decide), lN_mul, lN_sub (by omega)]
    congr 1
    omega
  rw [e, lN_i, show (48 : Int32) = nI 48 from rfl, j_add]
  have h2 := sb_byte (48 + v / w % 10) (by omega)
  rw [h2.2.1]
  exact h2.2.2
theorem dX0_addNumber_0 : decode cX0_addNumber 0 = .ok (.ldc2_w 55, 3) := by decide +kernel
theorem dX0_addNumber_3 : decode cX0_addNumber 3 = .ok (.lstore_n 3, 1) := by decide +kernel
theorem dX0_addNumber_4 : decode cX0_addNumber 4 = .ok (.lload_n 3, 1) := by decide +kernel
theorem dX0_addNumber_5 : decode cX0_addNumber 5 = .ok (.lconst 0, 1) := by decide +kernel
theorem dX0_addNumber_6 : decode cX0_addNumber 6 = .ok (.lcmp, 1) := by decide +kernel
theorem dX0_addNumber_7 : decode cX0_addNumber 7 = .ok (.ifCond .le 44, 3) := by decide +kernel
theorem dX0_addNumber_10 : decode cX0_addNumber 10 = .ok (.lload_n 1, 1) := by decide +kernel
theorem dX0_addNumber_11 : decode cX0_addNumber 11 = .ok (.lload_n 3, 1) := by decide +kernel
theorem dX0_addNumber_12 : decode cX0_addNumber 12 = .ok (.lcmp, 1) := by decide +kernel
theorem dX0_addNumber_13 : decode cX0_addNumber 13 = .ok (.ifCond .ge 9, 3) := by decide +kernel
theorem dX0_addNumber_16 : decode cX0_addNumber 16 = .ok (.lload_n 3, 1) := by decide +kernel
theorem dX0_addNumber_17 : decode cX0_addNumber 17 = .ok (.lconst 1, 1) := by decide +kernel
theorem dX0_addNumber_18 : decode cX0_addNumber 18 = .ok (.lcmp, 1) := by decide +kernel
theorem dX0_addNumber_19 : decode cX0_addNumber 19 = .ok (.ifCond .ne 23, 3) := by decide +kernel
theorem dX0_addNumber_22 : decode cX0_addNumber 22 = .ok (.aload_n 0, 1) := by decide +kernel
theorem dX0_addNumber_23 : decode cX0_addNumber 23 = .ok (.getfield 10, 3) := by decide +kernel
theorem dX0_addNumber_26 : decode cX0_addNumber 26 = .ok (.bipush 48, 2) := by decide +kernel
theorem dX0_addNumber_28 : decode cX0_addNumber 28 = .ok (.lload_n 1, 1) := by decide +kernel
theorem dX0_addNumber_29 : decode cX0_addNumber 29 = .ok (.lload_n 3, 1) := by decide +kernel
theorem dX0_addNumber_30 : decode cX0_addNumber 30 = .ok (.ldiv, 1) := by decide +kernel
theorem dX0_addNumber_31 : decode cX0_addNumber 31 = .ok (.ldc2_w 57, 3) := by decide +kernel
theorem dX0_addNumber_34 : decode cX0_addNumber 34 = .ok (.lrem, 1) := by decide +kernel
theorem dX0_addNumber_35 : decode cX0_addNumber 35 = .ok (.l2i, 1) := by decide +kernel
theorem dX0_addNumber_36 : decode cX0_addNumber 36 = .ok (.iadd, 1) := by decide +kernel
theorem dX0_addNumber_37 : decode cX0_addNumber 37 = .ok (.i2c, 1) := by decide +kernel
theorem dX0_addNumber_38 : decode cX0_addNumber 38 = .ok (.invokevirtual 41, 3) := by decide +kernel
theorem dX0_addNumber_41 : decode cX0_addNumber 41 = .ok (.pop, 1) := by decide +kernel
theorem dX0_addNumber_42 : decode cX0_addNumber 42 = .ok (.lload_n 3, 1) := by decide +kernel
theorem dX0_addNumber_43 : decode cX0_addNumber 43 = .ok (.ldc2_w 57, 3) := by decide +kernel
theorem dX0_addNumber_46 : decode cX0_addNumber 46 = .ok (.ldiv, 1) := by decide +kernel
theorem dX0_addNumber_47 : decode cX0_addNumber 47 = .ok (.lstore_n 3, 1) := by decide +kernel
theorem dX0_addNumber_48 : decode cX0_addNumber 48 = .ok (.goto (-44), 3) := by decide +kernel
theorem dX0_addNumber_51 : decode cX0_addNumber 51 = .ok (.return_, 1) := by decide +kernel
theorem dX0_addSigns_0 : decode cX0_addSigns 0 = .ok (.aload_n 1, 1) := by decide +kernel
theorem dX0_addSigns_1 : decode cX0_addSigns 1 = .ok (.getfield 52, 3) := by decide +kernel
theorem dX0_addSigns_4 : decode cX0_addSigns 4 = .ok (.iload_n 2, 1) := by decide +kernel
theorem dX0_addSigns_5 : decode cX0_addSigns 5 = .ok (.if_icmp .ne 13, 3) := by decide +kernel
theorem dX0_addSigns_8 : decode cX0_addSigns 8 = .ok (.aload_n 0, 1) := by decide +kernel
theorem dX0_addSigns_9 : decode cX0_addSigns 9 = .ok (.getfield 10, 3) := by decide +kernel
theorem dX0_addSigns_12 : decode cX0_addSigns 12 = .ok (.bipush 124, 2) := by decide +kernel
theorem dX0_addSigns_14 : decode cX0_addSigns 14 = .ok (.invokevirtual 41, 3) := by decide +kernel
theorem dX0_addSigns_17 : decode cX0_addSigns 17 = .ok (.pop, 1) := by decide +kernel
theorem dX0_addSigns_18 : decode cX0_addSigns 18 = .ok (.aload_n 1, 1) := by decide +kernel
theorem dX0_addSigns_19 : decode cX0_addSigns 19 = .ok (.getfield 24, 3) := by decide +kernel
theorem dX0_addSigns_22 : decode cX0_addSigns 22 = .ok (.iload_n 2, 1) := by decide +kernel
theorem dX0_addSigns_23 : decode cX0_addSigns 23 = .ok (.if_icmp .ne 13, 3) := by decide +kernel
theorem dX0_addSigns_26 : decode cX0_addSigns 26 = .ok (.aload_n 0, 1) := by decide +kernel
theorem dX0_addSigns_27 : decode cX0_addSigns 27 = .ok (.getfield 10, 3) := by decide +kernel
theorem dX0_addSigns_30 : decode cX0_addSigns 30 = .ok (.bipush 62, 2) := by decide +kernel
theorem dX0_addSigns_32 : decode cX0_addSigns 32 = .ok (.invokevirtual 41, 3) := by decide +kernel
theorem dX0_addSigns_35 : decode cX0_addSigns 35 = .ok (.pop, 1) := by decide +kernel
theorem dX0_addSigns_36 : decode cX0_addSigns 36 = .ok (.aload_n 1, 1) := by decide +kernel
theorem dX0_addSigns_37 : decode cX0_addSigns 37 = .ok (.getfield 30, 3) := by decide +kernel
theorem dX0_addSigns_40 : decode cX0_addSigns 40 = .ok (.iload_n 2, 1) := by decide +kernel
theorem dX0_addSigns_41 : decode cX0_addSigns 41 = .ok (.if_icmp .ne 13, 3) := by decide +kernel
theorem dX0_addSigns_44 : decode cX0_addSigns 44 = .ok (.aload_n 0, 1) := by decide +kernel
theorem dX0_addSigns_45 : decode cX0_addSigns 45 = .ok (.getfield 10, 3) := by decide +kernel
theorem dX0_addSigns_48 : decode cX0_addSigns 48 = .ok (.bipush 60, 2) := by decide +kernel
theorem dX0_addSigns_50 : decode cX0_addSigns 50 = .ok (.invokevirtual 41, 3) := by decide +kernel
theorem dX0_addSigns_53 : decode cX0_addSigns 53 = .ok (.pop, 1) := by decide +kernel
theorem dX0_addSigns_54 : decode cX0_addSigns 54 = .ok (.return_, 1) := by decide +kernel
set_option maxRecDepth 20000 in
theorem lp_X0_addN {X : zX} {rk rs : Nat} (C : z_C X cX0_addNumber RX0 5 (z_rm 8 rk rs)) {u : sS} {x : Nat} {P RA VA : Nat → Nat} {pa sp ln rf sb : Nat} {v pp o9 : Nat} {p9 : sP} (hv : v < 35000000000) {n0 cf nf : Nat} {lf : List Int32} (hk9 : (nf - n0) / 16 ≤ rk) (hs9 : 2 * (nf - n0) ≤ rs) (hq9 : cf ≤ 280) (kk : ∀ Mz, CI (z_G X) u x P RA VA pa sp ln rf sb Mz → Mz pp = some (cPx o9 p9) → (∃ vb', j_B (z_G X) Mz sb vb' cf nf ∧ j_L Mz vb' cf lf) → z_W X Mz (0 + (nf - n0) / 16) (0 + 2 * (nf - n0)) 51 [] []) : ∀ (e c n vb : Nat) (Mw : zM) (ls : List Int32), e ≤ 10 → CI (z_G X) u x P RA VA pa sp ln rf sb Mw → Mw pp = some (cPx o9 p9) → j_B (z_G X) Mw sb vb c n → n0 ≤ n → c + j_nd v e = cf → j_cap n cf = nf → j_L Mw vb c ls → ls ++ t_num v e = lf → z_W X Mw (0 + (n - n0) / 16) (0 + 2 * (n - n0)) 4 [(3, .long (lN (10 ^ e))), (0, .ref ln), (1, .long (lN v))] [] := by
  intro e
  induction e with
  | zero =>
    intro c n vb Mw ls he hC hpp hB hn0 hcf hnf hL hlf
    have hu := j_pw (e := 0) (by decide)
    refine z_lload_n C dX0_addNumber_4 rfl 0 rfl ?_
    refine z_lconst C (v := 0) dX0_addNumber_5 (by decide) ?_
    refine z_lcmp C dX0_addNumber_6 ?_
    refine z_if_le C (tgt := 51) dX0_addNumber_7 (by decide) (fun c7 => absurd c7 (j_u0 hu.1 hu.2)) (fun _ => ?_)
    refine z_lload_n C dX0_addNumber_10 rfl 2 rfl ?_
    refine z_lload_n C dX0_addNumber_11 rfl 0 rfl ?_
    refine z_lcmp C dX0_addNumber_12 ?_
    refine z_if_ge C (tgt := 22) dX0_addNumber_13 (by decide) (fun c13 => ?_) (fun c13 => ?_)
    · refine z_aload_n C dX0_addNumber_22 rfl 1 rfl ?_
      refine gf_X0_10 C (CI_ln hC) dX0_addNumber_23 ?_
      refine z_bipush C (v := 48) dX0_addNumber_26 (by decide) ?_
      refine z_lload_n C dX0_addNumber_28 rfl 2 rfl ?_
      refine z_lload_n C dX0_addNumber_29 rfl 0 rfl ?_
      refine z_ldiv C dX0_addNumber_30 (j_uz hu.1 hu.2) ?_
      refine z_ldc2 C (v := 10) kw557 dX0_addNumber_31 ?_
      refine z_lrem C dX0_addNumber_34 (by decide) ?_
      refine z_l2i C dX0_addNumber_35 ?_
      refine z_iadd C dX0_addNumber_36 ?_
      refine z_i2c C dX0_addNumber_37 ?_
      have hm1 := j_B_c hB
      have hm0 := j_B_c hB
      have hnd := j_nd_in v (0)
      have hj : j_cap n (c + 1) ≤ nf := by rw [← hnf]; exact j_cap_mono (by have h9 := (j_nd_in v (0)).1; omega)
      refine j_site (q := qJ4_append_cf468) (c := c) (n := n) (w := 1) (F := 3) (k0 := 0) (s0 := 0) (n0 := n0) (rest := []) (wl := [(t_dgt v 0)]) C hB hL rfl (fun h9 => cs_X0_41 C h9) ⟨Nat.le_of_ble_eq_true rfl, Nat.le_of_ble_eq_true rfl⟩ (Nat.le_of_ble_eq_true rfl) (Nat.le_of_ble_eq_true rfl) (fun h9 => j_C_fit (x := (t_dgt v 0)) hB (j_ch (by omega) (by omega)) (j_chx (by omega) (by omega)) h9) (fun h9 => j_C_grow (x := (t_dgt v 0)) hB (j_ch (by omega) (by omega)) (j_chx (by omega) (by omega)) (by omega) h9) rfl rfl (Nat.le_of_ble_eq_true rfl) (by omega) (by show _ ≤ rk; omega) (by show _ ≤ rs; omega) dX0_addNumber_38 (fun vc1 Mc1 hB1 hF1 hL1 => ?_)
      have hC1 := CI_fr hC hB hB1 hF1
      have hn1 := j_cap_ge (n) (c + 1)
      have hp1 := j_keepP hB hF1 hpp
      refine z_pop C dX0_addNumber_41 rfl ?_
      refine z_lload_n C dX0_addNumber_42 rfl 0 rfl ?_
      refine z_ldc2 C (v := 10) kw557 dX0_addNumber_43 ?_
      refine z_ldiv C dX0_addNumber_46 (by decide) ?_
      rw [show (((lN (10 ^ 0)) / 10) : Int64) = (lN 0) from (by decide)]
      refine z_lstore_n (lv' := [(3, .long (lN 0)), (0, .ref ln), (1, .long (lN v))]) C dX0_addNumber_47 rfl (by decide) rfl ?_
      refine z_goto C (tgt := 4) dX0_addNumber_48 (by decide) ?_
      refine z_lload_n C dX0_addNumber_4 rfl 0 rfl ?_
      refine z_lconst C (v := 0) dX0_addNumber_5 (by decide) ?_
      refine z_lcmp C dX0_addNumber_6 ?_
      refine z_if_le C (tgt := 51) dX0_addNumber_7 (by decide) (fun _ => ?_) (fun c7 => absurd (by decide) c7)
      refine z_fewer [] rfl ?_
      have hx : (c + 1) = cf := hcf
      have hy : (j_cap n (c + 1)) = nf := by rw [hx]; exact hnf
      have hL9 := j_L_c (j_L_eq hL1 (show ls ++ [t_dgt v 0] = lf from hlf)) hx
      rw [hx, hnf] at hB1
      rw [hy]
      exact kk _ hC1 hp1 ⟨_, hB1, hL9⟩
    · refine z_lload_n C dX0_addNumber_16 rfl 0 rfl ?_
      refine z_lconst C (v := 1) dX0_addNumber_17 (by decide) ?_
      refine z_lcmp C dX0_addNumber_18 ?_
      refine z_if_ne C (tgt := 42) dX0_addNumber_19 (by decide) (fun c19 => absurd (by decide) c19) (fun _ => ?_)
      refine z_aload_n C dX0_addNumber_22 rfl 1 rfl ?_
      refine gf_X0_10 C (CI_ln hC) dX0_addNumber_23 ?_
      refine z_bipush C (v := 48) dX0_addNumber_26 (by decide) ?_
      refine z_lload_n C dX0_addNumber_28 rfl 2 rfl ?_
      refine z_lload_n C dX0_addNumber_29 rfl 0 rfl ?_
      refine z_ldiv C dX0_addNumber_30 (j_uz hu.1 hu.2) ?_
      refine z_ldc2 C (v := 10) kw557 dX0_addNumber_31 ?_
      refine z_lrem C dX0_addNumber_34 (by decide) ?_
      refine z_l2i C dX0_addNumber_35 ?_
      refine z_iadd C dX0_addNumber_36 ?_
      refine z_i2c C dX0_addNumber_37 ?_
      have hm1 := j_B_c hB
      have hm0 := j_B_c hB
      have hnd := j_nd_in v (0)
      have hj : j_cap n (c + 1) ≤ nf := by rw [← hnf]; exact j_cap_mono (by have h9 := (j_nd_in v (0)).1; omega)
      refine j_site (q := qJ4_append_cf468) (c := c) (n := n) (w := 1) (F := 3) (k0 := 0) (s0 := 0) (n0 := n0) (rest := []) (wl := [(t_dgt v 0)]) C hB hL rfl (fun h9 => cs_X0_41 C h9) ⟨Nat.le_of_ble_eq_true rfl, Nat.le_of_ble_eq_true rfl⟩ (Nat.le_of_ble_eq_true rfl) (Nat.le_of_ble_eq_true rfl) (fun h9 => j_C_fit (x := (t_dgt v 0)) hB (j_ch (by omega) (by omega)) (j_chx (by omega) (by omega)) h9) (fun h9 => j_C_grow (x := (t_dgt v 0)) hB (j_ch (by omega) (by omega)) (j_chx (by omega) (by omega)) (by omega) h9) rfl rfl (Nat.le_of_ble_eq_true rfl) (by omega) (by show _ ≤ rk; omega) (by show _ ≤ rs; omega) dX0_addNumber_38 (fun vc1 Mc1 hB1 hF1 hL1 => ?_)
      have hC1 := CI_fr hC hB hB1 hF1
      have hn1 := j_cap_ge (n) (c + 1)
      have hp1 := j_keepP hB hF1 hpp
      refine z_pop C dX0_addNumber_41 rfl ?_
      refine z_lload_n C dX0_addNumber_42 rfl 0 rfl ?_
      refine z_ldc2 C (v := 10) kw557 dX0_addNumber_43 ?_
      refine z_ldiv C dX0_addNumber_46 (by decide) ?_
      rw [show (((lN (10 ^ 0)) / 10) : Int64) = (lN 0) from (by decide)]
      refine z_lstore_n (lv' := [(3, .long (lN 0)), (0, .ref ln), (1, .long (lN v))]) C dX0_addNumber_47 rfl (by decide) rfl ?_
      refine z_goto C (tgt := 4) dX0_addNumber_48 (by decide) ?_
      refine z_lload_n C dX0_addNumber_4 rfl 0 rfl ?_
      refine z_lconst C (v := 0) dX0_addNumber_5 (by decide) ?_
      refine z_lcmp C dX0_addNumber_6 ?_
      refine z_if_le C (tgt := 51) dX0_addNumber_7 (by decide) (fun _ => ?_) (fun c7 => absurd (by decide) c7)
      refine z_fewer [] rfl ?_
      have hx : (c + 1) = cf := hcf
      have hy : (j_cap n (c + 1)) = nf := by rw [hx]; exact hnf
      have hL9 := j_L_c (j_L_eq hL1 (show ls ++ [t_dgt v 0] = lf from hlf)) hx
      rw [hx, hnf] at hB1
      rw [hy]
      exact kk _ hC1 hp1 ⟨_, hB1, hL9⟩
  | succ e ih =>
    intro c n vb Mw ls he hC hpp hB hn0 hcf hnf hL hlf
    have hu := j_pw (e := e + 1) he
    refine z_lload_n C dX0_addNumber_4 rfl 0 rfl ?_
    refine z_lconst C (v := 0) dX0_addNumber_5 (by decide) ?_
    refine z_lcmp C dX0_addNumber_6 ?_
    refine z_if_le C (tgt := 51) dX0_addNumber_7 (by decide) (fun c7 => absurd c7 (j_u0 hu.1 hu.2)) (fun _ => ?_)
    refine z_lload_n C dX0_addNumber_10 rfl 2 rfl ?_
    refine z_lload_n C dX0_addNumber_11 rfl 0 rfl ?_
    refine z_lcmp C dX0_addNumber_12 ?_
    refine z_if_ge C (tgt := 22) dX0_addNumber_13 (by decide) (fun c13 => ?_) (fun c13 => ?_)
    · refine z_aload_n C dX0_addNumber_22 rfl 1 rfl ?_
      refine gf_X0_10 C (CI_ln hC) dX0_addNumber_23 ?_
      refine z_bipush C (v := 48) dX0_addNumber_26 (by decide) ?_
      refine z_lload_n C dX0_addNumber_28 rfl 2 rfl ?_
      refine z_lload_n C dX0_addNumber_29 rfl 0 rfl ?_
      refine z_ldiv C dX0_addNumber_30 (j_uz hu.1 hu.2) ?_
      refine z_ldc2 C (v := 10) kw557 dX0_addNumber_31 ?_
      refine z_lrem C dX0_addNumber_34 (by decide) ?_
      refine z_l2i C dX0_addNumber_35 ?_
      refine z_iadd C dX0_addNumber_36 ?_
      refine z_i2c C dX0_addNumber_37 ?_
      have hm1 := j_B_c hB
      have hm0 := j_B_c hB
      have hnd := j_nd_in v ((e + 1))
      have hj : j_cap n (c + 1) ≤ nf := by rw [← hnf]; exact j_cap_mono (by have h9 := (j_nd_in v ((e + 1))).1; omega)
      refine j_site (q := qJ4_append_cf468) (c := c) (n := n) (w := 1) (F := 3) (k0 := 0) (s0 := 0) (n0 := n0) (rest := []) (wl := [(t_dgt v (e + 1))]) C hB hL rfl (fun h9 => cs_X0_41 C h9) ⟨Nat.le_of_ble_eq_true rfl, Nat.le_of_ble_eq_true rfl⟩ (Nat.le_of_ble_eq_true rfl) (Nat.le_of_ble_eq_true rfl) (fun h9 => j_C_fit (x := (t_dgt v (e + 1))) hB (j_ch (by omega) (by omega)) (j_chx (by omega) (by omega)) h9) (fun h9 => j_C_grow (x := (t_dgt v (e + 1))) hB (j_ch (by omega) (by omega)) (j_chx (by omega) (by omega)) (by omega) h9) rfl rfl (Nat.le_of_ble_eq_true rfl) (by omega) (by show _ ≤ rk; omega) (by show _ ≤ rs; omega) dX0_addNumber_38 (fun vc1 Mc1 hB1 hF1 hL1 => ?_)
      have hC1 := CI_fr hC hB hB1 hF1
      have hn1 := j_cap_ge (n) (c + 1)
      have hp1 := j_keepP hB hF1 hpp
      refine z_pop C dX0_addNumber_41 rfl ?_
      refine z_lload_n C dX0_addNumber_42 rfl 0 rfl ?_
      refine z_ldc2 C (v := 10) kw557 dX0_addNumber_43 ?_
      refine z_ldiv C dX0_addNumber_46 (by decide) ?_
      rw [show (((lN (10 ^ (e + 1))) / 10) : Int64) = (lN (10 ^ e)) from (j_pdiv (by omega))]
      refine z_lstore_n (lv' := [(3, .long (lN (10 ^ e))), (0, .ref ln), (1, .long (lN v))]) C dX0_addNumber_47 rfl (by decide) rfl ?_
      refine z_goto C (tgt := 4) dX0_addNumber_48 (by decide) ?_
      refine z_fewer [0, 1, 2] rfl ?_
      exact ih _ _ _ _ _ (by omega) hC1 hp1 hB1 (by omega) (by rw [← hcf, j_nd_s1 ((j_uge hv hu.2).mp c13)]; omega) (by rw [← hnf, ← hcf, j_nd_s1 ((j_uge hv hu.2).mp c13), ← Nat.add_assoc]; exact j_cap_cap hm0.1 (by have h9 := j_nd_in v e; omega)) hL1 (by rw [← hlf, t_num_s1 ((j_uge hv hu.2).mp c13)]; simp)
    · refine z_lload_n C dX0_addNumber_16 rfl 0 rfl ?_
      refine z_lconst C (v := 1) dX0_addNumber_17 (by decide) ?_
      refine z_lcmp C dX0_addNumber_18 ?_
      refine z_if_ne C (tgt := 42) dX0_addNumber_19 (by decide) (fun _ => ?_) (fun c19 => absurd c19 (j_u1 (by have h9 := (j_pw (e := e) (by omega)).1; rw [Nat.pow_succ]; omega) hu.2))
      refine z_lload_n C dX0_addNumber_42 rfl 0 rfl ?_
      refine z_ldc2 C (v := 10) kw557 dX0_addNumber_43 ?_
      refine z_ldiv C dX0_addNumber_46 (by decide) ?_
      rw [show (((lN (10 ^ (e + 1))) / 10) : Int64) = (lN (10 ^ e)) from (j_pdiv (by omega))]
      refine z_lstore_n (lv' := [(3, .long (lN (10 ^ e))), (0, .ref ln), (1, .long (lN v))]) C dX0_addNumber_47 rfl (by decide) rfl ?_
      refine z_goto C (tgt := 4) dX0_addNumber_48 (by decide) ?_
      refine z_fewer [0, 1, 2] rfl ?_
      exact ih _ _ _ _ _ (by omega) hC hpp hB (by omega) (by rw [← hcf, j_nd_s0 (mt (j_uge hv hu.2).mpr c13)]) hnf hL (by rw [← hlf, t_num_s0 (mt (j_uge hv hu.2).mpr c13)])
set_option maxRecDepth 20000 in
theorem a_X0_addNumber (l : Launch) {G : zG} {u : sS} {x : Nat} {P RA VA : Nat → Nat} {pa sp ln rf sb : Nat} {Mw : zM} (hC : CI G u x P RA VA pa sp ln rf sb Mw) {t : Nat} (hok : s_ok t u) {vb c n : Nat} (hB : j_B G Mw sb vb c n) {ls : List Int32} (hL : j_L Mw vb c ls) {v pp o9 : Nat} {p9 : sP} (hpp : Mw pp = some (cPx o9 p9)) (hv : v < 35000000000) (hq9 : (c + j_nd v 10) ≤ 280) : z_Mv l G qX0_addNumber (z_rm 8 (((j_cap n (c + j_nd v 10)) - n) / 16) (2 * ((j_cap n (c + j_nd v 10)) - n))) [.ref ln, .long (lN v)] Mw (fun Mz => CI G u x P RA VA pa sp ln rf sb Mz ∧ Mz pp = some (cPx o9 p9) ∧ ∃ vb', j_B G Mz sb vb' (c + j_nd v 10) (j_cap n (c + j_nd v 10)) ∧ j_L Mz vb' (c + j_nd v 10) (ls ++ t_nm v))  := by
  refine z_Mv_of _ (plainFor_of_name rfl) rfl (Nat.le_of_ble_eq_true rfl) (fun X hl hG hnm C ret => ?_)
  subst hl; subst hG
  have C : z_C X cX0_addNumber RX0 5 (z_rm 8 (((j_cap n (c + j_nd v 10)) - n) / 16) (2 * ((j_cap n (c + j_nd v 10)) - n))) := C
  show z_W X Mw 0 0 0 [(0, .ref ln), (1, .long (lN v))] []
  refine z_ldc2 C (v := 10000000000) kw556 dX0_addNumber_0 ?_
  refine z_lstore_n (lv' := [(3, .long 10000000000), (0, .ref ln), (1, .long (lN v))]) C dX0_addNumber_3 rfl (by decide) rfl ?_
  refine z_fewer [0, 1, 2] rfl ?_
  refine z_at (M' := Mw) (lv' := [(3, .long (lN (10 ^ 10))), (0, .ref ln), (1, .long (lN v))]) rfl (by rw [show lN (10 ^ 10) = 10000000000 from by decide]; rfl) rfl ?_
  refine z_kn (k' := 0 + (n - n) / 16) (n' := 0 + 2 * (n - n)) (by simp) (by simp) ?_
  exact lp_X0_addN C hv (Nat.le_refl _) (Nat.le_refl _) hq9 (fun Mz h1 h0 h2 => ret dX0_addNumber_51 ⟨h1, h0, h2⟩ (Nat.le_of_eq (Nat.zero_add _)) (Nat.le_of_eq (Nat.zero_add _))) 10 c n vb Mw ls (Nat.le_refl _) hC hpp hB (Nat.le_refl _) rfl rfl hL rfl
def j_sg (p : sP) (ix : Int32) : Nat := (if p_mk p = ix then 1 else 0) + (if p_po p = ix then 1 else 0) + (if p_li p = ix then 1 else 0)
theorem j_sg_in (p : sP) (ix : Int32) : j_sg p ix ≤ 3 := by
  unfold j_sg
  split <;> split <;> split <;> omega
set_option maxRecDepth 20000 in
theorem a_X0_addSigns (l : Launch) {G : zG} {u : sS} {x : Nat} {P RA VA : Nat → Nat} {pa sp ln rf sb : Nat} {Mw : zM} (hC : CI G u x P RA VA pa sp ln rf sb Mw) {t : Nat} (hok : s_ok t u) {vb c n : Nat} (hB : j_B G Mw sb vb c n) {ls : List Int32} (hL : j_L Mw vb c ls) {i : Nat} (hi : i < 6) {ix : Int32} (hq9 : (c + (j_sg (s_pn u i) ix)) ≤ 280) : z_Mv l G qX0_addSigns (z_rm 8 (((j_cap n (c + (j_sg (s_pn u i) ix))) - n) / 16) (2 * ((j_cap n (c + (j_sg (s_pn u i) ix))) - n))) [.ref ln, .ref (P i), .int ix] Mw (fun Mz => CI G u x P RA VA pa sp ln rf sb Mz ∧ ∃ vb', j_B G Mz sb vb' (c + (j_sg (s_pn u i) ix)) (j_cap n (c + (j_sg (s_pn u i) ix))) ∧ j_L Mz vb' (c + (j_sg (s_pn u i) ix)) (ls ++ t_sg (s_pn u i) ix))  := by
  refine z_Mv_of _ (plainFor_of_name rfl) rfl (Nat.le_of_ble_eq_true rfl) (fun X hl hG hnm C ret => ?_)
  subst hl; subst hG
  have C : z_C X cX0_addSigns RX0 3 (z_rm 8 (((j_cap n (c + (j_sg (s_pn u i) ix))) - n) / 16) (2 * ((j_cap n (c + (j_sg (s_pn u i) ix))) - n))) := C
  show z_W X Mw 0 0 0 [(0, .ref ln), (1, .ref (P i)), (2, .int ix)] []
  have hm0 := j_B_c hB
  refine z_kn (k' := 0 + (n - n) / 16) (n' := 0 + 2 * (n - n)) (by simp) (by simp) ?_
  refine z_aload_n C dX0_addSigns_0 rfl 1 rfl ?_
  refine gf_X0_52 C (CI_P hC hi) dX0_addSigns_1 ?_
  refine z_iload_n C dX0_addSigns_4 rfl 2 rfl ?_
  refine z_icmp_ne C (tgt := 18) dX0_addSigns_5 (by decide) (fun c5 => ?_) (fun c5 => ?_)
  · refine z_aload_n C dX0_addSigns_18 rfl 1 rfl ?_
    refine gf_X0_24 C (CI_P hC hi) dX0_addSigns_19 ?_
    refine z_iload_n C dX0_addSigns_22 rfl 2 rfl ?_
    refine z_icmp_ne C (tgt := 36) dX0_addSigns_23 (by decide) (fun c23 => ?_) (fun c23 => ?_)
    · refine z_aload_n C dX0_addSigns_36 rfl 1 rfl ?_
      refine gf_X0_30 C (CI_P hC hi) dX0_addSigns_37 ?_
      refine z_iload_n C dX0_addSigns_40 rfl 2 rfl ?_
      refine z_icmp_ne C (tgt := 54) dX0_addSigns_41 (by decide) (fun c41 => ?_) (fun c41 => ?_)
      · have e9 : (j_sg (s_pn u i) ix) = 0 := by simp [j_sg, c5, c23, c41]
        refine ret dX0_addSigns_54 ?_ (by show _ ≤ ((j_cap n (c + (j_sg (s_pn u i) ix))) - n) / 16; rw [e9, Nat.add_zero, j_cap_fit hm0.1]; exact Nat.le_of_eq (Nat.zero_add _)) (by show _ ≤ 2 * ((j_cap n (c + (j_sg (s_pn u i) ix))) - n); rw [e9, Nat.add_zero, j_cap_fit hm0.1]; exact Nat.le_of_eq (Nat.zero_add _))
        rw [e9, Nat.add_zero, j_cap_fit hm0.1]
        exact ⟨hC, vb, hB, j_L_eq hL (by simp [t_sg, c5, c23, c41])⟩
      · refine z_aload_n C dX0_addSigns_44 rfl 0 rfl ?_
        refine gf_X0_10 C (CI_ln hC) dX0_addSigns_45 ?_
        refine z_bipush C (v := 60) dX0_addSigns_48 (by decide) ?_
        have f1 : 1 ≤ (j_sg (s_pn u i) ix) := by unfold j_sg; simp only [c5, c23, c41, if_true, if_false]; omega
        have u1 : j_cap n (c + 1) ≤ (j_cap n (c + (j_sg (s_pn u i) ix))) := by
          exact j_cap_mono (by omega)
        have hm1 := j_B_c hB
        refine j_site (q := qJ4_append_cf468) (c := c) (n := n) (w := 1) (F := 3) (k0 := 0) (s0 := 0) (n0 := n) (rest := []) (wl := [60]) C hB hL rfl (fun h9 => cs_X0_41 C h9) ⟨Nat.le_of_ble_eq_true rfl, Nat.le_of_ble_eq_true rfl⟩ (Nat.le_of_ble_eq_true rfl) (Nat.le_of_ble_eq_true rfl) (fun h9 => j_C_fit (x := 60) hB (by decide) (by decide) h9) (fun h9 => j_C_grow (x := 60) hB (by decide) (by decide) (by omega) h9) rfl rfl (Nat.le_of_ble_eq_true rfl) (by omega) (by show _ ≤ ((j_cap n (c + (j_sg (s_pn u i) ix))) - n) / 16; omega) (by show _ ≤ 2 * ((j_cap n (c + (j_sg (s_pn u i) ix))) - n); omega) dX0_addSigns_50 (fun vc1 Mc1 hB1 hF1 hL1 => ?_)
        have hC1 := CI_fr hC hB hB1 hF1
        have hn1 := j_cap_ge (n) (c + 1)
        refine z_pop C dX0_addSigns_53 rfl ?_
        have e9 : (j_sg (s_pn u i) ix) = 1 := by simp [j_sg, c5, c23, c41]
        refine ret dX0_addSigns_54 ?_ (by show _ ≤ ((j_cap n (c + (j_sg (s_pn u i) ix))) - n) / 16; rw [e9]; exact Nat.le_of_eq (Nat.zero_add _)) (by show _ ≤ 2 * ((j_cap n (c + (j_sg (s_pn u i) ix))) - n); rw [e9]; exact Nat.le_of_eq (Nat.zero_add _))
        rw [e9]
        exact ⟨hC1, _, hB1, j_L_eq hL1 (by simp [t_sg, c5, c23, c41])⟩
    · refine z_aload_n C dX0_addSigns_26 rfl 0 rfl ?_
      refine gf_X0_10 C (CI_ln hC) dX0_addSigns_27 ?_
      refine z_bipush C (v := 62) dX0_addSigns_30 (by decide) ?_
      have f1 : 1 ≤ (j_sg (s_pn u i) ix) := by unfold j_sg; simp only [c5, c23, if_true, if_false]; omega
      have u1 : j_cap n (c + 1) ≤ (j_cap n (c + (j_sg (s_pn u i) ix))) := by
        exact j_cap_mono (by omega)
      have hm1 := j_B_c hB
      refine j_site (q := qJ4_append_cf468) (c := c) (n := n) (w := 1) (F := 3) (k0 := 0) (s0 := 0) (n0 := n) (rest := []) (wl := [62]) C hB hL rfl (fun h9 => cs_X0_41 C h9) ⟨Nat.le_of_ble_eq_true rfl, Nat.le_of_ble_eq_true rfl⟩ (Nat.le_of_ble_eq_true rfl) (Nat.le_of_ble_eq_true rfl) (fun h9 => j_C_fit (x := 62) hB (by decide) (by decide) h9) (fun h9 => j_C_grow (x := 62) hB (by decide) (by decide) (by omega) h9) rfl rfl (Nat.le_of_ble_eq_true rfl) (by omega) (by show _ ≤ ((j_cap n (c + (j_sg (s_pn u i) ix))) - n) / 16; omega) (by show _ ≤ 2 * ((j_cap n (c + (j_sg (s_pn u i) ix))) - n); omega) dX0_addSigns_32 (fun vc1 Mc1 hB1 hF1 hL1 => ?_)
      have hC1 := CI_fr hC hB hB1 hF1
      have hn1 := j_cap_ge (n) (c + 1)
      refine z_pop C dX0_addSigns_35 rfl ?_
      refine z_aload_n C dX0_addSigns_36 rfl 1 rfl ?_
      refine gf_X0_30 C (CI_P hC1 hi) dX0_addSigns_37 ?_
      refine z_iload_n C dX0_addSigns_40 rfl 2 rfl ?_
      refine z_icmp_ne C (tgt := 54) dX0_addSigns_41 (by decide) (fun c41 => ?_) (fun c41 => ?_)
      · have e9 : (j_sg (s_pn u i) ix) = 1 := by simp [j_sg, c5, c23, c41]
        refine ret dX0_addSigns_54 ?_ (by show _ ≤ ((j_cap n (c + (j_sg (s_pn u i) ix))) - n) / 16; rw [e9]; exact Nat.le_of_eq (Nat.zero_add _)) (by show _ ≤ 2 * ((j_cap n (c + (j_sg (s_pn u i) ix))) - n); rw [e9]; exact Nat.le_of_eq (Nat.zero_add _))
        rw [e9]
        exact ⟨hC1, _, hB1, j_L_eq hL1 (by simp [t_sg, c5, c23, c41])⟩
      · refine z_aload_n C dX0_addSigns_44 rfl 0 rfl ?_
        refine gf_X0_10 C (CI_ln hC1) dX0_addSigns_45 ?_
        refine z_bipush C (v := 60) dX0_addSigns_48 (by decide) ?_
        have f2 : 2 ≤ (j_sg (s_pn u i) ix) := by unfold j_sg; simp only [c5, c23, c41, if_true, if_false]; omega
        have u2 : j_cap (j_cap n (c + 1)) ((c + 1) + 1) ≤ (j_cap n (c + (j_sg (s_pn u i) ix))) := by
          rw [j_cap_cap (d := 1) (e := 1) hm0.1 (by omega)]
          exact j_cap_mono (by omega)
        have hm2 := j_B_c hB1
        refine j_site (q := qJ4_append_cf468) (c := (c + 1)) (n := (j_cap n (c + 1))) (w := 1) (F := 3) (k0 := 0) (s0 := 0) (n0 := n) (rest := []) (wl := [60]) C hB1 hL1 rfl (fun h9 => cs_X0_41 C h9) ⟨Nat.le_of_ble_eq_true rfl, Nat.le_of_ble_eq_true rfl⟩ (Nat.le_of_ble_eq_true rfl) (Nat.le_of_ble_eq_true rfl) (fun h9 => j_C_fit (x := 60) hB1 (by decide) (by decide) h9) (fun h9 => j_C_grow (x := 60) hB1 (by decide) (by decide) (by omega) h9) rfl rfl (Nat.le_of_ble_eq_true rfl) (by omega) (by show _ ≤ ((j_cap n (c + (j_sg (s_pn u i) ix))) - n) / 16; omega) (by show _ ≤ 2 * ((j_cap n (c + (j_sg (s_pn u i) ix))) - n); omega) dX0_addSigns_50 (fun vc2 Mc2 hB2 hF2 hL2 => ?_)
        have hC2 := CI_fr hC1 hB1 hB2 hF2
        have hn2 := j_cap_ge ((j_cap n (c + 1))) ((c + 1) + 1)
        refine z_pop C dX0_addSigns_53 rfl ?_
        have e9 : (j_sg (s_pn u i) ix) = 2 := by simp [j_sg, c5, c23, c41]
        have n2 : j_cap (j_cap n (c + 1)) (c + 1 + 1) = j_cap n (c + 1 + 1) := j_cap_cap hm0.1 (by omega)
        rw [n2] at hB2 ⊢
        refine ret dX0_addSigns_54 ?_ (by show _ ≤ ((j_cap n (c + (j_sg (s_pn u i) ix))) - n) / 16; rw [e9]; exact Nat.le_of_eq (Nat.zero_add _)) (by show _ ≤ 2 * ((j_cap n (c + (j_sg (s_pn u i) ix))) - n); rw [e9]; exact Nat.le_of_eq (Nat.zero_add _))
        rw [e9]
        exact ⟨hC2, _, hB2, j_L_eq hL2 (by simp [t_sg, c5, c23, c41])⟩
  · refine z_aload_n C dX0_addSigns_8 rfl 0 rfl ?_
    refine gf_X0_10 C (CI_ln hC) dX0_addSigns_9 ?_
    refine z_bipush C (v := 124) dX0_addSigns_12 (by decide) ?_
    have f1 : 1 ≤ (j_sg (s_pn u i) ix) := by unfold j_sg; simp only [c5, if_true, if_false]; omega
    have u1 : j_cap n (c + 1) ≤ (j_cap n (c + (j_sg (s_pn u i) ix))) := by
      exact j_cap_mono (by omega)
    have hm1 := j_B_c hB
    refine j_site (q := qJ4_append_cf468) (c := c) (n := n) (w := 1) (F := 3) (k0 := 0) (s0 := 0) (n0 := n) (rest := []) (wl := [124]) C hB hL rfl (fun h9 => cs_X0_41 C h9) ⟨Nat.le_of_ble_eq_true rfl, Nat.le_of_ble_eq_true rfl⟩ (Nat.le_of_ble_eq_true rfl) (Nat.le_of_ble_eq_true rfl) (fun h9 => j_C_fit (x := 124) hB (by decide) (by decide) h9) (fun h9 => j_C_grow (x := 124) hB (by decide) (by decide) (by omega) h9) rfl rfl (Nat.le_of_ble_eq_true rfl) (by omega) (by show _ ≤ ((j_cap n (c + (j_sg (s_pn u i) ix))) - n) / 16; omega) (by show _ ≤ 2 * ((j_cap n (c + (j_sg (s_pn u i) ix))) - n); omega) dX0_addSigns_14 (fun vc1 Mc1 hB1 hF1 hL1 => ?_)
    have hC1 := CI_fr hC hB hB1 hF1
    have hn1 := j_cap_ge (n) (c + 1)
    refine z_pop C dX0_addSigns_17 rfl ?_
    refine z_aload_n C dX0_addSigns_18 rfl 1 rfl ?_
    refine gf_X0_24 C (CI_P hC1 hi) dX0_addSigns_19 ?_
    refine z_iload_n C dX0_addSigns_22 rfl 2 rfl ?_
    refine z_icmp_ne C (tgt := 36) dX0_addSigns_23 (by decide) (fun c23 => ?_) (fun c23 => ?_)
    · refine z_aload_n C dX0_addSigns_36 rfl 1 rfl ?_
      refine gf_X0_30 C (CI_P hC1 hi) dX0_addSigns_37 ?_
      refine z_iload_n C dX0_addSigns_40 rfl 2 rfl ?_
      refine z_icmp_ne C (tgt := 54) dX0_addSigns_41 (by decide) (fun c41 => ?_) (fun c41 => ?_)
      · have e9 : (j_sg (s_pn u i) ix) = 1 := by simp [j_sg, c5, c23, c41]
        refine ret dX0_addSigns_54 ?_ (by show _ ≤ ((j_cap n (c + (j_sg (s_pn u i) ix))) - n) / 16; rw [e9]; exact Nat.le_of_eq (Nat.zero_add _)) (by show _ ≤ 2 * ((j_cap n (c + (j_sg (s_pn u i) ix))) - n); rw [e9]; exact Nat.le_of_eq (Nat.zero_add _))
        rw [e9]
        exact ⟨hC1, _, hB1, j_L_eq hL1 (by simp [t_sg, c5, c23, c41])⟩
      · refine z_aload_n C dX0_addSigns_44 rfl 0 rfl ?_
        refine gf_X0_10 C (CI_ln hC1) dX0_addSigns_45 ?_
        refine z_bipush C (v := 60) dX0_addSigns_48 (by decide) ?_
        have f2 : 2 ≤ (j_sg (s_pn u i) ix) := by unfold j_sg; simp only [c5, c23, c41, if_true, if_false]; omega
        have u2 : j_cap (j_cap n (c + 1)) ((c + 1) + 1) ≤ (j_cap n (c + (j_sg (s_pn u i) ix))) := by
          rw [j_cap_cap (d := 1) (e := 1) hm0.1 (by omega)]
          exact j_cap_mono (by omega)
        have hm2 := j_B_c hB1
        refine j_site (q := qJ4_append_cf468) (c := (c + 1)) (n := (j_cap n (c + 1))) (w := 1) (F := 3) (k0 := 0) (s0 := 0) (n0 := n) (rest := []) (wl := [60]) C hB1 hL1 rfl (fun h9 => cs_X0_41 C h9) ⟨Nat.le_of_ble_eq_true rfl, Nat.le_of_ble_eq_true rfl⟩ (Nat.le_of_ble_eq_true rfl) (Nat.le_of_ble_eq_true rfl) (fun h9 => j_C_fit (x := 60) hB1 (by decide) (by decide) h9) (fun h9 => j_C_grow (x := 60) hB1 (by decide) (by decide) (by omega) h9) rfl rfl (Nat.le_of_ble_eq_true rfl) (by omega) (by show _ ≤ ((j_cap n (c + (j_sg (s_pn u i) ix))) - n) / 16; omega) (by show _ ≤ 2 * ((j_cap n (c + (j_sg (s_pn u i) ix))) - n); omega) dX0_addSigns_50 (fun vc2 Mc2 hB2 hF2 hL2 => ?_)
        have hC2 := CI_fr hC1 hB1 hB2 hF2
        have hn2 := j_cap_ge ((j_cap n (c + 1))) ((c + 1) + 1)
        refine z_pop C dX0_addSigns_53 rfl ?_
        have e9 : (j_sg (s_pn u i) ix) = 2 := by simp [j_sg, c5, c23, c41]
        have n2 : j_cap (j_cap n (c + 1)) (c + 1 + 1) = j_cap n (c + 1 + 1) := j_cap_cap hm0.1 (by omega)
        rw [n2] at hB2 ⊢
        refine ret dX0_addSigns_54 ?_ (by show _ ≤ ((j_cap n (c + (j_sg (s_pn u i) ix))) - n) / 16; rw [e9]; exact Nat.le_of_eq (Nat.zero_add _)) (by show _ ≤ 2 * ((j_cap n (c + (j_sg (s_pn u i) ix))) - n); rw [e9]; exact Nat.le_of_eq (Nat.zero_add _))
        rw [e9]
        exact ⟨hC2, _, hB2, j_L_eq hL2 (by simp [t_sg, c5, c23, c41])⟩
    · refine z_aload_n C dX0_addSigns_26 rfl 0 rfl ?_
      refine gf_X0_10 C (CI_ln hC1) dX0_addSigns_27 ?_
      refine z_bipush C (v := 62) dX0_addSigns_30 (by decide) ?_
      have f2 : 2 ≤ (j_sg (s_pn u i) ix) := by unfold j_sg; simp only [c5, c23, if_true, if_false]; omega
      have u2 : j_cap (j_cap n (c + 1)) ((c + 1) + 1) ≤ (j_cap n (c + (j_sg (s_pn u i) ix))) := by
        rw [j_cap_cap (d := 1) (e := 1) hm0.1 (by omega)]
        exact j_cap_mono (by omega)
      have hm2 := j_B_c hB1
      refine j_site (q := qJ4_append_cf468) (c := (c + 1)) (n := (j_cap n (c + 1))) (w := 1) (F := 3) (k0 := 0) (s0 := 0) (n0 := n) (rest := []) (wl := [62]) C hB1 hL1 rfl (fun h9 => cs_X0_41 C h9) ⟨Nat.le_of_ble_eq_true rfl, Nat.le_of_ble_eq_true rfl⟩ (Nat.le_of_ble_eq_true rfl) (Nat.le_of_ble_eq_true rfl) (fun h9 => j_C_fit (x := 62) hB1 (by decide) (by decide) h9) (fun h9 => j_C_grow (x := 62) hB1 (by decide) (by decide) (by omega) h9) rfl rfl (Nat.le_of_ble_eq_true rfl) (by omega) (by show _ ≤ ((j_cap n (c + (j_sg (s_pn u i) ix))) - n) / 16; omega) (by show _ ≤ 2 * ((j_cap n (c + (j_sg (s_pn u i) ix))) - n); omega) dX0_addSigns_32 (fun vc2 Mc2 hB2 hF2 hL2 => ?_)
      have hC2 := CI_fr hC1 hB1 hB2 hF2
      have hn2 := j_cap_ge ((j_cap n (c + 1))) ((c + 1) + 1)
      refine z_pop C dX0_addSigns_35 rfl ?_
      refine z_aload_n C dX0_addSigns_36 rfl 1 rfl ?_
      refine gf_X0_30 C (CI_P hC2 hi) dX0_addSigns_37 ?_
      refine z_iload_n C dX0_addSigns_40 rfl 2 rfl ?_
      refine z_icmp_ne C (tgt := 54) dX0_addSigns_41 (by decide) (fun c41 => ?_) (fun c41 => ?_)
      · have e9 : (j_sg (s_pn u i) ix) = 2 := by simp [j_sg, c5, c23, c41]
        have n2 : j_cap (j_cap n (c + 1)) (c + 1 + 1) = j_cap n (c + 1 + 1) := j_cap_cap hm0.1 (by omega)
        rw [n2] at hB2 ⊢
        refine ret dX0_addSigns_54 ?_ (by show _ ≤ ((j_cap n (c + (j_sg (s_pn u i) ix))) - n) / 16; rw [e9]; exact Nat.le_of_eq (Nat.zero_add _)) (by show _ ≤ 2 * ((j_cap n (c + (j_sg (s_pn u i) ix))) - n); rw [e9]; exact Nat.le_of_eq (Nat.zero_add _))
        rw [e9]
        exact ⟨hC2, _, hB2, j_L_eq hL2 (by simp [t_sg, c5, c23, c41])⟩
      · refine z_aload_n C dX0_addSigns_44 rfl 0 rfl ?_
        refine gf_X0_10 C (CI_ln hC2) dX0_addSigns_45 ?_
        refine z_bipush C (v := 60) dX0_addSigns_48 (by decide) ?_
        have f3 : 3 ≤ (j_sg (s_pn u i) ix) := by unfold j_sg; simp only [c5, c23, c41, if_true, if_false]; omega
        have u3 : j_cap (j_cap (j_cap n (c + 1)) ((c + 1) + 1)) (((c + 1) + 1) + 1) ≤ (j_cap n (c + (j_sg (s_pn u i) ix))) := by
          rw [j_cap_cap (d := 1) (e := 1) hm0.1 (by omega)]
          rw [show j_cap (j_cap n (c + 1 + 1)) (c + 1 + 1 + 1) = j_cap n (c + 1 + 1 + 1) from j_cap_cap (d := 2) (e := 1) hm0.1 (by omega)]
          exact j_cap_mono (by omega)
        have hm3 := j_B_c hB2
        refine j_site (q := qJ4_append_cf468) (c := ((c + 1) + 1)) (n := (j_cap (j_cap n (c + 1)) ((c + 1) + 1))) (w := 1) (F := 3) (k0 := 0) (s0 := 0) (n0 := n) (rest := []) (wl := [60]) C hB2 hL2 rfl (fun h9 => cs_X0_41 C h9) ⟨Nat.le_of_ble_eq_true rfl, Nat.le_of_ble_eq_true rfl⟩ (Nat.le_of_ble_eq_true rfl) (Nat.le_of_ble_eq_true rfl) (fun h9 => j_C_fit (x := 60) hB2 (by decide) (by decide) h9) (fun h9 => j_C_grow (x := 60) hB2 (by decide) (by decide) (by omega) h9) rfl rfl (Nat.le_of_ble_eq_true rfl) (by omega) (by show _ ≤ ((j_cap n (c + (j_sg (s_pn u i) ix))) - n) / 16; omega) (by show _ ≤ 2 * ((j_cap n (c + (j_sg (s_pn u i) ix))) - n); omega) dX0_addSigns_50 (fun vc3 Mc3 hB3 hF3 hL3 => ?_)
        have hC3 := CI_fr hC2 hB2 hB3 hF3
        have hn3 := j_cap_ge ((j_cap (j_cap n (c + 1)) ((c + 1) + 1))) (((c + 1) + 1) + 1)
        refine z_pop C dX0_addSigns_53 rfl ?_
        have e9 : (j_sg (s_pn u i) ix) = 3 := by simp [j_sg, c5, c23, c41]
        have n2 : j_cap (j_cap n (c + 1)) (c + 1 + 1) = j_cap n (c + 1 + 1) := j_cap_cap hm0.1 (by omega)
        rw [n2] at hB3 ⊢
        have n3 : j_cap (j_cap n (c + 1 + 1)) (c + 1 + 1 + 1) = j_cap n (c + 1 + 1 + 1) := j_cap_cap (d := 2) (e := 1) hm0.1 (by omega)
        rw [n3] at hB3 ⊢
        refine ret dX0_addSigns_54 ?_ (by show _ ≤ ((j_cap n (c + (j_sg (s_pn u i) ix))) - n) / 16; rw [e9]; exact Nat.le_of_eq (Nat.zero_add _)) (by show _ ≤ 2 * ((j_cap n (c + (j_sg (s_pn u i) ix))) - n); rw [e9]; exact Nat.le_of_eq (Nat.zero_add _))
        rw [e9]
        exact ⟨hC3, _, hB3, j_L_eq hL3 (by simp [t_sg, c5, c23, c41])⟩
