section
/-! PART 47: the class's line of signs -/
section CB
variable {G : zG} {u : sS} {x : Nat} {P RA VA : Nat → Nat} {pa sp ln rf sb : Nat} {Mw Mz : zM} {vb vb' c n c' n' : Nat}
theorem CI_fr (h : CI G u x P RA VA pa sp ln rf sb Mw) (hB : j_B G Mw sb vb c n) (hB' : j_B G Mz sb vb' c' n') (hF : j_Fr Mw sb vb vb' Mz) : CI G u x P RA VA pa sp ln rf sb Mz := by
  obtain ⟨hx, ⟨fp, hpa, hfp⟩, hP, ⟨o9, p9, hsp⟩, hRA, hVA, hrf, hln, ⟨v0, ml0, ct0, n0, f0, hsb, hvb, hc⟩, hi⟩ := h
  obtain ⟨ml, f, b1, -⟩ := hB
  obtain ⟨ml', f', d1, d2, d3, d4, d5, d6⟩ := hB'
  have e : v0 = vb := by
    have h9 := hsb.symm.trans b1
    simp at h9
    exact h9.1
  subst e
  refine ⟨hF.2 _ _ hx (z_ne hx hsb (by intro h; cases h)) (z_ne hx hvb (by intro h; cases h)), ⟨fp, hF.2 _ _ hpa (z_ne hpa hsb (by intro h; cases h)) (z_ne hpa hvb (by intro h; simp at h)), hfp⟩, fun i h => hF.2 _ _ (hP i h) (z_ne (hP i h) hsb (by intro h; cases h)) (z_ne (hP i h) hvb (by intro h; cases h)), ⟨o9, p9, hF.2 _ _ hsp (z_ne hsp hsb (by intro h; cases h)) (z_ne hsp hvb (by intro h; cases h))⟩, fun r h => hF.2 _ _ (hRA r h) (z_ne (hRA r h) hsb (by intro h; cases h)) (z_ne (hRA r h) hvb (by intro h; cases h)), fun r h => hF.2 _ _ (hVA r h) (z_ne (hVA r h) hsb (by intro h; cases h)) (hc.2.1 r h).symm, hF.2 _ _ hrf (z_ne hrf hsb (by intro h; cases h)) hc.1.symm, hF.2 _ _ hln (z_ne hln hsb (by intro h; cases h)) (z_ne hln hvb (by intro h; cases h)), ⟨vb', ml', c', n', f', d1, d2, ?_, ?_, d4, d6, d3, d5⟩, hi⟩
  · rcases hF.1 with rfl | h
    · exact hc.1
    · exact (z_neN hrf h).symm
  · intro r hr
    rcases hF.1 with rfl | h
    · exact hc.2.1 r hr
    · exact (z_neN (hVA r hr) h).symm
theorem CI_B (h : CI G u x P RA VA pa sp ln rf sb Mw) : ∃ vb c n, j_B G Mw sb vb c n := by
  obtain ⟨-, -, -, -, -, -, -, -, ⟨v0, ml0, ct0, n0, f0, hsb, hvb, hc⟩, -⟩ := h
  exact ⟨v0, ct0, n0, ml0, f0, hsb, hvb, hc.2.2.2.2.1, hc.2.2.1, hc.2.2.2.2.2, hc.2.2.2.1⟩
end CB
theorem j_keepP {G : zG} {Mw Mz : zM} {sb vb vb' c n pp o : Nat} {p : sP} (hB : j_B G Mw sb vb c n) (hF : j_Fr Mw sb vb vb' Mz) (h : Mw pp = some (cPx o p)) : Mz pp = some (cPx o p) := by
  obtain ⟨ml, f, h1, h2, -⟩ := hB
  exact hF.2 _ _ h (z_ne h h1 (by intro h; cases h)) (z_ne h h2 (by intro h; cases h))
theorem j_cap_mono {n p q : Nat} (h : p ≤ q) : j_cap n p ≤ j_cap n q := by
  unfold j_cap
  split <;> split <;> omega
theorem j_B_c {G : zG} {Mw : zM} {sb vb c n : Nat} (h : j_B G Mw sb vb c n) : c ≤ n ∧ 16 ≤ n ∧ n ≤ 600 := by
  obtain ⟨ml, f, -, -, -, h⟩ := h
  exact h
/-- how many digits are written from the unit 10 ^ e down -/
def j_nd (v : Nat) : Nat → Nat
  | 0 => 1
  | e + 1 => (if 10 ^ (e + 1) ≤ v then 1 else 0) + j_nd v e
theorem j_nd_in (v : Nat) : ∀ e, 1 ≤ j_nd v e ∧ j_nd v e ≤ e + 1
  | 0 => ⟨Nat.le_refl _, Nat.le_refl _⟩
  | e + 1 => by
    have h := j_nd_in v e
    unfold j_nd
    split <;> omega
theorem j_nd_s1 {v e : Nat} (h : 10 ^ (e + 1) ≤ v) : j_nd v (e + 1) = 1 + j_nd v e := by
  show (if 10 ^ (e + 1) ≤ v then 1 else 0) + j_nd v e = _
  rw [if_pos h]
theorem j_nd_s0 {v e : Nat} (h : ¬ 10 ^ (e + 1) ≤ v) : j_nd v (e + 1) = j_nd v e := by
  show (if 10 ^ (e + 1) ≤ v then 1 else 0) + j_nd v e = _
  rw [if_neg h, Nat.zero_add]
theorem j_pw {e : Nat} (h : e ≤ 10) : 0 < 10 ^ e ∧ 10 ^ e ≤ 10000000000 := ⟨Nat.pow_pos (by decide), Nat.pow_le_pow_right (n := 10) (by decide) h⟩
theorem j_u0 {w : Nat} (h : 0 < w) (h2 : w ≤ 10000000000) : ¬ lg_cmp (lN w) 0 ≤ 0 := by
  rw [lg_cmp_le, Int64.le_iff_toInt_le, pk_lT (by omega)]
  show ¬ (w : Int) ≤ 0
  omega
theorem j_uz {w : Nat} (h : 0 < w) (h2 : w ≤ 10000000000) : ¬ lN w = 0 := by
  intro q
  have h1 := pk_lT (n := w) (by omega)
  rw [q] at h1
  have h3 : (0 : Int64).toInt = 0 := by decide
  omega
theorem j_u1 {w : Nat} (h : 1 < w) (h2 : w ≤ 10000000000) : ¬ lg_cmp (lN w) 1 = 0 := by
  rw [lg_cmp_eq]
  intro q
  have h1 := pk_lT (n := w) (by omega)
  rw [q] at h1
  have h3 : (1 : Int64).toInt = 1 := by decide
  omega
theorem j_uge {v w : Nat} (hv : v < 35000000000) (h2 : w ≤ 10000000000) : 0 ≤ lg_cmp (lN v) (lN w) ↔ w ≤ v := by
  rw [lg_cmp_ge, Int64.le_iff_toInt_le, pk_lT (by omega), pk_lT (by omega)]
  omega
theorem j_lq {a b : Nat} (ha : a < 2 ^ 62) (hb : b < 2 ^ 62) : lN a / lN b = lN (a / b) := by
  apply Int64.toInt_inj.mp
  have h1 : a / b ≤ a := Nat.div_le_self _ _
  generalize hz : a / b = z at h1 ⊢
  rw [Int64.toInt_div, pk_lT (by omega), pk_lT (by omega), pk_lT (by omega), ← Int.ofNat_tdiv, hz, Int.bmod_eq_of_le (by omega) (by omega)]
theorem j_pdiv {e : Nat} (h : e + 1 ≤ 10) : lN (10 ^ (e + 1)) / 10 = lN (10 ^ e) := by
  have h1 := j_pw h
  show lN (10 ^ (e + 1)) / lN 10 = _
  rw [j_lq (by omega) (by decide), Nat.pow_succ, Nat.mul_div_cancel _ (by decide)]
theorem j_ch {v w : Nat} (hv : v < 2 ^ 62) (hw : w < 2 ^ 62) : ((48 + (((lN v) / (lN w)) - ((lN v) / (lN w)) / 10 * 10).toInt32).toUInt32 % 65536).toInt32 ≤ 255 := by
  have h1 : v / w ≤ v := Nat.div_le_self _ _
  have e : (lN v) / (lN w) - (lN v) / (lN w) / 10 * 10 = lN (v / w % 10) := by
    show (lN v) / (lN w) - (lN v) / (lN w) / lN 10 * lN 10 = _
    rw [j_lq hv hw, j_lq (by omega) (by decide), lN_mul, lN_sub (by omega)]
    congr 1
    omega
  rw [e, lN_i, show (48 : Int32) = nI 48 from rfl, j_add]
  have h2 := sb_byte (48 + v / w % 10) (by omega)
  rw [h2.2.1]
  exact h2.2.2
theorem dX0_addNumber_0 : decode cX0_addNumber 0 = .ok (.ldc2_w 55, 3) := by decide +kernel
theorem dX0_addNumber_3 : decode cX0_addNumber 3 = .ok (.lstore_n 3, 1) := by decide +kernel
theorem dX0_addNumber_4 : decode cX0_addNumber 4 = .ok (.lload_n 3, 1) := by decide +kernel
theorem dX0_addNumber_5 : decode cX0_addNumber 5 = .ok (.lconst 0, 1) := by decide +kernel
theorem dX0_addNumber_6 : decode cX0_addNumber 6 = .ok (.lcmp, 1) := by decide +kernel
theorem dX0_addNumber_7 : decode cX0_addNumber 7 = .ok (.ifCond .le 44, 3) := by decide +kernel
theorem dX0_addNumber_10 : decode cX0_addNumber 10 = .ok (.lload_n 1, 1) := by decide +kernel
theorem dX0_addNumber_11 : decode cX0_addNumber 11 = .ok (.lload_n 3, 1) := by decide +kernel
theorem dX0_addNumber_12 : decode cX0_addNumber 12 = .ok (.lcmp, 1) := by decide +kernel
theorem dX0_addNumber_13 : decode cX0_addNumber 13 = .ok (.ifCond .ge 9, 3) := by decide +kernel
theorem dX0_addNumber_16 : decode cX0_addNumber 16 = .ok (.lload_n 3, 1) := by decide +kernel
theorem dX0_addNumber_17 : decode cX0_addNumber 17 = .ok (.lconst 1, 1) := by decide +kernel
theorem dX0_addNumber_18 : decode cX0_addNumber 18 = .ok (.lcmp, 1) := by decide +kernel
theorem dX0_addNumber_19 : decode cX0_addNumber 19 = .ok (.ifCond .ne 23, 3) := by decide +kernel
theorem dX0_addNumber_22 : decode cX0_addNumber 22 = .ok (.aload_n 0, 1) := by decide +kernel
theorem dX0_addNumber_23 : decode cX0_addNumber 23 = .ok (.getfield 10, 3) := by decide +kernel
theorem dX0_addNumber_26 : decode cX0_addNumber 26 = .ok (.bipush 48, 2) := by decide +kernel
theorem dX0_addNumber_28 : decode cX0_addNumber 28 = .ok (.lload_n 1, 1) := by decide +kernel
theorem dX0_addNumber_29 : decode cX0_addNumber 29 = .ok (.lload_n 3, 1) := by decide +kernel
theorem dX0_addNumber_30 : decode cX0_addNumber 30 = .ok (.ldiv, 1) := by decide +kernel
theorem dX0_addNumber_31 : decode cX0_addNumber 31 = .ok (.ldc2_w 57, 3) := by decide +kernel
theorem dX0_addNumber_34 : decode cX0_addNumber 34 = .ok (.lrem, 1) := by decide +kernel
theorem dX0_addNumber_35 : decode cX0_addNumber 35 = .ok (.l2i, 1) := by decide +kernel
theorem dX0_addNumber_36 : decode cX0_addNumber 36 = .ok (.iadd, 1) := by decide +kernel
theorem dX0_addNumber_37 : decode cX0_addNumber 37 = .ok (.i2c, 1) := by decide +kernel
theorem dX0_addNumber_38 : decode cX0_addNumber 38 = .ok (.invokevirtual 41, 3) := by decide +kernel
theorem dX0_addNumber_41 : decode cX0_addNumber 41 = .ok (.pop, 1) := by decide +kernel
theorem dX0_addNumber_42 : decode cX0_addNumber 42 = .ok (.lload_n 3, 1) := by decide +kernel
theorem dX0_addNumber_43 : decode cX0_addNumber 43 = .ok (.ldc2_w 57, 3) := by decide +kernel
theorem dX0_addNumber_46 : decode cX0_addNumber 46 = .ok (.ldiv, 1) := by decide +kernel
theorem dX0_addNumber_47 : decode cX0_addNumber 47 = .ok (.lstore_n 3, 1) := by decide +kernel
theorem dX0_addNumber_48 : decode cX0_addNumber 48 = .ok (.goto (-44), 3) := by decide +kernel
theorem dX0_addNumber_51 : decode cX0_addNumber 51 = .ok (.return_, 1) := by decide +kernel
theorem dX0_addSigns_0 : decode cX0_addSigns 0 = .ok (.aload_n 1, 1) := by decide +kernel
theorem dX0_addSigns_1 : decode cX0_addSigns 1 = .ok (.getfield 52, 3) := by decide +kernel
theorem dX0_addSigns_4 : decode cX0_addSigns 4 = .ok (.iload_n 2, 1) := by decide +kernel
theorem dX0_addSigns_5 : decode cX0_addSigns 5 = .ok (.if_icmp .ne 13, 3) := by decide +kernel
theorem dX0_addSigns_8 : decode cX0_addSigns 8 = .ok (.aload_n 0, 1) := by decide +kernel
theorem dX0_addSigns_9 : decode cX0_addSigns 9 = .ok (.getfield 10, 3) := by decide +kernel
theorem dX0_addSigns_12 : decode cX0_addSigns 12 = .ok (.bipush 124, 2) := by decide +kernel
theorem dX0_addSigns_14 : decode cX0_addSigns 14 = .ok (.invokevirtual 41, 3) := by decide +kernel
theorem dX0_addSigns_17 : decode cX0_addSigns 17 = .ok (.pop, 1) := by decide +kernel
theorem dX0_addSigns_18 : decode cX0_addSigns 18 = .ok (.aload_n 1, 1) := by decide +kernel
theorem dX0_addSigns_19 : decode cX0_addSigns 19 = .ok (.getfield 24, 3) := by decide +kernel
theorem dX0_addSigns_22 : decode cX0_addSigns 22 = .ok (.iload_n 2, 1) := by decide +kernel
theorem dX0_addSigns_23 : decode cX0_addSigns 23 = .ok (.if_icmp .ne 13, 3) := by decide +kernel
theorem dX0_addSigns_26 : decode cX0_addSigns 26 = .ok (.aload_n 0, 1) := by decide +kernel
theorem dX0_addSigns_27 : decode cX0_addSigns 27 = .ok (.getfield 10, 3) := by decide +kernel
theorem dX0_addSigns_30 : decode cX0_addSigns 30 = .ok (.bipush 62, 2) := by decide +kernel
theorem dX0_addSigns_32 : decode cX0_addSigns 32 = .ok (.invokevirtual 41, 3) := by decide +kernel
theorem dX0_addSigns_35 : decode cX0_addSigns 35 = .ok (.pop, 1) := by decide +kernel
theorem dX0_addSigns_36 : decode cX0_addSigns 36 = .ok (.aload_n 1, 1) := by decide +kernel
theorem dX0_addSigns_37 : decode cX0_addSigns 37 = .ok (.getfield 30, 3) := by decide +kernel
theorem dX0_addSigns_40 : decode cX0_addSigns 40 = .ok (.iload_n 2, 1) := by decide +kernel
theorem dX0_addSigns_41 : decode cX0_addSigns 41 = .ok (.if_icmp .ne 13, 3) := by decide +kernel
theorem dX0_addSigns_44 : decode cX0_addSigns 44 = .ok (.aload_n 0, 1) := by decide +kernel
theorem dX0_addSigns_45 : decode cX0_addSigns 45 = .ok (.getfield 10, 3) := by decide +kernel
theorem dX0_addSigns_48 : decode cX0_addSigns 48 = .ok (.bipush 60, 2) := by decide +kernel
theorem dX0_addSigns_50 : decode cX0_addSigns 50 = .ok (.invokevirtual 41, 3) := by decide +kernel
theorem dX0_addSigns_53 : decode cX0_addSigns 53 = .ok (.pop, 1) := by decide +kernel
theorem dX0_addSigns_54 : decode cX0_addSigns 54 = .ok (.return_, 1) := by decide +kernel
set_option maxRecDepth 20000 in
theorem lp_X0_addN {X : zX} {rk rs : Nat} (C : z_C X cX0_addNumber RX0 5 (z_rm 8 rk rs)) {u : sS} {x : Nat} {P RA VA : Nat → Nat} {pa sp ln rf sb : Nat} {v pp o9 : Nat} {p9 : sP} (hv : v < 35000000000) {n0 cf nf : Nat} (hk9 : (nf - n0) / 16 ≤ rk) (hs9 : 2 * (nf - n0) ≤ rs) (hq9 : cf ≤ 280) (kk : ∀ Mz, CI (z_G X) u x P RA VA pa sp ln rf sb Mz → Mz pp = some (cPx o9 p9) → (∃ vb', j_B (z_G X) Mz sb vb' cf nf) → z_W X Mz (0 + (nf - n0) / 16) (0 + 2 * (nf - n0)) 51 [] []) : ∀ (e c n vb : Nat) (Mw : zM), e ≤ 10 → CI (z_G X) u x P RA VA pa sp ln rf sb Mw → Mw pp = some (cPx o9 p9) → j_B (z_G X) Mw sb vb c n → n0 ≤ n → c + j_nd v e = cf → j_cap n cf = nf → z_W X Mw (0 + (n - n0) / 16) (0 + 2 * (n - n0)) 4 [(3, .long (lN (10 ^ e))), (0, .ref ln), (1, .long (lN v))] [] := by
  intro e
  induction e with
  | zero =>
    intro c n vb Mw he hC hpp hB hn0 hcf hnf
    have hu := j_pw (e := 0) (by decide)
    refine z_lload_n C dX0_addNumber_4 rfl 0 rfl ?_
    refine z_lconst C (v := 0) dX0_addNumber_5 (by decide) ?_
    refine z_lcmp C dX0_addNumber_6 ?_
    refine z_if_le C (tgt := 51) dX0_addNumber_7 (by decide) (fun c7 => absurd c7 (j_u0 hu.1 hu.2)) (fun _ => ?_)
    refine z_lload_n C dX0_addNumber_10 rfl 2 rfl ?_
    refine z_lload_n C dX0_addNumber_11 rfl 0 rfl ?_
    refine z_lcmp C dX0_addNumber_12 ?_
    refine z_if_ge C (tgt := 22) dX0_addNumber_13 (by decide) (fun c13 => ?_) (fun c13 => ?_)
    · refine z_aload_n C dX0_addNumber_22 rfl 1 rfl ?_
      refine gf_X0_10 C (CI_ln hC) dX0_addNumber_23 ?_
      refine z_bipush C (v := 48) dX0_addNumber_26 (by decide) ?_
      refine z_lload_n C dX0_addNumber_28 rfl 2 rfl ?_
      refine z_lload_n C dX0_addNumber_29 rfl 0 rfl ?_
      refine z_ldiv C dX0_addNumber_30 (j_uz hu.1 hu.2) ?_
      refine z_ldc2 C (v := 10) kw557 dX0_addNumber_31 ?_
      refine z_lrem C dX0_addNumber_34 (by decide) ?_
      refine z_l2i C dX0_addNumber_35 ?_
      refine z_iadd C dX0_addNumber_36 ?_
      refine z_i2c C dX0_addNumber_37 ?_
      have hm1 := j_B_c hB
      have hm0 := j_B_c hB
      have hnd := j_nd_in v (0)
      have hj : j_cap n (c + 1) ≤ nf := by rw [← hnf]; exact j_cap_mono (by have h9 := (j_nd_in v (0)).1; omega)
      refine j_site (q := qJ4_append_cf468) (c := c) (n := n) (w := 1) (F := 3) (k0 := 0) (s0 := 0) (n0 := n0) (rest := []) C hB rfl (fun h9 => cs_X0_41 C h9) ⟨Nat.le_of_ble_eq_true rfl, Nat.le_of_ble_eq_true rfl⟩ (Nat.le_of_ble_eq_true rfl) (Nat.le_of_ble_eq_true rfl) (fun h9 => j_C_fit hB (j_ch (by omega) (by omega)) h9) (fun h9 => j_C_grow hB (j_ch (by omega) (by omega)) (by omega) h9) rfl rfl (Nat.le_of_ble_eq_true rfl) (by omega) (by show _ ≤ rk; omega) (by show _ ≤ rs; omega) dX0_addNumber_38 (fun vc1 Mc1 hB1 hF1 => ?_)
      have hC1 := CI_fr hC hB hB1 hF1
      have hn1 := j_cap_ge (n) (c + 1)
      have hp1 := j_keepP hB hF1 hpp
      refine z_pop C dX0_addNumber_41 rfl ?_
      refine z_lload_n C dX0_addNumber_42 rfl 0 rfl ?_
      refine z_ldc2 C (v := 10) kw557 dX0_addNumber_43 ?_
      refine z_ldiv C dX0_addNumber_46 (by decide) ?_
      rw [show (((lN (10 ^ 0)) / 10) : Int64) = (lN 0) from (by decide)]
      refine z_lstore_n (lv' := [(3, .long (lN 0)), (0, .ref ln), (1, .long (lN v))]) C dX0_addNumber_47 rfl (by decide) rfl ?_
      refine z_goto C (tgt := 4) dX0_addNumber_48 (by decide) ?_
      refine z_lload_n C dX0_addNumber_4 rfl 0 rfl ?_
      refine z_lconst C (v := 0) dX0_addNumber_5 (by decide) ?_
      refine z_lcmp C dX0_addNumber_6 ?_
      refine z_if_le C (tgt := 51) dX0_addNumber_7 (by decide) (fun _ => ?_) (fun c7 => absurd (by decide) c7)
      refine z_fewer [] rfl ?_
      have hx : (c + 1) = cf := hcf
      have hy : (j_cap n (c + 1)) = nf := by rw [hx]; exact hnf
      rw [hx, hnf] at hB1
      rw [hy]
      exact kk _ hC1 hp1 ⟨_, hB1⟩
    · refine z_lload_n C dX0_addNumber_16 rfl 0 rfl ?_
      refine z_lconst C (v := 1) dX0_addNumber_17 (by decide) ?_
      refine z_lcmp C dX0_addNumber_18 ?_
      refine z_if_ne C (tgt := 42) dX0_addNumber_19 (by decide) (fun c19 => absurd (by decide) c19) (fun _ => ?_)
      refine z_aload_n C dX0_addNumber_22 rfl 1 rfl ?_
      refine gf_X0_10 C (CI_ln hC) dX0_addNumber_23 ?_
      refine z_bipush C (v := 48) dX0_addNumber_26 (by decide) ?_
      refine z_lload_n C dX0_addNumber_28 rfl 2 rfl ?_
      refine z_lload_n C dX0_addNumber_29 rfl 0 rfl ?_
      refine z_ldiv C dX0_addNumber_30 (j_uz hu.1 hu.2) ?_
      refine z_ldc2 C (v := 10) kw557 dX0_addNumber_31 ?_
      refine z_lrem C dX0_addNumber_34 (by decide) ?_
      refine z_l2i C dX0_addNumber_35 ?_
      refine z_iadd C dX0_addNumber_36 ?_
      refine z_i2c C dX0_addNumber_37 ?_
      have hm1 := j_B_c hB
      have hm0 := j_B_c hB
      have hnd := j_nd_in v (0)
      have hj : j_cap n (c + 1) ≤ nf := by rw [← hnf]; exact j_cap_mono (by have h9 := (j_nd_in v (0)).1; omega)
      refine j_site (q := qJ4_append_cf468) (c := c) (n := n) (w := 1) (F := 3) (k0 := 0) (s0 := 0) (n0 := n0) (rest := []) C hB rfl (fun h9 => cs_X0_41 C h9) ⟨Nat.le_of_ble_eq_true rfl, Nat.le_of_ble_eq_true rfl⟩ (Nat.le_of_ble_eq_true rfl) (Nat.le_of_ble_eq_true rfl) (fun h9 => j_C_fit hB (j_ch (by omega) (by omega)) h9) (fun h9 => j_C_grow hB (j_ch (by omega) (by omega)) (by omega) h9) rfl rfl (Nat.le_of_ble_eq_true rfl) (by omega) (by show _ ≤ rk; omega) (by show _ ≤ rs; omega) dX0_addNumber_38 (fun vc1 Mc1 hB1 hF1 => ?_)
      have hC1 := CI_fr hC hB hB1 hF1
      have hn1 := j_cap_ge (n) (c + 1)
      have hp1 := j_keepP hB hF1 hpp
      refine z_pop C dX0_addNumber_41 rfl ?_
      refine z_lload_n C dX0_addNumber_42 rfl 0 rfl ?_
      refine z_ldc2 C (v := 10) kw557 dX0_addNumber_43 ?_
      refine z_ldiv C dX0_addNumber_46 (by decide) ?_
      rw [show (((lN (10 ^ 0)) / 10) : Int64) = (lN 0) from (by decide)]
      refine z_lstore_n (lv' := [(3, .long (lN 0)), (0, .ref ln), (1, .long (lN v))]) C dX0_addNumber_47 rfl (by decide) rfl ?_
      refine z_goto C (tgt := 4) dX0_addNumber_48 (by decide) ?_
      refine z_lload_n C dX0_addNumber_4 rfl 0 rfl ?_
      refine z_lconst C (v := 0) dX0_addNumber_5 (by decide) ?_
      refine z_lcmp C dX0_addNumber_6 ?_
      refine z_if_le C (tgt := 51) dX0_addNumber_7 (by decide) (fun _ => ?_) (fun c7 => absurd (by decide) c7)
      refine z_fewer [] rfl ?_
      have hx : (c + 1) = cf := hcf
      have hy : (j_cap n (c + 1)) = nf := by rw [hx]; exact hnf
      rw [hx, hnf] at hB1
      rw [hy]
      exact kk _ hC1 hp1 ⟨_, hB1⟩
  | succ e ih =>
    intro c n vb Mw he hC hpp hB hn0 hcf hnf
    have hu := j_pw (e := e + 1) he
    refine z_lload_n C dX0_addNumber_4 rfl 0 rfl ?_
    refine z_lconst C (v := 0) dX0_addNumber_5 (by decide) ?_
    refine z_lcmp C dX0_addNumber_6 ?_
    refine z_if_le C (tgt := 51) dX0_addNumber_7 (by decide) (fun c7 => absurd c7 (j_u0 hu.1 hu.2)) (fun _ => ?_)
    refine z_lload_n C dX0_addNumber_10 rfl 2 rfl ?_
    refine z_lload_n C dX0_addNumber_11 rfl 0 rfl ?_
    refine z_lcmp C dX0_addNumber_12 ?_
    refine z_if_ge C (tgt := 22) dX0_addNumber_13 (by decide) (fun c13 => ?_) (fun c13 => ?_)
    · refine z_aload_n C dX0_addNumber_22 rfl 1 rfl ?_
      refine gf_X0_10 C (CI_ln hC) dX0_addNumber_23 ?_
      refine z_bipush C (v := 48) dX0_addNumber_26 (by decide) ?_
      refine z_lload_n C dX0_addNumber_28 rfl 2 rfl ?_
      refine z_lload_n C dX0_addNumber_29 rfl 0 rfl ?_
      refine z_ldiv C dX0_addNumber_30 (j_uz hu.1 hu.2) ?_
      refine z_ldc2 C (v := 10) kw557 dX0_addNumber_31 ?_
      refine z_lrem C dX0_addNumber_34 (by decide) ?_
      refine z_l2i C dX0_addNumber_35 ?_
      refine z_iadd C dX0_addNumber_36 ?_
      refine z_i2c C dX0_addNumber_37 ?_
      have hm1 := j_B_c hB
      have hm0 := j_B_c hB
      have hnd := j_nd_in v ((e + 1))
      have hj : j_cap n (c + 1) ≤ nf := by rw [← hnf]; exact j_cap_mono (by have h9 := (j_nd_in v ((e + 1))).1; omega)
      refine j_site (q := qJ4_append_cf468) (c := c) (n := n) (w := 1) (F := 3) (k0 := 0) (s0 := 0) (n0 := n0) (rest := []) C hB rfl (fun h9 => cs_X0_41 C h9) ⟨Nat.le_of_ble_eq_true rfl, Nat.le_of_ble_eq_true rfl⟩ (Nat.le_of_ble_eq_true rfl) (Nat.le_of_ble_eq_true rfl) (fun h9 => j_C_fit hB (j_ch (by omega) (by omega)) h9) (fun h9 => j_C_grow hB (j_ch (by omega) (by omega)) (by omega) h9) rfl rfl (Nat.le_of_ble_eq_true rfl) (by omega) (by show _ ≤ rk; omega) (by show _ ≤ rs; omega) dX0_addNumber_38 (fun vc1 Mc1 hB1 hF1 => ?_)
      have hC1 := CI_fr hC hB hB1 hF1
      have hn1 := j_cap_ge (n) (c + 1)
      have hp1 := j_keepP hB hF1 hpp
      refine z_pop C dX0_addNumber_41 rfl ?_
      refine z_lload_n C dX0_addNumber_42 rfl 0 rfl ?_
      refine z_ldc2 C (v := 10) kw557 dX0_addNumber_43 ?_
      refine z_ldiv C dX0_addNumber_46 (by decide) ?_
      rw [show (((lN (10 ^ (e + 1))) / 10) : Int64) = (lN (10 ^ e)) from (j_pdiv (by omega))]
      refine z_lstore_n (lv' := [(3, .long (lN (10 ^ e))), (0, .ref ln), (1, .long (lN v))]) C dX0_addNumber_47 rfl (by decide) rfl ?_
      refine z_goto C (tgt := 4) dX0_addNumber_48 (by decide) ?_
      refine z_fewer [0, 1, 2] rfl ?_
      exact ih _ _ _ _ (by omega) hC1 hp1 hB1 (by omega) (by rw [← hcf, j_nd_s1 ((j_uge hv hu.2).mp c13)]; omega) (by rw [← hnf, ← hcf, j_nd_s1 ((j_uge hv hu.2).mp c13), ← Nat.add_assoc]; exact j_cap_cap hm0.1 (by have h9 := j_nd_in v e; omega))
    · refine z_lload_n C dX0_addNumber_16 rfl 0 rfl ?_
      refine z_lconst C (v := 1) dX0_addNumber_17 (by decide) ?_
      refine z_lcmp C dX0_addNumber_18 ?_
      refine z_if_ne C (tgt := 42) dX0_addNumber_19 (by decide) (fun _ => ?_) (fun c19 => absurd c19 (j_u1 (by have h9 := (j_pw (e := e) (by omega)).1; rw [Nat.pow_succ]; omega) hu.2))
      refine z_lload_n C dX0_addNumber_42 rfl 0 rfl ?_
      refine z_ldc2 C (v := 10) kw557 dX0_addNumber_43 ?_
      refine z_ldiv C dX0_addNumber_46 (by decide) ?_
      rw [show (((lN (10 ^ (e + 1))) / 10) : Int64) = (lN (10 ^ e)) from (j_pdiv (by omega))]
      refine z_lstore_n (lv' := [(3, .long (lN (10 ^ e))), (0, .ref ln), (1, .long (lN v))]) C dX0_addNumber_47 rfl (by decide) rfl ?_
      refine z_goto C (tgt := 4) dX0_addNumber_48 (by decide) ?_
      refine z_fewer [0, 1, 2] rfl ?_
      exact ih _ _ _ _ (by omega) hC hpp hB (by omega) (by rw [← hcf, j_nd_s0 (mt (j_uge hv hu.2).mpr c13)]) hnf
set_option maxRecDepth 20000 in
theorem a_X0_addNumber (l : Launch) {G : zG} {u : sS} {x : Nat} {P RA VA : Nat → Nat} {pa sp ln rf sb : Nat} {Mw : zM} (hC : CI G u x P RA VA pa sp ln rf sb Mw) {t : Nat} (hok : s_ok t u) {vb c n : Nat} (hB : j_B G Mw sb vb c n) {v pp o9 : Nat} {p9 : sP} (hpp : Mw pp = some (cPx o9 p9)) (hv : v < 35000000000) (hq9 : (c + j_nd v 10) ≤ 280) : z_Mv l G qX0_addNumber (z_rm 8 (((j_cap n (c + j_nd v 10)) - n) / 16) (2 * ((j_cap n (c + j_nd v 10)) - n))) [.ref ln, .long (lN v)] Mw (fun Mz => CI G u x P RA VA pa sp ln rf sb Mz ∧ Mz pp = some (cPx o9 p9) ∧ ∃ vb', j_B G Mz sb vb' (c + j_nd v 10) (j_cap n (c + j_nd v 10)))  := by
  refine z_Mv_of _ (plainFor_of_name rfl) rfl (Nat.le_of_ble_eq_true rfl) (fun X hl hG hnm C ret => ?_)
  subst hl; subst hG
  have C : z_C X cX0_addNumber RX0 5 (z_rm 8 (((j_cap n (c + j_nd v 10)) - n) / 16) (2 * ((j_cap n (c + j_nd v 10)) - n))) := C
  show z_W X Mw 0 0 0 [(0, .ref ln), (1, .long (lN v))] []
  refine z_ldc2 C (v := 10000000000) kw556 dX0_addNumber_0 ?_
  refine z_lstore_n (lv' := [(3, .long 10000000000), (0, .ref ln), (1, .long (lN v))]) C dX0_addNumber_3 rfl (by decide) rfl ?_
  refine z_fewer [0, 1, 2] rfl ?_
  refine z_at (M' := Mw) (lv' := [(3, .long (lN (10 ^ 10))), (0, .ref ln), (1, .long (lN v))]) rfl (by rw [show lN (10 ^ 10) = 10000000000 from by decide]; rfl) rfl ?_
  refine z_kn (k' := 0 + (n - n) / 16) (n' := 0 + 2 * (n - n)) (by simp) (by simp) ?_
  exact lp_X0_addN C hv (Nat.le_refl _) (Nat.le_refl _) hq9 (fun Mz h1 h0 h2 => ret dX0_addNumber_51 ⟨h1, h0, h2⟩ (Nat.le_of_eq (Nat.zero_add _)) (Nat.le_of_eq (Nat.zero_add _))) 10 c n vb Mw (Nat.le_refl _) hC hpp hB (Nat.le_refl _) rfl rfl
def j_sg (p : sP) (ix : Int32) : Nat := (if p_mk p = ix then 1 else 0) + (if p_po p = ix then 1 else 0) + (if p_li p = ix then 1 else 0)
theorem j_sg_in (p : sP) (ix : Int32) : j_sg p ix ≤ 3 := by
  unfold j_sg
  split <;> split <;> split <;> omega
set_option maxRecDepth 20000 in
theorem a_X0_addSigns (l : Launch) {G : zG} {u : sS} {x : Nat} {P RA VA : Nat → Nat} {pa sp ln rf sb : Nat} {Mw : zM} (hC : CI G u x P RA VA pa sp ln rf sb Mw) {t : Nat} (hok : s_ok t u) {vb c n : Nat} (hB : j_B G Mw sb vb c n) {i : Nat} (hi : i < 6) {ix : Int32} (hq9 : (c + (j_sg (s_pn u i) ix)) ≤ 280) : z_Mv l G qX0_addSigns (z_rm 8 (((j_cap n (c + (j_sg (s_pn u i) ix))) - n) / 16) (2 * ((j_cap n (c + (j_sg (s_pn u i) ix))) - n))) [.ref ln, .ref (P i), .int ix] Mw (fun Mz => CI G u x P RA VA pa sp ln rf sb Mz ∧ ∃ vb', j_B G Mz sb vb' (c + (j_sg (s_pn u i) ix)) (j_cap n (c + (j_sg (s_pn u i) ix))))  := by
  refine z_Mv_of _ (plainFor_of_name rfl) rfl (Nat.le_of_ble_eq_true rfl) (fun X hl hG hnm C ret => ?_)
  subst hl; subst hG
  have C : z_C X cX0_addSigns RX0 3 (z_rm 8 (((j_cap n (c + (j_sg (s_pn u i) ix))) - n) / 16) (2 * ((j_cap n (c + (j_sg (s_pn u i) ix))) - n))) := C
  show z_W X Mw 0 0 0 [(0, .ref ln), (1, .ref (P i)), (2, .int ix)] []
  have hm0 := j_B_c hB
  refine z_kn (k' := 0 + (n - n) / 16) (n' := 0 + 2 * (n - n)) (by simp) (by simp) ?_
  refine z_aload_n C dX0_addSigns_0 rfl 1 rfl ?_
  refine gf_X0_52 C (CI_P hC hi) dX0_addSigns_1 ?_
  refine z_iload_n C dX0_addSigns_4 rfl 2 rfl ?_
  refine z_icmp_ne C (tgt := 18) dX0_addSigns_5 (by decide) (fun c5 => ?_) (fun c5 => ?_)
  · refine z_aload_n C dX0_addSigns_18 rfl 1 rfl ?_
    refine gf_X0_24 C (CI_P hC hi) dX0_addSigns_19 ?_
    refine z_iload_n C dX0_addSigns_22 rfl 2 rfl ?_
    refine z_icmp_ne C (tgt := 36) dX0_addSigns_23 (by decide) (fun c23 => ?_) (fun c23 => ?_)
    · refine z_aload_n C dX0_addSigns_36 rfl 1 rfl ?_
      refine gf_X0_30 C (CI_P hC hi) dX0_addSigns_37 ?_
      refine z_iload_n C dX0_addSigns_40 rfl 2 rfl ?_
      refine z_icmp_ne C (tgt := 54) dX0_addSigns_41 (by decide) (fun c41 => ?_) (fun c41 => ?_)
      · have e9 : (j_sg (s_pn u i) ix) = 0 := by simp [j_sg, c5, c23, c41]
        refine ret dX0_addSigns_54 ?_ (by show _ ≤ ((j_cap n (c + (j_sg (s_pn u i) ix))) - n) / 16; rw [e9, Nat.add_zero, j_cap_fit hm0.1]; exact Nat.le_of_eq (Nat.zero_add _)) (by show _ ≤ 2 * ((j_cap n (c + (j_sg (s_pn u i) ix))) - n); rw [e9, Nat.add_zero, j_cap_fit hm0.1]; exact Nat.le_of_eq (Nat.zero_add _))
        rw [e9, Nat.add_zero, j_cap_fit hm0.1]
        exact ⟨hC, vb, hB⟩
      · refine z_aload_n C dX0_addSigns_44 rfl 0 rfl ?_
        refine gf_X0_10 C (CI_ln hC) dX0_addSigns_45 ?_
        refine z_bipush C (v := 60) dX0_addSigns_48 (by decide) ?_
        have f1 : 1 ≤ (j_sg (s_pn u i) ix) := by unfold j_sg; simp only [c5, c23, c41, if_true, if_false]; omega
        have u1 : j_cap n (c + 1) ≤ (j_cap n (c + (j_sg (s_pn u i) ix))) := by
          exact j_cap_mono (by omega)
        have hm1 := j_B_c hB
        refine j_site (q := qJ4_append_cf468) (c := c) (n := n) (w := 1) (F := 3) (k0 := 0) (s0 := 0) (n0 := n) (rest := []) C hB rfl (fun h9 => cs_X0_41 C h9) ⟨Nat.le_of_ble_eq_true rfl, Nat.le_of_ble_eq_true rfl⟩ (Nat.le_of_ble_eq_true rfl) (Nat.le_of_ble_eq_true rfl) (fun h9 => j_C_fit hB (by decide) h9) (fun h9 => j_C_grow hB (by decide) (by omega) h9) rfl rfl (Nat.le_of_ble_eq_true rfl) (by omega) (by show _ ≤ ((j_cap n (c + (j_sg (s_pn u i) ix))) - n) / 16; omega) (by show _ ≤ 2 * ((j_cap n (c + (j_sg (s_pn u i) ix))) - n); omega) dX0_addSigns_50 (fun vc1 Mc1 hB1 hF1 => ?_)
        have hC1 := CI_fr hC hB hB1 hF1
        have hn1 := j_cap_ge (n) (c + 1)
        refine z_pop C dX0_addSigns_53 rfl ?_
        have e9 : (j_sg (s_pn u i) ix) = 1 := by simp [j_sg, c5, c23, c41]
        refine ret dX0_addSigns_54 ?_ (by show _ ≤ ((j_cap n (c + (j_sg (s_pn u i) ix))) - n) / 16; rw [e9]; exact Nat.le_of_eq (Nat.zero_add _)) (by show _ ≤ 2 * ((j_cap n (c + (j_sg (s_pn u i) ix))) - n); rw [e9]; exact Nat.le_of_eq (Nat.zero_add _))
        rw [e9]
        exact ⟨hC1, _, hB1⟩
    · refine z_aload_n C dX0_addSigns_26 rfl 0 rfl ?_
      refine gf_X0_10 C (CI_ln hC) dX0_addSigns_27 ?_
      refine z_bipush C (v := 62) dX0_addSigns_30 (by decide) ?_
      have f1 : 1 ≤ (j_sg (s_pn u i) ix) := by unfold j_sg; simp only [c5, c23, if_true, if_false]; omega
      have u1 : j_cap n (c + 1) ≤ (j_cap n (c + (j_sg (s_pn u i) ix))) := by
        exact j_cap_mono (by omega)
      have hm1 := j_B_c hB
      refine j_site (q := qJ4_append_cf468) (c := c) (n := n) (w := 1) (F := 3) (k0 := 0) (s0 := 0) (n0 := n) (rest := []) C hB rfl (fun h9 => cs_X0_41 C h9) ⟨Nat.le_of_ble_eq_true rfl, Nat.le_of_ble_eq_true rfl⟩ (Nat.le_of_ble_eq_true rfl) (Nat.le_of_ble_eq_true rfl) (fun h9 => j_C_fit hB (by decide) h9) (fun h9 => j_C_grow hB (by decide) (by omega) h9) rfl rfl (Nat.le_of_ble_eq_true rfl) (by omega) (by show _ ≤ ((j_cap n (c + (j_sg (s_pn u i) ix))) - n) / 16; omega) (by show _ ≤ 2 * ((j_cap n (c + (j_sg (s_pn u i) ix))) - n); omega) dX0_addSigns_32 (fun vc1 Mc1 hB1 hF1 => ?_)
      have hC1 := CI_fr hC hB hB1 hF1
      have hn1 := j_cap_ge (n) (c + 1)
      refine z_pop C dX0_addSigns_35 rfl ?_
      refine z_aload_n C dX0_addSigns_36 rfl 1 rfl ?_
      refine gf_X0_30 C (CI_P hC1 hi) dX0_addSigns_37 ?_
      refine z_iload_n C dX0_addSigns_40 rfl 2 rfl ?_
      refine z_icmp_ne C (tgt := 54) dX0_addSigns_41 (by decide) (fun c41 => ?_) (fun c41 => ?_)
      · have e9 : (j_sg (s_pn u i) ix) = 1 := by simp [j_sg, c5, c23, c41]
        refine ret dX0_addSigns_54 ?_ (by show _ ≤ ((j_cap n (c + (j_sg (s_pn u i) ix))) - n) / 16; rw [e9]; exact Nat.le_of_eq (Nat.zero_add _)) (by show _ ≤ 2 * ((j_cap n (c + (j_sg (s_pn u i) ix))) - n); rw [e9]; exact Nat.le_of_eq (Nat.zero_add _))
        rw [e9]
        exact ⟨hC1, _, hB1⟩
      · refine z_aload_n C dX0_addSigns_44 rfl 0 rfl ?_
        refine gf_X0_10 C (CI_ln hC1) dX0_addSigns_45 ?_
        refine z_bipush C (v := 60) dX0_addSigns_48 (by decide) ?_
        have f2 : 2 ≤ (j_sg (s_pn u i) ix) := by unfold j_sg; simp only [c5, c23, c41, if_true, if_false]; omega
        have u2 : j_cap (j_cap n (c + 1)) ((c + 1) + 1) ≤ (j_cap n (c + (j_sg (s_pn u i) ix))) := by
          rw [j_cap_cap (d := 1) (e := 1) hm0.1 (by omega)]
          exact j_cap_mono (by omega)
        have hm2 := j_B_c hB1
        refine j_site (q := qJ4_append_cf468) (c := (c + 1)) (n := (j_cap n (c + 1))) (w := 1) (F := 3) (k0 := 0) (s0 := 0) (n0 := n) (rest := []) C hB1 rfl (fun h9 => cs_X0_41 C h9) ⟨Nat.le_of_ble_eq_true rfl, Nat.le_of_ble_eq_true rfl⟩ (Nat.le_of_ble_eq_true rfl) (Nat.le_of_ble_eq_true rfl) (fun h9 => j_C_fit hB1 (by decide) h9) (fun h9 => j_C_grow hB1 (by decide) (by omega) h9) rfl rfl (Nat.le_of_ble_eq_true rfl) (by omega) (by show _ ≤ ((j_cap n (c + (j_sg (s_pn u i) ix))) - n) / 16; omega) (by show _ ≤ 2 * ((j_cap n (c + (j_sg (s_pn u i) ix))) - n); omega) dX0_addSigns_50 (fun vc2 Mc2 hB2 hF2 => ?_)
        have hC2 := CI_fr hC1 hB1 hB2 hF2
        have hn2 := j_cap_ge ((j_cap n (c + 1))) ((c + 1) + 1)
        refine z_pop C dX0_addSigns_53 rfl ?_
        have e9 : (j_sg (s_pn u i) ix) = 2 := by simp [j_sg, c5, c23, c41]
        have n2 : j_cap (j_cap n (c + 1)) (c + 1 + 1) = j_cap n (c + 1 + 1) := j_cap_cap hm0.1 (by omega)
        rw [n2] at hB2 ⊢
        refine ret dX0_addSigns_54 ?_ (by show _ ≤ ((j_cap n (c + (j_sg (s_pn u i) ix))) - n) / 16; rw [e9]; exact Nat.le_of_eq (Nat.zero_add _)) (by show _ ≤ 2 * ((j_cap n (c + (j_sg (s_pn u i) ix))) - n); rw [e9]; exact Nat.le_of_eq (Nat.zero_add _))
        rw [e9]
        exact ⟨hC2, _, hB2⟩
  · refine z_aload_n C dX0_addSigns_8 rfl 0 rfl ?_
    refine gf_X0_10 C (CI_ln hC) dX0_addSigns_9 ?_
    refine z_bipush C (v := 124) dX0_addSigns_12 (by decide) ?_
    have f1 : 1 ≤ (j_sg (s_pn u i) ix) := by unfold j_sg; simp only [c5, if_true, if_false]; omega
    have u1 : j_cap n (c + 1) ≤ (j_cap n (c + (j_sg (s_pn u i) ix))) := by
      exact j_cap_mono (by omega)
    have hm1 := j_B_c hB
    refine j_site (q := qJ4_append_cf468) (c := c) (n := n) (w := 1) (F := 3) (k0 := 0) (s0 := 0) (n0 := n) (rest := []) C hB rfl (fun h9 => cs_X0_41 C h9) ⟨Nat.le_of_ble_eq_true rfl, Nat.le_of_ble_eq_true rfl⟩ (Nat.le_of_ble_eq_true rfl) (Nat.le_of_ble_eq_true rfl) (fun h9 => j_C_fit hB (by decide) h9) (fun h9 => j_C_grow hB (by decide) (by omega) h9) rfl rfl (Nat.le_of_ble_eq_true rfl) (by omega) (by show _ ≤ ((j_cap n (c + (j_sg (s_pn u i) ix))) - n) / 16; omega) (by show _ ≤ 2 * ((j_cap n (c + (j_sg (s_pn u i) ix))) - n); omega) dX0_addSigns_14 (fun vc1 Mc1 hB1 hF1 => ?_)
    have hC1 := CI_fr hC hB hB1 hF1
    have hn1 := j_cap_ge (n) (c + 1)
    refine z_pop C dX0_addSigns_17 rfl ?_
    refine z_aload_n C dX0_addSigns_18 rfl 1 rfl ?_
    refine gf_X0_24 C (CI_P hC1 hi) dX0_addSigns_19 ?_
    refine z_iload_n C dX0_addSigns_22 rfl 2 rfl ?_
    refine z_icmp_ne C (tgt := 36) dX0_addSigns_23 (by decide) (fun c23 => ?_) (fun c23 => ?_)
    · refine z_aload_n C dX0_addSigns_36 rfl 1 rfl ?_
      refine gf_X0_30 C (CI_P hC1 hi) dX0_addSigns_37 ?_
      refine z_iload_n C dX0_addSigns_40 rfl 2 rfl ?_
      refine z_icmp_ne C (tgt := 54) dX0_addSigns_41 (by decide) (fun c41 => ?_) (fun c41 => ?_)
      · have e9 : (j_sg (s_pn u i) ix) = 1 := by simp [j_sg, c5, c23, c41]
        refine ret dX0_addSigns_54 ?_ (by show _ ≤ ((j_cap n (c + (j_sg (s_pn u i) ix))) - n) / 16; rw [e9]; exact Nat.le_of_eq (Nat.zero_add _)) (by show _ ≤ 2 * ((j_cap n (c + (j_sg (s_pn u i) ix))) - n); rw [e9]; exact Nat.le_of_eq (Nat.zero_add _))
        rw [e9]
        exact ⟨hC1, _, hB1⟩
      · refine z_aload_n C dX0_addSigns_44 rfl 0 rfl ?_
        refine gf_X0_10 C (CI_ln hC1) dX0_addSigns_45 ?_
        refine z_bipush C (v := 60) dX0_addSigns_48 (by decide) ?_
        have f2 : 2 ≤ (j_sg (s_pn u i) ix) := by unfold j_sg; simp only [c5, c23, c41, if_true, if_false]; omega
        have u2 : j_cap (j_cap n (c + 1)) ((c + 1) + 1) ≤ (j_cap n (c + (j_sg (s_pn u i) ix))) := by
          rw [j_cap_cap (d := 1) (e := 1) hm0.1 (by omega)]
          exact j_cap_mono (by omega)
        have hm2 := j_B_c hB1
        refine j_site (q := qJ4_append_cf468) (c := (c + 1)) (n := (j_cap n (c + 1))) (w := 1) (F := 3) (k0 := 0) (s0 := 0) (n0 := n) (rest := []) C hB1 rfl (fun h9 => cs_X0_41 C h9) ⟨Nat.le_of_ble_eq_true rfl, Nat.le_of_ble_eq_true rfl⟩ (Nat.le_of_ble_eq_true rfl) (Nat.le_of_ble_eq_true rfl) (fun h9 => j_C_fit hB1 (by decide) h9) (fun h9 => j_C_grow hB1 (by decide) (by omega) h9) rfl rfl (Nat.le_of_ble_eq_true rfl) (by omega) (by show _ ≤ ((j_cap n (c + (j_sg (s_pn u i) ix))) - n) / 16; omega) (by show _ ≤ 2 * ((j_cap n (c + (j_sg (s_pn u i) ix))) - n); omega) dX0_addSigns_50 (fun vc2 Mc2 hB2 hF2 => ?_)
        have hC2 := CI_fr hC1 hB1 hB2 hF2
        have hn2 := j_cap_ge ((j_cap n (c + 1))) ((c + 1) + 1)
        refine z_pop C dX0_addSigns_53 rfl ?_
        have e9 : (j_sg (s_pn u i) ix) = 2 := by simp [j_sg, c5, c23, c41]
        have n2 : j_cap (j_cap n (c + 1)) (c + 1 + 1) = j_cap n (c + 1 + 1) := j_cap_cap hm0.1 (by omega)
        rw [n2] at hB2 ⊢
        refine ret dX0_addSigns_54 ?_ (by show _ ≤ ((j_cap n (c + (j_sg (s_pn u i) ix))) - n) / 16; rw [e9]; exact Nat.le_of_eq (Nat.zero_add _)) (by show _ ≤ 2 * ((j_cap n (c + (j_sg (s_pn u i) ix))) - n); rw [e9]; exact Nat.le_of_eq (Nat.zero_add _))
        rw [e9]
        exact ⟨hC2, _, hB2⟩
    · refine z_aload_n C dX0_addSigns_26 rfl 0 rfl ?_
      refine gf_X0_10 C (CI_ln hC1) dX0_addSigns_27 ?_
      refine z_bipush C (v := 62) dX0_addSigns_30 (by decide) ?_
      have f2 : 2 ≤ (j_sg (s_pn u i) ix) := by unfold j_sg; simp only [c5, c23, if_true, if_false]; omega
      have u2 : j_cap (j_cap n (c + 1)) ((c + 1) + 1) ≤ (j_cap n (c + (j_sg (s_pn u i) ix))) := by
        rw [j_cap_cap (d := 1) (e := 1) hm0.1 (by omega)]
        exact j_cap_mono (by omega)
      have hm2 := j_B_c hB1
      refine j_site (q := qJ4_append_cf468) (c := (c + 1)) (n := (j_cap n (c + 1))) (w := 1) (F := 3) (k0 := 0) (s0 := 0) (n0 := n) (rest := []) C hB1 rfl (fun h9 => cs_X0_41 C h9) ⟨Nat.le_of_ble_eq_true rfl, Nat.le_of_ble_eq_true rfl⟩ (Nat.le_of_ble_eq_true rfl) (Nat.le_of_ble_eq_true rfl) (fun h9 => j_C_fit hB1 (by decide) h9) (fun h9 => j_C_grow hB1 (by decide) (by omega) h9) rfl rfl (Nat.le_of_ble_eq_true rfl) (by omega) (by show _ ≤ ((j_cap n (c + (j_sg (s_pn u i) ix))) - n) / 16; omega) (by show _ ≤ 2 * ((j_cap n (c + (j_sg (s_pn u i) ix))) - n); omega) dX0_addSigns_32 (fun vc2 Mc2 hB2 hF2 => ?_)
      have hC2 := CI_fr hC1 hB1 hB2 hF2
      have hn2 := j_cap_ge ((j_cap n (c + 1))) ((c + 1) + 1)
      refine z_pop C dX0_addSigns_35 rfl ?_
      refine z_aload_n C dX0_addSigns_36 rfl 1 rfl ?_
      refine gf_X0_30 C (CI_P hC2 hi) dX0_addSigns_37 ?_
      refine z_iload_n C dX0_addSigns_40 rfl 2 rfl ?_
      refine z_icmp_ne C (tgt := 54) dX0_addSigns_41 (by decide) (fun c41 => ?_) (fun c41 => ?_)
      · have e9 : (j_sg (s_pn u i) ix) = 2 := by simp [j_sg, c5, c23, c41]
        have n2 : j_cap (j_cap n (c + 1)) (c + 1 + 1) = j_cap n (c + 1 + 1) := j_cap_cap hm0.1 (by omega)
        rw [n2] at hB2 ⊢
        refine ret dX0_addSigns_54 ?_ (by show _ ≤ ((j_cap n (c + (j_sg (s_pn u i) ix))) - n) / 16; rw [e9]; exact Nat.le_of_eq (Nat.zero_add _)) (by show _ ≤ 2 * ((j_cap n (c + (j_sg (s_pn u i) ix))) - n); rw [e9]; exact Nat.le_of_eq (Nat.zero_add _))
        rw [e9]
        exact ⟨hC2, _, hB2⟩
      · refine z_aload_n C dX0_addSigns_44 rfl 0 rfl ?_
        refine gf_X0_10 C (CI_ln hC2) dX0_addSigns_45 ?_
        refine z_bipush C (v := 60) dX0_addSigns_48 (by decide) ?_
        have f3 : 3 ≤ (j_sg (s_pn u i) ix) := by unfold j_sg; simp only [c5, c23, c41, if_true, if_false]; omega
        have u3 : j_cap (j_cap (j_cap n (c + 1)) ((c + 1) + 1)) (((c + 1) + 1) + 1) ≤ (j_cap n (c + (j_sg (s_pn u i) ix))) := by
          rw [j_cap_cap (d := 1) (e := 1) hm0.1 (by omega)]
          rw [show j_cap (j_cap n (c + 1 + 1)) (c + 1 + 1 + 1) = j_cap n (c + 1 + 1 + 1) from j_cap_cap (d := 2) (e := 1) hm0.1 (by omega)]
          exact j_cap_mono (by omega)
        have hm3 := j_B_c hB2
        refine j_site (q := qJ4_append_cf468) (c := ((c + 1) + 1)) (n := (j_cap (j_cap n (c + 1)) ((c + 1) + 1))) (w := 1) (F := 3) (k0 := 0) (s0 := 0) (n0 := n) (rest := []) C hB2 rfl (fun h9 => cs_X0_41 C h9) ⟨Nat.le_of_ble_eq_true rfl, Nat.le_of_ble_eq_true rfl⟩ (Nat.le_of_ble_eq_true rfl) (Nat.le_of_ble_eq_true rfl) (fun h9 => j_C_fit hB2 (by decide) h9) (fun h9 => j_C_grow hB2 (by decide) (by omega) h9) rfl rfl (Nat.le_of_ble_eq_true rfl) (by omega) (by show _ ≤ ((j_cap n (c + (j_sg (s_pn u i) ix))) - n) / 16; omega) (by show _ ≤ 2 * ((j_cap n (c + (j_sg (s_pn u i) ix))) - n); omega) dX0_addSigns_50 (fun vc3 Mc3 hB3 hF3 => ?_)
        have hC3 := CI_fr hC2 hB2 hB3 hF3
        have hn3 := j_cap_ge ((j_cap (j_cap n (c + 1)) ((c + 1) + 1))) (((c + 1) + 1) + 1)
        refine z_pop C dX0_addSigns_53 rfl ?_
        have e9 : (j_sg (s_pn u i) ix) = 3 := by simp [j_sg, c5, c23, c41]
        have n2 : j_cap (j_cap n (c + 1)) (c + 1 + 1) = j_cap n (c + 1 + 1) := j_cap_cap hm0.1 (by omega)
        rw [n2] at hB3 ⊢
        have n3 : j_cap (j_cap n (c + 1 + 1)) (c + 1 + 1 + 1) = j_cap n (c + 1 + 1 + 1) := j_cap_cap (d := 2) (e := 1) hm0.1 (by omega)
        rw [n3] at hB3 ⊢
        refine ret dX0_addSigns_54 ?_ (by show _ ≤ ((j_cap n (c + (j_sg (s_pn u i) ix))) - n) / 16; rw [e9]; exact Nat.le_of_eq (Nat.zero_add _)) (by show _ ≤ 2 * ((j_cap n (c + (j_sg (s_pn u i) ix))) - n); rw [e9]; exact Nat.le_of_eq (Nat.zero_add _))
        rw [e9]
        exact ⟨hC3, _, hB3⟩
end
section
/-! PART 48: what the line writes: values, a whole pane, a total -/
section LT
variable {l : Launch} {G : zG} {Mw : zM} {sb vb c n : Nat}
theorem j_sbE (hB : j_B G Mw sb vb c n) : ∃ ml, Mw sb = some (cSb vb 0 ml (nI c)) := by
  obtain ⟨ml, f, h1, -⟩ := hB
  exact ⟨ml, h1⟩
theorem j_set0 (hB : j_B G Mw sb vb c n) : z_Mv l G qJ4_setLength_d00df (z_rm 3 0 0) [.ref sb, .int 0] Mw (fun Mz => j_B G Mz sb vb 0 n ∧ j_Fr Mw sb vb vb Mz) := by
  have hne := j_B_ne hB
  obtain ⟨ml, f, h1, h2, hf, g1, g2, g3⟩ := hB
  refine z_Mv_mono (c_J4_setLength_d00df l G h1 h2 g1 (by omega)) ?_
  rintro Mz ⟨ml9, rfl⟩
  exact ⟨⟨ml9, f, z_up_s _ _ _, by rw [z_up_n _ _ hne.symm]; exact h2, hf, Nat.zero_le _, g2, g3⟩, Or.inl rfl, fun a e ha n1 _ => by rw [z_up_n _ _ n1]; exact ha⟩
end LT
theorem j_i2l {x : Int32} (h : 0 ≤ x.toInt) : x.toInt64 = lN x.toNatClampNeg := by
  have h1 := fb_rng x
  have h2 : ((x.toNatClampNeg : Nat) : Int) = x.toInt := z_cl (z_le.mpr (by rw [z_t0]; exact h))
  apply Int64.toInt_inj.mp
  rw [Int32.toInt_toInt64, pk_lT (by omega), h2]
theorem j_v31 (x : Int32) : x.toNatClampNeg < 2 ^ 31 := by
  have h1 := fb_rng x
  show x.toInt.toNat < 2 ^ 31
  omega
theorem j_v35 (x : Int32) : x.toNatClampNeg < 35000000000 := Nat.lt_trans (j_v31 x) (by decide)
theorem s_lnb {t : Nat} {u : sS} (hok : s_ok t u) (r : Nat) : s_ln u r ≤ 16 := by
  by_cases h : r = 0
  · subst h; rw [hok.2.2.1]
    exact Nat.le_refl _
  · have := hok.2.2.2.1 r (by omega)
    omega
theorem s_lnc {t : Nat} {u : sS} (hok : s_ok t u) (r : Nat) : s_ln u r < 100000 := by
  have := s_lnb hok r
  omega
theorem dX0_beginValues_0 : decode cX0_beginValues 0 = .ok (.aload_n 0, 1) := by decide +kernel
theorem dX0_beginValues_1 : decode cX0_beginValues 1 = .ok (.getfield 10, 3) := by decide +kernel
theorem dX0_beginValues_4 : decode cX0_beginValues 4 = .ok (.iconst 0, 1) := by decide +kernel
theorem dX0_beginValues_5 : decode cX0_beginValues 5 = .ok (.invokevirtual 20, 3) := by decide +kernel
theorem dX0_beginValues_8 : decode cX0_beginValues 8 = .ok (.iload_n 2, 1) := by decide +kernel
theorem dX0_beginValues_9 : decode cX0_beginValues 9 = .ok (.istore 4, 2) := by decide +kernel
theorem dX0_beginValues_11 : decode cX0_beginValues 11 = .ok (.iload 4, 2) := by decide +kernel
theorem dX0_beginValues_13 : decode cX0_beginValues 13 = .ok (.iload_n 3, 1) := by decide +kernel
theorem dX0_beginValues_14 : decode cX0_beginValues 14 = .ok (.if_icmp .ge 36, 3) := by decide +kernel
theorem dX0_beginValues_17 : decode cX0_beginValues 17 = .ok (.iload 4, 2) := by decide +kernel
theorem dX0_beginValues_19 : decode cX0_beginValues 19 = .ok (.iload_n 2, 1) := by decide +kernel
theorem dX0_beginValues_20 : decode cX0_beginValues 20 = .ok (.if_icmp .le 13, 3) := by decide +kernel
theorem dX0_beginValues_23 : decode cX0_beginValues 23 = .ok (.aload_n 0, 1) := by decide +kernel
theorem dX0_beginValues_24 : decode cX0_beginValues 24 = .ok (.getfield 10, 3) := by decide +kernel
theorem dX0_beginValues_27 : decode cX0_beginValues 27 = .ok (.bipush 32, 2) := by decide +kernel
theorem dX0_beginValues_29 : decode cX0_beginValues 29 = .ok (.invokevirtual 41, 3) := by decide +kernel
theorem dX0_beginValues_32 : decode cX0_beginValues 32 = .ok (.pop, 1) := by decide +kernel
theorem dX0_beginValues_33 : decode cX0_beginValues 33 = .ok (.aload_n 0, 1) := by decide +kernel
theorem dX0_beginValues_34 : decode cX0_beginValues 34 = .ok (.aload_n 1, 1) := by decide +kernel
theorem dX0_beginValues_35 : decode cX0_beginValues 35 = .ok (.iload 4, 2) := by decide +kernel
theorem dX0_beginValues_37 : decode cX0_beginValues 37 = .ok (.invokevirtual 33, 3) := by decide +kernel
theorem dX0_beginValues_40 : decode cX0_beginValues 40 = .ok (.i2l, 1) := by decide +kernel
theorem dX0_beginValues_41 : decode cX0_beginValues 41 = .ok (.invokevirtual 37, 3) := by decide +kernel
theorem dX0_beginValues_44 : decode cX0_beginValues 44 = .ok (.iinc 4 1, 3) := by decide +kernel
theorem dX0_beginValues_47 : decode cX0_beginValues 47 = .ok (.goto (-36), 3) := by decide +kernel
theorem dX0_beginValues_50 : decode cX0_beginValues 50 = .ok (.return_, 1) := by decide +kernel
set_option maxRecDepth 20000 in
theorem lp_X0_bv {X : zX} (C : z_C X cX0_beginValues RX0 5 (z_rm 10 36 1168)) {u : sS} {x : Nat} {P RA VA : Nat → Nat} {pa sp ln rf sb t : Nat} (hok : s_ok t u) {fq tq pp n0 : Nat} {p9 : sP} (hro : p_ro p9 < s_nr u) (hin : ∀ j, fq ≤ j → j < tq → vp_in (p_sa p9 + nI j) (s_ln u (p_ro p9))) (hft : tq ≤ fq + 16) (htq : tq ≤ 100) (hn16 : 16 ≤ n0) (kk : ∀ c n vb Mz, c ≤ 192 → n0 ≤ n → CI (z_G X) u x P RA VA pa sp ln rf sb Mz → j_B (z_G X) Mz sb vb c n → z_W X Mz (0 + (n - n0) / 16) (0 + 2 * (n - n0)) 50 [] []) : ∀ (d jx c n vb : Nat) (Mw : zM), jx + d = tq → fq ≤ jx → c ≤ 12 * (jx - fq) → CI (z_G X) u x P RA VA pa sp ln rf sb Mw → Mw pp = some (cPx (RA (p_ro p9)) p9) → j_B (z_G X) Mw sb vb c n → n0 ≤ n → z_W X Mw (0 + (n - n0) / 16) (0 + 2 * (n - n0)) 11 [(4, .int (nI jx)), (0, .ref ln), (1, .ref pp), (2, .int (nI fq)), (3, .int (nI tq))] [] := by
  intro d
  induction d with
  | zero =>
    intro jx c n vb Mw hd hj hc9 hC hpp hB hn0
    have hb0 := j_B_c hB
    refine z_iload C dX0_beginValues_11 0 rfl ?_
    refine z_iload_n C dX0_beginValues_13 rfl 4 rfl ?_
    refine z_icmp_ge C (tgt := 50) dX0_beginValues_14 (by decide) (fun _ => ?_) (fun c14 => absurd (nI_le (by omega) (by omega)) c14)
    refine z_fewer [] rfl ?_
    exact kk _ _ _ _ (by omega) (by omega) hC hB
  | succ d ih =>
    intro jx c n vb Mw hd hj hc9 hC hpp hB hn0
    have hb0 := j_B_c hB
    refine z_iload C dX0_beginValues_11 0 rfl ?_
    refine z_iload_n C dX0_beginValues_13 rfl 4 rfl ?_
    refine z_icmp_ge C (tgt := 50) dX0_beginValues_14 (by decide) (fun c14 => absurd c14 (nI_ge (by omega) (by omega))) (fun _ => ?_)
    refine z_iload C dX0_beginValues_17 0 rfl ?_
    refine z_iload_n C dX0_beginValues_19 rfl 3 rfl ?_
    refine z_icmp_le C (tgt := 33) dX0_beginValues_20 (by decide) (fun c20 => ?_) (fun c20 => ?_)
    · refine z_aload_n C dX0_beginValues_33 rfl 1 rfl ?_
      refine z_aload_n C dX0_beginValues_34 rfl 2 rfl ?_
      refine z_iload C dX0_beginValues_35 0 rfl ?_
      refine z_callVi (rest := [.ref ln]) (k' := 0 + (n - n0) / 16) (n' := 0 + 2 * (n - n0)) C (c_X1_valueAt (z_l X) (z_G X) hpp (CI_RA hC hro) (CI_VA hC hro) (hin jx (by omega) (by omega)) (s_lnc hok _)) (cs_X0_33 C ⟨Nat.le_of_ble_eq_true rfl, Nat.le_of_ble_eq_true rfl⟩) hpp rfl rfl rfl rfl (Nat.le_of_ble_eq_true rfl) rfl rfl (by show _ ≤ 36; omega) (by show _ ≤ 1168; omega) dX0_beginValues_37 (fun x37 Mq37 hq => ?_)
      obtain ⟨e37, rfl⟩ := hq
      rw [e37]
      refine z_i2l C dX0_beginValues_40 ?_
      rw [show (((s_vl u (p_ro p9) (p_sa p9 + nI jx).toNatClampNeg).toInt64) : Int64) = (lN (s_vl u (p_ro p9) (p_sa p9 + nI jx).toNatClampNeg).toNatClampNeg) from (j_i2l (hok.2.2.2.2.2 _ _))]
      have hd41 := j_nd_in ((s_vl u (p_ro p9) (p_sa p9 + nI jx).toNatClampNeg).toNatClampNeg) 10
      have hb41 := j_B_c hB
      have hg41 := j_cap_ge n (c + j_nd ((s_vl u (p_ro p9) (p_sa p9 + nI jx).toNatClampNeg).toNatClampNeg) 10)
      have hl41 : (j_cap n (c + j_nd ((s_vl u (p_ro p9) (p_sa p9 + nI jx).toNatClampNeg).toNatClampNeg) 10)) ≤ 600 := j_cap_le hb41.2.2 (by omega)
      refine z_callVv (rest := []) (k' := 0 + (n - n0) / 16 + (((j_cap n (c + j_nd ((s_vl u (p_ro p9) (p_sa p9 + nI jx).toNatClampNeg).toNatClampNeg) 10)) - n) / 16)) (n' := 0 + 2 * (n - n0) + (2 * ((j_cap n (c + j_nd ((s_vl u (p_ro p9) (p_sa p9 + nI jx).toNatClampNeg).toNatClampNeg) 10)) - n))) C (a_X0_addNumber (z_l X) hC hok hB hpp (j_v35 _) (by omega)) (cs_X0_37 C ⟨Nat.le_of_ble_eq_true rfl, Nat.le_of_ble_eq_true rfl⟩) (CI_ln hC) rfl rfl rfl rfl (Nat.le_of_ble_eq_true rfl) rfl rfl (by show _ ≤ 36; omega) (by show _ ≤ 1168; omega) dX0_beginValues_41 (fun Mq41 hq => ?_)
      obtain ⟨hC41, hp41, vc41, hB41⟩ := hq
      refine z_widen (k' := 0 + ((j_cap n (c + j_nd ((s_vl u (p_ro p9) (p_sa p9 + nI jx).toNatClampNeg).toNatClampNeg) 10)) - n0) / 16) (n' := 0 + 2 * ((j_cap n (c + j_nd ((s_vl u (p_ro p9) (p_sa p9 + nI jx).toNatClampNeg).toNatClampNeg) 10)) - n0)) (by omega) (by omega) ?_
      refine z_iinc (v := nI (jx + 1)) (lv' := [(4, .int (nI (jx + 1))), (0, .ref ln), (1, .ref pp), (2, .int (nI fq)), (3, .int (nI tq))]) C dX0_beginValues_44 0 rfl (nI_1 jx) (by decide) rfl ?_
      refine z_goto C (tgt := 11) dX0_beginValues_47 (by decide) ?_
      refine z_fewer [0, 1, 2, 3, 4] rfl ?_
      exact ih (jx + 1) _ _ _ _ (by omega) (by omega) (by omega) hC41 hp41 hB41 (by omega)
    · refine z_aload_n C dX0_beginValues_23 rfl 1 rfl ?_
      refine gf_X0_10 C (CI_ln hC) dX0_beginValues_24 ?_
      refine z_bipush C (v := 32) dX0_beginValues_27 (by decide) ?_
      have hm1 := j_B_c hB
      have hl8 := j_cap_le (n := n) (q := c + 1) (j_B_c hB).2.2 (by omega)
      refine j_site (q := qJ4_append_cf468) (c := c) (n := n) (w := 1) (F := 3) (k0 := 0) (s0 := 0) (n0 := n0) (rest := []) C hB rfl (fun h9 => cs_X0_41 C h9) ⟨Nat.le_of_ble_eq_true rfl, Nat.le_of_ble_eq_true rfl⟩ (Nat.le_of_ble_eq_true rfl) (Nat.le_of_ble_eq_true rfl) (fun h9 => j_C_fit hB (by decide) h9) (fun h9 => j_C_grow hB (by decide) (by omega) h9) rfl rfl (Nat.le_of_ble_eq_true rfl) (by omega) (by show _ ≤ 36; omega) (by show _ ≤ 1168; omega) dX0_beginValues_29 (fun vc1 Mc1 hB1 hF1 => ?_)
      have hC1 := CI_fr hC hB hB1 hF1
      have hn1 := j_cap_ge (n) (c + 1)
      have hp1 := j_keepP hB hF1 hpp
      refine z_pop C dX0_beginValues_32 rfl ?_
      refine z_aload_n C dX0_beginValues_33 rfl 1 rfl ?_
      refine z_aload_n C dX0_beginValues_34 rfl 2 rfl ?_
      refine z_iload C dX0_beginValues_35 0 rfl ?_
      refine z_callVi (rest := [.ref ln]) (k' := 0 + (j_cap n (c + 1) - n0) / 16) (n' := 0 + 2 * (j_cap n (c + 1) - n0)) C (c_X1_valueAt (z_l X) (z_G X) hp1 (CI_RA hC1 hro) (CI_VA hC1 hro) (hin jx (by omega) (by omega)) (s_lnc hok _)) (cs_X0_33 C ⟨Nat.le_of_ble_eq_true rfl, Nat.le_of_ble_eq_true rfl⟩) hp1 rfl rfl rfl rfl (Nat.le_of_ble_eq_true rfl) rfl rfl (by show _ ≤ 36; omega) (by show _ ≤ 1168; omega) dX0_beginValues_37 (fun x37 Mq37 hq => ?_)
      obtain ⟨e37, rfl⟩ := hq
      rw [e37]
      refine z_i2l C dX0_beginValues_40 ?_
      rw [show (((s_vl u (p_ro p9) (p_sa p9 + nI jx).toNatClampNeg).toInt64) : Int64) = (lN (s_vl u (p_ro p9) (p_sa p9 + nI jx).toNatClampNeg).toNatClampNeg) from (j_i2l (hok.2.2.2.2.2 _ _))]
      have hd41 := j_nd_in ((s_vl u (p_ro p9) (p_sa p9 + nI jx).toNatClampNeg).toNatClampNeg) 10
      have hb41 := j_B_c hB1
      have hg41 := j_cap_ge (j_cap n (c + 1)) ((c + 1) + j_nd ((s_vl u (p_ro p9) (p_sa p9 + nI jx).toNatClampNeg).toNatClampNeg) 10)
      have hl41 : (j_cap (j_cap n (c + 1)) ((c + 1) + j_nd ((s_vl u (p_ro p9) (p_sa p9 + nI jx).toNatClampNeg).toNatClampNeg) 10)) ≤ 600 := j_cap_le hb41.2.2 (by omega)
      refine z_callVv (rest := []) (k' := 0 + (j_cap n (c + 1) - n0) / 16 + (((j_cap (j_cap n (c + 1)) ((c + 1) + j_nd ((s_vl u (p_ro p9) (p_sa p9 + nI jx).toNatClampNeg).toNatClampNeg) 10)) - (j_cap n (c + 1))) / 16)) (n' := 0 + 2 * (j_cap n (c + 1) - n0) + (2 * ((j_cap (j_cap n (c + 1)) ((c + 1) + j_nd ((s_vl u (p_ro p9) (p_sa p9 + nI jx).toNatClampNeg).toNatClampNeg) 10)) - (j_cap n (c + 1))))) C (a_X0_addNumber (z_l X) hC1 hok hB1 hp1 (j_v35 _) (by omega)) (cs_X0_37 C ⟨Nat.le_of_ble_eq_true rfl, Nat.le_of_ble_eq_true rfl⟩) (CI_ln hC1) rfl rfl rfl rfl (Nat.le_of_ble_eq_true rfl) rfl rfl (by show _ ≤ 36; omega) (by show _ ≤ 1168; omega) dX0_beginValues_41 (fun Mq41 hq => ?_)
      obtain ⟨hC41, hp41, vc41, hB41⟩ := hq
      refine z_widen (k' := 0 + ((j_cap (j_cap n (c + 1)) ((c + 1) + j_nd ((s_vl u (p_ro p9) (p_sa p9 + nI jx).toNatClampNeg).toNatClampNeg) 10)) - n0) / 16) (n' := 0 + 2 * ((j_cap (j_cap n (c + 1)) ((c + 1) + j_nd ((s_vl u (p_ro p9) (p_sa p9 + nI jx).toNatClampNeg).toNatClampNeg) 10)) - n0)) (by omega) (by omega) ?_
      refine z_iinc (v := nI (jx + 1)) (lv' := [(4, .int (nI (jx + 1))), (0, .ref ln), (1, .ref pp), (2, .int (nI fq)), (3, .int (nI tq))]) C dX0_beginValues_44 0 rfl (nI_1 jx) (by decide) rfl ?_
      refine z_goto C (tgt := 11) dX0_beginValues_47 (by decide) ?_
      refine z_fewer [0, 1, 2, 3, 4] rfl ?_
      exact ih (jx + 1) _ _ _ _ (by omega) (by omega) (by omega) hC41 hp41 hB41 (by omega)
set_option maxRecDepth 20000 in
theorem a_X0_beginValues (l : Launch) {G : zG} {u : sS} {x : Nat} {P RA VA : Nat → Nat} {pa sp ln rf sb : Nat} {Mw : zM} (hC : CI G u x P RA VA pa sp ln rf sb Mw) {t : Nat} (hok : s_ok t u) {vb c n : Nat} (hB : j_B G Mw sb vb c n) {fq tq pp : Nat} {p9 : sP} (hpp : Mw pp = some (cPx (RA (p_ro p9)) p9)) (hro : p_ro p9 < s_nr u) (hin : ∀ j, fq ≤ j → j < tq → vp_in (p_sa p9 + nI j) (s_ln u (p_ro p9))) (hft : tq ≤ fq + 16) (htq : tq ≤ 100) (hfq : fq ≤ tq) : z_Mv l G qX0_beginValues (z_rm 10 36 1168) [.ref ln, .ref pp, .int (nI fq), .int (nI tq)] Mw (fun Mz => CI G u x P RA VA pa sp ln rf sb Mz ∧ ∃ vb' c' n', c' ≤ 192 ∧ j_B G Mz sb vb' c' n')  := by
  obtain ⟨ml0, hsb0⟩ := j_sbE hB
  have hbn := j_B_c hB
  refine z_Mv_of _ (plainFor_of_name rfl) rfl (Nat.le_of_ble_eq_true rfl) (fun X hl hG hnm C ret => ?_)
  subst hl; subst hG
  have C : z_C X cX0_beginValues RX0 5 (z_rm 10 36 1168) := C
  show z_W X Mw 0 0 0 [(0, .ref ln), (1, .ref pp), (2, .int (nI fq)), (3, .int (nI tq))] []
  refine z_aload_n C dX0_beginValues_0 rfl 0 rfl ?_
  refine gf_X0_10 C (CI_ln hC) dX0_beginValues_1 ?_
  refine z_iconst C (v := 0) dX0_beginValues_4 (by decide) ?_
  refine z_callVv (rest := []) (k' := 0) (n' := 0) C (j_set0 (l := z_l X) hB) (cs_X0_20 C (by decide)) hsb0 rfl rfl rfl rfl (Nat.le_of_ble_eq_true rfl) rfl rfl (by decide) (by decide) dX0_beginValues_5 (fun Mq5 hq => ?_)
  obtain ⟨hB0, hF0⟩ := hq
  have hC0 := CI_fr hC hB hB0 hF0
  have hp0 := j_keepP hB hF0 hpp
  refine z_iload_n C dX0_beginValues_8 rfl 2 rfl ?_
  refine z_istore (lv' := [(4, .int (nI fq)), (0, .ref ln), (1, .ref pp), (2, .int (nI fq)), (3, .int (nI tq))]) C dX0_beginValues_9 (by decide) rfl ?_
  refine z_fewer [0, 1, 2, 3, 4] rfl ?_
  refine z_kn (k' := 0 + (n - n) / 16) (n' := 0 + 2 * (n - n)) (by simp) (by simp) ?_
  exact lp_X0_bv C hok hro hin hft htq hbn.2.1 (fun c1 n1 vb1 Mz hc1 hn1 h1 h2 => ret dX0_beginValues_50 ⟨h1, vb1, c1, n1, hc1, h2⟩ (by have h9 := j_B_c h2; show _ ≤ 36; omega) (by have h9 := j_B_c h2; show _ ≤ 1168; omega)) (tq - fq) fq 0 n vb _ (by omega) (Nat.le_refl _) (by omega) hC0 hp0 hB0 (Nat.le_refl _)
end
section
/-! PART 49: a whole pane, a total, the text itself -/
theorem z_cN {x : Int32} (h0 : 0 ≤ x.toInt) : x = nI x.toNatClampNeg ∧ (x.toNatClampNeg : Int) = x.toInt := by
  have h1 := fb_rng x
  have h2 : ((x.toNatClampNeg : Nat) : Int) = x.toInt := z_cl (z_le.mpr (by rw [z_t0]; exact h0))
  exact ⟨z_eqI.mpr (by rw [nI_toInt (by omega), h2]), h2⟩
theorem s_pq {t : Nat} {u : sS} (hok : s_ok t u) {i : Nat} (hi : i < 6) : ∃ po li cp : Nat, p_po (s_pn u i) = nI po ∧ p_li (s_pn u i) = nI li ∧ p_cp (s_pn u i) = nI cp ∧ po ≤ li ∧ li ≤ cp ∧ cp ≤ 16 := by
  obtain ⟨a1, a2, a3, a4, a5, a6, a7⟩ := s_ow hok hi
  have h1 := z_cN a2
  have h2 := z_cN (x := p_li (s_pn u i)) (by omega)
  have h3 := z_cN (x := p_cp (s_pn u i)) (by omega)
  exact ⟨_, _, _, h1.1, h2.1, h3.1, by omega, by omega, by omega⟩
theorem s_inJ {t : Nat} {u : sS} (hok : s_ok t u) {i : Nat} (hi : i < 6) {cp j : Nat} (hcp : p_cp (s_pn u i) = nI cp) (hj : j < cp) (h16 : cp ≤ 16) : vp_in (p_sa (s_pn u i) + nI j) (s_ln u (p_ro (s_pn u i))) :=
  z_owI (s_ow hok hi) (by rw [nI_T (by omega)]; omega) (by rw [hcp, nI_T (by omega), nI_T (by omega)]; omega)
theorem j_two9 {Mw : zM} {q0 q9 : Nat} {e e' : va_E} (h0 : Mw q0 = none) (h9 : z_up (z_up Mw q0 e) q0 e q9 = none) : Mw q9 = none ∧ z_up Mw q9 e' q0 = none := by
  have hne : q9 ≠ q0 := by
    intro q
    rw [q, z_up_s] at h9
    cases h9
  rw [z_up_n _ _ hne, z_up_n _ _ hne] at h9
  exact ⟨h9, by rw [z_up_n _ _ hne.symm]; exact h0⟩
theorem j_toStr (l : Launch) {G : zG} {u : sS} {x : Nat} {P RA VA : Nat → Nat} {pa sp ln rf sb : Nat} {Mw : zM} (hC : CI G u x P RA VA pa sp ln rf sb Mw) {vb c n : Nat} (hB : j_B G Mw sb vb c n) : z_Mr l G qJ4_toString_0e30d (z_rm 6 2 (4 + c)) [.ref sb] Mw (fun r Mz => CI G u x P RA VA pa sp ln rf sb Mz) := by
  obtain ⟨ml, f, h1, h2, hf, g1, g2, g3⟩ := hB
  refine z_Mr_mono (c_J4_toString_0e30d l G h1 h2 g1 (by omega) hf) ?_
  rintro r Mz ⟨f9, q0, hq0, q9, hq9, hf9, hr9, rfl⟩
  exact CI_junk (CI_junk hC (j_two9 (e' := aB G c f9) hq0 hq9).1) (j_two9 hq0 hq9).2
theorem dX0_beginWhole_0 : decode cX0_beginWhole 0 = .ok (.aload_n 0, 1) := by decide +kernel
theorem dX0_beginWhole_1 : decode cX0_beginWhole 1 = .ok (.getfield 10, 3) := by decide +kernel
theorem dX0_beginWhole_4 : decode cX0_beginWhole 4 = .ok (.iconst 0, 1) := by decide +kernel
theorem dX0_beginWhole_5 : decode cX0_beginWhole 5 = .ok (.invokevirtual 20, 3) := by decide +kernel
theorem dX0_beginWhole_8 : decode cX0_beginWhole 8 = .ok (.iconst 0, 1) := by decide +kernel
theorem dX0_beginWhole_9 : decode cX0_beginWhole 9 = .ok (.istore_n 2, 1) := by decide +kernel
theorem dX0_beginWhole_10 : decode cX0_beginWhole 10 = .ok (.iload_n 2, 1) := by decide +kernel
theorem dX0_beginWhole_11 : decode cX0_beginWhole 11 = .ok (.aload_n 1, 1) := by decide +kernel
theorem dX0_beginWhole_12 : decode cX0_beginWhole 12 = .ok (.getfield 45, 3) := by decide +kernel
theorem dX0_beginWhole_15 : decode cX0_beginWhole 15 = .ok (.if_icmp .ge 35, 3) := by decide +kernel
theorem dX0_beginWhole_18 : decode cX0_beginWhole 18 = .ok (.aload_n 0, 1) := by decide +kernel
theorem dX0_beginWhole_19 : decode cX0_beginWhole 19 = .ok (.aload_n 1, 1) := by decide +kernel
theorem dX0_beginWhole_20 : decode cX0_beginWhole 20 = .ok (.iload_n 2, 1) := by decide +kernel
theorem dX0_beginWhole_21 : decode cX0_beginWhole 21 = .ok (.invokevirtual 48, 3) := by decide +kernel
theorem dX0_beginWhole_24 : decode cX0_beginWhole 24 = .ok (.aload_n 0, 1) := by decide +kernel
theorem dX0_beginWhole_25 : decode cX0_beginWhole 25 = .ok (.aload_n 1, 1) := by decide +kernel
theorem dX0_beginWhole_26 : decode cX0_beginWhole 26 = .ok (.iload_n 2, 1) := by decide +kernel
theorem dX0_beginWhole_27 : decode cX0_beginWhole 27 = .ok (.invokevirtual 33, 3) := by decide +kernel
theorem dX0_beginWhole_30 : decode cX0_beginWhole 30 = .ok (.i2l, 1) := by decide +kernel
theorem dX0_beginWhole_31 : decode cX0_beginWhole 31 = .ok (.invokevirtual 37, 3) := by decide +kernel
theorem dX0_beginWhole_34 : decode cX0_beginWhole 34 = .ok (.aload_n 0, 1) := by decide +kernel
theorem dX0_beginWhole_35 : decode cX0_beginWhole 35 = .ok (.getfield 10, 3) := by decide +kernel
theorem dX0_beginWhole_38 : decode cX0_beginWhole 38 = .ok (.bipush 32, 2) := by decide +kernel
theorem dX0_beginWhole_40 : decode cX0_beginWhole 40 = .ok (.invokevirtual 41, 3) := by decide +kernel
theorem dX0_beginWhole_43 : decode cX0_beginWhole 43 = .ok (.pop, 1) := by decide +kernel
theorem dX0_beginWhole_44 : decode cX0_beginWhole 44 = .ok (.iinc 2 1, 3) := by decide +kernel
theorem dX0_beginWhole_47 : decode cX0_beginWhole 47 = .ok (.goto (-37), 3) := by decide +kernel
theorem dX0_beginWhole_50 : decode cX0_beginWhole 50 = .ok (.aload_n 0, 1) := by decide +kernel
theorem dX0_beginWhole_51 : decode cX0_beginWhole 51 = .ok (.aload_n 1, 1) := by decide +kernel
theorem dX0_beginWhole_52 : decode cX0_beginWhole 52 = .ok (.aload_n 1, 1) := by decide +kernel
theorem dX0_beginWhole_53 : decode cX0_beginWhole 53 = .ok (.getfield 45, 3) := by decide +kernel
theorem dX0_beginWhole_56 : decode cX0_beginWhole 56 = .ok (.invokevirtual 48, 3) := by decide +kernel
theorem dX0_beginWhole_59 : decode cX0_beginWhole 59 = .ok (.return_, 1) := by decide +kernel
theorem dX0_beginTotal_0 : decode cX0_beginTotal 0 = .ok (.aload_n 0, 1) := by decide +kernel
theorem dX0_beginTotal_1 : decode cX0_beginTotal 1 = .ok (.getfield 10, 3) := by decide +kernel
theorem dX0_beginTotal_4 : decode cX0_beginTotal 4 = .ok (.iconst 0, 1) := by decide +kernel
theorem dX0_beginTotal_5 : decode cX0_beginTotal 5 = .ok (.invokevirtual 20, 3) := by decide +kernel
theorem dX0_beginTotal_8 : decode cX0_beginTotal 8 = .ok (.lconst 0, 1) := by decide +kernel
theorem dX0_beginTotal_9 : decode cX0_beginTotal 9 = .ok (.lstore_n 2, 1) := by decide +kernel
theorem dX0_beginTotal_10 : decode cX0_beginTotal 10 = .ok (.aload_n 1, 1) := by decide +kernel
theorem dX0_beginTotal_11 : decode cX0_beginTotal 11 = .ok (.getfield 24, 3) := by decide +kernel
theorem dX0_beginTotal_14 : decode cX0_beginTotal 14 = .ok (.istore 4, 2) := by decide +kernel
theorem dX0_beginTotal_16 : decode cX0_beginTotal 16 = .ok (.iload 4, 2) := by decide +kernel
theorem dX0_beginTotal_18 : decode cX0_beginTotal 18 = .ok (.aload_n 1, 1) := by decide +kernel
theorem dX0_beginTotal_19 : decode cX0_beginTotal 19 = .ok (.getfield 30, 3) := by decide +kernel
theorem dX0_beginTotal_22 : decode cX0_beginTotal 22 = .ok (.if_icmp .ge 19, 3) := by decide +kernel
theorem dX0_beginTotal_25 : decode cX0_beginTotal 25 = .ok (.lload_n 2, 1) := by decide +kernel
theorem dX0_beginTotal_26 : decode cX0_beginTotal 26 = .ok (.aload_n 1, 1) := by decide +kernel
theorem dX0_beginTotal_27 : decode cX0_beginTotal 27 = .ok (.iload 4, 2) := by decide +kernel
theorem dX0_beginTotal_29 : decode cX0_beginTotal 29 = .ok (.invokevirtual 33, 3) := by decide +kernel
theorem dX0_beginTotal_32 : decode cX0_beginTotal 32 = .ok (.i2l, 1) := by decide +kernel
theorem dX0_beginTotal_33 : decode cX0_beginTotal 33 = .ok (.ladd, 1) := by decide +kernel
theorem dX0_beginTotal_34 : decode cX0_beginTotal 34 = .ok (.lstore_n 2, 1) := by decide +kernel
theorem dX0_beginTotal_35 : decode cX0_beginTotal 35 = .ok (.iinc 4 1, 3) := by decide +kernel
theorem dX0_beginTotal_38 : decode cX0_beginTotal 38 = .ok (.goto (-22), 3) := by decide +kernel
theorem dX0_beginTotal_41 : decode cX0_beginTotal 41 = .ok (.aload_n 0, 1) := by decide +kernel
theorem dX0_beginTotal_42 : decode cX0_beginTotal 42 = .ok (.lload_n 2, 1) := by decide +kernel
theorem dX0_beginTotal_43 : decode cX0_beginTotal 43 = .ok (.invokevirtual 37, 3) := by decide +kernel
theorem dX0_beginTotal_46 : decode cX0_beginTotal 46 = .ok (.return_, 1) := by decide +kernel
theorem dX0_written_0 : decode cX0_written 0 = .ok (.aload_n 0, 1) := by decide +kernel
theorem dX0_written_1 : decode cX0_written 1 = .ok (.getfield 10, 3) := by decide +kernel
theorem dX0_written_4 : decode cX0_written 4 = .ok (.invokevirtual 16, 3) := by decide +kernel
theorem dX0_written_7 : decode cX0_written 7 = .ok (.areturn, 1) := by decide +kernel
set_option maxRecDepth 20000 in
theorem lp_X0_bw {X : zX} (C : z_C X cX0_beginWhole RX0 3 (z_rm 10 36 1168)) {u : sS} {x : Nat} {P RA VA : Nat → Nat} {pa sp ln rf sb t : Nat} (hok : s_ok t u) {i cq n0 : Nat} (hi : i < 6) (hcp : p_cp (s_pn u i) = nI cq) (h16 : cq ≤ 16) (hn16 : 16 ≤ n0) (kk : ∀ c n vb Mz, c ≤ 240 → n0 ≤ n → CI (z_G X) u x P RA VA pa sp ln rf sb Mz → j_B (z_G X) Mz sb vb c n → z_W X Mz (0 + (n - n0) / 16) (0 + 2 * (n - n0)) 50 [(0, .ref ln), (1, .ref (P i))] []) : ∀ (d jx c n vb : Nat) (Mw : zM), jx + d = cq → c ≤ 15 * jx → CI (z_G X) u x P RA VA pa sp ln rf sb Mw → j_B (z_G X) Mw sb vb c n → n0 ≤ n → z_W X Mw (0 + (n - n0) / 16) (0 + 2 * (n - n0)) 10 [(2, .int (nI jx)), (0, .ref ln), (1, .ref (P i))] [] := by
  intro d
  induction d with
  | zero =>
    intro jx c n vb Mw hd hc9 hC hB hn0
    have hb0 := j_B_c hB
    refine z_iload_n C dX0_beginWhole_10 rfl 0 rfl ?_
    refine z_aload_n C dX0_beginWhole_11 rfl 2 rfl ?_
    refine gf_X0_45 C (CI_P hC hi) dX0_beginWhole_12 ?_
    refine z_icmp_ge C (tgt := 50) dX0_beginWhole_15 (by decide) (fun _ => ?_) (fun c15 => absurd (by rw [hcp]; exact nI_le (by omega) (by omega)) c15)
    refine z_fewer [1, 2] rfl ?_
    exact kk _ _ _ _ (by omega) (by omega) hC hB
  | succ d ih =>
    intro jx c n vb Mw hd hc9 hC hB hn0
    have hb0 := j_B_c hB
    refine z_iload_n C dX0_beginWhole_10 rfl 0 rfl ?_
    refine z_aload_n C dX0_beginWhole_11 rfl 2 rfl ?_
    refine gf_X0_45 C (CI_P hC hi) dX0_beginWhole_12 ?_
    refine z_icmp_ge C (tgt := 50) dX0_beginWhole_15 (by decide) (fun c15 => absurd c15 (by rw [hcp]; exact nI_ge (by omega) (by omega))) (fun _ => ?_)
    refine z_aload_n C dX0_beginWhole_18 rfl 1 rfl ?_
    refine z_aload_n C dX0_beginWhole_19 rfl 2 rfl ?_
    refine z_iload_n C dX0_beginWhole_20 rfl 0 rfl ?_
    have hd21 := j_sg_in (s_pn u i) (nI jx)
    have hb21 := j_B_c hB
    have hg21 := j_cap_ge n (c + (j_sg (s_pn u i) (nI jx)))
    have hl21 : (j_cap n (c + (j_sg (s_pn u i) (nI jx)))) ≤ 600 := j_cap_le hb21.2.2 (by omega)
    refine z_callVv (rest := []) (k' := 0 + (n - n0) / 16 + (((j_cap n (c + (j_sg (s_pn u i) (nI jx)))) - n) / 16)) (n' := 0 + 2 * (n - n0) + (2 * ((j_cap n (c + (j_sg (s_pn u i) (nI jx)))) - n))) C (a_X0_addSigns (z_l X) hC hok hB hi (ix := (nI jx)) (by omega)) (cs_X0_48 C ⟨Nat.le_of_ble_eq_true rfl, Nat.le_of_ble_eq_true rfl⟩) (CI_ln hC) rfl rfl rfl rfl (Nat.le_of_ble_eq_true rfl) rfl rfl (by show _ ≤ 36; omega) (by show _ ≤ 1168; omega) dX0_beginWhole_21 (fun Mq21 hq => ?_)
    obtain ⟨hC21, vc21, hB21⟩ := hq
    refine z_widen (k' := 0 + ((j_cap n (c + (j_sg (s_pn u i) (nI jx)))) - n0) / 16) (n' := 0 + 2 * ((j_cap n (c + (j_sg (s_pn u i) (nI jx)))) - n0)) (by omega) (by omega) ?_
    refine z_aload_n C dX0_beginWhole_24 rfl 1 rfl ?_
    refine z_aload_n C dX0_beginWhole_25 rfl 2 rfl ?_
    refine z_iload_n C dX0_beginWhole_26 rfl 0 rfl ?_
    refine z_callVi (rest := [.ref ln]) (k' := 0 + ((j_cap n (c + (j_sg (s_pn u i) (nI jx)))) - n0) / 16) (n' := 0 + 2 * ((j_cap n (c + (j_sg (s_pn u i) (nI jx)))) - n0)) C (a_X1_valueAt (z_l X) hC21 hok hi (s_inJ hok hi hcp (by omega) h16)) (cs_X0_33 C ⟨Nat.le_of_ble_eq_true rfl, Nat.le_of_ble_eq_true rfl⟩) (CI_P hC21 hi) rfl rfl rfl rfl (Nat.le_of_ble_eq_true rfl) rfl rfl (by show _ ≤ 36; omega) (by show _ ≤ 1168; omega) dX0_beginWhole_27 (fun x27 Mq27 hq => ?_)
    obtain ⟨e27, rfl⟩ := hq
    rw [e27]
    refine z_i2l C dX0_beginWhole_30 ?_
    rw [show (((s_val u (s_pn u i) (nI jx)).toInt64) : Int64) = (lN (s_val u (s_pn u i) (nI jx)).toNatClampNeg) from (j_i2l (hok.2.2.2.2.2 _ _))]
    have hd31 := j_nd_in ((s_val u (s_pn u i) (nI jx)).toNatClampNeg) 10
    have hb31 := j_B_c hB21
    have hg31 := j_cap_ge (j_cap n (c + (j_sg (s_pn u i) (nI jx)))) ((c + (j_sg (s_pn u i) (nI jx))) + j_nd ((s_val u (s_pn u i) (nI jx)).toNatClampNeg) 10)
    have hl31 : (j_cap (j_cap n (c + (j_sg (s_pn u i) (nI jx)))) ((c + (j_sg (s_pn u i) (nI jx))) + j_nd ((s_val u (s_pn u i) (nI jx)).toNatClampNeg) 10)) ≤ 600 := j_cap_le hb31.2.2 (by omega)
    refine z_callVv (rest := []) (k' := 0 + ((j_cap n (c + (j_sg (s_pn u i) (nI jx)))) - n0) / 16 + (((j_cap (j_cap n (c + (j_sg (s_pn u i) (nI jx)))) ((c + (j_sg (s_pn u i) (nI jx))) + j_nd ((s_val u (s_pn u i) (nI jx)).toNatClampNeg) 10)) - (j_cap n (c + (j_sg (s_pn u i) (nI jx))))) / 16)) (n' := 0 + 2 * ((j_cap n (c + (j_sg (s_pn u i) (nI jx)))) - n0) + (2 * ((j_cap (j_cap n (c + (j_sg (s_pn u i) (nI jx)))) ((c + (j_sg (s_pn u i) (nI jx))) + j_nd ((s_val u (s_pn u i) (nI jx)).toNatClampNeg) 10)) - (j_cap n (c + (j_sg (s_pn u i) (nI jx))))))) C (a_X0_addNumber (z_l X) hC21 hok hB21 (CI_P hC21 hi) (j_v35 _) (by omega)) (cs_X0_37 C ⟨Nat.le_of_ble_eq_true rfl, Nat.le_of_ble_eq_true rfl⟩) (CI_ln hC21) rfl rfl rfl rfl (Nat.le_of_ble_eq_true rfl) rfl rfl (by show _ ≤ 36; omega) (by show _ ≤ 1168; omega) dX0_beginWhole_31 (fun Mq31 hq => ?_)
    obtain ⟨hC31, hp31, vc31, hB31⟩ := hq
    refine z_widen (k' := 0 + ((j_cap (j_cap n (c + (j_sg (s_pn u i) (nI jx)))) ((c + (j_sg (s_pn u i) (nI jx))) + j_nd ((s_val u (s_pn u i) (nI jx)).toNatClampNeg) 10)) - n0) / 16) (n' := 0 + 2 * ((j_cap (j_cap n (c + (j_sg (s_pn u i) (nI jx)))) ((c + (j_sg (s_pn u i) (nI jx))) + j_nd ((s_val u (s_pn u i) (nI jx)).toNatClampNeg) 10)) - n0)) (by omega) (by omega) ?_
    refine z_aload_n C dX0_beginWhole_34 rfl 1 rfl ?_
    refine gf_X0_10 C (CI_ln hC31) dX0_beginWhole_35 ?_
    refine z_bipush C (v := 32) dX0_beginWhole_38 (by decide) ?_
    have hm1 := j_B_c hB31
    have hl8 := j_cap_le (n := (j_cap (j_cap n (c + (j_sg (s_pn u i) (nI jx)))) ((c + (j_sg (s_pn u i) (nI jx))) + j_nd ((s_val u (s_pn u i) (nI jx)).toNatClampNeg) 10))) (q := ((c + (j_sg (s_pn u i) (nI jx))) + j_nd ((s_val u (s_pn u i) (nI jx)).toNatClampNeg) 10) + 1) (j_B_c hB31).2.2 (by omega)
    refine j_site (q := qJ4_append_cf468) (c := ((c + (j_sg (s_pn u i) (nI jx))) + j_nd ((s_val u (s_pn u i) (nI jx)).toNatClampNeg) 10)) (n := (j_cap (j_cap n (c + (j_sg (s_pn u i) (nI jx)))) ((c + (j_sg (s_pn u i) (nI jx))) + j_nd ((s_val u (s_pn u i) (nI jx)).toNatClampNeg) 10))) (w := 1) (F := 3) (k0 := 0) (s0 := 0) (n0 := n0) (rest := []) C hB31 rfl (fun h9 => cs_X0_41 C h9) ⟨Nat.le_of_ble_eq_true rfl, Nat.le_of_ble_eq_true rfl⟩ (Nat.le_of_ble_eq_true rfl) (Nat.le_of_ble_eq_true rfl) (fun h9 => j_C_fit hB31 (by decide) h9) (fun h9 => j_C_grow hB31 (by decide) (by omega) h9) rfl rfl (Nat.le_of_ble_eq_true rfl) (by omega) (by show _ ≤ 36; omega) (by show _ ≤ 1168; omega) dX0_beginWhole_40 (fun vc1 Mc1 hB1 hF1 => ?_)
    have hC1 := CI_fr hC31 hB31 hB1 hF1
    have hn1 := j_cap_ge ((j_cap (j_cap n (c + (j_sg (s_pn u i) (nI jx)))) ((c + (j_sg (s_pn u i) (nI jx))) + j_nd ((s_val u (s_pn u i) (nI jx)).toNatClampNeg) 10))) (((c + (j_sg (s_pn u i) (nI jx))) + j_nd ((s_val u (s_pn u i) (nI jx)).toNatClampNeg) 10) + 1)
    have hp1 := j_keepP hB31 hF1 hp31
    refine z_pop C dX0_beginWhole_43 rfl ?_
    refine z_iinc (v := nI (jx + 1)) (lv' := [(2, .int (nI (jx + 1))), (0, .ref ln), (1, .ref (P i))]) C dX0_beginWhole_44 0 rfl (nI_1 jx) (by decide) rfl ?_
    refine z_goto C (tgt := 10) dX0_beginWhole_47 (by decide) ?_
    refine z_fewer [0, 1, 2] rfl ?_
    exact ih (jx + 1) _ _ _ _ (by omega) (by omega) hC1 hB1 (by omega)
set_option maxRecDepth 20000 in
theorem a_X0_beginWhole (l : Launch) {G : zG} {u : sS} {x : Nat} {P RA VA : Nat → Nat} {pa sp ln rf sb : Nat} {Mw : zM} (hC : CI G u x P RA VA pa sp ln rf sb Mw) {t : Nat} (hok : s_ok t u) {vb c n : Nat} (hB : j_B G Mw sb vb c n) {i : Nat} (hi : i < 6) : z_Mv l G qX0_beginWhole (z_rm 10 36 1168) [.ref ln, .ref (P i)] Mw (fun Mz => CI G u x P RA VA pa sp ln rf sb Mz ∧ ∃ vb' c' n', c' ≤ 243 ∧ j_B G Mz sb vb' c' n')  := by
  obtain ⟨ml0, hsb0⟩ := j_sbE hB
  have hbn := j_B_c hB
  obtain ⟨pq, lq, cq, hpo, hli, hcp, g1, g2, h16⟩ := s_pq hok hi
  refine z_Mv_of _ (plainFor_of_name rfl) rfl (Nat.le_of_ble_eq_true rfl) (fun X hl hG hnm C ret => ?_)
  subst hl; subst hG
  have C : z_C X cX0_beginWhole RX0 3 (z_rm 10 36 1168) := C
  show z_W X Mw 0 0 0 [(0, .ref ln), (1, .ref (P i))] []
  refine z_aload_n C dX0_beginWhole_0 rfl 0 rfl ?_
  refine gf_X0_10 C (CI_ln hC) dX0_beginWhole_1 ?_
  refine z_iconst C (v := 0) dX0_beginWhole_4 (by decide) ?_
  refine z_callVv (rest := []) (k' := 0) (n' := 0) C (j_set0 (l := z_l X) hB) (cs_X0_20 C ⟨Nat.le_of_ble_eq_true rfl, Nat.le_of_ble_eq_true rfl⟩) hsb0 rfl rfl rfl rfl (Nat.le_of_ble_eq_true rfl) rfl rfl (by decide) (by decide) dX0_beginWhole_5 (fun Mq5 hq => ?_)
  obtain ⟨hB0, hF0⟩ := hq
  have hC0 := CI_fr hC hB hB0 hF0
  refine z_iconst C (v := 0) dX0_beginWhole_8 (by decide) ?_
  refine z_istore_n (lv' := [(2, .int 0), (0, .ref ln), (1, .ref (P i))]) C dX0_beginWhole_9 rfl (by decide) rfl ?_
  refine z_at (M' := _) (lv' := [(2, .int (nI 0)), (0, .ref ln), (1, .ref (P i))]) rfl (by rw [nI_0]) rfl ?_
  refine z_kn (k' := 0 + (n - n) / 16) (n' := 0 + 2 * (n - n)) (by simp) (by simp) ?_
  refine lp_X0_bw C hok hi hcp h16 hbn.2.1 (fun c1 n1 vb1 Mz hc1 hn1 h1 h2 => ?_) cq 0 0 n vb _ (Nat.zero_add _) (by omega) hC0 hB0 (Nat.le_refl _)
  refine z_aload_n C dX0_beginWhole_50 rfl 0 rfl ?_
  refine z_aload_n C dX0_beginWhole_51 rfl 1 rfl ?_
  refine z_aload_n C dX0_beginWhole_52 rfl 1 rfl ?_
  refine gf_X0_45 C (CI_P h1 hi) dX0_beginWhole_53 ?_
  have hd56 := j_sg_in (s_pn u i) (p_cp (s_pn u i))
  have hb56 := j_B_c h2
  have hg56 := j_cap_ge n1 (c1 + (j_sg (s_pn u i) (p_cp (s_pn u i))))
  have hl56 : (j_cap n1 (c1 + (j_sg (s_pn u i) (p_cp (s_pn u i))))) ≤ 600 := j_cap_le hb56.2.2 (by omega)
  refine z_callVv (rest := []) (k' := 0 + (n1 - n) / 16 + (((j_cap n1 (c1 + (j_sg (s_pn u i) (p_cp (s_pn u i))))) - n1) / 16)) (n' := 0 + 2 * (n1 - n) + (2 * ((j_cap n1 (c1 + (j_sg (s_pn u i) (p_cp (s_pn u i))))) - n1))) C (a_X0_addSigns (z_l X) h1 hok h2 hi (ix := (p_cp (s_pn u i))) (by omega)) (cs_X0_48 C ⟨Nat.le_of_ble_eq_true rfl, Nat.le_of_ble_eq_true rfl⟩) (CI_ln h1) rfl rfl rfl rfl (Nat.le_of_ble_eq_true rfl) rfl rfl (by show _ ≤ 36; omega) (by show _ ≤ 1168; omega) dX0_beginWhole_56 (fun Mq56 hq => ?_)
  obtain ⟨hC56, vc56, hB56⟩ := hq
  refine z_widen (k' := 0 + ((j_cap n1 (c1 + (j_sg (s_pn u i) (p_cp (s_pn u i))))) - n) / 16) (n' := 0 + 2 * ((j_cap n1 (c1 + (j_sg (s_pn u i) (p_cp (s_pn u i))))) - n)) (by omega) (by omega) ?_
  refine ret dX0_beginWhole_59 ?_ (by show _ ≤ 36; omega) (by show _ ≤ 1168; omega)
  exact ⟨hC56, _, _, _, (by omega), hB56⟩
set_option maxRecDepth 20000 in
theorem lp_X0_bt {X : zX} (C : z_C X cX0_beginTotal RX0 5 (z_rm 10 36 1168)) {u : sS} {x : Nat} {P RA VA : Nat → Nat} {pa sp ln rf sb t : Nat} {Mw : zM} (hC : CI (z_G X) u x P RA VA pa sp ln rf sb Mw) (hok : s_ok t u) {i cq pq lq : Nat} (hi : i < 6) (hcp : p_cp (s_pn u i) = nI cq) (h16 : cq ≤ 16) (hli : p_li (s_pn u i) = nI lq) (hlc : lq ≤ cq) (kk : ∀ S, S ≤ 34359738352 → z_W X Mw 0 0 41 [(2, .long (lN S)), (0, .ref ln), (1, .ref (P i))] []) : ∀ (d jx S : Nat), jx + d = lq → pq ≤ jx → S ≤ (jx - pq) * 2147483647 → z_W X Mw 0 0 16 [(2, .long (lN S)), (4, .int (nI jx)), (0, .ref ln), (1, .ref (P i))] [] := by
  intro d
  induction d with
  | zero =>
    intro jx S hd hj hS
    refine z_iload C dX0_beginTotal_16 1 rfl ?_
    refine z_aload_n C dX0_beginTotal_18 rfl 3 rfl ?_
    refine gf_X0_30 C (CI_P hC hi) dX0_beginTotal_19 ?_
    refine z_icmp_ge C (tgt := 41) dX0_beginTotal_22 (by decide) (fun _ => ?_) (fun c22 => absurd (by rw [hli]; exact nI_le (by omega) (by omega)) c22)
    refine z_fewer [0, 2, 3] rfl ?_
    have hx9 : jx - pq ≤ 16 := by omega
    exact kk S (Nat.le_trans hS (Nat.le_trans (Nat.mul_le_mul_right _ hx9) (Nat.le_of_ble_eq_true rfl)))
  | succ d ih =>
    intro jx S hd hj hS
    refine z_iload C dX0_beginTotal_16 1 rfl ?_
    refine z_aload_n C dX0_beginTotal_18 rfl 3 rfl ?_
    refine gf_X0_30 C (CI_P hC hi) dX0_beginTotal_19 ?_
    refine z_icmp_ge C (tgt := 41) dX0_beginTotal_22 (by decide) (fun c22 => absurd c22 (by rw [hli]; exact nI_ge (by omega) (by omega))) (fun _ => ?_)
    refine z_lload_n C dX0_beginTotal_25 rfl 0 rfl ?_
    refine z_aload_n C dX0_beginTotal_26 rfl 3 rfl ?_
    refine z_iload C dX0_beginTotal_27 1 rfl ?_
    refine z_callVi (rest := [.long (lN S)]) (k' := 0) (n' := 0) C (a_X1_valueAt (z_l X) hC hok hi (s_inJ hok hi hcp (by omega) h16)) (cs_X0_33 C ⟨Nat.le_of_ble_eq_true rfl, Nat.le_of_ble_eq_true rfl⟩) (CI_P hC hi) rfl rfl rfl rfl (Nat.le_of_ble_eq_true rfl) rfl rfl (Nat.le_of_ble_eq_true rfl) (Nat.le_of_ble_eq_true rfl) dX0_beginTotal_29 (fun x29 Mq29 hq => ?_)
    obtain ⟨e29, rfl⟩ := hq
    rw [e29]
    refine z_i2l C dX0_beginTotal_32 ?_
    rw [show (((s_val u (s_pn u i) (nI jx)).toInt64) : Int64) = (lN (s_val u (s_pn u i) (nI jx)).toNatClampNeg) from (j_i2l (hok.2.2.2.2.2 _ _))]
    refine z_ladd C dX0_beginTotal_33 ?_
    rw [show (((lN S) + (lN (s_val u (s_pn u i) (nI jx)).toNatClampNeg)) : Int64) = (lN (S + (s_val u (s_pn u i) (nI jx)).toNatClampNeg)) from (lN_add _ _)]
    refine z_lstore_n (lv' := [(2, .long (lN (S + (s_val u (s_pn u i) (nI jx)).toNatClampNeg))), (4, .int (nI jx)), (0, .ref ln), (1, .ref (P i))]) C dX0_beginTotal_34 rfl (by decide) rfl ?_
    refine z_iinc (v := nI (jx + 1)) (lv' := [(4, .int (nI (jx + 1))), (2, .long (lN (S + (s_val u (s_pn u i) (nI jx)).toNatClampNeg))), (0, .ref ln), (1, .ref (P i))]) C dX0_beginTotal_35 1 rfl (nI_1 jx) (by decide) rfl ?_
    refine z_goto C (tgt := 16) dX0_beginTotal_38 (by decide) ?_
    refine z_fewer [1, 0, 2, 3] rfl ?_
    have hv9 := j_v31 (s_val u (s_pn u i) (nI jx))
    exact ih (jx + 1) _ (by omega) (by omega) (by omega)
set_option maxRecDepth 20000 in
theorem a_X0_beginTotal (l : Launch) {G : zG} {u : sS} {x : Nat} {P RA VA : Nat → Nat} {pa sp ln rf sb : Nat} {Mw : zM} (hC : CI G u x P RA VA pa sp ln rf sb Mw) {t : Nat} (hok : s_ok t u) {vb c n : Nat} (hB : j_B G Mw sb vb c n) {i : Nat} (hi : i < 6) : z_Mv l G qX0_beginTotal (z_rm 10 36 1168) [.ref ln, .ref (P i)] Mw (fun Mz => CI G u x P RA VA pa sp ln rf sb Mz ∧ ∃ vb' c' n', c' ≤ 12 ∧ j_B G Mz sb vb' c' n')  := by
  obtain ⟨ml0, hsb0⟩ := j_sbE hB
  have hbn := j_B_c hB
  obtain ⟨pq, lq, cq, hpo, hli, hcp, g1, g2, h16⟩ := s_pq hok hi
  refine z_Mv_of _ (plainFor_of_name rfl) rfl (Nat.le_of_ble_eq_true rfl) (fun X hl hG hnm C ret => ?_)
  subst hl; subst hG
  have C : z_C X cX0_beginTotal RX0 5 (z_rm 10 36 1168) := C
  show z_W X Mw 0 0 0 [(0, .ref ln), (1, .ref (P i))] []
  refine z_aload_n C dX0_beginTotal_0 rfl 0 rfl ?_
  refine gf_X0_10 C (CI_ln hC) dX0_beginTotal_1 ?_
  refine z_iconst C (v := 0) dX0_beginTotal_4 (by decide) ?_
  refine z_callVv (rest := []) (k' := 0) (n' := 0) C (j_set0 (l := z_l X) hB) (cs_X0_20 C ⟨Nat.le_of_ble_eq_true rfl, Nat.le_of_ble_eq_true rfl⟩) hsb0 rfl rfl rfl rfl (Nat.le_of_ble_eq_true rfl) rfl rfl (by decide) (by decide) dX0_beginTotal_5 (fun Mq5 hq => ?_)
  obtain ⟨hB0, hF0⟩ := hq
  have hC0 := CI_fr hC hB hB0 hF0
  refine z_lconst C (v := 0) dX0_beginTotal_8 (by decide) ?_
  refine z_lstore_n (lv' := [(2, .long 0), (0, .ref ln), (1, .ref (P i))]) C dX0_beginTotal_9 rfl (by decide) rfl ?_
  refine z_aload_n C dX0_beginTotal_10 rfl 2 rfl ?_
  refine gf_X0_24 C (CI_P hC0 hi) dX0_beginTotal_11 ?_
  refine z_istore (lv' := [(4, .int (p_po (s_pn u i))), (2, .long 0), (0, .ref ln), (1, .ref (P i))]) C dX0_beginTotal_14 (by decide) rfl ?_
  refine z_fewer [1, 0, 2, 3] rfl ?_
  refine z_at (M' := _) (lv' := [(2, .long (lN 0)), (4, .int (nI pq)), (0, .ref ln), (1, .ref (P i))]) rfl (by rw [← hpo]; rfl) rfl ?_
  refine lp_X0_bt (pq := pq) C hC0 hok hi hcp h16 hli g2 (fun S hS => ?_) (lq - pq) pq 0 (by omega) (Nat.le_refl _) (by omega)
  refine z_kn (k' := 0 + (n - n) / 16) (n' := 0 + 2 * (n - n)) (by simp) (by simp) ?_
  refine z_aload_n C dX0_beginTotal_41 rfl 1 rfl ?_
  refine z_lload_n C dX0_beginTotal_42 rfl 0 rfl ?_
  have hd43 := j_nd_in S 10
  have hb43 := j_B_c hB0
  have hg43 := j_cap_ge n (0 + j_nd S 10)
  have hl43 : (j_cap n (0 + j_nd S 10)) ≤ 600 := j_cap_le hb43.2.2 (by omega)
  refine z_callVv (rest := []) (k' := 0 + (n - n) / 16 + (((j_cap n (0 + j_nd S 10)) - n) / 16)) (n' := 0 + 2 * (n - n) + (2 * ((j_cap n (0 + j_nd S 10)) - n))) C (a_X0_addNumber (z_l X) hC0 hok hB0 (CI_P hC0 hi) (by omega) (by omega)) (cs_X0_37 C ⟨Nat.le_of_ble_eq_true rfl, Nat.le_of_ble_eq_true rfl⟩) (CI_ln hC0) rfl rfl rfl rfl (Nat.le_of_ble_eq_true rfl) rfl rfl (by show _ ≤ 36; omega) (by show _ ≤ 1168; omega) dX0_beginTotal_43 (fun Mq43 hq => ?_)
  obtain ⟨hC43, hp43, vc43, hB43⟩ := hq
  refine z_widen (k' := 0 + ((j_cap n (0 + j_nd S 10)) - n) / 16) (n' := 0 + 2 * ((j_cap n (0 + j_nd S 10)) - n)) (by omega) (by omega) ?_
  refine ret dX0_beginTotal_46 ?_ (by show _ ≤ 36; omega) (by show _ ≤ 1168; omega)
  exact ⟨hC43, _, _, _, (by omega), hB43⟩
set_option maxRecDepth 20000 in
theorem a_X0_written (l : Launch) {G : zG} {u : sS} {x : Nat} {P RA VA : Nat → Nat} {pa sp ln rf sb : Nat} {Mw : zM} (hC : CI G u x P RA VA pa sp ln rf sb Mw) {t : Nat} (hok : s_ok t u) {vb c n : Nat} (hB : j_B G Mw sb vb c n) (hc9 : c ≤ 260) : z_Mr l G qX0_written (z_rm 7 2 264) [.ref ln] Mw (fun r Mz => CI G u x P RA VA pa sp ln rf sb Mz)  := by
  obtain ⟨ml0, hsb0⟩ := j_sbE hB
  have hbn := j_B_c hB
  refine z_Mr_of _ (plainFor_of_name rfl) rfl (by first | exact Or.inl ⟨_, rfl⟩ | exact Or.inr ⟨_, rfl⟩) (Nat.le_of_ble_eq_true rfl) (fun X hl hG hnm C ret => ?_)
  subst hl; subst hG
  have C : z_C X cX0_written RX0 1 (z_rm 7 2 264) := C
  show z_W X Mw 0 0 0 [(0, .ref ln)] []
  refine z_aload_n C dX0_written_0 rfl 0 rfl ?_
  refine gf_X0_10 C (CI_ln hC) dX0_written_1 ?_
  refine z_callVr (rest := []) (k' := 2) (n' := 0 + (4 + c)) C (j_toStr (z_l X) hC hB) (cs_X0_16 C ⟨Nat.le_of_ble_eq_true rfl, Nat.le_of_ble_eq_true rfl⟩) hsb0 rfl rfl rfl rfl (Nat.le_of_ble_eq_true rfl) rfl rfl (Nat.le_of_ble_eq_true rfl) (by show _ ≤ 264; omega) dX0_written_4 (fun x4 Mq4 hq => ?_)
  refine ret dX0_written_7 ?_ (Nat.le_of_ble_eq_true rfl) (by show _ ≤ 264; omega)
  exact hq
end
section
/-! PART 50: the class's calls that answer a text (the state is kept, what is written is not told) -/
def CR9 (G : zG) (x pa sp ln rf sb : Nat) (k : Int32) (u : sS) : Nat → zM → Prop := fun r Mz => k = 0 ∧ ∃ P RA VA, CI G u x P RA VA pa sp ln rf sb Mz
theorem dX3_total_0 : decode cX3_total 0 = .ok (.aload_n 0, 1) := by decide +kernel
theorem dX3_total_1 : decode cX3_total 1 = .ok (.iload_n 1, 1) := by decide +kernel
theorem dX3_total_2 : decode cX3_total 2 = .ok (.invokevirtual 49, 3) := by decide +kernel
theorem dX3_total_5 : decode cX3_total 5 = .ok (.astore_n 2, 1) := by decide +kernel
theorem dX3_total_6 : decode cX3_total 6 = .ok (.aload_n 0, 1) := by decide +kernel
theorem dX3_total_7 : decode cX3_total 7 = .ok (.getfield 34, 3) := by decide +kernel
theorem dX3_total_10 : decode cX3_total 10 = .ok (.aload_n 2, 1) := by decide +kernel
theorem dX3_total_11 : decode cX3_total 11 = .ok (.invokevirtual 161, 3) := by decide +kernel
theorem dX3_total_14 : decode cX3_total 14 = .ok (.aload_n 0, 1) := by decide +kernel
theorem dX3_total_15 : decode cX3_total 15 = .ok (.getfield 34, 3) := by decide +kernel
theorem dX3_total_18 : decode cX3_total 18 = .ok (.invokevirtual 164, 3) := by decide +kernel
theorem dX3_total_21 : decode cX3_total 21 = .ok (.areturn, 1) := by decide +kernel
theorem dX3_whole_0 : decode cX3_whole 0 = .ok (.aload_n 0, 1) := by decide +kernel
theorem dX3_whole_1 : decode cX3_whole 1 = .ok (.iload_n 1, 1) := by decide +kernel
theorem dX3_whole_2 : decode cX3_whole 2 = .ok (.invokevirtual 49, 3) := by decide +kernel
theorem dX3_whole_5 : decode cX3_whole 5 = .ok (.astore_n 2, 1) := by decide +kernel
theorem dX3_whole_6 : decode cX3_whole 6 = .ok (.aload_n 0, 1) := by decide +kernel
theorem dX3_whole_7 : decode cX3_whole 7 = .ok (.getfield 34, 3) := by decide +kernel
theorem dX3_whole_10 : decode cX3_whole 10 = .ok (.aload_n 2, 1) := by decide +kernel
theorem dX3_whole_11 : decode cX3_whole 11 = .ok (.invokevirtual 171, 3) := by decide +kernel
theorem dX3_whole_14 : decode cX3_whole 14 = .ok (.aload_n 0, 1) := by decide +kernel
theorem dX3_whole_15 : decode cX3_whole 15 = .ok (.getfield 34, 3) := by decide +kernel
theorem dX3_whole_18 : decode cX3_whole 18 = .ok (.invokevirtual 164, 3) := by decide +kernel
theorem dX3_whole_21 : decode cX3_whole 21 = .ok (.areturn, 1) := by decide +kernel
theorem dX3_text_0 : decode cX3_text 0 = .ok (.aload_n 0, 1) := by decide +kernel
theorem dX3_text_1 : decode cX3_text 1 = .ok (.iload_n 1, 1) := by decide +kernel
theorem dX3_text_2 : decode cX3_text 2 = .ok (.invokevirtual 49, 3) := by decide +kernel
theorem dX3_text_5 : decode cX3_text 5 = .ok (.astore_n 2, 1) := by decide +kernel
theorem dX3_text_6 : decode cX3_text 6 = .ok (.aload_n 0, 1) := by decide +kernel
theorem dX3_text_7 : decode cX3_text 7 = .ok (.getfield 34, 3) := by decide +kernel
theorem dX3_text_10 : decode cX3_text 10 = .ok (.aload_n 2, 1) := by decide +kernel
theorem dX3_text_11 : decode cX3_text 11 = .ok (.aload_n 2, 1) := by decide +kernel
theorem dX3_text_12 : decode cX3_text 12 = .ok (.getfield 60, 3) := by decide +kernel
theorem dX3_text_15 : decode cX3_text 15 = .ok (.aload_n 2, 1) := by decide +kernel
theorem dX3_text_16 : decode cX3_text 16 = .ok (.getfield 63, 3) := by decide +kernel
theorem dX3_text_19 : decode cX3_text 19 = .ok (.invokevirtual 168, 3) := by decide +kernel
theorem dX3_text_22 : decode cX3_text 22 = .ok (.aload_n 0, 1) := by decide +kernel
theorem dX3_text_23 : decode cX3_text 23 = .ok (.getfield 34, 3) := by decide +kernel
theorem dX3_text_26 : decode cX3_text 26 = .ok (.invokevirtual 164, 3) := by decide +kernel
theorem dX3_text_29 : decode cX3_text 29 = .ok (.areturn, 1) := by decide +kernel
theorem dX3_beginLongRow_0 : decode cX3_beginLongRow 0 = .ok (.aload_n 0, 1) := by decide +kernel
theorem dX3_beginLongRow_1 : decode cX3_beginLongRow 1 = .ok (.getfield 27, 3) := by decide +kernel
theorem dX3_beginLongRow_4 : decode cX3_beginLongRow 4 = .ok (.aload_n 0, 1) := by decide +kernel
theorem dX3_beginLongRow_5 : decode cX3_beginLongRow 5 = .ok (.getfield 14, 3) := by decide +kernel
theorem dX3_beginLongRow_8 : decode cX3_beginLongRow 8 = .ok (.invokevirtual 57, 3) := by decide +kernel
theorem dX3_beginLongRow_11 : decode cX3_beginLongRow 11 = .ok (.aload_n 0, 1) := by decide +kernel
theorem dX3_beginLongRow_12 : decode cX3_beginLongRow 12 = .ok (.getfield 34, 3) := by decide +kernel
theorem dX3_beginLongRow_15 : decode cX3_beginLongRow 15 = .ok (.aload_n 0, 1) := by decide +kernel
theorem dX3_beginLongRow_16 : decode cX3_beginLongRow 16 = .ok (.getfield 27, 3) := by decide +kernel
theorem dX3_beginLongRow_19 : decode cX3_beginLongRow 19 = .ok (.iconst 0, 1) := by decide +kernel
theorem dX3_beginLongRow_20 : decode cX3_beginLongRow 20 = .ok (.aload_n 0, 1) := by decide +kernel
theorem dX3_beginLongRow_21 : decode cX3_beginLongRow 21 = .ok (.getfield 27, 3) := by decide +kernel
theorem dX3_beginLongRow_24 : decode cX3_beginLongRow 24 = .ok (.getfield 63, 3) := by decide +kernel
theorem dX3_beginLongRow_27 : decode cX3_beginLongRow 27 = .ok (.invokevirtual 168, 3) := by decide +kernel
theorem dX3_beginLongRow_30 : decode cX3_beginLongRow 30 = .ok (.return_, 1) := by decide +kernel
theorem dX3_row_0 : decode cX3_row 0 = .ok (.aload_n 0, 1) := by decide +kernel
theorem dX3_row_1 : decode cX3_row 1 = .ok (.invokevirtual 174, 3) := by decide +kernel
theorem dX3_row_4 : decode cX3_row 4 = .ok (.aload_n 0, 1) := by decide +kernel
theorem dX3_row_5 : decode cX3_row 5 = .ok (.getfield 34, 3) := by decide +kernel
theorem dX3_row_8 : decode cX3_row 8 = .ok (.invokevirtual 164, 3) := by decide +kernel
theorem dX3_row_11 : decode cX3_row 11 = .ok (.areturn, 1) := by decide +kernel
set_option maxRecDepth 20000 in
theorem c_X3_total_bad (l : Launch) (G : zG) (h_st : l.stackTraces = false) {M : zM} {x : Nat} {pane : Int32} {lr : Nat} {pa : Nat} {sp : Nat} {ln : Nat} {rf : Nat} {ac : Int32} {kn : Int32} {fp : Nat → Option Nat}  (h_x : M x = some (cMp lr pa sp ln rf ac kn)) (h_pa : M pa = some (aP G 6 fp)) (h_ip : ¬ vp_in pane 6) : z_Xr l G qX3_total (z_rm 12 40 1500) [.ref x, .int pane] M (fun r M' => False) (fun E M' => ((pane < 0) ∧ E = "java/lang/IndexOutOfBoundsException" ∧ M' = M) ∨ ((¬ pane < 0) ∧ E = "java/lang/IndexOutOfBoundsException" ∧ M' = M)) := by
  refine z_Xr_of _ _ h_st rfl rfl (by first | exact Or.inl ⟨_, rfl⟩ | exact Or.inr ⟨_, rfl⟩) (Nat.le_of_ble_eq_true rfl) (fun X hl hG C ret thr prp => ?_)
  subst hl; subst hG
  have C : z_C X cX3_total RX3 3 (z_rm 12 40 1500) := C
  show z_W X M 0 0 0 [(0, .ref x), (1, .int pane)] []
  refine z_aload_n C dX3_total_0 rfl 0 rfl ?_
  refine z_iload_n C dX3_total_1 rfl 1 rfl ?_
  refine z_callXVr (rest := []) (k' := 1) (n' := 6) C (c_X3_paneOf_bad (z_l X) (z_G X) h_st h_x h_pa h_ip) (cs_X3_49 C (by decide)) h_x rfl rfl rfl rfl (Nat.le_of_ble_eq_true rfl) rfl rfl (by decide) (by decide) dX3_total_2 (fun E M' hq => ?_) (fun x2 M' hq => ?_)
  · obtain ⟨cx2_0, rfl, rfl⟩ | ⟨cx2_0, rfl, rfl⟩ := hq
    · exact prp (Or.inl ⟨cx2_0, rfl, rfl⟩) (by decide) (by decide)
    · exact prp (Or.inr (⟨cx2_0, rfl, rfl⟩)) (by decide) (by decide)
  · skip
    exact hq.elim
set_option maxRecDepth 20000 in
theorem g_X3_total (l : Launch) (h_st : l.stackTraces = false) {G : zG} {u : sS} {x : Nat} {P RA VA : Nat → Nat} {pa sp ln rf sb : Nat} {Mw : zM} (hC : CI G u x P RA VA pa sp ln rf sb Mw) {t : Nat} (hok : s_ok t u) {pane : Int32} (h_ok : z_is pane 0 5 = 1) (h_ip : vp_in pane 6) (hi : pane.toNatClampNeg < 6) : z_Xr l G qX3_total (z_rm 12 40 1500) [.ref x, .int pane] Mw (CR9 G x pa sp ln rf sb (z_lt (z_is pane 0 5) 1) u) (CX G x pa sp ln rf sb (z_lt (z_is pane 0 5) 1) u) := by
  obtain ⟨fp, hpa, hfp⟩ := CI_pa hC
  obtain ⟨vb0, c0, n0, hBq⟩ := CI_B hC
  obtain ⟨pq, lq, cq, hpo, hli, hcp, g1, g2, h16⟩ := s_pq hok hi
  refine z_Xr_of _ _ h_st rfl rfl (by first | exact Or.inl ⟨_, rfl⟩ | exact Or.inr ⟨_, rfl⟩) (Nat.le_of_ble_eq_true rfl) (fun X hl hG C ret thr prp => ?_)
  subst hl; subst hG
  have C : z_C X cX3_total RX3 3 (z_rm 12 40 1500) := C
  show z_W X Mw 0 0 0 [(0, .ref x), (1, .int pane)] []
  refine z_aload_n C dX3_total_0 rfl 0 rfl ?_
  refine z_iload_n C dX3_total_1 rfl 1 rfl ?_
  refine z_callXVr (rest := []) (k' := 1) (n' := 6) C (c_X3_paneOf (z_l X) (z_G X) h_st hC.1 hpa (CI_P hC hi) h_ip rfl (hfp _ hi)) (cs_X3_49 C (by decide)) hC.1 rfl rfl rfl rfl (Nat.le_of_ble_eq_true rfl) rfl rfl (by decide) (by decide) dX3_total_2 (fun E M' hq => ?_) (fun x2 M' hq => ?_)
  · exact hq.elim
  · skip
    obtain ⟨rfl, rfl⟩ := hq
    refine z_astore_n (lv' := [(2, .ref (P pane.toNatClampNeg)), (0, .ref x), (1, .int pane)]) C dX3_total_5 rfl (by decide) rfl ?_
    refine z_aload_n C dX3_total_6 rfl 1 rfl ?_
    refine gf_X3_34 C hC.1 dX3_total_7 ?_
    refine z_aload_n C dX3_total_10 rfl 0 rfl ?_
    refine z_callVv (rest := []) (k' := 37) (n' := 1174) C (a_X0_beginTotal (z_l X) hC hok hBq hi) (cs_X3_161 C (by decide)) (CI_ln hC) rfl rfl rfl rfl (Nat.le_of_ble_eq_true rfl) rfl rfl (Nat.le_of_ble_eq_true rfl) (Nat.le_of_ble_eq_true rfl) dX3_total_11 (fun Mq11 hq => ?_)
    obtain ⟨hC1, vb1, c1, n1, hc1, hB1⟩ := hq
    refine z_aload_n C dX3_total_14 rfl 1 rfl ?_
    refine gf_X3_34 C hC1.1 dX3_total_15 ?_
    refine z_callVr (rest := []) (k' := 39) (n' := 1438) C (a_X0_written (z_l X) hC1 hok hB1 (by omega)) (cs_X3_164 C (by decide)) (CI_ln hC1) rfl rfl rfl rfl (Nat.le_of_ble_eq_true rfl) rfl rfl (Nat.le_of_ble_eq_true rfl) (Nat.le_of_ble_eq_true rfl) dX3_total_18 (fun x18 Mq18 hq => ?_)
    have hC2 := hq
    refine ret dX3_total_21 ?_ (by decide) (by decide)
    exact ⟨z_lt3 h_ok rfl, _, _, _, hC2⟩
theorem a_X3_total (l : Launch) (h_st : l.stackTraces = false) {G : zG} {u : sS} {x : Nat} {P RA VA : Nat → Nat} {pa sp ln rf sb : Nat} {Mw : zM} (hC : CI G u x P RA VA pa sp ln rf sb Mw) {t : Nat} (hok : s_ok t u) (pane : Int32) : z_Xr l G qX3_total (z_rm 12 40 1500) [.ref x, .int pane] Mw (CR9 G x pa sp ln rf sb (z_lt (z_is pane 0 5) 1) u) (CX G x pa sp ln rf sb (z_lt (z_is pane 0 5) 1) u) := by
  obtain ⟨fp, hpa, hfp⟩ := CI_pa hC
  rcases z_pc pane with ⟨h_ok, h_ip, hi⟩ | ⟨h_bad, h_nip⟩
  · exact g_X3_total l h_st hC hok h_ok h_ip hi
  · refine z_Xr_mono (c_X3_total_bad l G h_st hC.1 hpa h_nip) (fun r M' h => h.elim) ?_
    rintro E M' (⟨x0_0, rfl, rfl⟩ | ⟨x1_0, rfl, rfl⟩)
    · exact CX_1 (k_1 h_bad) hC
    · exact CX_1 (k_1 h_bad) hC
set_option maxRecDepth 20000 in
theorem c_X3_whole_bad (l : Launch) (G : zG) (h_st : l.stackTraces = false) {M : zM} {x : Nat} {pane : Int32} {lr : Nat} {pa : Nat} {sp : Nat} {ln : Nat} {rf : Nat} {ac : Int32} {kn : Int32} {fp : Nat → Option Nat}  (h_x : M x = some (cMp lr pa sp ln rf ac kn)) (h_pa : M pa = some (aP G 6 fp)) (h_ip : ¬ vp_in pane 6) : z_Xr l G qX3_whole (z_rm 12 40 1500) [.ref x, .int pane] M (fun r M' => False) (fun E M' => ((pane < 0) ∧ E = "java/lang/IndexOutOfBoundsException" ∧ M' = M) ∨ ((¬ pane < 0) ∧ E = "java/lang/IndexOutOfBoundsException" ∧ M' = M)) := by
  refine z_Xr_of _ _ h_st rfl rfl (by first | exact Or.inl ⟨_, rfl⟩ | exact Or.inr ⟨_, rfl⟩) (Nat.le_of_ble_eq_true rfl) (fun X hl hG C ret thr prp => ?_)
  subst hl; subst hG
  have C : z_C X cX3_whole RX3 3 (z_rm 12 40 1500) := C
  show z_W X M 0 0 0 [(0, .ref x), (1, .int pane)] []
  refine z_aload_n C dX3_whole_0 rfl 0 rfl ?_
  refine z_iload_n C dX3_whole_1 rfl 1 rfl ?_
  refine z_callXVr (rest := []) (k' := 1) (n' := 6) C (c_X3_paneOf_bad (z_l X) (z_G X) h_st h_x h_pa h_ip) (cs_X3_49 C (by decide)) h_x rfl rfl rfl rfl (Nat.le_of_ble_eq_true rfl) rfl rfl (by decide) (by decide) dX3_whole_2 (fun E M' hq => ?_) (fun x2 M' hq => ?_)
  · obtain ⟨cx2_0, rfl, rfl⟩ | ⟨cx2_0, rfl, rfl⟩ := hq
    · exact prp (Or.inl ⟨cx2_0, rfl, rfl⟩) (by decide) (by decide)
    · exact prp (Or.inr (⟨cx2_0, rfl, rfl⟩)) (by decide) (by decide)
  · skip
    exact hq.elim
set_option maxRecDepth 20000 in
theorem g_X3_whole (l : Launch) (h_st : l.stackTraces = false) {G : zG} {u : sS} {x : Nat} {P RA VA : Nat → Nat} {pa sp ln rf sb : Nat} {Mw : zM} (hC : CI G u x P RA VA pa sp ln rf sb Mw) {t : Nat} (hok : s_ok t u) {pane : Int32} (h_ok : z_is pane 0 5 = 1) (h_ip : vp_in pane 6) (hi : pane.toNatClampNeg < 6) : z_Xr l G qX3_whole (z_rm 12 40 1500) [.ref x, .int pane] Mw (CR9 G x pa sp ln rf sb (z_lt (z_is pane 0 5) 1) u) (CX G x pa sp ln rf sb (z_lt (z_is pane 0 5) 1) u) := by
  obtain ⟨fp, hpa, hfp⟩ := CI_pa hC
  obtain ⟨vb0, c0, n0, hBq⟩ := CI_B hC
  obtain ⟨pq, lq, cq, hpo, hli, hcp, g1, g2, h16⟩ := s_pq hok hi
  refine z_Xr_of _ _ h_st rfl rfl (by first | exact Or.inl ⟨_, rfl⟩ | exact Or.inr ⟨_, rfl⟩) (Nat.le_of_ble_eq_true rfl) (fun X hl hG C ret thr prp => ?_)
  subst hl; subst hG
  have C : z_C X cX3_whole RX3 3 (z_rm 12 40 1500) := C
  show z_W X Mw 0 0 0 [(0, .ref x), (1, .int pane)] []
  refine z_aload_n C dX3_whole_0 rfl 0 rfl ?_
  refine z_iload_n C dX3_whole_1 rfl 1 rfl ?_
  refine z_callXVr (rest := []) (k' := 1) (n' := 6) C (c_X3_paneOf (z_l X) (z_G X) h_st hC.1 hpa (CI_P hC hi) h_ip rfl (hfp _ hi)) (cs_X3_49 C (by decide)) hC.1 rfl rfl rfl rfl (Nat.le_of_ble_eq_true rfl) rfl rfl (by decide) (by decide) dX3_whole_2 (fun E M' hq => ?_) (fun x2 M' hq => ?_)
  · exact hq.elim
  · skip
    obtain ⟨rfl, rfl⟩ := hq
    refine z_astore_n (lv' := [(2, .ref (P pane.toNatClampNeg)), (0, .ref x), (1, .int pane)]) C dX3_whole_5 rfl (by decide) rfl ?_
    refine z_aload_n C dX3_whole_6 rfl 1 rfl ?_
    refine gf_X3_34 C hC.1 dX3_whole_7 ?_
    refine z_aload_n C dX3_whole_10 rfl 0 rfl ?_
    refine z_callVv (rest := []) (k' := 37) (n' := 1174) C (a_X0_beginWhole (z_l X) hC hok hBq hi) (cs_X3_171 C (by decide)) (CI_ln hC) rfl rfl rfl rfl (Nat.le_of_ble_eq_true rfl) rfl rfl (Nat.le_of_ble_eq_true rfl) (Nat.le_of_ble_eq_true rfl) dX3_whole_11 (fun Mq11 hq => ?_)
    obtain ⟨hC1, vb1, c1, n1, hc1, hB1⟩ := hq
    refine z_aload_n C dX3_whole_14 rfl 1 rfl ?_
    refine gf_X3_34 C hC1.1 dX3_whole_15 ?_
    refine z_callVr (rest := []) (k' := 39) (n' := 1438) C (a_X0_written (z_l X) hC1 hok hB1 (by omega)) (cs_X3_164 C (by decide)) (CI_ln hC1) rfl rfl rfl rfl (Nat.le_of_ble_eq_true rfl) rfl rfl (Nat.le_of_ble_eq_true rfl) (Nat.le_of_ble_eq_true rfl) dX3_whole_18 (fun x18 Mq18 hq => ?_)
    have hC2 := hq
    refine ret dX3_whole_21 ?_ (by decide) (by decide)
    exact ⟨z_lt3 h_ok rfl, _, _, _, hC2⟩
theorem a_X3_whole (l : Launch) (h_st : l.stackTraces = false) {G : zG} {u : sS} {x : Nat} {P RA VA : Nat → Nat} {pa sp ln rf sb : Nat} {Mw : zM} (hC : CI G u x P RA VA pa sp ln rf sb Mw) {t : Nat} (hok : s_ok t u) (pane : Int32) : z_Xr l G qX3_whole (z_rm 12 40 1500) [.ref x, .int pane] Mw (CR9 G x pa sp ln rf sb (z_lt (z_is pane 0 5) 1) u) (CX G x pa sp ln rf sb (z_lt (z_is pane 0 5) 1) u) := by
  obtain ⟨fp, hpa, hfp⟩ := CI_pa hC
  rcases z_pc pane with ⟨h_ok, h_ip, hi⟩ | ⟨h_bad, h_nip⟩
  · exact g_X3_whole l h_st hC hok h_ok h_ip hi
  · refine z_Xr_mono (c_X3_whole_bad l G h_st hC.1 hpa h_nip) (fun r M' h => h.elim) ?_
    rintro E M' (⟨x0_0, rfl, rfl⟩ | ⟨x1_0, rfl, rfl⟩)
    · exact CX_1 (k_1 h_bad) hC
    · exact CX_1 (k_1 h_bad) hC
set_option maxRecDepth 20000 in
theorem c_X3_text_bad (l : Launch) (G : zG) (h_st : l.stackTraces = false) {M : zM} {x : Nat} {pane : Int32} {lr : Nat} {pa : Nat} {sp : Nat} {ln : Nat} {rf : Nat} {ac : Int32} {kn : Int32} {fp : Nat → Option Nat}  (h_x : M x = some (cMp lr pa sp ln rf ac kn)) (h_pa : M pa = some (aP G 6 fp)) (h_ip : ¬ vp_in pane 6) : z_Xr l G qX3_text (z_rm 12 40 1500) [.ref x, .int pane] M (fun r M' => False) (fun E M' => ((pane < 0) ∧ E = "java/lang/IndexOutOfBoundsException" ∧ M' = M) ∨ ((¬ pane < 0) ∧ E = "java/lang/IndexOutOfBoundsException" ∧ M' = M)) := by
  refine z_Xr_of _ _ h_st rfl rfl (by first | exact Or.inl ⟨_, rfl⟩ | exact Or.inr ⟨_, rfl⟩) (Nat.le_of_ble_eq_true rfl) (fun X hl hG C ret thr prp => ?_)
  subst hl; subst hG
  have C : z_C X cX3_text RX3 3 (z_rm 12 40 1500) := C
  show z_W X M 0 0 0 [(0, .ref x), (1, .int pane)] []
  refine z_aload_n C dX3_text_0 rfl 0 rfl ?_
  refine z_iload_n C dX3_text_1 rfl 1 rfl ?_
  refine z_callXVr (rest := []) (k' := 1) (n' := 6) C (c_X3_paneOf_bad (z_l X) (z_G X) h_st h_x h_pa h_ip) (cs_X3_49 C (by decide)) h_x rfl rfl rfl rfl (Nat.le_of_ble_eq_true rfl) rfl rfl (by decide) (by decide) dX3_text_2 (fun E M' hq => ?_) (fun x2 M' hq => ?_)
  · obtain ⟨cx2_0, rfl, rfl⟩ | ⟨cx2_0, rfl, rfl⟩ := hq
    · exact prp (Or.inl ⟨cx2_0, rfl, rfl⟩) (by decide) (by decide)
    · exact prp (Or.inr (⟨cx2_0, rfl, rfl⟩)) (by decide) (by decide)
  · skip
    exact hq.elim
set_option maxRecDepth 20000 in
theorem g_X3_text (l : Launch) (h_st : l.stackTraces = false) {G : zG} {u : sS} {x : Nat} {P RA VA : Nat → Nat} {pa sp ln rf sb : Nat} {Mw : zM} (hC : CI G u x P RA VA pa sp ln rf sb Mw) {t : Nat} (hok : s_ok t u) {pane : Int32} (h_ok : z_is pane 0 5 = 1) (h_ip : vp_in pane 6) (hi : pane.toNatClampNeg < 6) : z_Xr l G qX3_text (z_rm 12 40 1500) [.ref x, .int pane] Mw (CR9 G x pa sp ln rf sb (z_lt (z_is pane 0 5) 1) u) (CX G x pa sp ln rf sb (z_lt (z_is pane 0 5) 1) u) := by
  obtain ⟨fp, hpa, hfp⟩ := CI_pa hC
  obtain ⟨vb0, c0, n0, hBq⟩ := CI_B hC
  obtain ⟨pq, lq, cq, hpo, hli, hcp, g1, g2, h16⟩ := s_pq hok hi
  refine z_Xr_of _ _ h_st rfl rfl (by first | exact Or.inl ⟨_, rfl⟩ | exact Or.inr ⟨_, rfl⟩) (Nat.le_of_ble_eq_true rfl) (fun X hl hG C ret thr prp => ?_)
  subst hl; subst hG
  have C : z_C X cX3_text RX3 3 (z_rm 12 40 1500) := C
  show z_W X Mw 0 0 0 [(0, .ref x), (1, .int pane)] []
  refine z_aload_n C dX3_text_0 rfl 0 rfl ?_
  refine z_iload_n C dX3_text_1 rfl 1 rfl ?_
  refine z_callXVr (rest := []) (k' := 1) (n' := 6) C (c_X3_paneOf (z_l X) (z_G X) h_st hC.1 hpa (CI_P hC hi) h_ip rfl (hfp _ hi)) (cs_X3_49 C (by decide)) hC.1 rfl rfl rfl rfl (Nat.le_of_ble_eq_true rfl) rfl rfl (by decide) (by decide) dX3_text_2 (fun E M' hq => ?_) (fun x2 M' hq => ?_)
  · exact hq.elim
  · skip
    obtain ⟨rfl, rfl⟩ := hq
    refine z_astore_n (lv' := [(2, .ref (P pane.toNatClampNeg)), (0, .ref x), (1, .int pane)]) C dX3_text_5 rfl (by decide) rfl ?_
    refine z_aload_n C dX3_text_6 rfl 1 rfl ?_
    refine gf_X3_34 C hC.1 dX3_text_7 ?_
    refine z_aload_n C dX3_text_10 rfl 0 rfl ?_
    refine z_aload_n C dX3_text_11 rfl 0 rfl ?_
    refine gf_X3_60 C (CI_P hC hi) dX3_text_12 ?_
    refine z_aload_n C dX3_text_15 rfl 0 rfl ?_
    refine gf_X3_63 C (CI_P hC hi) dX3_text_16 ?_
    rw [hpo, hli]
    refine z_callVv (rest := []) (k' := 37) (n' := 1174) C (a_X0_beginValues (z_l X) hC hok hBq (CI_P hC hi) (s_row hok hi) (fun j _ hj => s_inJ hok hi hcp (by omega) h16) (by omega) (by omega) g1) (cs_X3_168 C (by decide)) (CI_ln hC) rfl rfl rfl rfl (Nat.le_of_ble_eq_true rfl) rfl rfl (Nat.le_of_ble_eq_true rfl) (Nat.le_of_ble_eq_true rfl) dX3_text_19 (fun Mq19 hq => ?_)
    obtain ⟨hC1, vb1, c1, n1, hc1, hB1⟩ := hq
    refine z_aload_n C dX3_text_22 rfl 1 rfl ?_
    refine gf_X3_34 C hC1.1 dX3_text_23 ?_
    refine z_callVr (rest := []) (k' := 39) (n' := 1438) C (a_X0_written (z_l X) hC1 hok hB1 (by omega)) (cs_X3_164 C (by decide)) (CI_ln hC1) rfl rfl rfl rfl (Nat.le_of_ble_eq_true rfl) rfl rfl (Nat.le_of_ble_eq_true rfl) (Nat.le_of_ble_eq_true rfl) dX3_text_26 (fun x26 Mq26 hq => ?_)
    have hC2 := hq
    refine ret dX3_text_29 ?_ (by decide) (by decide)
    exact ⟨z_lt3 h_ok rfl, _, _, _, hC2⟩
theorem a_X3_text (l : Launch) (h_st : l.stackTraces = false) {G : zG} {u : sS} {x : Nat} {P RA VA : Nat → Nat} {pa sp ln rf sb : Nat} {Mw : zM} (hC : CI G u x P RA VA pa sp ln rf sb Mw) {t : Nat} (hok : s_ok t u) (pane : Int32) : z_Xr l G qX3_text (z_rm 12 40 1500) [.ref x, .int pane] Mw (CR9 G x pa sp ln rf sb (z_lt (z_is pane 0 5) 1) u) (CX G x pa sp ln rf sb (z_lt (z_is pane 0 5) 1) u) := by
  obtain ⟨fp, hpa, hfp⟩ := CI_pa hC
  rcases z_pc pane with ⟨h_ok, h_ip, hi⟩ | ⟨h_bad, h_nip⟩
  · exact g_X3_text l h_st hC hok h_ok h_ip hi
  · refine z_Xr_mono (c_X3_text_bad l G h_st hC.1 hpa h_nip) (fun r M' h => h.elim) ?_
    rintro E M' (⟨x0_0, rfl, rfl⟩ | ⟨x1_0, rfl, rfl⟩)
    · exact CX_1 (k_1 h_bad) hC
    · exact CX_1 (k_1 h_bad) hC
set_option maxRecDepth 20000 in
theorem a_X3_beginLongRow (l : Launch) {G : zG} {u : sS} {x : Nat} {P RA VA : Nat → Nat} {pa sp ln rf sb : Nat} {Mw : zM} (hC : CI G u x P RA VA pa sp ln rf sb Mw) {t : Nat} (hok : s_ok t u) : z_Mv l G qX3_beginLongRow (z_rm 11 36 1168) [.ref x] Mw (fun Mz => CI G u x P RA VA pa sp ln rf sb Mz ∧ ∃ vb' c' n', c' ≤ 192 ∧ j_B G Mz sb vb' c' n')  := by
  obtain ⟨o9, p9, hsp⟩ := CI_sp' hC
  refine z_Mv_of _ (plainFor_of_name rfl) rfl (Nat.le_of_ble_eq_true rfl) (fun X hl hG hnm C ret => ?_)
  subst hl; subst hG
  have C : z_C X cX3_beginLongRow RX3 1 (z_rm 11 36 1168) := C
  show z_W X Mw 0 0 0 [(0, .ref x)] []
  refine z_aload_n C dX3_beginLongRow_0 rfl 0 rfl ?_
  refine gf_X3_27 C hC.1 dX3_beginLongRow_1 ?_
  refine z_aload_n C dX3_beginLongRow_4 rfl 0 rfl ?_
  refine gf_X3_14 C hC.1 dX3_beginLongRow_5 ?_
  refine z_callVv (rest := []) (k' := 0) (n' := 0) C (c_X1_showAll (z_l X) (z_G X) hsp (CI_RA hC (by have := hok.1; omega)) (CI_VA hC (by have := hok.1; omega))) (cs_X3_57 C (by decide)) hsp rfl rfl rfl rfl (Nat.le_of_ble_eq_true rfl) rfl rfl (by decide) (by decide) dX3_beginLongRow_8 (fun Mq8 hq => ?_)
  have hC1 : CI (z_G X) u x P RA VA pa sp ln rf sb Mq8 := by
    rw [hq]
    exact CI_sp hC (RA 0) ((0, 0, Int32.ofNat (s_ln u 0), 0, Int32.ofNat (s_ln u 0), -1, 0) : sP)
  have hs1 : Mq8 sp = some (cPn (RA 0) 0 (Int32.ofNat (s_ln u 0)) 0 (Int32.ofNat (s_ln u 0)) (-1) 0) := by
    rw [hq]
    exact z_up_s _ _ _
  obtain ⟨vb0, c0, n0, hBq⟩ := CI_B hC1
  refine z_aload_n C dX3_beginLongRow_11 rfl 0 rfl ?_
  refine gf_X3_34 C hC1.1 dX3_beginLongRow_12 ?_
  refine z_aload_n C dX3_beginLongRow_15 rfl 0 rfl ?_
  refine gf_X3_27 C hC1.1 dX3_beginLongRow_16 ?_
  refine z_iconst C (v := 0) dX3_beginLongRow_19 (by decide) ?_
  refine z_aload_n C dX3_beginLongRow_20 rfl 0 rfl ?_
  refine gf_X3_27 C hC1.1 dX3_beginLongRow_21 ?_
  refine gf_X3_63 C hs1 dX3_beginLongRow_24 ?_
  rw [show s_ln u 0 = 16 from hok.2.2.1] at hs1 ⊢
  refine z_callVv (rest := []) (k' := 36) (n' := 1168) C (a_X0_beginValues (z_l X) hC1 hok hBq (fq := 0) (tq := 16) (p9 := ((0, 0, Int32.ofNat 16, 0, Int32.ofNat 16, -1, 0) : sP)) hs1 (show 0 < s_nr u by have := hok.1; omega) (fun j _ hj => (show vp_in (0 + nI j) (s_ln u 0) by rw [hok.2.2.1, Int32.zero_add]; exact nI_in hj (by decide))) (by decide) (by decide) (by decide)) (cs_X3_168 C (by decide)) (CI_ln hC1) rfl rfl rfl rfl (Nat.le_of_ble_eq_true rfl) rfl rfl (Nat.le_of_ble_eq_true rfl) (Nat.le_of_ble_eq_true rfl) dX3_beginLongRow_27 (fun Mq27 hq => ?_)
  obtain ⟨hC2, vb1, c1, n1, hc1, hB1⟩ := hq
  refine ret dX3_beginLongRow_30 ?_ (by decide) (by decide)
  exact ⟨hC2, vb1, c1, n1, hc1, hB1⟩
set_option maxRecDepth 20000 in
theorem a_X3_row (l : Launch) {G : zG} {u : sS} {x : Nat} {P RA VA : Nat → Nat} {pa sp ln rf sb : Nat} {Mw : zM} (hC : CI G u x P RA VA pa sp ln rf sb Mw) {t : Nat} (hok : s_ok t u) : z_Mr l G qX3_row (z_rm 12 40 1500) [.ref x] Mw (fun r Mz => CI G u x P RA VA pa sp ln rf sb Mz)  := by
  refine z_Mr_of _ (plainFor_of_name rfl) rfl (by first | exact Or.inl ⟨_, rfl⟩ | exact Or.inr ⟨_, rfl⟩) (Nat.le_of_ble_eq_true rfl) (fun X hl hG hnm C ret => ?_)
  subst hl; subst hG
  have C : z_C X cX3_row RX3 1 (z_rm 12 40 1500) := C
  show z_W X Mw 0 0 0 [(0, .ref x)] []
  refine z_aload_n C dX3_row_0 rfl 0 rfl ?_
  refine z_callVv (rest := []) (k' := 36) (n' := 1168) C (a_X3_beginLongRow (z_l X) hC hok) (cs_X3_174 C (by decide)) hC.1 rfl rfl rfl rfl (Nat.le_of_ble_eq_true rfl) rfl rfl (Nat.le_of_ble_eq_true rfl) (Nat.le_of_ble_eq_true rfl) dX3_row_1 (fun Mq1 hq => ?_)
  obtain ⟨hC1, vb1, c1, n1, hc1, hB1⟩ := hq
  refine z_aload_n C dX3_row_4 rfl 0 rfl ?_
  refine gf_X3_34 C hC1.1 dX3_row_5 ?_
  refine z_callVr (rest := []) (k' := 38) (n' := 1432) C (a_X0_written (z_l X) hC1 hok hB1 (by omega)) (cs_X3_164 C (by decide)) (CI_ln hC1) rfl rfl rfl rfl (Nat.le_of_ble_eq_true rfl) rfl rfl (Nat.le_of_ble_eq_true rfl) (Nat.le_of_ble_eq_true rfl) dX3_row_8 (fun x8 Mq8 hq => ?_)
  have hC2 := hq
  refine ret dX3_row_11 ?_ (by decide) (by decide)
  exact hC2
end
section
/-! PART 51: the reference's texts: what a new builder keeps -/
theorem z_opq {X : zX} {Mw : zM} {k n pc : Nat} {lv : List (Nat × Value)} {st : List Value} (kk : ∀ Mz, Mz = Mw → z_W X Mz k n pc lv st) : z_W X Mw k n pc lv st := kk Mw rfl
theorem z_tope {X : zX} {Mw : zM} {k n pc : Nat} {lv : List (Nat × Value)} {st : List Value} {x y : Int32} (h : x = y) (kk : z_W X Mw k n pc lv (.int y :: st)) : z_W X Mw k n pc lv (.int x :: st) := by rw [h]; exact kk
def j_K (R0 Mw : zM) (sb vb : Nat) : Prop := R0 sb = none ∧ R0 vb = none ∧ ∀ a e, R0 a = some e → Mw a = some e
theorem j_K_fr {R0 Mw Mz : zM} {sb vb vb' : Nat} (h : j_K R0 Mw sb vb) (hF : j_Fr Mw sb vb vb' Mz) : j_K R0 Mz sb vb' := by
  refine ⟨h.1, ?_, fun a e ha => hF.2 a e (h.2.2 a e ha) (z_neN ha h.1) (z_neN ha h.2.1)⟩
  rcases hF.1 with rfl | hv
  · exact h.2.1
  · cases hr : R0 vb' with
    | none => rfl
    | some e => rw [h.2.2 _ _ hr] at hv; cases hv
theorem j_newSB {G : zG} {R0 Mz : zM} {sb vb : Nat} {e0 : va_E} (h1 : R0 sb = none) (h2 : z_up R0 sb e0 vb = none) (hW : Mz = z_up (z_up R0 vb (aB G 16 (fun _ => 0))) sb (.inr (1, [.ref vb, .int 0, .int 0, .int 0]))) : j_B G Mz sb vb 0 16 ∧ j_K R0 Mz sb vb := by
  have hne : vb ≠ sb := by
    intro q
    rw [q, z_up_s] at h2
    cases h2
  rw [z_up_n _ _ hne] at h2
  subst hW
  refine ⟨⟨0, fun _ => 0, z_up_s _ _ _, by rw [z_up_n _ _ hne, z_up_s], sb_fit0, by decide, by decide, by decide⟩, h1, h2, fun a e ha => ?_⟩
  rw [z_up_n _ _ (z_neN ha h1), z_up_n _ _ (z_neN ha h2)]
  exact ha
/-- a String that was made -/
def j_St (G : zG) (r : Nat) (Mz : zM) : Prop := ∃ (q cc : Nat) (f : Nat → Int32), Mz r = some (cSt q 0 0 0) ∧ Mz q = some (aB G cc f) ∧ sb_Fit f ∧ cc ≤ 280
theorem j_toStrR (l : Launch) {G : zG} {R0 Mw : zM} {sb vb c n : Nat} (hB : j_B G Mw sb vb c n) (hK : j_K R0 Mw sb vb) (hc : c ≤ 280) : z_Mr l G qJ4_toString_0e30d (z_rm 6 2 (4 + c)) [.ref sb] Mw (fun r Mz => j_St G r Mz ∧ ∀ a e, R0 a = some e → Mz a = some e) := by
  obtain ⟨ml, f, h1, h2, hf, g1, g2, g3⟩ := hB
  refine z_Mr_mono (c_J4_toString_0e30d l G h1 h2 g1 (by omega) hf) ?_
  rintro r Mz ⟨f9, q0, hq0, q9, hq9, hf9, hr9, rfl⟩
  have h9 := j_two9 (e' := aB G c f9) hq0 hq9
  have hne : q9 ≠ q0 := by
    intro q
    rw [q, z_up_s] at hq9
    cases hq9
  rw [hr9]
  refine ⟨⟨q9, c, f9, z_up_s _ _ _, by rw [z_up_n _ _ hne, z_up_s], hf9, hc⟩, fun a e ha => ?_⟩
  have ha' := hK.2.2 a e ha
  rw [z_up_n _ _ (z_neN ha' hq0), z_up_n _ _ (z_neN ha' h9.1)]
  exact ha'
theorem z_kln1 (i : Nat) (h : 0 < i) (h5 : i < 5) : z_kln i = 1 := by
  rcases (show i = 1 ∨ i = 2 ∨ i = 3 ∨ i = 4 by omega) with rfl | rfl | rfl | rfl <;> rfl
theorem dX5_joined_0 : decode cX5_joined 0 = .ok (.new 106, 3) := by decide +kernel
theorem dX5_joined_3 : decode cX5_joined 3 = .ok (.dup, 1) := by decide +kernel
theorem dX5_joined_4 : decode cX5_joined 4 = .ok (.invokespecial 108, 3) := by decide +kernel
theorem dX5_joined_7 : decode cX5_joined 7 = .ok (.astore_n 3, 1) := by decide +kernel
theorem dX5_joined_8 : decode cX5_joined 8 = .ok (.iload_n 1, 1) := by decide +kernel
theorem dX5_joined_9 : decode cX5_joined 9 = .ok (.istore 4, 2) := by decide +kernel
theorem dX5_joined_11 : decode cX5_joined 11 = .ok (.iload 4, 2) := by decide +kernel
theorem dX5_joined_13 : decode cX5_joined 13 = .ok (.iload_n 2, 1) := by decide +kernel
theorem dX5_joined_14 : decode cX5_joined 14 = .ok (.if_icmp .ge 34, 3) := by decide +kernel
theorem dX5_joined_17 : decode cX5_joined 17 = .ok (.iload 4, 2) := by decide +kernel
theorem dX5_joined_19 : decode cX5_joined 19 = .ok (.iload_n 1, 1) := by decide +kernel
theorem dX5_joined_20 : decode cX5_joined 20 = .ok (.if_icmp .le 10, 3) := by decide +kernel
theorem dX5_joined_23 : decode cX5_joined 23 = .ok (.aload_n 3, 1) := by decide +kernel
theorem dX5_joined_24 : decode cX5_joined 24 = .ok (.ldc 120, 2) := by decide +kernel
theorem dX5_joined_26 : decode cX5_joined 26 = .ok (.invokevirtual 109, 3) := by decide +kernel
theorem dX5_joined_29 : decode cX5_joined 29 = .ok (.pop, 1) := by decide +kernel
theorem dX5_joined_30 : decode cX5_joined 30 = .ok (.aload_n 3, 1) := by decide +kernel
theorem dX5_joined_31 : decode cX5_joined 31 = .ok (.aload_n 0, 1) := by decide +kernel
theorem dX5_joined_32 : decode cX5_joined 32 = .ok (.getfield 9, 3) := by decide +kernel
theorem dX5_joined_35 : decode cX5_joined 35 = .ok (.iload 4, 2) := by decide +kernel
theorem dX5_joined_37 : decode cX5_joined 37 = .ok (.iaload, 1) := by decide +kernel
theorem dX5_joined_38 : decode cX5_joined 38 = .ok (.invokevirtual 122, 3) := by decide +kernel
theorem dX5_joined_41 : decode cX5_joined 41 = .ok (.pop, 1) := by decide +kernel
theorem dX5_joined_42 : decode cX5_joined 42 = .ok (.iinc 4 1, 3) := by decide +kernel
theorem dX5_joined_45 : decode cX5_joined 45 = .ok (.goto (-34), 3) := by decide +kernel
theorem dX5_joined_48 : decode cX5_joined 48 = .ok (.aload_n 3, 1) := by decide +kernel
theorem dX5_joined_49 : decode cX5_joined 49 = .ok (.invokevirtual 116, 3) := by decide +kernel
theorem dX5_joined_52 : decode cX5_joined 52 = .ok (.areturn, 1) := by decide +kernel
set_option maxRecDepth 20000 in
theorem lp_X5_joined {X : zX} (C : z_C X cX5_joined RX5 5 (z_rm 9 40 1500)) {u : sS} {m : Nat} {th : Int32} {K : Nat → Nat} {tp pn td sb : Nat} {R0 : zM} (hR : RI (z_G X) u m th K tp pn td R0) {nt fq tq : Nat} {ft : Nat → Int32} (htp : R0 tp = some (aI (z_G X) nt ft)) (hval : ∀ k, fq ≤ k → k < tq → vp_in (nI k) nt ∧ 0 ≤ (ft k).toInt) (hft : tq ≤ fq + 16) (htq : tq ≤ 90000) (kk : ∀ c n vb Mz, c ≤ 176 → 16 ≤ n → j_K R0 Mz sb vb → j_B (z_G X) Mz sb vb c n → z_W X Mz (2 + (n - 16) / 16) (20 + 2 * (n - 16)) 48 [(3, .ref sb)] []) : ∀ (d jx c n vb : Nat) (Mw : zM), jx + d = tq → fq ≤ jx → c ≤ 11 * (jx - fq) → j_K R0 Mw sb vb → j_B (z_G X) Mw sb vb c n → 16 ≤ n → z_W X Mw (2 + (n - 16) / 16) (20 + 2 * (n - 16)) 11 [(4, .int (nI jx)), (0, .ref m), (1, .int (nI fq)), (2, .int (nI tq)), (3, .ref sb)] [] := by
  intro d
  induction d with
  | zero =>
    intro jx c n vb Mw hd hj hc9 hK hB hn0
    have hb0 := j_B_c hB
    refine z_iload C dX5_joined_11 0 rfl ?_
    refine z_iload_n C dX5_joined_13 rfl 3 rfl ?_
    refine z_icmp_ge C (tgt := 48) dX5_joined_14 (by decide) (fun _ => ?_) (fun c14 => absurd (nI_le (by omega) (by omega)) c14)
    refine z_fewer [4] rfl ?_
    exact kk _ _ _ _ (by omega) (by omega) hK hB
  | succ d ih =>
    intro jx c n vb Mw hd hj hc9 hK hB hn0
    have hb0 := j_B_c hB
    refine z_iload C dX5_joined_11 0 rfl ?_
    refine z_iload_n C dX5_joined_13 rfl 3 rfl ?_
    refine z_icmp_ge C (tgt := 48) dX5_joined_14 (by decide) (fun c14 => absurd c14 (nI_ge (by omega) (by omega))) (fun _ => ?_)
    refine z_iload C dX5_joined_17 0 rfl ?_
    refine z_iload_n C dX5_joined_19 rfl 2 rfl ?_
    refine z_icmp_le C (tgt := 30) dX5_joined_20 (by decide) (fun c20 => ?_) (fun c20 => ?_)
    · refine z_aload_n C dX5_joined_30 rfl 4 rfl ?_
      refine z_aload_n C dX5_joined_31 rfl 1 rfl ?_
      refine gf_X5_9 C ((hK).2.2 _ _ hR.1) dX5_joined_32 ?_
      refine z_iload C dX5_joined_35 0 rfl ?_
      refine z_iald (j := jx) C ((hK).2.2 _ _ htp) (hval jx (by omega) (by omega)).1 (nI_clamp (by omega)) dX5_joined_37 ?_
      have hw1 := sb_dg_in ((ft jx).toNatClampNeg)
      refine z_tope (y := nI ((ft jx).toNatClampNeg)) (z_cN (hval jx (by omega) (by omega)).2).1 ?_
      have hm1 := j_B_c hB
      have hl1 := j_cap_le (n := n) (q := c + (sb_dg ((ft jx).toNatClampNeg))) hm1.2.2 (by omega)
      refine j_site (q := qJ4_append_bf812) (c := c) (n := n) (w := (sb_dg ((ft jx).toNatClampNeg))) (F := 3) (k0 := 2) (s0 := 20) (n0 := 16) (rest := []) C hB rfl (fun h9 => cs_X5_122 C h9) ⟨Nat.le_of_ble_eq_true rfl, Nat.le_of_ble_eq_true rfl⟩ (Nat.le_of_ble_eq_true rfl) (Nat.le_of_ble_eq_true rfl) (fun h9 => j_I_fit hB (j_v31 _) h9) (fun h9 => j_I_grow hB (j_v31 _) (by omega) h9) rfl rfl (Nat.le_of_ble_eq_true rfl) (by omega) (by show _ ≤ 40; omega) (by show _ ≤ 1500; omega) dX5_joined_38 (fun vc1 Mc1 hB1 hF1 => ?_)
      have hK1 := j_K_fr hK hF1
      have hn1 := j_cap_ge (n) (c + (sb_dg ((ft jx).toNatClampNeg)))
      refine z_pop C dX5_joined_41 rfl ?_
      refine z_iinc (v := nI (jx + 1)) (lv' := [(4, .int (nI (jx + 1))), (0, .ref m), (1, .int (nI fq)), (2, .int (nI tq)), (3, .ref sb)]) C dX5_joined_42 0 rfl (nI_1 jx) (by decide) rfl ?_
      refine z_goto C (tgt := 11) dX5_joined_45 (by decide) ?_
      refine z_fewer [0, 1, 2, 3, 4] rfl ?_
      exact ih (jx + 1) _ _ _ _ (by omega) (by omega) (by omega) hK1 hB1 (by omega)
    · refine z_aload_n C dX5_joined_23 rfl 4 rfl ?_
      refine z_ldcK (i := 1) C (by decide) rfl dX5_joined_24 ?_
      have hw1 : z_kln 1 ≤ 1 := z_kln_in 1 (by decide)
      have hm1 := j_B_c hB
      have hl1 := j_cap_le (n := n) (q := c + (z_kln 1)) hm1.2.2 (by omega)
      refine j_site (q := qJ4_append_15ec4) (c := c) (n := n) (w := (z_kln 1)) (F := 5) (k0 := 2) (s0 := 20) (n0 := 16) (rest := []) C hB rfl (fun h9 => cs_X5_109 C h9) ⟨Nat.le_of_ble_eq_true rfl, Nat.le_of_ble_eq_true rfl⟩ (Nat.le_of_ble_eq_true rfl) (Nat.le_of_ble_eq_true rfl) (fun h9 => j_S_fit hB (by decide) h9) (fun h9 => j_S_grow hB (by decide) (by omega) h9) rfl rfl (Nat.le_of_ble_eq_true rfl) (by omega) (by show _ ≤ 40; omega) (by show _ ≤ 1500; omega) dX5_joined_26 (fun vc1 Mc1 hB1 hF1 => ?_)
      have hK1 := j_K_fr hK hF1
      have hn1 := j_cap_ge (n) (c + (z_kln 1))
      refine z_pop C dX5_joined_29 rfl ?_
      refine z_aload_n C dX5_joined_30 rfl 4 rfl ?_
      refine z_aload_n C dX5_joined_31 rfl 1 rfl ?_
      refine gf_X5_9 C ((hK1).2.2 _ _ hR.1) dX5_joined_32 ?_
      refine z_iload C dX5_joined_35 0 rfl ?_
      refine z_iald (j := jx) C ((hK1).2.2 _ _ htp) (hval jx (by omega) (by omega)).1 (nI_clamp (by omega)) dX5_joined_37 ?_
      have hw2 := sb_dg_in ((ft jx).toNatClampNeg)
      refine z_tope (y := nI ((ft jx).toNatClampNeg)) (z_cN (hval jx (by omega) (by omega)).2).1 ?_
      have hm2 := j_B_c hB1
      have hl2 := j_cap_le (n := (j_cap n (c + (z_kln 1)))) (q := (c + (z_kln 1)) + (sb_dg ((ft jx).toNatClampNeg))) hm2.2.2 (by omega)
      refine j_site (q := qJ4_append_bf812) (c := (c + (z_kln 1))) (n := (j_cap n (c + (z_kln 1)))) (w := (sb_dg ((ft jx).toNatClampNeg))) (F := 3) (k0 := 2) (s0 := 20) (n0 := 16) (rest := []) C hB1 rfl (fun h9 => cs_X5_122 C h9) ⟨Nat.le_of_ble_eq_true rfl, Nat.le_of_ble_eq_true rfl⟩ (Nat.le_of_ble_eq_true rfl) (Nat.le_of_ble_eq_true rfl) (fun h9 => j_I_fit hB1 (j_v31 _) h9) (fun h9 => j_I_grow hB1 (j_v31 _) (by omega) h9) rfl rfl (Nat.le_of_ble_eq_true rfl) (by omega) (by show _ ≤ 40; omega) (by show _ ≤ 1500; omega) dX5_joined_38 (fun vc2 Mc2 hB2 hF2 => ?_)
      have hK2 := j_K_fr hK1 hF2
      have hn2 := j_cap_ge ((j_cap n (c + (z_kln 1)))) ((c + (z_kln 1)) + (sb_dg ((ft jx).toNatClampNeg)))
      refine z_pop C dX5_joined_41 rfl ?_
      refine z_iinc (v := nI (jx + 1)) (lv' := [(4, .int (nI (jx + 1))), (0, .ref m), (1, .int (nI fq)), (2, .int (nI tq)), (3, .ref sb)]) C dX5_joined_42 0 rfl (nI_1 jx) (by decide) rfl ?_
      refine z_goto C (tgt := 11) dX5_joined_45 (by decide) ?_
      refine z_fewer [0, 1, 2, 3, 4] rfl ?_
      exact ih (jx + 1) _ _ _ _ (by omega) (by omega) (by omega) hK2 hB2 (by omega)
set_option maxRecDepth 20000 in
theorem a_X5_joined (l : Launch) {G : zG} {u : sS} {m : Nat} {th : Int32} {K : Nat → Nat} {tp pn td : Nat} {Mw : zM} (hR : RI G u m th K tp pn td Mw) {nt fq tq : Nat} {ft : Nat → Int32} (htp : Mw tp = some (aI G nt ft)) (hval : ∀ k, fq ≤ k → k < tq → vp_in (nI k) nt ∧ 0 ≤ (ft k).toInt) (hft : tq ≤ fq + 16) (htq : tq ≤ 90000) (hfq : fq ≤ tq) : z_Mr l G qX5_joined (z_rm 9 40 1500) [.ref m, .int (nI fq), .int (nI tq)] Mw (fun r Mz => j_St G r Mz ∧ RI G u m th K tp pn td Mz)  := by
  refine z_Mr_of _ (plainFor_of_name rfl) rfl (by first | exact Or.inl ⟨_, rfl⟩ | exact Or.inr ⟨_, rfl⟩) (Nat.le_of_ble_eq_true rfl) (fun X hl hG hnm C ret => ?_)
  subst hl; subst hG
  have C : z_C X cX5_joined RX5 5 (z_rm 9 40 1500) := C
  show z_W X Mw 0 0 0 [(0, .ref m), (1, .int (nI fq)), (2, .int (nI tq))] []
  refine z_new (ci := 1) (fs := [.null, .int 0, .int 0, .int 0]) C rfl inJ4 tyJ4 tyJ4_ok kw1257 kw96 kw6 (fun j hj => by rcases (show j = 0 ∨ j = 1 ∨ j = 2 ∨ j = 3 by omega) with rfl | rfl | rfl | rfl <;> rfl) (by decide) (by decide) dX5_joined_0 (fun q0 hq0 => ?_)
  refine z_kn (k' := 1) (n' := 4) rfl rfl ?_
  refine z_dup C dX5_joined_3 rfl ?_
  refine z_callI (rest := [.ref q0]) (k' := 2) (n' := 20) C (c_J4_init_da8c8 (z_l X) (z_G X) (z_up_s _ _ _)) (cs_X5_108 C ⟨Nat.le_of_ble_eq_true rfl, Nat.le_of_ble_eq_true rfl⟩) rfl rfl (Nat.le_of_ble_eq_true rfl) rfl rfl (by decide) (by decide) dX5_joined_4 (fun M' hq => ?_)
  obtain ⟨q12_3_4, hq12_3_4, rfl⟩ := hq
  rw [z_up_swap _ (z_neN (z_up_s _ _ _) hq12_3_4)]
  rw [z_up_up]
  refine z_opq (fun Mb hWb => ?_)
  obtain ⟨hBn, hKn⟩ := j_newSB hq0 hq12_3_4 hWb
  clear hWb
  refine z_kn (k' := 2 + (16 - 16) / 16) (n' := 20 + 2 * (16 - 16)) rfl rfl ?_
  generalize q0 = sb at hBn hKn ⊢
  refine z_astore_n (lv' := [(3, .ref sb), (0, .ref m), (1, .int (nI fq)), (2, .int (nI tq))]) C dX5_joined_7 rfl (by decide) rfl ?_
  refine z_iload_n C dX5_joined_8 rfl 2 rfl ?_
  refine z_istore (lv' := [(4, .int (nI fq)), (3, .ref sb), (0, .ref m), (1, .int (nI fq)), (2, .int (nI tq))]) C dX5_joined_9 (by decide) rfl ?_
  refine z_fewer [0, 2, 3, 4, 1] rfl ?_
  refine lp_X5_joined C hR htp hval hft htq (fun c1 n1 vb1 Mz hc1 hn1 h1 h2 => ?_) (tq - fq) fq 0 16 _ _ (by omega) (Nat.le_refl _) (by omega) hKn hBn (Nat.le_refl _)
  refine z_aload_n C dX5_joined_48 rfl 0 rfl ?_
  obtain ⟨ml9, hs9⟩ := j_sbE h2
  have hm9 := j_B_c h2
  refine z_callVr (rest := []) (k' := 2 + (n1 - 16) / 16 + 2) (n' := 20 + 2 * (n1 - 16) + (4 + c1)) C (j_toStrR (z_l X) h2 h1 (by omega)) (cs_X5_116 C ⟨Nat.le_of_ble_eq_true rfl, Nat.le_of_ble_eq_true rfl⟩) hs9 rfl rfl rfl rfl (Nat.le_of_ble_eq_true rfl) rfl rfl (by show _ ≤ 40; omega) (by show _ ≤ 1500; omega) dX5_joined_49 (fun x49 Mq49 hq => ?_)
  obtain ⟨hSt, hk9⟩ := hq
  refine ret dX5_joined_52 ?_ (by show _ ≤ 40; omega) (by show _ ≤ 1500; omega)
  exact ⟨hSt, RI_mono hR hk9⟩
end
section
/-! PART 52: the reference's calls that answer a text -/
def RT9 (G : zG) (m pn td : Nat) (k : Int32) (u : sS) : Nat → zM → Prop := fun r Mz => (∃ K' tp', RI G u m k K' tp' pn td Mz) ∧ (k = 0 → j_St G r Mz)
theorem j_sa {t : Nat} {u : sS} (hok : s_ok t u) {i : Nat} (hi : i < 6) : ∃ sq pq lq cq : Nat, p_sa (s_pn u i) = nI sq ∧ p_po (s_pn u i) = nI pq ∧ p_li (s_pn u i) = nI lq ∧ p_cp (s_pn u i) = nI cq ∧ pq ≤ lq ∧ lq ≤ cq ∧ cq ≤ 16 ∧ sq + cq ≤ s_ln u (p_ro (s_pn u i)) := by
  obtain ⟨a1, a2, a3, a4, a5, a6, a7⟩ := s_ow hok hi
  have h0 := z_cN a1
  have h1 := z_cN a2
  have h2 := z_cN (x := p_li (s_pn u i)) (by omega)
  have h3 := z_cN (x := p_cp (s_pn u i)) (by omega)
  exact ⟨_, _, _, _, h0.1, h1.1, h2.1, h3.1, by omega, by omega, by omega, by omega⟩
theorem j_wh (b s p : Nat) {x y : Int32} (hx : x = nI s) (hy : y = nI p) : (nI b + x) + y = nI (b + s + p) := by
  rw [hx, hy, j_add, j_add]
theorem j_val {t : Nat} {u : sS} (hok : s_ok t u) (ht : t ≤ 64) {ft : Nat → Int32} (hft : ∀ r, r < s_nr u → ∀ j, j < s_ln u r → ft (s_ba (s_ln u) r + j) = s_vl u r j) {r : Nat} (hr : r < s_nr u) {k : Nat} (h1 : s_ba (s_ln u) r ≤ k) (h2 : k < s_ba (s_ln u) r + s_ln u r) : vp_in (nI k) (s_ba (s_ln u) (s_nr u)) ∧ 0 ≤ (ft k).toInt := by
  have h3 := s_ba_lt (s_ln u) hr
  have h4 := s_ba_nt hok ht
  refine ⟨nI_in (by omega) (by omega), ?_⟩
  have e := hft r hr (k - s_ba (s_ln u) r) (by omega)
  rw [show s_ba (s_ln u) r + (k - s_ba (s_ln u) r) = k by omega] at e
  rw [e]
  exact s_v0 hok _ _
theorem dX5_row_0 : decode cX5_row 0 = .ok (.aload_n 0, 1) := by decide +kernel
theorem dX5_row_1 : decode cX5_row 1 = .ok (.iconst 0, 1) := by decide +kernel
theorem dX5_row_2 : decode cX5_row 2 = .ok (.putfield 33, 3) := by decide +kernel
theorem dX5_row_5 : decode cX5_row 5 = .ok (.aload_n 0, 1) := by decide +kernel
theorem dX5_row_6 : decode cX5_row 6 = .ok (.iconst 0, 1) := by decide +kernel
theorem dX5_row_7 : decode cX5_row 7 = .ok (.bipush 16, 2) := by decide +kernel
theorem dX5_row_9 : decode cX5_row 9 = .ok (.invokevirtual 125, 3) := by decide +kernel
theorem dX5_row_12 : decode cX5_row 12 = .ok (.areturn, 1) := by decide +kernel
theorem dX5_text_0 : decode cX5_text 0 = .ok (.aload_n 0, 1) := by decide +kernel
theorem dX5_text_1 : decode cX5_text 1 = .ok (.iload_n 1, 1) := by decide +kernel
theorem dX5_text_2 : decode cX5_text 2 = .ok (.invokestatic 55, 3) := by decide +kernel
theorem dX5_text_5 : decode cX5_text 5 = .ok (.iconst 1, 1) := by decide +kernel
theorem dX5_text_6 : decode cX5_text 6 = .ok (.invokevirtual 59, 3) := by decide +kernel
theorem dX5_text_9 : decode cX5_text 9 = .ok (.ifCond .eq 46, 3) := by decide +kernel
theorem dX5_text_12 : decode cX5_text 12 = .ok (.aload_n 0, 1) := by decide +kernel
theorem dX5_text_13 : decode cX5_text 13 = .ok (.aload_n 0, 1) := by decide +kernel
theorem dX5_text_14 : decode cX5_text 14 = .ok (.aload_n 0, 1) := by decide +kernel
theorem dX5_text_15 : decode cX5_text 15 = .ok (.getfield 18, 3) := by decide +kernel
theorem dX5_text_18 : decode cX5_text 18 = .ok (.iload_n 1, 1) := by decide +kernel
theorem dX5_text_19 : decode cX5_text 19 = .ok (.aaload, 1) := by decide +kernel
theorem dX5_text_20 : decode cX5_text 20 = .ok (.aload_n 0, 1) := by decide +kernel
theorem dX5_text_21 : decode cX5_text 21 = .ok (.getfield 18, 3) := by decide +kernel
theorem dX5_text_24 : decode cX5_text 24 = .ok (.iload_n 1, 1) := by decide +kernel
theorem dX5_text_25 : decode cX5_text 25 = .ok (.aaload, 1) := by decide +kernel
theorem dX5_text_26 : decode cX5_text 26 = .ok (.iconst 4, 1) := by decide +kernel
theorem dX5_text_27 : decode cX5_text 27 = .ok (.iaload, 1) := by decide +kernel
theorem dX5_text_28 : decode cX5_text 28 = .ok (.invokevirtual 51, 3) := by decide +kernel
theorem dX5_text_31 : decode cX5_text 31 = .ok (.aload_n 0, 1) := by decide +kernel
theorem dX5_text_32 : decode cX5_text 32 = .ok (.aload_n 0, 1) := by decide +kernel
theorem dX5_text_33 : decode cX5_text 33 = .ok (.getfield 18, 3) := by decide +kernel
theorem dX5_text_36 : decode cX5_text 36 = .ok (.iload_n 1, 1) := by decide +kernel
theorem dX5_text_37 : decode cX5_text 37 = .ok (.aaload, 1) := by decide +kernel
theorem dX5_text_38 : decode cX5_text 38 = .ok (.aload_n 0, 1) := by decide +kernel
theorem dX5_text_39 : decode cX5_text 39 = .ok (.getfield 18, 3) := by decide +kernel
theorem dX5_text_42 : decode cX5_text 42 = .ok (.iload_n 1, 1) := by decide +kernel
theorem dX5_text_43 : decode cX5_text 43 = .ok (.aaload, 1) := by decide +kernel
theorem dX5_text_44 : decode cX5_text 44 = .ok (.iconst 5, 1) := by decide +kernel
theorem dX5_text_45 : decode cX5_text 45 = .ok (.iaload, 1) := by decide +kernel
theorem dX5_text_46 : decode cX5_text 46 = .ok (.invokevirtual 51, 3) := by decide +kernel
theorem dX5_text_49 : decode cX5_text 49 = .ok (.invokevirtual 125, 3) := by decide +kernel
theorem dX5_text_52 : decode cX5_text 52 = .ok (.goto 5, 3) := by decide +kernel
theorem dX5_text_55 : decode cX5_text 55 = .ok (.ldc 104, 2) := by decide +kernel
theorem dX5_text_57 : decode cX5_text 57 = .ok (.areturn, 1) := by decide +kernel
set_option maxRecDepth 20000 in
theorem a_X5_row (l : Launch) {G : zG} {u : sS} {m : Nat} {th : Int32} {K : Nat → Nat} {tp pn td : Nat} {Mw : zM} (hR : RI G u m th K tp pn td Mw) {t : Nat} (hok : s_ok t u) (ht : t ≤ 64) : z_Mr l G qX5_row (z_rm 11 40 1500) [.ref m] Mw (RT9 G m pn td 0 u)  := by
  refine z_Mr_of _ (plainFor_of_name rfl) rfl (by first | exact Or.inl ⟨_, rfl⟩ | exact Or.inr ⟨_, rfl⟩) (Nat.le_of_ble_eq_true rfl) (fun X hl hG hnm C ret => ?_)
  subst hl; subst hG
  have C : z_C X cX5_row RX5 1 (z_rm 11 40 1500) := C
  show z_W X Mw 0 0 0 [(0, .ref m)] []
  refine z_aload_n C dX5_row_0 rfl 0 rfl ?_
  refine z_iconst C (v := 0) dX5_row_1 (by decide) ?_
  refine pf_X5_33 C hR.1 dX5_row_2 ?_
  refine z_opq (fun Mb hWb => ?_)
  have hR0 : RI (z_G X) u m (0) K tp pn td Mb := by
    rw [hWb]
    exact RI_ak hR _ _ _
  clear hWb
  obtain ⟨ft0, htp0, hft0⟩ := RI_tpf hR0
  obtain ⟨fp0, hpn0, hfp0⟩ := RI_pnf hR0
  refine z_aload_n C dX5_row_5 rfl 0 rfl ?_
  refine z_iconst C (v := 0) dX5_row_6 (by decide) ?_
  refine z_bipush C (v := 16) dX5_row_7 (by decide) ?_
  refine z_callVr (rest := []) (k' := 40) (n' := 1500) C (a_X5_joined (z_l X) hR0 htp0 (fq := 0) (tq := 16) (fun k h1 h2 => j_val hok ht hft0 (r := 0) (by have := hok.1; omega) (by show 0 ≤ k; omega) (by show k < 0 + s_ln u 0; rw [hok.2.2.1]; omega)) (by omega) (by omega) (by omega)) (cs_X5_125 C (by decide)) hR0.1 rfl rfl rfl rfl (Nat.le_of_ble_eq_true rfl) rfl rfl (Nat.le_of_ble_eq_true rfl) (Nat.le_of_ble_eq_true rfl) dX5_row_9 (fun x9 Mq9 hq => ?_)
  obtain ⟨hSt, hR9⟩ := hq
  refine ret dX5_row_12 ?_ (by decide) (by decide)
  exact ⟨⟨_, _, hR9⟩, fun _ => hSt⟩
set_option maxRecDepth 20000 in
theorem c_X5_text_bad (l : Launch) (G : zG) {M : zM} {m : Nat} {pane : Int32} {tp : Nat} {nr : Int32} {pn : Nat} {td : Nat} {ac : Int32} {kn : Int32} {th : Int32}  (h_m : M m = some (cMd tp nr pn td ac kn th)) (h_bad : z_is pane 0 5 = 0) : z_Mr l G qX5_text (z_rm 11 40 1500) [.ref m, .int pane] M (fun r M' => r = zK G 0 ∧ M' = z_up M m (cMd tp nr pn td ac kn (z_lt (z_is pane 0 5) 1)))  := by
  refine z_Mr_of _ (plainFor_of_name rfl) rfl (by first | exact Or.inl ⟨_, rfl⟩ | exact Or.inr ⟨_, rfl⟩) (Nat.le_of_ble_eq_true rfl) (fun X hl hG hnm C ret => ?_)
  subst hl; subst hG
  have C : z_C X cX5_text RX5 2 (z_rm 11 40 1500) := C
  show z_W X M 0 0 0 [(0, .ref m), (1, .int pane)] []
  refine z_aload_n C dX5_text_0 rfl 0 rfl ?_
  refine z_iload_n C dX5_text_1 rfl 1 rfl ?_
  refine z_callSi (rest := [.ref m]) (k' := 0) (n' := 0) C (c_X5_isPane (z_l X) (z_G X) ) (cs_X5_55 C (by decide)) rfl rfl (Nat.le_of_ble_eq_true rfl) rfl rfl (by decide) (by decide) dX5_text_2 (fun x2 M' hq => ?_)
  obtain ⟨rfl, rfl⟩ := hq
  refine z_iconst C (v := 1) dX5_text_5 (by decide) ?_
  refine z_callVi (rest := []) (k' := 0) (n' := 0) C (c_X5_isLet (z_l X) (z_G X) h_m) (cs_X5_59 C (by decide)) h_m rfl rfl rfl rfl (Nat.le_of_ble_eq_true rfl) rfl rfl (by decide) (by decide) dX5_text_6 (fun x6 M' hq => ?_)
  obtain ⟨rfl, rfl⟩ := hq
  refine z_if_eq C (tgt := 55) dX5_text_9 (by decide) (fun _ => ?_) (fun c9 => absurd (by simp [z_lr, z_lt, h_bad]) c9)
  refine z_ldcK (i := 0) C (by decide) rfl dX5_text_55 ?_
  exact ret dX5_text_57 (⟨rfl, rfl⟩) (by decide) (by decide)
set_option maxRecDepth 20000 in
theorem g_X5_text (l : Launch) {G : zG} {u : sS} {m : Nat} {th : Int32} {K : Nat → Nat} {tp pn td : Nat} {Mw : zM} (hR : RI G u m th K tp pn td Mw) {t : Nat} (hok : s_ok t u) (ht : t ≤ 64) {pane : Int32} (h_ok : z_is pane 0 5 = 1) (h_ip : vp_in pane 6) (hi : pane.toNatClampNeg < 6) : z_Mr l G qX5_text (z_rm 11 40 1500) [.ref m, .int pane] Mw (RT9 G m pn td (z_lt (z_is pane 0 5) 1) u)  := by
  obtain ⟨ft, htp, hft⟩ := RI_tpf hR
  obtain ⟨fp, hpn, hfp⟩ := RI_pnf hR
  obtain ⟨sq, pq, lq, cq, hsa, hpo, hli, hcp, g1, g2, g3, g4⟩ := j_sa hok hi
  have hrw := s_row hok hi
  have hnt := s_ba_nt hok ht
  have hbl := s_ba_lt (s_ln u) hrw
  refine z_Mr_of _ (plainFor_of_name rfl) rfl (by first | exact Or.inl ⟨_, rfl⟩ | exact Or.inr ⟨_, rfl⟩) (Nat.le_of_ble_eq_true rfl) (fun X hl hG hnm C ret => ?_)
  subst hl; subst hG
  have C : z_C X cX5_text RX5 2 (z_rm 11 40 1500) := C
  show z_W X Mw 0 0 0 [(0, .ref m), (1, .int pane)] []
  refine z_aload_n C dX5_text_0 rfl 0 rfl ?_
  refine z_iload_n C dX5_text_1 rfl 1 rfl ?_
  refine z_callSi (rest := [.ref m]) (k' := 0) (n' := 0) C (c_X5_isPane (z_l X) (z_G X) ) (cs_X5_55 C (by decide)) rfl rfl (Nat.le_of_ble_eq_true rfl) rfl rfl (by decide) (by decide) dX5_text_2 (fun x2 M' hq => ?_)
  obtain ⟨rfl, rfl⟩ := hq
  refine z_iconst C (v := 1) dX5_text_5 (by decide) ?_
  refine z_callVi (rest := []) (k' := 0) (n' := 0) C (c_X5_isLet (z_l X) (z_G X) hR.1) (cs_X5_59 C (by decide)) hR.1 rfl rfl rfl rfl (Nat.le_of_ble_eq_true rfl) rfl rfl (by decide) (by decide) dX5_text_6 (fun x6 M' hq => ?_)
  obtain ⟨rfl, rfl⟩ := hq
  refine z_if_eq C (tgt := 55) dX5_text_9 (by decide) (fun c9 => absurd c9 (by simp [z_lr, z_lt, h_ok])) (fun _ => ?_)
  refine z_opq (fun Mb hWb => ?_)
  have hR0 : RI (z_G X) u m (z_lt (z_is pane 0 5) 1) K tp pn td Mb := by
    rw [hWb]
    exact RI_ak hR _ _ _
  clear hWb
  obtain ⟨ft0, htp0, hft0⟩ := RI_tpf hR0
  obtain ⟨fp0, hpn0, hfp0⟩ := RI_pnf hR0
  refine z_aload_n C dX5_text_12 rfl 0 rfl ?_
  refine z_aload_n C dX5_text_13 rfl 0 rfl ?_
  refine z_aload_n C dX5_text_14 rfl 0 rfl ?_
  refine gf_X5_18 C hR0.1 dX5_text_15 ?_
  refine z_iload_n C dX5_text_18 rfl 1 rfl ?_
  refine z_aaldI (j := pane.toNatClampNeg) C hpn0 h_ip rfl (hfp0 _ hi) dX5_text_19 ?_
  refine z_aload_n C dX5_text_20 rfl 0 rfl ?_
  refine gf_X5_18 C hR0.1 dX5_text_21 ?_
  refine z_iload_n C dX5_text_24 rfl 1 rfl ?_
  refine z_aaldI (j := pane.toNatClampNeg) C hpn0 h_ip rfl (hfp0 _ hi) dX5_text_25 ?_
  refine z_iconst C (v := 4) dX5_text_26 (by decide) ?_
  refine z_pl4 C (RI_K hR0 hi) dX5_text_27 ?_
  refine z_callVi (rest := [.ref m]) (k' := 0) (n' := 0) C (c_X5_where (z_l X) (z_G X) (RI_K hR0 hi)) (cs_X5_51 C (by decide)) hR0.1 rfl rfl rfl rfl (Nat.le_of_ble_eq_true rfl) rfl rfl (by decide) (by decide) dX5_text_28 (fun x28 M' hq => ?_)
  obtain ⟨rfl, rfl⟩ := hq
  refine z_aload_n C dX5_text_31 rfl 0 rfl ?_
  refine z_aload_n C dX5_text_32 rfl 0 rfl ?_
  refine gf_X5_18 C hR0.1 dX5_text_33 ?_
  refine z_iload_n C dX5_text_36 rfl 1 rfl ?_
  refine z_aaldI (j := pane.toNatClampNeg) C hpn0 h_ip rfl (hfp0 _ hi) dX5_text_37 ?_
  refine z_aload_n C dX5_text_38 rfl 0 rfl ?_
  refine gf_X5_18 C hR0.1 dX5_text_39 ?_
  refine z_iload_n C dX5_text_42 rfl 1 rfl ?_
  refine z_aaldI (j := pane.toNatClampNeg) C hpn0 h_ip rfl (hfp0 _ hi) dX5_text_43 ?_
  refine z_iconst C (v := 5) dX5_text_44 (by decide) ?_
  refine z_pl5 C (RI_K hR0 hi) dX5_text_45 ?_
  refine z_callVi (rest := [.int (((nI (s_ba (s_ln u) (p_ro (s_pn u pane.toNatClampNeg)))) + (p_sa (s_pn u pane.toNatClampNeg))) + (p_po (s_pn u pane.toNatClampNeg))), .ref m]) (k' := 0) (n' := 0) C (c_X5_where (z_l X) (z_G X) (RI_K hR0 hi)) (cs_X5_51 C (by decide)) hR0.1 rfl rfl rfl rfl (Nat.le_of_ble_eq_true rfl) rfl rfl (by decide) (by decide) dX5_text_46 (fun x46 M' hq => ?_)
  obtain ⟨rfl, rfl⟩ := hq
  rw [j_wh _ sq pq hsa hpo, j_wh _ sq lq hsa hli]
  refine z_callVr (rest := []) (k' := 40) (n' := 1500) C (a_X5_joined (z_l X) hR0 htp0 (fq := (s_ba (s_ln u) (p_ro (s_pn u pane.toNatClampNeg)) + sq + pq)) (tq := (s_ba (s_ln u) (p_ro (s_pn u pane.toNatClampNeg)) + sq + lq)) (fun k h1 h2 => j_val hok ht hft0 hrw (by omega) (by omega)) (by omega) (by omega) (by omega)) (cs_X5_125 C (by decide)) hR0.1 rfl rfl rfl rfl (Nat.le_of_ble_eq_true rfl) rfl rfl (Nat.le_of_ble_eq_true rfl) (Nat.le_of_ble_eq_true rfl) dX5_text_49 (fun x49 Mq49 hq => ?_)
  obtain ⟨hSt, hR9⟩ := hq
  refine z_goto C (tgt := 57) dX5_text_52 (by decide) ?_
  refine ret dX5_text_57 ?_ (by decide) (by decide)
  exact ⟨⟨_, _, hR9⟩, fun _ => hSt⟩
theorem a_X5_text (l : Launch) {G : zG} {u : sS} {m : Nat} {th : Int32} {K : Nat → Nat} {tp pn td : Nat} {Mw : zM} (hR : RI G u m th K tp pn td Mw) {t : Nat} (hok : s_ok t u) (ht : t ≤ 64) (pane : Int32) : z_Mr l G qX5_text (z_rm 11 40 1500) [.ref m, .int pane] Mw (RT9 G m pn td (z_lt (z_is pane 0 5) 1) u) := by
  rcases z_pc pane with ⟨h_ok, h_ip, hi⟩ | ⟨h_bad, -⟩
  · exact g_X5_text l hR hok ht h_ok h_ip hi
  · refine z_Mr_mono (c_X5_text_bad l G hR.1 h_bad) ?_
    rintro r M' ⟨hr9, rfl⟩
    have e9 : z_lt (z_is pane 0 5) 1 = 1 := by rw [h_bad]; rfl
    exact ⟨⟨_, _, by first | exact RI_ak hR _ _ _ | (rw [e9]; exact RI_ak hR _ _ _) | (simp only [z_lt, h_bad]; exact RI_ak hR _ _ _)⟩, fun h => absurd (e9.symm.trans h) (by decide)⟩
end
section
/-! PART 53: the reference's whole pane and total -/
theorem j_J_fit {l : Launch} {G : zG} {Mw : zM} {sb vb c n v : Nat} (hB : j_B G Mw sb vb c n) (hv : v < 35000000000) (h0 : c + j_dgl v ≤ n) : z_Mr l G qJ4_append_f7089 (z_rm 3 0 0) [.ref sb, .long (lN v)] Mw (j_P G Mw sb vb (c + j_dgl v) n) := by
  have hne := j_B_ne hB
  obtain ⟨ml, f, h1, h2, hf, g1, g2, g3⟩ := hB
  refine z_Mr_mono (c_apJ_fit l G h1 h2 hv h0 (by omega) hf) ?_
  rintro r Mz ⟨f9, r9, hf9, hr9, rfl⟩
  exact ⟨hr9, vb, j_of2 hne.symm (Or.inl rfl) hf9 h0 g2 g3⟩
theorem dX5_whole_0 : decode cX5_whole 0 = .ok (.aload_n 0, 1) := by decide +kernel
theorem dX5_whole_1 : decode cX5_whole 1 = .ok (.iload_n 1, 1) := by decide +kernel
theorem dX5_whole_2 : decode cX5_whole 2 = .ok (.invokestatic 55, 3) := by decide +kernel
theorem dX5_whole_5 : decode cX5_whole 5 = .ok (.iconst 1, 1) := by decide +kernel
theorem dX5_whole_6 : decode cX5_whole 6 = .ok (.invokevirtual 59, 3) := by decide +kernel
theorem dX5_whole_9 : decode cX5_whole 9 = .ok (.ifCond .ne 6, 3) := by decide +kernel
theorem dX5_whole_12 : decode cX5_whole 12 = .ok (.ldc 104, 2) := by decide +kernel
theorem dX5_whole_14 : decode cX5_whole 14 = .ok (.areturn, 1) := by decide +kernel
theorem dX5_whole_15 : decode cX5_whole 15 = .ok (.aload_n 0, 1) := by decide +kernel
theorem dX5_whole_16 : decode cX5_whole 16 = .ok (.getfield 18, 3) := by decide +kernel
theorem dX5_whole_19 : decode cX5_whole 19 = .ok (.iload_n 1, 1) := by decide +kernel
theorem dX5_whole_20 : decode cX5_whole 20 = .ok (.aaload, 1) := by decide +kernel
theorem dX5_whole_21 : decode cX5_whole 21 = .ok (.astore_n 2, 1) := by decide +kernel
theorem dX5_whole_22 : decode cX5_whole 22 = .ok (.new 106, 3) := by decide +kernel
theorem dX5_whole_25 : decode cX5_whole 25 = .ok (.dup, 1) := by decide +kernel
theorem dX5_whole_26 : decode cX5_whole 26 = .ok (.invokespecial 108, 3) := by decide +kernel
theorem dX5_whole_29 : decode cX5_whole 29 = .ok (.astore_n 3, 1) := by decide +kernel
theorem dX5_whole_30 : decode cX5_whole 30 = .ok (.iconst 0, 1) := by decide +kernel
theorem dX5_whole_31 : decode cX5_whole 31 = .ok (.istore 4, 2) := by decide +kernel
theorem dX5_whole_33 : decode cX5_whole 33 = .ok (.iload 4, 2) := by decide +kernel
theorem dX5_whole_35 : decode cX5_whole 35 = .ok (.aload_n 2, 1) := by decide +kernel
theorem dX5_whole_36 : decode cX5_whole 36 = .ok (.iconst 3, 1) := by decide +kernel
theorem dX5_whole_37 : decode cX5_whole 37 = .ok (.iaload, 1) := by decide +kernel
theorem dX5_whole_38 : decode cX5_whole 38 = .ok (.if_icmp .gt 85, 3) := by decide +kernel
theorem dX5_whole_41 : decode cX5_whole 41 = .ok (.aload_n 2, 1) := by decide +kernel
theorem dX5_whole_42 : decode cX5_whole 42 = .ok (.bipush 6, 2) := by decide +kernel
theorem dX5_whole_44 : decode cX5_whole 44 = .ok (.iaload, 1) := by decide +kernel
theorem dX5_whole_45 : decode cX5_whole 45 = .ok (.iload 4, 2) := by decide +kernel
theorem dX5_whole_47 : decode cX5_whole 47 = .ok (.if_icmp .ne 10, 3) := by decide +kernel
theorem dX5_whole_50 : decode cX5_whole 50 = .ok (.aload_n 3, 1) := by decide +kernel
theorem dX5_whole_51 : decode cX5_whole 51 = .ok (.ldc 129, 2) := by decide +kernel
theorem dX5_whole_53 : decode cX5_whole 53 = .ok (.invokevirtual 109, 3) := by decide +kernel
theorem dX5_whole_56 : decode cX5_whole 56 = .ok (.pop, 1) := by decide +kernel
theorem dX5_whole_57 : decode cX5_whole 57 = .ok (.aload_n 2, 1) := by decide +kernel
theorem dX5_whole_58 : decode cX5_whole 58 = .ok (.iconst 4, 1) := by decide +kernel
theorem dX5_whole_59 : decode cX5_whole 59 = .ok (.iaload, 1) := by decide +kernel
theorem dX5_whole_60 : decode cX5_whole 60 = .ok (.iload 4, 2) := by decide +kernel
theorem dX5_whole_62 : decode cX5_whole 62 = .ok (.if_icmp .ne 10, 3) := by decide +kernel
theorem dX5_whole_65 : decode cX5_whole 65 = .ok (.aload_n 3, 1) := by decide +kernel
theorem dX5_whole_66 : decode cX5_whole 66 = .ok (.ldc 131, 2) := by decide +kernel
theorem dX5_whole_68 : decode cX5_whole 68 = .ok (.invokevirtual 109, 3) := by decide +kernel
theorem dX5_whole_71 : decode cX5_whole 71 = .ok (.pop, 1) := by decide +kernel
theorem dX5_whole_72 : decode cX5_whole 72 = .ok (.aload_n 2, 1) := by decide +kernel
theorem dX5_whole_73 : decode cX5_whole 73 = .ok (.iconst 5, 1) := by decide +kernel
theorem dX5_whole_74 : decode cX5_whole 74 = .ok (.iaload, 1) := by decide +kernel
theorem dX5_whole_75 : decode cX5_whole 75 = .ok (.iload 4, 2) := by decide +kernel
theorem dX5_whole_77 : decode cX5_whole 77 = .ok (.if_icmp .ne 10, 3) := by decide +kernel
theorem dX5_whole_80 : decode cX5_whole 80 = .ok (.aload_n 3, 1) := by decide +kernel
theorem dX5_whole_81 : decode cX5_whole 81 = .ok (.ldc 133, 2) := by decide +kernel
theorem dX5_whole_83 : decode cX5_whole 83 = .ok (.invokevirtual 109, 3) := by decide +kernel
theorem dX5_whole_86 : decode cX5_whole 86 = .ok (.pop, 1) := by decide +kernel
theorem dX5_whole_87 : decode cX5_whole 87 = .ok (.iload 4, 2) := by decide +kernel
theorem dX5_whole_89 : decode cX5_whole 89 = .ok (.aload_n 2, 1) := by decide +kernel
theorem dX5_whole_90 : decode cX5_whole 90 = .ok (.iconst 3, 1) := by decide +kernel
theorem dX5_whole_91 : decode cX5_whole 91 = .ok (.iaload, 1) := by decide +kernel
theorem dX5_whole_92 : decode cX5_whole 92 = .ok (.if_icmp .ge 25, 3) := by decide +kernel
theorem dX5_whole_95 : decode cX5_whole 95 = .ok (.aload_n 3, 1) := by decide +kernel
theorem dX5_whole_96 : decode cX5_whole 96 = .ok (.aload_n 0, 1) := by decide +kernel
theorem dX5_whole_97 : decode cX5_whole 97 = .ok (.getfield 9, 3) := by decide +kernel
theorem dX5_whole_100 : decode cX5_whole 100 = .ok (.aload_n 0, 1) := by decide +kernel
theorem dX5_whole_101 : decode cX5_whole 101 = .ok (.aload_n 2, 1) := by decide +kernel
theorem dX5_whole_102 : decode cX5_whole 102 = .ok (.iload 4, 2) := by decide +kernel
theorem dX5_whole_104 : decode cX5_whole 104 = .ok (.invokevirtual 51, 3) := by decide +kernel
theorem dX5_whole_107 : decode cX5_whole 107 = .ok (.iaload, 1) := by decide +kernel
theorem dX5_whole_108 : decode cX5_whole 108 = .ok (.invokevirtual 122, 3) := by decide +kernel
theorem dX5_whole_111 : decode cX5_whole 111 = .ok (.ldc 120, 2) := by decide +kernel
theorem dX5_whole_113 : decode cX5_whole 113 = .ok (.invokevirtual 109, 3) := by decide +kernel
theorem dX5_whole_116 : decode cX5_whole 116 = .ok (.pop, 1) := by decide +kernel
theorem dX5_whole_117 : decode cX5_whole 117 = .ok (.iinc 4 1, 3) := by decide +kernel
theorem dX5_whole_120 : decode cX5_whole 120 = .ok (.goto (-87), 3) := by decide +kernel
theorem dX5_whole_123 : decode cX5_whole 123 = .ok (.aload_n 3, 1) := by decide +kernel
theorem dX5_whole_124 : decode cX5_whole 124 = .ok (.invokevirtual 116, 3) := by decide +kernel
theorem dX5_whole_127 : decode cX5_whole 127 = .ok (.areturn, 1) := by decide +kernel
theorem dX5_total_0 : decode cX5_total 0 = .ok (.aload_n 0, 1) := by decide +kernel
theorem dX5_total_1 : decode cX5_total 1 = .ok (.iload_n 1, 1) := by decide +kernel
theorem dX5_total_2 : decode cX5_total 2 = .ok (.invokestatic 55, 3) := by decide +kernel
theorem dX5_total_5 : decode cX5_total 5 = .ok (.iconst 1, 1) := by decide +kernel
theorem dX5_total_6 : decode cX5_total 6 = .ok (.invokevirtual 59, 3) := by decide +kernel
theorem dX5_total_9 : decode cX5_total 9 = .ok (.ifCond .ne 6, 3) := by decide +kernel
theorem dX5_total_12 : decode cX5_total 12 = .ok (.ldc 104, 2) := by decide +kernel
theorem dX5_total_14 : decode cX5_total 14 = .ok (.areturn, 1) := by decide +kernel
theorem dX5_total_15 : decode cX5_total 15 = .ok (.lconst 0, 1) := by decide +kernel
theorem dX5_total_16 : decode cX5_total 16 = .ok (.lstore_n 2, 1) := by decide +kernel
theorem dX5_total_17 : decode cX5_total 17 = .ok (.aload_n 0, 1) := by decide +kernel
theorem dX5_total_18 : decode cX5_total 18 = .ok (.getfield 18, 3) := by decide +kernel
theorem dX5_total_21 : decode cX5_total 21 = .ok (.iload_n 1, 1) := by decide +kernel
theorem dX5_total_22 : decode cX5_total 22 = .ok (.aaload, 1) := by decide +kernel
theorem dX5_total_23 : decode cX5_total 23 = .ok (.iconst 4, 1) := by decide +kernel
theorem dX5_total_24 : decode cX5_total 24 = .ok (.iaload, 1) := by decide +kernel
theorem dX5_total_25 : decode cX5_total 25 = .ok (.istore 4, 2) := by decide +kernel
theorem dX5_total_27 : decode cX5_total 27 = .ok (.iload 4, 2) := by decide +kernel
theorem dX5_total_29 : decode cX5_total 29 = .ok (.aload_n 0, 1) := by decide +kernel
theorem dX5_total_30 : decode cX5_total 30 = .ok (.getfield 18, 3) := by decide +kernel
theorem dX5_total_33 : decode cX5_total 33 = .ok (.iload_n 1, 1) := by decide +kernel
theorem dX5_total_34 : decode cX5_total 34 = .ok (.aaload, 1) := by decide +kernel
theorem dX5_total_35 : decode cX5_total 35 = .ok (.iconst 5, 1) := by decide +kernel
theorem dX5_total_36 : decode cX5_total 36 = .ok (.iaload, 1) := by decide +kernel
theorem dX5_total_37 : decode cX5_total 37 = .ok (.if_icmp .ge 30, 3) := by decide +kernel
theorem dX5_total_40 : decode cX5_total 40 = .ok (.lload_n 2, 1) := by decide +kernel
theorem dX5_total_41 : decode cX5_total 41 = .ok (.aload_n 0, 1) := by decide +kernel
theorem dX5_total_42 : decode cX5_total 42 = .ok (.getfield 9, 3) := by decide +kernel
theorem dX5_total_45 : decode cX5_total 45 = .ok (.aload_n 0, 1) := by decide +kernel
theorem dX5_total_46 : decode cX5_total 46 = .ok (.aload_n 0, 1) := by decide +kernel
theorem dX5_total_47 : decode cX5_total 47 = .ok (.getfield 18, 3) := by decide +kernel
theorem dX5_total_50 : decode cX5_total 50 = .ok (.iload_n 1, 1) := by decide +kernel
theorem dX5_total_51 : decode cX5_total 51 = .ok (.aaload, 1) := by decide +kernel
theorem dX5_total_52 : decode cX5_total 52 = .ok (.iload 4, 2) := by decide +kernel
theorem dX5_total_54 : decode cX5_total 54 = .ok (.invokevirtual 51, 3) := by decide +kernel
theorem dX5_total_57 : decode cX5_total 57 = .ok (.iaload, 1) := by decide +kernel
theorem dX5_total_58 : decode cX5_total 58 = .ok (.i2l, 1) := by decide +kernel
theorem dX5_total_59 : decode cX5_total 59 = .ok (.ladd, 1) := by decide +kernel
theorem dX5_total_60 : decode cX5_total 60 = .ok (.lstore_n 2, 1) := by decide +kernel
theorem dX5_total_61 : decode cX5_total 61 = .ok (.iinc 4 1, 3) := by decide +kernel
theorem dX5_total_64 : decode cX5_total 64 = .ok (.goto (-37), 3) := by decide +kernel
theorem dX5_total_67 : decode cX5_total 67 = .ok (.new 106, 3) := by decide +kernel
theorem dX5_total_70 : decode cX5_total 70 = .ok (.dup, 1) := by decide +kernel
theorem dX5_total_71 : decode cX5_total 71 = .ok (.invokespecial 108, 3) := by decide +kernel
theorem dX5_total_74 : decode cX5_total 74 = .ok (.ldc 104, 2) := by decide +kernel
theorem dX5_total_76 : decode cX5_total 76 = .ok (.invokevirtual 109, 3) := by decide +kernel
theorem dX5_total_79 : decode cX5_total 79 = .ok (.lload_n 2, 1) := by decide +kernel
theorem dX5_total_80 : decode cX5_total 80 = .ok (.invokevirtual 113, 3) := by decide +kernel
theorem dX5_total_83 : decode cX5_total 83 = .ok (.invokevirtual 116, 3) := by decide +kernel
theorem dX5_total_86 : decode cX5_total 86 = .ok (.areturn, 1) := by decide +kernel
set_option maxRecDepth 20000 in
theorem lp_X5_whole {X : zX} (C : z_C X cX5_whole RX5 5 (z_rm 11 40 1500)) {u : sS} {m : Nat} {th : Int32} {K : Nat → Nat} {tp pn td : Nat} {R0 : zM} (hR0 : RI (z_G X) u m th K tp pn td R0) {t : Nat} (hok : s_ok t u) (ht : t ≤ 64) {i : Nat} (hi : i < 6) {ft0 : Nat → Int32} (htp0 : R0 tp = some (aI (z_G X) (s_ba (s_ln u) (s_nr u)) ft0)) (hft0 : ∀ r, r < s_nr u → ∀ j, j < s_ln u r → ft0 (s_ba (s_ln u) r + j) = s_vl u r j) {sq cq : Nat} (hsa : p_sa (s_pn u i) = nI sq) (hcp : p_cp (s_pn u i) = nI cq) (h16 : cq ≤ 16) (hsc : sq + cq ≤ s_ln u (p_ro (s_pn u i))) (hrw : p_ro (s_pn u i) < s_nr u) (hnt : s_ba (s_ln u) (s_nr u) < 90000) (hbl : s_ba (s_ln u) (p_ro (s_pn u i)) + s_ln u (p_ro (s_pn u i)) ≤ s_ba (s_ln u) (s_nr u)) {sb : Nat} (kk : ∀ c n vb Mz, c ≤ 240 → 16 ≤ n → j_K R0 Mz sb vb → j_B (z_G X) Mz sb vb c n → z_W X Mz (2 + (n - 16) / 16) (20 + 2 * (n - 16)) 123 [(3, .ref sb)] []) : ∀ (d jx c n vb : Nat) (Mw : zM), jx + d = cq + 1 → c ≤ 14 * jx → j_K R0 Mw sb vb → j_B (z_G X) Mw sb vb c n → 16 ≤ n → z_W X Mw (2 + (n - 16) / 16) (20 + 2 * (n - 16)) 33 [(4, .int (nI jx)), (0, .ref m), (2, .ref (K i)), (3, .ref sb)] [] := by
  intro d
  induction d with
  | zero =>
    intro jx c n vb Mw hd hc9 hK hB hn0
    have hb0 := j_B_c hB
    refine z_iload C dX5_whole_33 0 rfl ?_
    refine z_aload_n C dX5_whole_35 rfl 2 rfl ?_
    refine z_iconst C (v := 3) dX5_whole_36 (by decide) ?_
    refine z_pl3 C (RI_K (RI_mono hR0 (hK).2.2) hi) dX5_whole_37 ?_
    refine z_icmp_gt C (tgt := 123) dX5_whole_38 (by decide) (fun _ => ?_) (fun c38 => absurd (by rw [hcp]; exact nI_lt (by omega) (by omega)) c38)
    refine z_fewer [3] rfl ?_
    exact kk _ _ _ _ (by omega) (by omega) hK hB
  | succ d ih =>
    intro jx c n vb Mw hd hc9 hK hB hn0
    have hb0 := j_B_c hB
    refine z_iload C dX5_whole_33 0 rfl ?_
    refine z_aload_n C dX5_whole_35 rfl 2 rfl ?_
    refine z_iconst C (v := 3) dX5_whole_36 (by decide) ?_
    refine z_pl3 C (RI_K (RI_mono hR0 (hK).2.2) hi) dX5_whole_37 ?_
    refine z_icmp_gt C (tgt := 123) dX5_whole_38 (by decide) (fun c38 => absurd c38 (by rw [hcp]; exact nI_nlt (by omega) (by omega))) (fun _ => ?_)
    refine z_aload_n C dX5_whole_41 rfl 2 rfl ?_
    refine z_bipush C (v := 6) dX5_whole_42 (by decide) ?_
    refine z_pl6 C (RI_K (RI_mono hR0 (hK).2.2) hi) dX5_whole_44 ?_
    refine z_iload C dX5_whole_45 0 rfl ?_
    refine z_icmp_ne C (tgt := 57) dX5_whole_47 (by decide) (fun c47 => ?_) (fun c47 => ?_)
    · refine z_aload_n C dX5_whole_57 rfl 2 rfl ?_
      refine z_iconst C (v := 4) dX5_whole_58 (by decide) ?_
      refine z_pl4 C (RI_K (RI_mono hR0 (hK).2.2) hi) dX5_whole_59 ?_
      refine z_iload C dX5_whole_60 0 rfl ?_
      refine z_icmp_ne C (tgt := 72) dX5_whole_62 (by decide) (fun c62 => ?_) (fun c62 => ?_)
      · refine z_aload_n C dX5_whole_72 rfl 2 rfl ?_
        refine z_iconst C (v := 5) dX5_whole_73 (by decide) ?_
        refine z_pl5 C (RI_K (RI_mono hR0 (hK).2.2) hi) dX5_whole_74 ?_
        refine z_iload C dX5_whole_75 0 rfl ?_
        refine z_icmp_ne C (tgt := 87) dX5_whole_77 (by decide) (fun c77 => ?_) (fun c77 => ?_)
        · refine z_iload C dX5_whole_87 0 rfl ?_
          refine z_aload_n C dX5_whole_89 rfl 2 rfl ?_
          refine z_iconst C (v := 3) dX5_whole_90 (by decide) ?_
          refine z_pl3 C (RI_K (RI_mono hR0 (hK).2.2) hi) dX5_whole_91 ?_
          refine z_icmp_ge C (tgt := 117) dX5_whole_92 (by decide) (fun c92 => ?_) (fun c92 => ?_)
          · refine z_iinc (v := nI (jx + 1)) (lv' := [(4, .int (nI (jx + 1))), (0, .ref m), (2, .ref (K i)), (3, .ref sb)]) C dX5_whole_117 0 rfl (nI_1 jx) (by decide) rfl ?_
            refine z_goto C (tgt := 33) dX5_whole_120 (by decide) ?_
            refine z_fewer [0, 1, 2, 3] rfl ?_
            exact ih (jx + 1) _ _ _ _ (by omega) (by omega) hK hB (by omega)
          · have hj9 : jx < cq := by
              rw [hcp] at c92
              exact Nat.lt_of_not_le (fun q => c92 (nI_le q (by omega)))
            refine z_aload_n C dX5_whole_95 rfl 3 rfl ?_
            refine z_aload_n C dX5_whole_96 rfl 1 rfl ?_
            refine gf_X5_9 C (RI_mono hR0 (hK).2.2).1 dX5_whole_97 ?_
            refine z_aload_n C dX5_whole_100 rfl 1 rfl ?_
            refine z_aload_n C dX5_whole_101 rfl 2 rfl ?_
            refine z_iload C dX5_whole_102 0 rfl ?_
            refine z_callVi (rest := [.ref tp, .ref sb]) (k' := 2 + (n - 16) / 16) (n' := 20 + 2 * (n - 16)) C (c_X5_where (z_l X) (z_G X) (RI_K (RI_mono hR0 (hK).2.2) hi)) (cs_X5_51 C ⟨Nat.le_of_ble_eq_true rfl, Nat.le_of_ble_eq_true rfl⟩) (RI_mono hR0 (hK).2.2).1 rfl rfl rfl rfl (Nat.le_of_ble_eq_true rfl) rfl rfl (by show _ ≤ 40; omega) (by show _ ≤ 1500; omega) dX5_whole_104 (fun x104 M' hq => ?_)
            obtain ⟨rfl, rfl⟩ := hq
            refine z_iald (j := ((s_ba (s_ln u) (p_ro (s_pn u i))) + sq + jx)) C ((hK).2.2 _ _ htp0) (by rw [j_wh _ sq jx hsa rfl]; exact nI_in (by omega) (by omega)) (by rw [j_wh _ sq jx hsa rfl]; exact nI_clamp (by omega)) dX5_whole_107 ?_
            have hw1 := sb_dg_in ((ft0 ((s_ba (s_ln u) (p_ro (s_pn u i))) + sq + jx)).toNatClampNeg)
            refine z_tope (y := nI ((ft0 ((s_ba (s_ln u) (p_ro (s_pn u i))) + sq + jx)).toNatClampNeg)) (z_cN (j_val hok ht hft0 hrw (by omega) (by omega)).2).1 ?_
            have hm1 := j_B_c hB
            have hl1 := j_cap_le (n := n) (q := c + (sb_dg ((ft0 ((s_ba (s_ln u) (p_ro (s_pn u i))) + sq + jx)).toNatClampNeg))) hm1.2.2 (by omega)
            refine j_site (q := qJ4_append_bf812) (c := c) (n := n) (w := (sb_dg ((ft0 ((s_ba (s_ln u) (p_ro (s_pn u i))) + sq + jx)).toNatClampNeg))) (F := 3) (k0 := 2) (s0 := 20) (n0 := 16) (rest := []) C hB rfl (fun h9 => cs_X5_122 C h9) ⟨Nat.le_of_ble_eq_true rfl, Nat.le_of_ble_eq_true rfl⟩ (Nat.le_of_ble_eq_true rfl) (Nat.le_of_ble_eq_true rfl) (fun h9 => j_I_fit hB (j_v31 _) h9) (fun h9 => j_I_grow hB (j_v31 _) (by omega) h9) rfl rfl (Nat.le_of_ble_eq_true rfl) (by omega) (by show _ ≤ 40; omega) (by show _ ≤ 1500; omega) dX5_whole_108 (fun vc1 Mc1 hB1 hF1 => ?_)
            have hK1 := j_K_fr hK hF1
            have hn1 := j_cap_ge (n) (c + (sb_dg ((ft0 ((s_ba (s_ln u) (p_ro (s_pn u i))) + sq + jx)).toNatClampNeg)))
            refine z_ldcK (i := 1) C (by decide) rfl dX5_whole_111 ?_
            have hw2 : z_kln 1 ≤ 1 := z_kln_in 1 (by decide)
            have hm2 := j_B_c hB1
            have hl2 := j_cap_le (n := (j_cap n (c + (sb_dg ((ft0 ((s_ba (s_ln u) (p_ro (s_pn u i))) + sq + jx)).toNatClampNeg))))) (q := (c + (sb_dg ((ft0 ((s_ba (s_ln u) (p_ro (s_pn u i))) + sq + jx)).toNatClampNeg))) + (z_kln 1)) hm2.2.2 (by omega)
            refine j_site (q := qJ4_append_15ec4) (c := (c + (sb_dg ((ft0 ((s_ba (s_ln u) (p_ro (s_pn u i))) + sq + jx)).toNatClampNeg)))) (n := (j_cap n (c + (sb_dg ((ft0 ((s_ba (s_ln u) (p_ro (s_pn u i))) + sq + jx)).toNatClampNeg))))) (w := (z_kln 1)) (F := 5) (k0 := 2) (s0 := 20) (n0 := 16) (rest := []) C hB1 rfl (fun h9 => cs_X5_109 C h9) ⟨Nat.le_of_ble_eq_true rfl, Nat.le_of_ble_eq_true rfl⟩ (Nat.le_of_ble_eq_true rfl) (Nat.le_of_ble_eq_true rfl) (fun h9 => j_S_fit hB1 (by decide) h9) (fun h9 => j_S_grow hB1 (by decide) (by omega) h9) rfl rfl (Nat.le_of_ble_eq_true rfl) (by omega) (by show _ ≤ 40; omega) (by show _ ≤ 1500; omega) dX5_whole_113 (fun vc2 Mc2 hB2 hF2 => ?_)
            have hK2 := j_K_fr hK1 hF2
            have hn2 := j_cap_ge ((j_cap n (c + (sb_dg ((ft0 ((s_ba (s_ln u) (p_ro (s_pn u i))) + sq + jx)).toNatClampNeg))))) ((c + (sb_dg ((ft0 ((s_ba (s_ln u) (p_ro (s_pn u i))) + sq + jx)).toNatClampNeg))) + (z_kln 1))
            refine z_pop C dX5_whole_116 rfl ?_
            refine z_iinc (v := nI (jx + 1)) (lv' := [(4, .int (nI (jx + 1))), (0, .ref m), (2, .ref (K i)), (3, .ref sb)]) C dX5_whole_117 0 rfl (nI_1 jx) (by decide) rfl ?_
            refine z_goto C (tgt := 33) dX5_whole_120 (by decide) ?_
            refine z_fewer [0, 1, 2, 3] rfl ?_
            exact ih (jx + 1) _ _ _ _ (by omega) (by omega) hK2 hB2 (by omega)
        · refine z_aload_n C dX5_whole_80 rfl 3 rfl ?_
          refine z_ldcK (i := 4) C (by decide) rfl dX5_whole_81 ?_
          have hw1 : z_kln 4 ≤ 1 := z_kln_in 4 (by decide)
          have hm1 := j_B_c hB
          have hl1 := j_cap_le (n := n) (q := c + (z_kln 4)) hm1.2.2 (by omega)
          refine j_site (q := qJ4_append_15ec4) (c := c) (n := n) (w := (z_kln 4)) (F := 5) (k0 := 2) (s0 := 20) (n0 := 16) (rest := []) C hB rfl (fun h9 => cs_X5_109 C h9) ⟨Nat.le_of_ble_eq_true rfl, Nat.le_of_ble_eq_true rfl⟩ (Nat.le_of_ble_eq_true rfl) (Nat.le_of_ble_eq_true rfl) (fun h9 => j_S_fit hB (by decide) h9) (fun h9 => j_S_grow hB (by decide) (by omega) h9) rfl rfl (Nat.le_of_ble_eq_true rfl) (by omega) (by show _ ≤ 40; omega) (by show _ ≤ 1500; omega) dX5_whole_83 (fun vc1 Mc1 hB1 hF1 => ?_)
          have hK1 := j_K_fr hK hF1
          have hn1 := j_cap_ge (n) (c + (z_kln 4))
          refine z_pop C dX5_whole_86 rfl ?_
          refine z_iload C dX5_whole_87 0 rfl ?_
          refine z_aload_n C dX5_whole_89 rfl 2 rfl ?_
          refine z_iconst C (v := 3) dX5_whole_90 (by decide) ?_
          refine z_pl3 C (RI_K (RI_mono hR0 (hK1).2.2) hi) dX5_whole_91 ?_
          refine z_icmp_ge C (tgt := 117) dX5_whole_92 (by decide) (fun c92 => ?_) (fun c92 => ?_)
          · refine z_iinc (v := nI (jx + 1)) (lv' := [(4, .int (nI (jx + 1))), (0, .ref m), (2, .ref (K i)), (3, .ref sb)]) C dX5_whole_117 0 rfl (nI_1 jx) (by decide) rfl ?_
            refine z_goto C (tgt := 33) dX5_whole_120 (by decide) ?_
            refine z_fewer [0, 1, 2, 3] rfl ?_
            exact ih (jx + 1) _ _ _ _ (by omega) (by omega) hK1 hB1 (by omega)
          · have hj9 : jx < cq := by
              rw [hcp] at c92
              exact Nat.lt_of_not_le (fun q => c92 (nI_le q (by omega)))
            refine z_aload_n C dX5_whole_95 rfl 3 rfl ?_
            refine z_aload_n C dX5_whole_96 rfl 1 rfl ?_
            refine gf_X5_9 C (RI_mono hR0 (hK1).2.2).1 dX5_whole_97 ?_
            refine z_aload_n C dX5_whole_100 rfl 1 rfl ?_
            refine z_aload_n C dX5_whole_101 rfl 2 rfl ?_
            refine z_iload C dX5_whole_102 0 rfl ?_
            refine z_callVi (rest := [.ref tp, .ref sb]) (k' := 2 + ((j_cap n (c + (z_kln 4))) - 16) / 16) (n' := 20 + 2 * ((j_cap n (c + (z_kln 4))) - 16)) C (c_X5_where (z_l X) (z_G X) (RI_K (RI_mono hR0 (hK1).2.2) hi)) (cs_X5_51 C ⟨Nat.le_of_ble_eq_true rfl, Nat.le_of_ble_eq_true rfl⟩) (RI_mono hR0 (hK1).2.2).1 rfl rfl rfl rfl (Nat.le_of_ble_eq_true rfl) rfl rfl (by show _ ≤ 40; omega) (by show _ ≤ 1500; omega) dX5_whole_104 (fun x104 M' hq => ?_)
            obtain ⟨rfl, rfl⟩ := hq
            refine z_iald (j := ((s_ba (s_ln u) (p_ro (s_pn u i))) + sq + jx)) C ((hK1).2.2 _ _ htp0) (by rw [j_wh _ sq jx hsa rfl]; exact nI_in (by omega) (by omega)) (by rw [j_wh _ sq jx hsa rfl]; exact nI_clamp (by omega)) dX5_whole_107 ?_
            have hw2 := sb_dg_in ((ft0 ((s_ba (s_ln u) (p_ro (s_pn u i))) + sq + jx)).toNatClampNeg)
            refine z_tope (y := nI ((ft0 ((s_ba (s_ln u) (p_ro (s_pn u i))) + sq + jx)).toNatClampNeg)) (z_cN (j_val hok ht hft0 hrw (by omega) (by omega)).2).1 ?_
            have hm2 := j_B_c hB1
            have hl2 := j_cap_le (n := (j_cap n (c + (z_kln 4)))) (q := (c + (z_kln 4)) + (sb_dg ((ft0 ((s_ba (s_ln u) (p_ro (s_pn u i))) + sq + jx)).toNatClampNeg))) hm2.2.2 (by omega)
            refine j_site (q := qJ4_append_bf812) (c := (c + (z_kln 4))) (n := (j_cap n (c + (z_kln 4)))) (w := (sb_dg ((ft0 ((s_ba (s_ln u) (p_ro (s_pn u i))) + sq + jx)).toNatClampNeg))) (F := 3) (k0 := 2) (s0 := 20) (n0 := 16) (rest := []) C hB1 rfl (fun h9 => cs_X5_122 C h9) ⟨Nat.le_of_ble_eq_true rfl, Nat.le_of_ble_eq_true rfl⟩ (Nat.le_of_ble_eq_true rfl) (Nat.le_of_ble_eq_true rfl) (fun h9 => j_I_fit hB1 (j_v31 _) h9) (fun h9 => j_I_grow hB1 (j_v31 _) (by omega) h9) rfl rfl (Nat.le_of_ble_eq_true rfl) (by omega) (by show _ ≤ 40; omega) (by show _ ≤ 1500; omega) dX5_whole_108 (fun vc2 Mc2 hB2 hF2 => ?_)
            have hK2 := j_K_fr hK1 hF2
            have hn2 := j_cap_ge ((j_cap n (c + (z_kln 4)))) ((c + (z_kln 4)) + (sb_dg ((ft0 ((s_ba (s_ln u) (p_ro (s_pn u i))) + sq + jx)).toNatClampNeg)))
            refine z_ldcK (i := 1) C (by decide) rfl dX5_whole_111 ?_
            have hw3 : z_kln 1 ≤ 1 := z_kln_in 1 (by decide)
            have hm3 := j_B_c hB2
            have hl3 := j_cap_le (n := (j_cap (j_cap n (c + (z_kln 4))) ((c + (z_kln 4)) + (sb_dg ((ft0 ((s_ba (s_ln u) (p_ro (s_pn u i))) + sq + jx)).toNatClampNeg))))) (q := ((c + (z_kln 4)) + (sb_dg ((ft0 ((s_ba (s_ln u) (p_ro (s_pn u i))) + sq + jx)).toNatClampNeg))) + (z_kln 1)) hm3.2.2 (by omega)
            refine j_site (q := qJ4_append_15ec4) (c := ((c + (z_kln 4)) + (sb_dg ((ft0 ((s_ba (s_ln u) (p_ro (s_pn u i))) + sq + jx)).toNatClampNeg)))) (n := (j_cap (j_cap n (c + (z_kln 4))) ((c + (z_kln 4)) + (sb_dg ((ft0 ((s_ba (s_ln u) (p_ro (s_pn u i))) + sq + jx)).toNatClampNeg))))) (w := (z_kln 1)) (F := 5) (k0 := 2) (s0 := 20) (n0 := 16) (rest := []) C hB2 rfl (fun h9 => cs_X5_109 C h9) ⟨Nat.le_of_ble_eq_true rfl, Nat.le_of_ble_eq_true rfl⟩ (Nat.le_of_ble_eq_true rfl) (Nat.le_of_ble_eq_true rfl) (fun h9 => j_S_fit hB2 (by decide) h9) (fun h9 => j_S_grow hB2 (by decide) (by omega) h9) rfl rfl (Nat.le_of_ble_eq_true rfl) (by omega) (by show _ ≤ 40; omega) (by show _ ≤ 1500; omega) dX5_whole_113 (fun vc3 Mc3 hB3 hF3 => ?_)
            have hK3 := j_K_fr hK2 hF3
            have hn3 := j_cap_ge ((j_cap (j_cap n (c + (z_kln 4))) ((c + (z_kln 4)) + (sb_dg ((ft0 ((s_ba (s_ln u) (p_ro (s_pn u i))) + sq + jx)).toNatClampNeg))))) (((c + (z_kln 4)) + (sb_dg ((ft0 ((s_ba (s_ln u) (p_ro (s_pn u i))) + sq + jx)).toNatClampNeg))) + (z_kln 1))
            refine z_pop C dX5_whole_116 rfl ?_
            refine z_iinc (v := nI (jx + 1)) (lv' := [(4, .int (nI (jx + 1))), (0, .ref m), (2, .ref (K i)), (3, .ref sb)]) C dX5_whole_117 0 rfl (nI_1 jx) (by decide) rfl ?_
            refine z_goto C (tgt := 33) dX5_whole_120 (by decide) ?_
            refine z_fewer [0, 1, 2, 3] rfl ?_
            exact ih (jx + 1) _ _ _ _ (by omega) (by omega) hK3 hB3 (by omega)
      · refine z_aload_n C dX5_whole_65 rfl 3 rfl ?_
        refine z_ldcK (i := 3) C (by decide) rfl dX5_whole_66 ?_
        have hw1 : z_kln 3 ≤ 1 := z_kln_in 3 (by decide)
        have hm1 := j_B_c hB
        have hl1 := j_cap_le (n := n) (q := c + (z_kln 3)) hm1.2.2 (by omega)
        refine j_site (q := qJ4_append_15ec4) (c := c) (n := n) (w := (z_kln 3)) (F := 5) (k0 := 2) (s0 := 20) (n0 := 16) (rest := []) C hB rfl (fun h9 => cs_X5_109 C h9) ⟨Nat.le_of_ble_eq_true rfl, Nat.le_of_ble_eq_true rfl⟩ (Nat.le_of_ble_eq_true rfl) (Nat.le_of_ble_eq_true rfl) (fun h9 => j_S_fit hB (by decide) h9) (fun h9 => j_S_grow hB (by decide) (by omega) h9) rfl rfl (Nat.le_of_ble_eq_true rfl) (by omega) (by show _ ≤ 40; omega) (by show _ ≤ 1500; omega) dX5_whole_68 (fun vc1 Mc1 hB1 hF1 => ?_)
        have hK1 := j_K_fr hK hF1
        have hn1 := j_cap_ge (n) (c + (z_kln 3))
        refine z_pop C dX5_whole_71 rfl ?_
        refine z_aload_n C dX5_whole_72 rfl 2 rfl ?_
        refine z_iconst C (v := 5) dX5_whole_73 (by decide) ?_
        refine z_pl5 C (RI_K (RI_mono hR0 (hK1).2.2) hi) dX5_whole_74 ?_
        refine z_iload C dX5_whole_75 0 rfl ?_
        refine z_icmp_ne C (tgt := 87) dX5_whole_77 (by decide) (fun c77 => ?_) (fun c77 => ?_)
        · refine z_iload C dX5_whole_87 0 rfl ?_
          refine z_aload_n C dX5_whole_89 rfl 2 rfl ?_
          refine z_iconst C (v := 3) dX5_whole_90 (by decide) ?_
          refine z_pl3 C (RI_K (RI_mono hR0 (hK1).2.2) hi) dX5_whole_91 ?_
          refine z_icmp_ge C (tgt := 117) dX5_whole_92 (by decide) (fun c92 => ?_) (fun c92 => ?_)
          · refine z_iinc (v := nI (jx + 1)) (lv' := [(4, .int (nI (jx + 1))), (0, .ref m), (2, .ref (K i)), (3, .ref sb)]) C dX5_whole_117 0 rfl (nI_1 jx) (by decide) rfl ?_
            refine z_goto C (tgt := 33) dX5_whole_120 (by decide) ?_
            refine z_fewer [0, 1, 2, 3] rfl ?_
            exact ih (jx + 1) _ _ _ _ (by omega) (by omega) hK1 hB1 (by omega)
          · have hj9 : jx < cq := by
              rw [hcp] at c92
              exact Nat.lt_of_not_le (fun q => c92 (nI_le q (by omega)))
            refine z_aload_n C dX5_whole_95 rfl 3 rfl ?_
            refine z_aload_n C dX5_whole_96 rfl 1 rfl ?_
            refine gf_X5_9 C (RI_mono hR0 (hK1).2.2).1 dX5_whole_97 ?_
            refine z_aload_n C dX5_whole_100 rfl 1 rfl ?_
            refine z_aload_n C dX5_whole_101 rfl 2 rfl ?_
            refine z_iload C dX5_whole_102 0 rfl ?_
            refine z_callVi (rest := [.ref tp, .ref sb]) (k' := 2 + ((j_cap n (c + (z_kln 3))) - 16) / 16) (n' := 20 + 2 * ((j_cap n (c + (z_kln 3))) - 16)) C (c_X5_where (z_l X) (z_G X) (RI_K (RI_mono hR0 (hK1).2.2) hi)) (cs_X5_51 C ⟨Nat.le_of_ble_eq_true rfl, Nat.le_of_ble_eq_true rfl⟩) (RI_mono hR0 (hK1).2.2).1 rfl rfl rfl rfl (Nat.le_of_ble_eq_true rfl) rfl rfl (by show _ ≤ 40; omega) (by show _ ≤ 1500; omega) dX5_whole_104 (fun x104 M' hq => ?_)
            obtain ⟨rfl, rfl⟩ := hq
            refine z_iald (j := ((s_ba (s_ln u) (p_ro (s_pn u i))) + sq + jx)) C ((hK1).2.2 _ _ htp0) (by rw [j_wh _ sq jx hsa rfl]; exact nI_in (by omega) (by omega)) (by rw [j_wh _ sq jx hsa rfl]; exact nI_clamp (by omega)) dX5_whole_107 ?_
            have hw2 := sb_dg_in ((ft0 ((s_ba (s_ln u) (p_ro (s_pn u i))) + sq + jx)).toNatClampNeg)
            refine z_tope (y := nI ((ft0 ((s_ba (s_ln u) (p_ro (s_pn u i))) + sq + jx)).toNatClampNeg)) (z_cN (j_val hok ht hft0 hrw (by omega) (by omega)).2).1 ?_
            have hm2 := j_B_c hB1
            have hl2 := j_cap_le (n := (j_cap n (c + (z_kln 3)))) (q := (c + (z_kln 3)) + (sb_dg ((ft0 ((s_ba (s_ln u) (p_ro (s_pn u i))) + sq + jx)).toNatClampNeg))) hm2.2.2 (by omega)
            refine j_site (q := qJ4_append_bf812) (c := (c + (z_kln 3))) (n := (j_cap n (c + (z_kln 3)))) (w := (sb_dg ((ft0 ((s_ba (s_ln u) (p_ro (s_pn u i))) + sq + jx)).toNatClampNeg))) (F := 3) (k0 := 2) (s0 := 20) (n0 := 16) (rest := []) C hB1 rfl (fun h9 => cs_X5_122 C h9) ⟨Nat.le_of_ble_eq_true rfl, Nat.le_of_ble_eq_true rfl⟩ (Nat.le_of_ble_eq_true rfl) (Nat.le_of_ble_eq_true rfl) (fun h9 => j_I_fit hB1 (j_v31 _) h9) (fun h9 => j_I_grow hB1 (j_v31 _) (by omega) h9) rfl rfl (Nat.le_of_ble_eq_true rfl) (by omega) (by show _ ≤ 40; omega) (by show _ ≤ 1500; omega) dX5_whole_108 (fun vc2 Mc2 hB2 hF2 => ?_)
            have hK2 := j_K_fr hK1 hF2
            have hn2 := j_cap_ge ((j_cap n (c + (z_kln 3)))) ((c + (z_kln 3)) + (sb_dg ((ft0 ((s_ba (s_ln u) (p_ro (s_pn u i))) + sq + jx)).toNatClampNeg)))
            refine z_ldcK (i := 1) C (by decide) rfl dX5_whole_111 ?_
            have hw3 : z_kln 1 ≤ 1 := z_kln_in 1 (by decide)
            have hm3 := j_B_c hB2
            have hl3 := j_cap_le (n := (j_cap (j_cap n (c + (z_kln 3))) ((c + (z_kln 3)) + (sb_dg ((ft0 ((s_ba (s_ln u) (p_ro (s_pn u i))) + sq + jx)).toNatClampNeg))))) (q := ((c + (z_kln 3)) + (sb_dg ((ft0 ((s_ba (s_ln u) (p_ro (s_pn u i))) + sq + jx)).toNatClampNeg))) + (z_kln 1)) hm3.2.2 (by omega)
            refine j_site (q := qJ4_append_15ec4) (c := ((c + (z_kln 3)) + (sb_dg ((ft0 ((s_ba (s_ln u) (p_ro (s_pn u i))) + sq + jx)).toNatClampNeg)))) (n := (j_cap (j_cap n (c + (z_kln 3))) ((c + (z_kln 3)) + (sb_dg ((ft0 ((s_ba (s_ln u) (p_ro (s_pn u i))) + sq + jx)).toNatClampNeg))))) (w := (z_kln 1)) (F := 5) (k0 := 2) (s0 := 20) (n0 := 16) (rest := []) C hB2 rfl (fun h9 => cs_X5_109 C h9) ⟨Nat.le_of_ble_eq_true rfl, Nat.le_of_ble_eq_true rfl⟩ (Nat.le_of_ble_eq_true rfl) (Nat.le_of_ble_eq_true rfl) (fun h9 => j_S_fit hB2 (by decide) h9) (fun h9 => j_S_grow hB2 (by decide) (by omega) h9) rfl rfl (Nat.le_of_ble_eq_true rfl) (by omega) (by show _ ≤ 40; omega) (by show _ ≤ 1500; omega) dX5_whole_113 (fun vc3 Mc3 hB3 hF3 => ?_)
            have hK3 := j_K_fr hK2 hF3
            have hn3 := j_cap_ge ((j_cap (j_cap n (c + (z_kln 3))) ((c + (z_kln 3)) + (sb_dg ((ft0 ((s_ba (s_ln u) (p_ro (s_pn u i))) + sq + jx)).toNatClampNeg))))) (((c + (z_kln 3)) + (sb_dg ((ft0 ((s_ba (s_ln u) (p_ro (s_pn u i))) + sq + jx)).toNatClampNeg))) + (z_kln 1))
            refine z_pop C dX5_whole_116 rfl ?_
            refine z_iinc (v := nI (jx + 1)) (lv' := [(4, .int (nI (jx + 1))), (0, .ref m), (2, .ref (K i)), (3, .ref sb)]) C dX5_whole_117 0 rfl (nI_1 jx) (by decide) rfl ?_
            refine z_goto C (tgt := 33) dX5_whole_120 (by decide) ?_
            refine z_fewer [0, 1, 2, 3] rfl ?_
            exact ih (jx + 1) _ _ _ _ (by omega) (by omega) hK3 hB3 (by omega)
        · refine z_aload_n C dX5_whole_80 rfl 3 rfl ?_
          refine z_ldcK (i := 4) C (by decide) rfl dX5_whole_81 ?_
          have hw2 : z_kln 4 ≤ 1 := z_kln_in 4 (by decide)
          have hm2 := j_B_c hB1
          have hl2 := j_cap_le (n := (j_cap n (c + (z_kln 3)))) (q := (c + (z_kln 3)) + (z_kln 4)) hm2.2.2 (by omega)
          refine j_site (q := qJ4_append_15ec4) (c := (c + (z_kln 3))) (n := (j_cap n (c + (z_kln 3)))) (w := (z_kln 4)) (F := 5) (k0 := 2) (s0 := 20) (n0 := 16) (rest := []) C hB1 rfl (fun h9 => cs_X5_109 C h9) ⟨Nat.le_of_ble_eq_true rfl, Nat.le_of_ble_eq_true rfl⟩ (Nat.le_of_ble_eq_true rfl) (Nat.le_of_ble_eq_true rfl) (fun h9 => j_S_fit hB1 (by decide) h9) (fun h9 => j_S_grow hB1 (by decide) (by omega) h9) rfl rfl (Nat.le_of_ble_eq_true rfl) (by omega) (by show _ ≤ 40; omega) (by show _ ≤ 1500; omega) dX5_whole_83 (fun vc2 Mc2 hB2 hF2 => ?_)
          have hK2 := j_K_fr hK1 hF2
          have hn2 := j_cap_ge ((j_cap n (c + (z_kln 3)))) ((c + (z_kln 3)) + (z_kln 4))
          refine z_pop C dX5_whole_86 rfl ?_
          refine z_iload C dX5_whole_87 0 rfl ?_
          refine z_aload_n C dX5_whole_89 rfl 2 rfl ?_
          refine z_iconst C (v := 3) dX5_whole_90 (by decide) ?_
          refine z_pl3 C (RI_K (RI_mono hR0 (hK2).2.2) hi) dX5_whole_91 ?_
          refine z_icmp_ge C (tgt := 117) dX5_whole_92 (by decide) (fun c92 => ?_) (fun c92 => ?_)
          · refine z_iinc (v := nI (jx + 1)) (lv' := [(4, .int (nI (jx + 1))), (0, .ref m), (2, .ref (K i)), (3, .ref sb)]) C dX5_whole_117 0 rfl (nI_1 jx) (by decide) rfl ?_
            refine z_goto C (tgt := 33) dX5_whole_120 (by decide) ?_
            refine z_fewer [0, 1, 2, 3] rfl ?_
            exact ih (jx + 1) _ _ _ _ (by omega) (by omega) hK2 hB2 (by omega)
          · have hj9 : jx < cq := by
              rw [hcp] at c92
              exact Nat.lt_of_not_le (fun q => c92 (nI_le q (by omega)))
            refine z_aload_n C dX5_whole_95 rfl 3 rfl ?_
            refine z_aload_n C dX5_whole_96 rfl 1 rfl ?_
            refine gf_X5_9 C (RI_mono hR0 (hK2).2.2).1 dX5_whole_97 ?_
            refine z_aload_n C dX5_whole_100 rfl 1 rfl ?_
            refine z_aload_n C dX5_whole_101 rfl 2 rfl ?_
            refine z_iload C dX5_whole_102 0 rfl ?_
            refine z_callVi (rest := [.ref tp, .ref sb]) (k' := 2 + ((j_cap (j_cap n (c + (z_kln 3))) ((c + (z_kln 3)) + (z_kln 4))) - 16) / 16) (n' := 20 + 2 * ((j_cap (j_cap n (c + (z_kln 3))) ((c + (z_kln 3)) + (z_kln 4))) - 16)) C (c_X5_where (z_l X) (z_G X) (RI_K (RI_mono hR0 (hK2).2.2) hi)) (cs_X5_51 C ⟨Nat.le_of_ble_eq_true rfl, Nat.le_of_ble_eq_true rfl⟩) (RI_mono hR0 (hK2).2.2).1 rfl rfl rfl rfl (Nat.le_of_ble_eq_true rfl) rfl rfl (by show _ ≤ 40; omega) (by show _ ≤ 1500; omega) dX5_whole_104 (fun x104 M' hq => ?_)
            obtain ⟨rfl, rfl⟩ := hq
            refine z_iald (j := ((s_ba (s_ln u) (p_ro (s_pn u i))) + sq + jx)) C ((hK2).2.2 _ _ htp0) (by rw [j_wh _ sq jx hsa rfl]; exact nI_in (by omega) (by omega)) (by rw [j_wh _ sq jx hsa rfl]; exact nI_clamp (by omega)) dX5_whole_107 ?_
            have hw3 := sb_dg_in ((ft0 ((s_ba (s_ln u) (p_ro (s_pn u i))) + sq + jx)).toNatClampNeg)
            refine z_tope (y := nI ((ft0 ((s_ba (s_ln u) (p_ro (s_pn u i))) + sq + jx)).toNatClampNeg)) (z_cN (j_val hok ht hft0 hrw (by omega) (by omega)).2).1 ?_
            have hm3 := j_B_c hB2
            have hl3 := j_cap_le (n := (j_cap (j_cap n (c + (z_kln 3))) ((c + (z_kln 3)) + (z_kln 4)))) (q := ((c + (z_kln 3)) + (z_kln 4)) + (sb_dg ((ft0 ((s_ba (s_ln u) (p_ro (s_pn u i))) + sq + jx)).toNatClampNeg))) hm3.2.2 (by omega)
            refine j_site (q := qJ4_append_bf812) (c := ((c + (z_kln 3)) + (z_kln 4))) (n := (j_cap (j_cap n (c + (z_kln 3))) ((c + (z_kln 3)) + (z_kln 4)))) (w := (sb_dg ((ft0 ((s_ba (s_ln u) (p_ro (s_pn u i))) + sq + jx)).toNatClampNeg))) (F := 3) (k0 := 2) (s0 := 20) (n0 := 16) (rest := []) C hB2 rfl (fun h9 => cs_X5_122 C h9) ⟨Nat.le_of_ble_eq_true rfl, Nat.le_of_ble_eq_true rfl⟩ (Nat.le_of_ble_eq_true rfl) (Nat.le_of_ble_eq_true rfl) (fun h9 => j_I_fit hB2 (j_v31 _) h9) (fun h9 => j_I_grow hB2 (j_v31 _) (by omega) h9) rfl rfl (Nat.le_of_ble_eq_true rfl) (by omega) (by show _ ≤ 40; omega) (by show _ ≤ 1500; omega) dX5_whole_108 (fun vc3 Mc3 hB3 hF3 => ?_)
            have hK3 := j_K_fr hK2 hF3
            have hn3 := j_cap_ge ((j_cap (j_cap n (c + (z_kln 3))) ((c + (z_kln 3)) + (z_kln 4)))) (((c + (z_kln 3)) + (z_kln 4)) + (sb_dg ((ft0 ((s_ba (s_ln u) (p_ro (s_pn u i))) + sq + jx)).toNatClampNeg)))
            refine z_ldcK (i := 1) C (by decide) rfl dX5_whole_111 ?_
            have hw4 : z_kln 1 ≤ 1 := z_kln_in 1 (by decide)
            have hm4 := j_B_c hB3
            have hl4 := j_cap_le (n := (j_cap (j_cap (j_cap n (c + (z_kln 3))) ((c + (z_kln 3)) + (z_kln 4))) (((c + (z_kln 3)) + (z_kln 4)) + (sb_dg ((ft0 ((s_ba (s_ln u) (p_ro (s_pn u i))) + sq + jx)).toNatClampNeg))))) (q := (((c + (z_kln 3)) + (z_kln 4)) + (sb_dg ((ft0 ((s_ba (s_ln u) (p_ro (s_pn u i))) + sq + jx)).toNatClampNeg))) + (z_kln 1)) hm4.2.2 (by omega)
            refine j_site (q := qJ4_append_15ec4) (c := (((c + (z_kln 3)) + (z_kln 4)) + (sb_dg ((ft0 ((s_ba (s_ln u) (p_ro (s_pn u i))) + sq + jx)).toNatClampNeg)))) (n := (j_cap (j_cap (j_cap n (c + (z_kln 3))) ((c + (z_kln 3)) + (z_kln 4))) (((c + (z_kln 3)) + (z_kln 4)) + (sb_dg ((ft0 ((s_ba (s_ln u) (p_ro (s_pn u i))) + sq + jx)).toNatClampNeg))))) (w := (z_kln 1)) (F := 5) (k0 := 2) (s0 := 20) (n0 := 16) (rest := []) C hB3 rfl (fun h9 => cs_X5_109 C h9) ⟨Nat.le_of_ble_eq_true rfl, Nat.le_of_ble_eq_true rfl⟩ (Nat.le_of_ble_eq_true rfl) (Nat.le_of_ble_eq_true rfl) (fun h9 => j_S_fit hB3 (by decide) h9) (fun h9 => j_S_grow hB3 (by decide) (by omega) h9) rfl rfl (Nat.le_of_ble_eq_true rfl) (by omega) (by show _ ≤ 40; omega) (by show _ ≤ 1500; omega) dX5_whole_113 (fun vc4 Mc4 hB4 hF4 => ?_)
            have hK4 := j_K_fr hK3 hF4
            have hn4 := j_cap_ge ((j_cap (j_cap (j_cap n (c + (z_kln 3))) ((c + (z_kln 3)) + (z_kln 4))) (((c + (z_kln 3)) + (z_kln 4)) + (sb_dg ((ft0 ((s_ba (s_ln u) (p_ro (s_pn u i))) + sq + jx)).toNatClampNeg))))) ((((c + (z_kln 3)) + (z_kln 4)) + (sb_dg ((ft0 ((s_ba (s_ln u) (p_ro (s_pn u i))) + sq + jx)).toNatClampNeg))) + (z_kln 1))
            refine z_pop C dX5_whole_116 rfl ?_
            refine z_iinc (v := nI (jx + 1)) (lv' := [(4, .int (nI (jx + 1))), (0, .ref m), (2, .ref (K i)), (3, .ref sb)]) C dX5_whole_117 0 rfl (nI_1 jx) (by decide) rfl ?_
            refine z_goto C (tgt := 33) dX5_whole_120 (by decide) ?_
            refine z_fewer [0, 1, 2, 3] rfl ?_
            exact ih (jx + 1) _ _ _ _ (by omega) (by omega) hK4 hB4 (by omega)
    · refine z_aload_n C dX5_whole_50 rfl 3 rfl ?_
      refine z_ldcK (i := 2) C (by decide) rfl dX5_whole_51 ?_
      have hw1 : z_kln 2 ≤ 1 := z_kln_in 2 (by decide)
      have hm1 := j_B_c hB
      have hl1 := j_cap_le (n := n) (q := c + (z_kln 2)) hm1.2.2 (by omega)
      refine j_site (q := qJ4_append_15ec4) (c := c) (n := n) (w := (z_kln 2)) (F := 5) (k0 := 2) (s0 := 20) (n0 := 16) (rest := []) C hB rfl (fun h9 => cs_X5_109 C h9) ⟨Nat.le_of_ble_eq_true rfl, Nat.le_of_ble_eq_true rfl⟩ (Nat.le_of_ble_eq_true rfl) (Nat.le_of_ble_eq_true rfl) (fun h9 => j_S_fit hB (by decide) h9) (fun h9 => j_S_grow hB (by decide) (by omega) h9) rfl rfl (Nat.le_of_ble_eq_true rfl) (by omega) (by show _ ≤ 40; omega) (by show _ ≤ 1500; omega) dX5_whole_53 (fun vc1 Mc1 hB1 hF1 => ?_)
      have hK1 := j_K_fr hK hF1
      have hn1 := j_cap_ge (n) (c + (z_kln 2))
      refine z_pop C dX5_whole_56 rfl ?_
      refine z_aload_n C dX5_whole_57 rfl 2 rfl ?_
      refine z_iconst C (v := 4) dX5_whole_58 (by decide) ?_
      refine z_pl4 C (RI_K (RI_mono hR0 (hK1).2.2) hi) dX5_whole_59 ?_
      refine z_iload C dX5_whole_60 0 rfl ?_
      refine z_icmp_ne C (tgt := 72) dX5_whole_62 (by decide) (fun c62 => ?_) (fun c62 => ?_)
      · refine z_aload_n C dX5_whole_72 rfl 2 rfl ?_
        refine z_iconst C (v := 5) dX5_whole_73 (by decide) ?_
        refine z_pl5 C (RI_K (RI_mono hR0 (hK1).2.2) hi) dX5_whole_74 ?_
        refine z_iload C dX5_whole_75 0 rfl ?_
        refine z_icmp_ne C (tgt := 87) dX5_whole_77 (by decide) (fun c77 => ?_) (fun c77 => ?_)
        · refine z_iload C dX5_whole_87 0 rfl ?_
          refine z_aload_n C dX5_whole_89 rfl 2 rfl ?_
          refine z_iconst C (v := 3) dX5_whole_90 (by decide) ?_
          refine z_pl3 C (RI_K (RI_mono hR0 (hK1).2.2) hi) dX5_whole_91 ?_
          refine z_icmp_ge C (tgt := 117) dX5_whole_92 (by decide) (fun c92 => ?_) (fun c92 => ?_)
          · refine z_iinc (v := nI (jx + 1)) (lv' := [(4, .int (nI (jx + 1))), (0, .ref m), (2, .ref (K i)), (3, .ref sb)]) C dX5_whole_117 0 rfl (nI_1 jx) (by decide) rfl ?_
            refine z_goto C (tgt := 33) dX5_whole_120 (by decide) ?_
            refine z_fewer [0, 1, 2, 3] rfl ?_
            exact ih (jx + 1) _ _ _ _ (by omega) (by omega) hK1 hB1 (by omega)
          · have hj9 : jx < cq := by
              rw [hcp] at c92
              exact Nat.lt_of_not_le (fun q => c92 (nI_le q (by omega)))
            refine z_aload_n C dX5_whole_95 rfl 3 rfl ?_
            refine z_aload_n C dX5_whole_96 rfl 1 rfl ?_
            refine gf_X5_9 C (RI_mono hR0 (hK1).2.2).1 dX5_whole_97 ?_
            refine z_aload_n C dX5_whole_100 rfl 1 rfl ?_
            refine z_aload_n C dX5_whole_101 rfl 2 rfl ?_
            refine z_iload C dX5_whole_102 0 rfl ?_
            refine z_callVi (rest := [.ref tp, .ref sb]) (k' := 2 + ((j_cap n (c + (z_kln 2))) - 16) / 16) (n' := 20 + 2 * ((j_cap n (c + (z_kln 2))) - 16)) C (c_X5_where (z_l X) (z_G X) (RI_K (RI_mono hR0 (hK1).2.2) hi)) (cs_X5_51 C ⟨Nat.le_of_ble_eq_true rfl, Nat.le_of_ble_eq_true rfl⟩) (RI_mono hR0 (hK1).2.2).1 rfl rfl rfl rfl (Nat.le_of_ble_eq_true rfl) rfl rfl (by show _ ≤ 40; omega) (by show _ ≤ 1500; omega) dX5_whole_104 (fun x104 M' hq => ?_)
            obtain ⟨rfl, rfl⟩ := hq
            refine z_iald (j := ((s_ba (s_ln u) (p_ro (s_pn u i))) + sq + jx)) C ((hK1).2.2 _ _ htp0) (by rw [j_wh _ sq jx hsa rfl]; exact nI_in (by omega) (by omega)) (by rw [j_wh _ sq jx hsa rfl]; exact nI_clamp (by omega)) dX5_whole_107 ?_
            have hw2 := sb_dg_in ((ft0 ((s_ba (s_ln u) (p_ro (s_pn u i))) + sq + jx)).toNatClampNeg)
            refine z_tope (y := nI ((ft0 ((s_ba (s_ln u) (p_ro (s_pn u i))) + sq + jx)).toNatClampNeg)) (z_cN (j_val hok ht hft0 hrw (by omega) (by omega)).2).1 ?_
            have hm2 := j_B_c hB1
            have hl2 := j_cap_le (n := (j_cap n (c + (z_kln 2)))) (q := (c + (z_kln 2)) + (sb_dg ((ft0 ((s_ba (s_ln u) (p_ro (s_pn u i))) + sq + jx)).toNatClampNeg))) hm2.2.2 (by omega)
            refine j_site (q := qJ4_append_bf812) (c := (c + (z_kln 2))) (n := (j_cap n (c + (z_kln 2)))) (w := (sb_dg ((ft0 ((s_ba (s_ln u) (p_ro (s_pn u i))) + sq + jx)).toNatClampNeg))) (F := 3) (k0 := 2) (s0 := 20) (n0 := 16) (rest := []) C hB1 rfl (fun h9 => cs_X5_122 C h9) ⟨Nat.le_of_ble_eq_true rfl, Nat.le_of_ble_eq_true rfl⟩ (Nat.le_of_ble_eq_true rfl) (Nat.le_of_ble_eq_true rfl) (fun h9 => j_I_fit hB1 (j_v31 _) h9) (fun h9 => j_I_grow hB1 (j_v31 _) (by omega) h9) rfl rfl (Nat.le_of_ble_eq_true rfl) (by omega) (by show _ ≤ 40; omega) (by show _ ≤ 1500; omega) dX5_whole_108 (fun vc2 Mc2 hB2 hF2 => ?_)
            have hK2 := j_K_fr hK1 hF2
            have hn2 := j_cap_ge ((j_cap n (c + (z_kln 2)))) ((c + (z_kln 2)) + (sb_dg ((ft0 ((s_ba (s_ln u) (p_ro (s_pn u i))) + sq + jx)).toNatClampNeg)))
            refine z_ldcK (i := 1) C (by decide) rfl dX5_whole_111 ?_
            have hw3 : z_kln 1 ≤ 1 := z_kln_in 1 (by decide)
            have hm3 := j_B_c hB2
            have hl3 := j_cap_le (n := (j_cap (j_cap n (c + (z_kln 2))) ((c + (z_kln 2)) + (sb_dg ((ft0 ((s_ba (s_ln u) (p_ro (s_pn u i))) + sq + jx)).toNatClampNeg))))) (q := ((c + (z_kln 2)) + (sb_dg ((ft0 ((s_ba (s_ln u) (p_ro (s_pn u i))) + sq + jx)).toNatClampNeg))) + (z_kln 1)) hm3.2.2 (by omega)
            refine j_site (q := qJ4_append_15ec4) (c := ((c + (z_kln 2)) + (sb_dg ((ft0 ((s_ba (s_ln u) (p_ro (s_pn u i))) + sq + jx)).toNatClampNeg)))) (n := (j_cap (j_cap n (c + (z_kln 2))) ((c + (z_kln 2)) + (sb_dg ((ft0 ((s_ba (s_ln u) (p_ro (s_pn u i))) + sq + jx)).toNatClampNeg))))) (w := (z_kln 1)) (F := 5) (k0 := 2) (s0 := 20) (n0 := 16) (rest := []) C hB2 rfl (fun h9 => cs_X5_109 C h9) ⟨Nat.le_of_ble_eq_true rfl, Nat.le_of_ble_eq_true rfl⟩ (Nat.le_of_ble_eq_true rfl) (Nat.le_of_ble_eq_true rfl) (fun h9 => j_S_fit hB2 (by decide) h9) (fun h9 => j_S_grow hB2 (by decide) (by omega) h9) rfl rfl (Nat.le_of_ble_eq_true rfl) (by omega) (by show _ ≤ 40; omega) (by show _ ≤ 1500; omega) dX5_whole_113 (fun vc3 Mc3 hB3 hF3 => ?_)
            have hK3 := j_K_fr hK2 hF3
            have hn3 := j_cap_ge ((j_cap (j_cap n (c + (z_kln 2))) ((c + (z_kln 2)) + (sb_dg ((ft0 ((s_ba (s_ln u) (p_ro (s_pn u i))) + sq + jx)).toNatClampNeg))))) (((c + (z_kln 2)) + (sb_dg ((ft0 ((s_ba (s_ln u) (p_ro (s_pn u i))) + sq + jx)).toNatClampNeg))) + (z_kln 1))
            refine z_pop C dX5_whole_116 rfl ?_
            refine z_iinc (v := nI (jx + 1)) (lv' := [(4, .int (nI (jx + 1))), (0, .ref m), (2, .ref (K i)), (3, .ref sb)]) C dX5_whole_117 0 rfl (nI_1 jx) (by decide) rfl ?_
            refine z_goto C (tgt := 33) dX5_whole_120 (by decide) ?_
            refine z_fewer [0, 1, 2, 3] rfl ?_
            exact ih (jx + 1) _ _ _ _ (by omega) (by omega) hK3 hB3 (by omega)
        · refine z_aload_n C dX5_whole_80 rfl 3 rfl ?_
          refine z_ldcK (i := 4) C (by decide) rfl dX5_whole_81 ?_
          have hw2 : z_kln 4 ≤ 1 := z_kln_in 4 (by decide)
          have hm2 := j_B_c hB1
          have hl2 := j_cap_le (n := (j_cap n (c + (z_kln 2)))) (q := (c + (z_kln 2)) + (z_kln 4)) hm2.2.2 (by omega)
          refine j_site (q := qJ4_append_15ec4) (c := (c + (z_kln 2))) (n := (j_cap n (c + (z_kln 2)))) (w := (z_kln 4)) (F := 5) (k0 := 2) (s0 := 20) (n0 := 16) (rest := []) C hB1 rfl (fun h9 => cs_X5_109 C h9) ⟨Nat.le_of_ble_eq_true rfl, Nat.le_of_ble_eq_true rfl⟩ (Nat.le_of_ble_eq_true rfl) (Nat.le_of_ble_eq_true rfl) (fun h9 => j_S_fit hB1 (by decide) h9) (fun h9 => j_S_grow hB1 (by decide) (by omega) h9) rfl rfl (Nat.le_of_ble_eq_true rfl) (by omega) (by show _ ≤ 40; omega) (by show _ ≤ 1500; omega) dX5_whole_83 (fun vc2 Mc2 hB2 hF2 => ?_)
          have hK2 := j_K_fr hK1 hF2
          have hn2 := j_cap_ge ((j_cap n (c + (z_kln 2)))) ((c + (z_kln 2)) + (z_kln 4))
          refine z_pop C dX5_whole_86 rfl ?_
          refine z_iload C dX5_whole_87 0 rfl ?_
          refine z_aload_n C dX5_whole_89 rfl 2 rfl ?_
          refine z_iconst C (v := 3) dX5_whole_90 (by decide) ?_
          refine z_pl3 C (RI_K (RI_mono hR0 (hK2).2.2) hi) dX5_whole_91 ?_
          refine z_icmp_ge C (tgt := 117) dX5_whole_92 (by decide) (fun c92 => ?_) (fun c92 => ?_)
          · refine z_iinc (v := nI (jx + 1)) (lv' := [(4, .int (nI (jx + 1))), (0, .ref m), (2, .ref (K i)), (3, .ref sb)]) C dX5_whole_117 0 rfl (nI_1 jx) (by decide) rfl ?_
            refine z_goto C (tgt := 33) dX5_whole_120 (by decide) ?_
            refine z_fewer [0, 1, 2, 3] rfl ?_
            exact ih (jx + 1) _ _ _ _ (by omega) (by omega) hK2 hB2 (by omega)
          · have hj9 : jx < cq := by
              rw [hcp] at c92
              exact Nat.lt_of_not_le (fun q => c92 (nI_le q (by omega)))
            refine z_aload_n C dX5_whole_95 rfl 3 rfl ?_
            refine z_aload_n C dX5_whole_96 rfl 1 rfl ?_
            refine gf_X5_9 C (RI_mono hR0 (hK2).2.2).1 dX5_whole_97 ?_
            refine z_aload_n C dX5_whole_100 rfl 1 rfl ?_
            refine z_aload_n C dX5_whole_101 rfl 2 rfl ?_
            refine z_iload C dX5_whole_102 0 rfl ?_
            refine z_callVi (rest := [.ref tp, .ref sb]) (k' := 2 + ((j_cap (j_cap n (c + (z_kln 2))) ((c + (z_kln 2)) + (z_kln 4))) - 16) / 16) (n' := 20 + 2 * ((j_cap (j_cap n (c + (z_kln 2))) ((c + (z_kln 2)) + (z_kln 4))) - 16)) C (c_X5_where (z_l X) (z_G X) (RI_K (RI_mono hR0 (hK2).2.2) hi)) (cs_X5_51 C ⟨Nat.le_of_ble_eq_true rfl, Nat.le_of_ble_eq_true rfl⟩) (RI_mono hR0 (hK2).2.2).1 rfl rfl rfl rfl (Nat.le_of_ble_eq_true rfl) rfl rfl (by show _ ≤ 40; omega) (by show _ ≤ 1500; omega) dX5_whole_104 (fun x104 M' hq => ?_)
            obtain ⟨rfl, rfl⟩ := hq
            refine z_iald (j := ((s_ba (s_ln u) (p_ro (s_pn u i))) + sq + jx)) C ((hK2).2.2 _ _ htp0) (by rw [j_wh _ sq jx hsa rfl]; exact nI_in (by omega) (by omega)) (by rw [j_wh _ sq jx hsa rfl]; exact nI_clamp (by omega)) dX5_whole_107 ?_
            have hw3 := sb_dg_in ((ft0 ((s_ba (s_ln u) (p_ro (s_pn u i))) + sq + jx)).toNatClampNeg)
            refine z_tope (y := nI ((ft0 ((s_ba (s_ln u) (p_ro (s_pn u i))) + sq + jx)).toNatClampNeg)) (z_cN (j_val hok ht hft0 hrw (by omega) (by omega)).2).1 ?_
            have hm3 := j_B_c hB2
            have hl3 := j_cap_le (n := (j_cap (j_cap n (c + (z_kln 2))) ((c + (z_kln 2)) + (z_kln 4)))) (q := ((c + (z_kln 2)) + (z_kln 4)) + (sb_dg ((ft0 ((s_ba (s_ln u) (p_ro (s_pn u i))) + sq + jx)).toNatClampNeg))) hm3.2.2 (by omega)
            refine j_site (q := qJ4_append_bf812) (c := ((c + (z_kln 2)) + (z_kln 4))) (n := (j_cap (j_cap n (c + (z_kln 2))) ((c + (z_kln 2)) + (z_kln 4)))) (w := (sb_dg ((ft0 ((s_ba (s_ln u) (p_ro (s_pn u i))) + sq + jx)).toNatClampNeg))) (F := 3) (k0 := 2) (s0 := 20) (n0 := 16) (rest := []) C hB2 rfl (fun h9 => cs_X5_122 C h9) ⟨Nat.le_of_ble_eq_true rfl, Nat.le_of_ble_eq_true rfl⟩ (Nat.le_of_ble_eq_true rfl) (Nat.le_of_ble_eq_true rfl) (fun h9 => j_I_fit hB2 (j_v31 _) h9) (fun h9 => j_I_grow hB2 (j_v31 _) (by omega) h9) rfl rfl (Nat.le_of_ble_eq_true rfl) (by omega) (by show _ ≤ 40; omega) (by show _ ≤ 1500; omega) dX5_whole_108 (fun vc3 Mc3 hB3 hF3 => ?_)
            have hK3 := j_K_fr hK2 hF3
            have hn3 := j_cap_ge ((j_cap (j_cap n (c + (z_kln 2))) ((c + (z_kln 2)) + (z_kln 4)))) (((c + (z_kln 2)) + (z_kln 4)) + (sb_dg ((ft0 ((s_ba (s_ln u) (p_ro (s_pn u i))) + sq + jx)).toNatClampNeg)))
            refine z_ldcK (i := 1) C (by decide) rfl dX5_whole_111 ?_
            have hw4 : z_kln 1 ≤ 1 := z_kln_in 1 (by decide)
            have hm4 := j_B_c hB3
            have hl4 := j_cap_le (n := (j_cap (j_cap (j_cap n (c + (z_kln 2))) ((c + (z_kln 2)) + (z_kln 4))) (((c + (z_kln 2)) + (z_kln 4)) + (sb_dg ((ft0 ((s_ba (s_ln u) (p_ro (s_pn u i))) + sq + jx)).toNatClampNeg))))) (q := (((c + (z_kln 2)) + (z_kln 4)) + (sb_dg ((ft0 ((s_ba (s_ln u) (p_ro (s_pn u i))) + sq + jx)).toNatClampNeg))) + (z_kln 1)) hm4.2.2 (by omega)
            refine j_site (q := qJ4_append_15ec4) (c := (((c + (z_kln 2)) + (z_kln 4)) + (sb_dg ((ft0 ((s_ba (s_ln u) (p_ro (s_pn u i))) + sq + jx)).toNatClampNeg)))) (n := (j_cap (j_cap (j_cap n (c + (z_kln 2))) ((c + (z_kln 2)) + (z_kln 4))) (((c + (z_kln 2)) + (z_kln 4)) + (sb_dg ((ft0 ((s_ba (s_ln u) (p_ro (s_pn u i))) + sq + jx)).toNatClampNeg))))) (w := (z_kln 1)) (F := 5) (k0 := 2) (s0 := 20) (n0 := 16) (rest := []) C hB3 rfl (fun h9 => cs_X5_109 C h9) ⟨Nat.le_of_ble_eq_true rfl, Nat.le_of_ble_eq_true rfl⟩ (Nat.le_of_ble_eq_true rfl) (Nat.le_of_ble_eq_true rfl) (fun h9 => j_S_fit hB3 (by decide) h9) (fun h9 => j_S_grow hB3 (by decide) (by omega) h9) rfl rfl (Nat.le_of_ble_eq_true rfl) (by omega) (by show _ ≤ 40; omega) (by show _ ≤ 1500; omega) dX5_whole_113 (fun vc4 Mc4 hB4 hF4 => ?_)
            have hK4 := j_K_fr hK3 hF4
            have hn4 := j_cap_ge ((j_cap (j_cap (j_cap n (c + (z_kln 2))) ((c + (z_kln 2)) + (z_kln 4))) (((c + (z_kln 2)) + (z_kln 4)) + (sb_dg ((ft0 ((s_ba (s_ln u) (p_ro (s_pn u i))) + sq + jx)).toNatClampNeg))))) ((((c + (z_kln 2)) + (z_kln 4)) + (sb_dg ((ft0 ((s_ba (s_ln u) (p_ro (s_pn u i))) + sq + jx)).toNatClampNeg))) + (z_kln 1))
            refine z_pop C dX5_whole_116 rfl ?_
            refine z_iinc (v := nI (jx + 1)) (lv' := [(4, .int (nI (jx + 1))), (0, .ref m), (2, .ref (K i)), (3, .ref sb)]) C dX5_whole_117 0 rfl (nI_1 jx) (by decide) rfl ?_
            refine z_goto C (tgt := 33) dX5_whole_120 (by decide) ?_
            refine z_fewer [0, 1, 2, 3] rfl ?_
            exact ih (jx + 1) _ _ _ _ (by omega) (by omega) hK4 hB4 (by omega)
      · refine z_aload_n C dX5_whole_65 rfl 3 rfl ?_
        refine z_ldcK (i := 3) C (by decide) rfl dX5_whole_66 ?_
        have hw2 : z_kln 3 ≤ 1 := z_kln_in 3 (by decide)
        have hm2 := j_B_c hB1
        have hl2 := j_cap_le (n := (j_cap n (c + (z_kln 2)))) (q := (c + (z_kln 2)) + (z_kln 3)) hm2.2.2 (by omega)
        refine j_site (q := qJ4_append_15ec4) (c := (c + (z_kln 2))) (n := (j_cap n (c + (z_kln 2)))) (w := (z_kln 3)) (F := 5) (k0 := 2) (s0 := 20) (n0 := 16) (rest := []) C hB1 rfl (fun h9 => cs_X5_109 C h9) ⟨Nat.le_of_ble_eq_true rfl, Nat.le_of_ble_eq_true rfl⟩ (Nat.le_of_ble_eq_true rfl) (Nat.le_of_ble_eq_true rfl) (fun h9 => j_S_fit hB1 (by decide) h9) (fun h9 => j_S_grow hB1 (by decide) (by omega) h9) rfl rfl (Nat.le_of_ble_eq_true rfl) (by omega) (by show _ ≤ 40; omega) (by show _ ≤ 1500; omega) dX5_whole_68 (fun vc2 Mc2 hB2 hF2 => ?_)
        have hK2 := j_K_fr hK1 hF2
        have hn2 := j_cap_ge ((j_cap n (c + (z_kln 2)))) ((c + (z_kln 2)) + (z_kln 3))
        refine z_pop C dX5_whole_71 rfl ?_
        refine z_aload_n C dX5_whole_72 rfl 2 rfl ?_
        refine z_iconst C (v := 5) dX5_whole_73 (by decide) ?_
        refine z_pl5 C (RI_K (RI_mono hR0 (hK2).2.2) hi) dX5_whole_74 ?_
        refine z_iload C dX5_whole_75 0 rfl ?_
        refine z_icmp_ne C (tgt := 87) dX5_whole_77 (by decide) (fun c77 => ?_) (fun c77 => ?_)
        · refine z_iload C dX5_whole_87 0 rfl ?_
          refine z_aload_n C dX5_whole_89 rfl 2 rfl ?_
          refine z_iconst C (v := 3) dX5_whole_90 (by decide) ?_
          refine z_pl3 C (RI_K (RI_mono hR0 (hK2).2.2) hi) dX5_whole_91 ?_
          refine z_icmp_ge C (tgt := 117) dX5_whole_92 (by decide) (fun c92 => ?_) (fun c92 => ?_)
          · refine z_iinc (v := nI (jx + 1)) (lv' := [(4, .int (nI (jx + 1))), (0, .ref m), (2, .ref (K i)), (3, .ref sb)]) C dX5_whole_117 0 rfl (nI_1 jx) (by decide) rfl ?_
            refine z_goto C (tgt := 33) dX5_whole_120 (by decide) ?_
            refine z_fewer [0, 1, 2, 3] rfl ?_
            exact ih (jx + 1) _ _ _ _ (by omega) (by omega) hK2 hB2 (by omega)
          · have hj9 : jx < cq := by
              rw [hcp] at c92
              exact Nat.lt_of_not_le (fun q => c92 (nI_le q (by omega)))
            refine z_aload_n C dX5_whole_95 rfl 3 rfl ?_
            refine z_aload_n C dX5_whole_96 rfl 1 rfl ?_
            refine gf_X5_9 C (RI_mono hR0 (hK2).2.2).1 dX5_whole_97 ?_
            refine z_aload_n C dX5_whole_100 rfl 1 rfl ?_
            refine z_aload_n C dX5_whole_101 rfl 2 rfl ?_
            refine z_iload C dX5_whole_102 0 rfl ?_
            refine z_callVi (rest := [.ref tp, .ref sb]) (k' := 2 + ((j_cap (j_cap n (c + (z_kln 2))) ((c + (z_kln 2)) + (z_kln 3))) - 16) / 16) (n' := 20 + 2 * ((j_cap (j_cap n (c + (z_kln 2))) ((c + (z_kln 2)) + (z_kln 3))) - 16)) C (c_X5_where (z_l X) (z_G X) (RI_K (RI_mono hR0 (hK2).2.2) hi)) (cs_X5_51 C ⟨Nat.le_of_ble_eq_true rfl, Nat.le_of_ble_eq_true rfl⟩) (RI_mono hR0 (hK2).2.2).1 rfl rfl rfl rfl (Nat.le_of_ble_eq_true rfl) rfl rfl (by show _ ≤ 40; omega) (by show _ ≤ 1500; omega) dX5_whole_104 (fun x104 M' hq => ?_)
            obtain ⟨rfl, rfl⟩ := hq
            refine z_iald (j := ((s_ba (s_ln u) (p_ro (s_pn u i))) + sq + jx)) C ((hK2).2.2 _ _ htp0) (by rw [j_wh _ sq jx hsa rfl]; exact nI_in (by omega) (by omega)) (by rw [j_wh _ sq jx hsa rfl]; exact nI_clamp (by omega)) dX5_whole_107 ?_
            have hw3 := sb_dg_in ((ft0 ((s_ba (s_ln u) (p_ro (s_pn u i))) + sq + jx)).toNatClampNeg)
            refine z_tope (y := nI ((ft0 ((s_ba (s_ln u) (p_ro (s_pn u i))) + sq + jx)).toNatClampNeg)) (z_cN (j_val hok ht hft0 hrw (by omega) (by omega)).2).1 ?_
            have hm3 := j_B_c hB2
            have hl3 := j_cap_le (n := (j_cap (j_cap n (c + (z_kln 2))) ((c + (z_kln 2)) + (z_kln 3)))) (q := ((c + (z_kln 2)) + (z_kln 3)) + (sb_dg ((ft0 ((s_ba (s_ln u) (p_ro (s_pn u i))) + sq + jx)).toNatClampNeg))) hm3.2.2 (by omega)
            refine j_site (q := qJ4_append_bf812) (c := ((c + (z_kln 2)) + (z_kln 3))) (n := (j_cap (j_cap n (c + (z_kln 2))) ((c + (z_kln 2)) + (z_kln 3)))) (w := (sb_dg ((ft0 ((s_ba (s_ln u) (p_ro (s_pn u i))) + sq + jx)).toNatClampNeg))) (F := 3) (k0 := 2) (s0 := 20) (n0 := 16) (rest := []) C hB2 rfl (fun h9 => cs_X5_122 C h9) ⟨Nat.le_of_ble_eq_true rfl, Nat.le_of_ble_eq_true rfl⟩ (Nat.le_of_ble_eq_true rfl) (Nat.le_of_ble_eq_true rfl) (fun h9 => j_I_fit hB2 (j_v31 _) h9) (fun h9 => j_I_grow hB2 (j_v31 _) (by omega) h9) rfl rfl (Nat.le_of_ble_eq_true rfl) (by omega) (by show _ ≤ 40; omega) (by show _ ≤ 1500; omega) dX5_whole_108 (fun vc3 Mc3 hB3 hF3 => ?_)
            have hK3 := j_K_fr hK2 hF3
            have hn3 := j_cap_ge ((j_cap (j_cap n (c + (z_kln 2))) ((c + (z_kln 2)) + (z_kln 3)))) (((c + (z_kln 2)) + (z_kln 3)) + (sb_dg ((ft0 ((s_ba (s_ln u) (p_ro (s_pn u i))) + sq + jx)).toNatClampNeg)))
            refine z_ldcK (i := 1) C (by decide) rfl dX5_whole_111 ?_
            have hw4 : z_kln 1 ≤ 1 := z_kln_in 1 (by decide)
            have hm4 := j_B_c hB3
            have hl4 := j_cap_le (n := (j_cap (j_cap (j_cap n (c + (z_kln 2))) ((c + (z_kln 2)) + (z_kln 3))) (((c + (z_kln 2)) + (z_kln 3)) + (sb_dg ((ft0 ((s_ba (s_ln u) (p_ro (s_pn u i))) + sq + jx)).toNatClampNeg))))) (q := (((c + (z_kln 2)) + (z_kln 3)) + (sb_dg ((ft0 ((s_ba (s_ln u) (p_ro (s_pn u i))) + sq + jx)).toNatClampNeg))) + (z_kln 1)) hm4.2.2 (by omega)
            refine j_site (q := qJ4_append_15ec4) (c := (((c + (z_kln 2)) + (z_kln 3)) + (sb_dg ((ft0 ((s_ba (s_ln u) (p_ro (s_pn u i))) + sq + jx)).toNatClampNeg)))) (n := (j_cap (j_cap (j_cap n (c + (z_kln 2))) ((c + (z_kln 2)) + (z_kln 3))) (((c + (z_kln 2)) + (z_kln 3)) + (sb_dg ((ft0 ((s_ba (s_ln u) (p_ro (s_pn u i))) + sq + jx)).toNatClampNeg))))) (w := (z_kln 1)) (F := 5) (k0 := 2) (s0 := 20) (n0 := 16) (rest := []) C hB3 rfl (fun h9 => cs_X5_109 C h9) ⟨Nat.le_of_ble_eq_true rfl, Nat.le_of_ble_eq_true rfl⟩ (Nat.le_of_ble_eq_true rfl) (Nat.le_of_ble_eq_true rfl) (fun h9 => j_S_fit hB3 (by decide) h9) (fun h9 => j_S_grow hB3 (by decide) (by omega) h9) rfl rfl (Nat.le_of_ble_eq_true rfl) (by omega) (by show _ ≤ 40; omega) (by show _ ≤ 1500; omega) dX5_whole_113 (fun vc4 Mc4 hB4 hF4 => ?_)
            have hK4 := j_K_fr hK3 hF4
            have hn4 := j_cap_ge ((j_cap (j_cap (j_cap n (c + (z_kln 2))) ((c + (z_kln 2)) + (z_kln 3))) (((c + (z_kln 2)) + (z_kln 3)) + (sb_dg ((ft0 ((s_ba (s_ln u) (p_ro (s_pn u i))) + sq + jx)).toNatClampNeg))))) ((((c + (z_kln 2)) + (z_kln 3)) + (sb_dg ((ft0 ((s_ba (s_ln u) (p_ro (s_pn u i))) + sq + jx)).toNatClampNeg))) + (z_kln 1))
            refine z_pop C dX5_whole_116 rfl ?_
            refine z_iinc (v := nI (jx + 1)) (lv' := [(4, .int (nI (jx + 1))), (0, .ref m), (2, .ref (K i)), (3, .ref sb)]) C dX5_whole_117 0 rfl (nI_1 jx) (by decide) rfl ?_
            refine z_goto C (tgt := 33) dX5_whole_120 (by decide) ?_
            refine z_fewer [0, 1, 2, 3] rfl ?_
            exact ih (jx + 1) _ _ _ _ (by omega) (by omega) hK4 hB4 (by omega)
        · refine z_aload_n C dX5_whole_80 rfl 3 rfl ?_
          refine z_ldcK (i := 4) C (by decide) rfl dX5_whole_81 ?_
          have hw3 : z_kln 4 ≤ 1 := z_kln_in 4 (by decide)
          have hm3 := j_B_c hB2
          have hl3 := j_cap_le (n := (j_cap (j_cap n (c + (z_kln 2))) ((c + (z_kln 2)) + (z_kln 3)))) (q := ((c + (z_kln 2)) + (z_kln 3)) + (z_kln 4)) hm3.2.2 (by omega)
          refine j_site (q := qJ4_append_15ec4) (c := ((c + (z_kln 2)) + (z_kln 3))) (n := (j_cap (j_cap n (c + (z_kln 2))) ((c + (z_kln 2)) + (z_kln 3)))) (w := (z_kln 4)) (F := 5) (k0 := 2) (s0 := 20) (n0 := 16) (rest := []) C hB2 rfl (fun h9 => cs_X5_109 C h9) ⟨Nat.le_of_ble_eq_true rfl, Nat.le_of_ble_eq_true rfl⟩ (Nat.le_of_ble_eq_true rfl) (Nat.le_of_ble_eq_true rfl) (fun h9 => j_S_fit hB2 (by decide) h9) (fun h9 => j_S_grow hB2 (by decide) (by omega) h9) rfl rfl (Nat.le_of_ble_eq_true rfl) (by omega) (by show _ ≤ 40; omega) (by show _ ≤ 1500; omega) dX5_whole_83 (fun vc3 Mc3 hB3 hF3 => ?_)
          have hK3 := j_K_fr hK2 hF3
          have hn3 := j_cap_ge ((j_cap (j_cap n (c + (z_kln 2))) ((c + (z_kln 2)) + (z_kln 3)))) (((c + (z_kln 2)) + (z_kln 3)) + (z_kln 4))
          refine z_pop C dX5_whole_86 rfl ?_
          refine z_iload C dX5_whole_87 0 rfl ?_
          refine z_aload_n C dX5_whole_89 rfl 2 rfl ?_
          refine z_iconst C (v := 3) dX5_whole_90 (by decide) ?_
          refine z_pl3 C (RI_K (RI_mono hR0 (hK3).2.2) hi) dX5_whole_91 ?_
          refine z_icmp_ge C (tgt := 117) dX5_whole_92 (by decide) (fun c92 => ?_) (fun c92 => ?_)
          · refine z_iinc (v := nI (jx + 1)) (lv' := [(4, .int (nI (jx + 1))), (0, .ref m), (2, .ref (K i)), (3, .ref sb)]) C dX5_whole_117 0 rfl (nI_1 jx) (by decide) rfl ?_
            refine z_goto C (tgt := 33) dX5_whole_120 (by decide) ?_
            refine z_fewer [0, 1, 2, 3] rfl ?_
            exact ih (jx + 1) _ _ _ _ (by omega) (by omega) hK3 hB3 (by omega)
          · have hj9 : jx < cq := by
              rw [hcp] at c92
              exact Nat.lt_of_not_le (fun q => c92 (nI_le q (by omega)))
            refine z_aload_n C dX5_whole_95 rfl 3 rfl ?_
            refine z_aload_n C dX5_whole_96 rfl 1 rfl ?_
            refine gf_X5_9 C (RI_mono hR0 (hK3).2.2).1 dX5_whole_97 ?_
            refine z_aload_n C dX5_whole_100 rfl 1 rfl ?_
            refine z_aload_n C dX5_whole_101 rfl 2 rfl ?_
            refine z_iload C dX5_whole_102 0 rfl ?_
            refine z_callVi (rest := [.ref tp, .ref sb]) (k' := 2 + ((j_cap (j_cap (j_cap n (c + (z_kln 2))) ((c + (z_kln 2)) + (z_kln 3))) (((c + (z_kln 2)) + (z_kln 3)) + (z_kln 4))) - 16) / 16) (n' := 20 + 2 * ((j_cap (j_cap (j_cap n (c + (z_kln 2))) ((c + (z_kln 2)) + (z_kln 3))) (((c + (z_kln 2)) + (z_kln 3)) + (z_kln 4))) - 16)) C (c_X5_where (z_l X) (z_G X) (RI_K (RI_mono hR0 (hK3).2.2) hi)) (cs_X5_51 C ⟨Nat.le_of_ble_eq_true rfl, Nat.le_of_ble_eq_true rfl⟩) (RI_mono hR0 (hK3).2.2).1 rfl rfl rfl rfl (Nat.le_of_ble_eq_true rfl) rfl rfl (by show _ ≤ 40; omega) (by show _ ≤ 1500; omega) dX5_whole_104 (fun x104 M' hq => ?_)
            obtain ⟨rfl, rfl⟩ := hq
            refine z_iald (j := ((s_ba (s_ln u) (p_ro (s_pn u i))) + sq + jx)) C ((hK3).2.2 _ _ htp0) (by rw [j_wh _ sq jx hsa rfl]; exact nI_in (by omega) (by omega)) (by rw [j_wh _ sq jx hsa rfl]; exact nI_clamp (by omega)) dX5_whole_107 ?_
            have hw4 := sb_dg_in ((ft0 ((s_ba (s_ln u) (p_ro (s_pn u i))) + sq + jx)).toNatClampNeg)
            refine z_tope (y := nI ((ft0 ((s_ba (s_ln u) (p_ro (s_pn u i))) + sq + jx)).toNatClampNeg)) (z_cN (j_val hok ht hft0 hrw (by omega) (by omega)).2).1 ?_
            have hm4 := j_B_c hB3
            have hl4 := j_cap_le (n := (j_cap (j_cap (j_cap n (c + (z_kln 2))) ((c + (z_kln 2)) + (z_kln 3))) (((c + (z_kln 2)) + (z_kln 3)) + (z_kln 4)))) (q := (((c + (z_kln 2)) + (z_kln 3)) + (z_kln 4)) + (sb_dg ((ft0 ((s_ba (s_ln u) (p_ro (s_pn u i))) + sq + jx)).toNatClampNeg))) hm4.2.2 (by omega)
            refine j_site (q := qJ4_append_bf812) (c := (((c + (z_kln 2)) + (z_kln 3)) + (z_kln 4))) (n := (j_cap (j_cap (j_cap n (c + (z_kln 2))) ((c + (z_kln 2)) + (z_kln 3))) (((c + (z_kln 2)) + (z_kln 3)) + (z_kln 4)))) (w := (sb_dg ((ft0 ((s_ba (s_ln u) (p_ro (s_pn u i))) + sq + jx)).toNatClampNeg))) (F := 3) (k0 := 2) (s0 := 20) (n0 := 16) (rest := []) C hB3 rfl (fun h9 => cs_X5_122 C h9) ⟨Nat.le_of_ble_eq_true rfl, Nat.le_of_ble_eq_true rfl⟩ (Nat.le_of_ble_eq_true rfl) (Nat.le_of_ble_eq_true rfl) (fun h9 => j_I_fit hB3 (j_v31 _) h9) (fun h9 => j_I_grow hB3 (j_v31 _) (by omega) h9) rfl rfl (Nat.le_of_ble_eq_true rfl) (by omega) (by show _ ≤ 40; omega) (by show _ ≤ 1500; omega) dX5_whole_108 (fun vc4 Mc4 hB4 hF4 => ?_)
            have hK4 := j_K_fr hK3 hF4
            have hn4 := j_cap_ge ((j_cap (j_cap (j_cap n (c + (z_kln 2))) ((c + (z_kln 2)) + (z_kln 3))) (((c + (z_kln 2)) + (z_kln 3)) + (z_kln 4)))) ((((c + (z_kln 2)) + (z_kln 3)) + (z_kln 4)) + (sb_dg ((ft0 ((s_ba (s_ln u) (p_ro (s_pn u i))) + sq + jx)).toNatClampNeg)))
            refine z_ldcK (i := 1) C (by decide) rfl dX5_whole_111 ?_
            have hw5 : z_kln 1 ≤ 1 := z_kln_in 1 (by decide)
            have hm5 := j_B_c hB4
            have hl5 := j_cap_le (n := (j_cap (j_cap (j_cap (j_cap n (c + (z_kln 2))) ((c + (z_kln 2)) + (z_kln 3))) (((c + (z_kln 2)) + (z_kln 3)) + (z_kln 4))) ((((c + (z_kln 2)) + (z_kln 3)) + (z_kln 4)) + (sb_dg ((ft0 ((s_ba (s_ln u) (p_ro (s_pn u i))) + sq + jx)).toNatClampNeg))))) (q := ((((c + (z_kln 2)) + (z_kln 3)) + (z_kln 4)) + (sb_dg ((ft0 ((s_ba (s_ln u) (p_ro (s_pn u i))) + sq + jx)).toNatClampNeg))) + (z_kln 1)) hm5.2.2 (by omega)
            refine j_site (q := qJ4_append_15ec4) (c := ((((c + (z_kln 2)) + (z_kln 3)) + (z_kln 4)) + (sb_dg ((ft0 ((s_ba (s_ln u) (p_ro (s_pn u i))) + sq + jx)).toNatClampNeg)))) (n := (j_cap (j_cap (j_cap (j_cap n (c + (z_kln 2))) ((c + (z_kln 2)) + (z_kln 3))) (((c + (z_kln 2)) + (z_kln 3)) + (z_kln 4))) ((((c + (z_kln 2)) + (z_kln 3)) + (z_kln 4)) + (sb_dg ((ft0 ((s_ba (s_ln u) (p_ro (s_pn u i))) + sq + jx)).toNatClampNeg))))) (w := (z_kln 1)) (F := 5) (k0 := 2) (s0 := 20) (n0 := 16) (rest := []) C hB4 rfl (fun h9 => cs_X5_109 C h9) ⟨Nat.le_of_ble_eq_true rfl, Nat.le_of_ble_eq_true rfl⟩ (Nat.le_of_ble_eq_true rfl) (Nat.le_of_ble_eq_true rfl) (fun h9 => j_S_fit hB4 (by decide) h9) (fun h9 => j_S_grow hB4 (by decide) (by omega) h9) rfl rfl (Nat.le_of_ble_eq_true rfl) (by omega) (by show _ ≤ 40; omega) (by show _ ≤ 1500; omega) dX5_whole_113 (fun vc5 Mc5 hB5 hF5 => ?_)
            have hK5 := j_K_fr hK4 hF5
            have hn5 := j_cap_ge ((j_cap (j_cap (j_cap (j_cap n (c + (z_kln 2))) ((c + (z_kln 2)) + (z_kln 3))) (((c + (z_kln 2)) + (z_kln 3)) + (z_kln 4))) ((((c + (z_kln 2)) + (z_kln 3)) + (z_kln 4)) + (sb_dg ((ft0 ((s_ba (s_ln u) (p_ro (s_pn u i))) + sq + jx)).toNatClampNeg))))) (((((c + (z_kln 2)) + (z_kln 3)) + (z_kln 4)) + (sb_dg ((ft0 ((s_ba (s_ln u) (p_ro (s_pn u i))) + sq + jx)).toNatClampNeg))) + (z_kln 1))
            refine z_pop C dX5_whole_116 rfl ?_
            refine z_iinc (v := nI (jx + 1)) (lv' := [(4, .int (nI (jx + 1))), (0, .ref m), (2, .ref (K i)), (3, .ref sb)]) C dX5_whole_117 0 rfl (nI_1 jx) (by decide) rfl ?_
            refine z_goto C (tgt := 33) dX5_whole_120 (by decide) ?_
            refine z_fewer [0, 1, 2, 3] rfl ?_
            exact ih (jx + 1) _ _ _ _ (by omega) (by omega) hK5 hB5 (by omega)
set_option maxRecDepth 20000 in
theorem c_X5_whole_bad (l : Launch) (G : zG) {M : zM} {m : Nat} {pane : Int32} {tp : Nat} {nr : Int32} {pn : Nat} {td : Nat} {ac : Int32} {kn : Int32} {th : Int32}  (h_m : M m = some (cMd tp nr pn td ac kn th)) (h_bad : z_is pane 0 5 = 0) : z_Mr l G qX5_whole (z_rm 11 40 1500) [.ref m, .int pane] M (fun r M' => r = zK G 0 ∧ M' = z_up M m (cMd tp nr pn td ac kn (z_lt (z_is pane 0 5) 1)))  := by
  refine z_Mr_of _ (plainFor_of_name rfl) rfl (by first | exact Or.inl ⟨_, rfl⟩ | exact Or.inr ⟨_, rfl⟩) (Nat.le_of_ble_eq_true rfl) (fun X hl hG hnm C ret => ?_)
  subst hl; subst hG
  have C : z_C X cX5_whole RX5 5 (z_rm 11 40 1500) := C
  show z_W X M 0 0 0 [(0, .ref m), (1, .int pane)] []
  refine z_aload_n C dX5_whole_0 rfl 0 rfl ?_
  refine z_iload_n C dX5_whole_1 rfl 1 rfl ?_
  refine z_callSi (rest := [.ref m]) (k' := 0) (n' := 0) C (c_X5_isPane (z_l X) (z_G X) ) (cs_X5_55 C (by decide)) rfl rfl (Nat.le_of_ble_eq_true rfl) rfl rfl (by decide) (by decide) dX5_whole_2 (fun x2 M' hq => ?_)
  obtain ⟨rfl, rfl⟩ := hq
  refine z_iconst C (v := 1) dX5_whole_5 (by decide) ?_
  refine z_callVi (rest := []) (k' := 0) (n' := 0) C (c_X5_isLet (z_l X) (z_G X) h_m) (cs_X5_59 C (by decide)) h_m rfl rfl rfl rfl (Nat.le_of_ble_eq_true rfl) rfl rfl (by decide) (by decide) dX5_whole_6 (fun x6 M' hq => ?_)
  obtain ⟨rfl, rfl⟩ := hq
  refine z_if_ne C (tgt := 15) dX5_whole_9 (by decide) (fun c9 => absurd (by simp [z_lr, z_lt, h_bad]) c9) (fun _ => ?_)
  refine z_ldcK (i := 0) C (by decide) rfl dX5_whole_12 ?_
  exact ret dX5_whole_14 (⟨rfl, rfl⟩) (by decide) (by decide)
set_option maxRecDepth 20000 in
theorem g_X5_whole (l : Launch) {G : zG} {u : sS} {m : Nat} {th : Int32} {K : Nat → Nat} {tp pn td : Nat} {Mw : zM} (hR : RI G u m th K tp pn td Mw) {t : Nat} (hok : s_ok t u) (ht : t ≤ 64) {pane : Int32} (h_ok : z_is pane 0 5 = 1) (h_ip : vp_in pane 6) (hi : pane.toNatClampNeg < 6) : z_Mr l G qX5_whole (z_rm 11 40 1500) [.ref m, .int pane] Mw (RT9 G m pn td (z_lt (z_is pane 0 5) 1) u)  := by
  obtain ⟨ft, htp, hft⟩ := RI_tpf hR
  obtain ⟨fp, hpn, hfp⟩ := RI_pnf hR
  obtain ⟨sq, pq, lq, cq, hsa, hpo, hli, hcp, g1, g2, g3, g4⟩ := j_sa hok hi
  have hrw := s_row hok hi
  have hnt := s_ba_nt hok ht
  have hbl := s_ba_lt (s_ln u) hrw
  refine z_Mr_of _ (plainFor_of_name rfl) rfl (by first | exact Or.inl ⟨_, rfl⟩ | exact Or.inr ⟨_, rfl⟩) (Nat.le_of_ble_eq_true rfl) (fun X hl hG hnm C ret => ?_)
  subst hl; subst hG
  have C : z_C X cX5_whole RX5 5 (z_rm 11 40 1500) := C
  show z_W X Mw 0 0 0 [(0, .ref m), (1, .int pane)] []
  refine z_aload_n C dX5_whole_0 rfl 0 rfl ?_
  refine z_iload_n C dX5_whole_1 rfl 1 rfl ?_
  refine z_callSi (rest := [.ref m]) (k' := 0) (n' := 0) C (c_X5_isPane (z_l X) (z_G X) ) (cs_X5_55 C ⟨Nat.le_of_ble_eq_true rfl, Nat.le_of_ble_eq_true rfl⟩) rfl rfl (Nat.le_of_ble_eq_true rfl) rfl rfl (by show _ ≤ 40; omega) (by show _ ≤ 1500; omega) dX5_whole_2 (fun x2 M' hq => ?_)
  obtain ⟨rfl, rfl⟩ := hq
  refine z_iconst C (v := 1) dX5_whole_5 (by decide) ?_
  refine z_callVi (rest := []) (k' := 0) (n' := 0) C (c_X5_isLet (z_l X) (z_G X) hR.1) (cs_X5_59 C ⟨Nat.le_of_ble_eq_true rfl, Nat.le_of_ble_eq_true rfl⟩) hR.1 rfl rfl rfl rfl (Nat.le_of_ble_eq_true rfl) rfl rfl (by show _ ≤ 40; omega) (by show _ ≤ 1500; omega) dX5_whole_6 (fun x6 M' hq => ?_)
  obtain ⟨rfl, rfl⟩ := hq
  refine z_if_ne C (tgt := 15) dX5_whole_9 (by decide) (fun _ => ?_) (fun c9 => absurd c9 (by simp [z_lr, z_lt, h_ok]))
  refine z_opq (fun Mb hWb => ?_)
  have hR0 : RI (z_G X) u m (z_lt (z_is pane 0 5) 1) K tp pn td Mb := by
    rw [hWb]
    exact RI_ak hR _ _ _
  clear hWb
  obtain ⟨ft0, htp0, hft0⟩ := RI_tpf hR0
  obtain ⟨fp0, hpn0, hfp0⟩ := RI_pnf hR0
  refine z_aload_n C dX5_whole_15 rfl 0 rfl ?_
  refine gf_X5_18 C hR0.1 dX5_whole_16 ?_
  refine z_iload_n C dX5_whole_19 rfl 1 rfl ?_
  refine z_aaldI (j := pane.toNatClampNeg) C hpn0 h_ip rfl (hfp0 _ hi) dX5_whole_20 ?_
  refine z_astore_n (lv' := [(2, .ref (K pane.toNatClampNeg)), (0, .ref m), (1, .int pane)]) C dX5_whole_21 rfl (by decide) rfl ?_
  refine z_new (ci := 1) (fs := [.null, .int 0, .int 0, .int 0]) C rfl inJ4 tyJ4 tyJ4_ok kw1257 kw96 kw6 (fun j hj => by rcases (show j = 0 ∨ j = 1 ∨ j = 2 ∨ j = 3 by omega) with rfl | rfl | rfl | rfl <;> rfl) (by show _ ≤ 40; omega) (by show _ ≤ 1500; omega) dX5_whole_22 (fun q22 hq22 => ?_)
  refine z_kn (k' := 1) (n' := 4) rfl rfl ?_
  refine z_dup C dX5_whole_25 rfl ?_
  refine z_callI (rest := [.ref q22]) (k' := 2) (n' := 20) C (c_J4_init_da8c8 (z_l X) (z_G X) (z_up_s _ _ _)) (cs_X5_108 C ⟨Nat.le_of_ble_eq_true rfl, Nat.le_of_ble_eq_true rfl⟩) rfl rfl (Nat.le_of_ble_eq_true rfl) rfl rfl (by show _ ≤ 40; omega) (by show _ ≤ 1500; omega) dX5_whole_26 (fun M' hq => ?_)
  obtain ⟨q12_3_26, hq12_3_26, rfl⟩ := hq
  rw [z_up_swap _ (z_neN (z_up_s _ _ _) hq12_3_26)]
  rw [z_up_up]
  refine z_opq (fun Mb hWb => ?_)
  obtain ⟨hBn, hKn⟩ := j_newSB hq22 hq12_3_26 hWb
  clear hWb
  refine z_kn (k' := 2 + (16 - 16) / 16) (n' := 20 + 2 * (16 - 16)) rfl rfl ?_
  generalize q22 = sb at hBn hKn ⊢
  refine z_astore_n (lv' := [(3, .ref sb), (2, .ref (K pane.toNatClampNeg)), (0, .ref m), (1, .int pane)]) C dX5_whole_29 rfl (by decide) rfl ?_
  refine z_iconst C (v := 0) dX5_whole_30 (by decide) ?_
  refine z_istore (lv' := [(4, .int 0), (3, .ref sb), (2, .ref (K pane.toNatClampNeg)), (0, .ref m), (1, .int pane)]) C dX5_whole_31 (by decide) rfl ?_
  refine z_fewer [0, 3, 2, 1] rfl ?_
  refine z_at (M' := _) (lv' := [(4, .int (nI 0)), (0, .ref m), (2, .ref (K pane.toNatClampNeg)), (3, .ref sb)]) rfl (by rw [nI_0]; rfl) rfl ?_
  refine lp_X5_whole C hR0 hok ht hi htp0 hft0 hsa hcp g3 g4 hrw (by omega) hbl (fun c1 n1 vb1 Mz hc1 hn1 h1 h2 => ?_) (cq + 1) 0 0 16 _ _ (by omega) (by omega) hKn hBn (Nat.le_refl _)
  refine z_aload_n C dX5_whole_123 rfl 0 rfl ?_
  obtain ⟨ml9, hs9⟩ := j_sbE h2
  have hm9 := j_B_c h2
  refine z_callVr (rest := []) (k' := 2 + (n1 - 16) / 16 + 2) (n' := 20 + 2 * (n1 - 16) + (4 + c1)) C (j_toStrR (z_l X) h2 h1 (by omega)) (cs_X5_116 C ⟨Nat.le_of_ble_eq_true rfl, Nat.le_of_ble_eq_true rfl⟩) hs9 rfl rfl rfl rfl (Nat.le_of_ble_eq_true rfl) rfl rfl (by show _ ≤ 40; omega) (by show _ ≤ 1500; omega) dX5_whole_124 (fun x124 Mq124 hq => ?_)
  obtain ⟨hSt, hk9⟩ := hq
  refine ret dX5_whole_127 ?_ (by show _ ≤ 40; omega) (by show _ ≤ 1500; omega)
  exact ⟨⟨_, _, RI_mono hR0 hk9⟩, fun _ => hSt⟩
theorem a_X5_whole (l : Launch) {G : zG} {u : sS} {m : Nat} {th : Int32} {K : Nat → Nat} {tp pn td : Nat} {Mw : zM} (hR : RI G u m th K tp pn td Mw) {t : Nat} (hok : s_ok t u) (ht : t ≤ 64) (pane : Int32) : z_Mr l G qX5_whole (z_rm 11 40 1500) [.ref m, .int pane] Mw (RT9 G m pn td (z_lt (z_is pane 0 5) 1) u) := by
  rcases z_pc pane with ⟨h_ok, h_ip, hi⟩ | ⟨h_bad, -⟩
  · exact g_X5_whole l hR hok ht h_ok h_ip hi
  · refine z_Mr_mono (c_X5_whole_bad l G hR.1 h_bad) ?_
    rintro r M' ⟨hr9, rfl⟩
    have e9 : z_lt (z_is pane 0 5) 1 = 1 := by rw [h_bad]; rfl
    exact ⟨⟨_, _, by first | exact RI_ak hR _ _ _ | (rw [e9]; exact RI_ak hR _ _ _) | (simp only [z_lt, h_bad]; exact RI_ak hR _ _ _)⟩, fun h => absurd (e9.symm.trans h) (by decide)⟩
set_option maxRecDepth 20000 in
theorem lp_X5_total {X : zX} (C : z_C X cX5_total RX5 5 (z_rm 11 40 1500)) {u : sS} {m : Nat} {th : Int32} {K : Nat → Nat} {tp pn td : Nat} {R0 : zM} (hR0 : RI (z_G X) u m th K tp pn td R0) {t : Nat} (hok : s_ok t u) (ht : t ≤ 64) {pane : Int32} (h_ip : vp_in pane 6) (hi : pane.toNatClampNeg < 6) {fp0 : Nat → Option Nat} (hpn0 : R0 pn = some (aII (z_G X) 6 fp0)) (hfp0 : ∀ i, i < 6 → fp0 i = some (K i)) {ft0 : Nat → Int32} (htp0 : R0 tp = some (aI (z_G X) (s_ba (s_ln u) (s_nr u)) ft0)) (hft0 : ∀ r, r < s_nr u → ∀ j, j < s_ln u r → ft0 (s_ba (s_ln u) r + j) = s_vl u r j) {sq cq : Nat} (hsa : p_sa (s_pn u pane.toNatClampNeg) = nI sq) (hcp : p_cp (s_pn u pane.toNatClampNeg) = nI cq) (h16 : cq ≤ 16) (hsc : sq + cq ≤ s_ln u (p_ro (s_pn u pane.toNatClampNeg))) (hrw : p_ro (s_pn u pane.toNatClampNeg) < s_nr u) (hnt : s_ba (s_ln u) (s_nr u) < 90000) (hbl : s_ba (s_ln u) (p_ro (s_pn u pane.toNatClampNeg)) + s_ln u (p_ro (s_pn u pane.toNatClampNeg)) ≤ s_ba (s_ln u) (s_nr u)) {pq lq : Nat} (hli : p_li (s_pn u pane.toNatClampNeg) = nI lq) (hlc : lq ≤ cq) (kk : ∀ S, S ≤ 34359738352 → z_W X R0 0 0 67 [(2, .long (lN S)), (0, .ref m)] []) : ∀ (d jx S : Nat), jx + d = lq → pq ≤ jx → S ≤ (jx - pq) * 2147483647 → z_W X R0 0 0 27 [(2, .long (lN S)), (4, .int (nI jx)), (0, .ref m), (1, .int pane)] [] := by
  intro d
  induction d with
  | zero =>
    intro jx S hd hj hS
    refine z_iload C dX5_total_27 1 rfl ?_
    refine z_aload_n C dX5_total_29 rfl 2 rfl ?_
    refine gf_X5_18 C hR0.1 dX5_total_30 ?_
    refine z_iload_n C dX5_total_33 rfl 3 rfl ?_
    refine z_aaldI (j := pane.toNatClampNeg) C hpn0 h_ip rfl (hfp0 _ hi) dX5_total_34 ?_
    refine z_iconst C (v := 5) dX5_total_35 (by decide) ?_
    refine z_pl5 C (RI_K hR0 hi) dX5_total_36 ?_
    refine z_icmp_ge C (tgt := 67) dX5_total_37 (by decide) (fun _ => ?_) (fun c37 => absurd (by rw [hli]; exact nI_le (by omega) (by omega)) c37)
    refine z_fewer [0, 2] rfl ?_
    have hx9 : jx - pq ≤ 16 := by omega
    exact kk S (Nat.le_trans hS (Nat.le_trans (Nat.mul_le_mul_right _ hx9) (Nat.le_of_ble_eq_true rfl)))
  | succ d ih =>
    intro jx S hd hj hS
    refine z_iload C dX5_total_27 1 rfl ?_
    refine z_aload_n C dX5_total_29 rfl 2 rfl ?_
    refine gf_X5_18 C hR0.1 dX5_total_30 ?_
    refine z_iload_n C dX5_total_33 rfl 3 rfl ?_
    refine z_aaldI (j := pane.toNatClampNeg) C hpn0 h_ip rfl (hfp0 _ hi) dX5_total_34 ?_
    refine z_iconst C (v := 5) dX5_total_35 (by decide) ?_
    refine z_pl5 C (RI_K hR0 hi) dX5_total_36 ?_
    refine z_icmp_ge C (tgt := 67) dX5_total_37 (by decide) (fun c37 => absurd c37 (by rw [hli]; exact nI_ge (by omega) (by omega))) (fun _ => ?_)
    refine z_lload_n C dX5_total_40 rfl 0 rfl ?_
    refine z_aload_n C dX5_total_41 rfl 2 rfl ?_
    refine gf_X5_9 C hR0.1 dX5_total_42 ?_
    refine z_aload_n C dX5_total_45 rfl 2 rfl ?_
    refine z_aload_n C dX5_total_46 rfl 2 rfl ?_
    refine gf_X5_18 C hR0.1 dX5_total_47 ?_
    refine z_iload_n C dX5_total_50 rfl 3 rfl ?_
    refine z_aaldI (j := pane.toNatClampNeg) C hpn0 h_ip rfl (hfp0 _ hi) dX5_total_51 ?_
    refine z_iload C dX5_total_52 1 rfl ?_
    refine z_callVi (rest := [.ref tp, .long (lN S)]) (k' := 0) (n' := 0) C (c_X5_where (z_l X) (z_G X) (RI_K hR0 hi)) (cs_X5_51 C ⟨Nat.le_of_ble_eq_true rfl, Nat.le_of_ble_eq_true rfl⟩) hR0.1 rfl rfl rfl rfl (Nat.le_of_ble_eq_true rfl) rfl rfl (Nat.le_of_ble_eq_true rfl) (Nat.le_of_ble_eq_true rfl) dX5_total_54 (fun x54 M' hq => ?_)
    obtain ⟨rfl, rfl⟩ := hq
    refine z_iald (j := ((s_ba (s_ln u) (p_ro (s_pn u pane.toNatClampNeg))) + sq + jx)) C htp0 (by rw [j_wh _ sq jx hsa rfl]; exact nI_in (by omega) (by omega)) (by rw [j_wh _ sq jx hsa rfl]; exact nI_clamp (by omega)) dX5_total_57 ?_
    refine z_i2l C dX5_total_58 ?_
    rw [show (((ft0 ((s_ba (s_ln u) (p_ro (s_pn u pane.toNatClampNeg))) + sq + jx)).toInt64) : Int64) = (lN (ft0 ((s_ba (s_ln u) (p_ro (s_pn u pane.toNatClampNeg))) + sq + jx)).toNatClampNeg) from (j_i2l (j_val hok ht hft0 hrw (by omega) (by omega)).2)]
    refine z_ladd C dX5_total_59 ?_
    rw [show (((lN S) + (lN (ft0 ((s_ba (s_ln u) (p_ro (s_pn u pane.toNatClampNeg))) + sq + jx)).toNatClampNeg)) : Int64) = (lN (S + (ft0 ((s_ba (s_ln u) (p_ro (s_pn u pane.toNatClampNeg))) + sq + jx)).toNatClampNeg)) from (lN_add _ _)]
    refine z_lstore_n (lv' := [(2, .long (lN (S + (ft0 ((s_ba (s_ln u) (p_ro (s_pn u pane.toNatClampNeg))) + sq + jx)).toNatClampNeg))), (4, .int (nI jx)), (0, .ref m), (1, .int pane)]) C dX5_total_60 rfl (by decide) rfl ?_
    refine z_iinc (v := nI (jx + 1)) (lv' := [(4, .int (nI (jx + 1))), (2, .long (lN (S + (ft0 ((s_ba (s_ln u) (p_ro (s_pn u pane.toNatClampNeg))) + sq + jx)).toNatClampNeg))), (0, .ref m), (1, .int pane)]) C dX5_total_61 1 rfl (nI_1 jx) (by decide) rfl ?_
    refine z_goto C (tgt := 27) dX5_total_64 (by decide) ?_
    refine z_fewer [1, 0, 2, 3] rfl ?_
    have hv9 := j_v31 (ft0 ((s_ba (s_ln u) (p_ro (s_pn u pane.toNatClampNeg))) + sq + jx))
    exact ih (jx + 1) _ (by omega) (by omega) (by omega)
set_option maxRecDepth 20000 in
theorem c_X5_total_bad (l : Launch) (G : zG) {M : zM} {m : Nat} {pane : Int32} {tp : Nat} {nr : Int32} {pn : Nat} {td : Nat} {ac : Int32} {kn : Int32} {th : Int32}  (h_m : M m = some (cMd tp nr pn td ac kn th)) (h_bad : z_is pane 0 5 = 0) : z_Mr l G qX5_total (z_rm 11 40 1500) [.ref m, .int pane] M (fun r M' => r = zK G 0 ∧ M' = z_up M m (cMd tp nr pn td ac kn (z_lt (z_is pane 0 5) 1)))  := by
  refine z_Mr_of _ (plainFor_of_name rfl) rfl (by first | exact Or.inl ⟨_, rfl⟩ | exact Or.inr ⟨_, rfl⟩) (Nat.le_of_ble_eq_true rfl) (fun X hl hG hnm C ret => ?_)
  subst hl; subst hG
  have C : z_C X cX5_total RX5 5 (z_rm 11 40 1500) := C
  show z_W X M 0 0 0 [(0, .ref m), (1, .int pane)] []
  refine z_aload_n C dX5_total_0 rfl 0 rfl ?_
  refine z_iload_n C dX5_total_1 rfl 1 rfl ?_
  refine z_callSi (rest := [.ref m]) (k' := 0) (n' := 0) C (c_X5_isPane (z_l X) (z_G X) ) (cs_X5_55 C (by decide)) rfl rfl (Nat.le_of_ble_eq_true rfl) rfl rfl (by decide) (by decide) dX5_total_2 (fun x2 M' hq => ?_)
  obtain ⟨rfl, rfl⟩ := hq
  refine z_iconst C (v := 1) dX5_total_5 (by decide) ?_
  refine z_callVi (rest := []) (k' := 0) (n' := 0) C (c_X5_isLet (z_l X) (z_G X) h_m) (cs_X5_59 C (by decide)) h_m rfl rfl rfl rfl (Nat.le_of_ble_eq_true rfl) rfl rfl (by decide) (by decide) dX5_total_6 (fun x6 M' hq => ?_)
  obtain ⟨rfl, rfl⟩ := hq
  refine z_if_ne C (tgt := 15) dX5_total_9 (by decide) (fun c9 => absurd (by simp [z_lr, z_lt, h_bad]) c9) (fun _ => ?_)
  refine z_ldcK (i := 0) C (by decide) rfl dX5_total_12 ?_
  exact ret dX5_total_14 (⟨rfl, rfl⟩) (by decide) (by decide)
set_option maxRecDepth 20000 in
theorem g_X5_total (l : Launch) {G : zG} {u : sS} {m : Nat} {th : Int32} {K : Nat → Nat} {tp pn td : Nat} {Mw : zM} (hR : RI G u m th K tp pn td Mw) {t : Nat} (hok : s_ok t u) (ht : t ≤ 64) {pane : Int32} (h_ok : z_is pane 0 5 = 1) (h_ip : vp_in pane 6) (hi : pane.toNatClampNeg < 6) : z_Mr l G qX5_total (z_rm 11 40 1500) [.ref m, .int pane] Mw (RT9 G m pn td (z_lt (z_is pane 0 5) 1) u)  := by
  obtain ⟨ft, htp, hft⟩ := RI_tpf hR
  obtain ⟨fp, hpn, hfp⟩ := RI_pnf hR
  obtain ⟨sq, pq, lq, cq, hsa, hpo, hli, hcp, g1, g2, g3, g4⟩ := j_sa hok hi
  have hrw := s_row hok hi
  have hnt := s_ba_nt hok ht
  have hbl := s_ba_lt (s_ln u) hrw
  refine z_Mr_of _ (plainFor_of_name rfl) rfl (by first | exact Or.inl ⟨_, rfl⟩ | exact Or.inr ⟨_, rfl⟩) (Nat.le_of_ble_eq_true rfl) (fun X hl hG hnm C ret => ?_)
  subst hl; subst hG
  have C : z_C X cX5_total RX5 5 (z_rm 11 40 1500) := C
  show z_W X Mw 0 0 0 [(0, .ref m), (1, .int pane)] []
  refine z_aload_n C dX5_total_0 rfl 0 rfl ?_
  refine z_iload_n C dX5_total_1 rfl 1 rfl ?_
  refine z_callSi (rest := [.ref m]) (k' := 0) (n' := 0) C (c_X5_isPane (z_l X) (z_G X) ) (cs_X5_55 C ⟨Nat.le_of_ble_eq_true rfl, Nat.le_of_ble_eq_true rfl⟩) rfl rfl (Nat.le_of_ble_eq_true rfl) rfl rfl (by show _ ≤ 40; omega) (by show _ ≤ 1500; omega) dX5_total_2 (fun x2 M' hq => ?_)
  obtain ⟨rfl, rfl⟩ := hq
  refine z_iconst C (v := 1) dX5_total_5 (by decide) ?_
  refine z_callVi (rest := []) (k' := 0) (n' := 0) C (c_X5_isLet (z_l X) (z_G X) hR.1) (cs_X5_59 C ⟨Nat.le_of_ble_eq_true rfl, Nat.le_of_ble_eq_true rfl⟩) hR.1 rfl rfl rfl rfl (Nat.le_of_ble_eq_true rfl) rfl rfl (by show _ ≤ 40; omega) (by show _ ≤ 1500; omega) dX5_total_6 (fun x6 M' hq => ?_)
  obtain ⟨rfl, rfl⟩ := hq
  refine z_if_ne C (tgt := 15) dX5_total_9 (by decide) (fun _ => ?_) (fun c9 => absurd c9 (by simp [z_lr, z_lt, h_ok]))
  refine z_opq (fun Mb hWb => ?_)
  have hR0 : RI (z_G X) u m (z_lt (z_is pane 0 5) 1) K tp pn td Mb := by
    rw [hWb]
    exact RI_ak hR _ _ _
  clear hWb
  obtain ⟨ft0, htp0, hft0⟩ := RI_tpf hR0
  obtain ⟨fp0, hpn0, hfp0⟩ := RI_pnf hR0
  refine z_lconst C (v := 0) dX5_total_15 (by decide) ?_
  refine z_lstore_n (lv' := [(2, .long 0), (0, .ref m), (1, .int pane)]) C dX5_total_16 rfl (by decide) rfl ?_
  refine z_aload_n C dX5_total_17 rfl 1 rfl ?_
  refine gf_X5_18 C hR0.1 dX5_total_18 ?_
  refine z_iload_n C dX5_total_21 rfl 2 rfl ?_
  refine z_aaldI (j := pane.toNatClampNeg) C hpn0 h_ip rfl (hfp0 _ hi) dX5_total_22 ?_
  refine z_iconst C (v := 4) dX5_total_23 (by decide) ?_
  refine z_pl4 C (RI_K hR0 hi) dX5_total_24 ?_
  refine z_istore (lv' := [(4, .int (p_po (s_pn u pane.toNatClampNeg))), (2, .long 0), (0, .ref m), (1, .int pane)]) C dX5_total_25 (by decide) rfl ?_
  refine z_fewer [1, 0, 2, 3] rfl ?_
  refine z_at (M' := _) (lv' := [(2, .long (lN 0)), (4, .int (nI pq)), (0, .ref m), (1, .int pane)]) rfl (by rw [← hpo]; rfl) rfl ?_
  refine lp_X5_total (pq := pq) C hR0 hok ht h_ip hi hpn0 hfp0 htp0 hft0 hsa hcp g3 g4 hrw (by omega) hbl hli g2 (fun S hS => ?_) (lq - pq) pq 0 (by omega) (Nat.le_refl _) (by omega)
  refine z_new (ci := 1) (fs := [.null, .int 0, .int 0, .int 0]) C rfl inJ4 tyJ4 tyJ4_ok kw1257 kw96 kw6 (fun j hj => by rcases (show j = 0 ∨ j = 1 ∨ j = 2 ∨ j = 3 by omega) with rfl | rfl | rfl | rfl <;> rfl) (by show _ ≤ 40; omega) (by show _ ≤ 1500; omega) dX5_total_67 (fun q67 hq67 => ?_)
  refine z_kn (k' := 1) (n' := 4) rfl rfl ?_
  refine z_dup C dX5_total_70 rfl ?_
  refine z_callI (rest := [.ref q67]) (k' := 2) (n' := 20) C (c_J4_init_da8c8 (z_l X) (z_G X) (z_up_s _ _ _)) (cs_X5_108 C ⟨Nat.le_of_ble_eq_true rfl, Nat.le_of_ble_eq_true rfl⟩) rfl rfl (Nat.le_of_ble_eq_true rfl) rfl rfl (by show _ ≤ 40; omega) (by show _ ≤ 1500; omega) dX5_total_71 (fun M' hq => ?_)
  obtain ⟨q12_3_71, hq12_3_71, rfl⟩ := hq
  rw [z_up_swap _ (z_neN (z_up_s _ _ _) hq12_3_71)]
  rw [z_up_up]
  refine z_opq (fun Mb hWb => ?_)
  obtain ⟨hBn, hKn⟩ := j_newSB hq67 hq12_3_71 hWb
  clear hWb
  refine z_kn (k' := 2 + (16 - 16) / 16) (n' := 20 + 2 * (16 - 16)) rfl rfl ?_
  generalize q67 = sb at hBn hKn ⊢
  refine z_ldcK (i := 0) C (by decide) rfl dX5_total_74 ?_
  obtain ⟨ml0, hs0⟩ := j_sbE hBn
  refine z_callVr (rest := []) (k' := 2 + (16 - 16) / 16) (n' := 20 + 2 * (16 - 16)) C (j_S_fit hBn (i := 0) (by decide) (by decide)) (cs_X5_109 C ⟨Nat.le_of_ble_eq_true rfl, Nat.le_of_ble_eq_true rfl⟩) hs0 rfl rfl rfl rfl (Nat.le_of_ble_eq_true rfl) rfl rfl (by show _ ≤ 40; omega) (by show _ ≤ 1500; omega) dX5_total_76 (fun x76 Mq76 hq => ?_)
  obtain ⟨hr9, vb1, hB1, hF1⟩ := hq
  rw [hr9]
  have hK1 := j_K_fr hKn hF1
  obtain ⟨ml1, hs1⟩ := j_sbE hB1
  refine z_lload_n C dX5_total_79 rfl 0 rfl ?_
  have hd9 := j_dgl_in (v := S)
  have hz9 : z_kln 0 = 0 := rfl
  refine z_callVr (rest := []) (k' := 2 + (16 - 16) / 16) (n' := 20 + 2 * (16 - 16)) C (j_J_fit hB1 (v := S) (by omega) (by omega)) (cs_X5_113 C ⟨Nat.le_of_ble_eq_true rfl, Nat.le_of_ble_eq_true rfl⟩) hs1 rfl rfl rfl rfl (Nat.le_of_ble_eq_true rfl) rfl rfl (by show _ ≤ 40; omega) (by show _ ≤ 1500; omega) dX5_total_80 (fun x80 Mq80 hq => ?_)
  obtain ⟨hr8, vb2, hB2, hF2⟩ := hq
  rw [hr8]
  have hK2 := j_K_fr hK1 hF2
  obtain ⟨ml9, hs9⟩ := j_sbE hB2
  have hm9 := j_B_c hB2
  refine z_callVr (rest := []) (k' := 2 + (16 - 16) / 16 + 2) (n' := 20 + 2 * (16 - 16) + (4 + (0 + z_kln 0 + j_dgl S))) C (j_toStrR (z_l X) hB2 hK2 (by omega)) (cs_X5_116 C ⟨Nat.le_of_ble_eq_true rfl, Nat.le_of_ble_eq_true rfl⟩) hs9 rfl rfl rfl rfl (Nat.le_of_ble_eq_true rfl) rfl rfl (by show _ ≤ 40; omega) (by show _ ≤ 1500; omega) dX5_total_83 (fun x83 Mq83 hq => ?_)
  obtain ⟨hSt, hk9⟩ := hq
  refine ret dX5_total_86 ?_ (by show _ ≤ 40; omega) (by show _ ≤ 1500; omega)
  exact ⟨⟨_, _, RI_mono hR0 hk9⟩, fun _ => hSt⟩
theorem a_X5_total (l : Launch) {G : zG} {u : sS} {m : Nat} {th : Int32} {K : Nat → Nat} {tp pn td : Nat} {Mw : zM} (hR : RI G u m th K tp pn td Mw) {t : Nat} (hok : s_ok t u) (ht : t ≤ 64) (pane : Int32) : z_Mr l G qX5_total (z_rm 11 40 1500) [.ref m, .int pane] Mw (RT9 G m pn td (z_lt (z_is pane 0 5) 1) u) := by
  rcases z_pc pane with ⟨h_ok, h_ip, hi⟩ | ⟨h_bad, -⟩
  · exact g_X5_total l hR hok ht h_ok h_ip hi
  · refine z_Mr_mono (c_X5_total_bad l G hR.1 h_bad) ?_
    rintro r M' ⟨hr9, rfl⟩
    have e9 : z_lt (z_is pane 0 5) 1 = 1 := by rw [h_bad]; rfl
    exact ⟨⟨_, _, by first | exact RI_ak hR _ _ _ | (rw [e9]; exact RI_ak hR _ _ _) | (simp only [z_lt, h_bad]; exact RI_ak hR _ _ _)⟩, fun h => absurd (e9.symm.trans h) (by decide)⟩
end
section
/-! PART 54: the reference's digest: the state is kept (its number is not told) -/
section ZL
variable {l : Launch} {G : zG} {q : zY} {rm : Room} {av : List Value} {M : zM}
theorem z_Ml_of (post : Int64 → zM → Prop) (hy : plainFor q.1 = true) (hr : q.2.2.2 = some .long) (hargs : (lg_sl av).length ≤ q.2.2.1)
    (body : ∀ X : zX, z_l X = l → z_G X = G → (z_me X).name = q.1.name → z_C X q.2.1 q.1.cls q.2.2.1 rm → (∀ {M' : zM} {r : Int64} {k n pc : Nat} {lv : List (Nat × Value)}, decode q.2.1 pc = .ok (.lreturn, 1) → post r M' → k ≤ rm.cells → n ≤ rm.slots → z_W X M' k n pc lv [.long r]) → z_W X M 0 0 0 (lv_args 0 av) []) : z_Ml l G q rm av M post := by
  intro sz
  refine va_MetF (cc := q.2.1) (maxL := q.2.2.1) (ret := q.2.2.2) hy rfl ?_
  intro p e s m args below meth c s₁ B hml hv
  obtain ⟨rfl, hsz, hh, hK, hJ⟩ := hv
  subst hsz
  have hl := lv_entry av (n := q.2.2.1) hargs
  rw [lg_entry_eq]
  have hts : ∀ w ∈ gw, w.before av.toArray s = true := fun w h => atoms_spec (ws := z_ws q) B.pre w (List.mem_cons_of_mem _ h)
  exact body (p, l, e, rm, s, m, av.toArray, below, meth, c, MQ below (va_Ql post (z_E G M s.heap.size) (z_A M s.heap.size)) av.toArray s rm.cells rm.slots (z_A M s.heap.size), z_A M s.heap.size, G) rfl rfl (name_of_methodNamed B.named B.method).1
    ⟨B.exec, B.bytes, hml, findClass_of_methodNamed B.named, hts, hK, hJ, fun q h => Or.inr h, rfl⟩
    (fun d hp hk hs H locs ls h1 h2 h3 h4 => W.widen hk hs (W.lret B.exec B.bytes (B.returns.trans hr) (fun t ht hW => ⟨⟨_, _, rfl, hp, by rw [ht]; exact h1, h2⟩, h3.F ht⟩) h3.2.2 d B.notSynchronized))
    s.heap [] _ hh (fun a e h => Or.inl ⟨e, h⟩) va_S.rf (by rw [show (z_c (p, l, e, rm, s, m, av.toArray, below, meth, c, _, _, G)).maxLocals = q.2.2.1 from hml]; exact hl)
end ZL
section ZKL
variable {X : zX} {cc : ByteArray} {own : String} {nL : Nat} {rm : Room} {M : zM} {k n pc : Nat} {lv : List (Nat × Value)} {st rest : List Value} {q : zY} {rmc : Room} {index b ci N : Nat} {fs : List Value} {r : vw_C} {As : List Value}
theorem z_callSl {post : Int64 → zM → Prop} (C : z_C X cc own nL rm) (hM : z_Ml (z_l X) (z_G X) q rmc As M post) (cw : CallB (z_R X) (z_s X) (z_a X) own index q.1 q.2.1 q.2.2.1 q.2.2.2 (z_ws q) rmc rmc.cells rmc.slots N ∧ (Cond.static q.1).before (z_a X) (z_s X) = true) (hN : As.length = N) (hst : st = As.reverse ++ rest) (hcat : (rest.map fun v => v.category).sum ≤ 8) {k' n' : Nat} (ek : k + rmc.cells = k') (en : n + rmc.slots = n') (hk : k' ≤ rm.cells) (hn : n' ≤ rm.slots) (d : decode cc pc = .ok (.invokestatic index, 3))
    (kk : ∀ (x : Int64) (M' : zM), post x M' → z_W X M' k' n' (pc + 3) lv (.long x :: rest)) : z_W X M k n pc lv st := by
  subst hst; subst ek; subst en
  intro H locs ls h1 h2 h3 h4
  have hs := z_sub C h2 h3
  exact va_calll (va_runS ⟨C.1, C.2.1, rfl, C.2.2.2.1, C.2.2.2.2.1⟩ (hM H.size) cw ⟨z_blind, fun U hU hW => ⟨rfl, z_pre C h1 h2 h3 hU hW⟩⟩ rfl hN h4.1 rfl (lv_room hcat) d (by rw [C.2.2.2.2.2.2.2.2]; exact ⟨hk, hn⟩)) h3 (fun q _ h => hs q h) hs
    (fun x M' t H1 locs1 ht hvm hp hB hz hk1 hS => kk x M' hp H1 locs1 ls (by rw [← ht]; exact hB.1) (fun a e h => hs a (hB.2 a e h)) hS h4)
theorem z_callVl {post : Int64 → zM → Prop} (C : z_C X cc own nL rm) (hM : z_Ml (z_l X) (z_G X) q rmc (.ref b :: As) M post) (cw : CallW (z_R X) (z_s X) (z_a X) own q.1.cls index q.1 q.2.1 q.2.2.1 q.2.2.2 (z_ws q) rmc rmc.cells rmc.slots N) (hb : M b = some (.inr (ci, fs))) (hc : vwCl[ci]? = some r) (hr : r.1 = q.1.cls) (hN : As.length = N) (hst : st = As.reverse ++ .ref b :: rest) (hcat : (rest.map fun v => v.category).sum ≤ 8) {k' n' : Nat} (ek : k + rmc.cells = k') (en : n + rmc.slots = n') (hk : k' ≤ rm.cells) (hn : n' ≤ rm.slots) (d : decode cc pc = .ok (.invokevirtual index, 3))
    (kk : ∀ (x : Int64) (M' : zM), post x M' → z_W X M' k' n' (pc + 3) lv (.long x :: rest)) : z_W X M k n pc lv st := by
  subst hst; subst ek; subst en
  intro H locs ls h1 h2 h3 h4
  have hs := z_sub C h2 h3
  exact va_calll (va_runV ⟨C.1, C.2.1, rfl, C.2.2.2.1, C.2.2.2.2.1⟩ (hM H.size) cw ⟨z_blind, by rw [← hr]; exact z_recv C h1 hb hc, fun U hU hW => ⟨rfl, z_pre C h1 h2 h3 hU hW⟩⟩ rfl hN h4.1 rfl (lv_room hcat) d (by rw [C.2.2.2.2.2.2.2.2]; exact ⟨hk, hn⟩)) h3 (fun q _ h => hs q h) hs
    (fun x M' t H1 locs1 ht hvm hp hB hz hk1 hS => kk x M' hp H1 locs1 ls (by rw [← ht]; exact hB.1) (fun a e h => hs a (hB.2 a e h)) hS h4)
end ZKL
theorem RP_u {G : zG} {m pn td : Nat} {k v : Int32} {u : sS} {r : Int32} {Mz : zM} (h : RP G m pn td k u (v, u) r Mz) : ∃ K' tp', RI G u m k K' tp' pn td Mz := by
  obtain ⟨K', tp', h1, -⟩ := h
  refine ⟨K', tp', ?_⟩
  split at h1 <;> exact h1
theorem j_kp {p : Nat} (h : p < 6) : z_lt (z_is (nI p) 0 5) 1 = 0 := by
  rcases (show p = 0 ∨ p = 1 ∨ p = 2 ∨ p = 3 ∨ p = 4 ∨ p = 5 by omega) with rfl | rfl | rfl | rfl | rfl | rfl <;> decide
theorem dX5_add_0 : decode cX5_add 0 = .ok (.lload_n 0, 1) := by decide +kernel
theorem dX5_add_1 : decode cX5_add 1 = .ok (.ldc2_w 142, 3) := by decide +kernel
theorem dX5_add_4 : decode cX5_add 4 = .ok (.lmul, 1) := by decide +kernel
theorem dX5_add_5 : decode cX5_add 5 = .ok (.lload_n 2, 1) := by decide +kernel
theorem dX5_add_6 : decode cX5_add 6 = .ok (.ladd, 1) := by decide +kernel
theorem dX5_add_7 : decode cX5_add 7 = .ok (.lreturn, 1) := by decide +kernel
theorem dX5_addSigns_0 : decode cX5_addSigns 0 = .ok (.lload_n 0, 1) := by decide +kernel
theorem dX5_addSigns_1 : decode cX5_addSigns 1 = .ok (.lstore_n 3, 1) := by decide +kernel
theorem dX5_addSigns_2 : decode cX5_addSigns 2 = .ok (.iconst 0, 1) := by decide +kernel
theorem dX5_addSigns_3 : decode cX5_addSigns 3 = .ok (.istore 5, 2) := by decide +kernel
theorem dX5_addSigns_5 : decode cX5_addSigns 5 = .ok (.iload 5, 2) := by decide +kernel
theorem dX5_addSigns_7 : decode cX5_addSigns 7 = .ok (.aload_n 2, 1) := by decide +kernel
theorem dX5_addSigns_8 : decode cX5_addSigns 8 = .ok (.invokevirtual 144, 3) := by decide +kernel
theorem dX5_addSigns_11 : decode cX5_addSigns 11 = .ok (.if_icmp .ge 21, 3) := by decide +kernel
theorem dX5_addSigns_14 : decode cX5_addSigns 14 = .ok (.lload_n 3, 1) := by decide +kernel
theorem dX5_addSigns_15 : decode cX5_addSigns 15 = .ok (.aload_n 2, 1) := by decide +kernel
theorem dX5_addSigns_16 : decode cX5_addSigns 16 = .ok (.iload 5, 2) := by decide +kernel
theorem dX5_addSigns_18 : decode cX5_addSigns 18 = .ok (.invokevirtual 150, 3) := by decide +kernel
theorem dX5_addSigns_21 : decode cX5_addSigns 21 = .ok (.i2l, 1) := by decide +kernel
theorem dX5_addSigns_22 : decode cX5_addSigns 22 = .ok (.invokestatic 154, 3) := by decide +kernel
theorem dX5_addSigns_25 : decode cX5_addSigns 25 = .ok (.lstore_n 3, 1) := by decide +kernel
theorem dX5_addSigns_26 : decode cX5_addSigns 26 = .ok (.iinc 5 1, 3) := by decide +kernel
theorem dX5_addSigns_29 : decode cX5_addSigns 29 = .ok (.goto (-24), 3) := by decide +kernel
theorem dX5_addSigns_32 : decode cX5_addSigns 32 = .ok (.lload_n 3, 1) := by decide +kernel
theorem dX5_addSigns_33 : decode cX5_addSigns 33 = .ok (.lreturn, 1) := by decide +kernel
theorem dX5_digest_6 : decode cX5_digest 6 = .ok (.iload_n 3, 1) := by decide +kernel
theorem dX5_digest_7 : decode cX5_digest 7 = .ok (.bipush 9, 2) := by decide +kernel
theorem dX5_digest_9 : decode cX5_digest 9 = .ok (.if_icmp .ge 20, 3) := by decide +kernel
theorem dX5_digest_12 : decode cX5_digest 12 = .ok (.lload_n 1, 1) := by decide +kernel
theorem dX5_digest_13 : decode cX5_digest 13 = .ok (.aload_n 0, 1) := by decide +kernel
theorem dX5_digest_14 : decode cX5_digest 14 = .ok (.iload_n 3, 1) := by decide +kernel
theorem dX5_digest_15 : decode cX5_digest 15 = .ok (.invokevirtual 160, 3) := by decide +kernel
theorem dX5_digest_18 : decode cX5_digest 18 = .ok (.i2l, 1) := by decide +kernel
theorem dX5_digest_19 : decode cX5_digest 19 = .ok (.invokestatic 154, 3) := by decide +kernel
theorem dX5_digest_22 : decode cX5_digest 22 = .ok (.lstore_n 1, 1) := by decide +kernel
theorem dX5_digest_23 : decode cX5_digest 23 = .ok (.iinc 3 1, 3) := by decide +kernel
theorem dX5_digest_26 : decode cX5_digest 26 = .ok (.goto (-20), 3) := by decide +kernel
theorem dX5_digest_40 : decode cX5_digest 40 = .ok (.iload 4, 2) := by decide +kernel
theorem dX5_digest_42 : decode cX5_digest 42 = .ok (.bipush 10, 2) := by decide +kernel
theorem dX5_digest_44 : decode cX5_digest 44 = .ok (.if_icmp .ge 22, 3) := by decide +kernel
theorem dX5_digest_47 : decode cX5_digest 47 = .ok (.lload_n 1, 1) := by decide +kernel
theorem dX5_digest_48 : decode cX5_digest 48 = .ok (.aload_n 0, 1) := by decide +kernel
theorem dX5_digest_49 : decode cX5_digest 49 = .ok (.iload_n 3, 1) := by decide +kernel
theorem dX5_digest_50 : decode cX5_digest 50 = .ok (.iload 4, 2) := by decide +kernel
theorem dX5_digest_52 : decode cX5_digest 52 = .ok (.invokevirtual 163, 3) := by decide +kernel
theorem dX5_digest_55 : decode cX5_digest 55 = .ok (.i2l, 1) := by decide +kernel
theorem dX5_digest_56 : decode cX5_digest 56 = .ok (.invokestatic 154, 3) := by decide +kernel
theorem dX5_digest_59 : decode cX5_digest 59 = .ok (.lstore_n 1, 1) := by decide +kernel
theorem dX5_digest_60 : decode cX5_digest 60 = .ok (.iinc 4 1, 3) := by decide +kernel
theorem dX5_digest_63 : decode cX5_digest 63 = .ok (.goto (-23), 3) := by decide +kernel
set_option maxRecDepth 20000 in
theorem c_X5_add (l : Launch) (G : zG) {M : zM} {dq : Int64} {vq : Int64}    : z_Ml l G qX5_add (z_rm 1 0 0) [.long dq, .long vq] M (fun r M' => r = (dq * 31) + vq ∧ M' = M)  := by
  refine z_Ml_of _ (plainFor_of_name rfl) rfl (Nat.le_of_ble_eq_true rfl) (fun X hl hG hnm C ret => ?_)
  subst hl; subst hG
  have C : z_C X cX5_add RX5 4 (z_rm 1 0 0) := C
  show z_W X M 0 0 0 [(0, .long dq), (2, .long vq)] []
  refine z_lload_n C dX5_add_0 rfl 0 rfl ?_
  refine z_ldc2 C (v := 31) kw1346 dX5_add_1 ?_
  refine z_lmul C dX5_add_4 ?_
  refine z_lload_n C dX5_add_5 rfl 1 rfl ?_
  refine z_ladd C dX5_add_6 ?_
  exact ret dX5_add_7 (⟨rfl, rfl⟩) (by decide) (by decide)
set_option maxRecDepth 20000 in
theorem lp_X5_as {X : zX} (C : z_C X cX5_addSigns RX5 6 (z_rm 6 0 0)) {Mw : zM} {tx q9 cc : Nat} {f9 : Nat → Int32} (hs9 : Mw tx = some (cSt q9 0 0 0)) (hv9 : Mw q9 = some (aB (z_G X) cc f9)) (hcc : cc ≤ 280) (kk : ∀ dq, z_W X Mw 0 0 32 [(3, .long dq)] []) : ∀ (d jx : Nat) (dq : Int64), jx + d = cc → z_W X Mw 0 0 5 [(3, .long dq), (5, .int (nI jx)), (2, .ref tx)] [] := by
  intro d
  induction d with
  | zero =>
    intro jx dq hd
    refine z_iload C dX5_addSigns_5 1 rfl ?_
    refine z_aload_n C dX5_addSigns_7 rfl 2 rfl ?_
    refine z_callVi (rest := [.int (nI jx)]) (k' := 0) (n' := 0) C (c_lenS (z_l X) (z_G X) hs9 hv9) (cs_X5_144 C (by decide)) hs9 rfl rfl rfl rfl (Nat.le_of_ble_eq_true rfl) rfl rfl (by decide) (by decide) dX5_addSigns_8 (fun x8 M' hq => ?_)
    obtain ⟨rfl, rfl⟩ := hq
    refine z_icmp_ge C (tgt := 32) dX5_addSigns_11 (by decide) (fun _ => ?_) (fun c11 => absurd (nI_le (by omega) (by omega)) c11)
    refine z_fewer [0] rfl ?_
    exact kk _
  | succ d ih =>
    intro jx dq hd
    refine z_iload C dX5_addSigns_5 1 rfl ?_
    refine z_aload_n C dX5_addSigns_7 rfl 2 rfl ?_
    refine z_callVi (rest := [.int (nI jx)]) (k' := 0) (n' := 0) C (c_lenS (z_l X) (z_G X) hs9 hv9) (cs_X5_144 C (by decide)) hs9 rfl rfl rfl rfl (Nat.le_of_ble_eq_true rfl) rfl rfl (by decide) (by decide) dX5_addSigns_8 (fun x8 M' hq => ?_)
    obtain ⟨rfl, rfl⟩ := hq
    refine z_icmp_ge C (tgt := 32) dX5_addSigns_11 (by decide) (fun c11 => absurd c11 (nI_ge (by omega) (by omega))) (fun _ => ?_)
    refine z_lload_n C dX5_addSigns_14 rfl 0 rfl ?_
    refine z_aload_n C dX5_addSigns_15 rfl 2 rfl ?_
    refine z_iload C dX5_addSigns_16 1 rfl ?_
    refine z_callVi (rest := [.long dq]) (k' := 0) (n' := 0) C (c_J0_charAt_5068e (z_l X) (z_G X) hs9 hv9 (by omega) (by omega)) (cs_X5_150 C (by decide)) hs9 rfl rfl rfl rfl (Nat.le_of_ble_eq_true rfl) rfl rfl (by decide) (by decide) dX5_addSigns_18 (fun x18 M' hq => ?_)
    obtain ⟨rfl, rfl⟩ := hq
    refine z_i2l C dX5_addSigns_21 ?_
    refine z_callSl (rest := []) (k' := 0) (n' := 0) C (c_X5_add (z_l X) (z_G X) ) (cs_X5_154 C (by decide)) rfl rfl (Nat.le_of_ble_eq_true rfl) rfl rfl (by decide) (by decide) dX5_addSigns_22 (fun x22 M' hq => ?_)
    obtain ⟨rfl, rfl⟩ := hq
    refine z_lstore_n (lv' := [(3, .long ((dq * 31) + (((((f9 jx) &&& 255).toUInt32 % 65536).toInt32).toInt64))), (5, .int (nI jx)), (2, .ref tx)]) C dX5_addSigns_25 rfl (by decide) rfl ?_
    refine z_iinc (v := nI (jx + 1)) (lv' := [(5, .int (nI (jx + 1))), (3, .long ((dq * 31) + (((((f9 jx) &&& 255).toUInt32 % 65536).toInt32).toInt64))), (2, .ref tx)]) C dX5_addSigns_26 1 rfl (nI_1 jx) (by decide) rfl ?_
    refine z_goto C (tgt := 5) dX5_addSigns_29 (by decide) ?_
    refine z_fewer [1, 0, 2] rfl ?_
    exact ih (jx + 1) _ (by omega)
set_option maxRecDepth 20000 in
theorem a_X5_addSigns (l : Launch) {G : zG} {Mw : zM} {dq : Int64} {tx : Nat} (hSt : j_St G tx Mw) : z_Ml l G qX5_addSigns (z_rm 6 0 0) [.long dq, .ref tx] Mw (fun r Mz => Mz = Mw)  := by
  obtain ⟨q9, cc, f9, hs9, hv9, hf9, hcc⟩ := hSt
  refine z_Ml_of _ (plainFor_of_name rfl) rfl (Nat.le_of_ble_eq_true rfl) (fun X hl hG hnm C ret => ?_)
  subst hl; subst hG
  have C : z_C X cX5_addSigns RX5 6 (z_rm 6 0 0) := C
  show z_W X Mw 0 0 0 [(0, .long dq), (2, .ref tx)] []
  refine z_lload_n C dX5_addSigns_0 rfl 0 rfl ?_
  refine z_lstore_n (lv' := [(3, .long dq), (0, .long dq), (2, .ref tx)]) C dX5_addSigns_1 rfl (by decide) rfl ?_
  refine z_iconst C (v := 0) dX5_addSigns_2 (by decide) ?_
  refine z_istore (lv' := [(5, .int 0), (3, .long dq), (0, .long dq), (2, .ref tx)]) C dX5_addSigns_3 (by decide) rfl ?_
  refine z_fewer [1, 0, 3] rfl ?_
  refine z_at (M' := _) (lv' := [(3, .long dq), (5, .int (nI 0)), (2, .ref tx)]) rfl (by rw [nI_0]; rfl) rfl ?_
  refine lp_X5_as C hs9 hv9 hcc (fun d9 => ?_) cc 0 dq (Nat.zero_add _)
  refine z_lload_n C dX5_addSigns_32 rfl 0 rfl ?_
  refine ret dX5_addSigns_33 ?_ (by decide) (by decide)
  exact rfl
set_option maxRecDepth 20000 in
theorem lp_X5_d1 {X : zX} (C : z_C X cX5_digest RX5 5 (z_rm 14 700 22000)) {u : sS} {m pn td t : Nat} (hok : s_ok t u) (ht : t ≤ 64) (kk : ∀ (dq : Int64) (Mw : zM) (th9 : Int32) (K9 : Nat → Nat) (tp9 : Nat), RI (z_G X) u m th9 K9 tp9 pn td Mw → z_W X Mw 0 0 29 [(0, .ref m), (1, .long dq)] []) : ∀ (d jx : Nat), jx + d = 9 → ∀ (dq : Int64) (Mw : zM) (th9 : Int32) (K9 : Nat → Nat) (tp9 : Nat), RI (z_G X) u m th9 K9 tp9 pn td Mw → z_W X Mw 0 0 6 [(3, .int (nI jx)), (0, .ref m), (1, .long dq)] [] := by
  intro d
  induction d with
  | zero =>
    intro jx hd dq Mw th9 K9 tp9 hR
    refine z_iload_n C dX5_digest_6 rfl 0 rfl ?_
    refine z_bipush C (v := 9) dX5_digest_7 (by decide) ?_
    refine z_icmp_ge C (tgt := 29) dX5_digest_9 (by decide) (fun _ => ?_) (fun c9 => absurd (nI_le (b := jx) (a := 9) (by omega) (by omega)) c9)
    refine z_fewer [1, 2] rfl ?_
    exact kk _ _ _ _ _ hR
  | succ d ih =>
    intro jx hd dq Mw th9 K9 tp9 hR
    refine z_iload_n C dX5_digest_6 rfl 0 rfl ?_
    refine z_bipush C (v := 9) dX5_digest_7 (by decide) ?_
    refine z_icmp_ge C (tgt := 29) dX5_digest_9 (by decide) (fun c9 => absurd c9 (nI_ge (a := jx) (b := 9) (by omega) (by omega))) (fun _ => ?_)
    refine z_lload_n C dX5_digest_12 rfl 2 rfl ?_
    refine z_aload_n C dX5_digest_13 rfl 1 rfl ?_
    refine z_iload_n C dX5_digest_14 rfl 0 rfl ?_
    refine z_callVi (rest := [.long dq]) (k' := 0) (n' := 0) C (a_X5_house (z_l X) hR hok ht (nI jx)) (cs_X5_160 C (by decide)) hR.1 rfl rfl rfl rfl (Nat.le_of_ble_eq_true rfl) rfl rfl (by show _ ≤ 700; omega) (by show _ ≤ 22000; omega) dX5_digest_15 (fun x15 Mq15 hq => ?_)
    obtain ⟨K15, tp15, h15⟩ := RP_u hq
    refine z_i2l C dX5_digest_18 ?_
    refine z_callSl (rest := []) (k' := 0) (n' := 0) C (c_X5_add (z_l X) (z_G X) ) (cs_X5_154 C (by decide)) rfl rfl (Nat.le_of_ble_eq_true rfl) rfl rfl (by show _ ≤ 700; omega) (by show _ ≤ 22000; omega) dX5_digest_19 (fun x19 M' hq => ?_)
    obtain ⟨rfl, rfl⟩ := hq
    refine z_lstore_n (lv' := [(1, .long ((dq * 31) + x15.toInt64)), (3, .int (nI jx)), (0, .ref m)]) C dX5_digest_22 rfl (by decide) rfl ?_
    refine z_iinc (v := nI (jx + 1)) (lv' := [(3, .int (nI (jx + 1))), (1, .long ((dq * 31) + x15.toInt64)), (0, .ref m)]) C dX5_digest_23 1 rfl (nI_1 jx) (by decide) rfl ?_
    refine z_goto C (tgt := 6) dX5_digest_26 (by decide) ?_
    refine z_fewer [0, 2, 1] rfl ?_
    exact ih (jx + 1) (by omega) _ _ _ _ _ h15
set_option maxRecDepth 20000 in
theorem lp_X5_d2 {X : zX} (C : z_C X cX5_digest RX5 5 (z_rm 14 700 22000)) {u : sS} {m pn td t : Nat} (hok : s_ok t u) (ht : t ≤ 64) {pq k0 s0 : Nat} (hk0 : k0 ≤ 600) (hs0 : s0 ≤ 20000) (kk : ∀ (dq : Int64) (Mw : zM) (th9 : Int32) (K9 : Nat → Nat) (tp9 : Nat), RI (z_G X) u m th9 K9 tp9 pn td Mw → z_W X Mw (k0 + 10) (s0 + 10 * 10) 66 [(3, .int (nI pq)), (0, .ref m), (1, .long dq)] []) : ∀ (d jx : Nat), jx + d = 10 → ∀ (dq : Int64) (Mw : zM) (th9 : Int32) (K9 : Nat → Nat) (tp9 : Nat), RI (z_G X) u m th9 K9 tp9 pn td Mw → z_W X Mw (k0 + jx) (s0 + jx * 10) 40 [(4, .int (nI jx)), (0, .ref m), (1, .long dq), (3, .int (nI pq))] [] := by
  intro d
  induction d with
  | zero =>
    intro jx hd dq Mw th9 K9 tp9 hR
    refine z_iload C dX5_digest_40 0 rfl ?_
    refine z_bipush C (v := 10) dX5_digest_42 (by decide) ?_
    refine z_icmp_ge C (tgt := 66) dX5_digest_44 (by decide) (fun _ => ?_) (fun c44 => absurd (nI_le (b := jx) (a := 10) (by omega) (by omega)) c44)
    have e9 : jx = 10 := by omega
    subst e9
    refine z_fewer [3, 1, 2] rfl ?_
    exact kk _ _ _ _ _ hR
  | succ d ih =>
    intro jx hd dq Mw th9 K9 tp9 hR
    refine z_iload C dX5_digest_40 0 rfl ?_
    refine z_bipush C (v := 10) dX5_digest_42 (by decide) ?_
    refine z_icmp_ge C (tgt := 66) dX5_digest_44 (by decide) (fun c44 => absurd c44 (nI_ge (a := jx) (b := 10) (by omega) (by omega))) (fun _ => ?_)
    refine z_lload_n C dX5_digest_47 rfl 2 rfl ?_
    refine z_aload_n C dX5_digest_48 rfl 1 rfl ?_
    refine z_iload_n C dX5_digest_49 rfl 3 rfl ?_
    refine z_iload C dX5_digest_50 0 rfl ?_
    refine z_callVi (rest := [.long dq]) (k' := k0 + jx + 1) (n' := s0 + jx * 10 + 10) C (a_X5_ofPane (z_l X) hR hok ht (nI pq) (nI jx)) (cs_X5_163 C (by decide)) hR.1 rfl rfl rfl rfl (Nat.le_of_ble_eq_true rfl) rfl rfl (by show _ ≤ 700; omega) (by show _ ≤ 22000; omega) dX5_digest_52 (fun x52 Mq52 hq => ?_)
    obtain ⟨K52, tp52, h52⟩ := RP_u hq
    refine z_i2l C dX5_digest_55 ?_
    refine z_callSl (rest := []) (k' := k0 + jx + 1) (n' := s0 + jx * 10 + 10) C (c_X5_add (z_l X) (z_G X) ) (cs_X5_154 C (by decide)) rfl rfl (Nat.le_of_ble_eq_true rfl) rfl rfl (by show _ ≤ 700; omega) (by show _ ≤ 22000; omega) dX5_digest_56 (fun x56 M' hq => ?_)
    obtain ⟨rfl, rfl⟩ := hq
    refine z_lstore_n (lv' := [(1, .long ((dq * 31) + x52.toInt64)), (4, .int (nI jx)), (0, .ref m), (3, .int (nI pq))]) C dX5_digest_59 rfl (by decide) rfl ?_
    refine z_iinc (v := nI (jx + 1)) (lv' := [(4, .int (nI (jx + 1))), (1, .long ((dq * 31) + x52.toInt64)), (0, .ref m), (3, .int (nI pq))]) C dX5_digest_60 1 rfl (nI_1 jx) (by decide) rfl ?_
    refine z_goto C (tgt := 40) dX5_digest_63 (by decide) ?_
    refine z_kn (k' := k0 + (jx + 1)) (n' := s0 + (jx + 1) * 10) (by omega) (by omega) ?_
    refine z_fewer [0, 2, 1, 3] rfl ?_
    exact ih (jx + 1) (by omega) _ _ _ _ _ h52
end
section
/-! PART 55: the reference's digest, whole -/
theorem dX5_digest_0 : decode cX5_digest 0 = .ok (.ldc2_w 158, 3) := by decide +kernel
theorem dX5_digest_3 : decode cX5_digest 3 = .ok (.lstore_n 1, 1) := by decide +kernel
theorem dX5_digest_4 : decode cX5_digest 4 = .ok (.iconst 0, 1) := by decide +kernel
theorem dX5_digest_5 : decode cX5_digest 5 = .ok (.istore_n 3, 1) := by decide +kernel
theorem dX5_digest_29 : decode cX5_digest 29 = .ok (.iconst 0, 1) := by decide +kernel
theorem dX5_digest_30 : decode cX5_digest 30 = .ok (.istore_n 3, 1) := by decide +kernel
theorem dX5_digest_31 : decode cX5_digest 31 = .ok (.iload_n 3, 1) := by decide +kernel
theorem dX5_digest_32 : decode cX5_digest 32 = .ok (.bipush 6, 2) := by decide +kernel
theorem dX5_digest_34 : decode cX5_digest 34 = .ok (.if_icmp .ge 56, 3) := by decide +kernel
theorem dX5_digest_37 : decode cX5_digest 37 = .ok (.iconst 0, 1) := by decide +kernel
theorem dX5_digest_38 : decode cX5_digest 38 = .ok (.istore 4, 2) := by decide +kernel
theorem dX5_digest_66 : decode cX5_digest 66 = .ok (.lload_n 1, 1) := by decide +kernel
theorem dX5_digest_67 : decode cX5_digest 67 = .ok (.aload_n 0, 1) := by decide +kernel
theorem dX5_digest_68 : decode cX5_digest 68 = .ok (.iload_n 3, 1) := by decide +kernel
theorem dX5_digest_69 : decode cX5_digest 69 = .ok (.invokevirtual 166, 3) := by decide +kernel
theorem dX5_digest_72 : decode cX5_digest 72 = .ok (.invokestatic 170, 3) := by decide +kernel
theorem dX5_digest_75 : decode cX5_digest 75 = .ok (.aload_n 0, 1) := by decide +kernel
theorem dX5_digest_76 : decode cX5_digest 76 = .ok (.iload_n 3, 1) := by decide +kernel
theorem dX5_digest_77 : decode cX5_digest 77 = .ok (.invokevirtual 174, 3) := by decide +kernel
theorem dX5_digest_80 : decode cX5_digest 80 = .ok (.invokestatic 170, 3) := by decide +kernel
theorem dX5_digest_83 : decode cX5_digest 83 = .ok (.lstore_n 1, 1) := by decide +kernel
theorem dX5_digest_84 : decode cX5_digest 84 = .ok (.iinc 3 1, 3) := by decide +kernel
theorem dX5_digest_87 : decode cX5_digest 87 = .ok (.goto (-56), 3) := by decide +kernel
theorem dX5_digest_90 : decode cX5_digest 90 = .ok (.iconst 0, 1) := by decide +kernel
theorem dX5_digest_91 : decode cX5_digest 91 = .ok (.istore_n 3, 1) := by decide +kernel
theorem dX5_digest_92 : decode cX5_digest 92 = .ok (.iload_n 3, 1) := by decide +kernel
theorem dX5_digest_93 : decode cX5_digest 93 = .ok (.bipush 6, 2) := by decide +kernel
theorem dX5_digest_95 : decode cX5_digest 95 = .ok (.if_icmp .ge 42, 3) := by decide +kernel
theorem dX5_digest_98 : decode cX5_digest 98 = .ok (.lload_n 1, 1) := by decide +kernel
theorem dX5_digest_99 : decode cX5_digest 99 = .ok (.aload_n 0, 1) := by decide +kernel
theorem dX5_digest_100 : decode cX5_digest 100 = .ok (.iload_n 3, 1) := by decide +kernel
theorem dX5_digest_101 : decode cX5_digest 101 = .ok (.iload_n 3, 1) := by decide +kernel
theorem dX5_digest_102 : decode cX5_digest 102 = .ok (.iconst 1, 1) := by decide +kernel
theorem dX5_digest_103 : decode cX5_digest 103 = .ok (.iadd, 1) := by decide +kernel
theorem dX5_digest_104 : decode cX5_digest 104 = .ok (.bipush 6, 2) := by decide +kernel
theorem dX5_digest_106 : decode cX5_digest 106 = .ok (.irem, 1) := by decide +kernel
theorem dX5_digest_107 : decode cX5_digest 107 = .ok (.invokevirtual 177, 3) := by decide +kernel
theorem dX5_digest_110 : decode cX5_digest 110 = .ok (.i2l, 1) := by decide +kernel
theorem dX5_digest_111 : decode cX5_digest 111 = .ok (.invokestatic 154, 3) := by decide +kernel
theorem dX5_digest_114 : decode cX5_digest 114 = .ok (.aload_n 0, 1) := by decide +kernel
theorem dX5_digest_115 : decode cX5_digest 115 = .ok (.iload_n 3, 1) := by decide +kernel
theorem dX5_digest_116 : decode cX5_digest 116 = .ok (.iconst 0, 1) := by decide +kernel
theorem dX5_digest_117 : decode cX5_digest 117 = .ok (.iload_n 3, 1) := by decide +kernel
theorem dX5_digest_118 : decode cX5_digest 118 = .ok (.iconst 1, 1) := by decide +kernel
theorem dX5_digest_119 : decode cX5_digest 119 = .ok (.iadd, 1) := by decide +kernel
theorem dX5_digest_120 : decode cX5_digest 120 = .ok (.bipush 6, 2) := by decide +kernel
theorem dX5_digest_122 : decode cX5_digest 122 = .ok (.irem, 1) := by decide +kernel
theorem dX5_digest_123 : decode cX5_digest 123 = .ok (.invokevirtual 180, 3) := by decide +kernel
theorem dX5_digest_126 : decode cX5_digest 126 = .ok (.i2l, 1) := by decide +kernel
theorem dX5_digest_127 : decode cX5_digest 127 = .ok (.invokestatic 154, 3) := by decide +kernel
theorem dX5_digest_130 : decode cX5_digest 130 = .ok (.lstore_n 1, 1) := by decide +kernel
theorem dX5_digest_131 : decode cX5_digest 131 = .ok (.iinc 3 1, 3) := by decide +kernel
theorem dX5_digest_134 : decode cX5_digest 134 = .ok (.goto (-42), 3) := by decide +kernel
theorem dX5_digest_137 : decode cX5_digest 137 = .ok (.lload_n 1, 1) := by decide +kernel
theorem dX5_digest_138 : decode cX5_digest 138 = .ok (.aload_n 0, 1) := by decide +kernel
theorem dX5_digest_139 : decode cX5_digest 139 = .ok (.invokevirtual 184, 3) := by decide +kernel
theorem dX5_digest_142 : decode cX5_digest 142 = .ok (.invokestatic 170, 3) := by decide +kernel
theorem dX5_digest_145 : decode cX5_digest 145 = .ok (.lstore_n 1, 1) := by decide +kernel
theorem dX5_digest_146 : decode cX5_digest 146 = .ok (.aload_n 0, 1) := by decide +kernel
theorem dX5_digest_147 : decode cX5_digest 147 = .ok (.iconst 0, 1) := by decide +kernel
theorem dX5_digest_148 : decode cX5_digest 148 = .ok (.putfield 33, 3) := by decide +kernel
theorem dX5_digest_151 : decode cX5_digest 151 = .ok (.lload_n 1, 1) := by decide +kernel
theorem dX5_digest_152 : decode cX5_digest 152 = .ok (.lconst 1, 1) := by decide +kernel
theorem dX5_digest_153 : decode cX5_digest 153 = .ok (.invokestatic 154, 3) := by decide +kernel
theorem dX5_digest_156 : decode cX5_digest 156 = .ok (.lreturn, 1) := by decide +kernel
set_option maxRecDepth 20000 in
theorem lp_X5_d3 {X : zX} (C : z_C X cX5_digest RX5 5 (z_rm 14 700 22000)) {u : sS} {m pn td t : Nat} (hok : s_ok t u) (ht : t ≤ 64) (kk : ∀ (dq : Int64) (Mw : zM) (th9 : Int32) (K9 : Nat → Nat) (tp9 : Nat), RI (z_G X) u m th9 K9 tp9 pn td Mw → z_W X Mw (6 * 90) (6 * 3100) 90 [(0, .ref m), (1, .long dq)] []) : ∀ (d jx : Nat), jx + d = 6 → ∀ (dq : Int64) (Mw : zM) (th9 : Int32) (K9 : Nat → Nat) (tp9 : Nat), RI (z_G X) u m th9 K9 tp9 pn td Mw → z_W X Mw (jx * 90) (jx * 3100) 31 [(3, .int (nI jx)), (0, .ref m), (1, .long dq)] [] := by
  intro d
  induction d with
  | zero =>
    intro jx hd dq Mw th9 K9 tp9 hR
    refine z_iload_n C dX5_digest_31 rfl 0 rfl ?_
    refine z_bipush C (v := 6) dX5_digest_32 (by decide) ?_
    refine z_icmp_ge C (tgt := 90) dX5_digest_34 (by decide) (fun _ => ?_) (fun c34 => absurd (nI_le (b := jx) (a := 6) (by omega) (by omega)) c34)
    have e9 : jx = 6 := by omega
    subst e9
    refine z_fewer [1, 2] rfl ?_
    exact kk _ _ _ _ _ hR
  | succ d ih =>
    intro jx hd dq Mw th9 K9 tp9 hR
    refine z_iload_n C dX5_digest_31 rfl 0 rfl ?_
    refine z_bipush C (v := 6) dX5_digest_32 (by decide) ?_
    refine z_icmp_ge C (tgt := 90) dX5_digest_34 (by decide) (fun c34 => absurd c34 (nI_ge (a := jx) (b := 6) (by omega) (by omega))) (fun _ => ?_)
    refine z_iconst C (v := 0) dX5_digest_37 (by decide) ?_
    refine z_istore (lv' := [(4, .int 0), (3, .int (nI jx)), (0, .ref m), (1, .long dq)]) C dX5_digest_38 (by decide) rfl ?_
    refine z_fewer [0, 2, 3, 1] rfl ?_
    refine z_at (M' := _) (lv' := [(4, .int (nI 0)), (0, .ref m), (1, .long dq), (3, .int (nI jx))]) rfl (by rw [nI_0]; rfl) rfl ?_
    refine z_kn (k' := jx * 90 + 0) (n' := jx * 3100 + 0 * 10) (by omega) (by omega) ?_
    have hpq : jx < 6 := by omega
    refine lp_X5_d2 C hok ht (k0 := jx * 90) (s0 := jx * 3100) (by omega) (by omega) (fun dq Mw th9 K9 tp9 hR => ?_) 10 0 (Nat.zero_add _) _ _ _ _ _ hR
    refine z_lload_n C dX5_digest_66 rfl 2 rfl ?_
    refine z_aload_n C dX5_digest_67 rfl 1 rfl ?_
    refine z_iload_n C dX5_digest_68 rfl 0 rfl ?_
    refine z_callVr (rest := [.long dq]) (k' := jx * 90 + 10 + 40) (n' := jx * 3100 + 10 * 10 + 1500) C (a_X5_whole (z_l X) hR hok ht (nI jx)) (cs_X5_166 C (by decide)) hR.1 rfl rfl rfl rfl (Nat.le_of_ble_eq_true rfl) rfl rfl (by show _ ≤ 700; omega) (by show _ ≤ 22000; omega) dX5_digest_69 (fun x69 Mq69 hq => ?_)
    obtain ⟨⟨K69, tp69, h69⟩, hS69⟩ := hq
    refine z_callSl (rest := []) (k' := jx * 90 + 10 + 40) (n' := jx * 3100 + 10 * 10 + 1500) C (a_X5_addSigns (z_l X) (hS69 (j_kp hpq))) (cs_X5_170 C (by decide)) rfl rfl (Nat.le_of_ble_eq_true rfl) rfl rfl (by show _ ≤ 700; omega) (by show _ ≤ 22000; omega) dX5_digest_72 (fun x72 Mq72 hq => ?_)
    obtain rfl := hq
    refine z_aload_n C dX5_digest_75 rfl 1 rfl ?_
    refine z_iload_n C dX5_digest_76 rfl 0 rfl ?_
    refine z_callVr (rest := [.long x72]) (k' := jx * 90 + 10 + 40 + 40) (n' := jx * 3100 + 10 * 10 + 1500 + 1500) C (a_X5_total (z_l X) h69 hok ht (nI jx)) (cs_X5_174 C (by decide)) h69.1 rfl rfl rfl rfl (Nat.le_of_ble_eq_true rfl) rfl rfl (by show _ ≤ 700; omega) (by show _ ≤ 22000; omega) dX5_digest_77 (fun x77 Mq77 hq => ?_)
    obtain ⟨⟨K77, tp77, h77⟩, hS77⟩ := hq
    refine z_callSl (rest := []) (k' := jx * 90 + 10 + 40 + 40) (n' := jx * 3100 + 10 * 10 + 1500 + 1500) C (a_X5_addSigns (z_l X) (hS77 (j_kp hpq))) (cs_X5_170 C (by decide)) rfl rfl (Nat.le_of_ble_eq_true rfl) rfl rfl (by show _ ≤ 700; omega) (by show _ ≤ 22000; omega) dX5_digest_80 (fun x80 Mq80 hq => ?_)
    obtain rfl := hq
    refine z_lstore_n (lv' := [(1, .long x80), (3, .int (nI jx)), (0, .ref m)]) C dX5_digest_83 rfl (by decide) rfl ?_
    refine z_iinc (v := nI (jx + 1)) (lv' := [(3, .int (nI (jx + 1))), (1, .long x80), (0, .ref m)]) C dX5_digest_84 1 rfl (nI_1 jx) (by decide) rfl ?_
    refine z_goto C (tgt := 31) dX5_digest_87 (by decide) ?_
    refine z_kn (k' := (jx + 1) * 90) (n' := (jx + 1) * 3100) (by omega) (by omega) ?_
    refine z_fewer [0, 2, 1] rfl ?_
    exact ih (jx + 1) (by omega) _ _ _ _ _ h77
set_option maxRecDepth 20000 in
theorem lp_X5_d4 {X : zX} (C : z_C X cX5_digest RX5 5 (z_rm 14 700 22000)) {u : sS} {m pn td t : Nat} (hok : s_ok t u) (ht : t ≤ 64) (kk : ∀ (dq : Int64) (Mw : zM) (th9 : Int32) (K9 : Nat → Nat) (tp9 : Nat), RI (z_G X) u m th9 K9 tp9 pn td Mw → z_W X Mw (6 * 90) (6 * 3100) 137 [(0, .ref m), (1, .long dq)] []) : ∀ (d jx : Nat), jx + d = 6 → ∀ (dq : Int64) (Mw : zM) (th9 : Int32) (K9 : Nat → Nat) (tp9 : Nat), RI (z_G X) u m th9 K9 tp9 pn td Mw → z_W X Mw (6 * 90) (6 * 3100) 92 [(3, .int (nI jx)), (0, .ref m), (1, .long dq)] [] := by
  intro d
  induction d with
  | zero =>
    intro jx hd dq Mw th9 K9 tp9 hR
    refine z_iload_n C dX5_digest_92 rfl 0 rfl ?_
    refine z_bipush C (v := 6) dX5_digest_93 (by decide) ?_
    refine z_icmp_ge C (tgt := 137) dX5_digest_95 (by decide) (fun _ => ?_) (fun c95 => absurd (nI_le (b := jx) (a := 6) (by omega) (by omega)) c95)
    refine z_fewer [1, 2] rfl ?_
    exact kk _ _ _ _ _ hR
  | succ d ih =>
    intro jx hd dq Mw th9 K9 tp9 hR
    refine z_iload_n C dX5_digest_92 rfl 0 rfl ?_
    refine z_bipush C (v := 6) dX5_digest_93 (by decide) ?_
    refine z_icmp_ge C (tgt := 137) dX5_digest_95 (by decide) (fun c95 => absurd c95 (nI_ge (a := jx) (b := 6) (by omega) (by omega))) (fun _ => ?_)
    refine z_lload_n C dX5_digest_98 rfl 2 rfl ?_
    refine z_aload_n C dX5_digest_99 rfl 1 rfl ?_
    refine z_iload_n C dX5_digest_100 rfl 0 rfl ?_
    refine z_iload_n C dX5_digest_101 rfl 0 rfl ?_
    refine z_iconst C (v := 1) dX5_digest_102 (by decide) ?_
    refine z_iadd C dX5_digest_103 ?_
    refine z_bipush C (v := 6) dX5_digest_104 (by decide) ?_
    refine z_irem C dX5_digest_106 (by decide) ?_
    refine z_callVi (rest := [.long dq]) (k' := 6 * 90) (n' := 6 * 3100) C (a_X5_isKin (z_l X) hR hok ht _ _) (cs_X5_177 C (by decide)) hR.1 rfl rfl rfl rfl (Nat.le_of_ble_eq_true rfl) rfl rfl (by show _ ≤ 700; omega) (by show _ ≤ 22000; omega) dX5_digest_107 (fun x107 Mq107 hq => ?_)
    obtain ⟨K107, tp107, h107⟩ := RP_u hq
    refine z_i2l C dX5_digest_110 ?_
    refine z_callSl (rest := []) (k' := 6 * 90) (n' := 6 * 3100) C (c_X5_add (z_l X) (z_G X) ) (cs_X5_154 C (by decide)) rfl rfl (Nat.le_of_ble_eq_true rfl) rfl rfl (by show _ ≤ 700; omega) (by show _ ≤ 22000; omega) dX5_digest_111 (fun x111 M' hq => ?_)
    obtain ⟨rfl, rfl⟩ := hq
    refine z_aload_n C dX5_digest_114 rfl 1 rfl ?_
    refine z_iload_n C dX5_digest_115 rfl 0 rfl ?_
    refine z_iconst C (v := 0) dX5_digest_116 (by decide) ?_
    refine z_iload_n C dX5_digest_117 rfl 0 rfl ?_
    refine z_iconst C (v := 1) dX5_digest_118 (by decide) ?_
    refine z_iadd C dX5_digest_119 ?_
    refine z_bipush C (v := 6) dX5_digest_120 (by decide) ?_
    refine z_irem C dX5_digest_122 (by decide) ?_
    refine z_callVi (rest := [.long ((dq * 31) + x107.toInt64)]) (k' := 6 * 90) (n' := 6 * 3100) C (a_X5_sees (z_l X) h107 hok ht _ _ _) (cs_X5_180 C (by decide)) h107.1 rfl rfl rfl rfl (Nat.le_of_ble_eq_true rfl) rfl rfl (by show _ ≤ 700; omega) (by show _ ≤ 22000; omega) dX5_digest_123 (fun x123 Mq123 hq => ?_)
    obtain ⟨K123, tp123, h123⟩ := RP_u hq
    refine z_i2l C dX5_digest_126 ?_
    refine z_callSl (rest := []) (k' := 6 * 90) (n' := 6 * 3100) C (c_X5_add (z_l X) (z_G X) ) (cs_X5_154 C (by decide)) rfl rfl (Nat.le_of_ble_eq_true rfl) rfl rfl (by show _ ≤ 700; omega) (by show _ ≤ 22000; omega) dX5_digest_127 (fun x127 M' hq => ?_)
    obtain ⟨rfl, rfl⟩ := hq
    refine z_lstore_n (lv' := [(1, .long ((((dq * 31) + x107.toInt64) * 31) + x123.toInt64)), (3, .int (nI jx)), (0, .ref m)]) C dX5_digest_130 rfl (by decide) rfl ?_
    refine z_iinc (v := nI (jx + 1)) (lv' := [(3, .int (nI (jx + 1))), (1, .long ((((dq * 31) + x107.toInt64) * 31) + x123.toInt64)), (0, .ref m)]) C dX5_digest_131 1 rfl (nI_1 jx) (by decide) rfl ?_
    refine z_goto C (tgt := 92) dX5_digest_134 (by decide) ?_
    refine z_fewer [0, 2, 1] rfl ?_
    exact ih (jx + 1) (by omega) _ _ _ _ _ h123
set_option maxRecDepth 20000 in
theorem a_X5_digest (l : Launch) {G : zG} {u : sS} {m : Nat} {th : Int32} {K : Nat → Nat} {tp pn td : Nat} {Mw : zM} (hR : RI G u m th K tp pn td Mw) {t : Nat} (hok : s_ok t u) (ht : t ≤ 64) : z_Ml l G qX5_digest (z_rm 14 700 22000) [.ref m] Mw (fun r Mz => ∃ K' tp', RI G u m 0 K' tp' pn td Mz)  := by
  refine z_Ml_of _ (plainFor_of_name rfl) rfl (Nat.le_of_ble_eq_true rfl) (fun X hl hG hnm C ret => ?_)
  subst hl; subst hG
  have C : z_C X cX5_digest RX5 5 (z_rm 14 700 22000) := C
  show z_W X Mw 0 0 0 [(0, .ref m)] []
  refine z_ldc2 C (v := 8017) kw1341 dX5_digest_0 ?_
  refine z_lstore_n (lv' := [(1, .long 8017), (0, .ref m)]) C dX5_digest_3 rfl (by decide) rfl ?_
  refine z_iconst C (v := 0) dX5_digest_4 (by decide) ?_
  refine z_istore_n (lv' := [(3, .int 0), (1, .long 8017), (0, .ref m)]) C dX5_digest_5 rfl (by decide) rfl ?_
  refine z_fewer [0, 2, 1] rfl ?_
  refine z_at (M' := _) (lv' := [(3, .int (nI 0)), (0, .ref m), (1, .long 8017)]) rfl (by rw [nI_0]; rfl) rfl ?_
  refine lp_X5_d1 C hok ht (fun dq Mw th9 K9 tp9 hR => ?_) 9 0 (Nat.zero_add _) _ _ _ _ _ hR
  refine z_iconst C (v := 0) dX5_digest_29 (by decide) ?_
  refine z_istore_n (lv' := [(3, .int 0), (0, .ref m), (1, .long dq)]) C dX5_digest_30 rfl (by decide) rfl ?_
  refine z_fewer [0, 1, 2] rfl ?_
  refine z_at (M' := _) (lv' := [(3, .int (nI 0)), (0, .ref m), (1, .long dq)]) rfl (by rw [nI_0]; rfl) rfl ?_
  refine z_kn (k' := 0 * 90) (n' := 0 * 3100) rfl rfl ?_
  refine lp_X5_d3 C hok ht (fun dq Mw th9 K9 tp9 hR => ?_) 6 0 (Nat.zero_add _) _ _ _ _ _ hR
  refine z_iconst C (v := 0) dX5_digest_90 (by decide) ?_
  refine z_istore_n (lv' := [(3, .int 0), (0, .ref m), (1, .long dq)]) C dX5_digest_91 rfl (by decide) rfl ?_
  refine z_fewer [0, 1, 2] rfl ?_
  refine z_at (M' := _) (lv' := [(3, .int (nI 0)), (0, .ref m), (1, .long dq)]) rfl (by rw [nI_0]; rfl) rfl ?_
  refine lp_X5_d4 C hok ht (fun dq Mw th9 K9 tp9 hR => ?_) 6 0 (Nat.zero_add _) _ _ _ _ _ hR
  refine z_lload_n C dX5_digest_137 rfl 1 rfl ?_
  refine z_aload_n C dX5_digest_138 rfl 0 rfl ?_
  refine z_callVr (rest := [.long dq]) (k' := 6 * 90 + 40) (n' := 6 * 3100 + 1500) C (a_X5_row (z_l X) hR hok ht) (cs_X5_184 C (by decide)) hR.1 rfl rfl rfl rfl (Nat.le_of_ble_eq_true rfl) rfl rfl (by show _ ≤ 700; omega) (by show _ ≤ 22000; omega) dX5_digest_139 (fun x139 Mq139 hq => ?_)
  obtain ⟨⟨K139, tp139, h139⟩, hS139⟩ := hq
  refine z_callSl (rest := []) (k' := 6 * 90 + 40) (n' := 6 * 3100 + 1500) C (a_X5_addSigns (z_l X) (hS139 rfl)) (cs_X5_170 C (by decide)) rfl rfl (Nat.le_of_ble_eq_true rfl) rfl rfl (by show _ ≤ 700; omega) (by show _ ≤ 22000; omega) dX5_digest_142 (fun x142 Mq142 hq => ?_)
  obtain rfl := hq
  refine z_lstore_n (lv' := [(1, .long x142), (0, .ref m)]) C dX5_digest_145 rfl (by decide) rfl ?_
  refine z_aload_n C dX5_digest_146 rfl 1 rfl ?_
  refine z_iconst C (v := 0) dX5_digest_147 (by decide) ?_
  refine pf_X5_33 C h139.1 dX5_digest_148 ?_
  refine z_lload_n C dX5_digest_151 rfl 0 rfl ?_
  refine z_lconst C (v := 1) dX5_digest_152 (by decide) ?_
  refine z_callSl (rest := []) (k' := 6 * 90 + 40) (n' := 6 * 3100 + 1500) C (c_X5_add (z_l X) (z_G X) ) (cs_X5_154 C (by decide)) rfl rfl (Nat.le_of_ble_eq_true rfl) rfl rfl (Nat.le_of_ble_eq_true rfl) (Nat.le_of_ble_eq_true rfl) dX5_digest_153 (fun x153 M' hq => ?_)
  obtain ⟨rfl, rfl⟩ := hq
  refine ret dX5_digest_156 ?_ (Nat.le_of_ble_eq_true rfl) (Nat.le_of_ble_eq_true rfl)
  exact ⟨_, _, RI_ak h139 _ _ _⟩
end
section
/-! PART 56: what isSound looks at: a twin tells as its pane -/
theorem dX1_tellsAs_0 : decode cX1_tellsAs 0 = .ok (.aload_n 0, 1) := by decide +kernel
theorem dX1_tellsAs_1 : decode cX1_tellsAs 1 = .ok (.getfield 28, 3) := by decide +kernel
theorem dX1_tellsAs_4 : decode cX1_tellsAs 4 = .ok (.aload_n 1, 1) := by decide +kernel
theorem dX1_tellsAs_5 : decode cX1_tellsAs 5 = .ok (.getfield 28, 3) := by decide +kernel
theorem dX1_tellsAs_8 : decode cX1_tellsAs 8 = .ok (.if_icmp .ne 25, 3) := by decide +kernel
theorem dX1_tellsAs_11 : decode cX1_tellsAs 11 = .ok (.aload_n 0, 1) := by decide +kernel
theorem dX1_tellsAs_12 : decode cX1_tellsAs 12 = .ok (.getfield 31, 3) := by decide +kernel
theorem dX1_tellsAs_15 : decode cX1_tellsAs 15 = .ok (.aload_n 1, 1) := by decide +kernel
theorem dX1_tellsAs_16 : decode cX1_tellsAs 16 = .ok (.getfield 31, 3) := by decide +kernel
theorem dX1_tellsAs_19 : decode cX1_tellsAs 19 = .ok (.if_icmp .ne 14, 3) := by decide +kernel
theorem dX1_tellsAs_22 : decode cX1_tellsAs 22 = .ok (.aload_n 0, 1) := by decide +kernel
theorem dX1_tellsAs_23 : decode cX1_tellsAs 23 = .ok (.getfield 34, 3) := by decide +kernel
theorem dX1_tellsAs_26 : decode cX1_tellsAs 26 = .ok (.aload_n 1, 1) := by decide +kernel
theorem dX1_tellsAs_27 : decode cX1_tellsAs 27 = .ok (.getfield 34, 3) := by decide +kernel
theorem dX1_tellsAs_30 : decode cX1_tellsAs 30 = .ok (.if_icmp .eq 5, 3) := by decide +kernel
theorem dX1_tellsAs_35 : decode cX1_tellsAs 35 = .ok (.iconst 0, 1) := by decide +kernel
theorem dX1_tellsAs_36 : decode cX1_tellsAs 36 = .ok (.istore_n 2, 1) := by decide +kernel
theorem dX1_tellsAs_37 : decode cX1_tellsAs 37 = .ok (.iload_n 2, 1) := by decide +kernel
theorem dX1_tellsAs_38 : decode cX1_tellsAs 38 = .ok (.aload_n 0, 1) := by decide +kernel
theorem dX1_tellsAs_39 : decode cX1_tellsAs 39 = .ok (.getfield 25, 3) := by decide +kernel
theorem dX1_tellsAs_42 : decode cX1_tellsAs 42 = .ok (.if_icmp .ge 24, 3) := by decide +kernel
theorem dX1_tellsAs_45 : decode cX1_tellsAs 45 = .ok (.aload_n 0, 1) := by decide +kernel
theorem dX1_tellsAs_46 : decode cX1_tellsAs 46 = .ok (.iload_n 2, 1) := by decide +kernel
theorem dX1_tellsAs_47 : decode cX1_tellsAs 47 = .ok (.invokevirtual 53, 3) := by decide +kernel
theorem dX1_tellsAs_50 : decode cX1_tellsAs 50 = .ok (.aload_n 1, 1) := by decide +kernel
theorem dX1_tellsAs_51 : decode cX1_tellsAs 51 = .ok (.iload_n 2, 1) := by decide +kernel
theorem dX1_tellsAs_52 : decode cX1_tellsAs 52 = .ok (.invokevirtual 53, 3) := by decide +kernel
theorem dX1_tellsAs_55 : decode cX1_tellsAs 55 = .ok (.if_icmp .eq 5, 3) := by decide +kernel
theorem dX1_tellsAs_60 : decode cX1_tellsAs 60 = .ok (.iinc 2 1, 3) := by decide +kernel
theorem dX1_tellsAs_63 : decode cX1_tellsAs 63 = .ok (.goto (-26), 3) := by decide +kernel
theorem dX1_tellsAs_66 : decode cX1_tellsAs 66 = .ok (.iconst 1, 1) := by decide +kernel
theorem dX1_tellsAs_67 : decode cX1_tellsAs 67 = .ok (.ireturn, 1) := by decide +kernel
theorem dX3_hasTrueTwins_0 : decode cX3_hasTrueTwins 0 = .ok (.aload_n 0, 1) := by decide +kernel
theorem dX3_hasTrueTwins_1 : decode cX3_hasTrueTwins 1 = .ok (.getfield 27, 3) := by decide +kernel
theorem dX3_hasTrueTwins_4 : decode cX3_hasTrueTwins 4 = .ok (.aload_n 1, 1) := by decide +kernel
theorem dX3_hasTrueTwins_5 : decode cX3_hasTrueTwins 5 = .ok (.invokevirtual 70, 3) := by decide +kernel
theorem dX3_hasTrueTwins_8 : decode cX3_hasTrueTwins 8 = .ok (.aload_n 0, 1) := by decide +kernel
theorem dX3_hasTrueTwins_9 : decode cX3_hasTrueTwins 9 = .ok (.getfield 27, 3) := by decide +kernel
theorem dX3_hasTrueTwins_12 : decode cX3_hasTrueTwins 12 = .ok (.aload_n 1, 1) := by decide +kernel
theorem dX3_hasTrueTwins_13 : decode cX3_hasTrueTwins 13 = .ok (.invokevirtual 242, 3) := by decide +kernel
theorem dX3_hasTrueTwins_16 : decode cX3_hasTrueTwins 16 = .ok (.istore_n 2, 1) := by decide +kernel
theorem dX3_hasTrueTwins_17 : decode cX3_hasTrueTwins 17 = .ok (.aload_n 0, 1) := by decide +kernel
theorem dX3_hasTrueTwins_18 : decode cX3_hasTrueTwins 18 = .ok (.getfield 27, 3) := by decide +kernel
theorem dX3_hasTrueTwins_21 : decode cX3_hasTrueTwins 21 = .ok (.iconst 1, 1) := by decide +kernel
theorem dX3_hasTrueTwins_22 : decode cX3_hasTrueTwins 22 = .ok (.putfield 89, 3) := by decide +kernel
theorem dX3_hasTrueTwins_25 : decode cX3_hasTrueTwins 25 = .ok (.iload_n 2, 1) := by decide +kernel
theorem dX3_hasTrueTwins_26 : decode cX3_hasTrueTwins 26 = .ok (.ifCond .eq 18, 3) := by decide +kernel
theorem dX3_hasTrueTwins_29 : decode cX3_hasTrueTwins 29 = .ok (.aload_n 0, 1) := by decide +kernel
theorem dX3_hasTrueTwins_30 : decode cX3_hasTrueTwins 30 = .ok (.getfield 27, 3) := by decide +kernel
theorem dX3_hasTrueTwins_33 : decode cX3_hasTrueTwins 33 = .ok (.aload_n 1, 1) := by decide +kernel
theorem dX3_hasTrueTwins_34 : decode cX3_hasTrueTwins 34 = .ok (.invokevirtual 242, 3) := by decide +kernel
theorem dX3_hasTrueTwins_37 : decode cX3_hasTrueTwins 37 = .ok (.ifCond .eq 7, 3) := by decide +kernel
theorem dX3_hasTrueTwins_40 : decode cX3_hasTrueTwins 40 = .ok (.iconst 1, 1) := by decide +kernel
theorem dX3_hasTrueTwins_41 : decode cX3_hasTrueTwins 41 = .ok (.goto 4, 3) := by decide +kernel
theorem dX3_hasTrueTwins_45 : decode cX3_hasTrueTwins 45 = .ok (.ireturn, 1) := by decide +kernel
set_option maxRecDepth 20000 in
theorem lp_X1_ta {X : zX} (C : z_C X cX1_tellsAs RX1 3 (z_rm 4 0 0)) {u : sS} {x : Nat} {P RA VA : Nat → Nat} {pa sp ln rf sb t i : Nat} {Mw : zM} (hC : CI (z_G X) u x P RA VA pa sp ln rf sb Mw) (hok : s_ok t u) (hi : i < 6) {rdx : Int32} (hsp : Mw sp = some (cPn (RA (p_ro (s_pn u i))) (p_sa (s_pn u i)) (p_cp (s_pn u i)) (p_po (s_pn u i)) (p_li (s_pn u i)) (p_mk (s_pn u i)) rdx)) {cq : Nat} (hcp : p_cp (s_pn u i) = nI cq) (h16 : cq ≤ 16) (kk : z_W X Mw 0 0 66 [] []) : ∀ (d jx : Nat), jx + d = cq → z_W X Mw 0 0 37 [(2, .int (nI jx)), (0, .ref sp), (1, .ref (P i))] [] := by
  intro d
  induction d with
  | zero =>
    intro jx hd
    refine z_iload_n C dX1_tellsAs_37 rfl 0 rfl ?_
    refine z_aload_n C dX1_tellsAs_38 rfl 1 rfl ?_
    refine gf_X1_25 C hsp dX1_tellsAs_39 ?_
    refine z_icmp_ge C (tgt := 66) dX1_tellsAs_42 (by decide) (fun _ => ?_) (fun c42 => absurd (by rw [hcp]; exact nI_le (by omega) (by omega)) c42)
    refine z_fewer [] rfl ?_
    exact kk
  | succ d ih =>
    intro jx hd
    refine z_iload_n C dX1_tellsAs_37 rfl 0 rfl ?_
    refine z_aload_n C dX1_tellsAs_38 rfl 1 rfl ?_
    refine gf_X1_25 C hsp dX1_tellsAs_39 ?_
    refine z_icmp_ge C (tgt := 66) dX1_tellsAs_42 (by decide) (fun c42 => absurd c42 (by rw [hcp]; exact nI_ge (by omega) (by omega))) (fun _ => ?_)
    refine z_aload_n C dX1_tellsAs_45 rfl 1 rfl ?_
    refine z_iload_n C dX1_tellsAs_46 rfl 0 rfl ?_
    refine z_callVi (rest := []) (k' := 0) (n' := 0) C (c_X1_valueAt (z_l X) (z_G X) hsp (CI_RA hC (s_row hok hi)) (CI_VA hC (s_row hok hi)) (s_inJ hok hi hcp (by omega) h16) (s_lnc hok _)) (cs_X1_53 C (by decide)) hsp rfl rfl rfl rfl (Nat.le_of_ble_eq_true rfl) rfl rfl (by decide) (by decide) dX1_tellsAs_47 (fun x47 Mq47 hq => ?_)
    obtain ⟨e47, rfl⟩ := hq
    rw [e47]
    refine z_aload_n C dX1_tellsAs_50 rfl 2 rfl ?_
    refine z_iload_n C dX1_tellsAs_51 rfl 0 rfl ?_
    refine z_callVi (rest := [.int (s_vl u (p_ro (s_pn u i)) (p_sa (s_pn u i) + nI jx).toNatClampNeg)]) (k' := 0) (n' := 0) C (c_X1_valueAt (z_l X) (z_G X) (CI_P hC hi) (CI_RA hC (s_row hok hi)) (CI_VA hC (s_row hok hi)) (s_inJ hok hi hcp (by omega) h16) (s_lnc hok _)) (cs_X1_53 C (by decide)) (CI_P hC hi) rfl rfl rfl rfl (Nat.le_of_ble_eq_true rfl) rfl rfl (by decide) (by decide) dX1_tellsAs_52 (fun x52 Mq52 hq => ?_)
    obtain ⟨e52, rfl⟩ := hq
    rw [e52]
    refine z_icmp_eq C (tgt := 60) dX1_tellsAs_55 (by decide) (fun _ => ?_) (fun c55 => absurd rfl c55)
    refine z_iinc (v := nI (jx + 1)) (lv' := [(2, .int (nI (jx + 1))), (0, .ref sp), (1, .ref (P i))]) C dX1_tellsAs_60 0 rfl (nI_1 jx) (by decide) rfl ?_
    refine z_goto C (tgt := 37) dX1_tellsAs_63 (by decide) ?_
    refine z_fewer [0, 1, 2] rfl ?_
    exact ih (jx + 1) (by omega)
set_option maxRecDepth 20000 in
theorem a_X1_tellsAs (l : Launch) {G : zG} {u : sS} {x : Nat} {P RA VA : Nat → Nat} {pa sp ln rf sb : Nat} {Mw : zM} (hC : CI G u x P RA VA pa sp ln rf sb Mw) {t : Nat} (hok : s_ok t u) {i : Nat} (hi : i < 6) {rdx : Int32} (hsp : Mw sp = some (cPn (RA (p_ro (s_pn u i))) (p_sa (s_pn u i)) (p_cp (s_pn u i)) (p_po (s_pn u i)) (p_li (s_pn u i)) (p_mk (s_pn u i)) rdx)) : z_Mi l G qX1_tellsAs (z_rm 4 0 0) [.ref sp, .ref (P i)] Mw (fun r Mz => r = 1 ∧ Mz = Mw)  := by
  obtain ⟨pq, lq, cq, hpo, hli, hcp, g1, g2, h16⟩ := s_pq hok hi
  refine z_Mi_of _ (plainFor_of_name rfl) rfl (Nat.le_of_ble_eq_true rfl) (fun X hl hG hnm C ret => ?_)
  subst hl; subst hG
  have C : z_C X cX1_tellsAs RX1 3 (z_rm 4 0 0) := C
  show z_W X Mw 0 0 0 [(0, .ref sp), (1, .ref (P i))] []
  refine z_aload_n C dX1_tellsAs_0 rfl 0 rfl ?_
  refine gf_X1_28 C hsp dX1_tellsAs_1 ?_
  refine z_aload_n C dX1_tellsAs_4 rfl 1 rfl ?_
  refine gf_X1_28 C (CI_P hC hi) dX1_tellsAs_5 ?_
  refine z_icmp_ne C (tgt := 33) dX1_tellsAs_8 (by decide) (fun c8 => absurd rfl c8) (fun _ => ?_)
  refine z_aload_n C dX1_tellsAs_11 rfl 0 rfl ?_
  refine gf_X1_31 C hsp dX1_tellsAs_12 ?_
  refine z_aload_n C dX1_tellsAs_15 rfl 1 rfl ?_
  refine gf_X1_31 C (CI_P hC hi) dX1_tellsAs_16 ?_
  refine z_icmp_ne C (tgt := 33) dX1_tellsAs_19 (by decide) (fun c19 => absurd rfl c19) (fun _ => ?_)
  refine z_aload_n C dX1_tellsAs_22 rfl 0 rfl ?_
  refine gf_X1_34 C hsp dX1_tellsAs_23 ?_
  refine z_aload_n C dX1_tellsAs_26 rfl 1 rfl ?_
  refine gf_X1_34 C (CI_P hC hi) dX1_tellsAs_27 ?_
  refine z_icmp_eq C (tgt := 35) dX1_tellsAs_30 (by decide) (fun _ => ?_) (fun c30 => absurd rfl c30)
  refine z_iconst C (v := 0) dX1_tellsAs_35 (by decide) ?_
  refine z_istore_n (lv' := [(2, .int 0), (0, .ref sp), (1, .ref (P i))]) C dX1_tellsAs_36 rfl (by decide) rfl ?_
  refine z_at (M' := _) (lv' := [(2, .int (nI 0)), (0, .ref sp), (1, .ref (P i))]) rfl (by rw [nI_0]) rfl ?_
  refine lp_X1_ta C hC hok hi hsp hcp h16 ?_ cq 0 (Nat.zero_add _)
  refine z_iconst C (v := 1) dX1_tellsAs_66 (by decide) ?_
  refine ret dX1_tellsAs_67 rfl ?_ (by decide) (by decide)
  exact ⟨rfl, rfl⟩
set_option maxRecDepth 20000 in
theorem a_X3_hasTrueTwins (l : Launch) {G : zG} {u : sS} {x : Nat} {P RA VA : Nat → Nat} {pa sp ln rf sb : Nat} {Mw : zM} (hC : CI G u x P RA VA pa sp ln rf sb Mw) {t : Nat} (hok : s_ok t u) {i : Nat} (hi : i < 6) : z_Mi l G qX3_hasTrueTwins (z_rm 5 0 0) [.ref x, .ref (P i)] Mw (fun r Mz => r = 1 ∧ CI G u x P RA VA pa sp ln rf sb Mz)  := by
  obtain ⟨o9, p9, hsp⟩ := CI_sp' hC
  refine z_Mi_of _ (plainFor_of_name rfl) rfl (Nat.le_of_ble_eq_true rfl) (fun X hl hG hnm C ret => ?_)
  subst hl; subst hG
  have C : z_C X cX3_hasTrueTwins RX3 3 (z_rm 5 0 0) := C
  show z_W X Mw 0 0 0 [(0, .ref x), (1, .ref (P i))] []
  refine z_aload_n C dX3_hasTrueTwins_0 rfl 0 rfl ?_
  refine gf_X3_27 C hC.1 dX3_hasTrueTwins_1 ?_
  refine z_aload_n C dX3_hasTrueTwins_4 rfl 1 rfl ?_
  refine z_callVv (rest := []) (k' := 0) (n' := 0) C (c_X1_becomeTwin (z_l X) (z_G X) hsp (CI_P hC hi) (fun q => hC.2.2.2.2.2.2.2.2.2.2.1 i hi q.symm) (by rcases (hok.2.2.2.2.1 i hi).2.2.2 with h9 | h9 <;> rw [h9] <;> rfl) (by rcases (hok.2.2.2.2.1 i hi).2.2.2 with h9 | h9 <;> rw [h9] <;> rfl)) (cs_X3_70 C (by decide)) hsp rfl rfl rfl rfl (Nat.le_of_ble_eq_true rfl) rfl rfl (by decide) (by decide) dX3_hasTrueTwins_5 (fun Mq5 hq => ?_)
  have hC1 : CI (z_G X) u x P RA VA pa sp ln rf sb Mq5 := by
    rw [hq]
    exact CI_sp hC (RA (p_ro (s_pn u i))) (s_pn u i)
  have hs1 : Mq5 sp = some (cPn (RA (p_ro (s_pn u i))) (p_sa (s_pn u i)) (p_cp (s_pn u i)) (p_po (s_pn u i)) (p_li (s_pn u i)) (p_mk (s_pn u i)) (p_rd (s_pn u i))) := by
    rw [hq]
    exact z_up_s _ _ _
  refine z_aload_n C dX3_hasTrueTwins_8 rfl 0 rfl ?_
  refine gf_X3_27 C hC1.1 dX3_hasTrueTwins_9 ?_
  refine z_aload_n C dX3_hasTrueTwins_12 rfl 1 rfl ?_
  refine z_callVi (rest := []) (k' := 0) (n' := 0) C (a_X1_tellsAs (z_l X) hC1 hok hi hs1) (cs_X3_242 C (by decide)) hs1 rfl rfl rfl rfl (Nat.le_of_ble_eq_true rfl) rfl rfl (by decide) (by decide) dX3_hasTrueTwins_13 (fun x13 Mq13 hq => ?_)
  obtain ⟨e13, rfl⟩ := hq
  rw [e13]
  refine z_istore_n (lv' := [(2, .int 1), (0, .ref x), (1, .ref (P i))]) C dX3_hasTrueTwins_16 rfl (by decide) rfl ?_
  refine z_aload_n C dX3_hasTrueTwins_17 rfl 1 rfl ?_
  refine gf_X3_27 C hC1.1 dX3_hasTrueTwins_18 ?_
  refine z_iconst C (v := 1) dX3_hasTrueTwins_21 (by decide) ?_
  refine pf_X3_89 C rfl rfl hs1 dX3_hasTrueTwins_22 ?_
  refine z_opq (fun Mb hWb => ?_)
  have hC2 : CI (z_G X) u x P RA VA pa sp ln rf sb Mb := by
    rw [hWb]
    exact CI_sp hC1 (RA (p_ro (s_pn u i))) ((p_ro (s_pn u i), p_sa (s_pn u i), p_cp (s_pn u i), p_po (s_pn u i), p_li (s_pn u i), p_mk (s_pn u i), 1) : sP)
  have hs2 : Mb sp = some (cPn (RA (p_ro (s_pn u i))) (p_sa (s_pn u i)) (p_cp (s_pn u i)) (p_po (s_pn u i)) (p_li (s_pn u i)) (p_mk (s_pn u i)) 1) := by
    rw [hWb]
    exact z_up_s _ _ _
  refine z_iload_n C dX3_hasTrueTwins_25 rfl 0 rfl ?_
  refine z_if_eq C (tgt := 44) dX3_hasTrueTwins_26 (by decide) (fun c26 => absurd c26 (by decide)) (fun _ => ?_)
  refine z_aload_n C dX3_hasTrueTwins_29 rfl 1 rfl ?_
  refine gf_X3_27 C hC2.1 dX3_hasTrueTwins_30 ?_
  refine z_aload_n C dX3_hasTrueTwins_33 rfl 2 rfl ?_
  refine z_callVi (rest := []) (k' := 0) (n' := 0) C (a_X1_tellsAs (z_l X) hC2 hok hi hs2) (cs_X3_242 C (by decide)) hs2 rfl rfl rfl rfl (Nat.le_of_ble_eq_true rfl) rfl rfl (by decide) (by decide) dX3_hasTrueTwins_34 (fun x34 Mq34 hq => ?_)
  obtain ⟨e34, rfl⟩ := hq
  rw [e34]
  refine z_if_eq C (tgt := 44) dX3_hasTrueTwins_37 (by decide) (fun c37 => absurd c37 (by decide)) (fun _ => ?_)
  refine z_iconst C (v := 1) dX3_hasTrueTwins_40 (by decide) ?_
  refine z_goto C (tgt := 45) dX3_hasTrueTwins_41 (by decide) ?_
  refine ret dX3_hasTrueTwins_45 rfl ?_ (by decide) (by decide)
  exact ⟨rfl, hC2⟩
end
section
/-! PART 57: a pane in order, a true remainder -/
theorem a_X1_isInOrder (l : Launch) {G : zG} {u : sS} {x : Nat} {P RA VA : Nat → Nat} {pa sp ln rf sb : Nat} {Mw : zM} (hC : CI G u x P RA VA pa sp ln rf sb Mw) {t : Nat} (hok : s_ok t u) {i : Nat} (hi : i < 6) : z_Mi l G qX1_isInOrder (z_rm 2 0 0) [.ref (P i)] Mw (fun r Mz => r = 1 ∧ Mz = Mw) := by
  obtain ⟨a1, a2, a3, a4, a5, a6, a7⟩ := s_ow hok hi
  obtain ⟨m1, m2⟩ := (hok.2.2.2.2.1 i hi).2.2.1
  have hm : ¬ z_hm (p_mk (s_pn u i)) = 0 → 0 ≤ (p_mk (s_pn u i)).toInt := by
    intro h
    by_cases h1 : p_mk (s_pn u i) = -1
    · exact absurd (by rw [h1]; rfl) h
    · have h2 : ¬ (p_mk (s_pn u i)).toInt = -1 := fun q => h1 (z_eqI.mpr (by rw [q, z_tm1]))
      omega
  refine z_Mi_mono (c_X1_isInOrder l G (CI_P hC hi)) ?_
  intro r Mz h
  rcases h with ⟨c1, c2, hr, he⟩ | ⟨c1, c2, c3, hr, he⟩ | ⟨c1, c2, c3, c4, hr, he⟩ | ⟨c1, c2, c3, c4, c5, hr, he⟩ | ⟨c1, c2, c3, c4, c5, hr, he⟩ | ⟨c1, c2, hr, he⟩ | ⟨c1, c2, c3, c4, hr, he⟩ | ⟨c1, c2, c3, c4, c5, hr, he⟩ | ⟨c1, c2, c3, c4, c5, c6, hr, he⟩ | ⟨c1, c2, c3, c4, c5, c6, c7, hr, he⟩ | ⟨c1, c2, c3, c4, c5, c6, c7, hr, he⟩ | ⟨c1, c2, c3, hr, he⟩ <;> first | exact ⟨hr, he⟩ | exact absurd rfl c5 | exact absurd rfl c7 | (exfalso; simp only [z_le, z_ltI, z_t0] at *; omega) | (exfalso; have h9 := hm c1; simp only [z_le, z_ltI, z_t0] at *; omega)
theorem dX3_hasTrueRemainder_0 : decode cX3_hasTrueRemainder 0 = .ok (.aload_n 0, 1) := by decide +kernel
theorem dX3_hasTrueRemainder_1 : decode cX3_hasTrueRemainder 1 = .ok (.getfield 27, 3) := by decide +kernel
theorem dX3_hasTrueRemainder_4 : decode cX3_hasTrueRemainder 4 = .ok (.aload_n 1, 1) := by decide +kernel
theorem dX3_hasTrueRemainder_5 : decode cX3_hasTrueRemainder 5 = .ok (.aload_n 1, 1) := by decide +kernel
theorem dX3_hasTrueRemainder_6 : decode cX3_hasTrueRemainder 6 = .ok (.getfield 60, 3) := by decide +kernel
theorem dX3_hasTrueRemainder_9 : decode cX3_hasTrueRemainder 9 = .ok (.aload_n 1, 1) := by decide +kernel
theorem dX3_hasTrueRemainder_10 : decode cX3_hasTrueRemainder 10 = .ok (.invokevirtual 74, 3) := by decide +kernel
theorem dX3_hasTrueRemainder_13 : decode cX3_hasTrueRemainder 13 = .ok (.invokevirtual 78, 3) := by decide +kernel
theorem dX3_hasTrueRemainder_16 : decode cX3_hasTrueRemainder 16 = .ok (.aload_n 0, 1) := by decide +kernel
theorem dX3_hasTrueRemainder_17 : decode cX3_hasTrueRemainder 17 = .ok (.getfield 27, 3) := by decide +kernel
theorem dX3_hasTrueRemainder_20 : decode cX3_hasTrueRemainder 20 = .ok (.getfield 63, 3) := by decide +kernel
theorem dX3_hasTrueRemainder_23 : decode cX3_hasTrueRemainder 23 = .ok (.aload_n 1, 1) := by decide +kernel
theorem dX3_hasTrueRemainder_24 : decode cX3_hasTrueRemainder 24 = .ok (.invokevirtual 74, 3) := by decide +kernel
theorem dX3_hasTrueRemainder_27 : decode cX3_hasTrueRemainder 27 = .ok (.if_icmp .eq 5, 3) := by decide +kernel
theorem dX3_hasTrueRemainder_32 : decode cX3_hasTrueRemainder 32 = .ok (.iconst 0, 1) := by decide +kernel
theorem dX3_hasTrueRemainder_33 : decode cX3_hasTrueRemainder 33 = .ok (.istore_n 2, 1) := by decide +kernel
theorem dX3_hasTrueRemainder_34 : decode cX3_hasTrueRemainder 34 = .ok (.iload_n 2, 1) := by decide +kernel
theorem dX3_hasTrueRemainder_35 : decode cX3_hasTrueRemainder 35 = .ok (.aload_n 0, 1) := by decide +kernel
theorem dX3_hasTrueRemainder_36 : decode cX3_hasTrueRemainder 36 = .ok (.getfield 27, 3) := by decide +kernel
theorem dX3_hasTrueRemainder_39 : decode cX3_hasTrueRemainder 39 = .ok (.getfield 63, 3) := by decide +kernel
theorem dX3_hasTrueRemainder_42 : decode cX3_hasTrueRemainder 42 = .ok (.if_icmp .ge 32, 3) := by decide +kernel
theorem dX3_hasTrueRemainder_45 : decode cX3_hasTrueRemainder 45 = .ok (.aload_n 0, 1) := by decide +kernel
theorem dX3_hasTrueRemainder_46 : decode cX3_hasTrueRemainder 46 = .ok (.getfield 27, 3) := by decide +kernel
theorem dX3_hasTrueRemainder_49 : decode cX3_hasTrueRemainder 49 = .ok (.iload_n 2, 1) := by decide +kernel
theorem dX3_hasTrueRemainder_50 : decode cX3_hasTrueRemainder 50 = .ok (.invokevirtual 131, 3) := by decide +kernel
theorem dX3_hasTrueRemainder_53 : decode cX3_hasTrueRemainder 53 = .ok (.aload_n 1, 1) := by decide +kernel
theorem dX3_hasTrueRemainder_54 : decode cX3_hasTrueRemainder 54 = .ok (.aload_n 1, 1) := by decide +kernel
theorem dX3_hasTrueRemainder_55 : decode cX3_hasTrueRemainder 55 = .ok (.getfield 60, 3) := by decide +kernel
theorem dX3_hasTrueRemainder_58 : decode cX3_hasTrueRemainder 58 = .ok (.iload_n 2, 1) := by decide +kernel
theorem dX3_hasTrueRemainder_59 : decode cX3_hasTrueRemainder 59 = .ok (.iadd, 1) := by decide +kernel
theorem dX3_hasTrueRemainder_60 : decode cX3_hasTrueRemainder 60 = .ok (.invokevirtual 131, 3) := by decide +kernel
theorem dX3_hasTrueRemainder_63 : decode cX3_hasTrueRemainder 63 = .ok (.if_icmp .eq 5, 3) := by decide +kernel
theorem dX3_hasTrueRemainder_68 : decode cX3_hasTrueRemainder 68 = .ok (.iinc 2 1, 3) := by decide +kernel
theorem dX3_hasTrueRemainder_71 : decode cX3_hasTrueRemainder 71 = .ok (.goto (-37), 3) := by decide +kernel
theorem dX3_hasTrueRemainder_74 : decode cX3_hasTrueRemainder 74 = .ok (.aload_n 1, 1) := by decide +kernel
theorem dX3_hasTrueRemainder_75 : decode cX3_hasTrueRemainder 75 = .ok (.getfield 89, 3) := by decide +kernel
theorem dX3_hasTrueRemainder_78 : decode cX3_hasTrueRemainder 78 = .ok (.ifCond .ne 22, 3) := by decide +kernel
theorem dX3_hasTrueRemainder_81 : decode cX3_hasTrueRemainder 81 = .ok (.aload_n 0, 1) := by decide +kernel
theorem dX3_hasTrueRemainder_82 : decode cX3_hasTrueRemainder 82 = .ok (.getfield 27, 3) := by decide +kernel
theorem dX3_hasTrueRemainder_85 : decode cX3_hasTrueRemainder 85 = .ok (.getfield 233, 3) := by decide +kernel
theorem dX3_hasTrueRemainder_88 : decode cX3_hasTrueRemainder 88 = .ok (.aload_n 1, 1) := by decide +kernel
theorem dX3_hasTrueRemainder_89 : decode cX3_hasTrueRemainder 89 = .ok (.getfield 233, 3) := by decide +kernel
theorem dX3_hasTrueRemainder_92 : decode cX3_hasTrueRemainder 92 = .ok (.aload_n 1, 1) := by decide +kernel
theorem dX3_hasTrueRemainder_93 : decode cX3_hasTrueRemainder 93 = .ok (.getfield 60, 3) := by decide +kernel
theorem dX3_hasTrueRemainder_96 : decode cX3_hasTrueRemainder 96 = .ok (.iadd, 1) := by decide +kernel
theorem dX3_hasTrueRemainder_97 : decode cX3_hasTrueRemainder 97 = .ok (.if_icmp .ne 7, 3) := by decide +kernel
theorem dX3_hasTrueRemainder_100 : decode cX3_hasTrueRemainder 100 = .ok (.iconst 1, 1) := by decide +kernel
theorem dX3_hasTrueRemainder_101 : decode cX3_hasTrueRemainder 101 = .ok (.goto 4, 3) := by decide +kernel
theorem dX3_hasTrueRemainder_105 : decode cX3_hasTrueRemainder 105 = .ok (.ireturn, 1) := by decide +kernel
set_option maxRecDepth 20000 in
theorem lp_X3_tr {X : zX} (C : z_C X cX3_hasTrueRemainder RX3 3 (z_rm 5 0 0)) {u : sS} {x : Nat} {P RA VA : Nat → Nat} {pa sp ln rf sb t i : Nat} {Mw : zM} (hC : CI (z_G X) u x P RA VA pa sp ln rf sb Mw) (hok : s_ok t u) (hi : i < 6) (hsp : Mw sp = some (cPn (RA (p_ro (s_pn u i))) (p_sa (s_pn u i) + p_po (s_pn u i)) (p_li (s_pn u i) - p_po (s_pn u i)) 0 (p_li (s_pn u i) - p_po (s_pn u i)) (-1) (p_rd (s_pn u i)))) {pq lq cq : Nat} (hpo : p_po (s_pn u i) = nI pq) (hle : (p_li (s_pn u i) - p_po (s_pn u i)) = nI lq) (hcp : p_cp (s_pn u i) = nI cq) (hlc : pq + lq ≤ cq) (h16 : cq ≤ 16) (kk : z_W X Mw 0 0 74 [(0, .ref x), (1, .ref (P i))] []) : ∀ (d jx : Nat), jx + d = lq → z_W X Mw 0 0 34 [(2, .int (nI jx)), (0, .ref x), (1, .ref (P i))] [] := by
  intro d
  induction d with
  | zero =>
    intro jx hd
    refine z_iload_n C dX3_hasTrueRemainder_34 rfl 0 rfl ?_
    refine z_aload_n C dX3_hasTrueRemainder_35 rfl 1 rfl ?_
    refine gf_X3_27 C hC.1 dX3_hasTrueRemainder_36 ?_
    refine gf_X3_63 C hsp dX3_hasTrueRemainder_39 ?_
    refine z_icmp_ge C (tgt := 74) dX3_hasTrueRemainder_42 (by decide) (fun _ => ?_) (fun c42 => absurd (by rw [hle]; exact nI_le (by omega) (by omega)) c42)
    refine z_fewer [1, 2] rfl ?_
    exact kk
  | succ d ih =>
    intro jx hd
    refine z_iload_n C dX3_hasTrueRemainder_34 rfl 0 rfl ?_
    refine z_aload_n C dX3_hasTrueRemainder_35 rfl 1 rfl ?_
    refine gf_X3_27 C hC.1 dX3_hasTrueRemainder_36 ?_
    refine gf_X3_63 C hsp dX3_hasTrueRemainder_39 ?_
    refine z_icmp_ge C (tgt := 74) dX3_hasTrueRemainder_42 (by decide) (fun c42 => absurd c42 (by rw [hle]; exact nI_ge (by omega) (by omega))) (fun _ => ?_)
    refine z_aload_n C dX3_hasTrueRemainder_45 rfl 1 rfl ?_
    refine gf_X3_27 C hC.1 dX3_hasTrueRemainder_46 ?_
    refine z_iload_n C dX3_hasTrueRemainder_49 rfl 0 rfl ?_
    refine z_callVi (rest := []) (k' := 0) (n' := 0) C (c_X1_valueAt (z_l X) (z_G X) hsp (CI_RA hC (s_row hok hi)) (CI_VA hC (s_row hok hi)) (show vp_in ((p_sa (s_pn u i) + p_po (s_pn u i)) + nI jx) _ by rw [Int32.add_assoc, hpo, j_add]; exact s_inJ hok hi hcp (by omega) h16) (s_lnc hok _)) (cs_X3_131 C (by decide)) hsp rfl rfl rfl rfl (Nat.le_of_ble_eq_true rfl) rfl rfl (by decide) (by decide) dX3_hasTrueRemainder_50 (fun x50 Mq50 hq => ?_)
    obtain ⟨e50, rfl⟩ := hq
    rw [e50]
    refine z_aload_n C dX3_hasTrueRemainder_53 rfl 2 rfl ?_
    refine z_aload_n C dX3_hasTrueRemainder_54 rfl 2 rfl ?_
    refine gf_X3_60 C (CI_P hC hi) dX3_hasTrueRemainder_55 ?_
    refine z_iload_n C dX3_hasTrueRemainder_58 rfl 0 rfl ?_
    refine z_iadd C dX3_hasTrueRemainder_59 ?_
    refine z_callVi (rest := [.int (s_vl u (p_ro (s_pn u i)) ((p_sa (s_pn u i) + p_po (s_pn u i)) + nI jx).toNatClampNeg)]) (k' := 0) (n' := 0) C (c_X1_valueAt (z_l X) (z_G X) (CI_P hC hi) (CI_RA hC (s_row hok hi)) (CI_VA hC (s_row hok hi)) (show vp_in (p_sa (s_pn u i) + (p_po (s_pn u i) + nI jx)) _ by rw [hpo, j_add]; exact s_inJ hok hi hcp (by omega) h16) (s_lnc hok _)) (cs_X3_131 C (by decide)) (CI_P hC hi) rfl rfl rfl rfl (Nat.le_of_ble_eq_true rfl) rfl rfl (by decide) (by decide) dX3_hasTrueRemainder_60 (fun x60 Mq60 hq => ?_)
    obtain ⟨e60, rfl⟩ := hq
    rw [e60]
    refine z_icmp_eq C (tgt := 68) dX3_hasTrueRemainder_63 (by decide) (fun _ => ?_) (fun c63 => absurd (by rw [Int32.add_assoc]) c63)
    refine z_iinc (v := nI (jx + 1)) (lv' := [(2, .int (nI (jx + 1))), (0, .ref x), (1, .ref (P i))]) C dX3_hasTrueRemainder_68 0 rfl (nI_1 jx) (by decide) rfl ?_
    refine z_goto C (tgt := 34) dX3_hasTrueRemainder_71 (by decide) ?_
    refine z_fewer [0, 1, 2] rfl ?_
    exact ih (jx + 1) (by omega)
set_option maxRecDepth 20000 in
theorem a_X3_hasTrueRemainder (l : Launch) {G : zG} {u : sS} {x : Nat} {P RA VA : Nat → Nat} {pa sp ln rf sb : Nat} {Mw : zM} (hC : CI G u x P RA VA pa sp ln rf sb Mw) {t : Nat} (hok : s_ok t u) {i : Nat} (hi : i < 6) : z_Mi l G qX3_hasTrueRemainder (z_rm 5 0 0) [.ref x, .ref (P i)] Mw (fun r Mz => r = 1 ∧ CI G u x P RA VA pa sp ln rf sb Mz)  := by
  obtain ⟨o9, p9, hsp⟩ := CI_sp' hC
  obtain ⟨pq, lq, cq, hpo, hli, hcp, g1, g2, h16⟩ := s_pq hok hi
  have hle : (p_li (s_pn u i) - p_po (s_pn u i)) = nI (lq - pq) := by
    rw [hpo, hli, z_eqI, fb_subI (by rw [nI_T (by omega), nI_T (by omega)]; omega) (by rw [nI_T (by omega), nI_T (by omega)]; omega), nI_T (by omega), nI_T (by omega), nI_T (by omega)]
    omega
  refine z_Mi_of _ (plainFor_of_name rfl) rfl (Nat.le_of_ble_eq_true rfl) (fun X hl hG hnm C ret => ?_)
  subst hl; subst hG
  have C : z_C X cX3_hasTrueRemainder RX3 3 (z_rm 5 0 0) := C
  show z_W X Mw 0 0 0 [(0, .ref x), (1, .ref (P i))] []
  refine z_aload_n C dX3_hasTrueRemainder_0 rfl 0 rfl ?_
  refine gf_X3_27 C hC.1 dX3_hasTrueRemainder_1 ?_
  refine z_aload_n C dX3_hasTrueRemainder_4 rfl 1 rfl ?_
  refine z_aload_n C dX3_hasTrueRemainder_5 rfl 1 rfl ?_
  refine gf_X3_60 C (CI_P hC hi) dX3_hasTrueRemainder_6 ?_
  refine z_aload_n C dX3_hasTrueRemainder_9 rfl 1 rfl ?_
  refine z_callVi (rest := [.int (p_po (s_pn u i)), .ref (P i), .ref sp]) (k' := 0) (n' := 0) C (c_X1_left (z_l X) (z_G X) (CI_P hC hi)) (cs_X3_74 C (by decide)) (CI_P hC hi) rfl rfl rfl rfl (Nat.le_of_ble_eq_true rfl) rfl rfl (by decide) (by decide) dX3_hasTrueRemainder_10 (fun x10 M' hq => ?_)
  obtain ⟨rfl, rfl⟩ := hq
  refine z_callVv (rest := []) (k' := 0) (n' := 0) C (c_X1_becomePart (z_l X) (z_G X) hsp (CI_P hC hi) (fun q => hC.2.2.2.2.2.2.2.2.2.2.1 i hi q.symm) (by rcases (hok.2.2.2.2.1 i hi).2.2.2 with h9 | h9 <;> rw [h9] <;> rfl) (by rcases (hok.2.2.2.2.1 i hi).2.2.2 with h9 | h9 <;> rw [h9] <;> rfl)) (cs_X3_78 C (by decide)) hsp rfl rfl rfl rfl (Nat.le_of_ble_eq_true rfl) rfl rfl (by decide) (by decide) dX3_hasTrueRemainder_13 (fun Mq13 hq => ?_)
  have hC1 : CI (z_G X) u x P RA VA pa sp ln rf sb Mq13 := by
    rw [hq]
    exact CI_sp hC (RA (p_ro (s_pn u i))) ((p_ro (s_pn u i), (p_sa (s_pn u i) + p_po (s_pn u i)), (p_li (s_pn u i) - p_po (s_pn u i)), 0, (p_li (s_pn u i) - p_po (s_pn u i)), -1, p_rd (s_pn u i)) : sP)
  have hs1 : Mq13 sp = some (cPn (RA (p_ro (s_pn u i))) (p_sa (s_pn u i) + p_po (s_pn u i)) (p_li (s_pn u i) - p_po (s_pn u i)) 0 (p_li (s_pn u i) - p_po (s_pn u i)) (-1) (p_rd (s_pn u i))) := by
    rw [hq]
    exact z_up_s _ _ _
  refine z_aload_n C dX3_hasTrueRemainder_16 rfl 0 rfl ?_
  refine gf_X3_27 C hC1.1 dX3_hasTrueRemainder_17 ?_
  refine gf_X3_63 C hs1 dX3_hasTrueRemainder_20 ?_
  refine z_aload_n C dX3_hasTrueRemainder_23 rfl 1 rfl ?_
  refine z_callVi (rest := [.int (p_li (s_pn u i) - p_po (s_pn u i))]) (k' := 0) (n' := 0) C (c_X1_left (z_l X) (z_G X) (CI_P hC1 hi)) (cs_X3_74 C (by decide)) (CI_P hC1 hi) rfl rfl rfl rfl (Nat.le_of_ble_eq_true rfl) rfl rfl (by decide) (by decide) dX3_hasTrueRemainder_24 (fun x24 M' hq => ?_)
  obtain ⟨rfl, rfl⟩ := hq
  refine z_icmp_eq C (tgt := 32) dX3_hasTrueRemainder_27 (by decide) (fun _ => ?_) (fun c27 => absurd rfl c27)
  refine z_iconst C (v := 0) dX3_hasTrueRemainder_32 (by decide) ?_
  refine z_istore_n (lv' := [(2, .int 0), (0, .ref x), (1, .ref (P i))]) C dX3_hasTrueRemainder_33 rfl (by decide) rfl ?_
  refine z_at (M' := _) (lv' := [(2, .int (nI 0)), (0, .ref x), (1, .ref (P i))]) rfl (by rw [nI_0]) rfl ?_
  refine lp_X3_tr C hC1 hok hi hs1 hpo hle hcp (by omega) h16 ?_ (lq - pq) 0 (Nat.zero_add _)
  refine z_aload_n C dX3_hasTrueRemainder_74 rfl 1 rfl ?_
  refine gf_X3_89 C (CI_P hC1 hi) dX3_hasTrueRemainder_75 ?_
  refine z_if_ne C (tgt := 100) dX3_hasTrueRemainder_78 (by decide) (fun c78 => ?_) (fun c78 => ?_)
  · refine z_iconst C (v := 1) dX3_hasTrueRemainder_100 (by decide) ?_
    refine z_goto C (tgt := 105) dX3_hasTrueRemainder_101 (by decide) ?_
    refine ret dX3_hasTrueRemainder_105 rfl ?_ (by decide) (by decide)
    exact ⟨rfl, hC1⟩
  · refine z_aload_n C dX3_hasTrueRemainder_81 rfl 0 rfl ?_
    refine gf_X3_27 C hC1.1 dX3_hasTrueRemainder_82 ?_
    refine gf_X3_233 C hs1 dX3_hasTrueRemainder_85 ?_
    refine z_aload_n C dX3_hasTrueRemainder_88 rfl 1 rfl ?_
    refine gf_X3_233 C (CI_P hC1 hi) dX3_hasTrueRemainder_89 ?_
    refine z_aload_n C dX3_hasTrueRemainder_92 rfl 1 rfl ?_
    refine gf_X3_60 C (CI_P hC1 hi) dX3_hasTrueRemainder_93 ?_
    refine z_iadd C dX3_hasTrueRemainder_96 ?_
    refine z_icmp_ne C (tgt := 104) dX3_hasTrueRemainder_97 (by decide) (fun c97 => absurd rfl c97) (fun _ => ?_)
    refine z_iconst C (v := 1) dX3_hasTrueRemainder_100 (by decide) ?_
    refine z_goto C (tgt := 105) dX3_hasTrueRemainder_101 (by decide) ?_
    refine ret dX3_hasTrueRemainder_105 rfl ?_ (by decide) (by decide)
    exact ⟨rfl, hC1⟩
end
