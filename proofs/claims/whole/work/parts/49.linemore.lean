/-! PART 49: a whole pane, a total, the text itself -/
theorem z_cN {x : Int32} (h0 : 0 ≤ x.toInt) : x = nI x.toNatClampNeg ∧ (x.toNatClampNeg : Int) = x.toInt := by
  have h1 := fb_rng x
  have h2 : ((x.toNatClampNeg : Nat) : Int) = x.toInt := z_cl (z_le.mpr (by rw [z_t0]; exact h0))
  exact ⟨z_eqI.mpr (by rw [nI_toInt (by omega), h2]), h2⟩
theorem s_pq {t : Nat} {u : sS} (hok : s_ok t u) {i : Nat} (hi : i < 6) : ∃ po li cp : Nat, p_po (s_pn u i) = nI po ∧ p_li (s_pn u i) = nI li ∧ p_cp (s_pn u i) = nI cp ∧ po ≤ li ∧ li ≤ cp ∧ cp ≤ 16 := by
  obtain ⟨a1, a2, a3, a4, a5, a6, a7⟩ := s_ow hok hi
  have h1 := z_cN a2
  have h2 := z_cN (x := p_li (s_pn u i)) (by omega)
  have h3 := z_cN (x := p_cp (s_pn u i)) (by omega)
  exact ⟨_, _, _, h1.1, h2.1, h3.1, by omega, by omega, by omega⟩
theorem s_inJ {t : Nat} {u : sS} (hok : s_ok t u) {i : Nat} (hi : i < 6) {cp j : Nat} (hcp : p_cp (s_pn u i) = nI cp) (hj : j < cp) (h16 : cp ≤ 16) : vp_in (p_sa (s_pn u i) + nI j) (s_ln u (p_ro (s_pn u i))) :=
  z_owI (s_ow hok hi) (by rw [nI_T (by omega)]; omega) (by rw [hcp, nI_T (by omega), nI_T (by omega)]; omega)
theorem j_two9 {Mw : zM} {q0 q9 : Nat} {e e' : va_E} (h0 : Mw q0 = none) (h9 : z_up (z_up Mw q0 e) q0 e q9 = none) : Mw q9 = none ∧ z_up Mw q9 e' q0 = none := by
  have hne : q9 ≠ q0 := by
    intro q
    rw [q, z_up_s] at h9
    cases h9
  rw [z_up_n _ _ hne, z_up_n _ _ hne] at h9
  exact ⟨h9, by rw [z_up_n _ _ hne.symm]; exact h0⟩
/-- a String that was made -/
def j_St (G : zG) (r : Nat) (Mz : zM) (ls : List Int32) : Prop := ∃ (q cc : Nat) (f : Nat → Int32), Mz r = some (cSt q 0 0 0) ∧ Mz q = some (aB G cc f) ∧ sb_Fit f ∧ cc ≤ 280 ∧ ls.length = cc ∧ ∀ k, k < cc → f k = ls.getD k 0
theorem j_St_eq {G : zG} {r : Nat} {Mz : zM} {l l' : List Int32} (h : j_St G r Mz l) (e : l = l') : j_St G r Mz l' := e ▸ h
theorem j_St_up {G : zG} {r : Nat} {A B : zM} {ls : List Int32} (h : j_St G r A ls) (hs : ∀ a e, A a = some e → B a = some e) : j_St G r B ls := by
  obtain ⟨q, cc, f, h1, h2, h3⟩ := h
  exact ⟨q, cc, f, hs _ _ h1, hs _ _ h2, h3⟩
theorem c_equals (l : Launch) (G : zG) {Mw : zM} {sx sy : Nat} {ls : List Int32} (hS : j_St G sx Mw ls) (hT : j_St G sy Mw ls) : z_Mi l G qJ0_equals_9ea2d (z_rm 3 0 0) [.ref sx, .ref sy] Mw (fun r Mz => r = 1 ∧ Mz = Mw) := by
  obtain ⟨q, cc, f, h1, h2, h3, h4, h5, h6⟩ := hS
  obtain ⟨q', cc', f', g1, g2, g3, g4, g5, g6⟩ := hT
  have e : cc' = cc := by omega
  subst e
  exact a_J0_equals_9ea2d l h1 g1 h2 g2 (by omega) (fun k hk => (h6 k hk).trans (g6 k hk).symm)
theorem j_toStr (l : Launch) {G : zG} {u : sS} {x : Nat} {P RA VA : Nat → Nat} {pa sp ln rf sb : Nat} {Mw : zM} (hC : CI G u x P RA VA pa sp ln rf sb Mw) {vb c n : Nat} (hB : j_B G Mw sb vb c n) {ls : List Int32} (hL : j_L Mw vb c ls) (hc : c ≤ 280) : z_Mr l G qJ4_toString_0e30d (z_rm 6 2 (4 + c)) [.ref sb] Mw (fun r Mz => CI G u x P RA VA pa sp ln rf sb Mz ∧ j_St G r Mz ls) := by
  obtain ⟨ml, f, h1, h2, hf, g1, g2, g3⟩ := hB
  obtain ⟨hl1, hl2⟩ := j_L_f h2 hL
  refine z_Mr_mono (c_J4_toString_0e30d l G h1 h2 g1 (by omega) hf) ?_
  rintro r Mz ⟨f9, q0, hq0, q9, hq9, hf9, hg9, hr9, rfl⟩
  have hne : q9 ≠ q0 := by
    intro q
    rw [q, z_up_s] at hq9
    cases hq9
  refine ⟨CI_junk (CI_junk hC (j_two9 (e' := aB G c f9) hq0 hq9).1) (j_two9 hq0 hq9).2, ?_⟩
  rw [hr9]
  exact ⟨q9, c, f9, z_up_s _ _ _, by rw [z_up_n _ _ hne, z_up_s], hf9, hc, hl1, fun k hk => (hg9 k hk).trans (hl2 k hk)⟩
theorem dX0_beginWhole_0 : decode cX0_beginWhole 0 = .ok (.aload_n 0, 1) := by decide +kernel
theorem dX0_beginWhole_1 : decode cX0_beginWhole 1 = .ok (.getfield 10, 3) := by decide +kernel
theorem dX0_beginWhole_4 : decode cX0_beginWhole 4 = .ok (.iconst 0, 1) := by decide +kernel
theorem dX0_beginWhole_5 : decode cX0_beginWhole 5 = .ok (.invokevirtual 20, 3) := by decide +kernel
theorem dX0_beginWhole_8 : decode cX0_beginWhole 8 = .ok (.iconst 0, 1) := by decide +kernel
theorem dX0_beginWhole_9 : decode cX0_beginWhole 9 = .ok (.istore_n 2, 1) := by decide +kernel
theorem dX0_beginWhole_10 : decode cX0_beginWhole 10 = .ok (.iload_n 2, 1) := by decide +kernel
theorem dX0_beginWhole_11 : decode cX0_beginWhole 11 = .ok (.aload_n 1, 1) := by decide +kernel
theorem dX0_beginWhole_12 : decode cX0_beginWhole 12 = .ok (.getfield 45, 3) := by decide +kernel
theorem dX0_beginWhole_15 : decode cX0_beginWhole 15 = .ok (.if_icmp .ge 35, 3) := by decide +kernel
theorem dX0_beginWhole_18 : decode cX0_beginWhole 18 = .ok (.aload_n 0, 1) := by decide +kernel
theorem dX0_beginWhole_19 : decode cX0_beginWhole 19 = .ok (.aload_n 1, 1) := by decide +kernel
theorem dX0_beginWhole_20 : decode cX0_beginWhole 20 = .ok (.iload_n 2, 1) := by decide +kernel
theorem dX0_beginWhole_21 : decode cX0_beginWhole 21 = .ok (.invokevirtual 48, 3) := by decide +kernel
theorem dX0_beginWhole_24 : decode cX0_beginWhole 24 = .ok (.aload_n 0, 1) := by decide +kernel
theorem dX0_beginWhole_25 : decode cX0_beginWhole 25 = .ok (.aload_n 1, 1) := by decide +kernel
theorem dX0_beginWhole_26 : decode cX0_beginWhole 26 = .ok (.iload_n 2, 1) := by decide +kernel
theorem dX0_beginWhole_27 : decode cX0_beginWhole 27 = .ok (.invokevirtual 33, 3) := by decide +kernel
theorem dX0_beginWhole_30 : decode cX0_beginWhole 30 = .ok (.i2l, 1) := by decide +kernel
theorem dX0_beginWhole_31 : decode cX0_beginWhole 31 = .ok (.invokevirtual 37, 3) := by decide +kernel
theorem dX0_beginWhole_34 : decode cX0_beginWhole 34 = .ok (.aload_n 0, 1) := by decide +kernel
theorem dX0_beginWhole_35 : decode cX0_beginWhole 35 = .ok (.getfield 10, 3) := by decide +kernel
theorem dX0_beginWhole_38 : decode cX0_beginWhole 38 = .ok (.bipush 32, 2) := by decide +kernel
theorem dX0_beginWhole_40 : decode cX0_beginWhole 40 = .ok (.invokevirtual 41, 3) := by decide +kernel
theorem dX0_beginWhole_43 : decode cX0_beginWhole 43 = .ok (.pop, 1) := by decide +kernel
theorem dX0_beginWhole_44 : decode cX0_beginWhole 44 = .ok (.iinc 2 1, 3) := by decide +kernel
theorem dX0_beginWhole_47 : decode cX0_beginWhole 47 = .ok (.goto (-37), 3) := by decide +kernel
theorem dX0_beginWhole_50 : decode cX0_beginWhole 50 = .ok (.aload_n 0, 1) := by decide +kernel
theorem dX0_beginWhole_51 : decode cX0_beginWhole 51 = .ok (.aload_n 1, 1) := by decide +kernel
theorem dX0_beginWhole_52 : decode cX0_beginWhole 52 = .ok (.aload_n 1, 1) := by decide +kernel
theorem dX0_beginWhole_53 : decode cX0_beginWhole 53 = .ok (.getfield 45, 3) := by decide +kernel
theorem dX0_beginWhole_56 : decode cX0_beginWhole 56 = .ok (.invokevirtual 48, 3) := by decide +kernel
theorem dX0_beginWhole_59 : decode cX0_beginWhole 59 = .ok (.return_, 1) := by decide +kernel
theorem dX0_beginTotal_0 : decode cX0_beginTotal 0 = .ok (.aload_n 0, 1) := by decide +kernel
theorem dX0_beginTotal_1 : decode cX0_beginTotal 1 = .ok (.getfield 10, 3) := by decide +kernel
theorem dX0_beginTotal_4 : decode cX0_beginTotal 4 = .ok (.iconst 0, 1) := by decide +kernel
theorem dX0_beginTotal_5 : decode cX0_beginTotal 5 = .ok (.invokevirtual 20, 3) := by decide +kernel
theorem dX0_beginTotal_8 : decode cX0_beginTotal 8 = .ok (.lconst 0, 1) := by decide +kernel
theorem dX0_beginTotal_9 : decode cX0_beginTotal 9 = .ok (.lstore_n 2, 1) := by decide +kernel
theorem dX0_beginTotal_10 : decode cX0_beginTotal 10 = .ok (.aload_n 1, 1) := by decide +kernel
theorem dX0_beginTotal_11 : decode cX0_beginTotal 11 = .ok (.getfield 24, 3) := by decide +kernel
theorem dX0_beginTotal_14 : decode cX0_beginTotal 14 = .ok (.istore 4, 2) := by decide +kernel
theorem dX0_beginTotal_16 : decode cX0_beginTotal 16 = .ok (.iload 4, 2) := by decide +kernel
theorem dX0_beginTotal_18 : decode cX0_beginTotal 18 = .ok (.aload_n 1, 1) := by decide +kernel
theorem dX0_beginTotal_19 : decode cX0_beginTotal 19 = .ok (.getfield 30, 3) := by decide +kernel
theorem dX0_beginTotal_22 : decode cX0_beginTotal 22 = .ok (.if_icmp .ge 19, 3) := by decide +kernel
theorem dX0_beginTotal_25 : decode cX0_beginTotal 25 = .ok (.lload_n 2, 1) := by decide +kernel
theorem dX0_beginTotal_26 : decode cX0_beginTotal 26 = .ok (.aload_n 1, 1) := by decide +kernel
theorem dX0_beginTotal_27 : decode cX0_beginTotal 27 = .ok (.iload 4, 2) := by decide +kernel
theorem dX0_beginTotal_29 : decode cX0_beginTotal 29 = .ok (.invokevirtual 33, 3) := by decide +kernel
theorem dX0_beginTotal_32 : decode cX0_beginTotal 32 = .ok (.i2l, 1) := by decide +kernel
theorem dX0_beginTotal_33 : decode cX0_beginTotal 33 = .ok (.ladd, 1) := by decide +kernel
theorem dX0_beginTotal_34 : decode cX0_beginTotal 34 = .ok (.lstore_n 2, 1) := by decide +kernel
theorem dX0_beginTotal_35 : decode cX0_beginTotal 35 = .ok (.iinc 4 1, 3) := by decide +kernel
theorem dX0_beginTotal_38 : decode cX0_beginTotal 38 = .ok (.goto (-22), 3) := by decide +kernel
theorem dX0_beginTotal_41 : decode cX0_beginTotal 41 = .ok (.aload_n 0, 1) := by decide +kernel
theorem dX0_beginTotal_42 : decode cX0_beginTotal 42 = .ok (.lload_n 2, 1) := by decide +kernel
theorem dX0_beginTotal_43 : decode cX0_beginTotal 43 = .ok (.invokevirtual 37, 3) := by decide +kernel
theorem dX0_beginTotal_46 : decode cX0_beginTotal 46 = .ok (.return_, 1) := by decide +kernel
theorem dX0_written_0 : decode cX0_written 0 = .ok (.aload_n 0, 1) := by decide +kernel
theorem dX0_written_1 : decode cX0_written 1 = .ok (.getfield 10, 3) := by decide +kernel
theorem dX0_written_4 : decode cX0_written 4 = .ok (.invokevirtual 16, 3) := by decide +kernel
theorem dX0_written_7 : decode cX0_written 7 = .ok (.areturn, 1) := by decide +kernel
set_option maxRecDepth 20000 in
theorem lp_X0_bw {X : zX} (C : z_C X cX0_beginWhole RX0 3 (z_rm 10 36 1168)) {u : sS} {x : Nat} {P RA VA : Nat → Nat} {pa sp ln rf sb t : Nat} (hok : s_ok t u) {i cq n0 : Nat} (hi : i < 6) (hcp : p_cp (s_pn u i) = nI cq) (h16 : cq ≤ 16) (hn16 : 16 ≤ n0) (kk : ∀ c n vb Mz, c ≤ 240 → n0 ≤ n → CI (z_G X) u x P RA VA pa sp ln rf sb Mz → j_B (z_G X) Mz sb vb c n → j_L Mz vb c (t_wh (s_pn u i) (t_gv u i) cq) → z_W X Mz (0 + (n - n0) / 16) (0 + 2 * (n - n0)) 50 [(0, .ref ln), (1, .ref (P i))] []) : ∀ (d jx c n vb : Nat) (Mw : zM), jx + d = cq → c ≤ 15 * jx → CI (z_G X) u x P RA VA pa sp ln rf sb Mw → j_B (z_G X) Mw sb vb c n → n0 ≤ n → j_L Mw vb c (t_wh (s_pn u i) (t_gv u i) jx) → z_W X Mw (0 + (n - n0) / 16) (0 + 2 * (n - n0)) 10 [(2, .int (nI jx)), (0, .ref ln), (1, .ref (P i))] [] := by
  intro d
  induction d with
  | zero =>
    intro jx c n vb Mw hd hc9 hC hB hn0 hL
    have hb0 := j_B_c hB
    refine z_iload_n C dX0_beginWhole_10 rfl 0 rfl ?_
    refine z_aload_n C dX0_beginWhole_11 rfl 2 rfl ?_
    refine gf_X0_45 C (CI_P hC hi) dX0_beginWhole_12 ?_
    refine z_icmp_ge C (tgt := 50) dX0_beginWhole_15 (by decide) (fun _ => ?_) (fun c15 => absurd (by rw [hcp]; exact nI_le (by omega) (by omega)) c15)
    refine z_fewer [1, 2] rfl ?_
    exact kk _ _ _ _ (by omega) (by omega) hC hB (by rw [show cq = jx by omega]; exact hL)
  | succ d ih =>
    intro jx c n vb Mw hd hc9 hC hB hn0 hL
    have hb0 := j_B_c hB
    refine z_iload_n C dX0_beginWhole_10 rfl 0 rfl ?_
    refine z_aload_n C dX0_beginWhole_11 rfl 2 rfl ?_
    refine gf_X0_45 C (CI_P hC hi) dX0_beginWhole_12 ?_
    refine z_icmp_ge C (tgt := 50) dX0_beginWhole_15 (by decide) (fun c15 => absurd c15 (by rw [hcp]; exact nI_ge (by omega) (by omega))) (fun _ => ?_)
    refine z_aload_n C dX0_beginWhole_18 rfl 1 rfl ?_
    refine z_aload_n C dX0_beginWhole_19 rfl 2 rfl ?_
    refine z_iload_n C dX0_beginWhole_20 rfl 0 rfl ?_
    have hd21 := j_sg_in (s_pn u i) (nI jx)
    have hb21 := j_B_c hB
    have hg21 := j_cap_ge n (c + (j_sg (s_pn u i) (nI jx)))
    have hl21 : (j_cap n (c + (j_sg (s_pn u i) (nI jx)))) ≤ 600 := j_cap_le hb21.2.2 (by omega)
    refine z_callVv (rest := []) (k' := 0 + (n - n0) / 16 + (((j_cap n (c + (j_sg (s_pn u i) (nI jx)))) - n) / 16)) (n' := 0 + 2 * (n - n0) + (2 * ((j_cap n (c + (j_sg (s_pn u i) (nI jx)))) - n))) C (a_X0_addSigns (z_l X) hC hok hB hL hi (ix := (nI jx)) (by omega)) (cs_X0_48 C ⟨Nat.le_of_ble_eq_true rfl, Nat.le_of_ble_eq_true rfl⟩) (CI_ln hC) rfl rfl rfl rfl (Nat.le_of_ble_eq_true rfl) rfl rfl (by show _ ≤ 36; omega) (by show _ ≤ 1168; omega) dX0_beginWhole_21 (fun Mq21 hq => ?_)
    obtain ⟨hC21, vc21, hB21, hL21⟩ := hq
    refine z_widen (k' := 0 + ((j_cap n (c + (j_sg (s_pn u i) (nI jx)))) - n0) / 16) (n' := 0 + 2 * ((j_cap n (c + (j_sg (s_pn u i) (nI jx)))) - n0)) (by omega) (by omega) ?_
    refine z_aload_n C dX0_beginWhole_24 rfl 1 rfl ?_
    refine z_aload_n C dX0_beginWhole_25 rfl 2 rfl ?_
    refine z_iload_n C dX0_beginWhole_26 rfl 0 rfl ?_
    refine z_callVi (rest := [.ref ln]) (k' := 0 + ((j_cap n (c + (j_sg (s_pn u i) (nI jx)))) - n0) / 16) (n' := 0 + 2 * ((j_cap n (c + (j_sg (s_pn u i) (nI jx)))) - n0)) C (a_X1_valueAt (z_l X) hC21 hok hi (s_inJ hok hi hcp (by omega) h16)) (cs_X0_33 C ⟨Nat.le_of_ble_eq_true rfl, Nat.le_of_ble_eq_true rfl⟩) (CI_P hC21 hi) rfl rfl rfl rfl (Nat.le_of_ble_eq_true rfl) rfl rfl (by show _ ≤ 36; omega) (by show _ ≤ 1168; omega) dX0_beginWhole_27 (fun x27 Mq27 hq => ?_)
    obtain ⟨e27, rfl⟩ := hq
    rw [e27]
    refine z_i2l C dX0_beginWhole_30 ?_
    rw [show (((s_val u (s_pn u i) (nI jx)).toInt64) : Int64) = (lN (s_val u (s_pn u i) (nI jx)).toNatClampNeg) from (j_i2l (hok.2.2.2.2.2 _ _))]
    have hd31 := j_nd_in ((s_val u (s_pn u i) (nI jx)).toNatClampNeg) 10
    have hb31 := j_B_c hB21
    have hg31 := j_cap_ge (j_cap n (c + (j_sg (s_pn u i) (nI jx)))) ((c + (j_sg (s_pn u i) (nI jx))) + j_nd ((s_val u (s_pn u i) (nI jx)).toNatClampNeg) 10)
    have hl31 : (j_cap (j_cap n (c + (j_sg (s_pn u i) (nI jx)))) ((c + (j_sg (s_pn u i) (nI jx))) + j_nd ((s_val u (s_pn u i) (nI jx)).toNatClampNeg) 10)) ≤ 600 := j_cap_le hb31.2.2 (by omega)
    refine z_callVv (rest := []) (k' := 0 + ((j_cap n (c + (j_sg (s_pn u i) (nI jx)))) - n0) / 16 + (((j_cap (j_cap n (c + (j_sg (s_pn u i) (nI jx)))) ((c + (j_sg (s_pn u i) (nI jx))) + j_nd ((s_val u (s_pn u i) (nI jx)).toNatClampNeg) 10)) - (j_cap n (c + (j_sg (s_pn u i) (nI jx))))) / 16)) (n' := 0 + 2 * ((j_cap n (c + (j_sg (s_pn u i) (nI jx)))) - n0) + (2 * ((j_cap (j_cap n (c + (j_sg (s_pn u i) (nI jx)))) ((c + (j_sg (s_pn u i) (nI jx))) + j_nd ((s_val u (s_pn u i) (nI jx)).toNatClampNeg) 10)) - (j_cap n (c + (j_sg (s_pn u i) (nI jx))))))) C (a_X0_addNumber (z_l X) hC21 hok hB21 hL21 (CI_P hC21 hi) (j_v35 _) (by omega)) (cs_X0_37 C ⟨Nat.le_of_ble_eq_true rfl, Nat.le_of_ble_eq_true rfl⟩) (CI_ln hC21) rfl rfl rfl rfl (Nat.le_of_ble_eq_true rfl) rfl rfl (by show _ ≤ 36; omega) (by show _ ≤ 1168; omega) dX0_beginWhole_31 (fun Mq31 hq => ?_)
    obtain ⟨hC31, hp31, vc31, hB31, hL31⟩ := hq
    refine z_widen (k' := 0 + ((j_cap (j_cap n (c + (j_sg (s_pn u i) (nI jx)))) ((c + (j_sg (s_pn u i) (nI jx))) + j_nd ((s_val u (s_pn u i) (nI jx)).toNatClampNeg) 10)) - n0) / 16) (n' := 0 + 2 * ((j_cap (j_cap n (c + (j_sg (s_pn u i) (nI jx)))) ((c + (j_sg (s_pn u i) (nI jx))) + j_nd ((s_val u (s_pn u i) (nI jx)).toNatClampNeg) 10)) - n0)) (by omega) (by omega) ?_
    refine z_aload_n C dX0_beginWhole_34 rfl 1 rfl ?_
    refine gf_X0_10 C (CI_ln hC31) dX0_beginWhole_35 ?_
    refine z_bipush C (v := 32) dX0_beginWhole_38 (by decide) ?_
    have hm1 := j_B_c hB31
    have hl8 := j_cap_le (n := (j_cap (j_cap n (c + (j_sg (s_pn u i) (nI jx)))) ((c + (j_sg (s_pn u i) (nI jx))) + j_nd ((s_val u (s_pn u i) (nI jx)).toNatClampNeg) 10))) (q := ((c + (j_sg (s_pn u i) (nI jx))) + j_nd ((s_val u (s_pn u i) (nI jx)).toNatClampNeg) 10) + 1) (j_B_c hB31).2.2 (by omega)
    refine j_site (q := qJ4_append_cf468) (c := ((c + (j_sg (s_pn u i) (nI jx))) + j_nd ((s_val u (s_pn u i) (nI jx)).toNatClampNeg) 10)) (n := (j_cap (j_cap n (c + (j_sg (s_pn u i) (nI jx)))) ((c + (j_sg (s_pn u i) (nI jx))) + j_nd ((s_val u (s_pn u i) (nI jx)).toNatClampNeg) 10))) (w := 1) (F := 3) (k0 := 0) (s0 := 0) (n0 := n0) (rest := []) (wl := [32]) C hB31 hL31 rfl (fun h9 => cs_X0_41 C h9) ⟨Nat.le_of_ble_eq_true rfl, Nat.le_of_ble_eq_true rfl⟩ (Nat.le_of_ble_eq_true rfl) (Nat.le_of_ble_eq_true rfl) (fun h9 => j_C_fit (x := 32) hB31 (by decide) (by decide) h9) (fun h9 => j_C_grow (x := 32) hB31 (by decide) (by decide) (by omega) h9) rfl rfl (Nat.le_of_ble_eq_true rfl) (by omega) (by show _ ≤ 36; omega) (by show _ ≤ 1168; omega) dX0_beginWhole_40 (fun vc1 Mc1 hB1 hF1 hL1 => ?_)
    have hC1 := CI_fr hC31 hB31 hB1 hF1
    have hn1 := j_cap_ge ((j_cap (j_cap n (c + (j_sg (s_pn u i) (nI jx)))) ((c + (j_sg (s_pn u i) (nI jx))) + j_nd ((s_val u (s_pn u i) (nI jx)).toNatClampNeg) 10))) (((c + (j_sg (s_pn u i) (nI jx))) + j_nd ((s_val u (s_pn u i) (nI jx)).toNatClampNeg) 10) + 1)
    have hp1 := j_keepP hB31 hF1 hp31
    refine z_pop C dX0_beginWhole_43 rfl ?_
    refine z_iinc (v := nI (jx + 1)) (lv' := [(2, .int (nI (jx + 1))), (0, .ref ln), (1, .ref (P i))]) C dX0_beginWhole_44 0 rfl (nI_1 jx) (by decide) rfl ?_
    refine z_goto C (tgt := 10) dX0_beginWhole_47 (by decide) ?_
    refine z_fewer [0, 1, 2] rfl ?_
    exact ih (jx + 1) _ _ _ _ (by omega) (by omega) hC1 hB1 (by omega) (j_L_eq hL1 (t_wh_s (g := t_gv u i)))
set_option maxRecDepth 20000 in
theorem a_X0_beginWhole (l : Launch) {G : zG} {u : sS} {x : Nat} {P RA VA : Nat → Nat} {pa sp ln rf sb : Nat} {Mw : zM} (hC : CI G u x P RA VA pa sp ln rf sb Mw) {t : Nat} (hok : s_ok t u) {vb c n : Nat} (hB : j_B G Mw sb vb c n) {i : Nat} (hi : i < 6) : z_Mv l G qX0_beginWhole (z_rm 10 36 1168) [.ref ln, .ref (P i)] Mw (fun Mz => CI G u x P RA VA pa sp ln rf sb Mz ∧ ∃ vb' c' n', c' ≤ 243 ∧ j_B G Mz sb vb' c' n' ∧ j_L Mz vb' c' (t_whole u i))  := by
  obtain ⟨ml0, hsb0⟩ := j_sbE hB
  have hbn := j_B_c hB
  obtain ⟨pq, lq, cq, hpo, hli, hcp, g1, g2, h16⟩ := s_pq hok hi
  refine z_Mv_of _ (plainFor_of_name rfl) rfl (Nat.le_of_ble_eq_true rfl) (fun X hl hG hnm C ret => ?_)
  subst hl; subst hG
  have C : z_C X cX0_beginWhole RX0 3 (z_rm 10 36 1168) := C
  show z_W X Mw 0 0 0 [(0, .ref ln), (1, .ref (P i))] []
  refine z_aload_n C dX0_beginWhole_0 rfl 0 rfl ?_
  refine gf_X0_10 C (CI_ln hC) dX0_beginWhole_1 ?_
  refine z_iconst C (v := 0) dX0_beginWhole_4 (by decide) ?_
  refine z_callVv (rest := []) (k' := 0) (n' := 0) C (j_set0 (l := z_l X) hB) (cs_X0_20 C ⟨Nat.le_of_ble_eq_true rfl, Nat.le_of_ble_eq_true rfl⟩) hsb0 rfl rfl rfl rfl (Nat.le_of_ble_eq_true rfl) rfl rfl (by decide) (by decide) dX0_beginWhole_5 (fun Mq5 hq => ?_)
  obtain ⟨hB0, hF0⟩ := hq
  have hC0 := CI_fr hC hB hB0 hF0
  have hL0 := j_L0 hB0
  refine z_iconst C (v := 0) dX0_beginWhole_8 (by decide) ?_
  refine z_istore_n (lv' := [(2, .int 0), (0, .ref ln), (1, .ref (P i))]) C dX0_beginWhole_9 rfl (by decide) rfl ?_
  refine z_at (M' := _) (lv' := [(2, .int (nI 0)), (0, .ref ln), (1, .ref (P i))]) rfl (by rw [nI_0]) rfl ?_
  refine z_kn (k' := 0 + (n - n) / 16) (n' := 0 + 2 * (n - n)) (by simp) (by simp) ?_
  refine lp_X0_bw C hok hi hcp h16 hbn.2.1 (fun c1 n1 vb1 Mz hc1 hn1 h1 h2 h3 => ?_) cq 0 0 n vb _ (Nat.zero_add _) (by omega) hC0 hB0 (Nat.le_refl _) (j_L_eq hL0 rfl)
  refine z_aload_n C dX0_beginWhole_50 rfl 0 rfl ?_
  refine z_aload_n C dX0_beginWhole_51 rfl 1 rfl ?_
  refine z_aload_n C dX0_beginWhole_52 rfl 1 rfl ?_
  refine gf_X0_45 C (CI_P h1 hi) dX0_beginWhole_53 ?_
  have hd56 := j_sg_in (s_pn u i) (p_cp (s_pn u i))
  have hb56 := j_B_c h2
  have hg56 := j_cap_ge n1 (c1 + (j_sg (s_pn u i) (p_cp (s_pn u i))))
  have hl56 : (j_cap n1 (c1 + (j_sg (s_pn u i) (p_cp (s_pn u i))))) ≤ 600 := j_cap_le hb56.2.2 (by omega)
  refine z_callVv (rest := []) (k' := 0 + (n1 - n) / 16 + (((j_cap n1 (c1 + (j_sg (s_pn u i) (p_cp (s_pn u i))))) - n1) / 16)) (n' := 0 + 2 * (n1 - n) + (2 * ((j_cap n1 (c1 + (j_sg (s_pn u i) (p_cp (s_pn u i))))) - n1))) C (a_X0_addSigns (z_l X) h1 hok h2 h3 hi (ix := (p_cp (s_pn u i))) (by omega)) (cs_X0_48 C ⟨Nat.le_of_ble_eq_true rfl, Nat.le_of_ble_eq_true rfl⟩) (CI_ln h1) rfl rfl rfl rfl (Nat.le_of_ble_eq_true rfl) rfl rfl (by show _ ≤ 36; omega) (by show _ ≤ 1168; omega) dX0_beginWhole_56 (fun Mq56 hq => ?_)
  obtain ⟨hC56, vc56, hB56, hL56⟩ := hq
  refine z_widen (k' := 0 + ((j_cap n1 (c1 + (j_sg (s_pn u i) (p_cp (s_pn u i))))) - n) / 16) (n' := 0 + 2 * ((j_cap n1 (c1 + (j_sg (s_pn u i) (p_cp (s_pn u i))))) - n)) (by omega) (by omega) ?_
  refine ret dX0_beginWhole_59 ?_ (by show _ ≤ 36; omega) (by show _ ≤ 1168; omega)
  exact ⟨hC56, _, _, _, (by omega), hB56, j_L_eq hL56 (t_whole_eq hcp h16)⟩
set_option maxRecDepth 20000 in
theorem lp_X0_bt {X : zX} (C : z_C X cX0_beginTotal RX0 5 (z_rm 10 36 1168)) {u : sS} {x : Nat} {P RA VA : Nat → Nat} {pa sp ln rf sb t : Nat} {Mw : zM} (hC : CI (z_G X) u x P RA VA pa sp ln rf sb Mw) (hok : s_ok t u) {i cq pq lq : Nat} (hi : i < 6) (hcp : p_cp (s_pn u i) = nI cq) (h16 : cq ≤ 16) (hli : p_li (s_pn u i) = nI lq) (hlc : lq ≤ cq) (kk : ∀ S, S ≤ 34359738352 → S = t_su (t_gv u i) pq (lq - pq) → z_W X Mw 0 0 41 [(2, .long (lN S)), (0, .ref ln), (1, .ref (P i))] []) : ∀ (d jx S : Nat), jx + d = lq → pq ≤ jx → S ≤ (jx - pq) * 2147483647 → S = t_su (t_gv u i) pq (jx - pq) → z_W X Mw 0 0 16 [(2, .long (lN S)), (4, .int (nI jx)), (0, .ref ln), (1, .ref (P i))] [] := by
  intro d
  induction d with
  | zero =>
    intro jx S hd hj hS hq9
    refine z_iload C dX0_beginTotal_16 1 rfl ?_
    refine z_aload_n C dX0_beginTotal_18 rfl 3 rfl ?_
    refine gf_X0_30 C (CI_P hC hi) dX0_beginTotal_19 ?_
    refine z_icmp_ge C (tgt := 41) dX0_beginTotal_22 (by decide) (fun _ => ?_) (fun c22 => absurd (by rw [hli]; exact nI_le (by omega) (by omega)) c22)
    refine z_fewer [0, 2, 3] rfl ?_
    have hx9 : jx - pq ≤ 16 := by omega
    exact kk S (Nat.le_trans hS (Nat.le_trans (Nat.mul_le_mul_right _ hx9) (Nat.le_of_ble_eq_true rfl))) (by rw [show lq = jx by omega]; exact hq9)
  | succ d ih =>
    intro jx S hd hj hS hq9
    refine z_iload C dX0_beginTotal_16 1 rfl ?_
    refine z_aload_n C dX0_beginTotal_18 rfl 3 rfl ?_
    refine gf_X0_30 C (CI_P hC hi) dX0_beginTotal_19 ?_
    refine z_icmp_ge C (tgt := 41) dX0_beginTotal_22 (by decide) (fun c22 => absurd c22 (by rw [hli]; exact nI_ge (by omega) (by omega))) (fun _ => ?_)
    refine z_lload_n C dX0_beginTotal_25 rfl 0 rfl ?_
    refine z_aload_n C dX0_beginTotal_26 rfl 3 rfl ?_
    refine z_iload C dX0_beginTotal_27 1 rfl ?_
    refine z_callVi (rest := [.long (lN S)]) (k' := 0) (n' := 0) C (a_X1_valueAt (z_l X) hC hok hi (s_inJ hok hi hcp (by omega) h16)) (cs_X0_33 C ⟨Nat.le_of_ble_eq_true rfl, Nat.le_of_ble_eq_true rfl⟩) (CI_P hC hi) rfl rfl rfl rfl (Nat.le_of_ble_eq_true rfl) rfl rfl (Nat.le_of_ble_eq_true rfl) (Nat.le_of_ble_eq_true rfl) dX0_beginTotal_29 (fun x29 Mq29 hq => ?_)
    obtain ⟨e29, rfl⟩ := hq
    rw [e29]
    refine z_i2l C dX0_beginTotal_32 ?_
    rw [show (((s_val u (s_pn u i) (nI jx)).toInt64) : Int64) = (lN (s_val u (s_pn u i) (nI jx)).toNatClampNeg) from (j_i2l (hok.2.2.2.2.2 _ _))]
    refine z_ladd C dX0_beginTotal_33 ?_
    rw [show (((lN S) + (lN (s_val u (s_pn u i) (nI jx)).toNatClampNeg)) : Int64) = (lN (S + (s_val u (s_pn u i) (nI jx)).toNatClampNeg)) from (lN_add _ _)]
    refine z_lstore_n (lv' := [(2, .long (lN (S + (s_val u (s_pn u i) (nI jx)).toNatClampNeg))), (4, .int (nI jx)), (0, .ref ln), (1, .ref (P i))]) C dX0_beginTotal_34 rfl (by decide) rfl ?_
    refine z_iinc (v := nI (jx + 1)) (lv' := [(4, .int (nI (jx + 1))), (2, .long (lN (S + (s_val u (s_pn u i) (nI jx)).toNatClampNeg))), (0, .ref ln), (1, .ref (P i))]) C dX0_beginTotal_35 1 rfl (nI_1 jx) (by decide) rfl ?_
    refine z_goto C (tgt := 16) dX0_beginTotal_38 (by decide) ?_
    refine z_fewer [1, 0, 2, 3] rfl ?_
    have hv9 := j_v31 (s_val u (s_pn u i) (nI jx))
    exact ih (jx + 1) _ (by omega) (by omega) (by omega) (by rw [hq9]; exact t_su_s (g := t_gv u i) hj)
set_option maxRecDepth 20000 in
theorem a_X0_beginTotal (l : Launch) {G : zG} {u : sS} {x : Nat} {P RA VA : Nat → Nat} {pa sp ln rf sb : Nat} {Mw : zM} (hC : CI G u x P RA VA pa sp ln rf sb Mw) {t : Nat} (hok : s_ok t u) {vb c n : Nat} (hB : j_B G Mw sb vb c n) {i : Nat} (hi : i < 6) : z_Mv l G qX0_beginTotal (z_rm 10 36 1168) [.ref ln, .ref (P i)] Mw (fun Mz => CI G u x P RA VA pa sp ln rf sb Mz ∧ ∃ vb' c' n', c' ≤ 12 ∧ j_B G Mz sb vb' c' n' ∧ j_L Mz vb' c' (t_total u i))  := by
  obtain ⟨ml0, hsb0⟩ := j_sbE hB
  have hbn := j_B_c hB
  obtain ⟨pq, lq, cq, hpo, hli, hcp, g1, g2, h16⟩ := s_pq hok hi
  refine z_Mv_of _ (plainFor_of_name rfl) rfl (Nat.le_of_ble_eq_true rfl) (fun X hl hG hnm C ret => ?_)
  subst hl; subst hG
  have C : z_C X cX0_beginTotal RX0 5 (z_rm 10 36 1168) := C
  show z_W X Mw 0 0 0 [(0, .ref ln), (1, .ref (P i))] []
  refine z_aload_n C dX0_beginTotal_0 rfl 0 rfl ?_
  refine gf_X0_10 C (CI_ln hC) dX0_beginTotal_1 ?_
  refine z_iconst C (v := 0) dX0_beginTotal_4 (by decide) ?_
  refine z_callVv (rest := []) (k' := 0) (n' := 0) C (j_set0 (l := z_l X) hB) (cs_X0_20 C ⟨Nat.le_of_ble_eq_true rfl, Nat.le_of_ble_eq_true rfl⟩) hsb0 rfl rfl rfl rfl (Nat.le_of_ble_eq_true rfl) rfl rfl (by decide) (by decide) dX0_beginTotal_5 (fun Mq5 hq => ?_)
  obtain ⟨hB0, hF0⟩ := hq
  have hC0 := CI_fr hC hB hB0 hF0
  have hL0 := j_L0 hB0
  refine z_lconst C (v := 0) dX0_beginTotal_8 (by decide) ?_
  refine z_lstore_n (lv' := [(2, .long 0), (0, .ref ln), (1, .ref (P i))]) C dX0_beginTotal_9 rfl (by decide) rfl ?_
  refine z_aload_n C dX0_beginTotal_10 rfl 2 rfl ?_
  refine gf_X0_24 C (CI_P hC0 hi) dX0_beginTotal_11 ?_
  refine z_istore (lv' := [(4, .int (p_po (s_pn u i))), (2, .long 0), (0, .ref ln), (1, .ref (P i))]) C dX0_beginTotal_14 (by decide) rfl ?_
  refine z_fewer [1, 0, 2, 3] rfl ?_
  refine z_at (M' := _) (lv' := [(2, .long (lN 0)), (4, .int (nI pq)), (0, .ref ln), (1, .ref (P i))]) rfl (by rw [← hpo]; rfl) rfl ?_
  refine lp_X0_bt (pq := pq) C hC0 hok hi hcp h16 hli g2 (fun S hS hS2 => ?_) (lq - pq) pq 0 (by omega) (Nat.le_refl _) (by omega) (by rw [Nat.sub_self]; exact (rfl : 0 = t_su _ pq 0))
  refine z_kn (k' := 0 + (n - n) / 16) (n' := 0 + 2 * (n - n)) (by simp) (by simp) ?_
  refine z_aload_n C dX0_beginTotal_41 rfl 1 rfl ?_
  refine z_lload_n C dX0_beginTotal_42 rfl 0 rfl ?_
  have hd43 := j_nd_in S 10
  have hb43 := j_B_c hB0
  have hg43 := j_cap_ge n (0 + j_nd S 10)
  have hl43 : (j_cap n (0 + j_nd S 10)) ≤ 600 := j_cap_le hb43.2.2 (by omega)
  refine z_callVv (rest := []) (k' := 0 + (n - n) / 16 + (((j_cap n (0 + j_nd S 10)) - n) / 16)) (n' := 0 + 2 * (n - n) + (2 * ((j_cap n (0 + j_nd S 10)) - n))) C (a_X0_addNumber (z_l X) hC0 hok hB0 hL0 (CI_P hC0 hi) (by omega) (by omega)) (cs_X0_37 C ⟨Nat.le_of_ble_eq_true rfl, Nat.le_of_ble_eq_true rfl⟩) (CI_ln hC0) rfl rfl rfl rfl (Nat.le_of_ble_eq_true rfl) rfl rfl (by show _ ≤ 36; omega) (by show _ ≤ 1168; omega) dX0_beginTotal_43 (fun Mq43 hq => ?_)
  obtain ⟨hC43, hp43, vc43, hB43, hL43⟩ := hq
  refine z_widen (k' := 0 + ((j_cap n (0 + j_nd S 10)) - n) / 16) (n' := 0 + 2 * ((j_cap n (0 + j_nd S 10)) - n)) (by omega) (by omega) ?_
  refine ret dX0_beginTotal_46 ?_ (by show _ ≤ 36; omega) (by show _ ≤ 1168; omega)
  exact ⟨hC43, _, _, _, (by omega), hB43, j_L_eq hL43 ((List.nil_append _).trans (t_total_eq hpo hli g1 (by omega) hS2))⟩
set_option maxRecDepth 20000 in
theorem a_X0_written (l : Launch) {G : zG} {u : sS} {x : Nat} {P RA VA : Nat → Nat} {pa sp ln rf sb : Nat} {Mw : zM} (hC : CI G u x P RA VA pa sp ln rf sb Mw) {t : Nat} (hok : s_ok t u) {vb c n : Nat} (hB : j_B G Mw sb vb c n) {ls : List Int32} (hL : j_L Mw vb c ls) (hc9 : c ≤ 260) : z_Mr l G qX0_written (z_rm 7 2 264) [.ref ln] Mw (fun r Mz => CI G u x P RA VA pa sp ln rf sb Mz ∧ j_St G r Mz ls)  := by
  obtain ⟨ml0, hsb0⟩ := j_sbE hB
  have hbn := j_B_c hB
  refine z_Mr_of _ (plainFor_of_name rfl) rfl (by first | exact Or.inl ⟨_, rfl⟩ | exact Or.inr ⟨_, rfl⟩) (Nat.le_of_ble_eq_true rfl) (fun X hl hG hnm C ret => ?_)
  subst hl; subst hG
  have C : z_C X cX0_written RX0 1 (z_rm 7 2 264) := C
  show z_W X Mw 0 0 0 [(0, .ref ln)] []
  refine z_aload_n C dX0_written_0 rfl 0 rfl ?_
  refine gf_X0_10 C (CI_ln hC) dX0_written_1 ?_
  refine z_callVr (rest := []) (k' := 2) (n' := 0 + (4 + c)) C (j_toStr (z_l X) hC hB hL (by omega)) (cs_X0_16 C ⟨Nat.le_of_ble_eq_true rfl, Nat.le_of_ble_eq_true rfl⟩) hsb0 rfl rfl rfl rfl (Nat.le_of_ble_eq_true rfl) rfl rfl (Nat.le_of_ble_eq_true rfl) (by show _ ≤ 264; omega) dX0_written_4 (fun x4 Mq4 hq => ?_)
  refine ret dX0_written_7 ?_ (Nat.le_of_ble_eq_true rfl) (by show _ ≤ 264; omega)
  exact hq
