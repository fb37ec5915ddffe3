section
/-! PART 58: two panes agree where both see -/
theorem s_agr {p q : sP} {y : Int32} : p_sa q + (p_sa p + y - p_sa q) = p_sa p + y := by
  rw [Int32.sub_eq_add_neg, Int32.add_comm (p_sa p + y), ← Int32.add_assoc, Int32.add_right_neg, Int32.zero_add]
theorem a_X3_kin (l : Launch) {G : zG} {u : sS} {x : Nat} {P RA VA : Nat → Nat} {pa sp ln rf sb : Nat} {Mw : zM} (hC : CI G u x P RA VA pa sp ln rf sb Mw) {t : Nat} (hok : s_ok t u) {i k : Nat} (hi : i < 6) (hk : k < 6) : z_Mi l G qX3_kinship (z_rm 1 0 0) [.ref (P i), .ref (P k)] Mw (fun r Mz => (r = -9 ∨ r = 0 ∨ (r = 1 ∧ p_rd (s_pn u i) = 0 ∧ p_rd (s_pn u k) = 0 ∧ p_ro (s_pn u i) = p_ro (s_pn u k))) ∧ Mz = Mw) := by
  refine z_Mi_mono (c_X3_kinship l G (CI_P hC hi) (CI_P hC hk)) ?_
  rintro r Mz (⟨c1, hr9, he9⟩ | ⟨c1, c2, c3, hr9, he9⟩ | ⟨c1, c2, c3, hr9, he9⟩ | ⟨c1, c2, hr9, he9⟩)
  · exact ⟨Or.inl hr9, he9⟩
  · exact ⟨Or.inr (Or.inl hr9), he9⟩
  · exact ⟨Or.inr (Or.inr ⟨hr9, c1, c2, hC.2.2.2.2.2.2.2.2.2.2.2.1 _ _ (s_row hok hi) (s_row hok hk) (Option.some.inj c3)⟩), he9⟩
  · exact ⟨Or.inl hr9, he9⟩
theorem a_X3_idx (l : Launch) {G : zG} {u : sS} {x : Nat} {P RA VA : Nat → Nat} {pa sp ln rf sb : Nat} {Mw : zM} (hC : CI G u x P RA VA pa sp ln rf sb Mw) {t : Nat} (hok : s_ok t u) {i k : Nat} (hi : i < 6) (hk : k < 6) (h1 : p_rd (s_pn u i) = 0) (h2 : p_rd (s_pn u k) = 0) (h3 : p_ro (s_pn u i) = p_ro (s_pn u k)) (y : Int32) : z_Mi l G qX3_indexSeen (z_rm 2 0 0) [.ref (P i), .int y, .ref (P k)] Mw (fun r Mz => (r = -1 ∨ (¬ z_hi y (p_cp (s_pn u i)) = 0 ∧ ¬ z_hi (p_sa (s_pn u i) + y - p_sa (s_pn u k)) (p_cp (s_pn u k)) = 0 ∧ r = p_sa (s_pn u i) + y - p_sa (s_pn u k))) ∧ Mz = Mw) := by
  refine z_Mi_mono (c_X3_indexSeen l G (CI_P hC hi) (CI_P hC hk)) ?_
  rintro r Mz (⟨c1, hr9, he9⟩ | ⟨c1, c2, c3, hr9, he9⟩ | ⟨c1, c2, c3, c4, c5, hr9, he9⟩ | ⟨c1, c2, c3, c4, c5, hr9, he9⟩ | ⟨c1, c2, c3, c4, hr9, he9⟩ | ⟨c1, c2, hr9, he9⟩)
  · exact absurd h1 c1
  · exact ⟨Or.inl hr9, he9⟩
  · exact ⟨Or.inl hr9, he9⟩
  · exact ⟨Or.inr ⟨c4, c5, hr9⟩, he9⟩
  · exact ⟨Or.inl hr9, he9⟩
  · exact absurd h2 c2
theorem a_X3_kinW (l : Launch) {G : zG} {u : sS} {x : Nat} {P RA VA : Nat → Nat} {pa sp ln rf sb : Nat} {Mw : zM} (hC : CI G u x P RA VA pa sp ln rf sb Mw) {t : Nat} (hok : s_ok t u) {i k : Nat} (hi : i < 6) (hk : k < 6) : z_Mi l G qX3_kinship (z_rm 1 0 0) [.ref (P i), .ref (P k)] Mw (fun r Mz => Mz = Mw) := z_Mi_mono (a_X3_kin l hC hok hi hk) fun _ _ h => h.2
theorem a_X3_idxW (l : Launch) {G : zG} {u : sS} {x : Nat} {P RA VA : Nat → Nat} {pa sp ln rf sb : Nat} {Mw : zM} (hC : CI G u x P RA VA pa sp ln rf sb Mw) {t : Nat} (hok : s_ok t u) {i k : Nat} (hi : i < 6) (hk : k < 6) (y : Int32) : z_Mi l G qX3_indexSeen (z_rm 2 0 0) [.ref (P i), .int y, .ref (P k)] Mw (fun r Mz => Mz = Mw) := by
  refine z_Mi_mono (c_X3_indexSeen l G (CI_P hC hi) (CI_P hC hk)) ?_
  rintro r Mz (⟨c1, hr9, he9⟩ | ⟨c1, c2, c3, hr9, he9⟩ | ⟨c1, c2, c3, c4, c5, hr9, he9⟩ | ⟨c1, c2, c3, c4, c5, hr9, he9⟩ | ⟨c1, c2, c3, c4, hr9, he9⟩ | ⟨c1, c2, hr9, he9⟩) <;> exact he9
theorem a_X1_numW (l : Launch) {G : zG} {u : sS} {x : Nat} {P RA VA : Nat → Nat} {pa sp ln rf sb : Nat} {Mw : zM} (hC : CI G u x P RA VA pa sp ln rf sb Mw) {t : Nat} (hok : s_ok t u) {i : Nat} (hi : i < 6) (y : Int32) : z_Mi l G qX1_numberOf (z_rm 2 0 0) [.ref (P i), .int y] Mw (fun r Mz => Mz = Mw) := by
  refine z_Mi_mono (c_X1_numberOf l G (CI_P hC hi)) ?_
  rintro r Mz (⟨c1, hr9, he9⟩ | ⟨c1, hr9, he9⟩ | ⟨c1, hr9, he9⟩ | ⟨c1, hr9, he9⟩ | ⟨c1, hr9, he9⟩ | ⟨c1, c2, hr9, he9⟩ | ⟨c1, c2, hr9, he9⟩ | ⟨c1, c2, hr9, he9⟩ | ⟨c1, c2, hr9, he9⟩ | ⟨c1, c2, hr9, he9⟩ | ⟨c1, c2, hr9, he9⟩ | ⟨c1, c2, hr9, he9⟩ | ⟨c1, c2, hr9, he9⟩ | ⟨c1, hr9, he9⟩) <;> exact he9
theorem dX3_agree_0 : decode cX3_agree 0 = .ok (.aload_n 0, 1) := by decide +kernel
theorem dX3_agree_1 : decode cX3_agree 1 = .ok (.aload_n 1, 1) := by decide +kernel
theorem dX3_agree_2 : decode cX3_agree 2 = .ok (.invokestatic 177, 3) := by decide +kernel
theorem dX3_agree_5 : decode cX3_agree 5 = .ok (.iconst 1, 1) := by decide +kernel
theorem dX3_agree_6 : decode cX3_agree 6 = .ok (.if_icmp .eq 5, 3) := by decide +kernel
theorem dX3_agree_9 : decode cX3_agree 9 = .ok (.iconst 1, 1) := by decide +kernel
theorem dX3_agree_10 : decode cX3_agree 10 = .ok (.ireturn, 1) := by decide +kernel
theorem dX3_agree_11 : decode cX3_agree 11 = .ok (.iconst 0, 1) := by decide +kernel
theorem dX3_agree_12 : decode cX3_agree 12 = .ok (.istore_n 2, 1) := by decide +kernel
theorem dX3_agree_13 : decode cX3_agree 13 = .ok (.iload_n 2, 1) := by decide +kernel
theorem dX3_agree_14 : decode cX3_agree 14 = .ok (.aload_n 0, 1) := by decide +kernel
theorem dX3_agree_15 : decode cX3_agree 15 = .ok (.getfield 100, 3) := by decide +kernel
theorem dX3_agree_18 : decode cX3_agree 18 = .ok (.if_icmp .ge 36, 3) := by decide +kernel
theorem dX3_agree_21 : decode cX3_agree 21 = .ok (.aload_n 0, 1) := by decide +kernel
theorem dX3_agree_22 : decode cX3_agree 22 = .ok (.iload_n 2, 1) := by decide +kernel
theorem dX3_agree_23 : decode cX3_agree 23 = .ok (.aload_n 1, 1) := by decide +kernel
theorem dX3_agree_24 : decode cX3_agree 24 = .ok (.invokestatic 181, 3) := by decide +kernel
theorem dX3_agree_27 : decode cX3_agree 27 = .ok (.istore_n 3, 1) := by decide +kernel
theorem dX3_agree_28 : decode cX3_agree 28 = .ok (.iload_n 3, 1) := by decide +kernel
theorem dX3_agree_29 : decode cX3_agree 29 = .ok (.iconst (-1), 1) := by decide +kernel
theorem dX3_agree_30 : decode cX3_agree 30 = .ok (.if_icmp .eq 18, 3) := by decide +kernel
theorem dX3_agree_33 : decode cX3_agree 33 = .ok (.aload_n 0, 1) := by decide +kernel
theorem dX3_agree_34 : decode cX3_agree 34 = .ok (.iload_n 2, 1) := by decide +kernel
theorem dX3_agree_35 : decode cX3_agree 35 = .ok (.invokevirtual 131, 3) := by decide +kernel
theorem dX3_agree_38 : decode cX3_agree 38 = .ok (.aload_n 1, 1) := by decide +kernel
theorem dX3_agree_39 : decode cX3_agree 39 = .ok (.iload_n 3, 1) := by decide +kernel
theorem dX3_agree_40 : decode cX3_agree 40 = .ok (.invokevirtual 131, 3) := by decide +kernel
theorem dX3_agree_43 : decode cX3_agree 43 = .ok (.if_icmp .eq 5, 3) := by decide +kernel
theorem dX3_agree_48 : decode cX3_agree 48 = .ok (.iinc 2 1, 3) := by decide +kernel
theorem dX3_agree_51 : decode cX3_agree 51 = .ok (.goto (-38), 3) := by decide +kernel
theorem dX3_agree_54 : decode cX3_agree 54 = .ok (.iconst 1, 1) := by decide +kernel
theorem dX3_agree_55 : decode cX3_agree 55 = .ok (.ireturn, 1) := by decide +kernel
set_option maxRecDepth 20000 in
theorem lp_X3_ag {X : zX} (C : z_C X cX3_agree RX3 4 (z_rm 4 0 0)) {u : sS} {x : Nat} {P RA VA : Nat → Nat} {pa sp ln rf sb t i k : Nat} {Mw : zM} (hC : CI (z_G X) u x P RA VA pa sp ln rf sb Mw) (hok : s_ok t u) (hi : i < 6) (hk : k < 6) (hr1 : p_rd (s_pn u i) = 0) (hr2 : p_rd (s_pn u k) = 0) (hro : p_ro (s_pn u i) = p_ro (s_pn u k)) {cq : Nat} (hcp : p_cp (s_pn u i) = nI cq) (h16 : cq ≤ 16) (kk : z_W X Mw 0 0 54 [] []) : ∀ (d jx : Nat), jx + d = cq → z_W X Mw 0 0 13 [(2, .int (nI jx)), (0, .ref (P i)), (1, .ref (P k))] [] := by
  intro d
  induction d with
  | zero =>
    intro jx hd
    refine z_iload_n C dX3_agree_13 rfl 0 rfl ?_
    refine z_aload_n C dX3_agree_14 rfl 1 rfl ?_
    refine gf_X3_100 C (CI_P hC hi) dX3_agree_15 ?_
    refine z_icmp_ge C (tgt := 54) dX3_agree_18 (by decide) (fun _ => ?_) (fun c18 => absurd (by rw [hcp]; exact nI_le (by omega) (by omega)) c18)
    refine z_fewer [] rfl ?_
    exact kk
  | succ d ih =>
    intro jx hd
    refine z_iload_n C dX3_agree_13 rfl 0 rfl ?_
    refine z_aload_n C dX3_agree_14 rfl 1 rfl ?_
    refine gf_X3_100 C (CI_P hC hi) dX3_agree_15 ?_
    refine z_icmp_ge C (tgt := 54) dX3_agree_18 (by decide) (fun c18 => absurd c18 (by rw [hcp]; exact nI_ge (by omega) (by omega))) (fun _ => ?_)
    refine z_aload_n C dX3_agree_21 rfl 1 rfl ?_
    refine z_iload_n C dX3_agree_22 rfl 0 rfl ?_
    refine z_aload_n C dX3_agree_23 rfl 2 rfl ?_
    refine z_callSi (rest := []) (k' := 0) (n' := 0) C (a_X3_idx (z_l X) hC hok hi hk hr1 hr2 hro (nI jx)) (cs_X3_181 C (by decide)) rfl rfl (Nat.le_of_ble_eq_true rfl) rfl rfl (by decide) (by decide) dX3_agree_24 (fun x24 Mq24 hq => ?_)
    obtain ⟨hrs, rfl⟩ := hq
    rcases hrs with hrs | ⟨hz1, hz2, hrs⟩
    · rw [hrs]
      refine z_istore_n (lv' := [(3, .int (-1)), (2, .int (nI jx)), (0, .ref (P i)), (1, .ref (P k))]) C dX3_agree_27 rfl (by decide) rfl ?_
      refine z_iload_n C dX3_agree_28 rfl 0 rfl ?_
      refine z_iconst C (v := (-1)) dX3_agree_29 (by decide) ?_
      refine z_icmp_eq C (tgt := 48) dX3_agree_30 (by decide) (fun _ => ?_) (fun c30 => absurd (by decide) c30)
      refine z_iinc (v := nI (jx + 1)) (lv' := [(2, .int (nI (jx + 1))), (3, .int (-1)), (0, .ref (P i)), (1, .ref (P k))]) C dX3_agree_48 1 rfl (nI_1 jx) (by decide) rfl ?_
      refine z_goto C (tgt := 13) dX3_agree_51 (by decide) ?_
      refine z_fewer [0, 2, 3] rfl ?_
      exact ih (jx + 1) (by omega)
    · rw [hrs]
      refine z_istore_n (lv' := [(3, .int (p_sa (s_pn u i) + nI jx - p_sa (s_pn u k))), (2, .int (nI jx)), (0, .ref (P i)), (1, .ref (P k))]) C dX3_agree_27 rfl (by decide) rfl ?_
      refine z_iload_n C dX3_agree_28 rfl 0 rfl ?_
      refine z_iconst C (v := (-1)) dX3_agree_29 (by decide) ?_
      refine z_icmp_eq C (tgt := 48) dX3_agree_30 (by decide) (fun c30 => ?_) (fun c30 => ?_)
      · refine z_iinc (v := nI (jx + 1)) (lv' := [(2, .int (nI (jx + 1))), (3, .int (p_sa (s_pn u i) + nI jx - p_sa (s_pn u k))), (0, .ref (P i)), (1, .ref (P k))]) C dX3_agree_48 1 rfl (nI_1 jx) (by decide) rfl ?_
        refine z_goto C (tgt := 13) dX3_agree_51 (by decide) ?_
        refine z_fewer [0, 2, 3] rfl ?_
        exact ih (jx + 1) (by omega)
      · refine z_aload_n C dX3_agree_33 rfl 2 rfl ?_
        refine z_iload_n C dX3_agree_34 rfl 1 rfl ?_
        refine z_callVi (rest := []) (k' := 0) (n' := 0) C (a_X1_valueAt (z_l X) hC hok hi (s_inJ hok hi hcp (by omega) h16)) (cs_X3_131 C (by decide)) (CI_P hC hi) rfl rfl rfl rfl (Nat.le_of_ble_eq_true rfl) rfl rfl (by decide) (by decide) dX3_agree_35 (fun x35 Mq35 hq => ?_)
        obtain ⟨e35, rfl⟩ := hq
        rw [e35]
        refine z_aload_n C dX3_agree_38 rfl 3 rfl ?_
        refine z_iload_n C dX3_agree_39 rfl 0 rfl ?_
        refine z_callVi (rest := [.int (s_val u (s_pn u i) (nI jx))]) (k' := 0) (n' := 0) C (a_X1_valueAt (z_l X) hC hok hk (z_owI (s_ow hok hk) (z_hi1 hz2).1 (z_hi1 hz2).2)) (cs_X3_131 C (by decide)) (CI_P hC hk) rfl rfl rfl rfl (Nat.le_of_ble_eq_true rfl) rfl rfl (by decide) (by decide) dX3_agree_40 (fun x40 Mq40 hq => ?_)
        obtain ⟨e40, rfl⟩ := hq
        rw [e40]
        refine z_icmp_eq C (tgt := 48) dX3_agree_43 (by decide) (fun _ => ?_) (fun c43 => absurd (show s_val u (s_pn u i) (nI jx) = s_val u (s_pn u k) (p_sa (s_pn u i) + nI jx - p_sa (s_pn u k)) by show s_vl u (p_ro (s_pn u i)) _ = s_vl u (p_ro (s_pn u k)) _; rw [hro]; exact congrArg (fun q : Int32 => s_vl u (p_ro (s_pn u k)) q.toNatClampNeg) s_agr.symm) c43)
        refine z_iinc (v := nI (jx + 1)) (lv' := [(2, .int (nI (jx + 1))), (3, .int (p_sa (s_pn u i) + nI jx - p_sa (s_pn u k))), (0, .ref (P i)), (1, .ref (P k))]) C dX3_agree_48 1 rfl (nI_1 jx) (by decide) rfl ?_
        refine z_goto C (tgt := 13) dX3_agree_51 (by decide) ?_
        refine z_fewer [0, 2, 3] rfl ?_
        exact ih (jx + 1) (by omega)
set_option maxRecDepth 20000 in
theorem a_X3_agree (l : Launch) {G : zG} {u : sS} {x : Nat} {P RA VA : Nat → Nat} {pa sp ln rf sb : Nat} {Mw : zM} (hC : CI G u x P RA VA pa sp ln rf sb Mw) {t : Nat} (hok : s_ok t u) {i k : Nat} (hi : i < 6) (hk : k < 6) : z_Mi l G qX3_agree (z_rm 4 0 0) [.ref (P i), .ref (P k)] Mw (fun r Mz => r = 1 ∧ Mz = Mw)  := by
  obtain ⟨pq, lq, cq, hpo, hli, hcp, g1, g2, h16⟩ := s_pq hok hi
  refine z_Mi_of _ (plainFor_of_name rfl) rfl (Nat.le_of_ble_eq_true rfl) (fun X hl hG hnm C ret => ?_)
  subst hl; subst hG
  have C : z_C X cX3_agree RX3 4 (z_rm 4 0 0) := C
  show z_W X Mw 0 0 0 [(0, .ref (P i)), (1, .ref (P k))] []
  refine z_aload_n C dX3_agree_0 rfl 0 rfl ?_
  refine z_aload_n C dX3_agree_1 rfl 1 rfl ?_
  refine z_callSi (rest := []) (k' := 0) (n' := 0) C (a_X3_kin (z_l X) hC hok hi hk) (cs_X3_177 C (by decide)) rfl rfl (Nat.le_of_ble_eq_true rfl) rfl rfl (by decide) (by decide) dX3_agree_2 (fun x2 Mq2 hq => ?_)
  obtain ⟨hrs, rfl⟩ := hq
  rcases hrs with hrs | hrs | ⟨hrs, hr1, hr2, hro⟩
  · rw [hrs]
    refine z_iconst C (v := 1) dX3_agree_5 (by decide) ?_
    refine z_icmp_eq C (tgt := 11) dX3_agree_6 (by decide) (fun c6 => absurd c6 (by decide)) (fun _ => ?_)
    refine z_iconst C (v := 1) dX3_agree_9 (by decide) ?_
    refine ret dX3_agree_10 rfl ?_ (by decide) (by decide)
    exact ⟨rfl, rfl⟩
  · rw [hrs]
    refine z_iconst C (v := 1) dX3_agree_5 (by decide) ?_
    refine z_icmp_eq C (tgt := 11) dX3_agree_6 (by decide) (fun c6 => absurd c6 (by decide)) (fun _ => ?_)
    refine z_iconst C (v := 1) dX3_agree_9 (by decide) ?_
    refine ret dX3_agree_10 rfl ?_ (by decide) (by decide)
    exact ⟨rfl, rfl⟩
  · rw [hrs]
    refine z_iconst C (v := 1) dX3_agree_5 (by decide) ?_
    refine z_icmp_eq C (tgt := 11) dX3_agree_6 (by decide) (fun _ => ?_) (fun c6 => absurd (by decide) c6)
    refine z_iconst C (v := 0) dX3_agree_11 (by decide) ?_
    refine z_istore_n (lv' := [(2, .int 0), (0, .ref (P i)), (1, .ref (P k))]) C dX3_agree_12 rfl (by decide) rfl ?_
    refine z_at (M' := _) (lv' := [(2, .int (nI 0)), (0, .ref (P i)), (1, .ref (P k))]) rfl (by rw [nI_0]) rfl ?_
    refine lp_X3_ag C hC hok hi hk hr1 hr2 hro hcp h16 ?_ cq 0 (Nat.zero_add _)
    refine z_iconst C (v := 1) dX3_agree_54 (by decide) ?_
    refine ret dX3_agree_55 rfl ?_ (by decide) (by decide)
    exact ⟨rfl, rfl⟩
end
section
/-! PART 59: a class in order is sound; what a line adds to a number -/
theorem dX3_isSound_0 : decode cX3_isSound 0 = .ok (.iconst 0, 1) := by decide +kernel
theorem dX3_isSound_1 : decode cX3_isSound 1 = .ok (.istore_n 1, 1) := by decide +kernel
theorem dX3_isSound_2 : decode cX3_isSound 2 = .ok (.iload_n 1, 1) := by decide +kernel
theorem dX3_isSound_3 : decode cX3_isSound 3 = .ok (.aload_n 0, 1) := by decide +kernel
theorem dX3_isSound_4 : decode cX3_isSound 4 = .ok (.getfield 20, 3) := by decide +kernel
theorem dX3_isSound_7 : decode cX3_isSound 7 = .ok (.arraylength, 1) := by decide +kernel
theorem dX3_isSound_8 : decode cX3_isSound 8 = .ok (.if_icmp .ge 88, 3) := by decide +kernel
theorem dX3_isSound_11 : decode cX3_isSound 11 = .ok (.aload_n 0, 1) := by decide +kernel
theorem dX3_isSound_12 : decode cX3_isSound 12 = .ok (.getfield 20, 3) := by decide +kernel
theorem dX3_isSound_15 : decode cX3_isSound 15 = .ok (.iload_n 1, 1) := by decide +kernel
theorem dX3_isSound_16 : decode cX3_isSound 16 = .ok (.aaload, 1) := by decide +kernel
theorem dX3_isSound_17 : decode cX3_isSound 17 = .ok (.invokevirtual 188, 3) := by decide +kernel
theorem dX3_isSound_20 : decode cX3_isSound 20 = .ok (.ifCond .eq 29, 3) := by decide +kernel
theorem dX3_isSound_23 : decode cX3_isSound 23 = .ok (.aload_n 0, 1) := by decide +kernel
theorem dX3_isSound_24 : decode cX3_isSound 24 = .ok (.aload_n 0, 1) := by decide +kernel
theorem dX3_isSound_25 : decode cX3_isSound 25 = .ok (.getfield 20, 3) := by decide +kernel
theorem dX3_isSound_28 : decode cX3_isSound 28 = .ok (.iload_n 1, 1) := by decide +kernel
theorem dX3_isSound_29 : decode cX3_isSound 29 = .ok (.aaload, 1) := by decide +kernel
theorem dX3_isSound_30 : decode cX3_isSound 30 = .ok (.invokevirtual 191, 3) := by decide +kernel
theorem dX3_isSound_33 : decode cX3_isSound 33 = .ok (.ifCond .eq 16, 3) := by decide +kernel
theorem dX3_isSound_36 : decode cX3_isSound 36 = .ok (.aload_n 0, 1) := by decide +kernel
theorem dX3_isSound_37 : decode cX3_isSound 37 = .ok (.aload_n 0, 1) := by decide +kernel
theorem dX3_isSound_38 : decode cX3_isSound 38 = .ok (.getfield 20, 3) := by decide +kernel
theorem dX3_isSound_41 : decode cX3_isSound 41 = .ok (.iload_n 1, 1) := by decide +kernel
theorem dX3_isSound_42 : decode cX3_isSound 42 = .ok (.aaload, 1) := by decide +kernel
theorem dX3_isSound_43 : decode cX3_isSound 43 = .ok (.invokevirtual 195, 3) := by decide +kernel
theorem dX3_isSound_46 : decode cX3_isSound 46 = .ok (.ifCond .ne 5, 3) := by decide +kernel
theorem dX3_isSound_51 : decode cX3_isSound 51 = .ok (.iload_n 1, 1) := by decide +kernel
theorem dX3_isSound_52 : decode cX3_isSound 52 = .ok (.iconst 1, 1) := by decide +kernel
theorem dX3_isSound_53 : decode cX3_isSound 53 = .ok (.iadd, 1) := by decide +kernel
theorem dX3_isSound_54 : decode cX3_isSound 54 = .ok (.istore_n 2, 1) := by decide +kernel
theorem dX3_isSound_55 : decode cX3_isSound 55 = .ok (.iload_n 2, 1) := by decide +kernel
theorem dX3_isSound_56 : decode cX3_isSound 56 = .ok (.aload_n 0, 1) := by decide +kernel
theorem dX3_isSound_57 : decode cX3_isSound 57 = .ok (.getfield 20, 3) := by decide +kernel
theorem dX3_isSound_60 : decode cX3_isSound 60 = .ok (.arraylength, 1) := by decide +kernel
theorem dX3_isSound_61 : decode cX3_isSound 61 = .ok (.if_icmp .ge 29, 3) := by decide +kernel
theorem dX3_isSound_64 : decode cX3_isSound 64 = .ok (.aload_n 0, 1) := by decide +kernel
theorem dX3_isSound_65 : decode cX3_isSound 65 = .ok (.getfield 20, 3) := by decide +kernel
theorem dX3_isSound_68 : decode cX3_isSound 68 = .ok (.iload_n 1, 1) := by decide +kernel
theorem dX3_isSound_69 : decode cX3_isSound 69 = .ok (.aaload, 1) := by decide +kernel
theorem dX3_isSound_70 : decode cX3_isSound 70 = .ok (.aload_n 0, 1) := by decide +kernel
theorem dX3_isSound_71 : decode cX3_isSound 71 = .ok (.getfield 20, 3) := by decide +kernel
theorem dX3_isSound_74 : decode cX3_isSound 74 = .ok (.iload_n 2, 1) := by decide +kernel
theorem dX3_isSound_75 : decode cX3_isSound 75 = .ok (.aaload, 1) := by decide +kernel
theorem dX3_isSound_76 : decode cX3_isSound 76 = .ok (.invokestatic 198, 3) := by decide +kernel
theorem dX3_isSound_79 : decode cX3_isSound 79 = .ok (.ifCond .ne 5, 3) := by decide +kernel
theorem dX3_isSound_84 : decode cX3_isSound 84 = .ok (.iinc 2 1, 3) := by decide +kernel
theorem dX3_isSound_87 : decode cX3_isSound 87 = .ok (.goto (-32), 3) := by decide +kernel
theorem dX3_isSound_90 : decode cX3_isSound 90 = .ok (.iinc 1 1, 3) := by decide +kernel
theorem dX3_isSound_93 : decode cX3_isSound 93 = .ok (.goto (-91), 3) := by decide +kernel
theorem dX3_isSound_96 : decode cX3_isSound 96 = .ok (.iconst 1, 1) := by decide +kernel
theorem dX3_isSound_97 : decode cX3_isSound 97 = .ok (.ireturn, 1) := by decide +kernel
theorem dX3_mix_0 : decode cX3_mix 0 = .ok (.lload_n 0, 1) := by decide +kernel
theorem dX3_mix_1 : decode cX3_mix 1 = .ok (.ldc2_w 245, 3) := by decide +kernel
theorem dX3_mix_4 : decode cX3_mix 4 = .ok (.lmul, 1) := by decide +kernel
theorem dX3_mix_5 : decode cX3_mix 5 = .ok (.iload_n 2, 1) := by decide +kernel
theorem dX3_mix_6 : decode cX3_mix 6 = .ok (.i2l, 1) := by decide +kernel
theorem dX3_mix_7 : decode cX3_mix 7 = .ok (.ladd, 1) := by decide +kernel
theorem dX3_mix_8 : decode cX3_mix 8 = .ok (.lreturn, 1) := by decide +kernel
theorem dX3_mixLine_0 : decode cX3_mixLine 0 = .ok (.lload_n 1, 1) := by decide +kernel
theorem dX3_mixLine_1 : decode cX3_mixLine 1 = .ok (.lstore_n 3, 1) := by decide +kernel
theorem dX3_mixLine_2 : decode cX3_mixLine 2 = .ok (.iconst 0, 1) := by decide +kernel
theorem dX3_mixLine_3 : decode cX3_mixLine 3 = .ok (.istore 5, 2) := by decide +kernel
theorem dX3_mixLine_5 : decode cX3_mixLine 5 = .ok (.iload 5, 2) := by decide +kernel
theorem dX3_mixLine_7 : decode cX3_mixLine 7 = .ok (.aload_n 0, 1) := by decide +kernel
theorem dX3_mixLine_8 : decode cX3_mixLine 8 = .ok (.getfield 34, 3) := by decide +kernel
theorem dX3_mixLine_11 : decode cX3_mixLine 11 = .ok (.getfield 247, 3) := by decide +kernel
theorem dX3_mixLine_14 : decode cX3_mixLine 14 = .ok (.invokevirtual 251, 3) := by decide +kernel
theorem dX3_mixLine_17 : decode cX3_mixLine 17 = .ok (.if_icmp .ge 26, 3) := by decide +kernel
theorem dX3_mixLine_20 : decode cX3_mixLine 20 = .ok (.lload_n 3, 1) := by decide +kernel
theorem dX3_mixLine_21 : decode cX3_mixLine 21 = .ok (.aload_n 0, 1) := by decide +kernel
theorem dX3_mixLine_22 : decode cX3_mixLine 22 = .ok (.getfield 34, 3) := by decide +kernel
theorem dX3_mixLine_25 : decode cX3_mixLine 25 = .ok (.getfield 247, 3) := by decide +kernel
theorem dX3_mixLine_28 : decode cX3_mixLine 28 = .ok (.iload 5, 2) := by decide +kernel
theorem dX3_mixLine_30 : decode cX3_mixLine 30 = .ok (.invokevirtual 256, 3) := by decide +kernel
theorem dX3_mixLine_33 : decode cX3_mixLine 33 = .ok (.invokestatic 203, 3) := by decide +kernel
theorem dX3_mixLine_36 : decode cX3_mixLine 36 = .ok (.lstore_n 3, 1) := by decide +kernel
theorem dX3_mixLine_37 : decode cX3_mixLine 37 = .ok (.iinc 5 1, 3) := by decide +kernel
theorem dX3_mixLine_40 : decode cX3_mixLine 40 = .ok (.goto (-35), 3) := by decide +kernel
theorem dX3_mixLine_43 : decode cX3_mixLine 43 = .ok (.lload_n 3, 1) := by decide +kernel
theorem dX3_mixLine_44 : decode cX3_mixLine 44 = .ok (.lreturn, 1) := by decide +kernel
set_option maxRecDepth 20000 in
theorem lp_X3_is2 {X : zX} (C : z_C X cX3_isSound RX3 3 (z_rm 6 0 0)) {u : sS} {x : Nat} {P RA VA : Nat → Nat} {pa sp ln rf sb t : Nat} (hok : s_ok t u) {Mw : zM} (hC : CI (z_G X) u x P RA VA pa sp ln rf sb Mw) {fp : Nat → Option Nat} (hpa : Mw pa = some (aP (z_G X) 6 fp)) (hfp : ∀ i, i < 6 → fp i = some (P i)) {jx : Nat} (hjx : jx < 6) (kk : z_W X Mw 0 0 90 [(0, .ref x), (1, .int (nI jx))] []) : ∀ (d jy : Nat), jy + d = 6 → z_W X Mw 0 0 55 [(2, .int (nI jy)), (0, .ref x), (1, .int (nI jx))] [] := by
  intro d
  induction d with
  | zero =>
    intro jy hd
    refine z_iload_n C dX3_isSound_55 rfl 0 rfl ?_
    refine z_aload_n C dX3_isSound_56 rfl 1 rfl ?_
    refine gf_X3_20 C hC.1 dX3_isSound_57 ?_
    refine z_alenP C (v := 6) hpa (by decide) dX3_isSound_60 ?_
    refine z_icmp_ge C (tgt := 90) dX3_isSound_61 (by decide) (fun _ => ?_) (fun c61 => absurd (nI_le (b := jy) (a := 6) (by omega) (by omega)) c61)
    refine z_fewer [1, 2] rfl ?_
    exact kk
  | succ d ih =>
    intro jy hd
    refine z_iload_n C dX3_isSound_55 rfl 0 rfl ?_
    refine z_aload_n C dX3_isSound_56 rfl 1 rfl ?_
    refine gf_X3_20 C hC.1 dX3_isSound_57 ?_
    refine z_alenP C (v := 6) hpa (by decide) dX3_isSound_60 ?_
    refine z_icmp_ge C (tgt := 90) dX3_isSound_61 (by decide) (fun c61 => absurd c61 (nI_ge (a := jy) (b := 6) (by omega) (by omega))) (fun _ => ?_)
    refine z_aload_n C dX3_isSound_64 rfl 1 rfl ?_
    refine gf_X3_20 C hC.1 dX3_isSound_65 ?_
    refine z_iload_n C dX3_isSound_68 rfl 2 rfl ?_
    refine z_aaldP (j := jx) C hpa (vp_in_nI (by omega) (by decide)) (nI_clamp (by omega)) (hfp jx (by omega)) dX3_isSound_69 ?_
    refine z_aload_n C dX3_isSound_70 rfl 1 rfl ?_
    refine gf_X3_20 C hC.1 dX3_isSound_71 ?_
    refine z_iload_n C dX3_isSound_74 rfl 0 rfl ?_
    refine z_aaldP (j := jy) C hpa (vp_in_nI (by omega) (by decide)) (nI_clamp (by omega)) (hfp jy (by omega)) dX3_isSound_75 ?_
    refine z_callSi (rest := []) (k' := 0) (n' := 0) C (a_X3_agree (z_l X) hC hok (i := jx) (k := jy) (by omega) (by omega)) (cs_X3_198 C (by decide)) rfl rfl (Nat.le_of_ble_eq_true rfl) rfl rfl (by decide) (by decide) dX3_isSound_76 (fun x76 Mq76 hq => ?_)
    obtain ⟨e76, rfl⟩ := hq
    rw [e76]
    refine z_if_ne C (tgt := 84) dX3_isSound_79 (by decide) (fun _ => ?_) (fun c79 => absurd c79 (by decide))
    refine z_iinc (v := nI (jy + 1)) (lv' := [(2, .int (nI (jy + 1))), (0, .ref x), (1, .int (nI jx))]) C dX3_isSound_84 0 rfl (nI_1 jy) (by decide) rfl ?_
    refine z_goto C (tgt := 55) dX3_isSound_87 (by decide) ?_
    refine z_fewer [0, 1, 2] rfl ?_
    exact ih (jy + 1) (by omega)
set_option maxRecDepth 20000 in
theorem lp_X3_is1 {X : zX} (C : z_C X cX3_isSound RX3 3 (z_rm 6 0 0)) {u : sS} {x : Nat} {P RA VA : Nat → Nat} {pa sp ln rf sb t : Nat} (hok : s_ok t u) (kk : ∀ Mw, CI (z_G X) u x P RA VA pa sp ln rf sb Mw → z_W X Mw 0 0 96 [(0, .ref x)] []) : ∀ (d jx : Nat) (Mw : zM), jx + d = 6 → CI (z_G X) u x P RA VA pa sp ln rf sb Mw → z_W X Mw 0 0 2 [(1, .int (nI jx)), (0, .ref x)] [] := by
  intro d
  induction d with
  | zero =>
    intro jx Mw hd hC
    obtain ⟨fp, hpa, hfp⟩ := CI_pa hC
    refine z_iload_n C dX3_isSound_2 rfl 0 rfl ?_
    refine z_aload_n C dX3_isSound_3 rfl 1 rfl ?_
    refine gf_X3_20 C hC.1 dX3_isSound_4 ?_
    refine z_alenP C (v := 6) hpa (by decide) dX3_isSound_7 ?_
    refine z_icmp_ge C (tgt := 96) dX3_isSound_8 (by decide) (fun _ => ?_) (fun c8 => absurd (nI_le (b := jx) (a := 6) (by omega) (by omega)) c8)
    refine z_fewer [1] rfl ?_
    exact kk _ hC
  | succ d ih =>
    intro jx Mw hd hC
    obtain ⟨fp, hpa, hfp⟩ := CI_pa hC
    refine z_iload_n C dX3_isSound_2 rfl 0 rfl ?_
    refine z_aload_n C dX3_isSound_3 rfl 1 rfl ?_
    refine gf_X3_20 C hC.1 dX3_isSound_4 ?_
    refine z_alenP C (v := 6) hpa (by decide) dX3_isSound_7 ?_
    refine z_icmp_ge C (tgt := 96) dX3_isSound_8 (by decide) (fun c8 => absurd c8 (nI_ge (a := jx) (b := 6) (by omega) (by omega))) (fun _ => ?_)
    refine z_aload_n C dX3_isSound_11 rfl 1 rfl ?_
    refine gf_X3_20 C hC.1 dX3_isSound_12 ?_
    refine z_iload_n C dX3_isSound_15 rfl 0 rfl ?_
    refine z_aaldP (j := jx) C hpa (vp_in_nI (by omega) (by decide)) (nI_clamp (by omega)) (hfp jx (by omega)) dX3_isSound_16 ?_
    refine z_callVi (rest := []) (k' := 0) (n' := 0) C (a_X1_isInOrder (z_l X) hC hok (i := jx) (by omega)) (cs_X3_188 C (by decide)) (CI_P hC (show jx < 6 by omega)) rfl rfl rfl rfl (Nat.le_of_ble_eq_true rfl) rfl rfl (by decide) (by decide) dX3_isSound_17 (fun x17 Mq17 hq => ?_)
    obtain ⟨e17, rfl⟩ := hq
    rw [e17]
    refine z_if_eq C (tgt := 49) dX3_isSound_20 (by decide) (fun c20 => absurd c20 (by decide)) (fun _ => ?_)
    refine z_aload_n C dX3_isSound_23 rfl 1 rfl ?_
    refine z_aload_n C dX3_isSound_24 rfl 1 rfl ?_
    refine gf_X3_20 C hC.1 dX3_isSound_25 ?_
    refine z_iload_n C dX3_isSound_28 rfl 0 rfl ?_
    refine z_aaldP (j := jx) C hpa (vp_in_nI (by omega) (by decide)) (nI_clamp (by omega)) (hfp jx (by omega)) dX3_isSound_29 ?_
    refine z_callVi (rest := []) (k' := 0) (n' := 0) C (a_X3_hasTrueTwins (z_l X) hC hok (i := jx) (by omega)) (cs_X3_191 C (by decide)) hC.1 rfl rfl rfl rfl (Nat.le_of_ble_eq_true rfl) rfl rfl (by decide) (by decide) dX3_isSound_30 (fun x30 Mq30 hq => ?_)
    obtain ⟨e30, hC30⟩ := hq
    rw [e30]
    obtain ⟨fp, hpa, hfp⟩ := CI_pa hC30
    refine z_if_eq C (tgt := 49) dX3_isSound_33 (by decide) (fun c33 => absurd c33 (by decide)) (fun _ => ?_)
    refine z_aload_n C dX3_isSound_36 rfl 1 rfl ?_
    refine z_aload_n C dX3_isSound_37 rfl 1 rfl ?_
    refine gf_X3_20 C hC30.1 dX3_isSound_38 ?_
    refine z_iload_n C dX3_isSound_41 rfl 0 rfl ?_
    refine z_aaldP (j := jx) C hpa (vp_in_nI (by omega) (by decide)) (nI_clamp (by omega)) (hfp jx (by omega)) dX3_isSound_42 ?_
    refine z_callVi (rest := []) (k' := 0) (n' := 0) C (a_X3_hasTrueRemainder (z_l X) hC30 hok (i := jx) (by omega)) (cs_X3_195 C (by decide)) hC30.1 rfl rfl rfl rfl (Nat.le_of_ble_eq_true rfl) rfl rfl (by decide) (by decide) dX3_isSound_43 (fun x43 Mq43 hq => ?_)
    obtain ⟨e43, hC43⟩ := hq
    rw [e43]
    obtain ⟨fp, hpa, hfp⟩ := CI_pa hC43
    refine z_if_ne C (tgt := 51) dX3_isSound_46 (by decide) (fun _ => ?_) (fun c46 => absurd c46 (by decide))
    refine z_iload_n C dX3_isSound_51 rfl 0 rfl ?_
    refine z_iconst C (v := 1) dX3_isSound_52 (by decide) ?_
    refine z_iadd C dX3_isSound_53 ?_
    refine z_istore_n (lv' := [(2, .int ((nI jx) + 1)), (1, .int (nI jx)), (0, .ref x)]) C dX3_isSound_54 rfl (by decide) rfl ?_
    refine z_fewer [0, 2, 1] rfl ?_
    refine z_at (M' := _) (lv' := [(2, .int (nI (jx + 1))), (0, .ref x), (1, .int (nI jx))]) rfl (by rw [show (((nI jx) + 1) : Int32) = nI (jx + 1) from nI_1 jx]; rfl) rfl ?_
    refine lp_X3_is2 C hok hC43 hpa hfp (jx := jx) (by omega) ?_ (6 - (jx + 1)) (jx + 1) (by omega)
    refine z_iinc (v := nI (jx + 1)) (lv' := [(1, .int (nI (jx + 1))), (0, .ref x)]) C dX3_isSound_90 1 rfl (nI_1 jx) (by decide) rfl ?_
    refine z_goto C (tgt := 2) dX3_isSound_93 (by decide) ?_
    refine z_fewer [0, 1] rfl ?_
    exact ih (jx + 1) _ (by omega) hC43
set_option maxRecDepth 20000 in
theorem a_X3_isSound (l : Launch) {G : zG} {u : sS} {x : Nat} {P RA VA : Nat → Nat} {pa sp ln rf sb : Nat} {Mw : zM} (hC : CI G u x P RA VA pa sp ln rf sb Mw) {t : Nat} (hok : s_ok t u) : z_Mi l G qX3_isSound (z_rm 6 0 0) [.ref x] Mw (fun r Mz => r = 1 ∧ CI G u x P RA VA pa sp ln rf sb Mz)  := by
  refine z_Mi_of _ (plainFor_of_name rfl) rfl (Nat.le_of_ble_eq_true rfl) (fun X hl hG hnm C ret => ?_)
  subst hl; subst hG
  have C : z_C X cX3_isSound RX3 3 (z_rm 6 0 0) := C
  show z_W X Mw 0 0 0 [(0, .ref x)] []
  refine z_iconst C (v := 0) dX3_isSound_0 (by decide) ?_
  refine z_istore_n (lv' := [(1, .int 0), (0, .ref x)]) C dX3_isSound_1 rfl (by decide) rfl ?_
  refine z_at (M' := _) (lv' := [(1, .int (nI 0)), (0, .ref x)]) rfl (by rw [nI_0]) rfl ?_
  refine lp_X3_is1 C hok (fun Mz hC9 => ?_) 6 0 _ (Nat.zero_add _) hC
  refine z_iconst C (v := 1) dX3_isSound_96 (by decide) ?_
  refine ret dX3_isSound_97 rfl ?_ (by decide) (by decide)
  exact ⟨rfl, hC9⟩
set_option maxRecDepth 20000 in
theorem c_X3_mix (l : Launch) (G : zG) {M : zM} {dq : Int64} {vq : Int32}    : z_Ml l G qX3_mix (z_rm 1 0 0) [.long dq, .int vq] M (fun r M' => r = (dq * 31) + vq.toInt64 ∧ M' = M)  := by
  refine z_Ml_of _ (plainFor_of_name rfl) rfl (Nat.le_of_ble_eq_true rfl) (fun X hl hG hnm C ret => ?_)
  subst hl; subst hG
  have C : z_C X cX3_mix RX3 3 (z_rm 1 0 0) := C
  show z_W X M 0 0 0 [(0, .long dq), (2, .int vq)] []
  refine z_lload_n C dX3_mix_0 rfl 0 rfl ?_
  refine z_ldc2 C (v := 31) kw640 dX3_mix_1 ?_
  refine z_lmul C dX3_mix_4 ?_
  refine z_iload_n C dX3_mix_5 rfl 1 rfl ?_
  refine z_i2l C dX3_mix_6 ?_
  refine z_ladd C dX3_mix_7 ?_
  exact ret dX3_mix_8 (⟨rfl, rfl⟩) (by decide) (by decide)
set_option maxRecDepth 20000 in
theorem lp_X3_ml {X : zX} (C : z_C X cX3_mixLine RX3 6 (z_rm 6 0 0)) {u : sS} {x : Nat} {P RA VA : Nat → Nat} {pa sp ln rf sb t : Nat} (hok : s_ok t u) {Mw : zM} (hC : CI (z_G X) u x P RA VA pa sp ln rf sb Mw) {vb c n : Nat} {ml : Int32} {f : Nat → Int32} (hsb : Mw sb = some (cSb vb 0 ml (nI c))) (hvb : Mw vb = some (aB (z_G X) n f)) (hcn : c ≤ n) (hn : n ≤ 600) (kk : ∀ dq, z_W X Mw 0 0 43 [(3, .long dq)] []) : ∀ (d jx : Nat) (dq : Int64), jx + d = c → z_W X Mw 0 0 5 [(5, .int (nI jx)), (0, .ref x), (3, .long dq)] [] := by
  intro d
  induction d with
  | zero =>
    intro jx dq hd
    refine z_iload C dX3_mixLine_5 0 rfl ?_
    refine z_aload_n C dX3_mixLine_7 rfl 1 rfl ?_
    refine gf_X3_34 C hC.1 dX3_mixLine_8 ?_
    refine gf_X3_247 C (CI_ln hC) dX3_mixLine_11 ?_
    refine z_callVi (rest := [.int (nI jx)]) (k' := 0) (n' := 0) C (c_J4_length_8abf5 (z_l X) (z_G X) hsb) (cs_X3_251 C ⟨Nat.le_of_ble_eq_true rfl, Nat.le_of_ble_eq_true rfl⟩) hsb rfl rfl rfl rfl (Nat.le_of_ble_eq_true rfl) rfl rfl (by decide) (by decide) dX3_mixLine_14 (fun x14 M' hq => ?_)
    obtain ⟨rfl, rfl⟩ := hq
    refine z_icmp_ge C (tgt := 43) dX3_mixLine_17 (by decide) (fun _ => ?_) (fun c17 => absurd (nI_le (b := jx) (a := c) (by omega) (by omega)) c17)
    refine z_fewer [2] rfl ?_
    exact kk _
  | succ d ih =>
    intro jx dq hd
    refine z_iload C dX3_mixLine_5 0 rfl ?_
    refine z_aload_n C dX3_mixLine_7 rfl 1 rfl ?_
    refine gf_X3_34 C hC.1 dX3_mixLine_8 ?_
    refine gf_X3_247 C (CI_ln hC) dX3_mixLine_11 ?_
    refine z_callVi (rest := [.int (nI jx)]) (k' := 0) (n' := 0) C (c_J4_length_8abf5 (z_l X) (z_G X) hsb) (cs_X3_251 C ⟨Nat.le_of_ble_eq_true rfl, Nat.le_of_ble_eq_true rfl⟩) hsb rfl rfl rfl rfl (Nat.le_of_ble_eq_true rfl) rfl rfl (by decide) (by decide) dX3_mixLine_14 (fun x14 M' hq => ?_)
    obtain ⟨rfl, rfl⟩ := hq
    refine z_icmp_ge C (tgt := 43) dX3_mixLine_17 (by decide) (fun c17 => absurd c17 (nI_ge (a := jx) (b := c) (by omega) (by omega))) (fun _ => ?_)
    refine z_lload_n C dX3_mixLine_20 rfl 2 rfl ?_
    refine z_aload_n C dX3_mixLine_21 rfl 1 rfl ?_
    refine gf_X3_34 C hC.1 dX3_mixLine_22 ?_
    refine gf_X3_247 C (CI_ln hC) dX3_mixLine_25 ?_
    refine z_iload C dX3_mixLine_28 0 rfl ?_
    refine z_callVi (rest := [.long dq]) (k' := 0) (n' := 0) C (c_J4_charAt_5068e (z_l X) (z_G X) hsb hvb (show jx < c by omega) hcn (by omega)) (cs_X3_256 C ⟨Nat.le_of_ble_eq_true rfl, Nat.le_of_ble_eq_true rfl⟩) hsb rfl rfl rfl rfl (Nat.le_of_ble_eq_true rfl) rfl rfl (by decide) (by decide) dX3_mixLine_30 (fun x30 M' hq => ?_)
    obtain ⟨rfl, rfl⟩ := hq
    refine z_callSl (rest := []) (k' := 0) (n' := 0) C (c_X3_mix (z_l X) (z_G X) ) (cs_X3_203 C ⟨Nat.le_of_ble_eq_true rfl, Nat.le_of_ble_eq_true rfl⟩) rfl rfl (Nat.le_of_ble_eq_true rfl) rfl rfl (by decide) (by decide) dX3_mixLine_33 (fun x33 M' hq => ?_)
    obtain ⟨rfl, rfl⟩ := hq
    refine z_lstore_n (lv' := [(3, .long ((dq * 31) + ((((f jx) &&& 255).toUInt32 % 65536).toInt32).toInt64)), (5, .int (nI jx)), (0, .ref x)]) C dX3_mixLine_36 rfl (by decide) rfl ?_
    refine z_iinc (v := nI (jx + 1)) (lv' := [(5, .int (nI (jx + 1))), (3, .long ((dq * 31) + ((((f jx) &&& 255).toUInt32 % 65536).toInt32).toInt64)), (0, .ref x)]) C dX3_mixLine_37 1 rfl (nI_1 jx) (by decide) rfl ?_
    refine z_goto C (tgt := 5) dX3_mixLine_40 (by decide) ?_
    refine z_fewer [0, 2, 1] rfl ?_
    exact ih (jx + 1) _ (by omega)
set_option maxRecDepth 20000 in
theorem a_X3_mixLine (l : Launch) {G : zG} {u : sS} {x : Nat} {P RA VA : Nat → Nat} {pa sp ln rf sb : Nat} {Mw : zM} (hC : CI G u x P RA VA pa sp ln rf sb Mw) {t : Nat} (hok : s_ok t u) {vb c n : Nat} (hB : j_B G Mw sb vb c n) {dq : Int64} : z_Ml l G qX3_mixLine (z_rm 6 0 0) [.ref x, .long dq] Mw (fun r Mz => Mz = Mw)  := by
  obtain ⟨ml, f, hsb, hvb, hf, hcn, hn16, hn⟩ := hB
  refine z_Ml_of _ (plainFor_of_name rfl) rfl (Nat.le_of_ble_eq_true rfl) (fun X hl hG hnm C ret => ?_)
  subst hl; subst hG
  have C : z_C X cX3_mixLine RX3 6 (z_rm 6 0 0) := C
  show z_W X Mw 0 0 0 [(0, .ref x), (1, .long dq)] []
  refine z_lload_n C dX3_mixLine_0 rfl 1 rfl ?_
  refine z_lstore_n (lv' := [(3, .long dq), (0, .ref x), (1, .long dq)]) C dX3_mixLine_1 rfl (by decide) rfl ?_
  refine z_iconst C (v := 0) dX3_mixLine_2 (by decide) ?_
  refine z_istore (lv' := [(5, .int 0), (3, .long dq), (0, .ref x), (1, .long dq)]) C dX3_mixLine_3 (by decide) rfl ?_
  refine z_fewer [0, 2, 1] rfl ?_
  refine z_at (M' := _) (lv' := [(5, .int (nI 0)), (0, .ref x), (3, .long dq)]) rfl (by rw [nI_0]; rfl) rfl ?_
  refine lp_X3_ml C hok hC hsb hvb hcn hn (fun d9 => ?_) c 0 dq (Nat.zero_add _)
  refine z_lload_n C dX3_mixLine_43 rfl 0 rfl ?_
  refine ret dX3_mixLine_44 ?_ (by decide) (by decide)
  exact rfl
end
section
/-! PART 60: the class's digest: the state is kept, the number is not told -/
theorem nI_gt9 {a b : Nat} (h : b < a) (ha : a < 100000) : nI b < nI a := by
  rw [z_ltI, nI_T (by omega), nI_T (by omega)]; omega
theorem nI_ngt9 {a b : Nat} (h : a ≤ b) (hb : b < 100000) : ¬ nI b < nI a := by
  rw [z_ltI, nI_T (by omega), nI_T (by omega)]; omega
theorem z_is08 {j : Nat} (h : j < 9) : ¬ z_is (nI j) 0 8 = 0 := by
  rcases (show j = 0 ∨ j = 1 ∨ j = 2 ∨ j = 3 ∨ j = 4 ∨ j = 5 ∨ j = 6 ∨ j = 7 ∨ j = 8 by omega) with rfl | rfl | rfl | rfl | rfl | rfl | rfl | rfl | rfl <;> decide
theorem dX3_mixPane_0 : decode cX3_mixPane 0 = .ok (.lload_n 1, 1) := by decide +kernel
theorem dX3_mixPane_1 : decode cX3_mixPane 1 = .ok (.lstore 4, 2) := by decide +kernel
theorem dX3_mixPane_3 : decode cX3_mixPane 3 = .ok (.iconst 0, 1) := by decide +kernel
theorem dX3_mixPane_4 : decode cX3_mixPane 4 = .ok (.istore 6, 2) := by decide +kernel
theorem dX3_mixPane_6 : decode cX3_mixPane 6 = .ok (.iload 6, 2) := by decide +kernel
theorem dX3_mixPane_8 : decode cX3_mixPane 8 = .ok (.bipush 9, 2) := by decide +kernel
theorem dX3_mixPane_10 : decode cX3_mixPane 10 = .ok (.if_icmp .gt 22, 3) := by decide +kernel
theorem dX3_mixPane_13 : decode cX3_mixPane 13 = .ok (.lload 4, 2) := by decide +kernel
theorem dX3_mixPane_15 : decode cX3_mixPane 15 = .ok (.aload_n 3, 1) := by decide +kernel
theorem dX3_mixPane_16 : decode cX3_mixPane 16 = .ok (.iload 6, 2) := by decide +kernel
theorem dX3_mixPane_18 : decode cX3_mixPane 18 = .ok (.invokevirtual 158, 3) := by decide +kernel
theorem dX3_mixPane_21 : decode cX3_mixPane 21 = .ok (.invokestatic 203, 3) := by decide +kernel
theorem dX3_mixPane_24 : decode cX3_mixPane 24 = .ok (.lstore 4, 2) := by decide +kernel
theorem dX3_mixPane_26 : decode cX3_mixPane 26 = .ok (.iinc 6 1, 3) := by decide +kernel
theorem dX3_mixPane_29 : decode cX3_mixPane 29 = .ok (.goto (-23), 3) := by decide +kernel
theorem dX3_mixPane_32 : decode cX3_mixPane 32 = .ok (.aload_n 0, 1) := by decide +kernel
theorem dX3_mixPane_33 : decode cX3_mixPane 33 = .ok (.getfield 34, 3) := by decide +kernel
theorem dX3_mixPane_36 : decode cX3_mixPane 36 = .ok (.aload_n 3, 1) := by decide +kernel
theorem dX3_mixPane_37 : decode cX3_mixPane 37 = .ok (.invokevirtual 171, 3) := by decide +kernel
theorem dX3_mixPane_40 : decode cX3_mixPane 40 = .ok (.aload_n 0, 1) := by decide +kernel
theorem dX3_mixPane_41 : decode cX3_mixPane 41 = .ok (.lload 4, 2) := by decide +kernel
theorem dX3_mixPane_43 : decode cX3_mixPane 43 = .ok (.invokevirtual 211, 3) := by decide +kernel
theorem dX3_mixPane_46 : decode cX3_mixPane 46 = .ok (.lstore 4, 2) := by decide +kernel
theorem dX3_mixPane_48 : decode cX3_mixPane 48 = .ok (.aload_n 0, 1) := by decide +kernel
theorem dX3_mixPane_49 : decode cX3_mixPane 49 = .ok (.getfield 34, 3) := by decide +kernel
theorem dX3_mixPane_52 : decode cX3_mixPane 52 = .ok (.aload_n 3, 1) := by decide +kernel
theorem dX3_mixPane_53 : decode cX3_mixPane 53 = .ok (.invokevirtual 161, 3) := by decide +kernel
theorem dX3_mixPane_56 : decode cX3_mixPane 56 = .ok (.aload_n 0, 1) := by decide +kernel
theorem dX3_mixPane_57 : decode cX3_mixPane 57 = .ok (.lload 4, 2) := by decide +kernel
theorem dX3_mixPane_59 : decode cX3_mixPane 59 = .ok (.invokevirtual 211, 3) := by decide +kernel
theorem dX3_mixPane_62 : decode cX3_mixPane 62 = .ok (.lreturn, 1) := by decide +kernel
theorem dX3_digest_0 : decode cX3_digest 0 = .ok (.ldc2_w 201, 3) := by decide +kernel
theorem dX3_digest_3 : decode cX3_digest 3 = .ok (.lstore_n 1, 1) := by decide +kernel
theorem dX3_digest_4 : decode cX3_digest 4 = .ok (.iconst 0, 1) := by decide +kernel
theorem dX3_digest_5 : decode cX3_digest 5 = .ok (.istore_n 3, 1) := by decide +kernel
theorem dX3_digest_6 : decode cX3_digest 6 = .ok (.iload_n 3, 1) := by decide +kernel
theorem dX3_digest_7 : decode cX3_digest 7 = .ok (.bipush 8, 2) := by decide +kernel
theorem dX3_digest_9 : decode cX3_digest 9 = .ok (.if_icmp .gt 19, 3) := by decide +kernel
theorem dX3_digest_12 : decode cX3_digest 12 = .ok (.lload_n 1, 1) := by decide +kernel
theorem dX3_digest_13 : decode cX3_digest 13 = .ok (.aload_n 0, 1) := by decide +kernel
theorem dX3_digest_14 : decode cX3_digest 14 = .ok (.iload_n 3, 1) := by decide +kernel
theorem dX3_digest_15 : decode cX3_digest 15 = .ok (.invokevirtual 185, 3) := by decide +kernel
theorem dX3_digest_18 : decode cX3_digest 18 = .ok (.invokestatic 203, 3) := by decide +kernel
theorem dX3_digest_21 : decode cX3_digest 21 = .ok (.lstore_n 1, 1) := by decide +kernel
theorem dX3_digest_22 : decode cX3_digest 22 = .ok (.iinc 3 1, 3) := by decide +kernel
theorem dX3_digest_25 : decode cX3_digest 25 = .ok (.goto (-19), 3) := by decide +kernel
theorem dX3_digest_28 : decode cX3_digest 28 = .ok (.iconst 0, 1) := by decide +kernel
theorem dX3_digest_29 : decode cX3_digest 29 = .ok (.istore_n 3, 1) := by decide +kernel
theorem dX3_digest_30 : decode cX3_digest 30 = .ok (.iload_n 3, 1) := by decide +kernel
theorem dX3_digest_31 : decode cX3_digest 31 = .ok (.aload_n 0, 1) := by decide +kernel
theorem dX3_digest_32 : decode cX3_digest 32 = .ok (.getfield 20, 3) := by decide +kernel
theorem dX3_digest_35 : decode cX3_digest 35 = .ok (.arraylength, 1) := by decide +kernel
theorem dX3_digest_36 : decode cX3_digest 36 = .ok (.if_icmp .ge 21, 3) := by decide +kernel
theorem dX3_digest_39 : decode cX3_digest 39 = .ok (.aload_n 0, 1) := by decide +kernel
theorem dX3_digest_40 : decode cX3_digest 40 = .ok (.lload_n 1, 1) := by decide +kernel
theorem dX3_digest_41 : decode cX3_digest 41 = .ok (.aload_n 0, 1) := by decide +kernel
theorem dX3_digest_42 : decode cX3_digest 42 = .ok (.getfield 20, 3) := by decide +kernel
theorem dX3_digest_45 : decode cX3_digest 45 = .ok (.iload_n 3, 1) := by decide +kernel
theorem dX3_digest_46 : decode cX3_digest 46 = .ok (.aaload, 1) := by decide +kernel
theorem dX3_digest_47 : decode cX3_digest 47 = .ok (.invokevirtual 207, 3) := by decide +kernel
theorem dX3_digest_50 : decode cX3_digest 50 = .ok (.lstore_n 1, 1) := by decide +kernel
theorem dX3_digest_51 : decode cX3_digest 51 = .ok (.iinc 3 1, 3) := by decide +kernel
theorem dX3_digest_54 : decode cX3_digest 54 = .ok (.goto (-24), 3) := by decide +kernel
theorem dX3_digest_57 : decode cX3_digest 57 = .ok (.iconst 0, 1) := by decide +kernel
theorem dX3_digest_58 : decode cX3_digest 58 = .ok (.istore_n 3, 1) := by decide +kernel
theorem dX3_digest_59 : decode cX3_digest 59 = .ok (.iload_n 3, 1) := by decide +kernel
theorem dX3_digest_60 : decode cX3_digest 60 = .ok (.aload_n 0, 1) := by decide +kernel
theorem dX3_digest_61 : decode cX3_digest 61 = .ok (.getfield 20, 3) := by decide +kernel
theorem dX3_digest_64 : decode cX3_digest 64 = .ok (.arraylength, 1) := by decide +kernel
theorem dX3_digest_65 : decode cX3_digest 65 = .ok (.if_icmp .ge 67, 3) := by decide +kernel
theorem dX3_digest_68 : decode cX3_digest 68 = .ok (.aload_n 0, 1) := by decide +kernel
theorem dX3_digest_69 : decode cX3_digest 69 = .ok (.getfield 20, 3) := by decide +kernel
theorem dX3_digest_72 : decode cX3_digest 72 = .ok (.iload_n 3, 1) := by decide +kernel
theorem dX3_digest_73 : decode cX3_digest 73 = .ok (.iconst 1, 1) := by decide +kernel
theorem dX3_digest_74 : decode cX3_digest 74 = .ok (.iadd, 1) := by decide +kernel
theorem dX3_digest_75 : decode cX3_digest 75 = .ok (.aload_n 0, 1) := by decide +kernel
theorem dX3_digest_76 : decode cX3_digest 76 = .ok (.getfield 20, 3) := by decide +kernel
theorem dX3_digest_79 : decode cX3_digest 79 = .ok (.arraylength, 1) := by decide +kernel
theorem dX3_digest_80 : decode cX3_digest 80 = .ok (.if_icmp .ge 9, 3) := by decide +kernel
theorem dX3_digest_83 : decode cX3_digest 83 = .ok (.iload_n 3, 1) := by decide +kernel
theorem dX3_digest_84 : decode cX3_digest 84 = .ok (.iconst 1, 1) := by decide +kernel
theorem dX3_digest_85 : decode cX3_digest 85 = .ok (.iadd, 1) := by decide +kernel
theorem dX3_digest_86 : decode cX3_digest 86 = .ok (.goto 4, 3) := by decide +kernel
theorem dX3_digest_89 : decode cX3_digest 89 = .ok (.iconst 0, 1) := by decide +kernel
theorem dX3_digest_90 : decode cX3_digest 90 = .ok (.aaload, 1) := by decide +kernel
theorem dX3_digest_91 : decode cX3_digest 91 = .ok (.astore 4, 2) := by decide +kernel
theorem dX3_digest_93 : decode cX3_digest 93 = .ok (.lload_n 1, 1) := by decide +kernel
theorem dX3_digest_94 : decode cX3_digest 94 = .ok (.aload_n 0, 1) := by decide +kernel
theorem dX3_digest_95 : decode cX3_digest 95 = .ok (.getfield 20, 3) := by decide +kernel
theorem dX3_digest_98 : decode cX3_digest 98 = .ok (.iload_n 3, 1) := by decide +kernel
theorem dX3_digest_99 : decode cX3_digest 99 = .ok (.aaload, 1) := by decide +kernel
theorem dX3_digest_100 : decode cX3_digest 100 = .ok (.aload 4, 2) := by decide +kernel
theorem dX3_digest_102 : decode cX3_digest 102 = .ok (.invokestatic 177, 3) := by decide +kernel
theorem dX3_digest_105 : decode cX3_digest 105 = .ok (.invokestatic 203, 3) := by decide +kernel
theorem dX3_digest_108 : decode cX3_digest 108 = .ok (.lstore_n 1, 1) := by decide +kernel
theorem dX3_digest_109 : decode cX3_digest 109 = .ok (.lload_n 1, 1) := by decide +kernel
theorem dX3_digest_110 : decode cX3_digest 110 = .ok (.aload_n 0, 1) := by decide +kernel
theorem dX3_digest_111 : decode cX3_digest 111 = .ok (.getfield 20, 3) := by decide +kernel
theorem dX3_digest_114 : decode cX3_digest 114 = .ok (.iload_n 3, 1) := by decide +kernel
theorem dX3_digest_115 : decode cX3_digest 115 = .ok (.aaload, 1) := by decide +kernel
theorem dX3_digest_116 : decode cX3_digest 116 = .ok (.iconst 0, 1) := by decide +kernel
theorem dX3_digest_117 : decode cX3_digest 117 = .ok (.aload 4, 2) := by decide +kernel
theorem dX3_digest_119 : decode cX3_digest 119 = .ok (.invokestatic 181, 3) := by decide +kernel
theorem dX3_digest_122 : decode cX3_digest 122 = .ok (.invokestatic 203, 3) := by decide +kernel
theorem dX3_digest_125 : decode cX3_digest 125 = .ok (.lstore_n 1, 1) := by decide +kernel
theorem dX3_digest_126 : decode cX3_digest 126 = .ok (.iinc 3 1, 3) := by decide +kernel
theorem dX3_digest_129 : decode cX3_digest 129 = .ok (.goto (-70), 3) := by decide +kernel
theorem dX3_digest_132 : decode cX3_digest 132 = .ok (.aload_n 0, 1) := by decide +kernel
theorem dX3_digest_133 : decode cX3_digest 133 = .ok (.invokevirtual 174, 3) := by decide +kernel
theorem dX3_digest_136 : decode cX3_digest 136 = .ok (.aload_n 0, 1) := by decide +kernel
theorem dX3_digest_137 : decode cX3_digest 137 = .ok (.lload_n 1, 1) := by decide +kernel
theorem dX3_digest_138 : decode cX3_digest 138 = .ok (.invokevirtual 211, 3) := by decide +kernel
theorem dX3_digest_141 : decode cX3_digest 141 = .ok (.lstore_n 1, 1) := by decide +kernel
theorem dX3_digest_142 : decode cX3_digest 142 = .ok (.lload_n 1, 1) := by decide +kernel
theorem dX3_digest_143 : decode cX3_digest 143 = .ok (.aload_n 0, 1) := by decide +kernel
theorem dX3_digest_144 : decode cX3_digest 144 = .ok (.invokevirtual 215, 3) := by decide +kernel
theorem dX3_digest_147 : decode cX3_digest 147 = .ok (.ifCond .eq 7, 3) := by decide +kernel
theorem dX3_digest_150 : decode cX3_digest 150 = .ok (.iconst 1, 1) := by decide +kernel
theorem dX3_digest_151 : decode cX3_digest 151 = .ok (.goto 4, 3) := by decide +kernel
theorem dX3_digest_155 : decode cX3_digest 155 = .ok (.invokestatic 203, 3) := by decide +kernel
theorem dX3_digest_158 : decode cX3_digest 158 = .ok (.lreturn, 1) := by decide +kernel
set_option maxRecDepth 20000 in
theorem lp_X3_mp {X : zX} (C : z_C X cX3_mixPane RX3 7 (z_rm 11 72 2336)) {u : sS} {x : Nat} {P RA VA : Nat → Nat} {pa sp ln rf sb t : Nat} (hok : s_ok t u) {Mw : zM} (hC : CI (z_G X) u x P RA VA pa sp ln rf sb Mw) {i : Nat} (hi : i < 6) (kk : ∀ dq, z_W X Mw 0 0 32 [(0, .ref x), (3, .ref (P i)), (4, .long dq)] []) : ∀ (d jx : Nat) (dq : Int64), jx + d = 10 → z_W X Mw 0 0 6 [(6, .int (nI jx)), (0, .ref x), (3, .ref (P i)), (4, .long dq)] [] := by
  intro d
  induction d with
  | zero =>
    intro jx dq hd
    refine z_iload C dX3_mixPane_6 0 rfl ?_
    refine z_bipush C (v := 9) dX3_mixPane_8 (by decide) ?_
    refine z_icmp_gt C (tgt := 32) dX3_mixPane_10 (by decide) (fun _ => ?_) (fun c10 => absurd (nI_gt9 (b := 9) (a := jx) (by omega) (by omega)) c10)
    refine z_fewer [1, 2, 3] rfl ?_
    exact kk _
  | succ d ih =>
    intro jx dq hd
    refine z_iload C dX3_mixPane_6 0 rfl ?_
    refine z_bipush C (v := 9) dX3_mixPane_8 (by decide) ?_
    refine z_icmp_gt C (tgt := 32) dX3_mixPane_10 (by decide) (fun c10 => absurd c10 (nI_ngt9 (a := jx) (b := 9) (by omega) (by omega))) (fun _ => ?_)
    refine z_lload C dX3_mixPane_13 3 rfl ?_
    refine z_aload_n C dX3_mixPane_15 rfl 2 rfl ?_
    refine z_iload C dX3_mixPane_16 0 rfl ?_
    refine z_callVi (rest := [.long dq]) (k' := 0) (n' := 0) C (a_X1_numW (z_l X) hC hok hi _) (cs_X3_158 C (by decide)) (CI_P hC hi) rfl rfl rfl rfl (Nat.le_of_ble_eq_true rfl) rfl rfl (Nat.le_of_ble_eq_true rfl) (Nat.le_of_ble_eq_true rfl) dX3_mixPane_18 (fun x18 Mq18 hq => ?_)
    obtain rfl := hq
    refine z_callSl (rest := []) (k' := 0) (n' := 0) C (c_X3_mix (z_l X) (z_G X) ) (cs_X3_203 C (by decide)) rfl rfl (Nat.le_of_ble_eq_true rfl) rfl rfl (Nat.le_of_ble_eq_true rfl) (Nat.le_of_ble_eq_true rfl) dX3_mixPane_21 (fun x21 M' hq => ?_)
    obtain ⟨rfl, rfl⟩ := hq
    refine z_lstore (lv' := [(4, .long ((dq * 31) + x18.toInt64)), (6, .int (nI jx)), (0, .ref x), (3, .ref (P i))]) C dX3_mixPane_24 (by decide) rfl ?_
    refine z_iinc (v := nI (jx + 1)) (lv' := [(6, .int (nI (jx + 1))), (4, .long ((dq * 31) + x18.toInt64)), (0, .ref x), (3, .ref (P i))]) C dX3_mixPane_26 1 rfl (nI_1 jx) (by decide) rfl ?_
    refine z_goto C (tgt := 6) dX3_mixPane_29 (by decide) ?_
    refine z_fewer [0, 2, 3, 1] rfl ?_
    exact ih (jx + 1) _ (by omega)
set_option maxRecDepth 20000 in
theorem a_X3_mixPane (l : Launch) {G : zG} {u : sS} {x : Nat} {P RA VA : Nat → Nat} {pa sp ln rf sb : Nat} {Mw : zM} (hC : CI G u x P RA VA pa sp ln rf sb Mw) {t : Nat} (hok : s_ok t u) {i : Nat} (hi : i < 6) {dq : Int64} : z_Ml l G qX3_mixPane (z_rm 11 72 2336) [.ref x, .long dq, .ref (P i)] Mw (fun r Mz => CI G u x P RA VA pa sp ln rf sb Mz)  := by
  obtain ⟨vb0, c0, n0, hBq⟩ := CI_B hC
  refine z_Ml_of _ (plainFor_of_name rfl) rfl (Nat.le_of_ble_eq_true rfl) (fun X hl hG hnm C ret => ?_)
  subst hl; subst hG
  have C : z_C X cX3_mixPane RX3 7 (z_rm 11 72 2336) := C
  show z_W X Mw 0 0 0 [(0, .ref x), (1, .long dq), (3, .ref (P i))] []
  refine z_lload_n C dX3_mixPane_0 rfl 1 rfl ?_
  refine z_lstore (lv' := [(4, .long dq), (0, .ref x), (1, .long dq), (3, .ref (P i))]) C dX3_mixPane_1 (by decide) rfl ?_
  refine z_iconst C (v := 0) dX3_mixPane_3 (by decide) ?_
  refine z_istore (lv' := [(6, .int 0), (4, .long dq), (0, .ref x), (1, .long dq), (3, .ref (P i))]) C dX3_mixPane_4 (by decide) rfl ?_
  refine z_fewer [0, 2, 4, 1] rfl ?_
  refine z_at (M' := _) (lv' := [(6, .int (nI 0)), (0, .ref x), (3, .ref (P i)), (4, .long dq)]) rfl (by rw [nI_0]; rfl) rfl ?_
  refine lp_X3_mp C hok hC hi (fun d9 => ?_) 10 0 dq (Nat.zero_add _)
  refine z_aload_n C dX3_mixPane_32 rfl 0 rfl ?_
  refine gf_X3_34 C hC.1 dX3_mixPane_33 ?_
  refine z_aload_n C dX3_mixPane_36 rfl 1 rfl ?_
  refine z_callVv (rest := []) (k' := 36) (n' := 1168) C (a_X0_beginWhole (z_l X) hC hok hBq hi) (cs_X3_171 C (by decide)) (CI_ln hC) rfl rfl rfl rfl (Nat.le_of_ble_eq_true rfl) rfl rfl (Nat.le_of_ble_eq_true rfl) (Nat.le_of_ble_eq_true rfl) dX3_mixPane_37 (fun Mq37 hq => ?_)
  obtain ⟨hC37, vb37, c37q, n37q, hc37, hB37⟩ := hq
  refine z_aload_n C dX3_mixPane_40 rfl 0 rfl ?_
  refine z_lload C dX3_mixPane_41 2 rfl ?_
  refine z_callVl (rest := []) (k' := 36) (n' := 1168) C (a_X3_mixLine (z_l X) hC37 hok hB37) (cs_X3_211 C (by decide)) hC37.1 rfl rfl rfl rfl (Nat.le_of_ble_eq_true rfl) rfl rfl (Nat.le_of_ble_eq_true rfl) (Nat.le_of_ble_eq_true rfl) dX3_mixPane_43 (fun x43 Mq43 hq => ?_)
  obtain rfl := hq
  refine z_lstore (lv' := [(4, .long x43), (0, .ref x), (3, .ref (P i))]) C dX3_mixPane_46 (by decide) rfl ?_
  refine z_aload_n C dX3_mixPane_48 rfl 1 rfl ?_
  refine gf_X3_34 C hC37.1 dX3_mixPane_49 ?_
  refine z_aload_n C dX3_mixPane_52 rfl 2 rfl ?_
  refine z_callVv (rest := []) (k' := 72) (n' := 2336) C (a_X0_beginTotal (z_l X) hC37 hok hB37 hi) (cs_X3_161 C (by decide)) (CI_ln hC37) rfl rfl rfl rfl (Nat.le_of_ble_eq_true rfl) rfl rfl (Nat.le_of_ble_eq_true rfl) (Nat.le_of_ble_eq_true rfl) dX3_mixPane_53 (fun Mq53 hq => ?_)
  obtain ⟨hC53, vb53, c53q, n53q, hc53, hB53⟩ := hq
  refine z_aload_n C dX3_mixPane_56 rfl 1 rfl ?_
  refine z_lload C dX3_mixPane_57 0 rfl ?_
  refine z_callVl (rest := []) (k' := 72) (n' := 2336) C (a_X3_mixLine (z_l X) hC53 hok hB53) (cs_X3_211 C (by decide)) hC53.1 rfl rfl rfl rfl (Nat.le_of_ble_eq_true rfl) rfl rfl (Nat.le_of_ble_eq_true rfl) (Nat.le_of_ble_eq_true rfl) dX3_mixPane_59 (fun x59 Mq59 hq => ?_)
  obtain rfl := hq
  refine ret dX3_mixPane_62 ?_ (Nat.le_of_ble_eq_true rfl) (Nat.le_of_ble_eq_true rfl)
  exact hC53
set_option maxRecDepth 20000 in
theorem lp_X3_d1 {X : zX} (C : z_C X cX3_digest RX3 5 (z_rm 12 468 15184)) {u : sS} {x : Nat} {P RA VA : Nat → Nat} {pa sp ln rf sb t : Nat} (hok : s_ok t u) {Mw : zM} (hC : CI (z_G X) u x P RA VA pa sp ln rf sb Mw) {fp : Nat → Option Nat} (hpa : Mw pa = some (aP (z_G X) 6 fp)) (hfp : ∀ i, i < 6 → fp i = some (P i)) (kk : ∀ dq, z_W X Mw 0 0 28 [(0, .ref x), (1, .long dq)] []) : ∀ (d jx : Nat) (dq : Int64), jx + d = 9 → z_W X Mw 0 0 6 [(3, .int (nI jx)), (0, .ref x), (1, .long dq)] [] := by
  intro d
  induction d with
  | zero =>
    intro jx dq hd
    refine z_iload_n C dX3_digest_6 rfl 0 rfl ?_
    refine z_bipush C (v := 8) dX3_digest_7 (by decide) ?_
    refine z_icmp_gt C (tgt := 28) dX3_digest_9 (by decide) (fun _ => ?_) (fun c9 => absurd (nI_gt9 (b := 8) (a := jx) (by omega) (by omega)) c9)
    refine z_fewer [1, 2] rfl ?_
    exact kk _
  | succ d ih =>
    intro jx dq hd
    refine z_iload_n C dX3_digest_6 rfl 0 rfl ?_
    refine z_bipush C (v := 8) dX3_digest_7 (by decide) ?_
    refine z_icmp_gt C (tgt := 28) dX3_digest_9 (by decide) (fun c9 => absurd c9 (nI_ngt9 (a := jx) (b := 8) (by omega) (by omega))) (fun _ => ?_)
    refine z_lload_n C dX3_digest_12 rfl 2 rfl ?_
    refine z_aload_n C dX3_digest_13 rfl 1 rfl ?_
    refine z_iload_n C dX3_digest_14 rfl 0 rfl ?_
    refine z_callVi (rest := [.long dq]) (k' := 0) (n' := 0) C (a_X3_houseNumber (z_l X) hC hok (nI jx) (z_is08 (by omega))) (cs_X3_185 C (by decide)) hC.1 rfl rfl rfl rfl (Nat.le_of_ble_eq_true rfl) rfl rfl (Nat.le_of_ble_eq_true rfl) (Nat.le_of_ble_eq_true rfl) dX3_digest_15 (fun x15 Mq15 hq => ?_)
    obtain ⟨-, rfl⟩ := hq
    refine z_callSl (rest := []) (k' := 0) (n' := 0) C (c_X3_mix (z_l X) (z_G X) ) (cs_X3_203 C (by decide)) rfl rfl (Nat.le_of_ble_eq_true rfl) rfl rfl (Nat.le_of_ble_eq_true rfl) (Nat.le_of_ble_eq_true rfl) dX3_digest_18 (fun x18 M' hq => ?_)
    obtain ⟨rfl, rfl⟩ := hq
    refine z_lstore_n (lv' := [(1, .long ((dq * 31) + x15.toInt64)), (3, .int (nI jx)), (0, .ref x)]) C dX3_digest_21 rfl (by decide) rfl ?_
    refine z_iinc (v := nI (jx + 1)) (lv' := [(3, .int (nI (jx + 1))), (1, .long ((dq * 31) + x15.toInt64)), (0, .ref x)]) C dX3_digest_22 1 rfl (nI_1 jx) (by decide) rfl ?_
    refine z_goto C (tgt := 6) dX3_digest_25 (by decide) ?_
    refine z_fewer [0, 2, 1] rfl ?_
    exact ih (jx + 1) _ (by omega)
set_option maxRecDepth 20000 in
theorem lp_X3_d2 {X : zX} (C : z_C X cX3_digest RX3 5 (z_rm 12 468 15184)) {u : sS} {x : Nat} {P RA VA : Nat → Nat} {pa sp ln rf sb t : Nat} (hok : s_ok t u) (kk : ∀ dq Mw, CI (z_G X) u x P RA VA pa sp ln rf sb Mw → z_W X Mw (6 * 72) (6 * 2336) 57 [(0, .ref x), (1, .long dq)] []) : ∀ (d jx : Nat) (dq : Int64) (Mw : zM), jx + d = 6 → CI (z_G X) u x P RA VA pa sp ln rf sb Mw → z_W X Mw (jx * 72) (jx * 2336) 30 [(3, .int (nI jx)), (0, .ref x), (1, .long dq)] [] := by
  intro d
  induction d with
  | zero =>
    intro jx dq Mw hd hC
    obtain ⟨fp, hpa, hfp⟩ := CI_pa hC
    refine z_iload_n C dX3_digest_30 rfl 0 rfl ?_
    refine z_aload_n C dX3_digest_31 rfl 1 rfl ?_
    refine gf_X3_20 C hC.1 dX3_digest_32 ?_
    refine z_alenP C (v := 6) hpa (by decide) dX3_digest_35 ?_
    refine z_icmp_ge C (tgt := 57) dX3_digest_36 (by decide) (fun _ => ?_) (fun c36 => absurd (nI_le (b := jx) (a := 6) (by omega) (by omega)) c36)
    have e9 : jx = 6 := by omega
    subst e9
    refine z_fewer [1, 2] rfl ?_
    exact kk _ _ hC
  | succ d ih =>
    intro jx dq Mw hd hC
    obtain ⟨fp, hpa, hfp⟩ := CI_pa hC
    refine z_iload_n C dX3_digest_30 rfl 0 rfl ?_
    refine z_aload_n C dX3_digest_31 rfl 1 rfl ?_
    refine gf_X3_20 C hC.1 dX3_digest_32 ?_
    refine z_alenP C (v := 6) hpa (by decide) dX3_digest_35 ?_
    refine z_icmp_ge C (tgt := 57) dX3_digest_36 (by decide) (fun c36 => absurd c36 (nI_ge (a := jx) (b := 6) (by omega) (by omega))) (fun _ => ?_)
    refine z_aload_n C dX3_digest_39 rfl 1 rfl ?_
    refine z_lload_n C dX3_digest_40 rfl 2 rfl ?_
    refine z_aload_n C dX3_digest_41 rfl 1 rfl ?_
    refine gf_X3_20 C hC.1 dX3_digest_42 ?_
    refine z_iload_n C dX3_digest_45 rfl 0 rfl ?_
    refine z_aaldP (j := jx) C hpa (vp_in_nI (by omega) (by decide)) (nI_clamp (by omega)) (hfp jx (by omega)) dX3_digest_46 ?_
    refine z_callVl (rest := []) (k' := jx * 72 + 72) (n' := jx * 2336 + 2336) C (a_X3_mixPane (z_l X) hC hok (i := jx) (by omega)) (cs_X3_207 C (by decide)) hC.1 rfl rfl rfl rfl (Nat.le_of_ble_eq_true rfl) rfl rfl (by show _ ≤ 468; omega) (by show _ ≤ 15184; omega) dX3_digest_47 (fun x47 Mq47 hq => ?_)
    have hC47 := hq
    refine z_lstore_n (lv' := [(1, .long x47), (3, .int (nI jx)), (0, .ref x)]) C dX3_digest_50 rfl (by decide) rfl ?_
    refine z_iinc (v := nI (jx + 1)) (lv' := [(3, .int (nI (jx + 1))), (1, .long x47), (0, .ref x)]) C dX3_digest_51 1 rfl (nI_1 jx) (by decide) rfl ?_
    refine z_goto C (tgt := 30) dX3_digest_54 (by decide) ?_
    refine z_kn (k' := (jx + 1) * 72) (n' := (jx + 1) * 2336) (by omega) (by omega) ?_
    refine z_fewer [0, 2, 1] rfl ?_
    exact ih (jx + 1) _ _ (by omega) hC47
set_option maxRecDepth 20000 in
theorem lp_X3_d3 {X : zX} (C : z_C X cX3_digest RX3 5 (z_rm 12 468 15184)) {u : sS} {x : Nat} {P RA VA : Nat → Nat} {pa sp ln rf sb t : Nat} (hok : s_ok t u) {Mw : zM} (hC : CI (z_G X) u x P RA VA pa sp ln rf sb Mw) {fp : Nat → Option Nat} (hpa : Mw pa = some (aP (z_G X) 6 fp)) (hfp : ∀ i, i < 6 → fp i = some (P i)) (kk : ∀ dq, z_W X Mw (6 * 72) (6 * 2336) 132 [(0, .ref x), (1, .long dq)] []) : ∀ (d jx : Nat) (dq : Int64), jx + d = 6 → z_W X Mw (6 * 72) (6 * 2336) 59 [(3, .int (nI jx)), (0, .ref x), (1, .long dq)] [] := by
  intro d
  induction d with
  | zero =>
    intro jx dq hd
    refine z_iload_n C dX3_digest_59 rfl 0 rfl ?_
    refine z_aload_n C dX3_digest_60 rfl 1 rfl ?_
    refine gf_X3_20 C hC.1 dX3_digest_61 ?_
    refine z_alenP C (v := 6) hpa (by decide) dX3_digest_64 ?_
    refine z_icmp_ge C (tgt := 132) dX3_digest_65 (by decide) (fun _ => ?_) (fun c65 => absurd (nI_le (b := jx) (a := 6) (by omega) (by omega)) c65)
    refine z_fewer [1, 2] rfl ?_
    exact kk _
  | succ d ih =>
    intro jx dq hd
    refine z_iload_n C dX3_digest_59 rfl 0 rfl ?_
    refine z_aload_n C dX3_digest_60 rfl 1 rfl ?_
    refine gf_X3_20 C hC.1 dX3_digest_61 ?_
    refine z_alenP C (v := 6) hpa (by decide) dX3_digest_64 ?_
    refine z_icmp_ge C (tgt := 132) dX3_digest_65 (by decide) (fun c65 => absurd c65 (nI_ge (a := jx) (b := 6) (by omega) (by omega))) (fun _ => ?_)
    refine z_aload_n C dX3_digest_68 rfl 1 rfl ?_
    refine gf_X3_20 C hC.1 dX3_digest_69 ?_
    refine z_iload_n C dX3_digest_72 rfl 0 rfl ?_
    refine z_iconst C (v := 1) dX3_digest_73 (by decide) ?_
    refine z_iadd C dX3_digest_74 ?_
    refine z_aload_n C dX3_digest_75 rfl 1 rfl ?_
    refine gf_X3_20 C hC.1 dX3_digest_76 ?_
    refine z_alenP C (v := 6) hpa (by decide) dX3_digest_79 ?_
    refine z_icmp_ge C (tgt := 89) dX3_digest_80 (by decide) (fun c80 => ?_) (fun c80 => ?_)
    · refine z_iconst C (v := 0) dX3_digest_89 (by decide) ?_
      refine z_aaldP (j := 0) C hpa (z_inL (by decide)) (by decide) (hfp 0 (by omega)) dX3_digest_90 ?_
      refine z_astore (lv' := [(4, .ref (P 0)), (3, .int (nI jx)), (0, .ref x), (1, .long dq)]) C dX3_digest_91 (by decide) rfl ?_
      refine z_lload_n C dX3_digest_93 rfl 3 rfl ?_
      refine z_aload_n C dX3_digest_94 rfl 2 rfl ?_
      refine gf_X3_20 C hC.1 dX3_digest_95 ?_
      refine z_iload_n C dX3_digest_98 rfl 1 rfl ?_
      refine z_aaldP (j := jx) C hpa (vp_in_nI (by omega) (by decide)) (nI_clamp (by omega)) (hfp jx (by omega)) dX3_digest_99 ?_
      refine z_aload C dX3_digest_100 0 rfl ?_
      refine z_callSi (rest := [.long dq]) (k' := 6 * 72) (n' := 6 * 2336) C (a_X3_kinW (z_l X) hC hok (i := jx) (k := 0) (by omega) (by omega)) (cs_X3_177 C (by decide)) rfl rfl (Nat.le_of_ble_eq_true rfl) rfl rfl (Nat.le_of_ble_eq_true rfl) (Nat.le_of_ble_eq_true rfl) dX3_digest_102 (fun x102 Mq102 hq => ?_)
      obtain rfl := hq
      refine z_callSl (rest := []) (k' := 6 * 72) (n' := 6 * 2336) C (c_X3_mix (z_l X) (z_G X) ) (cs_X3_203 C (by decide)) rfl rfl (Nat.le_of_ble_eq_true rfl) rfl rfl (Nat.le_of_ble_eq_true rfl) (Nat.le_of_ble_eq_true rfl) dX3_digest_105 (fun x105 M' hq => ?_)
      obtain ⟨rfl, rfl⟩ := hq
      refine z_lstore_n (lv' := [(1, .long ((dq * 31) + x102.toInt64)), (4, .ref (P 0)), (3, .int (nI jx)), (0, .ref x)]) C dX3_digest_108 rfl (by decide) rfl ?_
      refine z_lload_n C dX3_digest_109 rfl 0 rfl ?_
      refine z_aload_n C dX3_digest_110 rfl 3 rfl ?_
      refine gf_X3_20 C hC.1 dX3_digest_111 ?_
      refine z_iload_n C dX3_digest_114 rfl 2 rfl ?_
      refine z_aaldP (j := jx) C hpa (vp_in_nI (by omega) (by decide)) (nI_clamp (by omega)) (hfp jx (by omega)) dX3_digest_115 ?_
      refine z_iconst C (v := 0) dX3_digest_116 (by decide) ?_
      refine z_aload C dX3_digest_117 1 rfl ?_
      refine z_callSi (rest := [.long ((dq * 31) + x102.toInt64)]) (k' := 6 * 72) (n' := 6 * 2336) C (a_X3_idxW (z_l X) hC hok (i := jx) (k := 0) (by omega) (by omega) 0) (cs_X3_181 C (by decide)) rfl rfl (Nat.le_of_ble_eq_true rfl) rfl rfl (Nat.le_of_ble_eq_true rfl) (Nat.le_of_ble_eq_true rfl) dX3_digest_119 (fun x119 Mq119 hq => ?_)
      obtain rfl := hq
      refine z_callSl (rest := []) (k' := 6 * 72) (n' := 6 * 2336) C (c_X3_mix (z_l X) (z_G X) ) (cs_X3_203 C (by decide)) rfl rfl (Nat.le_of_ble_eq_true rfl) rfl rfl (Nat.le_of_ble_eq_true rfl) (Nat.le_of_ble_eq_true rfl) dX3_digest_122 (fun x122 M' hq => ?_)
      obtain ⟨rfl, rfl⟩ := hq
      refine z_lstore_n (lv' := [(1, .long ((((dq * 31) + x102.toInt64) * 31) + x119.toInt64)), (4, .ref (P 0)), (3, .int (nI jx)), (0, .ref x)]) C dX3_digest_125 rfl (by decide) rfl ?_
      refine z_iinc (v := nI (jx + 1)) (lv' := [(3, .int (nI (jx + 1))), (1, .long ((((dq * 31) + x102.toInt64) * 31) + x119.toInt64)), (4, .ref (P 0)), (0, .ref x)]) C dX3_digest_126 2 rfl (nI_1 jx) (by decide) rfl ?_
      refine z_goto C (tgt := 59) dX3_digest_129 (by decide) ?_
      refine z_fewer [0, 3, 1] rfl ?_
      exact ih (jx + 1) _ (by omega)
    · have hj9 : jx + 1 < 6 := Nat.lt_of_not_le fun q => c80 (by rw [nI_1]; exact nI_le (b := jx + 1) (a := 6) (by omega) (by omega))
      refine z_iload_n C dX3_digest_83 rfl 0 rfl ?_
      refine z_iconst C (v := 1) dX3_digest_84 (by decide) ?_
      refine z_iadd C dX3_digest_85 ?_
      refine z_goto C (tgt := 90) dX3_digest_86 (by decide) ?_
      refine z_aaldP (j := (jx + 1)) C hpa (show vp_in (nI jx + 1) 6 by rw [nI_1]; exact vp_in_nI (by omega) (by decide)) (show (nI jx + 1).toNatClampNeg = jx + 1 by rw [nI_1]; exact nI_clamp (by omega)) (hfp (jx + 1) (by omega)) dX3_digest_90 ?_
      refine z_astore (lv' := [(4, .ref (P (jx + 1))), (3, .int (nI jx)), (0, .ref x), (1, .long dq)]) C dX3_digest_91 (by decide) rfl ?_
      refine z_lload_n C dX3_digest_93 rfl 3 rfl ?_
      refine z_aload_n C dX3_digest_94 rfl 2 rfl ?_
      refine gf_X3_20 C hC.1 dX3_digest_95 ?_
      refine z_iload_n C dX3_digest_98 rfl 1 rfl ?_
      refine z_aaldP (j := jx) C hpa (vp_in_nI (by omega) (by decide)) (nI_clamp (by omega)) (hfp jx (by omega)) dX3_digest_99 ?_
      refine z_aload C dX3_digest_100 0 rfl ?_
      refine z_callSi (rest := [.long dq]) (k' := 6 * 72) (n' := 6 * 2336) C (a_X3_kinW (z_l X) hC hok (i := jx) (k := jx + 1) (by omega) (by omega)) (cs_X3_177 C (by decide)) rfl rfl (Nat.le_of_ble_eq_true rfl) rfl rfl (Nat.le_of_ble_eq_true rfl) (Nat.le_of_ble_eq_true rfl) dX3_digest_102 (fun x102 Mq102 hq => ?_)
      obtain rfl := hq
      refine z_callSl (rest := []) (k' := 6 * 72) (n' := 6 * 2336) C (c_X3_mix (z_l X) (z_G X) ) (cs_X3_203 C (by decide)) rfl rfl (Nat.le_of_ble_eq_true rfl) rfl rfl (Nat.le_of_ble_eq_true rfl) (Nat.le_of_ble_eq_true rfl) dX3_digest_105 (fun x105 M' hq => ?_)
      obtain ⟨rfl, rfl⟩ := hq
      refine z_lstore_n (lv' := [(1, .long ((dq * 31) + x102.toInt64)), (4, .ref (P (jx + 1))), (3, .int (nI jx)), (0, .ref x)]) C dX3_digest_108 rfl (by decide) rfl ?_
      refine z_lload_n C dX3_digest_109 rfl 0 rfl ?_
      refine z_aload_n C dX3_digest_110 rfl 3 rfl ?_
      refine gf_X3_20 C hC.1 dX3_digest_111 ?_
      refine z_iload_n C dX3_digest_114 rfl 2 rfl ?_
      refine z_aaldP (j := jx) C hpa (vp_in_nI (by omega) (by decide)) (nI_clamp (by omega)) (hfp jx (by omega)) dX3_digest_115 ?_
      refine z_iconst C (v := 0) dX3_digest_116 (by decide) ?_
      refine z_aload C dX3_digest_117 1 rfl ?_
      refine z_callSi (rest := [.long ((dq * 31) + x102.toInt64)]) (k' := 6 * 72) (n' := 6 * 2336) C (a_X3_idxW (z_l X) hC hok (i := jx) (k := jx + 1) (by omega) (by omega) 0) (cs_X3_181 C (by decide)) rfl rfl (Nat.le_of_ble_eq_true rfl) rfl rfl (Nat.le_of_ble_eq_true rfl) (Nat.le_of_ble_eq_true rfl) dX3_digest_119 (fun x119 Mq119 hq => ?_)
      obtain rfl := hq
      refine z_callSl (rest := []) (k' := 6 * 72) (n' := 6 * 2336) C (c_X3_mix (z_l X) (z_G X) ) (cs_X3_203 C (by decide)) rfl rfl (Nat.le_of_ble_eq_true rfl) rfl rfl (Nat.le_of_ble_eq_true rfl) (Nat.le_of_ble_eq_true rfl) dX3_digest_122 (fun x122 M' hq => ?_)
      obtain ⟨rfl, rfl⟩ := hq
      refine z_lstore_n (lv' := [(1, .long ((((dq * 31) + x102.toInt64) * 31) + x119.toInt64)), (4, .ref (P (jx + 1))), (3, .int (nI jx)), (0, .ref x)]) C dX3_digest_125 rfl (by decide) rfl ?_
      refine z_iinc (v := nI (jx + 1)) (lv' := [(3, .int (nI (jx + 1))), (1, .long ((((dq * 31) + x102.toInt64) * 31) + x119.toInt64)), (4, .ref (P (jx + 1))), (0, .ref x)]) C dX3_digest_126 2 rfl (nI_1 jx) (by decide) rfl ?_
      refine z_goto C (tgt := 59) dX3_digest_129 (by decide) ?_
      refine z_fewer [0, 3, 1] rfl ?_
      exact ih (jx + 1) _ (by omega)
set_option maxRecDepth 20000 in
theorem a_X3_digest (l : Launch) {G : zG} {u : sS} {x : Nat} {P RA VA : Nat → Nat} {pa sp ln rf sb : Nat} {Mw : zM} (hC : CI G u x P RA VA pa sp ln rf sb Mw) {t : Nat} (hok : s_ok t u) : z_Ml l G qX3_digest (z_rm 12 468 15184) [.ref x] Mw (fun r Mz => CI G u x P RA VA pa sp ln rf sb Mz)  := by
  obtain ⟨fp, hpa, hfp⟩ := CI_pa hC
  refine z_Ml_of _ (plainFor_of_name rfl) rfl (Nat.le_of_ble_eq_true rfl) (fun X hl hG hnm C ret => ?_)
  subst hl; subst hG
  have C : z_C X cX3_digest RX3 5 (z_rm 12 468 15184) := C
  show z_W X Mw 0 0 0 [(0, .ref x)] []
  refine z_ldc2 C (v := 8017) kw623 dX3_digest_0 ?_
  refine z_lstore_n (lv' := [(1, .long 8017), (0, .ref x)]) C dX3_digest_3 rfl (by decide) rfl ?_
  refine z_iconst C (v := 0) dX3_digest_4 (by decide) ?_
  refine z_istore_n (lv' := [(3, .int 0), (1, .long 8017), (0, .ref x)]) C dX3_digest_5 rfl (by decide) rfl ?_
  refine z_fewer [0, 2, 1] rfl ?_
  refine z_at (M' := _) (lv' := [(3, .int (nI 0)), (0, .ref x), (1, .long 8017)]) rfl (by rw [nI_0]; rfl) rfl ?_
  refine lp_X3_d1 C hok hC hpa hfp (fun dq => ?_) 9 0 _ (Nat.zero_add _)
  refine z_iconst C (v := 0) dX3_digest_28 (by decide) ?_
  refine z_istore_n (lv' := [(3, .int 0), (0, .ref x), (1, .long dq)]) C dX3_digest_29 rfl (by decide) rfl ?_
  refine z_fewer [0, 1, 2] rfl ?_
  refine z_at (M' := _) (lv' := [(3, .int (nI 0)), (0, .ref x), (1, .long dq)]) rfl (by rw [nI_0]; rfl) rfl ?_
  refine z_kn (k' := 0 * 72) (n' := 0 * 2336) rfl rfl ?_
  refine lp_X3_d2 C hok (fun dq Mz hC2 => ?_) 6 0 _ _ (Nat.zero_add _) hC
  obtain ⟨fp2, hpa2, hfp2⟩ := CI_pa hC2
  refine z_iconst C (v := 0) dX3_digest_57 (by decide) ?_
  refine z_istore_n (lv' := [(3, .int 0), (0, .ref x), (1, .long dq)]) C dX3_digest_58 rfl (by decide) rfl ?_
  refine z_fewer [0, 1, 2] rfl ?_
  refine z_at (M' := _) (lv' := [(3, .int (nI 0)), (0, .ref x), (1, .long dq)]) rfl (by rw [nI_0]; rfl) rfl ?_
  refine lp_X3_d3 C hok hC2 hpa2 hfp2 (fun dq => ?_) 6 0 _ (Nat.zero_add _)
  refine z_kn (k' := 432) (n' := 14016) rfl rfl ?_
  refine z_aload_n C dX3_digest_132 rfl 0 rfl ?_
  refine z_callVv (rest := []) (k' := 468) (n' := 15184) C (a_X3_beginLongRow (z_l X) hC2 hok) (cs_X3_174 C (by decide)) hC2.1 rfl rfl rfl rfl (Nat.le_of_ble_eq_true rfl) rfl rfl (Nat.le_of_ble_eq_true rfl) (Nat.le_of_ble_eq_true rfl) dX3_digest_133 (fun Mq133 hq => ?_)
  obtain ⟨hC3, vb1, c1, n1, hc1, hB1⟩ := hq
  refine z_aload_n C dX3_digest_136 rfl 0 rfl ?_
  refine z_lload_n C dX3_digest_137 rfl 1 rfl ?_
  refine z_callVl (rest := []) (k' := 468) (n' := 15184) C (a_X3_mixLine (z_l X) hC3 hok hB1) (cs_X3_211 C (by decide)) hC3.1 rfl rfl rfl rfl (Nat.le_of_ble_eq_true rfl) rfl rfl (Nat.le_of_ble_eq_true rfl) (Nat.le_of_ble_eq_true rfl) dX3_digest_138 (fun x138 Mq138 hq => ?_)
  obtain rfl := hq
  refine z_lstore_n (lv' := [(1, .long x138), (0, .ref x)]) C dX3_digest_141 rfl (by decide) rfl ?_
  refine z_lload_n C dX3_digest_142 rfl 0 rfl ?_
  refine z_aload_n C dX3_digest_143 rfl 1 rfl ?_
  refine z_callVi (rest := [.long x138]) (k' := 468) (n' := 15184) C (a_X3_isSound (z_l X) hC3 hok) (cs_X3_215 C (by decide)) hC3.1 rfl rfl rfl rfl (Nat.le_of_ble_eq_true rfl) rfl rfl (Nat.le_of_ble_eq_true rfl) (Nat.le_of_ble_eq_true rfl) dX3_digest_144 (fun x144 Mq144 hq => ?_)
  obtain ⟨e144, hC4⟩ := hq
  rw [e144]
  refine z_if_eq C (tgt := 154) dX3_digest_147 (by decide) (fun c147 => absurd c147 (by decide)) (fun _ => ?_)
  refine z_iconst C (v := 1) dX3_digest_150 (by decide) ?_
  refine z_goto C (tgt := 155) dX3_digest_151 (by decide) ?_
  refine z_callSl (rest := []) (k' := 468) (n' := 15184) C (c_X3_mix (z_l X) (z_G X) ) (cs_X3_203 C (by decide)) rfl rfl (Nat.le_of_ble_eq_true rfl) rfl rfl (Nat.le_of_ble_eq_true rfl) (Nat.le_of_ble_eq_true rfl) dX3_digest_155 (fun x155 M' hq => ?_)
  obtain ⟨rfl, rfl⟩ := hq
  refine ret dX3_digest_158 ?_ (Nat.le_of_ble_eq_true rfl) (Nat.le_of_ble_eq_true rfl)
  exact hC4
end
section
/-! PART 61: constructors: a pane, a line, Out; private constructors of nest mates -/
section ZKN
variable {X : zX} {cc : ByteArray} {own host : String} {nL : Nat} {rm : Room} {M : zM} {k n pc : Nat} {lv : List (Nat × Value)} {st rest : List Value} {q : zY} {rmc : Room} {index b N : Nat} {As : List Value}
theorem z_cwIN (C : z_C X cc own nL rm) (hq : Cond.code q.1 q.2.1 q.2.2.1 q.2.2.2 ∈ gw) (hr : q.2.2.2 = none) (hl : Cond.methodLinkNest own index q.1 host ∈ z_nest) (hi : Cond.instanceMethod q.1 ∈ gw) (hc : Cond.initialized q.1.cls ∈ gw) (hn : q.1.name = "<init>") (hd : q.1.cls ≠ "java/lang/invoke/MethodHandle" ∧ q.1.cls ≠ "java/lang/invoke/VarHandle" ∧ (parseMethodDescriptor q.1.desc).map (fun d => d.parameters.length) = some N) (hR : rmc.frames + 1 ≤ rm.frames ∧ 8 + (q.2.2.1 + 11) + rmc.locals ≤ rm.locals) :
    va_CN (z_R X) (z_s X) (z_a X) own index q.1 host q.2.1 q.2.2.1 none (z_ws q) rmc rmc.cells rmc.slots N ∧ q.1.name = "<init>" ∧ (Cond.instanceMethod q.1).before (z_a X) (z_s X) = true :=
  ⟨by have h := va_cnB (R := z_R X) (rm := rmc) (bytes := q.2.1) (maxL := q.2.2.1) (ret := q.2.2.2) (index := index) (own := own) (host := host) N C.2.2.2.2.1 (z_good hq) rfl rfl rfl (C.2.2.2.2.2.2.1.1.2.1 _ _ _ _ hl) (z_tow C hc) hd (by rw [C.2.2.2.2.2.2.2.2]; exact hR); rw [hr] at h; exact h, hn, z_tow C hi⟩
theorem z_callIN {post : zM → Prop} (C : z_C X cc own nL rm) (hM : z_Mv (z_l X) (z_G X) q rmc (.ref b :: As) M post) (cw : va_CN (z_R X) (z_s X) (z_a X) own index q.1 host q.2.1 q.2.2.1 none (z_ws q) rmc rmc.cells rmc.slots N ∧ q.1.name = "<init>" ∧ (Cond.instanceMethod q.1).before (z_a X) (z_s X) = true) (hN : As.length = N) (hst : st = As.reverse ++ .ref b :: rest) (hcat : (rest.map fun v => v.category).sum ≤ 8) {k' n' : Nat} (ek : k + rmc.cells = k') (en : n + rmc.slots = n') (hk : k' ≤ rm.cells) (hn : n' ≤ rm.slots) (d : decode cc pc = .ok (.invokespecial index, 3))
    (kk : ∀ (M' : zM), post M' → z_W X M' k' n' (pc + 3) lv rest) : z_W X M k n pc lv st := by
  subst hst; subst ek; subst en
  intro H locs ls h1 h2 h3 h4
  have hs := z_sub C h2 h3
  exact va_callv (va_runIN ⟨C.1, C.2.1, rfl, C.2.2.2.1, C.2.2.2.2.1⟩ (hM H.size) cw ⟨z_blind, fun U hU hW => ⟨rfl, z_pre C h1 h2 h3 hU hW⟩⟩ rfl hN h4.1 rfl (lv_room hcat) d (by rw [C.2.2.2.2.2.2.2.2]; exact ⟨hk, hn⟩)) h3 (fun q _ h => hs q h) hs
    (fun M' t H1 locs1 ht hvm hp hB hz hk1 hS => kk M' hp H1 locs1 ls (by rw [← ht]; exact hB.1) (fun a e h => hs a (hB.2 a e h)) hS h4)
end ZKN
theorem cs_X3_33 {X : zX} {cc : ByteArray} {nL : Nat} {rm rmc : Room} (C : z_C X cc RX3 nL rm) (hR : rmc.frames + 1 ≤ rm.frames ∧ 8 + (1 + 11) + rmc.locals ≤ rm.locals) : va_CN (z_R X) (z_s X) (z_a X) RX3 33 (qX0_init).1 "Manypanes" (qX0_init).2.1 (qX0_init).2.2.1 none (z_ws qX0_init) rmc rmc.cells rmc.slots 0 ∧ (qX0_init).1.name = "<init>" ∧ (Cond.instanceMethod (qX0_init).1).before (z_a X) (z_s X) = true := z_cwIN (q := qX0_init) C kc_X0_init rfl kn91 kw92 kw4 rfl (by decide +kernel) hR
theorem cs_L_143 {X : zX} {cc : ByteArray} {nL : Nat} {rm rmc : Room} (C : z_C X cc RL nL rm) (hR : rmc.frames + 1 ≤ rm.frames ∧ 8 + (1 + 11) + rmc.locals ≤ rm.locals) : va_CN (z_R X) (z_s X) (z_a X) RL 143 (qX4_init).1 "ManypanesLaw" (qX4_init).2.1 (qX4_init).2.2.1 none (z_ws qX4_init) rmc rmc.cells rmc.slots 0 ∧ (qX4_init).1.name = "<init>" ∧ (Cond.instanceMethod (qX4_init).1).before (z_a X) (z_s X) = true := z_cwIN (q := qX4_init) C kc_X4_init rfl kn679 kw680 kw10 rfl (by decide +kernel) hR
theorem dX1_init_0 : decode cX1_init 0 = .ok (.aload_n 0, 1) := by decide +kernel
theorem dX1_init_1 : decode cX1_init 1 = .ok (.invokespecial 3, 3) := by decide +kernel
theorem dX1_init_4 : decode cX1_init 4 = .ok (.aload_n 0, 1) := by decide +kernel
theorem dX1_init_5 : decode cX1_init 5 = .ok (.aload_n 1, 1) := by decide +kernel
theorem dX1_init_6 : decode cX1_init 6 = .ok (.putfield 9, 3) := by decide +kernel
theorem dX1_init_9 : decode cX1_init 9 = .ok (.aload_n 0, 1) := by decide +kernel
theorem dX1_init_10 : decode cX1_init 10 = .ok (.iconst 0, 1) := by decide +kernel
theorem dX1_init_11 : decode cX1_init 11 = .ok (.putfield 15, 3) := by decide +kernel
theorem dX1_init_14 : decode cX1_init 14 = .ok (.aload_n 0, 1) := by decide +kernel
theorem dX1_init_15 : decode cX1_init 15 = .ok (.aload_n 1, 1) := by decide +kernel
theorem dX1_init_16 : decode cX1_init 16 = .ok (.invokevirtual 19, 3) := by decide +kernel
theorem dX1_init_19 : decode cX1_init 19 = .ok (.putfield 25, 3) := by decide +kernel
theorem dX1_init_22 : decode cX1_init 22 = .ok (.aload_n 0, 1) := by decide +kernel
theorem dX1_init_23 : decode cX1_init 23 = .ok (.iconst 0, 1) := by decide +kernel
theorem dX1_init_24 : decode cX1_init 24 = .ok (.putfield 28, 3) := by decide +kernel
theorem dX1_init_27 : decode cX1_init 27 = .ok (.aload_n 0, 1) := by decide +kernel
theorem dX1_init_28 : decode cX1_init 28 = .ok (.aload_n 0, 1) := by decide +kernel
theorem dX1_init_29 : decode cX1_init 29 = .ok (.getfield 25, 3) := by decide +kernel
theorem dX1_init_32 : decode cX1_init 32 = .ok (.putfield 31, 3) := by decide +kernel
theorem dX1_init_35 : decode cX1_init 35 = .ok (.aload_n 0, 1) := by decide +kernel
theorem dX1_init_36 : decode cX1_init 36 = .ok (.iconst (-1), 1) := by decide +kernel
theorem dX1_init_37 : decode cX1_init 37 = .ok (.putfield 34, 3) := by decide +kernel
theorem dX1_init_40 : decode cX1_init 40 = .ok (.aload_n 0, 1) := by decide +kernel
theorem dX1_init_41 : decode cX1_init 41 = .ok (.iconst 0, 1) := by decide +kernel
theorem dX1_init_42 : decode cX1_init 42 = .ok (.putfield 37, 3) := by decide +kernel
theorem dX1_init_45 : decode cX1_init 45 = .ok (.return_, 1) := by decide +kernel
theorem dX0_init_0 : decode cX0_init 0 = .ok (.aload_n 0, 1) := by decide +kernel
theorem dX0_init_1 : decode cX0_init 1 = .ok (.invokespecial 1, 3) := by decide +kernel
theorem dX0_init_4 : decode cX0_init 4 = .ok (.aload_n 0, 1) := by decide +kernel
theorem dX0_init_5 : decode cX0_init 5 = .ok (.new 7, 3) := by decide +kernel
theorem dX0_init_8 : decode cX0_init 8 = .ok (.dup, 1) := by decide +kernel
theorem dX0_init_9 : decode cX0_init 9 = .ok (.invokespecial 9, 3) := by decide +kernel
theorem dX0_init_12 : decode cX0_init 12 = .ok (.putfield 10, 3) := by decide +kernel
theorem dX0_init_15 : decode cX0_init 15 = .ok (.return_, 1) := by decide +kernel
theorem dX4_init_0 : decode cX4_init 0 = .ok (.aload_n 0, 1) := by decide +kernel
theorem dX4_init_1 : decode cX4_init 1 = .ok (.invokespecial 1, 3) := by decide +kernel
theorem dX4_init_4 : decode cX4_init 4 = .ok (.return_, 1) := by decide +kernel
set_option maxRecDepth 20000 in
theorem c_X1_init (l : Launch) (G : zG) {M : zM} {p : Nat} {ov : Nat} {vs : Nat} {nv : Nat} {fv : Nat → Int32}  (h_p : M p = some (.inr (5, [.null, .int 0, .int 0, .int 0, .int 0, .int 0, .int 0]))) (h_ov : M ov = some (cRw vs)) (h_vs : M vs = some (aI G nv fv))  : z_Mv l G qX1_init (z_rm 2 0 0) [.ref p, .ref ov] M (fun M' => M' = z_up M p (.inr (5, [.ref ov, .int 0, .int (Int32.ofNat nv), .int 0, .int (Int32.ofNat nv), .int (-1), .int 0])))  := by
  refine z_Mv_of _ (plainFor_of_name rfl) rfl (Nat.le_of_ble_eq_true rfl) (fun X hl hG hnm C ret => ?_)
  subst hl; subst hG
  have C : z_C X cX1_init RX1 2 (z_rm 2 0 0) := C
  show z_W X M 0 0 0 [(0, .ref p), (1, .ref ov)] []
  refine z_aload_n C dX1_init_0 rfl 0 rfl ?_
  refine z_objInit (rest := []) C kw51 kw32 kw33 (by decide) (Nat.le_of_ble_eq_true rfl) dX1_init_1 ?_
  refine z_aload_n C dX1_init_4 rfl 0 rfl ?_
  refine z_aload_n C dX1_init_5 rfl 1 rfl ?_
  refine pr_X1_9 C rfl rfl h_p dX1_init_6 ?_
  refine z_aload_n C dX1_init_9 rfl 0 rfl ?_
  refine z_iconst C (v := 0) dX1_init_10 (by decide) ?_
  refine pq_X1_15 C rfl rfl dX1_init_11 ?_
  refine z_aload_n C dX1_init_14 rfl 0 rfl ?_
  refine z_aload_n C dX1_init_15 rfl 1 rfl ?_
  refine z_callVi (rest := [.ref p]) (k' := 0) (n' := 0) C (c_X2_length (z_l X) (z_G X) ((z_up_n _ _ (z_ne h_ov h_p (by intro h; cases h))).trans h_ov) ((z_up_n _ _ (z_ne h_vs h_p (by intro h; cases h))).trans h_vs)) (cs_X1_19 C (by decide)) ((z_up_n _ _ (z_ne h_ov h_p (by intro h; cases h))).trans h_ov) rfl rfl rfl rfl (Nat.le_of_ble_eq_true rfl) rfl rfl (by decide) (by decide) dX1_init_16 (fun x16 M' hq => ?_)
  obtain ⟨rfl, rfl⟩ := hq
  refine pq_X1_25 C rfl rfl dX1_init_19 ?_
  refine z_aload_n C dX1_init_22 rfl 0 rfl ?_
  refine z_iconst C (v := 0) dX1_init_23 (by decide) ?_
  refine pq_X1_28 C rfl rfl dX1_init_24 ?_
  refine z_aload_n C dX1_init_27 rfl 0 rfl ?_
  refine z_aload_n C dX1_init_28 rfl 0 rfl ?_
  refine gr_X1_25 C (z_up_s _ _ _) dX1_init_29 ?_
  refine pq_X1_31 C rfl rfl dX1_init_32 ?_
  refine z_aload_n C dX1_init_35 rfl 0 rfl ?_
  refine z_iconst C (v := (-1)) dX1_init_36 (by decide) ?_
  refine pq_X1_34 C rfl rfl dX1_init_37 ?_
  refine z_aload_n C dX1_init_40 rfl 0 rfl ?_
  refine z_iconst C (v := 0) dX1_init_41 (by decide) ?_
  refine pq_X1_37 C rfl rfl dX1_init_42 ?_
  exact ret dX1_init_45 (rfl) (by decide) (by decide)
set_option maxRecDepth 20000 in
theorem c_X0_init (l : Launch) (G : zG) {M : zM} {ln : Nat}  (h_ln : M ln = some (.inr (4, [.null])))  : z_Mv l G qX0_init (z_rm 4 2 20) [.ref ln] M (fun M' => ∃ q5 : Nat, (M) q5 = none ∧ ∃ q12_3_9 : Nat, (z_up M q5 (.inr (1, [.null, .int 0, .int 0, .int 0]))) q12_3_9 = none ∧ M' = z_up (z_up (z_up M q12_3_9 (aB G 16 (fun _ => 0))) q5 (.inr (1, [.ref q12_3_9, .int 0, .int 0, .int 0]))) ln (.inr (4, [.ref q5])))  := by
  refine z_Mv_of _ (plainFor_of_name rfl) rfl (Nat.le_of_ble_eq_true rfl) (fun X hl hG hnm C ret => ?_)
  subst hl; subst hG
  have C : z_C X cX0_init RX0 1 (z_rm 4 2 20) := C
  show z_W X M 0 0 0 [(0, .ref ln)] []
  refine z_aload_n C dX0_init_0 rfl 0 rfl ?_
  refine z_objInit (rest := []) C kw94 kw32 kw33 ⟨Nat.le_of_ble_eq_true rfl, Nat.le_of_ble_eq_true rfl⟩ (Nat.le_of_ble_eq_true rfl) dX0_init_1 ?_
  refine z_aload_n C dX0_init_4 rfl 0 rfl ?_
  refine z_new (ci := 1) (fs := [.null, .int 0, .int 0, .int 0]) C rfl inJ4 tyJ4 tyJ4_ok kw95 kw96 kw6 (fun j hj => by rcases (show j = 0 ∨ j = 1 ∨ j = 2 ∨ j = 3 by omega) with rfl | rfl | rfl | rfl <;> rfl) (by decide) (by decide) dX0_init_5 (fun q5 hq5 => ?_)
  refine z_kn (k' := 1) (n' := 4) rfl rfl ?_
  refine z_dup C dX0_init_8 rfl ?_
  refine z_callI (rest := [.ref q5, .ref ln]) (k' := 2) (n' := 20) C (c_J4_init_da8c8 (z_l X) (z_G X) (z_up_s _ _ _)) (cs_X0_9 C ⟨Nat.le_of_ble_eq_true rfl, Nat.le_of_ble_eq_true rfl⟩) rfl rfl (Nat.le_of_ble_eq_true rfl) rfl rfl (by decide) (by decide) dX0_init_9 (fun M' hq => ?_)
  obtain ⟨q12_3_9, hq12_3_9, rfl⟩ := hq
  rw [z_up_swap _ (z_neN (z_up_s _ _ _) hq12_3_9)]
  rw [z_up_up]
  refine pr_X0_10 C hnm rfl rfl ((z_up_n _ _ (z_neN h_ln hq5)).trans ((z_up_n _ _ (z_neN ((z_up_n _ _ (z_neN h_ln hq5)).trans h_ln) hq12_3_9)).trans h_ln)) dX0_init_12 ?_
  exact ret dX0_init_15 (⟨q5, hq5, q12_3_9, hq12_3_9, rfl⟩) (by decide) (by decide)
set_option maxRecDepth 20000 in
theorem c_X4_init (l : Launch) (G : zG) {M : zM} {ou : Nat}  (h_ou : M ou = some (.inr (8, [.long 0, .null])))  : z_Mv l G qX4_init (z_rm 1 0 0) [.ref ou] M (fun M' => M' = M)  := by
  refine z_Mv_of _ (plainFor_of_name rfl) rfl (Nat.le_of_ble_eq_true rfl) (fun X hl hG hnm C ret => ?_)
  subst hl; subst hG
  have C : z_C X cX4_init RX4 1 (z_rm 1 0 0) := C
  show z_W X M 0 0 0 [(0, .ref ou)] []
  refine z_aload_n C dX4_init_0 rfl 0 rfl ?_
  refine z_objInit (rest := []) C kw682 kw32 kw33 (by decide) (Nat.le_of_ble_eq_true rfl) dX4_init_1 ?_
  exact ret dX4_init_4 (rfl) (by decide) (by decide)
end
section
/-! PART 62: a new object of the class -/
def s_p0 (i : Nat) : sP := if i < 4 then (0, 0, 16, 0, 16, -1, 0) else (i - 3, 0, 8, 0, 8, -1, 0)
def s_l0 (r : Nat) : Nat := if r = 0 then 16 else 8
def s_00 : sS := (3, s_l0, (fun _ _ => 0), s_p0, 0, 0, (fun _ => 0))
def s_rn (j : Nat) : Nat := if j ≤ 4 then 1 else j - 3
theorem s_p0a {j : Nat} (h : j < 4) : s_p0 j = (0, 0, 16, 0, 16, -1, 0) := if_pos h
theorem s_p0b {j : Nat} (h : 4 ≤ j) : s_p0 j = (j - 3, 0, 8, 0, 8, -1, 0) := if_neg (by omega)
theorem s_p0r {i j : Nat} (h : i < j) : p_ro (s_p0 i) < s_rn j := by
  unfold s_rn
  by_cases hi : i < 4
  · rw [s_p0a hi]
    show 0 < _
    split <;> omega
  · rw [s_p0b (by omega)]
    show i - 3 < _
    split <;> omega
theorem s_ok0 : s_ok 0 s_00 := by
  refine ⟨by decide, by decide, rfl, fun r hr => ?_, fun i hi => ?_, fun r j => by show 0 ≤ (0 : Int32).toInt; decide⟩
  · show s_l0 r ≤ 12
    unfold s_l0
    rw [if_neg (by omega)]
    decide
  · show s_pok 3 s_l0 (s_p0 i)
    rcases (show i = 0 ∨ i = 1 ∨ i = 2 ∨ i = 3 ∨ i = 4 ∨ i = 5 by omega) with rfl | rfl | rfl | rfl | rfl | rfl <;> exact ⟨by decide, ⟨by decide, by decide, by decide, by decide, by decide, by decide, by decide⟩, ⟨by decide, by decide⟩, Or.inl rfl⟩
theorem z_noN {M : zM} {a b : Nat} {e : va_E} (h : z_up M a e b = none) : M b = none := by
  by_cases hb : b = a
  · rw [hb, z_up_s] at h; cases h
  · rwa [z_up_n _ _ hb] at h
/-- the class half made: j panes stand -/
def s_KI (G : zG) (x lr pa j : Nat) (P RA VA : Nat → Nat) (Mw : zM) : Prop :=
  Mw x = some (.inr (7, [.ref lr, .ref pa, .null, .null, .null, .int 0, .int 0])) ∧ RA 0 = lr ∧
  (∃ fp : Nat → Option Nat, Mw pa = some (aP G 6 fp) ∧ ∀ i, i < j → fp i = some (P i)) ∧
  (∀ i, i < j → Mw (P i) = some (cPx (RA (p_ro (s_p0 i))) (s_p0 i))) ∧
  (∀ r, r < s_rn j → Mw (RA r) = some (cRw (VA r)) ∧ Mw (VA r) = some (aI G (s_l0 r) (fun _ => 0))) ∧
  (∀ a b, a < j → b < j → P a = P b → a = b) ∧ (∀ r s, r < s_rn j → s < s_rn j → RA r = RA s → r = s) ∧ (∀ r s, r < s_rn j → s < s_rn j → VA r = VA s → r = s)
section KIS
variable {G : zG} {x lr pa j : Nat} {P RA VA : Nat → Nat} {Mw Mb : zM} {fp : Nat → Option Nat}
theorem s_KI0 {v : Nat} (h1 : Mb x = some (.inr (7, [.ref lr, .ref pa, .null, .null, .null, .int 0, .int 0]))) (h2 : Mb lr = some (cRw v)) (h3 : Mb v = some (aI G 16 (fun _ => 0))) (h4 : Mb pa = some (aP G 6 fp)) : s_KI G x lr pa 0 (fun _ => 0) (fun _ => lr) (fun _ => v) Mb :=
  ⟨h1, rfl, ⟨fp, h4, fun i hi => absurd hi (by omega)⟩, fun i hi => absurd hi (by omega), fun r hr => by
    have : r = 0 := by unfold s_rn at hr; rw [if_pos (by omega)] at hr; omega
    subst this
    exact ⟨h2, h3⟩, fun a b ha => absurd ha (by omega), fun r s hr hs _ => by unfold s_rn at hr hs; rw [if_pos (by omega)] at hr hs; omega, fun r s hr hs _ => by unfold s_rn at hr hs; rw [if_pos (by omega)] at hr hs; omega⟩
theorem s_fu_one {K : Nat → Nat} {j q : Nat} (h : ∀ a b, a < j → b < j → K a = K b → a = b) (hq : ∀ a, a < j → K a ≠ q) : ∀ a b, a < j + 1 → b < j + 1 → s_fu K j q a = s_fu K j q b → a = b := by
  intro a b ha hb hab
  by_cases h1 : a = j
  · by_cases h2 : b = j
    · omega
    · rw [h1, s_fu_s, s_fu_n _ _ h2] at hab
      exact absurd hab.symm (hq b (by omega))
  · by_cases h2 : b = j
    · rw [h2, s_fu_s, s_fu_n _ _ h1] at hab
      exact absurd hab (hq a (by omega))
    · rw [s_fu_n _ _ h1, s_fu_n _ _ h2] at hab
      exact h a b (by omega) (by omega) hab
theorem s_KIa (hK : s_KI G x lr pa j P RA VA Mw) (hj : j < 4) {q : Nat} (hpa : Mw pa = some (aP G 6 fp)) (hq : Mw q = none) (hk : ∀ a e, Mw a = some e → a ≠ pa → Mb a = some e) (h1 : Mb pa = some (aP G 6 (va_up fp j (some q)))) (h2 : Mb q = some (.inr (5, [.ref lr, .int 0, .int (Int32.ofNat 16), .int 0, .int (Int32.ofNat 16), .int (-1), .int 0]))) : s_KI G x lr pa (j + 1) (s_fu P j q) RA VA Mb := by
  obtain ⟨hx, h0, ⟨fp', hpa', hfp⟩, hP, hR, iP, iR, iV⟩ := hK
  have e : fp' = fp := by
    have := hpa'.symm.trans hpa
    simpa using this
  subst e
  have e1 : s_rn (j + 1) = s_rn j := by unfold s_rn; rw [if_pos (by omega), if_pos (by omega)]
  rw [s_KI, e1]
  refine ⟨hk _ _ hx (z_ne hx hpa (by intro h; cases h)), h0, ⟨_, h1, fun i hi => ?_⟩, fun i hi => ?_, fun r hr => ⟨hk _ _ (hR r hr).1 (z_ne (hR r hr).1 hpa (by intro h; cases h)), hk _ _ (hR r hr).2 (z_ne (hR r hr).2 hpa (by intro h; simp at h))⟩, s_fu_one iP (fun a ha => z_neN (hP a ha) hq), iR, iV⟩
  · by_cases hij : i = j
    · subst hij; rw [s_fu_s, va_up_self]
    · rw [s_fu_n _ _ hij, va_up_ne _ _ hij]; exact hfp i (by omega)
  · by_cases hij : i = j
    · subst hij
      rw [s_fu_s, s_p0a hj]
      show Mb q = some (cPx (RA 0) _)
      rw [h0]
      exact h2
    · rw [s_fu_n _ _ hij]
      exact hk _ _ (hP i (by omega)) (z_ne (hP i (by omega)) hpa (by intro h; cases h))
theorem s_KIb (hK : s_KI G x lr pa j P RA VA Mw) (hj : 4 ≤ j) {q rq vq : Nat} (hpa : Mw pa = some (aP G 6 fp)) (hq : Mw q = none) (hrq : Mw rq = none) (hvq : Mw vq = none) (hk : ∀ a e, Mw a = some e → a ≠ pa → Mb a = some e) (h1 : Mb pa = some (aP G 6 (va_up fp j (some q)))) (h2 : Mb q = some (.inr (5, [.ref rq, .int 0, .int (Int32.ofNat 8), .int 0, .int (Int32.ofNat 8), .int (-1), .int 0]))) (h3 : Mb rq = some (cRw vq)) (h4 : Mb vq = some (aI G 8 (fun _ => 0))) : s_KI G x lr pa (j + 1) (s_fu P j q) (s_fu RA (j - 3) rq) (s_fu VA (j - 3) vq) Mb := by
  obtain ⟨hx, h0, ⟨fp', hpa', hfp⟩, hP, hR, iP, iR, iV⟩ := hK
  have e : fp' = fp := by
    have := hpa'.symm.trans hpa
    simpa using this
  subst e
  have e0 : s_rn j = j - 3 := by unfold s_rn; split <;> omega
  have e1 : s_rn (j + 1) = (j - 3) + 1 := by unfold s_rn; rw [if_neg (by omega)]; omega
  rw [e0] at hR iR iV
  rw [s_KI, e1]
  refine ⟨hk _ _ hx (z_ne hx hpa (by intro h; cases h)), by rw [s_fu_n _ _ (by omega)]; exact h0, ⟨_, h1, fun i hi => ?_⟩, fun i hi => ?_, fun r hr => ?_, s_fu_one iP (fun a ha => z_neN (hP a ha) hq), s_fu_one iR (fun a ha => z_neN (hR a ha).1 hrq), s_fu_one iV (fun a ha => z_neN (hR a ha).2 hvq)⟩
  · by_cases hij : i = j
    · subst hij; rw [s_fu_s, va_up_self]
    · rw [s_fu_n _ _ hij, va_up_ne _ _ hij]; exact hfp i (by omega)
  · by_cases hij : i = j
    · subst hij
      rw [s_fu_s, s_p0b hj]
      show Mb q = some (cPx (s_fu RA (i - 3) rq (i - 3)) _)
      rw [s_fu_s]
      exact h2
    · have h9 : p_ro (s_p0 i) < j - 3 := by rw [← e0]; exact s_p0r (by omega)
      rw [s_fu_n _ _ hij, s_fu_n _ _ (by omega)]
      exact hk _ _ (hP i (by omega)) (z_ne (hP i (by omega)) hpa (by intro h; cases h))
  · by_cases hrj : r = j - 3
    · subst hrj
      rw [s_fu_s, s_fu_s]
      refine ⟨h3, ?_⟩
      rw [show s_l0 (j - 3) = 8 from if_neg (by omega)]
      exact h4
    · rw [s_fu_n _ _ hrj, s_fu_n _ _ hrj]
      exact ⟨hk _ _ (hR r (by omega)).1 (z_ne (hR r (by omega)).1 hpa (by intro h; cases h)), hk _ _ (hR r (by omega)).2 (z_ne (hR r (by omega)).2 hpa (by intro h; simp at h))⟩
theorem s_KIz (hK : s_KI G x lr pa 6 P RA VA Mw) {sp ln rf sb vb : Nat} {p9 : List Value} (hsp : Mw sp = none) (hvb : Mw vb = none) (hrf : Mw rf = none) (hvr : vb ≠ rf) (hk : ∀ a e, Mw a = some e → a ≠ x → Mb a = some e) (h1 : Mb x = some (.inr (7, [.ref lr, .ref pa, .ref sp, .ref ln, .ref rf, .int 0, .int 0]))) (h2 : Mb sp = some (.inr (5, [.ref lr, .int 0, .int (Int32.ofNat 16), .int 0, .int (Int32.ofNat 16), .int (-1), .int 0]))) (h3 : Mb ln = some (.inr (4, [.ref sb]))) (h4 : Mb sb = some (.inr (1, [.ref vb, .int 0, .int 0, .int 0]))) (h5 : Mb vb = some (aB G 16 (fun _ => 0))) (h6 : Mb rf = some (aI G 6 (fun _ => 0))) : CI G s_00 x P RA VA pa sp ln rf sb Mb := by
  obtain ⟨hx, h0, ⟨fp, hpa, hfp⟩, hP, hR, iP, iR, iV⟩ := hK
  refine ⟨by rw [h0]; exact h1, ⟨fp, hk _ _ hpa (z_ne hpa hx (by intro h; cases h)), hfp⟩, fun i hi => hk _ _ (hP i hi) (z_ne (hP i hi) hx (by intro h; cases h)), ⟨lr, (0, 0, Int32.ofNat 16, 0, Int32.ofNat 16, -1, 0), h2⟩, fun r hr => hk _ _ (hR r hr).1 (z_ne (hR r hr).1 hx (by intro h; cases h)), fun r hr => hk _ _ (hR r hr).2 (z_ne (hR r hr).2 hx (by intro h; cases h)), h6, h3, ⟨vb, 0, 0, 16, fun _ => 0, h4, h5, hvr, fun r hr => (z_neN (hR r hr).2 hvb).symm, by decide, by decide, sb_fit0, by decide⟩, iP, fun i hi => z_neN (hP i hi) hsp, iR, iV, fun r hr => z_neN (hR r hr).2 hrf⟩
end KIS
theorem dX3_init_0 : decode cX3_init 0 = .ok (.aload_n 0, 1) := by decide +kernel
theorem dX3_init_1 : decode cX3_init 1 = .ok (.invokespecial 1, 3) := by decide +kernel
theorem dX3_init_4 : decode cX3_init 4 = .ok (.aload_n 0, 1) := by decide +kernel
theorem dX3_init_5 : decode cX3_init 5 = .ok (.new 7, 3) := by decide +kernel
theorem dX3_init_8 : decode cX3_init 8 = .ok (.dup, 1) := by decide +kernel
theorem dX3_init_9 : decode cX3_init 9 = .ok (.bipush 16, 2) := by decide +kernel
theorem dX3_init_11 : decode cX3_init 11 = .ok (.invokespecial 11, 3) := by decide +kernel
theorem dX3_init_14 : decode cX3_init 14 = .ok (.putfield 14, 3) := by decide +kernel
theorem dX3_init_17 : decode cX3_init 17 = .ok (.aload_n 0, 1) := by decide +kernel
theorem dX3_init_18 : decode cX3_init 18 = .ok (.bipush 6, 2) := by decide +kernel
theorem dX3_init_20 : decode cX3_init 20 = .ok (.anewarray 18, 3) := by decide +kernel
theorem dX3_init_23 : decode cX3_init 23 = .ok (.putfield 20, 3) := by decide +kernel
theorem dX3_init_26 : decode cX3_init 26 = .ok (.iconst 0, 1) := by decide +kernel
theorem dX3_init_27 : decode cX3_init 27 = .ok (.istore_n 1, 1) := by decide +kernel
theorem dX3_init_28 : decode cX3_init 28 = .ok (.iload_n 1, 1) := by decide +kernel
theorem dX3_init_29 : decode cX3_init 29 = .ok (.aload_n 0, 1) := by decide +kernel
theorem dX3_init_30 : decode cX3_init 30 = .ok (.getfield 20, 3) := by decide +kernel
theorem dX3_init_33 : decode cX3_init 33 = .ok (.arraylength, 1) := by decide +kernel
theorem dX3_init_34 : decode cX3_init 34 = .ok (.if_icmp .ge 43, 3) := by decide +kernel
theorem dX3_init_37 : decode cX3_init 37 = .ok (.aload_n 0, 1) := by decide +kernel
theorem dX3_init_38 : decode cX3_init 38 = .ok (.getfield 20, 3) := by decide +kernel
theorem dX3_init_41 : decode cX3_init 41 = .ok (.iload_n 1, 1) := by decide +kernel
theorem dX3_init_42 : decode cX3_init 42 = .ok (.new 18, 3) := by decide +kernel
theorem dX3_init_45 : decode cX3_init 45 = .ok (.dup, 1) := by decide +kernel
theorem dX3_init_46 : decode cX3_init 46 = .ok (.iload_n 1, 1) := by decide +kernel
theorem dX3_init_47 : decode cX3_init 47 = .ok (.iconst 4, 1) := by decide +kernel
theorem dX3_init_48 : decode cX3_init 48 = .ok (.if_icmp .ge 10, 3) := by decide +kernel
theorem dX3_init_51 : decode cX3_init 51 = .ok (.aload_n 0, 1) := by decide +kernel
theorem dX3_init_52 : decode cX3_init 52 = .ok (.getfield 14, 3) := by decide +kernel
theorem dX3_init_55 : decode cX3_init 55 = .ok (.goto 12, 3) := by decide +kernel
theorem dX3_init_58 : decode cX3_init 58 = .ok (.new 7, 3) := by decide +kernel
theorem dX3_init_61 : decode cX3_init 61 = .ok (.dup, 1) := by decide +kernel
theorem dX3_init_62 : decode cX3_init 62 = .ok (.bipush 8, 2) := by decide +kernel
theorem dX3_init_64 : decode cX3_init 64 = .ok (.invokespecial 11, 3) := by decide +kernel
theorem dX3_init_67 : decode cX3_init 67 = .ok (.invokespecial 24, 3) := by decide +kernel
theorem dX3_init_70 : decode cX3_init 70 = .ok (.aastore, 1) := by decide +kernel
theorem dX3_init_71 : decode cX3_init 71 = .ok (.iinc 1 1, 3) := by decide +kernel
theorem dX3_init_74 : decode cX3_init 74 = .ok (.goto (-46), 3) := by decide +kernel
theorem dX3_init_77 : decode cX3_init 77 = .ok (.aload_n 0, 1) := by decide +kernel
theorem dX3_init_78 : decode cX3_init 78 = .ok (.new 18, 3) := by decide +kernel
theorem dX3_init_81 : decode cX3_init 81 = .ok (.dup, 1) := by decide +kernel
theorem dX3_init_82 : decode cX3_init 82 = .ok (.aload_n 0, 1) := by decide +kernel
theorem dX3_init_83 : decode cX3_init 83 = .ok (.getfield 14, 3) := by decide +kernel
theorem dX3_init_86 : decode cX3_init 86 = .ok (.invokespecial 24, 3) := by decide +kernel
theorem dX3_init_89 : decode cX3_init 89 = .ok (.putfield 27, 3) := by decide +kernel
theorem dX3_init_92 : decode cX3_init 92 = .ok (.aload_n 0, 1) := by decide +kernel
theorem dX3_init_93 : decode cX3_init 93 = .ok (.new 31, 3) := by decide +kernel
theorem dX3_init_96 : decode cX3_init 96 = .ok (.dup, 1) := by decide +kernel
theorem dX3_init_97 : decode cX3_init 97 = .ok (.invokespecial 33, 3) := by decide +kernel
theorem dX3_init_100 : decode cX3_init 100 = .ok (.putfield 34, 3) := by decide +kernel
theorem dX3_init_103 : decode cX3_init 103 = .ok (.aload_n 0, 1) := by decide +kernel
theorem dX3_init_104 : decode cX3_init 104 = .ok (.bipush 6, 2) := by decide +kernel
theorem dX3_init_106 : decode cX3_init 106 = .ok (.newarray .int, 2) := by decide +kernel
theorem dX3_init_108 : decode cX3_init 108 = .ok (.putfield 38, 3) := by decide +kernel
theorem dX3_init_111 : decode cX3_init 111 = .ok (.aload_n 0, 1) := by decide +kernel
theorem dX3_init_112 : decode cX3_init 112 = .ok (.iconst 0, 1) := by decide +kernel
theorem dX3_init_113 : decode cX3_init 113 = .ok (.putfield 42, 3) := by decide +kernel
theorem dX3_init_116 : decode cX3_init 116 = .ok (.aload_n 0, 1) := by decide +kernel
theorem dX3_init_117 : decode cX3_init 117 = .ok (.iconst 0, 1) := by decide +kernel
theorem dX3_init_118 : decode cX3_init 118 = .ok (.putfield 46, 3) := by decide +kernel
theorem dX3_init_121 : decode cX3_init 121 = .ok (.return_, 1) := by decide +kernel
set_option maxRecDepth 20000 in
theorem lp_X3_in {X : zX} (C : z_C X cX3_init RX3 2 (z_rm 5 26 201)) {x lr pa : Nat} (kk : ∀ P RA VA Mw, s_KI (z_G X) x lr pa 6 P RA VA Mw → z_W X Mw (3 + 3 * 6) (23 + 24 * 6) 77 [(0, .ref x)] []) : ∀ (d jx : Nat) (P RA VA : Nat → Nat) (Mw : zM), jx + d = 6 → s_KI (z_G X) x lr pa jx P RA VA Mw → z_W X Mw (3 + 3 * jx) (23 + 24 * jx) 28 [(1, .int (nI jx)), (0, .ref x)] [] := by
  intro d
  induction d with
  | zero =>
    intro jx P RA VA Mw hd hK
    obtain ⟨fp, hpa, hfp⟩ := hK.2.2.1
    have hlr := (hK.2.2.2.2.1 0 (by unfold s_rn; split <;> omega)).1
    rw [hK.2.1] at hlr
    have hva := (hK.2.2.2.2.1 0 (by unfold s_rn; split <;> omega)).2
    refine z_iload_n C dX3_init_28 rfl 0 rfl ?_
    refine z_aload_n C dX3_init_29 rfl 1 rfl ?_
    refine gr_X3_20 C hK.1 dX3_init_30 ?_
    refine z_alenP C (v := 6) hpa (by decide) dX3_init_33 ?_
    refine z_icmp_ge C (tgt := 77) dX3_init_34 (by decide) (fun _ => ?_) (fun c34 => absurd (nI_le (b := jx) (a := 6) (by omega) (by omega)) c34)
    have e9 : jx = 6 := by omega
    subst e9
    refine z_fewer [1] rfl ?_
    exact kk _ _ _ _ hK
  | succ d ih =>
    intro jx P RA VA Mw hd hK
    obtain ⟨fp, hpa, hfp⟩ := hK.2.2.1
    have hlr := (hK.2.2.2.2.1 0 (by unfold s_rn; split <;> omega)).1
    rw [hK.2.1] at hlr
    have hva := (hK.2.2.2.2.1 0 (by unfold s_rn; split <;> omega)).2
    refine z_iload_n C dX3_init_28 rfl 0 rfl ?_
    refine z_aload_n C dX3_init_29 rfl 1 rfl ?_
    refine gr_X3_20 C hK.1 dX3_init_30 ?_
    refine z_alenP C (v := 6) hpa (by decide) dX3_init_33 ?_
    refine z_icmp_ge C (tgt := 77) dX3_init_34 (by decide) (fun c34 => absurd c34 (nI_ge (a := jx) (b := 6) (by omega) (by omega))) (fun _ => ?_)
    refine z_aload_n C dX3_init_37 rfl 1 rfl ?_
    refine gr_X3_20 C hK.1 dX3_init_38 ?_
    refine z_iload_n C dX3_init_41 rfl 0 rfl ?_
    refine z_new (ci := 5) (fs := [.null, .int 0, .int 0, .int 0, .int 0, .int 0, .int 0]) C rfl inX1 tyX1 tyX1_ok kw45 kw47 kw3 (fun j hj => by rcases (show j = 0 ∨ j = 1 ∨ j = 2 ∨ j = 3 ∨ j = 4 ∨ j = 5 ∨ j = 6 by omega) with rfl | rfl | rfl | rfl | rfl | rfl | rfl <;> rfl) (by show _ ≤ 26; omega) (by show _ ≤ 201; omega) dX3_init_42 (fun q42 hq42 => ?_)
    refine z_kn (k' := 3 + 3 * jx + 1) (n' := 23 + 24 * jx + 7) rfl rfl ?_
    refine z_dup C dX3_init_45 rfl ?_
    refine z_iload_n C dX3_init_46 rfl 0 rfl ?_
    refine z_iconst C (v := 4) dX3_init_47 (by decide) ?_
    refine z_icmp_ge C (tgt := 58) dX3_init_48 (by decide) (fun c48 => ?_) (fun c48 => ?_)
    · refine z_new (ci := 6) (fs := [.null]) C rfl inX2 tyX2 tyX2_ok kw34 kw35 kw2 (fun j hj => by rcases (show j = 0 by omega) with rfl <;> rfl) (by show _ ≤ 26; omega) (by show _ ≤ 201; omega) dX3_init_58 (fun q58 hq58 => ?_)
      refine z_kn (k' := 3 + 3 * jx + 1 + 1) (n' := 23 + 24 * jx + 7 + 1) rfl rfl ?_
      refine z_dup C dX3_init_61 rfl ?_
      refine z_bipush C (v := 8) dX3_init_62 (by decide) ?_
      refine z_callI (rest := [.ref q58, .ref q42, .ref q42, .int (nI jx), .ref pa]) (k' := 3 + 3 * jx + 1 + 1 + 1) (n' := 23 + 24 * jx + 7 + 1 + 16) C (c_X2_init (z_l X) (z_G X) (z_up_s _ _ _) (show (8 : Int32) = nI 8 by decide) (by decide)) (cs_X3_11 C (by decide)) rfl rfl (Nat.le_of_ble_eq_true rfl) rfl rfl (by show _ ≤ 26; omega) (by show _ ≤ 201; omega) dX3_init_64 (fun M' hq => ?_)
      obtain ⟨q_64, hq_64, rfl⟩ := hq
      rw [z_up_swap _ (z_neN (z_up_s _ _ _) hq_64)]
      rw [z_up_up]
      refine z_callI (rest := [.ref q42, .int (nI jx), .ref pa]) (k' := 3 + 3 * jx + 1 + 1 + 1) (n' := 23 + 24 * jx + 7 + 1 + 16) C (c_X1_init (z_l X) (z_G X) ((z_up_n _ _ (z_neN (z_up_s _ _ _) hq58)).trans ((z_up_n _ _ (z_neN ((z_up_n _ _ (z_neN (z_up_s _ _ _) hq58)).trans (z_up_s _ _ _)) hq_64)).trans (z_up_s _ _ _))) (z_up_s _ _ _) ((z_up_n _ _ (Ne.symm (z_neN (z_up_s _ _ _) hq_64))).trans (z_up_s _ _ _))) (cs_X3_24 C (by decide)) rfl rfl (Nat.le_of_ble_eq_true rfl) rfl rfl (by show _ ≤ 26; omega) (by show _ ≤ 201; omega) dX3_init_67 (fun M' hq => ?_)
      obtain rfl := hq
      rw [z_up_swap _ (z_neN ((z_up_n _ _ (z_neN (z_up_s _ _ _) hq58)).trans (z_up_s _ _ _)) hq_64)]
      rw [z_up_swap _ (z_neN (z_up_s _ _ _) hq58)]
      rw [z_up_up]
      refine z_aastP (j := jx) C ((z_up_n _ _ (z_neN hpa hq42)).trans ((z_up_n _ _ (z_neN ((z_up_n _ _ (z_neN hpa hq42)).trans hpa) hq58)).trans ((z_up_n _ _ (z_neN ((z_up_n _ _ (z_neN ((z_up_n _ _ (z_neN hpa hq42)).trans hpa) hq58)).trans ((z_up_n _ _ (z_neN hpa hq42)).trans hpa)) hq_64)).trans hpa))) (z_up_s _ _ _) (vp_in_nI (by omega) (by decide)) (nI_clamp (by omega)) dX3_init_70 ?_
      refine z_iinc (v := nI (jx + 1)) (lv' := [(1, .int (nI (jx + 1))), (0, .ref x)]) C dX3_init_71 0 rfl (nI_1 jx) (by decide) rfl ?_
      refine z_goto C (tgt := 28) dX3_init_74 (by decide) ?_
      refine z_fewer [0, 1] rfl ?_
      have hj9 : 4 ≤ jx := Nat.le_of_not_lt fun q => nI_ge (a := jx) (b := 4) q (by omega) c48
      refine z_opq (fun Mb hWb => ?_)
      have fb0 : Mb pa = some (aP (z_G X) 6 (va_up fp jx (some q42))) := by rw [hWb]; exact (z_up_s _ _ _)
      have fb1 : Mb q42 = some (.inr (5, [.ref q58, .int 0, .int (Int32.ofNat 8), .int 0, .int (Int32.ofNat 8), .int (-1), .int 0])) := by rw [hWb]; exact ((z_up_n _ _ (Ne.symm (z_neN hpa hq42))).trans (z_up_s _ _ _))
      have fb2 : Mb q58 = some (cRw q_64) := by rw [hWb]; exact ((z_up_n _ _ (Ne.symm (z_neN ((z_up_n _ _ (z_neN hpa hq42)).trans hpa) hq58))).trans ((z_up_n _ _ (Ne.symm (z_neN (z_up_s _ _ _) hq58))).trans (z_up_s _ _ _)))
      have fb3 : Mb q_64 = some (aI (z_G X) 8 (fun _ => 0)) := by rw [hWb]; exact ((z_up_n _ _ (Ne.symm (z_neN ((z_up_n _ _ (z_neN ((z_up_n _ _ (z_neN hpa hq42)).trans hpa) hq58)).trans ((z_up_n _ _ (z_neN hpa hq42)).trans hpa)) hq_64))).trans ((z_up_n _ _ (Ne.symm (z_neN ((z_up_n _ _ (z_neN (z_up_s _ _ _) hq58)).trans (z_up_s _ _ _)) hq_64))).trans ((z_up_n _ _ (Ne.symm (z_neN (z_up_s _ _ _) hq_64))).trans (z_up_s _ _ _))))
      have kb : ∀ a e, Mw a = some e → a ≠ pa → Mb a = some e := fun a e ha9 hn9 => by rw [hWb]; exact ((z_up_n _ _ hn9).trans ((z_up_n _ _ (z_neN ha9 hq42)).trans ((z_up_n _ _ (z_neN ((z_up_n _ _ (z_neN ha9 hq42)).trans ha9) hq58)).trans ((z_up_n _ _ (z_neN ((z_up_n _ _ (z_neN ((z_up_n _ _ (z_neN ha9 hq42)).trans ha9) hq58)).trans ((z_up_n _ _ (z_neN ha9 hq42)).trans ha9)) hq_64)).trans ha9))))
      clear hWb
      have hK9 := s_KIb hK hj9 hpa hq42 (z_noN hq58) (z_noN (z_noN hq_64)) kb fb0 fb1 fb2 fb3
      refine z_widen (k' := 3 + 3 * (jx + 1)) (n' := 23 + 24 * (jx + 1)) (by omega) (by omega) ?_
      exact ih (jx + 1) _ _ _ _ (by omega) hK9
    · refine z_aload_n C dX3_init_51 rfl 1 rfl ?_
      refine gr_X3_14 C ((z_up_n _ _ (z_neN hK.1 hq42)).trans hK.1) dX3_init_52 ?_
      refine z_goto C (tgt := 67) dX3_init_55 (by decide) ?_
      refine z_callI (rest := [.ref q42, .int (nI jx), .ref pa]) (k' := 3 + 3 * jx + 1) (n' := 23 + 24 * jx + 7) C (c_X1_init (z_l X) (z_G X) (z_up_s _ _ _) ((z_up_n _ _ (z_neN hlr hq42)).trans hlr) ((z_up_n _ _ (z_neN hva hq42)).trans hva)) (cs_X3_24 C (by decide)) rfl rfl (Nat.le_of_ble_eq_true rfl) rfl rfl (by show _ ≤ 26; omega) (by show _ ≤ 201; omega) dX3_init_67 (fun M' hq => ?_)
      obtain rfl := hq
      rw [z_up_up]
      refine z_aastP (j := jx) C ((z_up_n _ _ (z_neN hpa hq42)).trans hpa) (z_up_s _ _ _) (vp_in_nI (by omega) (by decide)) (nI_clamp (by omega)) dX3_init_70 ?_
      refine z_iinc (v := nI (jx + 1)) (lv' := [(1, .int (nI (jx + 1))), (0, .ref x)]) C dX3_init_71 0 rfl (nI_1 jx) (by decide) rfl ?_
      refine z_goto C (tgt := 28) dX3_init_74 (by decide) ?_
      refine z_fewer [0, 1] rfl ?_
      refine z_opq (fun Mb hWb => ?_)
      have fa0 : Mb pa = some (aP (z_G X) 6 (va_up fp jx (some q42))) := by rw [hWb]; exact (z_up_s _ _ _)
      have fa1 : Mb q42 = some (.inr (5, [.ref lr, .int 0, .int (Int32.ofNat 16), .int 0, .int (Int32.ofNat 16), .int (-1), .int 0])) := by rw [hWb]; exact ((z_up_n _ _ (Ne.symm (z_neN hpa hq42))).trans (z_up_s _ _ _))
      have ka : ∀ a e, Mw a = some e → a ≠ pa → Mb a = some e := fun a e ha9 hn9 => by rw [hWb]; exact ((z_up_n _ _ hn9).trans ((z_up_n _ _ (z_neN ha9 hq42)).trans ha9))
      clear hWb
      have hK9 := s_KIa hK (Nat.lt_of_not_le fun q => c48 (nI_le (b := jx) (a := 4) q (by omega))) hpa hq42 ka fa0 fa1
      refine z_widen (k' := 3 + 3 * (jx + 1)) (n' := 23 + 24 * (jx + 1)) (by omega) (by omega) ?_
      exact ih (jx + 1) _ _ _ _ (by omega) hK9
set_option maxRecDepth 20000 in
theorem a_X3_init (l : Launch) {G : zG} {x : Nat} {Mw : zM} (hx : Mw x = some (.inr (7, [.null, .null, .null, .null, .null, .int 0, .int 0]))) : z_Mv l G qX3_init (z_rm 5 26 201) [.ref x] Mw (fun Mz => ∃ P RA VA pa sp ln rf sb, CI G s_00 x P RA VA pa sp ln rf sb Mz)  := by
  refine z_Mv_of _ (plainFor_of_name rfl) rfl (Nat.le_of_ble_eq_true rfl) (fun X hl hG hnm C ret => ?_)
  subst hl; subst hG
  have C : z_C X cX3_init RX3 2 (z_rm 5 26 201) := C
  show z_W X Mw 0 0 0 [(0, .ref x)] []
  refine z_aload_n C dX3_init_0 rfl 0 rfl ?_
  refine z_objInit (rest := []) C kw31 kw32 kw33 ⟨Nat.le_of_ble_eq_true rfl, Nat.le_of_ble_eq_true rfl⟩ (Nat.le_of_ble_eq_true rfl) dX3_init_1 ?_
  refine z_aload_n C dX3_init_4 rfl 0 rfl ?_
  refine z_new (ci := 6) (fs := [.null]) C rfl inX2 tyX2 tyX2_ok kw34 kw35 kw2 (fun j hj => by rcases (show j = 0 by omega) with rfl <;> rfl) (Nat.le_of_ble_eq_true rfl) (Nat.le_of_ble_eq_true rfl) dX3_init_5 (fun q5 hq5 => ?_)
  refine z_kn (k' := 1) (n' := 1) rfl rfl ?_
  refine z_dup C dX3_init_8 rfl ?_
  refine z_bipush C (v := 16) dX3_init_9 (by decide) ?_
  refine z_callI (rest := [.ref q5, .ref x]) (k' := 2) (n' := 17) C (c_X2_init (z_l X) (z_G X) (z_up_s _ _ _) (show (16 : Int32) = nI 16 by decide) (by decide)) (cs_X3_11 C ⟨Nat.le_of_ble_eq_true rfl, Nat.le_of_ble_eq_true rfl⟩) rfl rfl (Nat.le_of_ble_eq_true rfl) rfl rfl (Nat.le_of_ble_eq_true rfl) (Nat.le_of_ble_eq_true rfl) dX3_init_11 (fun M' hq => ?_)
  obtain ⟨q_11, hq_11, rfl⟩ := hq
  rw [z_up_swap _ (z_neN (z_up_s _ _ _) hq_11)]
  rw [z_up_up]
  refine pr_X3_14 C hnm rfl rfl ((z_up_n _ _ (z_neN hx hq5)).trans ((z_up_n _ _ (z_neN ((z_up_n _ _ (z_neN hx hq5)).trans hx) hq_11)).trans hx)) dX3_init_14 ?_
  refine z_aload_n C dX3_init_17 rfl 0 rfl ?_
  refine z_bipush C (v := 6) dX3_init_18 (by decide) ?_
  refine z_newP (N := 6) C kw45 kn46 (by decide) (by decide) (by decide) (Nat.le_of_ble_eq_true rfl) (Nat.le_of_ble_eq_true rfl) dX3_init_20 (fun q20 hq20 => ?_)
  refine z_kn (k' := 3) (n' := 23) rfl rfl ?_
  rw [z_up_swap _ (z_neN (z_up_s _ _ _) hq20)]
  refine pq_X3_20 C hnm rfl rfl dX3_init_23 ?_
  refine z_iconst C (v := 0) dX3_init_26 (by decide) ?_
  refine z_istore_n (lv' := [(1, .int 0), (0, .ref x)]) C dX3_init_27 rfl (by decide) rfl ?_
  refine z_fewer [0, 1] rfl ?_
  refine z_at (M' := _) (lv' := [(1, .int (nI 0)), (0, .ref x)]) rfl (by rw [nI_0]; rfl) rfl ?_
  refine z_opq (fun Mb hWb => ?_)
  have fs0 : Mb x = some (.inr (7, [.ref q5, .ref q20, .null, .null, .null, .int 0, .int 0])) := by rw [hWb]; exact (z_up_s _ _ _)
  have fs1 : Mb q5 = some (cRw q_11) := by rw [hWb]; exact ((z_up_n _ _ (Ne.symm (z_neN hx hq5))).trans ((z_up_n _ _ (z_neN ((z_up_n _ _ (Ne.symm (z_neN hx hq5))).trans (z_up_s _ _ _)) hq20)).trans (z_up_s _ _ _)))
  have fs2 : Mb q_11 = some (aI (z_G X) 16 (fun _ => 0)) := by rw [hWb]; exact ((z_up_n _ _ (Ne.symm (z_neN ((z_up_n _ _ (z_neN hx hq5)).trans hx) hq_11))).trans ((z_up_n _ _ (z_neN ((z_up_n _ _ (Ne.symm (z_neN ((z_up_n _ _ (z_neN hx hq5)).trans hx) hq_11))).trans ((z_up_n _ _ (Ne.symm (z_neN (z_up_s _ _ _) hq_11))).trans (z_up_s _ _ _))) hq20)).trans ((z_up_n _ _ (Ne.symm (z_neN (z_up_s _ _ _) hq_11))).trans (z_up_s _ _ _))))
  have fs3 : Mb q20 = some (aP (z_G X) 6 (fun _ => none)) := by rw [hWb]; exact ((z_up_n _ _ (Ne.symm (z_neN (z_up_s _ _ _) hq20))).trans (z_up_s _ _ _))
  have ks : ∀ a e, Mw a = some e → a ≠ x → Mb a = some e := fun a e ha9 hn9 => by rw [hWb]; exact ((z_up_n _ _ hn9).trans ((z_up_n _ _ (z_neN ((z_up_n _ _ hn9).trans ((z_up_n _ _ (z_neN ha9 hq5)).trans ((z_up_n _ _ (z_neN ((z_up_n _ _ (z_neN ha9 hq5)).trans ha9) hq_11)).trans ha9))) hq20)).trans ((z_up_n _ _ (z_neN ha9 hq5)).trans ((z_up_n _ _ (z_neN ((z_up_n _ _ (z_neN ha9 hq5)).trans ha9) hq_11)).trans ha9))))
  clear hWb
  refine z_kn (k' := 3 + 3 * 0) (n' := 23 + 24 * 0) rfl rfl ?_
  refine lp_X3_in C (fun P RA VA Mz hK => ?_) 6 0 _ _ _ _ (Nat.zero_add _) (s_KI0 fs0 fs1 fs2 fs3)
  generalize q5 = lr at hK ⊢
  generalize q20 = pa at hK ⊢
  obtain ⟨fp, hpa, hfp⟩ := hK.2.2.1
  have hlr := (hK.2.2.2.2.1 0 (by unfold s_rn; split <;> omega)).1
  rw [hK.2.1] at hlr
  have hva := (hK.2.2.2.2.1 0 (by unfold s_rn; split <;> omega)).2
  refine z_kn (k' := 21) (n' := 167) rfl rfl ?_
  refine z_aload_n C dX3_init_77 rfl 0 rfl ?_
  refine z_new (ci := 5) (fs := [.null, .int 0, .int 0, .int 0, .int 0, .int 0, .int 0]) C rfl inX1 tyX1 tyX1_ok kw45 kw47 kw3 (fun j hj => by rcases (show j = 0 ∨ j = 1 ∨ j = 2 ∨ j = 3 ∨ j = 4 ∨ j = 5 ∨ j = 6 by omega) with rfl | rfl | rfl | rfl | rfl | rfl | rfl <;> rfl) (Nat.le_of_ble_eq_true rfl) (Nat.le_of_ble_eq_true rfl) dX3_init_78 (fun q78 hq78 => ?_)
  refine z_kn (k' := 22) (n' := 174) rfl rfl ?_
  refine z_dup C dX3_init_81 rfl ?_
  refine z_aload_n C dX3_init_82 rfl 0 rfl ?_
  refine gr_X3_14 C ((z_up_n _ _ (z_neN hK.1 hq78)).trans hK.1) dX3_init_83 ?_
  refine z_callI (rest := [.ref q78, .ref x]) (k' := 22) (n' := 174) C (c_X1_init (z_l X) (z_G X) (z_up_s _ _ _) ((z_up_n _ _ (z_neN hlr hq78)).trans hlr) ((z_up_n _ _ (z_neN hva hq78)).trans hva)) (cs_X3_24 C ⟨Nat.le_of_ble_eq_true rfl, Nat.le_of_ble_eq_true rfl⟩) rfl rfl (Nat.le_of_ble_eq_true rfl) rfl rfl (Nat.le_of_ble_eq_true rfl) (Nat.le_of_ble_eq_true rfl) dX3_init_86 (fun M' hq => ?_)
  obtain rfl := hq
  rw [z_up_up]
  refine pr_X3_27 C hnm rfl rfl ((z_up_n _ _ (z_neN hK.1 hq78)).trans hK.1) dX3_init_89 ?_
  refine z_aload_n C dX3_init_92 rfl 0 rfl ?_
  refine z_new (ci := 4) (fs := [.null]) C rfl inX0 tyX0 tyX0_ok kw89 kw90 kw4 (fun j hj => by rcases (show j = 0 by omega) with rfl <;> rfl) (Nat.le_of_ble_eq_true rfl) (Nat.le_of_ble_eq_true rfl) dX3_init_93 (fun q93 hq93 => ?_)
  refine z_kn (k' := 23) (n' := 175) rfl rfl ?_
  refine z_dup C dX3_init_96 rfl ?_
  refine z_callIN (rest := [.ref q93, .ref x]) (k' := 25) (n' := 195) C (c_X0_init (z_l X) (z_G X) (z_up_s _ _ _)) (cs_X3_33 C ⟨Nat.le_of_ble_eq_true rfl, Nat.le_of_ble_eq_true rfl⟩) rfl rfl (Nat.le_of_ble_eq_true rfl) rfl rfl (Nat.le_of_ble_eq_true rfl) (Nat.le_of_ble_eq_true rfl) dX3_init_97 (fun M' hq => ?_)
  obtain ⟨q5_97, hq5_97, q12_3_9_97, hq12_3_9_97, rfl⟩ := hq
  rw [z_up_swap _ (z_neN ((z_up_n _ _ (z_neN (z_up_s _ _ _) hq5_97)).trans (z_up_s _ _ _)) hq12_3_9_97)]
  rw [z_up_swap _ (z_neN (z_up_s _ _ _) hq5_97)]
  rw [z_up_up]
  rw [z_up_swap _ (z_neN ((z_up_n _ _ (z_neN ((z_up_n _ _ (z_neN (z_up_s _ _ _) hq93)).trans (z_up_s _ _ _)) hq5_97)).trans ((z_up_n _ _ (z_neN (z_up_s _ _ _) hq93)).trans (z_up_s _ _ _))) hq12_3_9_97)]
  rw [z_up_swap _ (z_neN ((z_up_n _ _ (z_neN (z_up_s _ _ _) hq93)).trans (z_up_s _ _ _)) hq5_97)]
  rw [z_up_swap _ (z_neN (z_up_s _ _ _) hq93)]
  refine pq_X3_34 C hnm rfl rfl dX3_init_100 ?_
  refine z_aload_n C dX3_init_103 rfl 0 rfl ?_
  refine z_bipush C (v := 6) dX3_init_104 (by decide) ?_
  refine z_newI (N := 6) C kw44 (by decide) (by decide) (by decide) (Nat.le_of_ble_eq_true rfl) (Nat.le_of_ble_eq_true rfl) dX3_init_106 (fun q106 hq106 => ?_)
  refine z_kn (k' := 26) (n' := 201) rfl rfl ?_
  rw [z_up_swap _ (z_neN (z_up_s _ _ _) hq106)]
  refine pq_X3_38 C hnm rfl rfl dX3_init_108 ?_
  refine z_aload_n C dX3_init_111 rfl 0 rfl ?_
  refine z_iconst C (v := 0) dX3_init_112 (by decide) ?_
  refine pq_X3_42 C rfl rfl dX3_init_113 ?_
  refine z_aload_n C dX3_init_116 rfl 0 rfl ?_
  refine z_iconst C (v := 0) dX3_init_117 (by decide) ?_
  refine pq_X3_46 C rfl rfl dX3_init_118 ?_
  refine ret dX3_init_121 ?_ (Nat.le_of_ble_eq_true rfl) (Nat.le_of_ble_eq_true rfl)
  exact ⟨P, RA, VA, pa, q78, q93, q106, q5_97, s_KIz (p9 := []) hK hq78 (z_noN (z_noN (z_noN (z_noN hq12_3_9_97)))) (z_noN (z_noN (z_noN (z_noN (z_noN hq106))))) (z_neN ((z_up_n _ _ (Ne.symm (z_neN ((z_up_n _ _ (z_neN ((z_up_n _ _ (z_neN (z_up_s _ _ _) hq93)).trans (z_up_s _ _ _)) hq5_97)).trans ((z_up_n _ _ (z_neN (z_up_s _ _ _) hq93)).trans (z_up_s _ _ _))) hq12_3_9_97))).trans ((z_up_n _ _ (Ne.symm (z_neN ((z_up_n _ _ (z_neN (z_up_s _ _ _) hq5_97)).trans (z_up_s _ _ _)) hq12_3_9_97))).trans ((z_up_n _ _ (Ne.symm (z_neN (z_up_s _ _ _) hq12_3_9_97))).trans (z_up_s _ _ _)))) hq106) (fun a e ha9 hn9 => ((z_up_n _ _ hn9).trans ((z_up_n _ _ (z_neN ((z_up_n _ _ hn9).trans ((z_up_n _ _ (z_neN ((z_up_n _ _ hn9).trans ((z_up_n _ _ (z_neN ha9 hq78)).trans ha9)) hq93)).trans ((z_up_n _ _ (z_neN ((z_up_n _ _ (z_neN ((z_up_n _ _ hn9).trans ((z_up_n _ _ (z_neN ha9 hq78)).trans ha9)) hq93)).trans ((z_up_n _ _ hn9).trans ((z_up_n _ _ (z_neN ha9 hq78)).trans ha9))) hq5_97)).trans ((z_up_n _ _ (z_neN ((z_up_n _ _ (z_neN ((z_up_n _ _ (z_neN ((z_up_n _ _ hn9).trans ((z_up_n _ _ (z_neN ha9 hq78)).trans ha9)) hq93)).trans ((z_up_n _ _ hn9).trans ((z_up_n _ _ (z_neN ha9 hq78)).trans ha9))) hq5_97)).trans ((z_up_n _ _ (z_neN ((z_up_n _ _ hn9).trans ((z_up_n _ _ (z_neN ha9 hq78)).trans ha9)) hq93)).trans ((z_up_n _ _ hn9).trans ((z_up_n _ _ (z_neN ha9 hq78)).trans ha9)))) hq12_3_9_97)).trans ((z_up_n _ _ (z_neN ha9 hq78)).trans ha9))))) hq106)).trans ((z_up_n _ _ (z_neN ((z_up_n _ _ hn9).trans ((z_up_n _ _ (z_neN ha9 hq78)).trans ha9)) hq93)).trans ((z_up_n _ _ (z_neN ((z_up_n _ _ (z_neN ((z_up_n _ _ hn9).trans ((z_up_n _ _ (z_neN ha9 hq78)).trans ha9)) hq93)).trans ((z_up_n _ _ hn9).trans ((z_up_n _ _ (z_neN ha9 hq78)).trans ha9))) hq5_97)).trans ((z_up_n _ _ (z_neN ((z_up_n _ _ (z_neN ((z_up_n _ _ (z_neN ((z_up_n _ _ hn9).trans ((z_up_n _ _ (z_neN ha9 hq78)).trans ha9)) hq93)).trans ((z_up_n _ _ hn9).trans ((z_up_n _ _ (z_neN ha9 hq78)).trans ha9))) hq5_97)).trans ((z_up_n _ _ (z_neN ((z_up_n _ _ hn9).trans ((z_up_n _ _ (z_neN ha9 hq78)).trans ha9)) hq93)).trans ((z_up_n _ _ hn9).trans ((z_up_n _ _ (z_neN ha9 hq78)).trans ha9)))) hq12_3_9_97)).trans ((z_up_n _ _ (z_neN ha9 hq78)).trans ha9))))))) ((z_up_s _ _ _)) (((z_up_n _ _ (Ne.symm (z_neN hK.1 hq78))).trans ((z_up_n _ _ (z_neN ((z_up_n _ _ (Ne.symm (z_neN hK.1 hq78))).trans ((z_up_n _ _ (z_neN ((z_up_n _ _ (Ne.symm (z_neN hK.1 hq78))).trans (z_up_s _ _ _)) hq93)).trans ((z_up_n _ _ (z_neN ((z_up_n _ _ (z_neN ((z_up_n _ _ (Ne.symm (z_neN hK.1 hq78))).trans (z_up_s _ _ _)) hq93)).trans ((z_up_n _ _ (Ne.symm (z_neN hK.1 hq78))).trans (z_up_s _ _ _))) hq5_97)).trans ((z_up_n _ _ (z_neN ((z_up_n _ _ (z_neN ((z_up_n _ _ (z_neN ((z_up_n _ _ (Ne.symm (z_neN hK.1 hq78))).trans (z_up_s _ _ _)) hq93)).trans ((z_up_n _ _ (Ne.symm (z_neN hK.1 hq78))).trans (z_up_s _ _ _))) hq5_97)).trans ((z_up_n _ _ (z_neN ((z_up_n _ _ (Ne.symm (z_neN hK.1 hq78))).trans (z_up_s _ _ _)) hq93)).trans ((z_up_n _ _ (Ne.symm (z_neN hK.1 hq78))).trans (z_up_s _ _ _)))) hq12_3_9_97)).trans (z_up_s _ _ _))))) hq106)).trans ((z_up_n _ _ (z_neN ((z_up_n _ _ (Ne.symm (z_neN hK.1 hq78))).trans (z_up_s _ _ _)) hq93)).trans ((z_up_n _ _ (z_neN ((z_up_n _ _ (z_neN ((z_up_n _ _ (Ne.symm (z_neN hK.1 hq78))).trans (z_up_s _ _ _)) hq93)).trans ((z_up_n _ _ (Ne.symm (z_neN hK.1 hq78))).trans (z_up_s _ _ _))) hq5_97)).trans ((z_up_n _ _ (z_neN ((z_up_n _ _ (z_neN ((z_up_n _ _ (z_neN ((z_up_n _ _ (Ne.symm (z_neN hK.1 hq78))).trans (z_up_s _ _ _)) hq93)).trans ((z_up_n _ _ (Ne.symm (z_neN hK.1 hq78))).trans (z_up_s _ _ _))) hq5_97)).trans ((z_up_n _ _ (z_neN ((z_up_n _ _ (Ne.symm (z_neN hK.1 hq78))).trans (z_up_s _ _ _)) hq93)).trans ((z_up_n _ _ (Ne.symm (z_neN hK.1 hq78))).trans (z_up_s _ _ _)))) hq12_3_9_97)).trans (z_up_s _ _ _))))))) (((z_up_n _ _ (Ne.symm (z_neN (z_up_s _ _ _) hq93))).trans ((z_up_n _ _ (z_neN ((z_up_n _ _ (Ne.symm (z_neN (z_up_s _ _ _) hq93))).trans (z_up_s _ _ _)) hq106)).trans (z_up_s _ _ _)))) (((z_up_n _ _ (Ne.symm (z_neN ((z_up_n _ _ (z_neN (z_up_s _ _ _) hq93)).trans (z_up_s _ _ _)) hq5_97))).trans ((z_up_n _ _ (z_neN ((z_up_n _ _ (Ne.symm (z_neN ((z_up_n _ _ (z_neN (z_up_s _ _ _) hq93)).trans (z_up_s _ _ _)) hq5_97))).trans ((z_up_n _ _ (Ne.symm (z_neN (z_up_s _ _ _) hq5_97))).trans (z_up_s _ _ _))) hq106)).trans ((z_up_n _ _ (Ne.symm (z_neN (z_up_s _ _ _) hq5_97))).trans (z_up_s _ _ _))))) (((z_up_n _ _ (Ne.symm (z_neN ((z_up_n _ _ (z_neN ((z_up_n _ _ (z_neN (z_up_s _ _ _) hq93)).trans (z_up_s _ _ _)) hq5_97)).trans ((z_up_n _ _ (z_neN (z_up_s _ _ _) hq93)).trans (z_up_s _ _ _))) hq12_3_9_97))).trans ((z_up_n _ _ (z_neN ((z_up_n _ _ (Ne.symm (z_neN ((z_up_n _ _ (z_neN ((z_up_n _ _ (z_neN (z_up_s _ _ _) hq93)).trans (z_up_s _ _ _)) hq5_97)).trans ((z_up_n _ _ (z_neN (z_up_s _ _ _) hq93)).trans (z_up_s _ _ _))) hq12_3_9_97))).trans ((z_up_n _ _ (Ne.symm (z_neN ((z_up_n _ _ (z_neN (z_up_s _ _ _) hq5_97)).trans (z_up_s _ _ _)) hq12_3_9_97))).trans ((z_up_n _ _ (Ne.symm (z_neN (z_up_s _ _ _) hq12_3_9_97))).trans (z_up_s _ _ _)))) hq106)).trans ((z_up_n _ _ (Ne.symm (z_neN ((z_up_n _ _ (z_neN (z_up_s _ _ _) hq5_97)).trans (z_up_s _ _ _)) hq12_3_9_97))).trans ((z_up_n _ _ (Ne.symm (z_neN (z_up_s _ _ _) hq12_3_9_97))).trans (z_up_s _ _ _)))))) (((z_up_n _ _ (Ne.symm (z_neN (z_up_s _ _ _) hq106))).trans (z_up_s _ _ _)))⟩
end
section
/-! PART 63: a new object of the reference -/
def s_tl (j : Nat) : Nat := if j ≤ 4 then 16 else 16 + 8 * (j - 4)
/-- the reference half made: j panes stand -/
def s_LI (G : zG) (m pn td j tp : Nat) (K : Nat → Nat) (Mw : zM) : Prop :=
  Mw m = some (cMd tp (nI (s_rn j)) pn td 0 0 0) ∧
  (∃ ft : Nat → Int32, Mw tp = some (aI G (s_tl j) ft) ∧ ∀ k, k < s_tl j → ft k = 0) ∧
  (∃ fp : Nat → Option Nat, Mw pn = some (aII G 6 fp) ∧ ∀ i, i < j → fp i = some (K i)) ∧
  Mw td = some (aI G 6 (fun _ => 0)) ∧
  (∀ i, i < j → Mw (K i) = some (cPy G (nI (s_ba s_l0 (p_ro (s_p0 i)))) (s_p0 i))) ∧
  (∀ a b, a < j → b < j → K a = K b → a = b) ∧ (∀ i, i < j → K i ≠ td) ∧ (∀ i, i < j → K i ≠ tp) ∧ td ≠ tp
section LIS
variable {G : zG} {m pn td j tp : Nat} {K : Nat → Nat} {Mw Mb : zM} {fp : Nat → Option Nat} {ft : Nat → Int32}
theorem s_LI0 (h1 : Mb m = some (cMd tp 1 pn td 0 0 0)) (h2 : Mb tp = some (aI G 16 (fun _ => 0))) (h3 : Mb pn = some (aII G 6 fp)) (h4 : Mb td = some (aI G 6 (fun _ => 0))) (h5 : td ≠ tp) : s_LI G m pn td 0 tp (fun _ => 0) Mb :=
  ⟨h1, ⟨_, h2, fun _ _ => rfl⟩, ⟨fp, h3, fun i hi => absurd hi (by omega)⟩, h4, fun i hi => absurd hi (by omega), fun a b ha => absurd ha (by omega), fun i hi => absurd hi (by omega), fun i hi => absurd hi (by omega), h5⟩
theorem s_LIa (hK : s_LI G m pn td j tp K Mw) (hj : j < 4) {q : Nat} (hpn : Mw pn = some (aII G 6 fp)) (hq : Mw q = none) (hk : ∀ a e, Mw a = some e → a ≠ pn → Mb a = some e) (h1 : Mb pn = some (aII G 6 (va_up fp j (some q)))) (h2 : Mb q = some (cPm G 0 0 0 16 0 16 (-1) 0)) : s_LI G m pn td (j + 1) tp (s_fu K j q) Mb := by
  obtain ⟨hm, ⟨ft, htp, hft⟩, ⟨fp', hpn', hfp⟩, htd, hP, iK, i1, i2, i3⟩ := hK
  have e : fp' = fp := by
    have := hpn'.symm.trans hpn
    simpa using this
  subst e
  have e1 : s_rn (j + 1) = s_rn j := by unfold s_rn; rw [if_pos (by omega), if_pos (by omega)]
  have e2 : s_tl (j + 1) = s_tl j := by unfold s_tl; rw [if_pos (by omega), if_pos (by omega)]
  rw [s_LI, e1, e2]
  have hn : ∀ {a : Nat} {e : va_E}, Mw a = some e → e ≠ aII G 6 fp' → Mb a = some e := fun ha he => hk _ _ ha (z_ne ha hpn he)
  refine ⟨hn hm (by intro h; cases h), ⟨ft, hn htp (by intro h; simp at h), hft⟩, ⟨_, h1, fun i hi => ?_⟩, hn htd (by intro h; simp at h), fun i hi => ?_, s_fu_one iK (fun a ha => z_neN (hP a ha) hq), fun i hi => ?_, fun i hi => ?_, i3⟩
  · by_cases hij : i = j
    · subst hij; rw [s_fu_s, va_up_self]
    · rw [s_fu_n _ _ hij, va_up_ne _ _ hij]; exact hfp i (by omega)
  · by_cases hij : i = j
    · subst hij
      rw [s_fu_s, s_p0a hj]
      exact h2
    · rw [s_fu_n _ _ hij]
      exact hn (hP i (by omega)) (by intro h; simp at h)
  · by_cases hij : i = j
    · subst hij; rw [s_fu_s]; exact (z_neN htd hq).symm
    · rw [s_fu_n _ _ hij]; exact i1 i (by omega)
  · by_cases hij : i = j
    · subst hij; rw [s_fu_s]; exact (z_neN htp hq).symm
    · rw [s_fu_n _ _ hij]; exact i2 i (by omega)
theorem s_LIb (hK : s_LI G m pn td j tp K Mw) (hj : 4 ≤ j) (hj6 : j < 6) {q tq : Nat} (hpn : Mw pn = some (aII G 6 fp)) (htp : Mw tp = some (aI G (s_tl j) ft)) (htq : Mw tq = none) (hq : Mw q = none) (hqt : q ≠ tq) (hk : ∀ a e, Mw a = some e → a ≠ pn → a ≠ m → Mb a = some e) (h0 : Mb m = some (cMd tq (nI (s_rn j) + 1) pn td 0 0 0)) (h1 : Mb pn = some (aII G 6 (va_up fp j (some q)))) (h2 : Mb q = some (cPm G (nI (s_rn j)) (Int32.ofNat (s_tl j)) 0 8 0 8 (-1) 0)) (h3 : Mb tq = some (aI G (s_tl j + 8) (z_cp ft (s_tl j)))) : s_LI G m pn td (j + 1) tq (s_fu K j q) Mb := by
  obtain ⟨hm, ⟨ft', htp', hft⟩, ⟨fp', hpn', hfp⟩, htd, hP, iK, i1, i2, i3⟩ := hK
  have e : fp' = fp := by
    have := hpn'.symm.trans hpn
    simpa using this
  subst e
  have e : ft' = ft := by
    have := htp'.symm.trans htp
    simpa using this
  subst e
  have e1 : s_rn (j + 1) = s_rn j + 1 := by unfold s_rn; split <;> split <;> omega
  have e2 : s_tl (j + 1) = s_tl j + 8 := by unfold s_tl; split <;> split <;> omega
  rw [s_LI, e1, e2]
  have hn : ∀ {a : Nat} {e : va_E}, Mw a = some e → e ≠ aII G 6 fp' → e ≠ cMd tp (nI (s_rn j)) pn td 0 0 0 → Mb a = some e := fun ha he h9 => hk _ _ ha (z_ne ha hpn he) (z_ne ha hm h9)
  refine ⟨by rw [← nI_1]; exact h0, ⟨_, h3, fun k hk9 => ?_⟩, ⟨_, h1, fun i hi => ?_⟩, hn htd (by intro h; simp at h) (by intro h; cases h), fun i hi => ?_, s_fu_one iK (fun a ha => z_neN (hP a ha) hq), fun i hi => ?_, fun i hi => ?_, z_neN htd htq⟩
  · show z_cp ft' (s_tl j) k = 0
    unfold z_cp
    split
    · rename_i h; exact hft k h
    · rfl
  · by_cases hij : i = j
    · subst hij; rw [s_fu_s, va_up_self]
    · rw [s_fu_n _ _ hij, va_up_ne _ _ hij]; exact hfp i (by omega)
  · by_cases hij : i = j
    · subst hij
      rw [s_fu_s]
      rcases (show i = 4 ∨ i = 5 by omega) with rfl | rfl <;> exact h2
    · rw [s_fu_n _ _ hij]
      exact hn (hP i (by omega)) (by intro h; simp at h) (by intro h; cases h)
  · by_cases hij : i = j
    · subst hij; rw [s_fu_s]; exact (z_neN htd hq).symm
    · rw [s_fu_n _ _ hij]; exact i1 i (by omega)
  · by_cases hij : i = j
    · subst hij; rw [s_fu_s]; exact hqt
    · rw [s_fu_n _ _ hij]; exact z_neN (hP i (by omega)) htq
theorem s_LIz (hK : s_LI G m pn td 6 tp K Mw) : RI G s_00 m 0 K tp pn td Mw := by
  obtain ⟨hm, ⟨ft, htp, hft⟩, ⟨fp, hpn, hfp⟩, htd, hP, iK, i1, i2, i3⟩ := hK
  refine ⟨hm, ⟨ft, htp, fun r hr j hj => hft _ ?_⟩, ⟨fp, hpn, hfp⟩, htd, hP, iK, i1, i2, i3⟩
  have h9 := s_ba_lt s_l0 (r := r) (s := 3) hr
  have h8 : s_ba s_l0 3 = 32 := by decide
  have h7 : s_tl 6 = 32 := by decide
  have h6 : j < s_l0 r := hj
  show s_ba s_l0 r + j < s_tl 6
  omega
end LIS
theorem dX5_init_0 : decode cX5_init 0 = .ok (.aload_n 0, 1) := by decide +kernel
theorem dX5_init_1 : decode cX5_init 1 = .ok (.invokespecial 1, 3) := by decide +kernel
theorem dX5_init_4 : decode cX5_init 4 = .ok (.aload_n 0, 1) := by decide +kernel
theorem dX5_init_5 : decode cX5_init 5 = .ok (.bipush 16, 2) := by decide +kernel
theorem dX5_init_7 : decode cX5_init 7 = .ok (.newarray .int, 2) := by decide +kernel
theorem dX5_init_9 : decode cX5_init 9 = .ok (.putfield 9, 3) := by decide +kernel
theorem dX5_init_12 : decode cX5_init 12 = .ok (.aload_n 0, 1) := by decide +kernel
theorem dX5_init_13 : decode cX5_init 13 = .ok (.iconst 1, 1) := by decide +kernel
theorem dX5_init_14 : decode cX5_init 14 = .ok (.putfield 13, 3) := by decide +kernel
theorem dX5_init_17 : decode cX5_init 17 = .ok (.aload_n 0, 1) := by decide +kernel
theorem dX5_init_18 : decode cX5_init 18 = .ok (.bipush 6, 2) := by decide +kernel
theorem dX5_init_20 : decode cX5_init 20 = .ok (.anewarray 17, 3) := by decide +kernel
theorem dX5_init_23 : decode cX5_init 23 = .ok (.putfield 18, 3) := by decide +kernel
theorem dX5_init_26 : decode cX5_init 26 = .ok (.aload_n 0, 1) := by decide +kernel
theorem dX5_init_27 : decode cX5_init 27 = .ok (.bipush 6, 2) := by decide +kernel
theorem dX5_init_29 : decode cX5_init 29 = .ok (.newarray .int, 2) := by decide +kernel
theorem dX5_init_31 : decode cX5_init 31 = .ok (.putfield 22, 3) := by decide +kernel
theorem dX5_init_34 : decode cX5_init 34 = .ok (.iconst 0, 1) := by decide +kernel
theorem dX5_init_35 : decode cX5_init 35 = .ok (.istore_n 1, 1) := by decide +kernel
theorem dX5_init_36 : decode cX5_init 36 = .ok (.iload_n 1, 1) := by decide +kernel
theorem dX5_init_37 : decode cX5_init 37 = .ok (.iconst 4, 1) := by decide +kernel
theorem dX5_init_38 : decode cX5_init 38 = .ok (.if_icmp .ge 23, 3) := by decide +kernel
theorem dX5_init_41 : decode cX5_init 41 = .ok (.aload_n 0, 1) := by decide +kernel
theorem dX5_init_42 : decode cX5_init 42 = .ok (.getfield 18, 3) := by decide +kernel
theorem dX5_init_45 : decode cX5_init 45 = .ok (.iload_n 1, 1) := by decide +kernel
theorem dX5_init_46 : decode cX5_init 46 = .ok (.iconst 0, 1) := by decide +kernel
theorem dX5_init_47 : decode cX5_init 47 = .ok (.iconst 0, 1) := by decide +kernel
theorem dX5_init_48 : decode cX5_init 48 = .ok (.iconst 0, 1) := by decide +kernel
theorem dX5_init_49 : decode cX5_init 49 = .ok (.bipush 16, 2) := by decide +kernel
theorem dX5_init_51 : decode cX5_init 51 = .ok (.invokestatic 25, 3) := by decide +kernel
theorem dX5_init_54 : decode cX5_init 54 = .ok (.aastore, 1) := by decide +kernel
theorem dX5_init_55 : decode cX5_init 55 = .ok (.iinc 1 1, 3) := by decide +kernel
theorem dX5_init_58 : decode cX5_init 58 = .ok (.goto (-22), 3) := by decide +kernel
theorem dX5_init_61 : decode cX5_init 61 = .ok (.iconst 4, 1) := by decide +kernel
theorem dX5_init_62 : decode cX5_init 62 = .ok (.istore_n 1, 1) := by decide +kernel
theorem dX5_init_63 : decode cX5_init 63 = .ok (.iload_n 1, 1) := by decide +kernel
theorem dX5_init_64 : decode cX5_init 64 = .ok (.bipush 6, 2) := by decide +kernel
theorem dX5_init_66 : decode cX5_init 66 = .ok (.if_icmp .ge 21, 3) := by decide +kernel
theorem dX5_init_69 : decode cX5_init 69 = .ok (.aload_n 0, 1) := by decide +kernel
theorem dX5_init_70 : decode cX5_init 70 = .ok (.getfield 18, 3) := by decide +kernel
theorem dX5_init_73 : decode cX5_init 73 = .ok (.iload_n 1, 1) := by decide +kernel
theorem dX5_init_74 : decode cX5_init 74 = .ok (.aload_n 0, 1) := by decide +kernel
theorem dX5_init_75 : decode cX5_init 75 = .ok (.bipush 8, 2) := by decide +kernel
theorem dX5_init_77 : decode cX5_init 77 = .ok (.invokevirtual 29, 3) := by decide +kernel
theorem dX5_init_80 : decode cX5_init 80 = .ok (.aastore, 1) := by decide +kernel
theorem dX5_init_81 : decode cX5_init 81 = .ok (.iinc 1 1, 3) := by decide +kernel
theorem dX5_init_84 : decode cX5_init 84 = .ok (.goto (-21), 3) := by decide +kernel
theorem dX5_init_87 : decode cX5_init 87 = .ok (.return_, 1) := by decide +kernel
set_option maxRecDepth 20000 in
theorem lp_X5_in1 {X : zX} (C : z_C X cX5_init RX5 2 (z_rm 3 11 2060)) {m pn td tp : Nat} (kk : ∀ K Mw, s_LI (z_G X) m pn td 4 tp K Mw → z_W X Mw (3 + 4) (28 + 8 * 4) 61 [(0, .ref m)] []) : ∀ (d jx : Nat) (K : Nat → Nat) (Mw : zM), jx + d = 4 → s_LI (z_G X) m pn td jx tp K Mw → z_W X Mw (3 + jx) (28 + 8 * jx) 36 [(1, .int (nI jx)), (0, .ref m)] [] := by
  intro d
  induction d with
  | zero =>
    intro jx K Mw hd hK
    obtain ⟨ft, htp, hft⟩ := hK.2.1
    obtain ⟨fp, hpn, hfp⟩ := hK.2.2.1
    refine z_iload_n C dX5_init_36 rfl 0 rfl ?_
    refine z_iconst C (v := 4) dX5_init_37 (by decide) ?_
    refine z_icmp_ge C (tgt := 61) dX5_init_38 (by decide) (fun _ => ?_) (fun c38 => absurd (nI_le (b := jx) (a := 4) (by omega) (by omega)) c38)
    have e9 : jx = 4 := by omega
    subst e9
    refine z_fewer [1] rfl ?_
    exact kk _ _ hK
  | succ d ih =>
    intro jx K Mw hd hK
    obtain ⟨ft, htp, hft⟩ := hK.2.1
    obtain ⟨fp, hpn, hfp⟩ := hK.2.2.1
    refine z_iload_n C dX5_init_36 rfl 0 rfl ?_
    refine z_iconst C (v := 4) dX5_init_37 (by decide) ?_
    refine z_icmp_ge C (tgt := 61) dX5_init_38 (by decide) (fun c38 => absurd c38 (nI_ge (a := jx) (b := 4) (by omega) (by omega))) (fun _ => ?_)
    refine z_aload_n C dX5_init_41 rfl 1 rfl ?_
    refine gf_X5_18 C hK.1 dX5_init_42 ?_
    refine z_iload_n C dX5_init_45 rfl 0 rfl ?_
    refine z_iconst C (v := 0) dX5_init_46 (by decide) ?_
    refine z_iconst C (v := 0) dX5_init_47 (by decide) ?_
    refine z_iconst C (v := 0) dX5_init_48 (by decide) ?_
    refine z_bipush C (v := 16) dX5_init_49 (by decide) ?_
    refine z_callSr (rest := [.int (nI jx), .ref pn]) (k' := 3 + jx + 1) (n' := 28 + 8 * jx + 8) C (c_X5_over (z_l X) (z_G X) ) (cs_X5_25 C (by decide)) rfl rfl (Nat.le_of_ble_eq_true rfl) rfl rfl (by show _ ≤ 11; omega) (by show _ ≤ 2060; omega) dX5_init_51 (fun x51 M' hq => ?_)
    obtain ⟨q_51, hq_51, hr51, rfl⟩ := hq
    rw [hr51]
    refine z_aastII (j := jx) C kn1042 ((z_up_n _ _ (z_neN hpn hq_51)).trans hpn) (z_up_s _ _ _) (vp_in_nI (by omega) (by decide)) (nI_clamp (by omega)) dX5_init_54 ?_
    refine z_iinc (v := nI (jx + 1)) (lv' := [(1, .int (nI (jx + 1))), (0, .ref m)]) C dX5_init_55 0 rfl (nI_1 jx) (by decide) rfl ?_
    refine z_goto C (tgt := 36) dX5_init_58 (by decide) ?_
    refine z_fewer [0, 1] rfl ?_
    refine z_opq (fun Mb hWb => ?_)
    have fa0 : Mb pn = some (aII (z_G X) 6 (va_up fp jx (some q_51))) := by rw [hWb]; exact (z_up_s _ _ _)
    have fa1 : Mb q_51 = some (cPm (z_G X) 0 0 0 16 0 16 (-1) 0) := by rw [hWb]; exact ((z_up_n _ _ (Ne.symm (z_neN hpn hq_51))).trans (z_up_s _ _ _))
    have ka : ∀ a e, Mw a = some e → a ≠ pn → Mb a = some e := fun a e ha9 hn9 => by rw [hWb]; exact ((z_up_n _ _ hn9).trans ((z_up_n _ _ (z_neN ha9 hq_51)).trans ha9))
    clear hWb
    have hK9 := s_LIa hK (by omega) hpn hq_51 ka fa0 fa1
    refine z_kn (k' := 3 + (jx + 1)) (n' := 28 + 8 * (jx + 1)) (by omega) (by omega) ?_
    exact ih (jx + 1) _ _ (by omega) hK9
set_option maxRecDepth 20000 in
theorem lp_X5_in2 {X : zX} (C : z_C X cX5_init RX5 2 (z_rm 3 11 2060)) {m pn td : Nat} (kk : ∀ tp K Mw, s_LI (z_G X) m pn td 6 tp K Mw → z_W X Mw (7 + 2 * (6 - 4)) (60 + 1000 * (6 - 4)) 87 [(0, .ref m)] []) : ∀ (d jx tp : Nat) (K : Nat → Nat) (Mw : zM), jx + d = 6 → 4 ≤ jx → s_LI (z_G X) m pn td jx tp K Mw → z_W X Mw (7 + 2 * (jx - 4)) (60 + 1000 * (jx - 4)) 63 [(1, .int (nI jx)), (0, .ref m)] [] := by
  intro d
  induction d with
  | zero =>
    intro jx tp K Mw hd hj4 hK
    obtain ⟨ft, htp, hft⟩ := hK.2.1
    obtain ⟨fp, hpn, hfp⟩ := hK.2.2.1
    refine z_iload_n C dX5_init_63 rfl 0 rfl ?_
    refine z_bipush C (v := 6) dX5_init_64 (by decide) ?_
    refine z_icmp_ge C (tgt := 87) dX5_init_66 (by decide) (fun _ => ?_) (fun c66 => absurd (nI_le (b := jx) (a := 6) (by omega) (by omega)) c66)
    have e9 : jx = 6 := by omega
    subst e9
    refine z_fewer [1] rfl ?_
    exact kk _ _ _ hK
  | succ d ih =>
    intro jx tp K Mw hd hj4 hK
    obtain ⟨ft, htp, hft⟩ := hK.2.1
    obtain ⟨fp, hpn, hfp⟩ := hK.2.2.1
    refine z_iload_n C dX5_init_63 rfl 0 rfl ?_
    refine z_bipush C (v := 6) dX5_init_64 (by decide) ?_
    refine z_icmp_ge C (tgt := 87) dX5_init_66 (by decide) (fun c66 => absurd c66 (nI_ge (a := jx) (b := 6) (by omega) (by omega))) (fun _ => ?_)
    refine z_aload_n C dX5_init_69 rfl 1 rfl ?_
    refine gf_X5_18 C hK.1 dX5_init_70 ?_
    refine z_iload_n C dX5_init_73 rfl 0 rfl ?_
    refine z_aload_n C dX5_init_74 rfl 1 rfl ?_
    refine z_bipush C (v := 8) dX5_init_75 (by decide) ?_
    refine z_callVr (rest := [.int (nI jx), .ref pn]) (k' := 7 + 2 * (jx - 4) + 2) (n' := 60 + 1000 * (jx - 4) + 1000) C (c_X5_made (z_l X) (z_G X) hK.1 htp (show (8 : Int32) = nI 8 by decide) (by decide) (by unfold s_tl; split <;> omega)) (cs_X5_29 C (by decide)) hK.1 rfl rfl rfl rfl (Nat.le_of_ble_eq_true rfl) rfl rfl (by show _ ≤ 11; omega) (by show _ ≤ 2060; omega) dX5_init_77 (fun x77 M' hq => ?_)
    obtain ⟨q7_77, hq7_77, q_47_77, hq_47_77, hr77, rfl⟩ := hq
    rw [hr77]
    refine z_aastII (j := jx) C kn1042 ((z_up_n _ _ (z_ne hpn hK.1 (by intro h; cases h))).trans ((z_up_n _ _ (z_neN ((z_up_n _ _ (z_neN hpn hq7_77)).trans hpn) hq_47_77)).trans ((z_up_n _ _ (z_neN hpn hq7_77)).trans hpn))) ((z_up_n _ _ (Ne.symm (z_neN ((z_up_n _ _ (z_neN hK.1 hq7_77)).trans hK.1) hq_47_77))).trans (z_up_s _ _ _)) (vp_in_nI (by omega) (by decide)) (nI_clamp (by omega)) dX5_init_80 ?_
    refine z_iinc (v := nI (jx + 1)) (lv' := [(1, .int (nI (jx + 1))), (0, .ref m)]) C dX5_init_81 0 rfl (nI_1 jx) (by decide) rfl ?_
    refine z_goto C (tgt := 63) dX5_init_84 (by decide) ?_
    refine z_fewer [0, 1] rfl ?_
    refine z_opq (fun Mb hWb => ?_)
    have fb0 : Mb m = some (cMd q7_77 ((nI (s_rn jx)) + 1) pn td 0 0 0) := by rw [hWb]; exact ((z_up_n _ _ (z_ne hK.1 hpn (by intro h; cases h))).trans (z_up_s _ _ _))
    have fb1 : Mb pn = some (aII (z_G X) 6 (va_up fp jx (some q_47_77))) := by rw [hWb]; exact (z_up_s _ _ _)
    have fb2 : Mb q_47_77 = some (cPm (z_G X) (nI (s_rn jx)) (Int32.ofNat (s_tl jx)) 0 8 0 8 (-1) 0) := by rw [hWb]; exact ((z_up_n _ _ (Ne.symm (z_neN ((z_up_n _ _ (z_neN hpn hq7_77)).trans hpn) hq_47_77))).trans ((z_up_n _ _ (Ne.symm (z_neN ((z_up_n _ _ (z_neN hK.1 hq7_77)).trans hK.1) hq_47_77))).trans (z_up_s _ _ _)))
    have fb3 : Mb q7_77 = some (aI (z_G X) ((s_tl jx) + 8) (z_cp ft (s_tl jx))) := by rw [hWb]; exact ((z_up_n _ _ (Ne.symm (z_neN hpn hq7_77))).trans ((z_up_n _ _ (Ne.symm (z_neN hK.1 hq7_77))).trans ((z_up_n _ _ (z_neN (z_up_s _ _ _) hq_47_77)).trans (z_up_s _ _ _))))
    have kb : ∀ a e, Mw a = some e → a ≠ pn → a ≠ m → Mb a = some e := fun a e ha9 hn9 hm9 => by rw [hWb]; exact ((z_up_n _ _ hn9).trans ((z_up_n _ _ hm9).trans ((z_up_n _ _ (z_neN ((z_up_n _ _ (z_neN ha9 hq7_77)).trans ha9) hq_47_77)).trans ((z_up_n _ _ (z_neN ha9 hq7_77)).trans ha9))))
    clear hWb
    have hK9 := s_LIb hK (by omega) (by omega) hpn htp hq7_77 (z_noN hq_47_77) (Ne.symm (z_neN (z_up_s _ _ _) hq_47_77)) kb fb0 fb1 fb2 fb3
    refine z_kn (k' := 7 + 2 * (jx + 1 - 4)) (n' := 60 + 1000 * (jx + 1 - 4)) (by omega) (by omega) ?_
    exact ih (jx + 1) _ _ _ (by omega) (by omega) hK9
set_option maxRecDepth 20000 in
theorem a_X5_init (l : Launch) {G : zG} {m : Nat} {Mw : zM} (hm : Mw m = some (.inr (9, [.null, .int 0, .null, .null, .int 0, .int 0, .int 0]))) : z_Mv l G qX5_init (z_rm 3 11 2060) [.ref m] Mw (fun Mz => ∃ K tp pn td, RI G s_00 m 0 K tp pn td Mz)  := by
  refine z_Mv_of _ (plainFor_of_name rfl) rfl (Nat.le_of_ble_eq_true rfl) (fun X hl hG hnm C ret => ?_)
  subst hl; subst hG
  have C : z_C X cX5_init RX5 2 (z_rm 3 11 2060) := C
  show z_W X Mw 0 0 0 [(0, .ref m)] []
  refine z_aload_n C dX5_init_0 rfl 0 rfl ?_
  refine z_objInit (rest := []) C kw1040 kw32 kw33 ⟨Nat.le_of_ble_eq_true rfl, Nat.le_of_ble_eq_true rfl⟩ (Nat.le_of_ble_eq_true rfl) dX5_init_1 ?_
  refine z_aload_n C dX5_init_4 rfl 0 rfl ?_
  refine z_bipush C (v := 16) dX5_init_5 (by decide) ?_
  refine z_newI (N := 16) C kw44 (by decide) (by decide) (by decide) (Nat.le_of_ble_eq_true rfl) (Nat.le_of_ble_eq_true rfl) dX5_init_7 (fun q7 hq7 => ?_)
  refine z_kn (k' := 1) (n' := 16) rfl rfl ?_
  refine pr_X5_9 C rfl rfl ((z_up_n _ _ (z_neN hm hq7)).trans hm) dX5_init_9 ?_
  refine z_aload_n C dX5_init_12 rfl 0 rfl ?_
  refine z_iconst C (v := 1) dX5_init_13 (by decide) ?_
  refine pq_X5_13 C rfl rfl dX5_init_14 ?_
  refine z_aload_n C dX5_init_17 rfl 0 rfl ?_
  refine z_bipush C (v := 6) dX5_init_18 (by decide) ?_
  refine z_newII (N := 6) C kw1041 kn1042 (by decide) (by decide) (by decide) (Nat.le_of_ble_eq_true rfl) (Nat.le_of_ble_eq_true rfl) dX5_init_20 (fun q20 hq20 => ?_)
  refine z_kn (k' := 2) (n' := 22) rfl rfl ?_
  rw [z_up_swap _ (z_neN (z_up_s _ _ _) hq20)]
  refine pq_X5_18 C hnm rfl rfl dX5_init_23 ?_
  refine z_aload_n C dX5_init_26 rfl 0 rfl ?_
  refine z_bipush C (v := 6) dX5_init_27 (by decide) ?_
  refine z_newI (N := 6) C kw44 (by decide) (by decide) (by decide) (Nat.le_of_ble_eq_true rfl) (Nat.le_of_ble_eq_true rfl) dX5_init_29 (fun q29 hq29 => ?_)
  refine z_kn (k' := 3) (n' := 28) rfl rfl ?_
  rw [z_up_swap _ (z_neN (z_up_s _ _ _) hq29)]
  refine pq_X5_22 C hnm rfl rfl dX5_init_31 ?_
  refine z_iconst C (v := 0) dX5_init_34 (by decide) ?_
  refine z_istore_n (lv' := [(1, .int 0), (0, .ref m)]) C dX5_init_35 rfl (by decide) rfl ?_
  refine z_fewer [0, 1] rfl ?_
  refine z_at (M' := _) (lv' := [(1, .int (nI 0)), (0, .ref m)]) rfl (by rw [nI_0]; rfl) rfl ?_
  refine z_opq (fun Mb hWb => ?_)
  have fs0 : Mb m = some (.inr (9, [.ref q7, .int 1, .ref q20, .ref q29, .int 0, .int 0, .int 0])) := by rw [hWb]; exact (z_up_s _ _ _)
  have fs1 : Mb q7 = some (aI (z_G X) 16 (fun _ => 0)) := by rw [hWb]; exact ((z_up_n _ _ (Ne.symm (z_neN hm hq7))).trans ((z_up_n _ _ (z_neN ((z_up_n _ _ (Ne.symm (z_neN hm hq7))).trans ((z_up_n _ _ (z_neN ((z_up_n _ _ (Ne.symm (z_neN hm hq7))).trans (z_up_s _ _ _)) hq20)).trans (z_up_s _ _ _))) hq29)).trans ((z_up_n _ _ (z_neN ((z_up_n _ _ (Ne.symm (z_neN hm hq7))).trans (z_up_s _ _ _)) hq20)).trans (z_up_s _ _ _))))
  have fs2 : Mb q20 = some (aII (z_G X) 6 (fun _ => none)) := by rw [hWb]; exact ((z_up_n _ _ (Ne.symm (z_neN (z_up_s _ _ _) hq20))).trans ((z_up_n _ _ (z_neN ((z_up_n _ _ (Ne.symm (z_neN (z_up_s _ _ _) hq20))).trans (z_up_s _ _ _)) hq29)).trans (z_up_s _ _ _)))
  have fs3 : Mb q29 = some (aI (z_G X) 6 (fun _ => 0)) := by rw [hWb]; exact ((z_up_n _ _ (Ne.symm (z_neN (z_up_s _ _ _) hq29))).trans (z_up_s _ _ _))
  have ks : ∀ a e, Mw a = some e → a ≠ m → Mb a = some e := fun a e ha9 hn9 => by rw [hWb]; exact ((z_up_n _ _ hn9).trans ((z_up_n _ _ (z_neN ((z_up_n _ _ hn9).trans ((z_up_n _ _ (z_neN ((z_up_n _ _ hn9).trans ((z_up_n _ _ (z_neN ha9 hq7)).trans ha9)) hq20)).trans ((z_up_n _ _ (z_neN ha9 hq7)).trans ha9))) hq29)).trans ((z_up_n _ _ (z_neN ((z_up_n _ _ hn9).trans ((z_up_n _ _ (z_neN ha9 hq7)).trans ha9)) hq20)).trans ((z_up_n _ _ (z_neN ha9 hq7)).trans ha9))))
  clear hWb
  refine z_kn (k' := 3 + 0) (n' := 28 + 8 * 0) rfl rfl ?_
  refine lp_X5_in1 C (fun K Mz hK => ?_) 4 0 _ _ (Nat.zero_add _) (s_LI0 fs0 fs1 fs2 fs3 (Ne.symm (z_neN ((z_up_n _ _ (Ne.symm (z_neN hm hq7))).trans ((z_up_n _ _ (z_neN ((z_up_n _ _ (Ne.symm (z_neN hm hq7))).trans (z_up_s _ _ _)) hq20)).trans (z_up_s _ _ _))) hq29)))
  refine z_kn (k' := 7) (n' := 60) rfl rfl ?_
  refine z_iconst C (v := 4) dX5_init_61 (by decide) ?_
  refine z_istore_n (lv' := [(1, .int 4), (0, .ref m)]) C dX5_init_62 rfl (by decide) rfl ?_
  refine z_fewer [0, 1] rfl ?_
  refine z_at (M' := _) (lv' := [(1, .int (nI 4)), (0, .ref m)]) rfl (by rw [show nI 4 = 4 by decide]; rfl) rfl ?_
  refine z_kn (k' := 7 + 2 * (4 - 4)) (n' := 60 + 1000 * (4 - 4)) rfl rfl ?_
  refine lp_X5_in2 C (fun tp K2 Mz2 hK2 => ?_) 2 4 _ _ _ rfl (by decide) hK
  refine z_kn (k' := 11) (n' := 2060) rfl rfl ?_
  refine ret dX5_init_87 ?_ (Nat.le_of_ble_eq_true rfl) (Nat.le_of_ble_eq_true rfl)
  exact ⟨_, _, _, _, s_LIz hK2⟩
end
section
/-! PART 64: methods that catch; worlds of the law: the class's cells, the reference's, Out's -/
section ZHH
/-- a static method with an exception table: its words -/
def z_hs (q : zY) (hh : List (Nat × Nat × Nat × Nat)) : List Cond := .codeWith q.1 q.2.1 q.2.2.1 q.2.2.2 hh :: gw
def z_Hi (l : Launch) (G : zG) (q : zY) (hh : List (Nat × Nat × Nat × Nat)) (rm : Room) (av : List Value) (M : zM) (post : Int32 → zM → Prop) : Prop := ∀ sz : Nat, Met l q.1 (z_hs q hh) rm (va_Pc av (z_B G M sz)) (va_Qi post (z_E G M sz) (z_A M sz)) rm.cells rm.slots (z_A M sz)
variable {l : Launch} {G : zG} {q : zY} {hh : List (Nat × Nat × Nat × Nat)} {rm : Room} {av : List Value} {M : zM}
theorem z_Hi_of {ty : FieldType} (post : Int32 → zM → Prop) (hy : plainName q.1.cls = true) (hr : q.2.2.2 = some ty) (hargs : (lg_sl av).length ≤ q.2.2.1)
    (body : ∀ X : zX, z_l X = l → z_G X = G → z_C X q.2.1 q.1.cls q.2.2.1 rm → (z_c X).exceptionTable.toList = tableOf hh → (∀ {M' : zM} {r : Int32} {k n pc : Nat} {lv : List (Nat × Value)}, decode q.2.1 pc = .ok (.ireturn, 1) → narrow ty (.int r) = .int r → post r M' → k ≤ rm.cells → n ≤ rm.slots → z_W X M' k n pc lv [.int r]) → z_W X M 0 0 0 (lv_args 0 av) []) : z_Hi l G q hh rm av M post := by
  intro sz
  refine va_MetW (cc := q.2.1) (maxL := q.2.2.1) (ret := q.2.2.2) (hh := hh) hy rfl ?_
  intro p e s m args below meth c s₁ B hml hv
  obtain ⟨rfl, hsz, hh0, hK, hJ⟩ := hv
  subst hsz
  have hl := lv_entry av (n := q.2.2.1) hargs
  rw [lg_entry_eq]
  have hp := atoms_spec (ws := z_hs q hh) B.pre
  have hts : ∀ w ∈ gw, w.before av.toArray s = true := fun w h => hp w (List.mem_cons_of_mem _ h)
  have hT : c.exceptionTable.toList = tableOf hh := vx_table (x := q.1) B (hp _ List.mem_cons_self)
  exact body (p, l, e, rm, s, m, av.toArray, below, meth, c, MQ below (va_Qi post (z_E G M s.heap.size) (z_A M s.heap.size)) av.toArray s rm.cells rm.slots (z_A M s.heap.size), z_A M s.heap.size, G) rfl rfl
    ⟨B.exec, B.bytes, hml, findClass_of_methodNamed B.named, hts, hK, hJ, fun q h => Or.inr h, rfl⟩ hT
    (fun d hn hp hk hs H locs ls h1 h2 h3 h4 => W.widen hk hs (W.zret B.exec B.bytes (B.returns.trans hr) hn (fun t ht hW => ⟨⟨_, _, rfl, hp, by rw [ht]; exact h1, h2⟩, h3.F ht⟩) h3.2.2 d B.notSynchronized))
    s.heap [] _ hh0 (fun a e h => Or.inl ⟨e, h⟩) va_S.rf (by rw [show (z_c (p, l, e, rm, s, m, av.toArray, below, meth, c, _, _, G)).maxLocals = q.2.2.1 from hml]; exact hl)
theorem z_Hi_mono {post post' : Int32 → zM → Prop} (h : z_Hi l G q hh rm av M post) (hq : ∀ r M', post r M' → post' r M') : z_Hi l G q hh rm av M post' := fun sz =>
  z_mf (h sz) (fun _ _ hp => hp) fun a s o t _ ⟨⟨⟨r, u, e, p, b⟩, f⟩, g⟩ => ⟨⟨⟨r, u, e, hq _ _ p, b⟩, f⟩, g⟩
end ZHH
section ZHC
variable {X : zX} {cc : ByteArray} {own : String} {nL : Nat} {rm : Room} {M : zM} {k n pc : Nat} {lv : List (Nat × Value)} {st rest : List Value} {q : zY} {hh : List (Nat × Nat × Nat × Nat)} {rmc : Room} {index N : Nat} {As : List Value}
theorem z_cwH (C : z_C X cc own nL rm) (hq : Cond.codeWith q.1 q.2.1 q.2.2.1 q.2.2.2 hh ∈ gw) (hl : Cond.methodLink own index q.1 ∈ gw) (hs : Cond.static q.1 ∈ gw) (hc : Cond.initialized q.1.cls ∈ gw) (hd : q.1.cls ≠ "java/lang/invoke/MethodHandle" ∧ q.1.cls ≠ "java/lang/invoke/VarHandle" ∧ (parseMethodDescriptor q.1.desc).map (fun d => d.parameters.length) = some N) (hR : rmc.frames + 1 ≤ rm.frames ∧ 8 + (q.2.2.1 + 11) + rmc.locals ≤ rm.locals) :
    vx_CSW (z_R X) (z_s X) (z_a X) own index q.1 q.2.1 q.2.2.1 q.2.2.2 hh (z_hs q hh) rmc rmc.cells rmc.slots N :=
  vx_cwSW N C.2.2.2.2.1 (fun w h => by
    unfold va_wsS at h
    rcases List.mem_append.mp h with h | h
    · have h9 : w ∈ gw := by
        rcases List.mem_cons.mp h with rfl | h
        · exact hl
        rcases List.mem_cons.mp h with rfl | h
        · exact hs
        rcases List.mem_cons.mp h with rfl | h
        · exact hc
        exact absurd h List.not_mem_nil
      exact ⟨h9, gw_good _ h9⟩
    · rcases List.mem_cons.mp h with rfl | h
      · exact ⟨hq, gw_good _ hq⟩
      · exact ⟨h, gw_good _ h⟩) rfl rfl rfl hd (by rw [C.2.2.2.2.2.2.2.2]; exact hR)
theorem z_callHi {post : Int32 → zM → Prop} (C : z_C X cc own nL rm) (hM : z_Hi (z_l X) (z_G X) q hh rmc As M post) (cw : vx_CSW (z_R X) (z_s X) (z_a X) own index q.1 q.2.1 q.2.2.1 q.2.2.2 hh (z_hs q hh) rmc rmc.cells rmc.slots N) (hN : As.length = N) (hst : st = As.reverse ++ rest) (hcat : (rest.map fun v => v.category).sum ≤ 8) {k' n' : Nat} (ek : k + rmc.cells = k') (en : n + rmc.slots = n') (hk : k' ≤ rm.cells) (hn : n' ≤ rm.slots) (d : decode cc pc = .ok (.invokestatic index, 3))
    (kk : ∀ (x : Int32) (M' : zM), post x M' → z_W X M' k' n' (pc + 3) lv (.int x :: rest)) : z_W X M k n pc lv st := by
  subst hst; subst ek; subst en
  intro H locs ls h1 h2 h3 h4
  have hs := z_sub C h2 h3
  exact va_calli (vx_runSW ⟨C.1, C.2.1, rfl, C.2.2.2.1, C.2.2.2.2.1⟩ (hM H.size) cw ⟨z_blind, fun U hU hW => ⟨rfl, z_pre C h1 h2 h3 hU hW⟩⟩ rfl hN h4.1 rfl (lv_room hcat) d (by rw [C.2.2.2.2.2.2.2.2]; exact ⟨hk, hn⟩)) h3 (fun q _ h => hs q h) hs
    (fun x M' t H1 locs1 ht hvm hp hB hz hk1 hS => kk x M' hp H1 locs1 ls (by rw [← ht]; exact hB.1) (fun a e h => hs a (hB.2 a e h)) hS h4)
/-- an exception that this method's table catches -/
theorem z_catch (C : z_C X cc own nL rm) (T : (z_c X).exceptionTable.toList = tableOf hh) {E name : String} (pre : List ExceptionTableEntry) (en : ExceptionTableEntry) (suf : List ExceptionTableEntry) (hsplit : tableOf hh = pre ++ en :: suf) (hpass : ∀ z ∈ pre, covers z pc = false ∨ (z.catchType ≠ 0 ∧ ∃ nm : String, Cond.classLink own z.catchType nm ∈ gw ∧ va_Nc E nm (z_s X))) (hx : covers en pc = true) (h0 : en.catchType ≠ 0) (hlink : Cond.classLink own en.catchType name ∈ gw) (hcast : (Cond.castable E name).before (z_a X) (z_s X) = true)
    (kk : ∀ q : Nat, z_W X M k n en.handlerPc lv [.ref q]) : z_V X M k n pc lv st E :=
  fun H locs ls q ce h1 h2 h3 h4 g1 g2 g3 => vx_catch C.2.2.2.1 pre en suf (T.trans hsplit) (fun z hz => (hpass z hz).imp id fun h => ⟨h.1, h.2.imp fun nm h => ⟨z_tow C h.1, h.2⟩⟩) hx h0 (z_tow C hlink) hcast g1 g2 g3 (kk q H locs ls h1 h2 h3 h4)
theorem z_cI (C : z_C X cc own nL rm) : (Cond.castable "java/lang/IndexOutOfBoundsException" "java/lang/IndexOutOfBoundsException").before (z_a X) (z_s X) = true := va_Nw.use rfl (C.2.2.2.2.2.2.1.1.2.2.2.1 _ _ kn705)
theorem z_cA (C : z_C X cc own nL rm) : (Cond.castable "java/lang/IllegalArgumentException" "java/lang/IllegalArgumentException").before (z_a X) (z_s X) = true := va_Nw.use rfl (C.2.2.2.2.2.2.1.1.2.2.2.1 _ _ kn373)
theorem z_pasA (C : z_C X cc own nL rm) : va_Nc "java/lang/IllegalArgumentException" "java/lang/IndexOutOfBoundsException" (z_s X) := C.2.2.2.2.2.2.1.1.2.2.2.2.2.2.2
theorem z_pop2 (C : z_C X cc own nL rm) {x : Int64} (d : decode cc pc = .ok (.pop2, 1)) (kk : z_W X M k n (pc + 1) lv st) : z_W X M k n pc lv (.long x :: st) :=
  fun H locs ls h1 h2 h3 h4 => lv_pop2_2 C.1 C.2.1 d rfl (kk H locs ls h1 h2 h3 h4)
/-- the law's own script -/
theorem z_sld (C : z_C X cc own nL rm) {b L : Nat} {xs : Nat → Int32} (hX : va_X b L xs (z_s X) (z_s X).heap) (hbl : b < (z_s X).heap.size) (hbA : ¬ z_F X b) {i a : Int32} (hin : vp_in i L) (ha : xs i.toNatClampNeg = a) (d : decode cc pc = .ok (.iaload, 1)) (kk : z_W X M k n (pc + 1) lv (.int a :: st)) : z_W X M k n pc lv (.int i :: .ref b :: st) := by
  subst ha
  exact fun H locs ls h1 h2 h3 h4 => va_sld C.1 C.2.1 hX hbl hbA h3 hin d (kk H locs ls h1 h2 h3 h4)
theorem z_slen (C : z_C X cc own nL rm) {b L : Nat} {xs : Nat → Int32} (hX : va_X b L xs (z_s X) (z_s X).heap) (hbl : b < (z_s X).heap.size) (hbA : ¬ z_F X b) (d : decode cc pc = .ok (.arraylength, 1)) (kk : z_W X M k n (pc + 1) lv (.int (Int32.ofNat L) :: st)) : z_W X M k n pc lv (.ref b :: st) :=
  fun H locs ls h1 h2 h3 h4 => va_slen C.1 C.2.1 hX hbl hbA h3 d (kk H locs ls h1 h2 h3 h4)
end ZHC
/-! worlds -/
theorem z_un_upr {A B : zM} {a : Nat} {e : va_E} (h : A a = none) : z_up (z_un A B) a e = z_un A (z_up B a e) := by
  funext q
  by_cases hq : q = a
  · subst hq
    rw [z_up_s, z_un_n h, z_up_s]
  · rw [z_up_n _ _ hq]
    unfold z_un
    rw [z_up_n _ _ hq]
theorem z_dj_up {A B : zM} {a : Nat} {e : va_E} (d : z_dj A B) (h : A a = none) : z_dj A (z_up B a e) := fun q f hq => by
  rw [z_up_n _ _ (z_neN hq h)]
  exact d q f hq
theorem z_up_sm {A : zM} {a : Nat} {e : va_E} (h : A a = some e) : z_up A a e = A := by
  funext q
  by_cases hq : q = a
  · subst hq
    rw [z_up_s, h]
  · rw [z_up_n _ _ hq]
theorem z_un_o {A B : zM} {a : Nat} {e : va_E} (d : z_dj A B) (h : B a = some e) : A a = none := z_dj_sym d a e h
/-- the class's cells of a state, wherever they lie -/
def s_CI (G : zG) (x pa sp ln rf sb : Nat) (u : sS) (C : zM) : Prop := ∃ P RA VA, CI G u x P RA VA pa sp ln rf sb C
def s_RI (G : zG) (m pn td : Nat) (th : Int32) (u : sS) (R : zM) : Prop := ∃ K tp, RI G u m th K tp pn td R
/-- what a call of the class through the law leaves: what was caught (k), the state, Out's number -/
def w_P (G : zG) (x pa sp ln rf sb ou : Nat) (B : zM) (k : Int32) (u : sS) (b : sR) : Int32 → zM → Prop := fun r Mz => r = k ∧ ∃ C' on os, s_CI G x pa sp ln rf sb (if k = 0 then b.2 else u) C' ∧ z_dj C' (z_up B ou (cOu on os)) ∧ Mz = z_un C' (z_up B ou (cOu on os)) ∧ (k = 0 → on = b.1.toInt64)
def w_T (G : zG) (x pa sp ln rf sb ou : Nat) (B : zM) (k : Int32) (u : sS) : Int32 → zM → Prop := fun r Mz => r = k ∧ ∃ C' on os, s_CI G x pa sp ln rf sb u C' ∧ z_dj C' (z_up B ou (cOu on os)) ∧ Mz = z_un C' (z_up B ou (cOu on os))
section WP
variable {G : zG} {x pa sp ln rf sb ou : Nat} {B C' : zM} {k y r9 : Int32} {u : sS} {b : sR} {on on' : Int64} {os os' : Option Nat}
theorem w_ok (h : s_CI G x pa sp ln rf sb b.2 C') (d : z_dj C' B) (ho : B ou = some (cOu on os)) (hk : k = 0) (hy : y = b.1) : w_P G x pa sp ln rf sb ou B k u b 0 (z_up (z_un C' B) ou (cOu y.toInt64 os)) :=
  ⟨hk.symm, C', _, os, by rw [if_pos hk]; exact h, z_dj_up d (z_un_o d ho), z_un_upr (z_un_o d ho), fun _ => by rw [hy]⟩
theorem w_th (h : s_CI G x pa sp ln rf sb u C') (d : z_dj C' B) (ho : B ou = some (cOu on os)) (hk : k = r9) (h0 : ¬ r9 = 0) : w_P G x pa sp ln rf sb ou B k u b r9 (z_un C' B) :=
  ⟨hk.symm, C', on, os, by rw [if_neg (by rw [hk]; exact h0)]; exact h, by rw [z_up_sm ho]; exact d, by rw [z_up_sm ho], fun q => absurd (hk.symm.trans q) h0⟩
theorem w_okT (h : s_CI G x pa sp ln rf sb u C') (d : z_dj C' B) (ho : B ou = some (cOu on os)) (hk : k = 0) : w_T G x pa sp ln rf sb ou B k u 0 (z_up (z_un C' B) ou (cOu on' os')) :=
  ⟨hk.symm, C', on', os', h, z_dj_up d (z_un_o d ho), z_un_upr (z_un_o d ho)⟩
theorem w_thT (h : s_CI G x pa sp ln rf sb u C') (d : z_dj C' B) (ho : B ou = some (cOu on os)) (hk : k = r9) : w_T G x pa sp ln rf sb ou B k u r9 (z_un C' B) :=
  ⟨hk.symm, C', on, os, h, by rw [z_up_sm ho]; exact d, by rw [z_up_sm ho]⟩
end WP
theorem z_lt1 {a : Int32} : ¬ z_lt a 1 = 2 := by
  unfold z_lt
  split
  · decide
  · decide
end
