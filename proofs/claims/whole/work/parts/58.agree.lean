/-! PART 58: two panes agree where both see -/
theorem s_agr {p q : sP} {y : Int32} : p_sa q + (p_sa p + y - p_sa q) = p_sa p + y := by
  rw [Int32.sub_eq_add_neg, Int32.add_comm (p_sa p + y), ← Int32.add_assoc, Int32.add_right_neg, Int32.zero_add]
theorem a_X3_kin (l : Launch) {G : zG} {u : sS} {x : Nat} {P RA VA : Nat → Nat} {pa sp ln rf sb : Nat} {Mw : zM} (hC : CI G u x P RA VA pa sp ln rf sb Mw) {t : Nat} (hok : s_ok t u) {i k : Nat} (hi : i < 6) (hk : k < 6) : z_Mi l G qX3_kinship (z_rm 1 0 0) [.ref (P i), .ref (P k)] Mw (fun r Mz => (r = -9 ∨ r = 0 ∨ (r = 1 ∧ p_rd (s_pn u i) = 0 ∧ p_rd (s_pn u k) = 0 ∧ p_ro (s_pn u i) = p_ro (s_pn u k))) ∧ Mz = Mw) := by
  refine z_Mi_mono (c_X3_kinship l G (CI_P hC hi) (CI_P hC hk)) ?_
  rintro r Mz (⟨c1, hr9, he9⟩ | ⟨c1, c2, c3, hr9, he9⟩ | ⟨c1, c2, c3, hr9, he9⟩ | ⟨c1, c2, hr9, he9⟩)
  · exact ⟨Or.inl hr9, he9⟩
  · exact ⟨Or.inr (Or.inl hr9), he9⟩
  · exact ⟨Or.inr (Or.inr ⟨hr9, c1, c2, hC.2.2.2.2.2.2.2.2.2.2.2.1 _ _ (s_row hok hi) (s_row hok hk) (Option.some.inj c3)⟩), he9⟩
  · exact ⟨Or.inl hr9, he9⟩
theorem a_X3_idx (l : Launch) {G : zG} {u : sS} {x : Nat} {P RA VA : Nat → Nat} {pa sp ln rf sb : Nat} {Mw : zM} (hC : CI G u x P RA VA pa sp ln rf sb Mw) {t : Nat} (hok : s_ok t u) {i k : Nat} (hi : i < 6) (hk : k < 6) (h1 : p_rd (s_pn u i) = 0) (h2 : p_rd (s_pn u k) = 0) (h3 : p_ro (s_pn u i) = p_ro (s_pn u k)) (y : Int32) : z_Mi l G qX3_indexSeen (z_rm 2 0 0) [.ref (P i), .int y, .ref (P k)] Mw (fun r Mz => (r = -1 ∨ (¬ z_hi y (p_cp (s_pn u i)) = 0 ∧ ¬ z_hi (p_sa (s_pn u i) + y - p_sa (s_pn u k)) (p_cp (s_pn u k)) = 0 ∧ r = p_sa (s_pn u i) + y - p_sa (s_pn u k))) ∧ Mz = Mw) := by
  refine z_Mi_mono (c_X3_indexSeen l G (CI_P hC hi) (CI_P hC hk)) ?_
  rintro r Mz (⟨c1, hr9, he9⟩ | ⟨c1, c2, c3, hr9, he9⟩ | ⟨c1, c2, c3, c4, c5, hr9, he9⟩ | ⟨c1, c2, c3, c4, c5, hr9, he9⟩ | ⟨c1, c2, c3, c4, hr9, he9⟩ | ⟨c1, c2, hr9, he9⟩)
  · exact absurd h1 c1
  · exact ⟨Or.inl hr9, he9⟩
  · exact ⟨Or.inl hr9, he9⟩
  · exact ⟨Or.inr ⟨c4, c5, hr9⟩, he9⟩
  · exact ⟨Or.inl hr9, he9⟩
  · exact absurd h2 c2
theorem a_X3_kinW (l : Launch) {G : zG} {u : sS} {x : Nat} {P RA VA : Nat → Nat} {pa sp ln rf sb : Nat} {Mw : zM} (hC : CI G u x P RA VA pa sp ln rf sb Mw) {t : Nat} (hok : s_ok t u) {i k : Nat} (hi : i < 6) (hk : k < 6) : z_Mi l G qX3_kinship (z_rm 1 0 0) [.ref (P i), .ref (P k)] Mw (fun r Mz => Mz = Mw) := z_Mi_mono (a_X3_kin l hC hok hi hk) fun _ _ h => h.2
theorem a_X3_idxW (l : Launch) {G : zG} {u : sS} {x : Nat} {P RA VA : Nat → Nat} {pa sp ln rf sb : Nat} {Mw : zM} (hC : CI G u x P RA VA pa sp ln rf sb Mw) {t : Nat} (hok : s_ok t u) {i k : Nat} (hi : i < 6) (hk : k < 6) (y : Int32) : z_Mi l G qX3_indexSeen (z_rm 2 0 0) [.ref (P i), .int y, .ref (P k)] Mw (fun r Mz => Mz = Mw) := by
  refine z_Mi_mono (c_X3_indexSeen l G (CI_P hC hi) (CI_P hC hk)) ?_
  rintro r Mz (⟨c1, hr9, he9⟩ | ⟨c1, c2, c3, hr9, he9⟩ | ⟨c1, c2, c3, c4, c5, hr9, he9⟩ | ⟨c1, c2, c3, c4, c5, hr9, he9⟩ | ⟨c1, c2, c3, c4, hr9, he9⟩ | ⟨c1, c2, hr9, he9⟩) <;> exact he9
theorem a_X1_numW (l : Launch) {G : zG} {u : sS} {x : Nat} {P RA VA : Nat → Nat} {pa sp ln rf sb : Nat} {Mw : zM} (hC : CI G u x P RA VA pa sp ln rf sb Mw) {t : Nat} (hok : s_ok t u) {i : Nat} (hi : i < 6) (y : Int32) : z_Mi l G qX1_numberOf (z_rm 2 0 0) [.ref (P i), .int y] Mw (fun r Mz => Mz = Mw) := by
  refine z_Mi_mono (c_X1_numberOf l G (CI_P hC hi)) ?_
  rintro r Mz (⟨c1, hr9, he9⟩ | ⟨c1, hr9, he9⟩ | ⟨c1, hr9, he9⟩ | ⟨c1, hr9, he9⟩ | ⟨c1, hr9, he9⟩ | ⟨c1, c2, hr9, he9⟩ | ⟨c1, c2, hr9, he9⟩ | ⟨c1, c2, hr9, he9⟩ | ⟨c1, c2, hr9, he9⟩ | ⟨c1, c2, hr9, he9⟩ | ⟨c1, c2, hr9, he9⟩ | ⟨c1, c2, hr9, he9⟩ | ⟨c1, c2, hr9, he9⟩ | ⟨c1, hr9, he9⟩) <;> exact he9
theorem a_X3_kinS (l : Launch) {G : zG} {u : sS} {x : Nat} {P RA VA : Nat → Nat} {pa sp ln rf sb : Nat} {Mw : zM} (hC : CI G u x P RA VA pa sp ln rf sb Mw) {t : Nat} (hok : s_ok t u) {i k : Nat} (hi : i < 6) (hk : k < 6) : z_Mi l G qX3_kinship (z_rm 1 0 0) [.ref (P i), .ref (P k)] Mw (fun r Mz => r = s_kin u i k ∧ Mz = Mw) := by
  refine z_Mi_mono (c_X3_kinship l G (CI_P hC hi) (CI_P hC hk)) ?_
  rintro r Mz (⟨c1, hr9, he9⟩ | ⟨c1, c2, c3, hr9, he9⟩ | ⟨c1, c2, c3, hr9, he9⟩ | ⟨c1, c2, hr9, he9⟩)
  · exact ⟨by rw [hr9]; simp [s_kin, c1] <;> rfl, he9⟩
  · exact ⟨by rw [hr9]; simp [s_kin, c1, c2, (show ¬ p_ro (s_pn u i) = p_ro (s_pn u k) from fun q => c3 (by rw [q]))] <;> rfl, he9⟩
  · exact ⟨by rw [hr9]; simp [s_kin, c1, c2, (hC.2.2.2.2.2.2.2.2.2.2.2.1 _ _ (s_row hok hi) (s_row hok hk) (Option.some.inj c3))] <;> rfl, he9⟩
  · exact ⟨by rw [hr9]; simp [s_kin, c1, c2] <;> rfl, he9⟩
theorem a_X3_idxS (l : Launch) {G : zG} {u : sS} {x : Nat} {P RA VA : Nat → Nat} {pa sp ln rf sb : Nat} {Mw : zM} (hC : CI G u x P RA VA pa sp ln rf sb Mw) {t : Nat} (hok : s_ok t u) {i k : Nat} (hi : i < 6) (hk : k < 6) (y : Int32) : z_Mi l G qX3_indexSeen (z_rm 2 0 0) [.ref (P i), .int y, .ref (P k)] Mw (fun r Mz => r = s_sees u i y k ∧ Mz = Mw) := by
  refine z_Mi_mono (c_X3_indexSeen l G (CI_P hC hi) (CI_P hC hk)) ?_
  rintro r Mz (⟨c1, hr9, he9⟩ | ⟨c1, c2, c3, hr9, he9⟩ | ⟨c1, c2, c3, c4, c5, hr9, he9⟩ | ⟨c1, c2, c3, c4, c5, hr9, he9⟩ | ⟨c1, c2, c3, c4, hr9, he9⟩ | ⟨c1, c2, hr9, he9⟩)
  · exact ⟨by rw [hr9]; simp [s_sees, c1] <;> rfl, he9⟩
  · exact ⟨by rw [hr9]; simp [s_sees, c1, c2, (show ¬ p_ro (s_pn u i) = p_ro (s_pn u k) from fun q => c3 (by rw [q]))] <;> rfl, he9⟩
  · exact ⟨by rw [hr9]; simp [s_sees, c1, c2, (hC.2.2.2.2.2.2.2.2.2.2.2.1 _ _ (s_row hok hi) (s_row hok hk) (Option.some.inj c3)), c4, c5] <;> rfl, he9⟩
  · exact ⟨by rw [hr9]; simp [s_sees, c1, c2, (hC.2.2.2.2.2.2.2.2.2.2.2.1 _ _ (s_row hok hi) (s_row hok hk) (Option.some.inj c3)), c4, c5] <;> rfl, he9⟩
  · exact ⟨by rw [hr9]; simp [s_sees, c1, c2, (hC.2.2.2.2.2.2.2.2.2.2.2.1 _ _ (s_row hok hi) (s_row hok hk) (Option.some.inj c3)), c4] <;> rfl, he9⟩
  · exact ⟨by rw [hr9]; simp [s_sees, c1, c2] <;> rfl, he9⟩
theorem a_X1_numS (l : Launch) {G : zG} {u : sS} {x : Nat} {P RA VA : Nat → Nat} {pa sp ln rf sb : Nat} {Mw : zM} (hC : CI G u x P RA VA pa sp ln rf sb Mw) {t : Nat} (hok : s_ok t u) {i : Nat} (hi : i < 6) (y : Int32) : z_Mi l G qX1_numberOf (z_rm 2 0 0) [.ref (P i), .int y] Mw (fun r Mz => r = s_of u i y ∧ Mz = Mw) := by
  refine z_Mi_mono (c_X1_numberOf l G (CI_P hC hi)) ?_
  rintro r Mz (⟨c1, hr9, he9⟩ | ⟨c1, hr9, he9⟩ | ⟨c1, hr9, he9⟩ | ⟨c1, hr9, he9⟩ | ⟨c1, hr9, he9⟩ | ⟨c1, c2, hr9, he9⟩ | ⟨c1, c2, hr9, he9⟩ | ⟨c1, c2, hr9, he9⟩ | ⟨c1, c2, hr9, he9⟩ | ⟨c1, c2, hr9, he9⟩ | ⟨c1, c2, hr9, he9⟩ | ⟨c1, c2, hr9, he9⟩ | ⟨c1, c2, hr9, he9⟩ | ⟨c1, hr9, he9⟩)
  · exact ⟨by rw [hr9]; subst c1; simp [s_of] <;> rfl, he9⟩
  · exact ⟨by rw [hr9]; subst c1; simp [s_of] <;> rfl, he9⟩
  · exact ⟨by rw [hr9]; subst c1; simp [s_of] <;> rfl, he9⟩
  · exact ⟨by rw [hr9]; subst c1; simp [s_of] <;> rfl, he9⟩
  · exact ⟨by rw [hr9]; subst c1; simp [s_of] <;> rfl, he9⟩
  · exact ⟨by rw [hr9]; subst c1; simp [s_of, c2, ((s_rdn hok hi).mp c2)] <;> rfl, he9⟩
  · exact ⟨by rw [hr9]; subst c1; simp [s_of, c2, ((s_rdn' hok hi).mpr c2)] <;> rfl, he9⟩
  · exact ⟨by rw [hr9]; subst c1; simp [s_of, c2, ((s_left hok hi).mpr c2)] <;> rfl, he9⟩
  · exact ⟨by rw [hr9]; subst c1; simp [s_of, c2, (show ¬ p_li (s_pn u i) - p_po (s_pn u i) = 0 from fun q => c2 ((s_left hok hi).mp q))] <;> rfl, he9⟩
  · exact ⟨by rw [hr9]; subst c1; simp [s_of, c2, ((s_rdn hok hi).mp c2)] <;> rfl, he9⟩
  · exact ⟨by rw [hr9]; subst c1; simp [s_of, c2, ((s_rdn' hok hi).mpr c2)] <;> rfl, he9⟩
  · exact ⟨by rw [hr9]; subst c1; simp [s_of, c2, ((s_rdn hok hi).mp c2)] <;> rfl, he9⟩
  · exact ⟨by rw [hr9]; subst c1; simp [s_of, c2, ((s_rdn' hok hi).mpr c2)] <;> rfl, he9⟩
  · exact ⟨by rw [hr9]; simp [s_of, c1.1, c1.2.1, c1.2.2.1, c1.2.2.2.1, c1.2.2.2.2.1, c1.2.2.2.2.2.1, c1.2.2.2.2.2.2.1, c1.2.2.2.2.2.2.2.1, c1.2.2.2.2.2.2.2.2] <;> rfl, he9⟩
theorem dX3_agree_0 : decode cX3_agree 0 = .ok (.aload_n 0, 1) := by decide +kernel
theorem dX3_agree_1 : decode cX3_agree 1 = .ok (.aload_n 1, 1) := by decide +kernel
theorem dX3_agree_2 : decode cX3_agree 2 = .ok (.invokestatic 177, 3) := by decide +kernel
theorem dX3_agree_5 : decode cX3_agree 5 = .ok (.iconst 1, 1) := by decide +kernel
theorem dX3_agree_6 : decode cX3_agree 6 = .ok (.if_icmp .eq 5, 3) := by decide +kernel
theorem dX3_agree_9 : decode cX3_agree 9 = .ok (.iconst 1, 1) := by decide +kernel
theorem dX3_agree_10 : decode cX3_agree 10 = .ok (.ireturn, 1) := by decide +kernel
theorem dX3_agree_11 : decode cX3_agree 11 = .ok (.iconst 0, 1) := by decide +kernel
theorem dX3_agree_12 : decode cX3_agree 12 = .ok (.istore_n 2, 1) := by decide +kernel
theorem dX3_agree_13 : decode cX3_agree 13 = .ok (.iload_n 2, 1) := by decide +kernel
theorem dX3_agree_14 : decode cX3_agree 14 = .ok (.aload_n 0, 1) := by decide +kernel
theorem dX3_agree_15 : decode cX3_agree 15 = .ok (.getfield 100, 3) := by decide +kernel
theorem dX3_agree_18 : decode cX3_agree 18 = .ok (.if_icmp .ge 36, 3) := by decide +kernel
theorem dX3_agree_21 : decode cX3_agree 21 = .ok (.aload_n 0, 1) := by decide +kernel
theorem dX3_agree_22 : decode cX3_agree 22 = .ok (.iload_n 2, 1) := by decide +kernel
theorem dX3_agree_23 : decode cX3_agree 23 = .ok (.aload_n 1, 1) := by decide +kernel
theorem dX3_agree_24 : decode cX3_agree 24 = .ok (.invokestatic 181, 3) := by decide +kernel
theorem dX3_agree_27 : decode cX3_agree 27 = .ok (.istore_n 3, 1) := by decide +kernel
theorem dX3_agree_28 : decode cX3_agree 28 = .ok (.iload_n 3, 1) := by decide +kernel
theorem dX3_agree_29 : decode cX3_agree 29 = .ok (.iconst (-1), 1) := by decide +kernel
theorem dX3_agree_30 : decode cX3_agree 30 = .ok (.if_icmp .eq 18, 3) := by decide +kernel
theorem dX3_agree_33 : decode cX3_agree 33 = .ok (.aload_n 0, 1) := by decide +kernel
theorem dX3_agree_34 : decode cX3_agree 34 = .ok (.iload_n 2, 1) := by decide +kernel
theorem dX3_agree_35 : decode cX3_agree 35 = .ok (.invokevirtual 131, 3) := by decide +kernel
theorem dX3_agree_38 : decode cX3_agree 38 = .ok (.aload_n 1, 1) := by decide +kernel
theorem dX3_agree_39 : decode cX3_agree 39 = .ok (.iload_n 3, 1) := by decide +kernel
theorem dX3_agree_40 : decode cX3_agree 40 = .ok (.invokevirtual 131, 3) := by decide +kernel
theorem dX3_agree_43 : decode cX3_agree 43 = .ok (.if_icmp .eq 5, 3) := by decide +kernel
theorem dX3_agree_48 : decode cX3_agree 48 = .ok (.iinc 2 1, 3) := by decide +kernel
theorem dX3_agree_51 : decode cX3_agree 51 = .ok (.goto (-38), 3) := by decide +kernel
theorem dX3_agree_54 : decode cX3_agree 54 = .ok (.iconst 1, 1) := by decide +kernel
theorem dX3_agree_55 : decode cX3_agree 55 = .ok (.ireturn, 1) := by decide +kernel
set_option maxRecDepth 20000 in
theorem lp_X3_ag {X : zX} (C : z_C X cX3_agree RX3 4 (z_rm 4 0 0)) {u : sS} {x : Nat} {P RA VA : Nat → Nat} {pa sp ln rf sb t i k : Nat} {Mw : zM} (hC : CI (z_G X) u x P RA VA pa sp ln rf sb Mw) (hok : s_ok t u) (hi : i < 6) (hk : k < 6) (hr1 : p_rd (s_pn u i) = 0) (hr2 : p_rd (s_pn u k) = 0) (hro : p_ro (s_pn u i) = p_ro (s_pn u k)) {cq : Nat} (hcp : p_cp (s_pn u i) = nI cq) (h16 : cq ≤ 16) (kk : z_W X Mw 0 0 54 [] []) : ∀ (d jx : Nat), jx + d = cq → z_W X Mw 0 0 13 [(2, .int (nI jx)), (0, .ref (P i)), (1, .ref (P k))] [] := by
  intro d
  induction d with
  | zero =>
    intro jx hd
    refine z_iload_n C dX3_agree_13 rfl 0 rfl ?_
    refine z_aload_n C dX3_agree_14 rfl 1 rfl ?_
    refine gf_X3_100 C (CI_P hC hi) dX3_agree_15 ?_
    refine z_icmp_ge C (tgt := 54) dX3_agree_18 (by decide) (fun _ => ?_) (fun c18 => absurd (by rw [hcp]; exact nI_le (by omega) (by omega)) c18)
    refine z_fewer [] rfl ?_
    exact kk
  | succ d ih =>
    intro jx hd
    refine z_iload_n C dX3_agree_13 rfl 0 rfl ?_
    refine z_aload_n C dX3_agree_14 rfl 1 rfl ?_
    refine gf_X3_100 C (CI_P hC hi) dX3_agree_15 ?_
    refine z_icmp_ge C (tgt := 54) dX3_agree_18 (by decide) (fun c18 => absurd c18 (by rw [hcp]; exact nI_ge (by omega) (by omega))) (fun _ => ?_)
    refine z_aload_n C dX3_agree_21 rfl 1 rfl ?_
    refine z_iload_n C dX3_agree_22 rfl 0 rfl ?_
    refine z_aload_n C dX3_agree_23 rfl 2 rfl ?_
    refine z_callSi (rest := []) (k' := 0) (n' := 0) C (a_X3_idx (z_l X) hC hok hi hk hr1 hr2 hro (nI jx)) (cs_X3_181 C (by decide)) rfl rfl (Nat.le_of_ble_eq_true rfl) rfl rfl (by decide) (by decide) dX3_agree_24 (fun x24 Mq24 hq => ?_)
    obtain ⟨hrs, rfl⟩ := hq
    rcases hrs with hrs | ⟨hz1, hz2, hrs⟩
    · rw [hrs]
      refine z_istore_n (lv' := [(3, .int (-1)), (2, .int (nI jx)), (0, .ref (P i)), (1, .ref (P k))]) C dX3_agree_27 rfl (by decide) rfl ?_
      refine z_iload_n C dX3_agree_28 rfl 0 rfl ?_
      refine z_iconst C (v := (-1)) dX3_agree_29 (by decide) ?_
      refine z_icmp_eq C (tgt := 48) dX3_agree_30 (by decide) (fun _ => ?_) (fun c30 => absurd (by decide) c30)
      refine z_iinc (v := nI (jx + 1)) (lv' := [(2, .int (nI (jx + 1))), (3, .int (-1)), (0, .ref (P i)), (1, .ref (P k))]) C dX3_agree_48 1 rfl (nI_1 jx) (by decide) rfl ?_
      refine z_goto C (tgt := 13) dX3_agree_51 (by decide) ?_
      refine z_fewer [0, 2, 3] rfl ?_
      exact ih (jx + 1) (by omega)
    · rw [hrs]
      refine z_istore_n (lv' := [(3, .int (p_sa (s_pn u i) + nI jx - p_sa (s_pn u k))), (2, .int (nI jx)), (0, .ref (P i)), (1, .ref (P k))]) C dX3_agree_27 rfl (by decide) rfl ?_
      refine z_iload_n C dX3_agree_28 rfl 0 rfl ?_
      refine z_iconst C (v := (-1)) dX3_agree_29 (by decide) ?_
      refine z_icmp_eq C (tgt := 48) dX3_agree_30 (by decide) (fun c30 => ?_) (fun c30 => ?_)
      · refine z_iinc (v := nI (jx + 1)) (lv' := [(2, .int (nI (jx + 1))), (3, .int (p_sa (s_pn u i) + nI jx - p_sa (s_pn u k))), (0, .ref (P i)), (1, .ref (P k))]) C dX3_agree_48 1 rfl (nI_1 jx) (by decide) rfl ?_
        refine z_goto C (tgt := 13) dX3_agree_51 (by decide) ?_
        refine z_fewer [0, 2, 3] rfl ?_
        exact ih (jx + 1) (by omega)
      · refine z_aload_n C dX3_agree_33 rfl 2 rfl ?_
        refine z_iload_n C dX3_agree_34 rfl 1 rfl ?_
        refine z_callVi (rest := []) (k' := 0) (n' := 0) C (a_X1_valueAt (z_l X) hC hok hi (s_inJ hok hi hcp (by omega) h16)) (cs_X3_131 C (by decide)) (CI_P hC hi) rfl rfl rfl rfl (Nat.le_of_ble_eq_true rfl) rfl rfl (by decide) (by decide) dX3_agree_35 (fun x35 Mq35 hq => ?_)
        obtain ⟨e35, rfl⟩ := hq
        rw [e35]
        refine z_aload_n C dX3_agree_38 rfl 3 rfl ?_
        refine z_iload_n C dX3_agree_39 rfl 0 rfl ?_
        refine z_callVi (rest := [.int (s_val u (s_pn u i) (nI jx))]) (k' := 0) (n' := 0) C (a_X1_valueAt (z_l X) hC hok hk (z_owI (s_ow hok hk) (z_hi1 hz2).1 (z_hi1 hz2).2)) (cs_X3_131 C (by decide)) (CI_P hC hk) rfl rfl rfl rfl (Nat.le_of_ble_eq_true rfl) rfl rfl (by decide) (by decide) dX3_agree_40 (fun x40 Mq40 hq => ?_)
        obtain ⟨e40, rfl⟩ := hq
        rw [e40]
        refine z_icmp_eq C (tgt := 48) dX3_agree_43 (by decide) (fun _ => ?_) (fun c43 => absurd (show s_val u (s_pn u i) (nI jx) = s_val u (s_pn u k) (p_sa (s_pn u i) + nI jx - p_sa (s_pn u k)) by show s_vl u (p_ro (s_pn u i)) _ = s_vl u (p_ro (s_pn u k)) _; rw [hro]; exact congrArg (fun q : Int32 => s_vl u (p_ro (s_pn u k)) q.toNatClampNeg) s_agr.symm) c43)
        refine z_iinc (v := nI (jx + 1)) (lv' := [(2, .int (nI (jx + 1))), (3, .int (p_sa (s_pn u i) + nI jx - p_sa (s_pn u k))), (0, .ref (P i)), (1, .ref (P k))]) C dX3_agree_48 1 rfl (nI_1 jx) (by decide) rfl ?_
        refine z_goto C (tgt := 13) dX3_agree_51 (by decide) ?_
        refine z_fewer [0, 2, 3] rfl ?_
        exact ih (jx + 1) (by omega)
set_option maxRecDepth 20000 in
theorem a_X3_agree (l : Launch) {G : zG} {u : sS} {x : Nat} {P RA VA : Nat → Nat} {pa sp ln rf sb : Nat} {Mw : zM} (hC : CI G u x P RA VA pa sp ln rf sb Mw) {t : Nat} (hok : s_ok t u) {i k : Nat} (hi : i < 6) (hk : k < 6) : z_Mi l G qX3_agree (z_rm 4 0 0) [.ref (P i), .ref (P k)] Mw (fun r Mz => r = 1 ∧ Mz = Mw)  := by
  obtain ⟨pq, lq, cq, hpo, hli, hcp, g1, g2, h16⟩ := s_pq hok hi
  refine z_Mi_of _ (plainFor_of_name rfl) rfl (Nat.le_of_ble_eq_true rfl) (fun X hl hG hnm C ret => ?_)
  subst hl; subst hG
  have C : z_C X cX3_agree RX3 4 (z_rm 4 0 0) := C
  show z_W X Mw 0 0 0 [(0, .ref (P i)), (1, .ref (P k))] []
  refine z_aload_n C dX3_agree_0 rfl 0 rfl ?_
  refine z_aload_n C dX3_agree_1 rfl 1 rfl ?_
  refine z_callSi (rest := []) (k' := 0) (n' := 0) C (a_X3_kin (z_l X) hC hok hi hk) (cs_X3_177 C (by decide)) rfl rfl (Nat.le_of_ble_eq_true rfl) rfl rfl (by decide) (by decide) dX3_agree_2 (fun x2 Mq2 hq => ?_)
  obtain ⟨hrs, rfl⟩ := hq
  rcases hrs with hrs | hrs | ⟨hrs, hr1, hr2, hro⟩
  · rw [hrs]
    refine z_iconst C (v := 1) dX3_agree_5 (by decide) ?_
    refine z_icmp_eq C (tgt := 11) dX3_agree_6 (by decide) (fun c6 => absurd c6 (by decide)) (fun _ => ?_)
    refine z_iconst C (v := 1) dX3_agree_9 (by decide) ?_
    refine ret dX3_agree_10 rfl ?_ (by decide) (by decide)
    exact ⟨rfl, rfl⟩
  · rw [hrs]
    refine z_iconst C (v := 1) dX3_agree_5 (by decide) ?_
    refine z_icmp_eq C (tgt := 11) dX3_agree_6 (by decide) (fun c6 => absurd c6 (by decide)) (fun _ => ?_)
    refine z_iconst C (v := 1) dX3_agree_9 (by decide) ?_
    refine ret dX3_agree_10 rfl ?_ (by decide) (by decide)
    exact ⟨rfl, rfl⟩
  · rw [hrs]
    refine z_iconst C (v := 1) dX3_agree_5 (by decide) ?_
    refine z_icmp_eq C (tgt := 11) dX3_agree_6 (by decide) (fun _ => ?_) (fun c6 => absurd (by decide) c6)
    refine z_iconst C (v := 0) dX3_agree_11 (by decide) ?_
    refine z_istore_n (lv' := [(2, .int 0), (0, .ref (P i)), (1, .ref (P k))]) C dX3_agree_12 rfl (by decide) rfl ?_
    refine z_at (M' := _) (lv' := [(2, .int (nI 0)), (0, .ref (P i)), (1, .ref (P k))]) rfl (by rw [nI_0]) rfl ?_
    refine lp_X3_ag C hC hok hi hk hr1 hr2 hro hcp h16 ?_ cq 0 (Nat.zero_add _)
    refine z_iconst C (v := 1) dX3_agree_54 (by decide) ?_
    refine ret dX3_agree_55 rfl ?_ (by decide) (by decide)
    exact ⟨rfl, rfl⟩
