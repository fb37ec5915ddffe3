/-! PART 32: the class's calls, over states -/
/-- what a call of the class leaves: it returns (k is 0), or throws (k tells what) -/
def CP (G : zG) (x pa sp ln rf sb : Nat) (k : Int32) (b : sR) : Int32 → zM → Prop := fun r M' => k = 0 ∧ r = b.1 ∧ ∃ P RA VA, CI G b.2 x P RA VA pa sp ln rf sb M'
def CX (G : zG) (x pa sp ln rf sb : Nat) (k : Int32) (u : sS) : String → zM → Prop := fun E M' => ((k = 1 ∧ E = "java/lang/IndexOutOfBoundsException") ∨ (k = 2 ∧ E = "java/lang/IllegalArgumentException")) ∧ ∃ P RA VA, CI G u x P RA VA pa sp ln rf sb M'
section CPS
variable {G : zG} {x pa sp ln rf sb : Nat} {k : Int32} {b : sR} {u v : sS} {P RA VA : Nat → Nat} {r : Int32} {M' : zM}
theorem CP_ok (e : b = (r, v)) (hk : k = 0) (h : CI G v x P RA VA pa sp ln rf sb M') : CP G x pa sp ln rf sb k b r M' := by
  subst e
  exact ⟨hk, rfl, P, RA, VA, h⟩
theorem CX_1 (hk : k = 1) (h : CI G u x P RA VA pa sp ln rf sb M') : CX G x pa sp ln rf sb k u "java/lang/IndexOutOfBoundsException" M' := ⟨Or.inl ⟨hk, rfl⟩, P, RA, VA, h⟩
theorem CX_2 (hk : k = 2) (h : CI G u x P RA VA pa sp ln rf sb M') : CX G x pa sp ln rf sb k u "java/lang/IllegalArgumentException" M' := ⟨Or.inr ⟨hk, rfl⟩, P, RA, VA, h⟩
end CPS
theorem k_1 {t f : Int32} (h : t = 0) : z_lt t f = 1 := by rw [h]; exact if_pos rfl
theorem k_2 {t f : Int32} (h : t = 1) (h2 : f = 0) : z_lt t f = 2 := by rw [h, h2]; decide
theorem s_rdn' {t : Nat} {u : sS} {i : Nat} (h : s_ok t u) (hi : i < 6) : p_rd (s_pn u i) = 1 ↔ ¬ p_rd (s_pn u i) = 0 := by
  rcases (h.2.2.2.2.1 i hi).2.2.2 with q | q <;> rw [q] <;> decide
theorem s_rdb {t : Nat} {u : sS} {i : Nat} (h : s_ok t u) (hi : i < 6) : narrow .boolean (.int (p_rd (s_pn u i))) = .int (p_rd (s_pn u i)) ∧ fits .boolean (.int (p_rd (s_pn u i))) = true := by
  rcases (h.2.2.2.2.1 i hi).2.2.2 with q | q <;> rw [q] <;> exact ⟨rfl, by decide⟩
theorem z_hm0 {k : Int32} : z_hm k = 0 ↔ k = -1 := by
  unfold z_hm
  split
  · rename_i h; simp [h]
  · rename_i h; simp [h]
theorem s_po0' {t : Nat} {u : sS} {i : Nat} (h : s_ok t u) (hi : i < 6) : p_po (s_pn u i) = 0 ↔ ¬ 0 < p_po (s_pn u i) := by rw [s_po0 h hi, Int32.not_lt]
theorem CI_sw {G : zG} {u : sS} {x : Nat} {P RA VA : Nat → Nat} {pa sp ln rf sb : Nat} {C : zM} (h : CI G u x P RA VA pa sp ln rf sb C) {i j : Nat} (hi : i < 6) (hj : j < 6) {fp : Nat → Option Nat} (hfp : C pa = some (aP G 6 fp)) : CI G (s_sw u i j) x (s_fu (s_fu P i (P j)) j (P i)) RA VA pa sp ln rf sb (z_up C pa (aP G 6 (va_up (va_up fp i (some (P j))) j (some (P i))))) := by
  obtain ⟨hx, ⟨fp', hpa, hp5⟩, hP, ⟨o9, p9, hsp⟩, hRA, hVA, hrf, hln, ⟨vb, ml, ct, n, f, hsb, hvb, hc⟩, iP, iS, iR, iV, iF⟩ := h
  have e : fp' = fp := by
    have := hpa.symm.trans hfp
    simpa using this
  subst e
  refine ⟨zk hpa hx (by intro h; cases h), ⟨_, z_up_s _ _ _, s_fu_fp hp5⟩, fun k hk => ?_, ⟨o9, p9, zk hpa hsp (by intro h; cases h)⟩, fun r hr => zk hpa (hRA r hr) (by intro h; cases h), fun r hr => zk hpa (hVA r hr) (by intro h; simp at h), zk hpa hrf (by intro h; simp at h), zk hpa hln (by intro h; cases h), ⟨vb, ml, ct, n, f, zk hpa hsb (by intro h; cases h), zk hpa hvb (by intro h; simp at h), hc⟩, s_fu_inj hi hj iP, s_fu_in (Q := fun q => q ≠ sp) hi hj iS, iR, iV, iF⟩
  by_cases hkj : k = j
  · subst hkj
    rw [s_fu_s, s_sw, s_up_s]
    exact zk hpa (hP i hi) (by intro h; cases h)
  · rw [s_fu_n _ _ hkj]
    by_cases hki : k = i
    · subst hki
      rw [s_fu_s, s_sw, s_up_n _ _ hkj, s_up_s]
      exact zk hpa (hP j hj) (by intro h; cases h)
    · rw [s_fu_n _ _ hki, s_sw, s_up_n _ _ hkj, s_up_n _ _ hki]
      exact zk hpa (hP k hk) (by intro h; cases h)
theorem a_X3_go (l : Launch) (h_st : l.stackTraces = false) {G : zG} {u : sS} {x : Nat} {P RA VA : Nat → Nat} {pa sp ln rf sb : Nat} {C : zM} (hC : CI G u x P RA VA pa sp ln rf sb C) {t : Nat} (hok : s_ok t u) (pane pl0 : Int32) : z_Xi l G qX3_go (z_rm 12 8 48) [.ref x, .int pane, .int pl0] C (CP G x pa sp ln rf sb (z_lt (z_is pane 0 5) 1) (s_go u pane.toNatClampNeg pl0)) (CX G x pa sp ln rf sb (z_lt (z_is pane 0 5) 1) u) := by
  obtain ⟨hx, ⟨fp, hpa, hfp⟩, hP, ⟨o9, p9, hsp⟩, hRA, hVA, hrf, hln, ⟨vb, ml, ct, n, f, hsb, hvb, hc⟩, iP, iS, iR, iV, iF⟩ := id hC
  rcases z_pc pane with ⟨h_ok, h_ip, hi⟩ | ⟨h_bad, h_nip⟩
  · refine z_Xi_mono (c_X3_go l G h_st hx hrf hpa (hP _ hi) h_ip rfl (hfp _ hi)) ?_ ?_
    · rintro r M' (⟨c0_0, c0_1, hr9, rfl⟩ | ⟨c1_0, c1_1, hr9, rfl⟩ | ⟨c2_0, hr9, rfl⟩)
      · rw [hr9]
        exact CP_ok (v := s_ak (s_up (u) pane.toNatClampNeg (p_ro (s_pn u pane.toNatClampNeg), (p_sa (s_pn u pane.toNatClampNeg)), (p_cp (s_pn u pane.toNatClampNeg)), pl0, (p_li (s_pn u pane.toNatClampNeg)), (p_mk (s_pn u pane.toNatClampNeg)), (p_rd (s_pn u pane.toNatClampNeg)))) ((s_ac u) + 1) ((s_kn u))) (by simp [s_go, p_mv, c0_0, c0_1] <;> rfl) (z_lt3 h_ok rfl) (CI_ak (CI_pn hC hi (p_ro (s_pn u pane.toNatClampNeg), (p_sa (s_pn u pane.toNatClampNeg)), (p_cp (s_pn u pane.toNatClampNeg)), pl0, (p_li (s_pn u pane.toNatClampNeg)), (p_mk (s_pn u pane.toNatClampNeg)), (p_rd (s_pn u pane.toNatClampNeg)))) _ _)
      · rw [hr9]
        exact CP_ok (v := s_ak (s_up (u) pane.toNatClampNeg (p_ro (s_pn u pane.toNatClampNeg), (p_sa (s_pn u pane.toNatClampNeg)), (p_cp (s_pn u pane.toNatClampNeg)), pl0, (p_li (s_pn u pane.toNatClampNeg)), (-1), (p_rd (s_pn u pane.toNatClampNeg)))) ((s_ac u) + 1) ((s_kn u))) (by simp [s_go, p_mv, c1_0, c1_1] <;> rfl) (z_lt3 h_ok rfl) (CI_ak (CI_pn hC hi (p_ro (s_pn u pane.toNatClampNeg), (p_sa (s_pn u pane.toNatClampNeg)), (p_cp (s_pn u pane.toNatClampNeg)), pl0, (p_li (s_pn u pane.toNatClampNeg)), (-1), (p_rd (s_pn u pane.toNatClampNeg)))) _ _)
      · rw [hr9]
        exact CP_ok (v := s_tdu (u) (upd (s_td u) 5 (((s_td u) 5) + 1))) (by simp [s_go, p_mv, c2_0] <;> rfl) (z_lt3 h_ok rfl) (CI_td hC _)
    · exact fun E M' h => h.elim
  · refine z_Xi_mono (c_X3_go_bad l G h_st hx hpa h_nip) (fun r M' h => h.elim) ?_
    rintro E M' (⟨x0_0, rfl, rfl⟩ | ⟨x1_0, rfl, rfl⟩)
    · exact CX_1 (k_1 h_bad) hC
    · exact CX_1 (k_1 h_bad) hC
theorem a_X3_end (l : Launch) (h_st : l.stackTraces = false) {G : zG} {u : sS} {x : Nat} {P RA VA : Nat → Nat} {pa sp ln rf sb : Nat} {C : zM} (hC : CI G u x P RA VA pa sp ln rf sb C) {t : Nat} (hok : s_ok t u) (pane pl0 : Int32) : z_Xi l G qX3_end (z_rm 12 8 48) [.ref x, .int pane, .int pl0] C (CP G x pa sp ln rf sb (z_lt (z_is pane 0 5) 1) (s_end u pane.toNatClampNeg pl0)) (CX G x pa sp ln rf sb (z_lt (z_is pane 0 5) 1) u) := by
  obtain ⟨hx, ⟨fp, hpa, hfp⟩, hP, ⟨o9, p9, hsp⟩, hRA, hVA, hrf, hln, ⟨vb, ml, ct, n, f, hsb, hvb, hc⟩, iP, iS, iR, iV, iF⟩ := id hC
  rcases z_pc pane with ⟨h_ok, h_ip, hi⟩ | ⟨h_bad, h_nip⟩
  · refine z_Xi_mono (c_X3_end l G h_st hx hrf hpa (hP _ hi) h_ip rfl (hfp _ hi)) ?_ ?_
    · rintro r M' (⟨c0_0, c0_1, c0_2, hr9, rfl⟩ | ⟨c1_0, c1_1, c1_2, hr9, rfl⟩ | ⟨c2_0, c2_1, c2_2, hr9, rfl⟩ | ⟨c3_0, c3_1, c3_2, hr9, rfl⟩ | ⟨c4_0, hr9, rfl⟩)
      · rw [hr9]
        exact CP_ok (v := s_ak (s_up (u) pane.toNatClampNeg (p_ro (s_pn u pane.toNatClampNeg), (p_sa (s_pn u pane.toNatClampNeg)), (p_cp (s_pn u pane.toNatClampNeg)), (p_po (s_pn u pane.toNatClampNeg)), pl0, (p_mk (s_pn u pane.toNatClampNeg)), (p_rd (s_pn u pane.toNatClampNeg)))) ((s_ac u) + 1) ((s_kn u))) (by simp [s_end, p_en, c0_0, c0_1, c0_2] <;> rfl) (z_lt3 h_ok rfl) (CI_ak (CI_pn hC hi (p_ro (s_pn u pane.toNatClampNeg), (p_sa (s_pn u pane.toNatClampNeg)), (p_cp (s_pn u pane.toNatClampNeg)), (p_po (s_pn u pane.toNatClampNeg)), pl0, (p_mk (s_pn u pane.toNatClampNeg)), (p_rd (s_pn u pane.toNatClampNeg)))) _ _)
      · rw [hr9]
        exact CP_ok (v := s_ak (s_up (u) pane.toNatClampNeg (p_ro (s_pn u pane.toNatClampNeg), (p_sa (s_pn u pane.toNatClampNeg)), (p_cp (s_pn u pane.toNatClampNeg)), (p_po (s_pn u pane.toNatClampNeg)), pl0, (-1), (p_rd (s_pn u pane.toNatClampNeg)))) ((s_ac u) + 1) ((s_kn u))) (by simp [s_end, p_en, c1_0, c1_1, c1_2] <;> rfl) (z_lt3 h_ok rfl) (CI_ak (CI_pn hC hi (p_ro (s_pn u pane.toNatClampNeg), (p_sa (s_pn u pane.toNatClampNeg)), (p_cp (s_pn u pane.toNatClampNeg)), (p_po (s_pn u pane.toNatClampNeg)), pl0, (-1), (p_rd (s_pn u pane.toNatClampNeg)))) _ _)
      · rw [hr9]
        exact CP_ok (v := s_ak (s_up (u) pane.toNatClampNeg (p_ro (s_pn u pane.toNatClampNeg), (p_sa (s_pn u pane.toNatClampNeg)), (p_cp (s_pn u pane.toNatClampNeg)), pl0, pl0, (p_mk (s_pn u pane.toNatClampNeg)), (p_rd (s_pn u pane.toNatClampNeg)))) ((s_ac u) + 1) ((s_kn u))) (by simp [s_end, p_en, c2_0, c2_1, c2_2] <;> rfl) (z_lt3 h_ok rfl) (CI_ak (CI_pn hC hi (p_ro (s_pn u pane.toNatClampNeg), (p_sa (s_pn u pane.toNatClampNeg)), (p_cp (s_pn u pane.toNatClampNeg)), pl0, pl0, (p_mk (s_pn u pane.toNatClampNeg)), (p_rd (s_pn u pane.toNatClampNeg)))) _ _)
      · rw [hr9]
        exact CP_ok (v := s_ak (s_up (u) pane.toNatClampNeg (p_ro (s_pn u pane.toNatClampNeg), (p_sa (s_pn u pane.toNatClampNeg)), (p_cp (s_pn u pane.toNatClampNeg)), pl0, pl0, (-1), (p_rd (s_pn u pane.toNatClampNeg)))) ((s_ac u) + 1) ((s_kn u))) (by simp [s_end, p_en, c3_0, c3_1, c3_2] <;> rfl) (z_lt3 h_ok rfl) (CI_ak (CI_pn hC hi (p_ro (s_pn u pane.toNatClampNeg), (p_sa (s_pn u pane.toNatClampNeg)), (p_cp (s_pn u pane.toNatClampNeg)), pl0, pl0, (-1), (p_rd (s_pn u pane.toNatClampNeg)))) _ _)
      · rw [hr9]
        exact CP_ok (v := s_tdu (u) (upd (s_td u) 5 (((s_td u) 5) + 1))) (by simp [s_end, p_en, c4_0] <;> rfl) (z_lt3 h_ok rfl) (CI_td hC _)
    · exact fun E M' h => h.elim
  · refine z_Xi_mono (c_X3_end_bad l G h_st hx hpa h_nip) (fun r M' h => h.elim) ?_
    rintro E M' (⟨x0_0, rfl, rfl⟩ | ⟨x1_0, rfl, rfl⟩)
    · exact CX_1 (k_1 h_bad) hC
    · exact CX_1 (k_1 h_bad) hC
theorem a_X3_mark (l : Launch) (h_st : l.stackTraces = false) {G : zG} {u : sS} {x : Nat} {P RA VA : Nat → Nat} {pa sp ln rf sb : Nat} {C : zM} (hC : CI G u x P RA VA pa sp ln rf sb C) {t : Nat} (hok : s_ok t u) (pane : Int32) : z_Xi l G qX3_mark (z_rm 12 8 48) [.ref x, .int pane] C (CP G x pa sp ln rf sb (z_lt (z_is pane 0 5) 1) (s_mark u pane.toNatClampNeg)) (CX G x pa sp ln rf sb (z_lt (z_is pane 0 5) 1) u) := by
  obtain ⟨hx, ⟨fp, hpa, hfp⟩, hP, ⟨o9, p9, hsp⟩, hRA, hVA, hrf, hln, ⟨vb, ml, ct, n, f, hsb, hvb, hc⟩, iP, iS, iR, iV, iF⟩ := id hC
  rcases z_pc pane with ⟨h_ok, h_ip, hi⟩ | ⟨h_bad, h_nip⟩
  · refine z_Xi_mono (c_X3_mark l G h_st hx hrf hpa (hP _ hi) h_ip rfl (hfp _ hi)) ?_ ?_
    · rintro r M' ⟨hr9, rfl⟩
      · rw [hr9]
        exact CP_ok (v := s_ak (s_up (u) pane.toNatClampNeg (p_ro (s_pn u pane.toNatClampNeg), (p_sa (s_pn u pane.toNatClampNeg)), (p_cp (s_pn u pane.toNatClampNeg)), (p_po (s_pn u pane.toNatClampNeg)), (p_li (s_pn u pane.toNatClampNeg)), (p_po (s_pn u pane.toNatClampNeg)), (p_rd (s_pn u pane.toNatClampNeg)))) ((s_ac u) + 1) ((s_kn u))) (by simp [s_mark, p_mkd, p_po', p_bg] <;> rfl) (z_lt3 h_ok rfl) (CI_ak (CI_pn hC hi (p_ro (s_pn u pane.toNatClampNeg), (p_sa (s_pn u pane.toNatClampNeg)), (p_cp (s_pn u pane.toNatClampNeg)), (p_po (s_pn u pane.toNatClampNeg)), (p_li (s_pn u pane.toNatClampNeg)), (p_po (s_pn u pane.toNatClampNeg)), (p_rd (s_pn u pane.toNatClampNeg)))) _ _)
    · exact fun E M' h => h.elim
  · refine z_Xi_mono (c_X3_mark_bad l G h_st hx hpa h_nip) (fun r M' h => h.elim) ?_
    rintro E M' (⟨x0_0, rfl, rfl⟩ | ⟨x1_0, rfl, rfl⟩)
    · exact CX_1 (k_1 h_bad) hC
    · exact CX_1 (k_1 h_bad) hC
theorem a_X3_back (l : Launch) (h_st : l.stackTraces = false) {G : zG} {u : sS} {x : Nat} {P RA VA : Nat → Nat} {pa sp ln rf sb : Nat} {C : zM} (hC : CI G u x P RA VA pa sp ln rf sb C) {t : Nat} (hok : s_ok t u) (pane : Int32) : z_Xi l G qX3_back (z_rm 12 8 48) [.ref x, .int pane] C (CP G x pa sp ln rf sb (z_lt (z_is pane 0 5) 1) (s_back u pane.toNatClampNeg)) (CX G x pa sp ln rf sb (z_lt (z_is pane 0 5) 1) u) := by
  obtain ⟨hx, ⟨fp, hpa, hfp⟩, hP, ⟨o9, p9, hsp⟩, hRA, hVA, hrf, hln, ⟨vb, ml, ct, n, f, hsb, hvb, hc⟩, iP, iS, iR, iV, iF⟩ := id hC
  rcases z_pc pane with ⟨h_ok, h_ip, hi⟩ | ⟨h_bad, h_nip⟩
  · refine z_Xi_mono (c_X3_back l G h_st hx hrf hpa (hP _ hi) h_ip rfl (hfp _ hi)) ?_ ?_
    · rintro r M' (⟨c0_0, c0_1, hr9, rfl⟩ | ⟨c1_0, c1_1, hr9, rfl⟩ | ⟨c2_0, hr9, rfl⟩)
      · rw [hr9]
        exact CP_ok (v := s_ak (s_up (u) pane.toNatClampNeg (p_ro (s_pn u pane.toNatClampNeg), (p_sa (s_pn u pane.toNatClampNeg)), (p_cp (s_pn u pane.toNatClampNeg)), (p_mk (s_pn u pane.toNatClampNeg)), (p_li (s_pn u pane.toNatClampNeg)), (p_mk (s_pn u pane.toNatClampNeg)), (p_rd (s_pn u pane.toNatClampNeg)))) ((s_ac u) + 1) ((s_kn u))) (by simp [s_back, p_mkd, p_po', p_bg, (show ¬ p_mk (s_pn u pane.toNatClampNeg) = -1 from fun q => c0_0 (z_hm0.mpr q))] <;> rfl) (z_lt3 h_ok rfl) (CI_ak (CI_pn hC hi (p_ro (s_pn u pane.toNatClampNeg), (p_sa (s_pn u pane.toNatClampNeg)), (p_cp (s_pn u pane.toNatClampNeg)), (p_mk (s_pn u pane.toNatClampNeg)), (p_li (s_pn u pane.toNatClampNeg)), (p_mk (s_pn u pane.toNatClampNeg)), (p_rd (s_pn u pane.toNatClampNeg)))) _ _)
      · exact absurd (Int32.le_refl _) c1_1
      · rw [hr9]
        exact CP_ok (v := s_tdu (u) (upd (s_td u) 3 (((s_td u) 3) + 1))) (by simp [s_back, p_mkd, p_po', p_bg, (z_hm0.mp c2_0)] <;> rfl) (z_lt3 h_ok rfl) (CI_td hC _)
    · exact fun E M' h => h.elim
  · refine z_Xi_mono (c_X3_back_bad l G h_st hx hpa h_nip) (fun r M' h => h.elim) ?_
    rintro E M' (⟨x0_0, rfl, rfl⟩ | ⟨x1_0, rfl, rfl⟩)
    · exact CX_1 (k_1 h_bad) hC
    · exact CX_1 (k_1 h_bad) hC
theorem a_X3_clear (l : Launch) (h_st : l.stackTraces = false) {G : zG} {u : sS} {x : Nat} {P RA VA : Nat → Nat} {pa sp ln rf sb : Nat} {C : zM} (hC : CI G u x P RA VA pa sp ln rf sb C) {t : Nat} (hok : s_ok t u) (pane : Int32) : z_Xi l G qX3_clear (z_rm 12 8 48) [.ref x, .int pane] C (CP G x pa sp ln rf sb (z_lt (z_is pane 0 5) 1) (s_clear u pane.toNatClampNeg)) (CX G x pa sp ln rf sb (z_lt (z_is pane 0 5) 1) u) := by
  obtain ⟨hx, ⟨fp, hpa, hfp⟩, hP, ⟨o9, p9, hsp⟩, hRA, hVA, hrf, hln, ⟨vb, ml, ct, n, f, hsb, hvb, hc⟩, iP, iS, iR, iV, iF⟩ := id hC
  rcases z_pc pane with ⟨h_ok, h_ip, hi⟩ | ⟨h_bad, h_nip⟩
  · refine z_Xi_mono (c_X3_clear l G h_st hx hrf hpa (hP _ hi) h_ip rfl (hfp _ hi)) ?_ ?_
    · rintro r M' ⟨hr9, rfl⟩
      · rw [hr9]
        exact CP_ok (v := s_ak (s_up (u) pane.toNatClampNeg (p_ro (s_pn u pane.toNatClampNeg), (p_sa (s_pn u pane.toNatClampNeg)), (p_cp (s_pn u pane.toNatClampNeg)), 0, (p_cp (s_pn u pane.toNatClampNeg)), (-1), (p_rd (s_pn u pane.toNatClampNeg)))) ((s_ac u) + 1) ((s_kn u))) (by simp [s_clear, p_mkd, p_po', p_bg] <;> rfl) (z_lt3 h_ok rfl) (CI_ak (CI_pn hC hi (p_ro (s_pn u pane.toNatClampNeg), (p_sa (s_pn u pane.toNatClampNeg)), (p_cp (s_pn u pane.toNatClampNeg)), 0, (p_cp (s_pn u pane.toNatClampNeg)), (-1), (p_rd (s_pn u pane.toNatClampNeg)))) _ _)
    · exact fun E M' h => h.elim
  · refine z_Xi_mono (c_X3_clear_bad l G h_st hx hpa h_nip) (fun r M' h => h.elim) ?_
    rintro E M' (⟨x0_0, rfl, rfl⟩ | ⟨x1_0, rfl, rfl⟩)
    · exact CX_1 (k_1 h_bad) hC
    · exact CX_1 (k_1 h_bad) hC
theorem a_X3_flip (l : Launch) (h_st : l.stackTraces = false) {G : zG} {u : sS} {x : Nat} {P RA VA : Nat → Nat} {pa sp ln rf sb : Nat} {C : zM} (hC : CI G u x P RA VA pa sp ln rf sb C) {t : Nat} (hok : s_ok t u) (pane : Int32) : z_Xi l G qX3_flip (z_rm 12 8 48) [.ref x, .int pane] C (CP G x pa sp ln rf sb (z_lt (z_is pane 0 5) 1) (s_flip u pane.toNatClampNeg)) (CX G x pa sp ln rf sb (z_lt (z_is pane 0 5) 1) u) := by
  obtain ⟨hx, ⟨fp, hpa, hfp⟩, hP, ⟨o9, p9, hsp⟩, hRA, hVA, hrf, hln, ⟨vb, ml, ct, n, f, hsb, hvb, hc⟩, iP, iS, iR, iV, iF⟩ := id hC
  rcases z_pc pane with ⟨h_ok, h_ip, hi⟩ | ⟨h_bad, h_nip⟩
  · refine z_Xi_mono (c_X3_flip l G h_st hx hrf hpa (hP _ hi) h_ip rfl (hfp _ hi)) ?_ ?_
    · rintro r M' ⟨hr9, rfl⟩
      · rw [hr9]
        exact CP_ok (v := s_ak (s_up (u) pane.toNatClampNeg (p_ro (s_pn u pane.toNatClampNeg), (p_sa (s_pn u pane.toNatClampNeg)), (p_cp (s_pn u pane.toNatClampNeg)), 0, (p_po (s_pn u pane.toNatClampNeg)), (-1), (p_rd (s_pn u pane.toNatClampNeg)))) ((s_ac u) + 1) ((s_kn u))) (by simp [s_flip, p_mkd, p_po', p_bg] <;> rfl) (z_lt3 h_ok rfl) (CI_ak (CI_pn hC hi (p_ro (s_pn u pane.toNatClampNeg), (p_sa (s_pn u pane.toNatClampNeg)), (p_cp (s_pn u pane.toNatClampNeg)), 0, (p_po (s_pn u pane.toNatClampNeg)), (-1), (p_rd (s_pn u pane.toNatClampNeg)))) _ _)
    · exact fun E M' h => h.elim
  · refine z_Xi_mono (c_X3_flip_bad l G h_st hx hpa h_nip) (fun r M' h => h.elim) ?_
    rintro E M' (⟨x0_0, rfl, rfl⟩ | ⟨x1_0, rfl, rfl⟩)
    · exact CX_1 (k_1 h_bad) hC
    · exact CX_1 (k_1 h_bad) hC
theorem a_X3_rewind (l : Launch) (h_st : l.stackTraces = false) {G : zG} {u : sS} {x : Nat} {P RA VA : Nat → Nat} {pa sp ln rf sb : Nat} {C : zM} (hC : CI G u x P RA VA pa sp ln rf sb C) {t : Nat} (hok : s_ok t u) (pane : Int32) : z_Xi l G qX3_rewind (z_rm 12 8 48) [.ref x, .int pane] C (CP G x pa sp ln rf sb (z_lt (z_is pane 0 5) 1) (s_rewind u pane.toNatClampNeg)) (CX G x pa sp ln rf sb (z_lt (z_is pane 0 5) 1) u) := by
  obtain ⟨hx, ⟨fp, hpa, hfp⟩, hP, ⟨o9, p9, hsp⟩, hRA, hVA, hrf, hln, ⟨vb, ml, ct, n, f, hsb, hvb, hc⟩, iP, iS, iR, iV, iF⟩ := id hC
  rcases z_pc pane with ⟨h_ok, h_ip, hi⟩ | ⟨h_bad, h_nip⟩
  · refine z_Xi_mono (c_X3_rewind l G h_st hx hrf hpa (hP _ hi) h_ip rfl (hfp _ hi)) ?_ ?_
    · rintro r M' ⟨hr9, rfl⟩
      · rw [hr9]
        exact CP_ok (v := s_ak (s_up (u) pane.toNatClampNeg (p_ro (s_pn u pane.toNatClampNeg), (p_sa (s_pn u pane.toNatClampNeg)), (p_cp (s_pn u pane.toNatClampNeg)), 0, (p_li (s_pn u pane.toNatClampNeg)), (-1), (p_rd (s_pn u pane.toNatClampNeg)))) ((s_ac u) + 1) ((s_kn u))) (by simp [s_rewind, p_mkd, p_po', p_bg] <;> rfl) (z_lt3 h_ok rfl) (CI_ak (CI_pn hC hi (p_ro (s_pn u pane.toNatClampNeg), (p_sa (s_pn u pane.toNatClampNeg)), (p_cp (s_pn u pane.toNatClampNeg)), 0, (p_li (s_pn u pane.toNatClampNeg)), (-1), (p_rd (s_pn u pane.toNatClampNeg)))) _ _)
    · exact fun E M' h => h.elim
  · refine z_Xi_mono (c_X3_rewind_bad l G h_st hx hpa h_nip) (fun r M' h => h.elim) ?_
    rintro E M' (⟨x0_0, rfl, rfl⟩ | ⟨x1_0, rfl, rfl⟩)
    · exact CX_1 (k_1 h_bad) hC
    · exact CX_1 (k_1 h_bad) hC
theorem a_X3_move (l : Launch) (h_st : l.stackTraces = false) {G : zG} {u : sS} {x : Nat} {P RA VA : Nat → Nat} {pa sp ln rf sb : Nat} {C : zM} (hC : CI G u x P RA VA pa sp ln rf sb C) {t : Nat} (hok : s_ok t u) (pane bb : Int32) : z_Xi l G qX3_move (z_rm 12 8 48) [.ref x, .int pane, .int bb] C (CP G x pa sp ln rf sb (z_lt (z_is pane 0 5) (z_is bb (-20) 20)) (s_move u pane.toNatClampNeg bb)) (CX G x pa sp ln rf sb (z_lt (z_is pane 0 5) (z_is bb (-20) 20)) u) := by
  obtain ⟨hx, ⟨fp, hpa, hfp⟩, hP, ⟨o9, p9, hsp⟩, hRA, hVA, hrf, hln, ⟨vb, ml, ct, n, f, hsb, hvb, hc⟩, iP, iS, iR, iV, iF⟩ := id hC
  rcases z_pc pane with ⟨h_ok, h_ip, hi⟩ | ⟨h_bad, h_nip⟩
  · refine z_Xi_mono (c_X3_move l G h_st hx hrf hpa (hP _ hi) h_ip rfl (hfp _ hi)) ?_ ?_
    · rintro r M' (⟨c0_0, c0_1, c0_2, hr9, rfl⟩ | ⟨c1_0, c1_1, c1_2, hr9, rfl⟩ | ⟨c2_0, c2_1, hr9, rfl⟩)
      · rw [hr9]
        exact CP_ok (v := s_ak (s_up (u) pane.toNatClampNeg (p_ro (s_pn u pane.toNatClampNeg), (p_sa (s_pn u pane.toNatClampNeg)), (p_cp (s_pn u pane.toNatClampNeg)), ((p_po (s_pn u pane.toNatClampNeg)) + bb), (p_li (s_pn u pane.toNatClampNeg)), (p_mk (s_pn u pane.toNatClampNeg)), (p_rd (s_pn u pane.toNatClampNeg)))) ((s_ac u) + 1) ((s_kn u))) (by simp [s_move, p_mv, c0_0, c0_1, c0_2] <;> rfl) (z_lt3 h_ok (z_is11 c0_0)) (CI_ak (CI_pn hC hi (p_ro (s_pn u pane.toNatClampNeg), (p_sa (s_pn u pane.toNatClampNeg)), (p_cp (s_pn u pane.toNatClampNeg)), ((p_po (s_pn u pane.toNatClampNeg)) + bb), (p_li (s_pn u pane.toNatClampNeg)), (p_mk (s_pn u pane.toNatClampNeg)), (p_rd (s_pn u pane.toNatClampNeg)))) _ _)
      · rw [hr9]
        exact CP_ok (v := s_ak (s_up (u) pane.toNatClampNeg (p_ro (s_pn u pane.toNatClampNeg), (p_sa (s_pn u pane.toNatClampNeg)), (p_cp (s_pn u pane.toNatClampNeg)), ((p_po (s_pn u pane.toNatClampNeg)) + bb), (p_li (s_pn u pane.toNatClampNeg)), (-1), (p_rd (s_pn u pane.toNatClampNeg)))) ((s_ac u) + 1) ((s_kn u))) (by simp [s_move, p_mv, c1_0, c1_1, c1_2] <;> rfl) (z_lt3 h_ok (z_is11 c1_0)) (CI_ak (CI_pn hC hi (p_ro (s_pn u pane.toNatClampNeg), (p_sa (s_pn u pane.toNatClampNeg)), (p_cp (s_pn u pane.toNatClampNeg)), ((p_po (s_pn u pane.toNatClampNeg)) + bb), (p_li (s_pn u pane.toNatClampNeg)), (-1), (p_rd (s_pn u pane.toNatClampNeg)))) _ _)
      · rw [hr9]
        exact CP_ok (v := s_tdu (u) (upd (s_td u) 5 (((s_td u) 5) + 1))) (by simp [s_move, p_mv, c2_0, c2_1] <;> rfl) (z_lt3 h_ok (z_is11 c2_0)) (CI_td hC _)
    · rintro E M' ⟨x0_0, rfl, rfl⟩
      · exact CX_2 (k_2 h_ok x0_0) hC
  · refine z_Xi_mono (c_X3_move_bad l G h_st hx hpa h_nip) (fun r M' h => h.elim) ?_
    rintro E M' (⟨x0_0, rfl, rfl⟩ | ⟨x1_0, rfl, rfl⟩)
    · exact CX_1 (k_1 h_bad) hC
    · exact CX_1 (k_1 h_bad) hC
theorem a_X3_stretch (l : Launch) (h_st : l.stackTraces = false) {G : zG} {u : sS} {x : Nat} {P RA VA : Nat → Nat} {pa sp ln rf sb : Nat} {C : zM} (hC : CI G u x P RA VA pa sp ln rf sb C) {t : Nat} (hok : s_ok t u) (pane bb : Int32) : z_Xi l G qX3_stretch (z_rm 12 8 48) [.ref x, .int pane, .int bb] C (CP G x pa sp ln rf sb (z_lt (z_is pane 0 5) (z_is bb (-20) 20)) (s_stretch u pane.toNatClampNeg bb)) (CX G x pa sp ln rf sb (z_lt (z_is pane 0 5) (z_is bb (-20) 20)) u) := by
  obtain ⟨hx, ⟨fp, hpa, hfp⟩, hP, ⟨o9, p9, hsp⟩, hRA, hVA, hrf, hln, ⟨vb, ml, ct, n, f, hsb, hvb, hc⟩, iP, iS, iR, iV, iF⟩ := id hC
  rcases z_pc pane with ⟨h_ok, h_ip, hi⟩ | ⟨h_bad, h_nip⟩
  · refine z_Xi_mono (c_X3_stretch l G h_st hx hrf hpa (hP _ hi) h_ip rfl (hfp _ hi)) ?_ ?_
    · rintro r M' (⟨c0_0, c0_1, c0_2, c0_3, hr9, rfl⟩ | ⟨c1_0, c1_1, c1_2, c1_3, hr9, rfl⟩ | ⟨c2_0, c2_1, c2_2, c2_3, hr9, rfl⟩ | ⟨c3_0, c3_1, c3_2, c3_3, hr9, rfl⟩ | ⟨c4_0, c4_1, hr9, rfl⟩)
      · rw [hr9]
        exact CP_ok (v := s_ak (s_up (u) pane.toNatClampNeg (p_ro (s_pn u pane.toNatClampNeg), (p_sa (s_pn u pane.toNatClampNeg)), (p_cp (s_pn u pane.toNatClampNeg)), (p_po (s_pn u pane.toNatClampNeg)), ((p_li (s_pn u pane.toNatClampNeg)) + bb), (p_mk (s_pn u pane.toNatClampNeg)), (p_rd (s_pn u pane.toNatClampNeg)))) ((s_ac u) + 1) ((s_kn u))) (by simp [s_stretch, p_en, c0_0, c0_1, c0_2, c0_3] <;> rfl) (z_lt3 h_ok (z_is11 c0_0)) (CI_ak (CI_pn hC hi (p_ro (s_pn u pane.toNatClampNeg), (p_sa (s_pn u pane.toNatClampNeg)), (p_cp (s_pn u pane.toNatClampNeg)), (p_po (s_pn u pane.toNatClampNeg)), ((p_li (s_pn u pane.toNatClampNeg)) + bb), (p_mk (s_pn u pane.toNatClampNeg)), (p_rd (s_pn u pane.toNatClampNeg)))) _ _)
      · rw [hr9]
        exact CP_ok (v := s_ak (s_up (u) pane.toNatClampNeg (p_ro (s_pn u pane.toNatClampNeg), (p_sa (s_pn u pane.toNatClampNeg)), (p_cp (s_pn u pane.toNatClampNeg)), (p_po (s_pn u pane.toNatClampNeg)), ((p_li (s_pn u pane.toNatClampNeg)) + bb), (-1), (p_rd (s_pn u pane.toNatClampNeg)))) ((s_ac u) + 1) ((s_kn u))) (by simp [s_stretch, p_en, c1_0, c1_1, c1_2, c1_3] <;> rfl) (z_lt3 h_ok (z_is11 c1_0)) (CI_ak (CI_pn hC hi (p_ro (s_pn u pane.toNatClampNeg), (p_sa (s_pn u pane.toNatClampNeg)), (p_cp (s_pn u pane.toNatClampNeg)), (p_po (s_pn u pane.toNatClampNeg)), ((p_li (s_pn u pane.toNatClampNeg)) + bb), (-1), (p_rd (s_pn u pane.toNatClampNeg)))) _ _)
      · rw [hr9]
        exact CP_ok (v := s_ak (s_up (u) pane.toNatClampNeg (p_ro (s_pn u pane.toNatClampNeg), (p_sa (s_pn u pane.toNatClampNeg)), (p_cp (s_pn u pane.toNatClampNeg)), ((p_li (s_pn u pane.toNatClampNeg)) + bb), ((p_li (s_pn u pane.toNatClampNeg)) + bb), (p_mk (s_pn u pane.toNatClampNeg)), (p_rd (s_pn u pane.toNatClampNeg)))) ((s_ac u) + 1) ((s_kn u))) (by simp [s_stretch, p_en, c2_0, c2_1, c2_2, c2_3] <;> rfl) (z_lt3 h_ok (z_is11 c2_0)) (CI_ak (CI_pn hC hi (p_ro (s_pn u pane.toNatClampNeg), (p_sa (s_pn u pane.toNatClampNeg)), (p_cp (s_pn u pane.toNatClampNeg)), ((p_li (s_pn u pane.toNatClampNeg)) + bb), ((p_li (s_pn u pane.toNatClampNeg)) + bb), (p_mk (s_pn u pane.toNatClampNeg)), (p_rd (s_pn u pane.toNatClampNeg)))) _ _)
      · rw [hr9]
        exact CP_ok (v := s_ak (s_up (u) pane.toNatClampNeg (p_ro (s_pn u pane.toNatClampNeg), (p_sa (s_pn u pane.toNatClampNeg)), (p_cp (s_pn u pane.toNatClampNeg)), ((p_li (s_pn u pane.toNatClampNeg)) + bb), ((p_li (s_pn u pane.toNatClampNeg)) + bb), (-1), (p_rd (s_pn u pane.toNatClampNeg)))) ((s_ac u) + 1) ((s_kn u))) (by simp [s_stretch, p_en, c3_0, c3_1, c3_2, c3_3] <;> rfl) (z_lt3 h_ok (z_is11 c3_0)) (CI_ak (CI_pn hC hi (p_ro (s_pn u pane.toNatClampNeg), (p_sa (s_pn u pane.toNatClampNeg)), (p_cp (s_pn u pane.toNatClampNeg)), ((p_li (s_pn u pane.toNatClampNeg)) + bb), ((p_li (s_pn u pane.toNatClampNeg)) + bb), (-1), (p_rd (s_pn u pane.toNatClampNeg)))) _ _)
      · rw [hr9]
        exact CP_ok (v := s_tdu (u) (upd (s_td u) 5 (((s_td u) 5) + 1))) (by simp [s_stretch, p_en, c4_0, c4_1] <;> rfl) (z_lt3 h_ok (z_is11 c4_0)) (CI_td hC _)
    · rintro E M' ⟨x0_0, rfl, rfl⟩
      · exact CX_2 (k_2 h_ok x0_0) hC
  · refine z_Xi_mono (c_X3_stretch_bad l G h_st hx hpa h_nip) (fun r M' h => h.elim) ?_
    rintro E M' (⟨x0_0, rfl, rfl⟩ | ⟨x1_0, rfl, rfl⟩)
    · exact CX_1 (k_1 h_bad) hC
    · exact CX_1 (k_1 h_bad) hC
theorem a_X3_put (l : Launch) (h_st : l.stackTraces = false) {G : zG} {u : sS} {x : Nat} {P RA VA : Nat → Nat} {pa sp ln rf sb : Nat} {C : zM} (hC : CI G u x P RA VA pa sp ln rf sb C) {t : Nat} (hok : s_ok t u) (pane v : Int32) : z_Xi l G qX3_put (z_rm 12 8 48) [.ref x, .int pane, .int v] C (CP G x pa sp ln rf sb (z_lt (z_is pane 0 5) (t_nn v)) (s_put u pane.toNatClampNeg v)) (CX G x pa sp ln rf sb (z_lt (z_is pane 0 5) (t_nn v)) u) := by
  obtain ⟨hx, ⟨fp, hpa, hfp⟩, hP, ⟨o9, p9, hsp⟩, hRA, hVA, hrf, hln, ⟨vb, ml, ct, n, f, hsb, hvb, hc⟩, iP, iS, iR, iV, iF⟩ := id hC
  rcases z_pc pane with ⟨h_ok, h_ip, hi⟩ | ⟨h_bad, h_nip⟩
  · refine z_Xi_mono (c_X3_put l G h_st hx hrf hpa (hP _ hi) (hRA _ (s_row hok hi)) (hVA _ (s_row hok hi)) h_ip rfl (hfp _ hi) (iF _ (s_row hok hi)) (s_ow hok hi)) ?_ ?_
    · rintro r M' (⟨c0_0, c0_1, c0_2, hr9, rfl⟩ | ⟨c1_0, c1_1, c1_2, hr9, rfl⟩ | ⟨c2_0, c2_1, hr9, rfl⟩)
      · rw [hr9]
        exact CP_ok (v := s_ak (s_up (s_wr (u) (p_ro (s_pn u pane.toNatClampNeg)) (p_at (s_pn u pane.toNatClampNeg) ((p_po (s_pn u pane.toNatClampNeg)))) (v)) pane.toNatClampNeg (p_ro (s_pn u pane.toNatClampNeg), (p_sa (s_pn u pane.toNatClampNeg)), (p_cp (s_pn u pane.toNatClampNeg)), (p_po (s_pn u pane.toNatClampNeg)) + 1, (p_li (s_pn u pane.toNatClampNeg)), (p_mk (s_pn u pane.toNatClampNeg)), (p_rd (s_pn u pane.toNatClampNeg)))) ((s_ac u) + 1) ((s_kn u))) (by simp [s_put, s_put1, p_po', c0_0, c0_1, ((s_rdn hok hi).mp c0_1), (show ¬ p_li (s_pn u pane.toNatClampNeg) - p_po (s_pn u pane.toNatClampNeg) = 0 from fun q => ((s_left' hok hi).mp q) c0_2)] <;> rfl) (z_lt3 h_ok (by simp [t_nn, Int32.not_lt.mpr c0_0])) (CI_ak (CI_pn (CI_wr hC (s_row hok hi) _ _) hi (p_ro (s_pn u pane.toNatClampNeg), (p_sa (s_pn u pane.toNatClampNeg)), (p_cp (s_pn u pane.toNatClampNeg)), (p_po (s_pn u pane.toNatClampNeg)) + 1, (p_li (s_pn u pane.toNatClampNeg)), (p_mk (s_pn u pane.toNatClampNeg)), (p_rd (s_pn u pane.toNatClampNeg)))) _ _)
      · rw [hr9]
        exact CP_ok (v := s_tdu (u) (upd (s_td u) 1 (((s_td u) 1) + 1))) (by simp [s_put, s_put1, p_po', c1_0, c1_1, ((s_rdn hok hi).mp c1_1), ((s_left' hok hi).mpr c1_2)] <;> rfl) (z_lt3 h_ok (by simp [t_nn, Int32.not_lt.mpr c1_0])) (CI_td hC _)
      · rw [hr9]
        exact CP_ok (v := s_tdu (u) (upd (s_td u) 4 (((s_td u) 4) + 1))) (by simp [s_put, s_put1, p_po', c2_0, c2_1, ((s_rdn' hok hi).mpr c2_1)] <;> rfl) (z_lt3 h_ok (by simp [t_nn, Int32.not_lt.mpr c2_0])) (CI_td hC _)
    · rintro E M' ⟨x0_0, rfl, rfl⟩
      · exact CX_2 (k_2 h_ok (by simp [t_nn, Int32.not_le.mp x0_0])) hC
  · refine z_Xi_mono (c_X3_put_bad l G h_st hx hpa h_nip) (fun r M' h => h.elim) ?_
    rintro E M' (⟨x0_0, rfl, rfl⟩ | ⟨x1_0, rfl, rfl⟩)
    · exact CX_1 (k_1 h_bad) hC
    · exact CX_1 (k_1 h_bad) hC
theorem a_X3_putAt (l : Launch) (h_st : l.stackTraces = false) {G : zG} {u : sS} {x : Nat} {P RA VA : Nat → Nat} {pa sp ln rf sb : Nat} {C : zM} (hC : CI G u x P RA VA pa sp ln rf sb C) {t : Nat} (hok : s_ok t u) (pane ix v : Int32) : z_Xi l G qX3_putAt (z_rm 12 8 48) [.ref x, .int pane, .int ix, .int v] C (CP G x pa sp ln rf sb (z_lt (z_is pane 0 5) (t_nn v)) (s_putAt u pane.toNatClampNeg ix v)) (CX G x pa sp ln rf sb (z_lt (z_is pane 0 5) (t_nn v)) u) := by
  obtain ⟨hx, ⟨fp, hpa, hfp⟩, hP, ⟨o9, p9, hsp⟩, hRA, hVA, hrf, hln, ⟨vb, ml, ct, n, f, hsb, hvb, hc⟩, iP, iS, iR, iV, iF⟩ := id hC
  rcases z_pc pane with ⟨h_ok, h_ip, hi⟩ | ⟨h_bad, h_nip⟩
  · refine z_Xi_mono (c_X3_putAt l G h_st hx hrf hpa (hP _ hi) (hRA _ (s_row hok hi)) (hVA _ (s_row hok hi)) h_ip rfl (hfp _ hi) (iF _ (s_row hok hi)) (s_ow hok hi)) ?_ ?_
    · rintro r M' (⟨c0_0, c0_1, c0_2, hr9, rfl⟩ | ⟨c1_0, c1_1, c1_2, hr9, rfl⟩ | ⟨c2_0, c2_1, hr9, rfl⟩)
      · rw [hr9]
        exact CP_ok (v := s_ak (s_wr (u) (p_ro (s_pn u pane.toNatClampNeg)) (p_at (s_pn u pane.toNatClampNeg) (ix)) (v)) ((s_ac u) + 1) ((s_kn u))) (by simp [s_putAt, c0_0, c0_1, c0_2, ((s_rdn hok hi).mp c0_2)] <;> rfl) (z_lt3 h_ok (by simp [t_nn, Int32.not_lt.mpr c0_0])) (CI_ak (CI_wr hC (s_row hok hi) _ _) _ _)
      · rw [hr9]
        exact CP_ok (v := s_tdu (u) (upd (s_td u) 4 (((s_td u) 4) + 1))) (by simp [s_putAt, c1_0, c1_1, c1_2, ((s_rdn' hok hi).mpr c1_2)] <;> rfl) (z_lt3 h_ok (by simp [t_nn, Int32.not_lt.mpr c1_0])) (CI_td hC _)
      · rw [hr9]
        exact CP_ok (v := s_tdu (u) (upd (s_td u) 5 (((s_td u) 5) + 1))) (by simp [s_putAt, c2_0, c2_1] <;> rfl) (z_lt3 h_ok (by simp [t_nn, Int32.not_lt.mpr c2_0])) (CI_td hC _)
    · rintro E M' ⟨x0_0, rfl, rfl⟩
      · exact CX_2 (k_2 h_ok (by simp [t_nn, Int32.not_le.mp x0_0])) hC
  · refine z_Xi_mono (c_X3_putAt_bad l G h_st hx hpa h_nip) (fun r M' h => h.elim) ?_
    rintro E M' (⟨x0_0, rfl, rfl⟩ | ⟨x1_0, rfl, rfl⟩)
    · exact CX_1 (k_1 h_bad) hC
    · exact CX_1 (k_1 h_bad) hC
theorem a_X3_reach (l : Launch) (h_st : l.stackTraces = false) {G : zG} {u : sS} {x : Nat} {P RA VA : Nat → Nat} {pa sp ln rf sb : Nat} {C : zM} (hC : CI G u x P RA VA pa sp ln rf sb C) {t : Nat} (hok : s_ok t u) (pane ix v : Int32) : z_Xi l G qX3_reach (z_rm 12 8 48) [.ref x, .int pane, .int ix, .int v] C (CP G x pa sp ln rf sb (z_lt (z_is pane 0 5) (t_nn v)) (s_reach u pane.toNatClampNeg ix v)) (CX G x pa sp ln rf sb (z_lt (z_is pane 0 5) (t_nn v)) u) := by
  obtain ⟨hx, ⟨fp, hpa, hfp⟩, hP, ⟨o9, p9, hsp⟩, hRA, hVA, hrf, hln, ⟨vb, ml, ct, n, f, hsb, hvb, hc⟩, iP, iS, iR, iV, iF⟩ := id hC
  rcases z_pc pane with ⟨h_ok, h_ip, hi⟩ | ⟨h_bad, h_nip⟩
  · refine z_Xi_mono (c_X3_reach l G h_st hx hrf hpa (hP _ hi) (hRA _ (s_row hok hi)) (hVA _ (s_row hok hi)) h_ip rfl (hfp _ hi) (iF _ (s_row hok hi)) (s_ow hok hi)) ?_ ?_
    · rintro r M' (⟨c0_0, c0_1, c0_2, hr9, rfl⟩ | ⟨c1_0, c1_1, c1_2, hr9, rfl⟩ | ⟨c2_0, c2_1, hr9, rfl⟩)
      · rw [hr9]
        exact CP_ok (v := s_ak (s_wr (u) (p_ro (s_pn u pane.toNatClampNeg)) (p_at (s_pn u pane.toNatClampNeg) (ix)) (v)) ((s_ac u) + 1) ((s_kn u))) (by simp [s_reach, c0_0, c0_1, ((s_rdn hok hi).mp c0_1), c0_2] <;> rfl) (z_lt3 h_ok (by simp [t_nn, Int32.not_lt.mpr c0_0])) (CI_ak (CI_wr hC (s_row hok hi) _ _) _ _)
      · rw [hr9]
        exact CP_ok (v := s_tdu (u) (upd (s_td u) 5 (((s_td u) 5) + 1))) (by simp [s_reach, c1_0, c1_1, ((s_rdn hok hi).mp c1_1), c1_2] <;> rfl) (z_lt3 h_ok (by simp [t_nn, Int32.not_lt.mpr c1_0])) (CI_td hC _)
      · rw [hr9]
        exact CP_ok (v := s_tdu (u) (upd (s_td u) 4 (((s_td u) 4) + 1))) (by simp [s_reach, c2_0, c2_1, ((s_rdn' hok hi).mpr c2_1)] <;> rfl) (z_lt3 h_ok (by simp [t_nn, Int32.not_lt.mpr c2_0])) (CI_td hC _)
    · rintro E M' ⟨x0_0, rfl, rfl⟩
      · exact CX_2 (k_2 h_ok (by simp [t_nn, Int32.not_le.mp x0_0])) hC
  · refine z_Xi_mono (c_X3_reach_bad l G h_st hx hpa h_nip) (fun r M' h => h.elim) ?_
    rintro E M' (⟨x0_0, rfl, rfl⟩ | ⟨x1_0, rfl, rfl⟩)
    · exact CX_1 (k_1 h_bad) hC
    · exact CX_1 (k_1 h_bad) hC
theorem a_X3_get (l : Launch) (h_st : l.stackTraces = false) {G : zG} {u : sS} {x : Nat} {P RA VA : Nat → Nat} {pa sp ln rf sb : Nat} {C : zM} (hC : CI G u x P RA VA pa sp ln rf sb C) {t : Nat} (hok : s_ok t u) (pane : Int32) : z_Xi l G qX3_get (z_rm 12 8 48) [.ref x, .int pane] C (CP G x pa sp ln rf sb (z_lt (z_is pane 0 5) 1) (s_get u pane.toNatClampNeg)) (CX G x pa sp ln rf sb (z_lt (z_is pane 0 5) 1) u) := by
  obtain ⟨hx, ⟨fp, hpa, hfp⟩, hP, ⟨o9, p9, hsp⟩, hRA, hVA, hrf, hln, ⟨vb, ml, ct, n, f, hsb, hvb, hc⟩, iP, iS, iR, iV, iF⟩ := id hC
  rcases z_pc pane with ⟨h_ok, h_ip, hi⟩ | ⟨h_bad, h_nip⟩
  · refine z_Xi_mono (c_X3_get l G h_st hx hrf hpa (hP _ hi) (hRA _ (s_row hok hi)) (hVA _ (s_row hok hi)) h_ip rfl (hfp _ hi) (iF _ (s_row hok hi)) (s_ow hok hi)) ?_ ?_
    · rintro r M' (⟨c0_0, hr9, rfl⟩ | ⟨c1_0, hr9, rfl⟩)
      · rw [hr9]
        exact CP_ok (v := s_ak (s_up (u) pane.toNatClampNeg (p_ro (s_pn u pane.toNatClampNeg), (p_sa (s_pn u pane.toNatClampNeg)), (p_cp (s_pn u pane.toNatClampNeg)), (p_po (s_pn u pane.toNatClampNeg)) + 1, (p_li (s_pn u pane.toNatClampNeg)), (p_mk (s_pn u pane.toNatClampNeg)), (p_rd (s_pn u pane.toNatClampNeg)))) ((s_ac u) + 1) ((s_kn u))) (by simp [s_get, p_po', (show ¬ p_li (s_pn u pane.toNatClampNeg) - p_po (s_pn u pane.toNatClampNeg) = 0 from fun q => ((s_left' hok hi).mp q) c0_0)] <;> rfl) (z_lt3 h_ok rfl) (CI_ak (CI_pn hC hi (p_ro (s_pn u pane.toNatClampNeg), (p_sa (s_pn u pane.toNatClampNeg)), (p_cp (s_pn u pane.toNatClampNeg)), (p_po (s_pn u pane.toNatClampNeg)) + 1, (p_li (s_pn u pane.toNatClampNeg)), (p_mk (s_pn u pane.toNatClampNeg)), (p_rd (s_pn u pane.toNatClampNeg)))) _ _)
      · rw [hr9]
        exact CP_ok (v := s_tdu (u) (upd (s_td u) 2 (((s_td u) 2) + 1))) (by simp [s_get, p_po', ((s_left' hok hi).mpr c1_0)] <;> rfl) (z_lt3 h_ok rfl) (CI_td hC _)
    · exact fun E M' h => h.elim
  · refine z_Xi_mono (c_X3_get_bad l G h_st hx hpa h_nip) (fun r M' h => h.elim) ?_
    rintro E M' (⟨x0_0, rfl, rfl⟩ | ⟨x1_0, rfl, rfl⟩)
    · exact CX_1 (k_1 h_bad) hC
    · exact CX_1 (k_1 h_bad) hC
theorem a_X3_pop (l : Launch) (h_st : l.stackTraces = false) {G : zG} {u : sS} {x : Nat} {P RA VA : Nat → Nat} {pa sp ln rf sb : Nat} {C : zM} (hC : CI G u x P RA VA pa sp ln rf sb C) {t : Nat} (hok : s_ok t u) (pane : Int32) : z_Xi l G qX3_pop (z_rm 12 8 48) [.ref x, .int pane] C (CP G x pa sp ln rf sb (z_lt (z_is pane 0 5) 1) (s_pop u pane.toNatClampNeg)) (CX G x pa sp ln rf sb (z_lt (z_is pane 0 5) 1) u) := by
  obtain ⟨hx, ⟨fp, hpa, hfp⟩, hP, ⟨o9, p9, hsp⟩, hRA, hVA, hrf, hln, ⟨vb, ml, ct, n, f, hsb, hvb, hc⟩, iP, iS, iR, iV, iF⟩ := id hC
  rcases z_pc pane with ⟨h_ok, h_ip, hi⟩ | ⟨h_bad, h_nip⟩
  · refine z_Xi_mono (c_X3_pop l G h_st hx hrf hpa (hP _ hi) (hRA _ (s_row hok hi)) (hVA _ (s_row hok hi)) h_ip rfl (hfp _ hi) (iF _ (s_row hok hi)) (s_ow hok hi)) ?_ ?_
    · rintro r M' (⟨c0_0, c0_1, hr9, rfl⟩ | ⟨c1_0, c1_1, hr9, rfl⟩ | ⟨c2_0, hr9, rfl⟩)
      · rw [hr9]
        exact CP_ok (v := s_ak (s_up (u) pane.toNatClampNeg (p_ro (s_pn u pane.toNatClampNeg), (p_sa (s_pn u pane.toNatClampNeg)), (p_cp (s_pn u pane.toNatClampNeg)), ((p_po (s_pn u pane.toNatClampNeg)) - 1), (p_li (s_pn u pane.toNatClampNeg)), (p_mk (s_pn u pane.toNatClampNeg)), (p_rd (s_pn u pane.toNatClampNeg)))) ((s_ac u) + 1) ((s_kn u))) (by simp [s_pop, p_mv, (show ¬ p_po (s_pn u pane.toNatClampNeg) = 0 from fun q => ((s_po0' hok hi).mp q) c0_0), c0_1] <;> rfl) (z_lt3 h_ok rfl) (CI_ak (CI_pn hC hi (p_ro (s_pn u pane.toNatClampNeg), (p_sa (s_pn u pane.toNatClampNeg)), (p_cp (s_pn u pane.toNatClampNeg)), ((p_po (s_pn u pane.toNatClampNeg)) - 1), (p_li (s_pn u pane.toNatClampNeg)), (p_mk (s_pn u pane.toNatClampNeg)), (p_rd (s_pn u pane.toNatClampNeg)))) _ _)
      · rw [hr9]
        exact CP_ok (v := s_ak (s_up (u) pane.toNatClampNeg (p_ro (s_pn u pane.toNatClampNeg), (p_sa (s_pn u pane.toNatClampNeg)), (p_cp (s_pn u pane.toNatClampNeg)), ((p_po (s_pn u pane.toNatClampNeg)) - 1), (p_li (s_pn u pane.toNatClampNeg)), (-1), (p_rd (s_pn u pane.toNatClampNeg)))) ((s_ac u) + 1) ((s_kn u))) (by simp [s_pop, p_mv, (show ¬ p_po (s_pn u pane.toNatClampNeg) = 0 from fun q => ((s_po0' hok hi).mp q) c1_0), c1_1] <;> rfl) (z_lt3 h_ok rfl) (CI_ak (CI_pn hC hi (p_ro (s_pn u pane.toNatClampNeg), (p_sa (s_pn u pane.toNatClampNeg)), (p_cp (s_pn u pane.toNatClampNeg)), ((p_po (s_pn u pane.toNatClampNeg)) - 1), (p_li (s_pn u pane.toNatClampNeg)), (-1), (p_rd (s_pn u pane.toNatClampNeg)))) _ _)
      · rw [hr9]
        exact CP_ok (v := s_tdu (u) (upd (s_td u) 5 (((s_td u) 5) + 1))) (by simp [s_pop, p_mv, ((s_po0' hok hi).mpr c2_0)] <;> rfl) (z_lt3 h_ok rfl) (CI_td hC _)
    · exact fun E M' h => h.elim
  · refine z_Xi_mono (c_X3_pop_bad l G h_st hx hpa h_nip) (fun r M' h => h.elim) ?_
    rintro E M' (⟨x0_0, rfl, rfl⟩ | ⟨x1_0, rfl, rfl⟩)
    · exact CX_1 (k_1 h_bad) hC
    · exact CX_1 (k_1 h_bad) hC
theorem a_X3_at (l : Launch) (h_st : l.stackTraces = false) {G : zG} {u : sS} {x : Nat} {P RA VA : Nat → Nat} {pa sp ln rf sb : Nat} {C : zM} (hC : CI G u x P RA VA pa sp ln rf sb C) {t : Nat} (hok : s_ok t u) (pane ix : Int32) : z_Xi l G qX3_at (z_rm 12 8 48) [.ref x, .int pane, .int ix] C (CP G x pa sp ln rf sb (z_lt (z_is pane 0 5) 1) ((s_at u pane.toNatClampNeg ix, u))) (CX G x pa sp ln rf sb (z_lt (z_is pane 0 5) 1) u) := by
  obtain ⟨hx, ⟨fp, hpa, hfp⟩, hP, ⟨o9, p9, hsp⟩, hRA, hVA, hrf, hln, ⟨vb, ml, ct, n, f, hsb, hvb, hc⟩, iP, iS, iR, iV, iF⟩ := id hC
  rcases z_pc pane with ⟨h_ok, h_ip, hi⟩ | ⟨h_bad, h_nip⟩
  · refine z_Xi_mono (c_X3_at l G h_st hx hpa (hP _ hi) (hRA _ (s_row hok hi)) (hVA _ (s_row hok hi)) h_ip rfl (hfp _ hi) (s_ow hok hi)) ?_ ?_
    · rintro r M' (⟨c0_0, hr9, rfl⟩ | ⟨c1_0, hr9, rfl⟩)
      · rw [hr9]
        exact CP_ok (v := u) (by simp [s_at, c0_0] <;> rfl) (z_lt3 h_ok rfl) hC
      · rw [hr9]
        exact CP_ok (v := u) (by simp [s_at, c1_0] <;> rfl) (z_lt3 h_ok rfl) hC
    · exact fun E M' h => h.elim
  · refine z_Xi_mono (c_X3_at_bad l G h_st hx hpa h_nip) (fun r M' h => h.elim) ?_
    rintro E M' (⟨x0_0, rfl, rfl⟩ | ⟨x1_0, rfl, rfl⟩)
    · exact CX_1 (k_1 h_bad) hC
    · exact CX_1 (k_1 h_bad) hC
theorem a_X3_peek (l : Launch) (h_st : l.stackTraces = false) {G : zG} {u : sS} {x : Nat} {P RA VA : Nat → Nat} {pa sp ln rf sb : Nat} {C : zM} (hC : CI G u x P RA VA pa sp ln rf sb C) {t : Nat} (hok : s_ok t u) (pane : Int32) : z_Xi l G qX3_peek (z_rm 12 8 48) [.ref x, .int pane] C (CP G x pa sp ln rf sb (z_lt (z_is pane 0 5) 1) ((s_peek u pane.toNatClampNeg, u))) (CX G x pa sp ln rf sb (z_lt (z_is pane 0 5) 1) u) := by
  obtain ⟨hx, ⟨fp, hpa, hfp⟩, hP, ⟨o9, p9, hsp⟩, hRA, hVA, hrf, hln, ⟨vb, ml, ct, n, f, hsb, hvb, hc⟩, iP, iS, iR, iV, iF⟩ := id hC
  rcases z_pc pane with ⟨h_ok, h_ip, hi⟩ | ⟨h_bad, h_nip⟩
  · refine z_Xi_mono (c_X3_peek l G h_st hx hpa (hP _ hi) (hRA _ (s_row hok hi)) (hVA _ (s_row hok hi)) h_ip rfl (hfp _ hi) (s_ow hok hi)) ?_ ?_
    · rintro r M' (⟨c0_0, hr9, rfl⟩ | ⟨c1_0, hr9, rfl⟩)
      · rw [hr9]
        exact CP_ok (v := u) (by simp [s_peek, c0_0, ((s_left hok hi).mpr c0_0)] <;> rfl) (z_lt3 h_ok rfl) hC
      · rw [hr9]
        exact CP_ok (v := u) (by simp [s_peek, c1_0, (show ¬ p_li (s_pn u pane.toNatClampNeg) - p_po (s_pn u pane.toNatClampNeg) = 0 from fun q => c1_0 ((s_left hok hi).mp q))] <;> rfl) (z_lt3 h_ok rfl) hC
    · exact fun E M' h => h.elim
  · refine z_Xi_mono (c_X3_peek_bad l G h_st hx hpa h_nip) (fun r M' h => h.elim) ?_
    rintro E M' (⟨x0_0, rfl, rfl⟩ | ⟨x1_0, rfl, rfl⟩)
    · exact CX_1 (k_1 h_bad) hC
    · exact CX_1 (k_1 h_bad) hC
theorem a_X3_would (l : Launch) (h_st : l.stackTraces = false) {G : zG} {u : sS} {x : Nat} {P RA VA : Nat → Nat} {pa sp ln rf sb : Nat} {C : zM} (hC : CI G u x P RA VA pa sp ln rf sb C) {t : Nat} (hok : s_ok t u) (pane wh : Int32) : z_Xi l G qX3_would (z_rm 12 8 48) [.ref x, .int pane, .int wh] C (CP G x pa sp ln rf sb (z_lt (z_is pane 0 5) (z_is wh 0 3)) ((s_would u pane.toNatClampNeg wh, u))) (CX G x pa sp ln rf sb (z_lt (z_is pane 0 5) (z_is wh 0 3)) u) := by
  obtain ⟨hx, ⟨fp, hpa, hfp⟩, hP, ⟨o9, p9, hsp⟩, hRA, hVA, hrf, hln, ⟨vb, ml, ct, n, f, hsb, hvb, hc⟩, iP, iS, iR, iV, iF⟩ := id hC
  rcases z_pc pane with ⟨h_ok, h_ip, hi⟩ | ⟨h_bad, h_nip⟩
  · refine z_Xi_mono (c_X3_would l G h_st hx hpa (hP _ hi) h_ip rfl (hfp _ hi)) ?_ ?_
    · rintro r M' (⟨c0_0, c0_1, hr9, rfl⟩ | ⟨c1_0, c1_1, hr9, rfl⟩ | ⟨c2_0, c2_1, hr9, rfl⟩ | ⟨c3_0, c3_1, c3_2, hr9, rfl⟩ | ⟨c4_0, c4_1, c4_2, hr9, rfl⟩)
      · rw [hr9]
        subst c0_1
        exact CP_ok (v := u) (by simp [s_would] <;> rfl) (z_lt3 h_ok (z_is11 c0_0)) hC
      · rw [hr9]
        subst c1_1
        exact CP_ok (v := u) (by simp [s_would] <;> rfl) (z_lt3 h_ok (z_is11 c1_0)) hC
      · rw [hr9]
        subst c2_1
        exact CP_ok (v := u) (by simp [s_would] <;> rfl) (z_lt3 h_ok (z_is11 c2_0)) hC
      · rw [hr9]
        exact CP_ok (v := u) (by simp [s_would, c3_1.1, c3_1.2.1, c3_1.2.2, (z_hm0.mp c3_2)] <;> rfl) (z_lt3 h_ok (z_is11 c3_0)) hC
      · rw [hr9]
        exact CP_ok (v := u) (by simp [s_would, c4_1.1, c4_1.2.1, c4_1.2.2, (show ¬ p_mk (s_pn u pane.toNatClampNeg) = -1 from fun q => c4_2 (z_hm0.mpr q))] <;> rfl) (z_lt3 h_ok (z_is11 c4_0)) hC
    · rintro E M' ⟨x0_0, rfl, rfl⟩
      · exact CX_2 (k_2 h_ok x0_0) hC
  · refine z_Xi_mono (c_X3_would_bad l G h_st hx hpa h_nip) (fun r M' h => h.elim) ?_
    rintro E M' (⟨x0_0, rfl, rfl⟩ | ⟨x1_0, rfl, rfl⟩)
    · exact CX_1 (k_1 h_bad) hC
    · exact CX_1 (k_1 h_bad) hC
theorem a_X3_ofPane (l : Launch) (h_st : l.stackTraces = false) {G : zG} {u : sS} {x : Nat} {P RA VA : Nat → Nat} {pa sp ln rf sb : Nat} {C : zM} (hC : CI G u x P RA VA pa sp ln rf sb C) {t : Nat} (hok : s_ok t u) (pane wh : Int32) : z_Xi l G qX3_ofPane (z_rm 12 8 48) [.ref x, .int pane, .int wh] C (CP G x pa sp ln rf sb (z_lt (z_is pane 0 5) (z_is wh 0 9)) ((s_of u pane.toNatClampNeg wh, u))) (CX G x pa sp ln rf sb (z_lt (z_is pane 0 5) (z_is wh 0 9)) u) := by
  obtain ⟨hx, ⟨fp, hpa, hfp⟩, hP, ⟨o9, p9, hsp⟩, hRA, hVA, hrf, hln, ⟨vb, ml, ct, n, f, hsb, hvb, hc⟩, iP, iS, iR, iV, iF⟩ := id hC
  rcases z_pc pane with ⟨h_ok, h_ip, hi⟩ | ⟨h_bad, h_nip⟩
  · refine z_Xi_mono (c_X3_ofPane l G h_st hx hpa (hP _ hi) h_ip rfl (hfp _ hi)) ?_ ?_
    · rintro r M' (⟨c0_0, c0_1, hr9, rfl⟩ | ⟨c1_0, c1_1, hr9, rfl⟩ | ⟨c2_0, c2_1, hr9, rfl⟩ | ⟨c3_0, c3_1, hr9, rfl⟩ | ⟨c4_0, c4_1, hr9, rfl⟩ | ⟨c5_0, c5_1, c5_2, hr9, rfl⟩ | ⟨c6_0, c6_1, c6_2, hr9, rfl⟩ | ⟨c7_0, c7_1, c7_2, hr9, rfl⟩ | ⟨c8_0, c8_1, c8_2, hr9, rfl⟩ | ⟨c9_0, c9_1, c9_2, hr9, rfl⟩ | ⟨c10_0, c10_1, c10_2, hr9, rfl⟩ | ⟨c11_0, c11_1, c11_2, hr9, rfl⟩ | ⟨c12_0, c12_1, c12_2, hr9, rfl⟩ | ⟨c13_0, c13_1, hr9, rfl⟩)
      · rw [hr9]
        subst c0_1
        exact CP_ok (v := u) (by simp [s_of] <;> rfl) (z_lt3 h_ok (z_is11 c0_0)) hC
      · rw [hr9]
        subst c1_1
        exact CP_ok (v := u) (by simp [s_of] <;> rfl) (z_lt3 h_ok (z_is11 c1_0)) hC
      · rw [hr9]
        subst c2_1
        exact CP_ok (v := u) (by simp [s_of] <;> rfl) (z_lt3 h_ok (z_is11 c2_0)) hC
      · rw [hr9]
        subst c3_1
        exact CP_ok (v := u) (by simp [s_of] <;> rfl) (z_lt3 h_ok (z_is11 c3_0)) hC
      · rw [hr9]
        subst c4_1
        exact CP_ok (v := u) (by simp [s_of] <;> rfl) (z_lt3 h_ok (z_is11 c4_0)) hC
      · rw [hr9]
        subst c5_1
        exact CP_ok (v := u) (by simp [s_of, c5_2, ((s_rdn hok hi).mp c5_2)] <;> rfl) (z_lt3 h_ok (z_is11 c5_0)) hC
      · rw [hr9]
        subst c6_1
        exact CP_ok (v := u) (by simp [s_of, c6_2, ((s_rdn' hok hi).mpr c6_2)] <;> rfl) (z_lt3 h_ok (z_is11 c6_0)) hC
      · rw [hr9]
        subst c7_1
        exact CP_ok (v := u) (by simp [s_of, c7_2, ((s_left hok hi).mpr c7_2), c7_2] <;> rfl) (z_lt3 h_ok (z_is11 c7_0)) hC
      · rw [hr9]
        subst c8_1
        exact CP_ok (v := u) (by simp [s_of, c8_2, (show ¬ p_li (s_pn u pane.toNatClampNeg) - p_po (s_pn u pane.toNatClampNeg) = 0 from fun q => c8_2 ((s_left hok hi).mp q)), c8_2] <;> rfl) (z_lt3 h_ok (z_is11 c8_0)) hC
      · rw [hr9]
        subst c9_1
        exact CP_ok (v := u) (by simp [s_of, c9_2, ((s_rdn hok hi).mp c9_2)] <;> rfl) (z_lt3 h_ok (z_is11 c9_0)) hC
      · rw [hr9]
        subst c10_1
        exact CP_ok (v := u) (by simp [s_of, c10_2, ((s_rdn' hok hi).mpr c10_2)] <;> rfl) (z_lt3 h_ok (z_is11 c10_0)) hC
      · rw [hr9]
        subst c11_1
        exact CP_ok (v := u) (by simp [s_of, c11_2, ((s_rdn hok hi).mp c11_2)] <;> rfl) (z_lt3 h_ok (z_is11 c11_0)) hC
      · rw [hr9]
        subst c12_1
        exact CP_ok (v := u) (by simp [s_of, c12_2, ((s_rdn' hok hi).mpr c12_2)] <;> rfl) (z_lt3 h_ok (z_is11 c12_0)) hC
      · rw [hr9]
        exact CP_ok (v := u) (by simp [s_of, c13_1.1, c13_1.2.1, c13_1.2.2.1, c13_1.2.2.2.1, c13_1.2.2.2.2.1, c13_1.2.2.2.2.2.1, c13_1.2.2.2.2.2.2.1, c13_1.2.2.2.2.2.2.2.1, c13_1.2.2.2.2.2.2.2.2] <;> rfl) (z_lt3 h_ok (z_is11 c13_0)) hC
    · rintro E M' ⟨x0_0, rfl, rfl⟩
      · exact CX_2 (k_2 h_ok x0_0) hC
  · refine z_Xi_mono (c_X3_ofPane_bad l G h_st hx hpa h_nip) (fun r M' h => h.elim) ?_
    rintro E M' (⟨x0_0, rfl, rfl⟩ | ⟨x1_0, rfl, rfl⟩)
    · exact CX_1 (k_1 h_bad) hC
    · exact CX_1 (k_1 h_bad) hC
theorem a_X3_twin (l : Launch) (h_st : l.stackTraces = false) {G : zG} {u : sS} {x : Nat} {P RA VA : Nat → Nat} {pa sp ln rf sb : Nat} {C : zM} (hC : CI G u x P RA VA pa sp ln rf sb C) {t : Nat} (hok : s_ok t u) (pane other : Int32) : z_Xi l G qX3_twin (z_rm 12 8 48) [.ref x, .int pane, .int other] C (CP G x pa sp ln rf sb (z_lt (t_2 pane other) 1) (s_twin u pane.toNatClampNeg other.toNatClampNeg)) (CX G x pa sp ln rf sb (z_lt (t_2 pane other) 1) u) := by
  obtain ⟨hx, ⟨fp, hpa, hfp⟩, hP, ⟨o9, p9, hsp⟩, hRA, hVA, hrf, hln, ⟨vb, ml, ct, n, f, hsb, hvb, hc⟩, iP, iS, iR, iV, iF⟩ := id hC
  rcases z_pc pane with ⟨h_ok, h_ip, hi⟩ | ⟨h_bad, h_nip⟩
  · rcases z_pc other with ⟨h_ok2, h_ip2, hi2⟩ | ⟨h_bad2, h_nip2⟩
    · rw [show t_2 pane other = 1 from by unfold t_2; rw [h_ok, h_ok2]; decide]
      by_cases hij : pane.toNatClampNeg = other.toNatClampNeg
      · refine z_Xi_mono (c_X3_twin_s l G h_st hx hrf hpa (hP _ hi) h_ip rfl (hfp _ hi) h_ip2 rfl (by rw [← hij]; exact hfp _ hi) (s_rdb hok hi).1 (s_rdb hok hi).2) ?_ ?_
        · rintro r M' ⟨hr9, rfl⟩
          · rw [hr9]
            exact CP_ok (v := s_ak (s_up (u) pane.toNatClampNeg (p_ro (s_pn u pane.toNatClampNeg), (p_sa (s_pn u pane.toNatClampNeg)), (p_cp (s_pn u pane.toNatClampNeg)), (p_po (s_pn u pane.toNatClampNeg)), (p_li (s_pn u pane.toNatClampNeg)), (p_mk (s_pn u pane.toNatClampNeg)), (p_rd (s_pn u pane.toNatClampNeg)))) ((s_ac u) + 1) ((s_kn u))) (by simp [s_twin, ← hij] <;> rfl) (z_lt3 rfl rfl) (CI_ak (CI_pn hC hi (p_ro (s_pn u pane.toNatClampNeg), (p_sa (s_pn u pane.toNatClampNeg)), (p_cp (s_pn u pane.toNatClampNeg)), (p_po (s_pn u pane.toNatClampNeg)), (p_li (s_pn u pane.toNatClampNeg)), (p_mk (s_pn u pane.toNatClampNeg)), (p_rd (s_pn u pane.toNatClampNeg)))) _ _)
        · exact fun E M' h => h.elim
      · refine z_Xi_mono (c_X3_twin l G h_st hx hrf hpa (hP _ hi) (hP _ hi2) h_ip rfl (hfp _ hi) h_ip2 rfl (hfp _ hi2) (fun q => hij (iP _ _ hi hi2 q)) (s_rdb hok hi2).1 (s_rdb hok hi2).2) ?_ ?_
        · rintro r M' ⟨hr9, rfl⟩
          · rw [hr9]
            exact CP_ok (v := s_ak (s_up (u) pane.toNatClampNeg (p_ro (s_pn u other.toNatClampNeg), (p_sa (s_pn u other.toNatClampNeg)), (p_cp (s_pn u other.toNatClampNeg)), (p_po (s_pn u other.toNatClampNeg)), (p_li (s_pn u other.toNatClampNeg)), (p_mk (s_pn u other.toNatClampNeg)), (p_rd (s_pn u other.toNatClampNeg)))) ((s_ac u) + 1) ((s_kn u))) (by simp [s_twin] <;> rfl) (z_lt3 rfl rfl) (CI_ak (CI_pn hC hi (p_ro (s_pn u other.toNatClampNeg), (p_sa (s_pn u other.toNatClampNeg)), (p_cp (s_pn u other.toNatClampNeg)), (p_po (s_pn u other.toNatClampNeg)), (p_li (s_pn u other.toNatClampNeg)), (p_mk (s_pn u other.toNatClampNeg)), (p_rd (s_pn u other.toNatClampNeg)))) _ _)
        · exact fun E M' h => h.elim
    · rw [show t_2 pane other = 0 from by unfold t_2; rw [h_ok, h_bad2]; decide]
      refine z_Xi_mono (c_X3_twin_bad2 l G h_st hx hpa (hP _ hi) h_ip rfl (hfp _ hi) h_nip2) (fun r M' h => h.elim) ?_
      rintro E M' (⟨x0_0, rfl, rfl⟩ | ⟨x1_0, rfl, rfl⟩)
      · exact CX_1 (k_1 rfl) hC
      · exact CX_1 (k_1 rfl) hC
  · rw [show t_2 pane other = 0 from by unfold t_2; rw [h_bad]; exact if_pos rfl]
    refine z_Xi_mono (c_X3_twin_bad l G h_st hx hpa h_nip) (fun r M' h => h.elim) ?_
    rintro E M' (⟨x0_0, rfl, rfl⟩ | ⟨x1_0, rfl, rfl⟩)
    · exact CX_1 (k_1 rfl) hC
    · exact CX_1 (k_1 rfl) hC
theorem a_X3_reader (l : Launch) (h_st : l.stackTraces = false) {G : zG} {u : sS} {x : Nat} {P RA VA : Nat → Nat} {pa sp ln rf sb : Nat} {C : zM} (hC : CI G u x P RA VA pa sp ln rf sb C) {t : Nat} (hok : s_ok t u) (pane other : Int32) : z_Xi l G qX3_reader (z_rm 12 8 48) [.ref x, .int pane, .int other] C (CP G x pa sp ln rf sb (z_lt (t_2 pane other) 1) (s_reader u pane.toNatClampNeg other.toNatClampNeg)) (CX G x pa sp ln rf sb (z_lt (t_2 pane other) 1) u) := by
  obtain ⟨hx, ⟨fp, hpa, hfp⟩, hP, ⟨o9, p9, hsp⟩, hRA, hVA, hrf, hln, ⟨vb, ml, ct, n, f, hsb, hvb, hc⟩, iP, iS, iR, iV, iF⟩ := id hC
  rcases z_pc pane with ⟨h_ok, h_ip, hi⟩ | ⟨h_bad, h_nip⟩
  · rcases z_pc other with ⟨h_ok2, h_ip2, hi2⟩ | ⟨h_bad2, h_nip2⟩
    · rw [show t_2 pane other = 1 from by unfold t_2; rw [h_ok, h_ok2]; decide]
      by_cases hij : pane.toNatClampNeg = other.toNatClampNeg
      · refine z_Xi_mono (c_X3_reader_s l G h_st hx hrf hpa (hP _ hi) h_ip rfl (hfp _ hi) h_ip2 rfl (by rw [← hij]; exact hfp _ hi) (s_rdb hok hi).1 (s_rdb hok hi).2) ?_ ?_
        · rintro r M' ⟨hr9, rfl⟩
          · rw [hr9]
            exact CP_ok (v := s_ak (s_up (u) pane.toNatClampNeg (p_ro (s_pn u pane.toNatClampNeg), (p_sa (s_pn u pane.toNatClampNeg)), (p_cp (s_pn u pane.toNatClampNeg)), (p_po (s_pn u pane.toNatClampNeg)), (p_li (s_pn u pane.toNatClampNeg)), (p_mk (s_pn u pane.toNatClampNeg)), 1)) ((s_ac u) + 1) ((s_kn u))) (by simp [s_reader, p_rdr, ← hij] <;> rfl) (z_lt3 rfl rfl) (CI_ak (CI_pn hC hi (p_ro (s_pn u pane.toNatClampNeg), (p_sa (s_pn u pane.toNatClampNeg)), (p_cp (s_pn u pane.toNatClampNeg)), (p_po (s_pn u pane.toNatClampNeg)), (p_li (s_pn u pane.toNatClampNeg)), (p_mk (s_pn u pane.toNatClampNeg)), 1)) _ _)
        · exact fun E M' h => h.elim
      · refine z_Xi_mono (c_X3_reader l G h_st hx hrf hpa (hP _ hi) (hP _ hi2) h_ip rfl (hfp _ hi) h_ip2 rfl (hfp _ hi2) (fun q => hij (iP _ _ hi hi2 q)) (s_rdb hok hi2).1 (s_rdb hok hi2).2) ?_ ?_
        · rintro r M' ⟨hr9, rfl⟩
          · rw [hr9]
            exact CP_ok (v := s_ak (s_up (u) pane.toNatClampNeg (p_ro (s_pn u other.toNatClampNeg), (p_sa (s_pn u other.toNatClampNeg)), (p_cp (s_pn u other.toNatClampNeg)), (p_po (s_pn u other.toNatClampNeg)), (p_li (s_pn u other.toNatClampNeg)), (p_mk (s_pn u other.toNatClampNeg)), 1)) ((s_ac u) + 1) ((s_kn u))) (by simp [s_reader, p_rdr] <;> rfl) (z_lt3 rfl rfl) (CI_ak (CI_pn hC hi (p_ro (s_pn u other.toNatClampNeg), (p_sa (s_pn u other.toNatClampNeg)), (p_cp (s_pn u other.toNatClampNeg)), (p_po (s_pn u other.toNatClampNeg)), (p_li (s_pn u other.toNatClampNeg)), (p_mk (s_pn u other.toNatClampNeg)), 1)) _ _)
        · exact fun E M' h => h.elim
    · rw [show t_2 pane other = 0 from by unfold t_2; rw [h_ok, h_bad2]; decide]
      refine z_Xi_mono (c_X3_reader_bad2 l G h_st hx hpa (hP _ hi) h_ip rfl (hfp _ hi) h_nip2) (fun r M' h => h.elim) ?_
      rintro E M' (⟨x0_0, rfl, rfl⟩ | ⟨x1_0, rfl, rfl⟩)
      · exact CX_1 (k_1 rfl) hC
      · exact CX_1 (k_1 rfl) hC
  · rw [show t_2 pane other = 0 from by unfold t_2; rw [h_bad]; exact if_pos rfl]
    refine z_Xi_mono (c_X3_reader_bad l G h_st hx hpa h_nip) (fun r M' h => h.elim) ?_
    rintro E M' (⟨x0_0, rfl, rfl⟩ | ⟨x1_0, rfl, rfl⟩)
    · exact CX_1 (k_1 rfl) hC
    · exact CX_1 (k_1 rfl) hC
theorem a_X3_rest (l : Launch) (h_st : l.stackTraces = false) {G : zG} {u : sS} {x : Nat} {P RA VA : Nat → Nat} {pa sp ln rf sb : Nat} {C : zM} (hC : CI G u x P RA VA pa sp ln rf sb C) {t : Nat} (hok : s_ok t u) (pane other : Int32) : z_Xi l G qX3_rest (z_rm 12 8 48) [.ref x, .int pane, .int other] C (CP G x pa sp ln rf sb (z_lt (t_2 pane other) 1) (s_rest u pane.toNatClampNeg other.toNatClampNeg)) (CX G x pa sp ln rf sb (z_lt (t_2 pane other) 1) u) := by
  obtain ⟨hx, ⟨fp, hpa, hfp⟩, hP, ⟨o9, p9, hsp⟩, hRA, hVA, hrf, hln, ⟨vb, ml, ct, n, f, hsb, hvb, hc⟩, iP, iS, iR, iV, iF⟩ := id hC
  rcases z_pc pane with ⟨h_ok, h_ip, hi⟩ | ⟨h_bad, h_nip⟩
  · rcases z_pc other with ⟨h_ok2, h_ip2, hi2⟩ | ⟨h_bad2, h_nip2⟩
    · rw [show t_2 pane other = 1 from by unfold t_2; rw [h_ok, h_ok2]; decide]
      by_cases hij : pane.toNatClampNeg = other.toNatClampNeg
      · refine z_Xi_mono (c_X3_rest_s l G h_st hx hrf hpa (hP _ hi) h_ip rfl (hfp _ hi) h_ip2 rfl (by rw [← hij]; exact hfp _ hi) (s_rdb hok hi).1 (s_rdb hok hi).2) ?_ ?_
        · rintro r M' ⟨hr9, rfl⟩
          · rw [hr9]
            exact CP_ok (v := s_ak (s_up (u) pane.toNatClampNeg (p_ro (s_pn u pane.toNatClampNeg), ((p_sa (s_pn u pane.toNatClampNeg)) + (p_po (s_pn u pane.toNatClampNeg))), ((p_li (s_pn u pane.toNatClampNeg)) - (p_po (s_pn u pane.toNatClampNeg))), 0, ((p_li (s_pn u pane.toNatClampNeg)) - (p_po (s_pn u pane.toNatClampNeg))), (-1), (p_rd (s_pn u pane.toNatClampNeg)))) ((s_ac u) + 1) ((s_kn u))) (by simp [s_rest, p_pt, ← hij] <;> rfl) (z_lt3 rfl rfl) (CI_ak (CI_pn hC hi (p_ro (s_pn u pane.toNatClampNeg), ((p_sa (s_pn u pane.toNatClampNeg)) + (p_po (s_pn u pane.toNatClampNeg))), ((p_li (s_pn u pane.toNatClampNeg)) - (p_po (s_pn u pane.toNatClampNeg))), 0, ((p_li (s_pn u pane.toNatClampNeg)) - (p_po (s_pn u pane.toNatClampNeg))), (-1), (p_rd (s_pn u pane.toNatClampNeg)))) _ _)
        · exact fun E M' h => h.elim
      · refine z_Xi_mono (c_X3_rest l G h_st hx hrf hpa (hP _ hi) (hP _ hi2) h_ip rfl (hfp _ hi) h_ip2 rfl (hfp _ hi2) (fun q => hij (iP _ _ hi hi2 q)) (s_rdb hok hi2).1 (s_rdb hok hi2).2) ?_ ?_
        · rintro r M' ⟨hr9, rfl⟩
          · rw [hr9]
            exact CP_ok (v := s_ak (s_up (u) pane.toNatClampNeg (p_ro (s_pn u other.toNatClampNeg), ((p_sa (s_pn u other.toNatClampNeg)) + (p_po (s_pn u other.toNatClampNeg))), ((p_li (s_pn u other.toNatClampNeg)) - (p_po (s_pn u other.toNatClampNeg))), 0, ((p_li (s_pn u other.toNatClampNeg)) - (p_po (s_pn u other.toNatClampNeg))), (-1), (p_rd (s_pn u other.toNatClampNeg)))) ((s_ac u) + 1) ((s_kn u))) (by simp [s_rest, p_pt] <;> rfl) (z_lt3 rfl rfl) (CI_ak (CI_pn hC hi (p_ro (s_pn u other.toNatClampNeg), ((p_sa (s_pn u other.toNatClampNeg)) + (p_po (s_pn u other.toNatClampNeg))), ((p_li (s_pn u other.toNatClampNeg)) - (p_po (s_pn u other.toNatClampNeg))), 0, ((p_li (s_pn u other.toNatClampNeg)) - (p_po (s_pn u other.toNatClampNeg))), (-1), (p_rd (s_pn u other.toNatClampNeg)))) _ _)
        · exact fun E M' h => h.elim
    · rw [show t_2 pane other = 0 from by unfold t_2; rw [h_ok, h_bad2]; decide]
      refine z_Xi_mono (c_X3_rest_bad2 l G h_st hx hpa (hP _ hi) h_ip rfl (hfp _ hi) h_nip2) (fun r M' h => h.elim) ?_
      rintro E M' (⟨x0_0, rfl, rfl⟩ | ⟨x1_0, rfl, rfl⟩)
      · exact CX_1 (k_1 rfl) hC
      · exact CX_1 (k_1 rfl) hC
  · rw [show t_2 pane other = 0 from by unfold t_2; rw [h_bad]; exact if_pos rfl]
    refine z_Xi_mono (c_X3_rest_bad l G h_st hx hpa h_nip) (fun r M' h => h.elim) ?_
    rintro E M' (⟨x0_0, rfl, rfl⟩ | ⟨x1_0, rfl, rfl⟩)
    · exact CX_1 (k_1 rfl) hC
    · exact CX_1 (k_1 rfl) hC
theorem a_X3_part (l : Launch) (h_st : l.stackTraces = false) {G : zG} {u : sS} {x : Nat} {P RA VA : Nat → Nat} {pa sp ln rf sb : Nat} {C : zM} (hC : CI G u x P RA VA pa sp ln rf sb C) {t : Nat} (hok : s_ok t u) (pane other ix0 mn : Int32) : z_Xi l G qX3_part (z_rm 12 8 48) [.ref x, .int pane, .int other, .int ix0, .int mn] C (CP G x pa sp ln rf sb (z_lt (t_2 pane other) 1) (s_part u pane.toNatClampNeg other.toNatClampNeg ix0 mn)) (CX G x pa sp ln rf sb (z_lt (t_2 pane other) 1) u) := by
  obtain ⟨hx, ⟨fp, hpa, hfp⟩, hP, ⟨o9, p9, hsp⟩, hRA, hVA, hrf, hln, ⟨vb, ml, ct, n, f, hsb, hvb, hc⟩, iP, iS, iR, iV, iF⟩ := id hC
  rcases z_pc pane with ⟨h_ok, h_ip, hi⟩ | ⟨h_bad, h_nip⟩
  · rcases z_pc other with ⟨h_ok2, h_ip2, hi2⟩ | ⟨h_bad2, h_nip2⟩
    · rw [show t_2 pane other = 1 from by unfold t_2; rw [h_ok, h_ok2]; decide]
      by_cases hij : pane.toNatClampNeg = other.toNatClampNeg
      · refine z_Xi_mono (c_X3_part_s l G h_st hx hrf hpa (hP _ hi) h_ip rfl (hfp _ hi) h_ip2 rfl (by rw [← hij]; exact hfp _ hi) (s_rdb hok hi).1 (s_rdb hok hi).2) ?_ ?_
        · rintro r M' (⟨c0_0, hr9, rfl⟩ | ⟨c1_0, c1_1, hr9, rfl⟩ | ⟨c2_0, c2_1, hr9, rfl⟩)
          · rw [hr9]
            exact CP_ok (v := s_tdu (u) (upd (s_td u) 5 (((s_td u) 5) + 1))) (by simp [s_part, p_pt, ← hij, c0_0] <;> rfl) (z_lt3 rfl rfl) (CI_td hC _)
          · rw [hr9]
            exact CP_ok (v := s_ak (s_up (u) pane.toNatClampNeg (p_ro (s_pn u pane.toNatClampNeg), ((p_sa (s_pn u pane.toNatClampNeg)) + ix0), mn, 0, mn, (-1), (p_rd (s_pn u pane.toNatClampNeg)))) ((s_ac u) + 1) ((s_kn u))) (by simp [s_part, p_pt, ← hij, c1_0, c1_1] <;> rfl) (z_lt3 rfl rfl) (CI_ak (CI_pn hC hi (p_ro (s_pn u pane.toNatClampNeg), ((p_sa (s_pn u pane.toNatClampNeg)) + ix0), mn, 0, mn, (-1), (p_rd (s_pn u pane.toNatClampNeg)))) _ _)
          · rw [hr9]
            exact CP_ok (v := s_tdu (u) (upd (s_td u) 5 (((s_td u) 5) + 1))) (by simp [s_part, p_pt, ← hij, c2_0, c2_1] <;> rfl) (z_lt3 rfl rfl) (CI_td hC _)
        · exact fun E M' h => h.elim
      · refine z_Xi_mono (c_X3_part l G h_st hx hrf hpa (hP _ hi) (hP _ hi2) h_ip rfl (hfp _ hi) h_ip2 rfl (hfp _ hi2) (fun q => hij (iP _ _ hi hi2 q)) (s_rdb hok hi2).1 (s_rdb hok hi2).2) ?_ ?_
        · rintro r M' (⟨c0_0, hr9, rfl⟩ | ⟨c1_0, c1_1, hr9, rfl⟩ | ⟨c2_0, c2_1, hr9, rfl⟩)
          · rw [hr9]
            exact CP_ok (v := s_tdu (u) (upd (s_td u) 5 (((s_td u) 5) + 1))) (by simp [s_part, p_pt, c0_0] <;> rfl) (z_lt3 rfl rfl) (CI_td hC _)
          · rw [hr9]
            exact CP_ok (v := s_ak (s_up (u) pane.toNatClampNeg (p_ro (s_pn u other.toNatClampNeg), ((p_sa (s_pn u other.toNatClampNeg)) + ix0), mn, 0, mn, (-1), (p_rd (s_pn u other.toNatClampNeg)))) ((s_ac u) + 1) ((s_kn u))) (by simp [s_part, p_pt, c1_0, c1_1] <;> rfl) (z_lt3 rfl rfl) (CI_ak (CI_pn hC hi (p_ro (s_pn u other.toNatClampNeg), ((p_sa (s_pn u other.toNatClampNeg)) + ix0), mn, 0, mn, (-1), (p_rd (s_pn u other.toNatClampNeg)))) _ _)
          · rw [hr9]
            exact CP_ok (v := s_tdu (u) (upd (s_td u) 5 (((s_td u) 5) + 1))) (by simp [s_part, p_pt, c2_0, c2_1] <;> rfl) (z_lt3 rfl rfl) (CI_td hC _)
        · exact fun E M' h => h.elim
    · rw [show t_2 pane other = 0 from by unfold t_2; rw [h_ok, h_bad2]; decide]
      refine z_Xi_mono (c_X3_part_bad2 l G h_st hx hpa (hP _ hi) h_ip rfl (hfp _ hi) h_nip2) (fun r M' h => h.elim) ?_
      rintro E M' (⟨x0_0, rfl, rfl⟩ | ⟨x1_0, rfl, rfl⟩)
      · exact CX_1 (k_1 rfl) hC
      · exact CX_1 (k_1 rfl) hC
  · rw [show t_2 pane other = 0 from by unfold t_2; rw [h_bad]; exact if_pos rfl]
    refine z_Xi_mono (c_X3_part_bad l G h_st hx hpa h_nip) (fun r M' h => h.elim) ?_
    rintro E M' (⟨x0_0, rfl, rfl⟩ | ⟨x1_0, rfl, rfl⟩)
    · exact CX_1 (k_1 rfl) hC
    · exact CX_1 (k_1 rfl) hC
theorem a_X3_exchange (l : Launch) (h_st : l.stackTraces = false) {G : zG} {u : sS} {x : Nat} {P RA VA : Nat → Nat} {pa sp ln rf sb : Nat} {C : zM} (hC : CI G u x P RA VA pa sp ln rf sb C) {t : Nat} (hok : s_ok t u) (pane other : Int32) : z_Xi l G qX3_exchange (z_rm 12 8 48) [.ref x, .int pane, .int other] C (CP G x pa sp ln rf sb (z_lt (t_2 pane other) 1) (s_exch u pane.toNatClampNeg other.toNatClampNeg)) (CX G x pa sp ln rf sb (z_lt (t_2 pane other) 1) u) := by
  obtain ⟨hx, ⟨fp, hpa, hfp⟩, hP, ⟨o9, p9, hsp⟩, hRA, hVA, hrf, hln, ⟨vb, ml, ct, n, f, hsb, hvb, hc⟩, iP, iS, iR, iV, iF⟩ := id hC
  rcases z_pc pane with ⟨h_ok, h_ip, hi⟩ | ⟨h_bad, h_nip⟩
  · rcases z_pc other with ⟨h_ok2, h_ip2, hi2⟩ | ⟨h_bad2, h_nip2⟩
    · rw [show t_2 pane other = 1 from by unfold t_2; rw [h_ok, h_ok2]; decide]
      by_cases hij : pane.toNatClampNeg = other.toNatClampNeg
      · refine z_Xi_mono (c_X3_exchange_s l G h_st hx hrf hpa (hP _ hi) h_ip rfl (hfp _ hi) h_ip2 rfl (by rw [← hij]; exact hfp _ hi)) ?_ ?_
        · rintro r M' ⟨hr9, rfl⟩
          · rw [hr9]
            have h9 := CI_ak (CI_sw hC hi hi2 hpa) (s_ac u + 1) (s_kn u)
            rw [show P other.toNatClampNeg = P pane.toNatClampNeg from by rw [hij]] at h9
            exact CP_ok (v := s_act (s_sw u pane.toNatClampNeg other.toNatClampNeg)) (by simp [s_exch, ← hij]) (z_lt3 rfl rfl) h9
        · exact fun E M' h => h.elim
      · refine z_Xi_mono (c_X3_exchange l G h_st hx hrf hpa (hP _ hi) (hP _ hi2) h_ip rfl (hfp _ hi) h_ip2 rfl (hfp _ hi2) (fun q => hij (iP _ _ hi hi2 q))) ?_ ?_
        · rintro r M' ⟨hr9, rfl⟩
          · rw [hr9]
            exact CP_ok (v := s_act (s_sw u pane.toNatClampNeg other.toNatClampNeg)) rfl (z_lt3 rfl rfl) (CI_ak (CI_sw hC hi hi2 hpa) _ _)
        · exact fun E M' h => h.elim
    · rw [show t_2 pane other = 0 from by unfold t_2; rw [h_ok, h_bad2]; decide]
      refine z_Xi_mono (c_X3_exchange_bad2 l G h_st hx hpa (hP _ hi) h_ip rfl (hfp _ hi) h_nip2) (fun r M' h => h.elim) ?_
      rintro E M' (⟨x0_0, rfl, rfl⟩ | ⟨x1_0, rfl, rfl⟩)
      · exact CX_1 (k_1 rfl) hC
      · exact CX_1 (k_1 rfl) hC
  · rw [show t_2 pane other = 0 from by unfold t_2; rw [h_bad]; exact if_pos rfl]
    refine z_Xi_mono (c_X3_exchange_bad l G h_st hx hpa h_nip) (fun r M' h => h.elim) ?_
    rintro E M' (⟨x0_0, rfl, rfl⟩ | ⟨x1_0, rfl, rfl⟩)
    · exact CX_1 (k_1 rfl) hC
    · exact CX_1 (k_1 rfl) hC
theorem a_X3_isKin (l : Launch) (h_st : l.stackTraces = false) {G : zG} {u : sS} {x : Nat} {P RA VA : Nat → Nat} {pa sp ln rf sb : Nat} {C : zM} (hC : CI G u x P RA VA pa sp ln rf sb C) {t : Nat} (hok : s_ok t u) (pane other : Int32) : z_Xi l G qX3_isKin (z_rm 12 8 48) [.ref x, .int pane, .int other] C (CP G x pa sp ln rf sb (z_lt (t_2 pane other) 1) ((s_kin u pane.toNatClampNeg other.toNatClampNeg, u))) (CX G x pa sp ln rf sb (z_lt (t_2 pane other) 1) u) := by
  obtain ⟨hx, ⟨fp, hpa, hfp⟩, hP, ⟨o9, p9, hsp⟩, hRA, hVA, hrf, hln, ⟨vb, ml, ct, n, f, hsb, hvb, hc⟩, iP, iS, iR, iV, iF⟩ := id hC
  rcases z_pc pane with ⟨h_ok, h_ip, hi⟩ | ⟨h_bad, h_nip⟩
  · rcases z_pc other with ⟨h_ok2, h_ip2, hi2⟩ | ⟨h_bad2, h_nip2⟩
    · rw [show t_2 pane other = 1 from by unfold t_2; rw [h_ok, h_ok2]; decide]
      by_cases hij : pane.toNatClampNeg = other.toNatClampNeg
      · refine z_Xi_mono (c_X3_isKin_s l G h_st hx hpa (hP _ hi) h_ip rfl (hfp _ hi) h_ip2 rfl (by rw [← hij]; exact hfp _ hi)) ?_ ?_
        · rintro r M' (⟨c0_0, hr9, rfl⟩ | ⟨c1_0, c1_1, c1_2, hr9, rfl⟩ | ⟨c2_0, c2_1, c2_2, hr9, rfl⟩ | ⟨c3_0, c3_1, hr9, rfl⟩)
          · rw [hr9]
            exact CP_ok (v := u) (by simp [s_kin, ← hij, c0_0, ((s_rdn' hok hi).mpr c0_0)] <;> rfl) (z_lt3 rfl rfl) hC
          · exact absurd rfl c1_2
          · rw [hr9]
            exact CP_ok (v := u) (by simp [s_kin, ← hij, c2_0, ((s_rdn hok hi).mp c2_0), c2_1, ((s_rdn hok hi).mp c2_1)] <;> rfl) (z_lt3 rfl rfl) hC
          · exact absurd c3_0 c3_1
        · exact fun E M' h => h.elim
      · refine z_Xi_mono (c_X3_isKin l G h_st hx hpa (hP _ hi) (hP _ hi2) h_ip rfl (hfp _ hi) h_ip2 rfl (hfp _ hi2) (fun q => hij (iP _ _ hi hi2 q))) ?_ ?_
        · rintro r M' (⟨c0_0, hr9, rfl⟩ | ⟨c1_0, c1_1, c1_2, hr9, rfl⟩ | ⟨c2_0, c2_1, c2_2, hr9, rfl⟩ | ⟨c3_0, c3_1, hr9, rfl⟩)
          · rw [hr9]
            exact CP_ok (v := u) (by simp [s_kin, c0_0, ((s_rdn' hok hi).mpr c0_0)] <;> rfl) (z_lt3 rfl rfl) hC
          · rw [hr9]
            exact CP_ok (v := u) (by simp [s_kin, c1_0, ((s_rdn hok hi).mp c1_0), c1_1, (show ¬ p_ro (s_pn u pane.toNatClampNeg) = p_ro (s_pn u other.toNatClampNeg) from fun q => c1_2 (by rw [q]))] <;> rfl) (z_lt3 rfl rfl) hC
          · rw [hr9]
            exact CP_ok (v := u) (by simp [s_kin, c2_0, ((s_rdn hok hi).mp c2_0), c2_1, (iR _ _ (s_row hok hi) (s_row hok hi2) (Option.some.inj c2_2))] <;> rfl) (z_lt3 rfl rfl) hC
          · rw [hr9]
            exact CP_ok (v := u) (by simp [s_kin, c3_0, ((s_rdn hok hi).mp c3_0), c3_1] <;> rfl) (z_lt3 rfl rfl) hC
        · exact fun E M' h => h.elim
    · rw [show t_2 pane other = 0 from by unfold t_2; rw [h_ok, h_bad2]; decide]
      refine z_Xi_mono (c_X3_isKin_bad2 l G h_st hx hpa (hP _ hi) h_ip rfl (hfp _ hi) h_nip2) (fun r M' h => h.elim) ?_
      rintro E M' (⟨x0_0, rfl, rfl⟩ | ⟨x1_0, rfl, rfl⟩)
      · exact CX_1 (k_1 rfl) hC
      · exact CX_1 (k_1 rfl) hC
  · rw [show t_2 pane other = 0 from by unfold t_2; rw [h_bad]; exact if_pos rfl]
    refine z_Xi_mono (c_X3_isKin_bad l G h_st hx hpa h_nip) (fun r M' h => h.elim) ?_
    rintro E M' (⟨x0_0, rfl, rfl⟩ | ⟨x1_0, rfl, rfl⟩)
    · exact CX_1 (k_1 rfl) hC
    · exact CX_1 (k_1 rfl) hC
theorem a_X3_sees (l : Launch) (h_st : l.stackTraces = false) {G : zG} {u : sS} {x : Nat} {P RA VA : Nat → Nat} {pa sp ln rf sb : Nat} {C : zM} (hC : CI G u x P RA VA pa sp ln rf sb C) {t : Nat} (hok : s_ok t u) (pane ix0 other : Int32) : z_Xi l G qX3_sees (z_rm 12 8 48) [.ref x, .int pane, .int ix0, .int other] C (CP G x pa sp ln rf sb (z_lt (t_2 pane other) 1) ((s_sees u pane.toNatClampNeg ix0 other.toNatClampNeg, u))) (CX G x pa sp ln rf sb (z_lt (t_2 pane other) 1) u) := by
  obtain ⟨hx, ⟨fp, hpa, hfp⟩, hP, ⟨o9, p9, hsp⟩, hRA, hVA, hrf, hln, ⟨vb, ml, ct, n, f, hsb, hvb, hc⟩, iP, iS, iR, iV, iF⟩ := id hC
  rcases z_pc pane with ⟨h_ok, h_ip, hi⟩ | ⟨h_bad, h_nip⟩
  · rcases z_pc other with ⟨h_ok2, h_ip2, hi2⟩ | ⟨h_bad2, h_nip2⟩
    · rw [show t_2 pane other = 1 from by unfold t_2; rw [h_ok, h_ok2]; decide]
      by_cases hij : pane.toNatClampNeg = other.toNatClampNeg
      · refine z_Xi_mono (c_X3_sees_s l G h_st hx hpa (hP _ hi) h_ip rfl (hfp _ hi) h_ip2 rfl (by rw [← hij]; exact hfp _ hi)) ?_ ?_
        · rintro r M' (⟨c0_0, hr9, rfl⟩ | ⟨c1_0, c1_1, c1_2, hr9, rfl⟩ | ⟨c2_0, c2_1, c2_2, c2_3, c2_4, hr9, rfl⟩ | ⟨c3_0, c3_1, c3_2, c3_3, c3_4, hr9, rfl⟩ | ⟨c4_0, c4_1, c4_2, c4_3, hr9, rfl⟩ | ⟨c5_0, c5_1, hr9, rfl⟩)
          · rw [hr9]
            exact CP_ok (v := u) (by simp [s_sees, ← hij, c0_0, ((s_rdn' hok hi).mpr c0_0)] <;> rfl) (z_lt3 rfl rfl) hC
          · exact absurd rfl c1_2
          · rw [hr9]
            exact CP_ok (v := u) (by simp [s_sees, ← hij, c2_0, ((s_rdn hok hi).mp c2_0), c2_1, ((s_rdn hok hi).mp c2_1), c2_3, c2_4] <;> rfl) (z_lt3 rfl rfl) hC
          · rw [hr9]
            exact CP_ok (v := u) (by simp [s_sees, ← hij, c3_0, ((s_rdn hok hi).mp c3_0), c3_1, ((s_rdn hok hi).mp c3_1), c3_3, c3_4] <;> rfl) (z_lt3 rfl rfl) hC
          · rw [hr9]
            exact CP_ok (v := u) (by simp [s_sees, ← hij, c4_0, ((s_rdn hok hi).mp c4_0), c4_1, ((s_rdn hok hi).mp c4_1), c4_3] <;> rfl) (z_lt3 rfl rfl) hC
          · exact absurd c5_0 c5_1
        · exact fun E M' h => h.elim
      · refine z_Xi_mono (c_X3_sees l G h_st hx hpa (hP _ hi) (hP _ hi2) h_ip rfl (hfp _ hi) h_ip2 rfl (hfp _ hi2) (fun q => hij (iP _ _ hi hi2 q))) ?_ ?_
        · rintro r M' (⟨c0_0, hr9, rfl⟩ | ⟨c1_0, c1_1, c1_2, hr9, rfl⟩ | ⟨c2_0, c2_1, c2_2, c2_3, c2_4, hr9, rfl⟩ | ⟨c3_0, c3_1, c3_2, c3_3, c3_4, hr9, rfl⟩ | ⟨c4_0, c4_1, c4_2, c4_3, hr9, rfl⟩ | ⟨c5_0, c5_1, hr9, rfl⟩)
          · rw [hr9]
            exact CP_ok (v := u) (by simp [s_sees, c0_0, ((s_rdn' hok hi).mpr c0_0)] <;> rfl) (z_lt3 rfl rfl) hC
          · rw [hr9]
            exact CP_ok (v := u) (by simp [s_sees, c1_0, ((s_rdn hok hi).mp c1_0), c1_1, (show ¬ p_ro (s_pn u pane.toNatClampNeg) = p_ro (s_pn u other.toNatClampNeg) from fun q => c1_2 (by rw [q]))] <;> rfl) (z_lt3 rfl rfl) hC
          · rw [hr9]
            exact CP_ok (v := u) (by simp [s_sees, c2_0, ((s_rdn hok hi).mp c2_0), c2_1, (iR _ _ (s_row hok hi) (s_row hok hi2) (Option.some.inj c2_2)), c2_3, c2_4] <;> rfl) (z_lt3 rfl rfl) hC
          · rw [hr9]
            exact CP_ok (v := u) (by simp [s_sees, c3_0, ((s_rdn hok hi).mp c3_0), c3_1, (iR _ _ (s_row hok hi) (s_row hok hi2) (Option.some.inj c3_2)), c3_3, c3_4] <;> rfl) (z_lt3 rfl rfl) hC
          · rw [hr9]
            exact CP_ok (v := u) (by simp [s_sees, c4_0, ((s_rdn hok hi).mp c4_0), c4_1, (iR _ _ (s_row hok hi) (s_row hok hi2) (Option.some.inj c4_2)), c4_3] <;> rfl) (z_lt3 rfl rfl) hC
          · rw [hr9]
            exact CP_ok (v := u) (by simp [s_sees, c5_0, ((s_rdn hok hi).mp c5_0), c5_1] <;> rfl) (z_lt3 rfl rfl) hC
        · exact fun E M' h => h.elim
    · rw [show t_2 pane other = 0 from by unfold t_2; rw [h_ok, h_bad2]; decide]
      refine z_Xi_mono (c_X3_sees_bad2 l G h_st hx hpa (hP _ hi) h_ip rfl (hfp _ hi) h_nip2) (fun r M' h => h.elim) ?_
      rintro E M' (⟨x0_0, rfl, rfl⟩ | ⟨x1_0, rfl, rfl⟩)
      · exact CX_1 (k_1 rfl) hC
      · exact CX_1 (k_1 rfl) hC
  · rw [show t_2 pane other = 0 from by unfold t_2; rw [h_bad]; exact if_pos rfl]
    refine z_Xi_mono (c_X3_sees_bad l G h_st hx hpa h_nip) (fun r M' h => h.elim) ?_
    rintro E M' (⟨x0_0, rfl, rfl⟩ | ⟨x1_0, rfl, rfl⟩)
    · exact CX_1 (k_1 rfl) hC
    · exact CX_1 (k_1 rfl) hC
theorem a_X3_knock (l : Launch) {G : zG} {u : sS} {x : Nat} {P RA VA : Nat → Nat} {pa sp ln rf sb : Nat} {C : zM} (hC : CI G u x P RA VA pa sp ln rf sb C) : z_Mi l G qX3_knock (z_rm 1 0 0) [.ref x] C (CP G x pa sp ln rf sb 0 (s_kn u + 1, s_ak u (s_ac u) (s_kn u + 1))) := by
  refine z_Mi_mono (c_X3_knock l G hC.1) ?_
  rintro r M' ⟨hr9, rfl⟩
  rw [hr9]
  exact CP_ok rfl rfl (CI_ak hC _ _)
